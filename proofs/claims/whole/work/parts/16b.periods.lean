theorem dX6_become_0 : decode cX6_become 0 = .ok (.aload_n 0, 1) := by decide +kernel
theorem dX6_become_1 : decode cX6_become 1 = .ok (.getfield 9, 3) := by decide +kernel
theorem dX6_become_4 : decode cX6_become 4 = .ok (.iload_n 1, 1) := by decide +kernel
theorem dX6_become_5 : decode cX6_become 5 = .ok (.iconst 4, 1) := by decide +kernel
theorem dX6_become_6 : decode cX6_become 6 = .ok (.imul, 1) := by decide +kernel
theorem dX6_become_7 : decode cX6_become 7 = .ok (.iload_n 2, 1) := by decide +kernel
theorem dX6_become_8 : decode cX6_become 8 = .ok (.iadd, 1) := by decide +kernel
theorem dX6_become_9 : decode cX6_become 9 = .ok (.iaload, 1) := by decide +kernel
theorem dX6_become_10 : decode cX6_become 10 = .ok (.istore 4, 2) := by decide +kernel
theorem dX6_become_12 : decode cX6_become 12 = .ok (.aload_n 0, 1) := by decide +kernel
theorem dX6_become_13 : decode cX6_become 13 = .ok (.getfield 9, 3) := by decide +kernel
theorem dX6_become_16 : decode cX6_become 16 = .ok (.iload_n 1, 1) := by decide +kernel
theorem dX6_become_17 : decode cX6_become 17 = .ok (.iconst 4, 1) := by decide +kernel
theorem dX6_become_18 : decode cX6_become 18 = .ok (.imul, 1) := by decide +kernel
theorem dX6_become_19 : decode cX6_become 19 = .ok (.iload_n 2, 1) := by decide +kernel
theorem dX6_become_20 : decode cX6_become 20 = .ok (.iadd, 1) := by decide +kernel
theorem dX6_become_21 : decode cX6_become 21 = .ok (.iload_n 3, 1) := by decide +kernel
theorem dX6_become_22 : decode cX6_become 22 = .ok (.iastore, 1) := by decide +kernel
theorem dX6_become_23 : decode cX6_become 23 = .ok (.iload 4, 2) := by decide +kernel
theorem dX6_become_25 : decode cX6_become 25 = .ok (.ireturn, 1) := by decide +kernel

set_option maxHeartbeats 4000000 in
set_option maxRecDepth 100000 in
theorem c_X6_become (l : Launch) (E : Ev) {A : Nat → Prop} (ad : Nat → Nat) (hA : Oka 39 ad A) (sc : Nat → Int32) (ar : Nat → Nat → Int32) (bl : Int64) (i : Nat) (j : Nat) (v : Int32) (hi : i < 3) (hj : j < 4) : Ct l E yX6_become (.code yX6_become cX6_become 5 (some .int)) ({ frames := 0, cells := 0, slots := 0, locals := 0 }) A (cw E ad sc ar bl) [.ref (ad 7), .int (nI i), .int (nI j), .int v] (some (.int ((ar 27) (i * 4 + j)))) (cw E ad sc (va_up ar 27 (upd (ar 27) (i * 4 + j) v)) bl) := by
  refine Ct.of (lv := [(0, .ref (ad 7)), (1, .int (nI i)), (2, .int (nI j)), (3, .int v)]) (by decide +kernel) (Nat.le_of_ble_eq_true rfl) rfl ?_
  intro zp ze zs zm za zb zh zc hc
  refine g_aload_n (pc := 0) hc 0 dX6_become_0 rfl rfl ?_
  refine gf_c7_profiles (pc := 1) hc tw_116 dX6_become_1 ?_
  refine g_iload_n (pc := 4) hc 1 dX6_become_4 rfl rfl ?_
  refine g_iconst (pc := 5) (v := nI 4) hc dX6_become_5 (by decide) ?_
  refine g_imul (pc := 6) hc dX6_become_6 ?_
  refine g_topi (v := nI (i * 4)) (pk_mul i 4) ?_
  refine g_iload_n (pc := 7) hc 2 dX6_become_7 rfl rfl ?_
  refine g_iadd (pc := 8) hc dX6_become_8 ?_
  refine g_topi (v := nI ((i * 4) + j)) (nI_add (i * 4) j) ?_
  refine la_c27 (pc := 9) hc ((i * 4) + j) (rfl) (by omega) dX6_become_9 ?_
  refine g_istore (pc := 10) (lv' := [(0, .ref (ad 7)), (1, .int (nI i)), (2, .int (nI j)), (3, .int v), (4, .int ((ar 27) ((i * 4) + j)))]) hc dX6_become_10 (by decide) rfl ?_
  refine g_aload_n (pc := 12) hc 0 dX6_become_12 rfl rfl ?_
  refine gf_c7_profiles (pc := 13) hc tw_116 dX6_become_13 ?_
  refine g_iload_n (pc := 16) hc 1 dX6_become_16 rfl rfl ?_
  refine g_iconst (pc := 17) (v := nI 4) hc dX6_become_17 (by decide) ?_
  refine g_imul (pc := 18) hc dX6_become_18 ?_
  refine g_topi (v := nI (i * 4)) (pk_mul i 4) ?_
  refine g_iload_n (pc := 19) hc 2 dX6_become_19 rfl rfl ?_
  refine g_iadd (pc := 20) hc dX6_become_20 ?_
  refine g_topi (v := nI ((i * 4) + j)) (nI_add (i * 4) j) ?_
  refine g_iload_n (pc := 21) hc 3 dX6_become_21 rfl rfl ?_
  refine sa_c27 (pc := 22) hc hA ((i * 4) + j) (rfl) (by omega) dX6_become_22 ?_
  refine g_iload (pc := 23) hc 4 dX6_become_23 rfl ?_
  exact g_iret (pc := 25) hc dX6_become_25 (rfl) (rfl)

theorem dX6_tell_0 : decode cX6_tell 0 = .ok (.aload_n 0, 1) := by decide +kernel
theorem dX6_tell_1 : decode cX6_tell 1 = .ok (.getfield 15, 3) := by decide +kernel
theorem dX6_tell_4 : decode cX6_tell 4 = .ok (.iload_n 1, 1) := by decide +kernel
theorem dX6_tell_5 : decode cX6_tell 5 = .ok (.iload_n 2, 1) := by decide +kernel
theorem dX6_tell_6 : decode cX6_tell 6 = .ok (.iastore, 1) := by decide +kernel
theorem dX6_tell_7 : decode cX6_tell 7 = .ok (.return_, 1) := by decide +kernel

set_option maxHeartbeats 4000000 in
set_option maxRecDepth 100000 in
theorem c_X6_tell (l : Launch) (E : Ev) {A : Nat → Prop} (ad : Nat → Nat) (hA : Oka 39 ad A) (sc : Nat → Int32) (ar : Nat → Nat → Int32) (bl : Int64) (j : Nat) (v : Int32) (hj : j < 4) : Ct l E yX6_tell (.code yX6_tell cX6_tell 3 none) ({ frames := 0, cells := 0, slots := 0, locals := 0 }) A (cw E ad sc ar bl) [.ref (ad 7), .int (nI j), .int v] (none) (cw E ad sc (va_up ar 28 (upd (ar 28) j v)) bl) := by
  refine Ct.of (lv := [(0, .ref (ad 7)), (1, .int (nI j)), (2, .int v)]) (by decide +kernel) (Nat.le_of_ble_eq_true rfl) rfl ?_
  intro zp ze zs zm za zb zh zc hc
  refine g_aload_n (pc := 0) hc 0 dX6_tell_0 rfl rfl ?_
  refine gf_c7_counted (pc := 1) hc tw_117 dX6_tell_1 ?_
  refine g_iload_n (pc := 4) hc 1 dX6_tell_4 rfl rfl ?_
  refine g_iload_n (pc := 5) hc 2 dX6_tell_5 rfl rfl ?_
  refine sa_c28 (pc := 6) hc hA (j) (rfl) (by omega) dX6_tell_6 ?_
  exact g_vret (pc := 7) hc dX6_tell_7 rfl (rfl)

theorem dX6_misfit_0 : decode cX6_misfit 0 = .ok (.lconst 0, 1) := by decide +kernel
theorem dX6_misfit_1 : decode cX6_misfit 1 = .ok (.lstore 4, 2) := by decide +kernel
theorem dX6_misfit_3 : decode cX6_misfit 3 = .ok (.iconst 0, 1) := by decide +kernel
theorem dX6_misfit_4 : decode cX6_misfit 4 = .ok (.istore 6, 2) := by decide +kernel
theorem dX6_misfit_6 : decode cX6_misfit 6 = .ok (.iload 6, 2) := by decide +kernel
theorem dX6_misfit_8 : decode cX6_misfit 8 = .ok (.iconst 4, 1) := by decide +kernel
theorem dX6_misfit_9 : decode cX6_misfit 9 = .ok (.if_icmp .ge 67, 3) := by decide +kernel
theorem dX6_misfit_12 : decode cX6_misfit 12 = .ok (.bipush 20, 2) := by decide +kernel
theorem dX6_misfit_14 : decode cX6_misfit 14 = .ok (.aload_n 0, 1) := by decide +kernel
theorem dX6_misfit_15 : decode cX6_misfit 15 = .ok (.getfield 15, 3) := by decide +kernel
theorem dX6_misfit_18 : decode cX6_misfit 18 = .ok (.iload 6, 2) := by decide +kernel
theorem dX6_misfit_20 : decode cX6_misfit 20 = .ok (.iaload, 1) := by decide +kernel
theorem dX6_misfit_21 : decode cX6_misfit 21 = .ok (.imul, 1) := by decide +kernel
theorem dX6_misfit_22 : decode cX6_misfit 22 = .ok (.iload_n 1, 1) := by decide +kernel
theorem dX6_misfit_23 : decode cX6_misfit 23 = .ok (.aload_n 0, 1) := by decide +kernel
theorem dX6_misfit_24 : decode cX6_misfit 24 = .ok (.getfield 9, 3) := by decide +kernel
theorem dX6_misfit_27 : decode cX6_misfit 27 = .ok (.iload 6, 2) := by decide +kernel
theorem dX6_misfit_29 : decode cX6_misfit 29 = .ok (.iaload, 1) := by decide +kernel
theorem dX6_misfit_30 : decode cX6_misfit 30 = .ok (.imul, 1) := by decide +kernel
theorem dX6_misfit_31 : decode cX6_misfit 31 = .ok (.isub, 1) := by decide +kernel
theorem dX6_misfit_32 : decode cX6_misfit 32 = .ok (.iload_n 2, 1) := by decide +kernel
theorem dX6_misfit_33 : decode cX6_misfit 33 = .ok (.aload_n 0, 1) := by decide +kernel
theorem dX6_misfit_34 : decode cX6_misfit 34 = .ok (.getfield 9, 3) := by decide +kernel
theorem dX6_misfit_37 : decode cX6_misfit 37 = .ok (.iconst 4, 1) := by decide +kernel
theorem dX6_misfit_38 : decode cX6_misfit 38 = .ok (.iload 6, 2) := by decide +kernel
theorem dX6_misfit_40 : decode cX6_misfit 40 = .ok (.iadd, 1) := by decide +kernel
theorem dX6_misfit_41 : decode cX6_misfit 41 = .ok (.iaload, 1) := by decide +kernel
theorem dX6_misfit_42 : decode cX6_misfit 42 = .ok (.imul, 1) := by decide +kernel
theorem dX6_misfit_43 : decode cX6_misfit 43 = .ok (.isub, 1) := by decide +kernel
theorem dX6_misfit_44 : decode cX6_misfit 44 = .ok (.iload_n 3, 1) := by decide +kernel
theorem dX6_misfit_45 : decode cX6_misfit 45 = .ok (.aload_n 0, 1) := by decide +kernel
theorem dX6_misfit_46 : decode cX6_misfit 46 = .ok (.getfield 9, 3) := by decide +kernel
theorem dX6_misfit_49 : decode cX6_misfit 49 = .ok (.bipush 8, 2) := by decide +kernel
theorem dX6_misfit_51 : decode cX6_misfit 51 = .ok (.iload 6, 2) := by decide +kernel
theorem dX6_misfit_53 : decode cX6_misfit 53 = .ok (.iadd, 1) := by decide +kernel
theorem dX6_misfit_54 : decode cX6_misfit 54 = .ok (.iaload, 1) := by decide +kernel
theorem dX6_misfit_55 : decode cX6_misfit 55 = .ok (.imul, 1) := by decide +kernel
theorem dX6_misfit_56 : decode cX6_misfit 56 = .ok (.isub, 1) := by decide +kernel
theorem dX6_misfit_57 : decode cX6_misfit 57 = .ok (.i2l, 1) := by decide +kernel
theorem dX6_misfit_58 : decode cX6_misfit 58 = .ok (.lstore 7, 2) := by decide +kernel
theorem dX6_misfit_60 : decode cX6_misfit 60 = .ok (.lload 4, 2) := by decide +kernel
theorem dX6_misfit_62 : decode cX6_misfit 62 = .ok (.lload 7, 2) := by decide +kernel
theorem dX6_misfit_64 : decode cX6_misfit 64 = .ok (.lload 7, 2) := by decide +kernel
theorem dX6_misfit_66 : decode cX6_misfit 66 = .ok (.lmul, 1) := by decide +kernel
theorem dX6_misfit_67 : decode cX6_misfit 67 = .ok (.ladd, 1) := by decide +kernel
theorem dX6_misfit_68 : decode cX6_misfit 68 = .ok (.lstore 4, 2) := by decide +kernel
theorem dX6_misfit_70 : decode cX6_misfit 70 = .ok (.iinc 6 1, 3) := by decide +kernel
theorem dX6_misfit_73 : decode cX6_misfit 73 = .ok (.goto (-67), 3) := by decide +kernel
theorem dX6_misfit_76 : decode cX6_misfit 76 = .ok (.lload 4, 2) := by decide +kernel
theorem dX6_misfit_78 : decode cX6_misfit 78 = .ok (.lreturn, 1) := by decide +kernel

set_option maxHeartbeats 4000000 in
set_option maxRecDepth 100000 in
theorem c_X6_misfit (l : Launch) (E : Ev) {A : Nat → Prop} (ad : Nat → Nat) (hA : Oka 39 ad A) (sc : Nat → Int32) (ar : Nat → Nat → Int32) (bl : Int64) (a : Nat) (b : Nat) (c : Nat) : Ct l E yX6_misfit (.code yX6_misfit cX6_misfit 9 (some .long)) ({ frames := 0, cells := 0, slots := 0, locals := 0 }) A (cw E ad sc ar bl) [.ref (ad 7), .int (nI a), .int (nI b), .int (nI c)] (some (.long (mis (ar 28) (ar 27) a b c 4))) (cw E ad sc ar bl) := by
  refine Ct.of (lv := [(0, .ref (ad 7)), (1, .int (nI a)), (2, .int (nI b)), (3, .int (nI c))]) (by decide +kernel) (Nat.le_of_ble_eq_true rfl) rfl ?_
  intro zp ze zs zm za zb zh zc hc
  refine g_lconst (pc := 0) (v := 0) hc dX6_misfit_0 (by decide) ?_
  refine g_lstore (pc := 1) (lv' := [(0, .ref (ad 7)), (1, .int (nI a)), (2, .int (nI b)), (3, .int (nI c)), (4, .long 0)]) hc dX6_misfit_1 (by decide) rfl ?_
  refine g_iconst (pc := 3) (v := nI 0) hc dX6_misfit_3 (by decide) ?_
  refine g_istore (pc := 4) (lv' := [(0, .ref (ad 7)), (1, .int (nI a)), (2, .int (nI b)), (3, .int (nI c)), (4, .long 0), (6, .int (nI 0))]) hc dX6_misfit_4 (by decide) rfl ?_
  have L6_1 : ∀ (kk k : Nat), k + kk = 4 → G zp l ze ({ frames := 0, cells := 0, slots := 0, locals := 0 }) zs zm za zb zh zc 0 0 (MQ zb (Qz E A (some (.long (mis (ar 28) (ar 27) a b c 4))) (cw E ad sc ar bl)) za zs 0 0 A) E A 9 (cw E ad sc ar bl) (6) [(0, .ref (ad 7)), (1, .int (nI a)), (2, .int (nI b)), (3, .int (nI c)), (4, .long (mis (ar 28) (ar 27) a b c (k))), (6, .int (nI (k)))] [] := by
    intro kk
    induction kk with
    | zero =>
      intro k lhk
      have lhkn : 4 = k := by omega
      subst lhkn
      refine g_iload (pc := 6) hc 5 dX6_misfit_6 rfl ?_
      refine g_iconst (pc := 8) (v := nI 4) hc dX6_misfit_8 (by decide) ?_
      refine g_icmp_ge_t (pc := 9) hc 76 dX6_misfit_9 (by decide) (nI_le (by omega) (by omega)) ?_
      refine g_lload (pc := 76) hc 4 dX6_misfit_76 rfl ?_
      exact g_lret (pc := 78) hc dX6_misfit_78 (rfl) (rfl)
    | succ kk ihk =>
      intro k lhk
      have lhkn : k < 4 := by omega
      refine g_iload (pc := 6) hc 5 dX6_misfit_6 rfl ?_
      refine g_iconst (pc := 8) (v := nI 4) hc dX6_misfit_8 (by decide) ?_
      refine g_icmp_ge_f (pc := 9) hc 76 dX6_misfit_9 (by decide) (nI_ge (by omega) (by omega)) ?_
      refine g_bipush (pc := 12) (v := nI 20) hc dX6_misfit_12 (by decide) ?_
      refine g_aload_n (pc := 14) hc 0 dX6_misfit_14 rfl rfl ?_
      refine gf_c7_counted (pc := 15) hc tw_117 dX6_misfit_15 ?_
      refine g_iload (pc := 18) hc 5 dX6_misfit_18 rfl ?_
      refine la_c28 (pc := 20) hc (k) (rfl) (by omega) dX6_misfit_20 ?_
      refine g_imul (pc := 21) hc dX6_misfit_21 ?_
      refine g_iload_n (pc := 22) hc 1 dX6_misfit_22 rfl rfl ?_
      refine g_aload_n (pc := 23) hc 0 dX6_misfit_23 rfl rfl ?_
      refine gf_c7_profiles (pc := 24) hc tw_116 dX6_misfit_24 ?_
      refine g_iload (pc := 27) hc 5 dX6_misfit_27 rfl ?_
      refine la_c27 (pc := 29) hc (k) (rfl) (by omega) dX6_misfit_29 ?_
      refine g_imul (pc := 30) hc dX6_misfit_30 ?_
      refine g_isub (pc := 31) hc dX6_misfit_31 ?_
      refine g_iload_n (pc := 32) hc 2 dX6_misfit_32 rfl rfl ?_
      refine g_aload_n (pc := 33) hc 0 dX6_misfit_33 rfl rfl ?_
      refine gf_c7_profiles (pc := 34) hc tw_116 dX6_misfit_34 ?_
      refine g_iconst (pc := 37) (v := nI 4) hc dX6_misfit_37 (by decide) ?_
      refine g_iload (pc := 38) hc 5 dX6_misfit_38 rfl ?_
      refine g_iadd (pc := 40) hc dX6_misfit_40 ?_
      refine g_topi (v := nI (4 + k)) (nI_add 4 k) ?_
      refine la_c27 (pc := 41) hc (4 + k) (rfl) (by omega) dX6_misfit_41 ?_
      refine g_imul (pc := 42) hc dX6_misfit_42 ?_
      refine g_isub (pc := 43) hc dX6_misfit_43 ?_
      refine g_iload_n (pc := 44) hc 3 dX6_misfit_44 rfl rfl ?_
      refine g_aload_n (pc := 45) hc 0 dX6_misfit_45 rfl rfl ?_
      refine gf_c7_profiles (pc := 46) hc tw_116 dX6_misfit_46 ?_
      refine g_bipush (pc := 49) (v := nI 8) hc dX6_misfit_49 (by decide) ?_
      refine g_iload (pc := 51) hc 5 dX6_misfit_51 rfl ?_
      refine g_iadd (pc := 53) hc dX6_misfit_53 ?_
      refine g_topi (v := nI (8 + k)) (nI_add 8 k) ?_
      refine la_c27 (pc := 54) hc (8 + k) (rfl) (by omega) dX6_misfit_54 ?_
      refine g_imul (pc := 55) hc dX6_misfit_55 ?_
      refine g_isub (pc := 56) hc dX6_misfit_56 ?_
      refine g_i2l (pc := 57) (v := (((((nI 20) * ((ar 28) k)) - ((nI a) * ((ar 27) k))) - ((nI b) * ((ar 27) (4 + k)))) - ((nI c) * ((ar 27) (8 + k))) : Int32).toInt64) hc dX6_misfit_57 rfl ?_
      refine g_lstore (pc := 58) (lv' := [(0, .ref (ad 7)), (1, .int (nI a)), (2, .int (nI b)), (3, .int (nI c)), (4, .long (mis (ar 28) (ar 27) a b c (k))), (6, .int (nI (k))), (7, .long (((((nI 20) * ((ar 28) k)) - ((nI a) * ((ar 27) k))) - ((nI b) * ((ar 27) (4 + k)))) - ((nI c) * ((ar 27) (8 + k))) : Int32).toInt64)]) hc dX6_misfit_58 (by decide) rfl ?_
      refine g_lload (pc := 60) hc 4 dX6_misfit_60 rfl ?_
      refine g_lload (pc := 62) hc 6 dX6_misfit_62 rfl ?_
      refine g_lload (pc := 64) hc 6 dX6_misfit_64 rfl ?_
      refine g_lmul (pc := 66) hc dX6_misfit_66 ?_
      refine g_ladd (pc := 67) hc dX6_misfit_67 ?_
      refine g_lstore (pc := 68) (lv' := [(0, .ref (ad 7)), (1, .int (nI a)), (2, .int (nI b)), (3, .int (nI c)), (6, .int (nI (k))), (7, .long (((((nI 20) * ((ar 28) k)) - ((nI a) * ((ar 27) k))) - ((nI b) * ((ar 27) (4 + k)))) - ((nI c) * ((ar 27) (8 + k))) : Int32).toInt64), (4, .long ((mis (ar 28) (ar 27) a b c (k)) + ((((((nI 20) * ((ar 28) k)) - ((nI a) * ((ar 27) k))) - ((nI b) * ((ar 27) (4 + k)))) - ((nI c) * ((ar 27) (8 + k))) : Int32).toInt64 * (((((nI 20) * ((ar 28) k)) - ((nI a) * ((ar 27) k))) - ((nI b) * ((ar 27) (4 + k)))) - ((nI c) * ((ar 27) (8 + k))) : Int32).toInt64)))]) hc dX6_misfit_68 (by decide) rfl ?_
      refine g_iinc (pc := 70) (v := nI (k + 1)) (lv' := [(0, .ref (ad 7)), (1, .int (nI a)), (2, .int (nI b)), (3, .int (nI c)), (6, .int (nI (k + 1))), (7, .long (((((nI 20) * ((ar 28) k)) - ((nI a) * ((ar 27) k))) - ((nI b) * ((ar 27) (4 + k)))) - ((nI c) * ((ar 27) (8 + k))) : Int32).toInt64), (4, .long ((mis (ar 28) (ar 27) a b c (k)) + ((((((nI 20) * ((ar 28) k)) - ((nI a) * ((ar 27) k))) - ((nI b) * ((ar 27) (4 + k)))) - ((nI c) * ((ar 27) (8 + k))) : Int32).toInt64 * (((((nI 20) * ((ar 28) k)) - ((nI a) * ((ar 27) k))) - ((nI b) * ((ar 27) (4 + k)))) - ((nI c) * ((ar 27) (8 + k))) : Int32).toInt64)))]) hc 4 dX6_misfit_70 rfl (nI_ofi k 1) (by decide) rfl ?_
      refine g_goto (pc := 73) hc 6 dX6_misfit_73 (by decide) ?_
      refine g_lv [0, 1, 2, 3, 6, 4] (lv' := [(0, .ref (ad 7)), (1, .int (nI a)), (2, .int (nI b)), (3, .int (nI c)), (4, .long ((mis (ar 28) (ar 27) a b c (k)) + ((((((nI 20) * ((ar 28) k)) - ((nI a) * ((ar 27) k))) - ((nI b) * ((ar 27) (4 + k)))) - ((nI c) * ((ar 27) (8 + k))) : Int32).toInt64 * (((((nI 20) * ((ar 28) k)) - ((nI a) * ((ar 27) k))) - ((nI b) * ((ar 27) (4 + k)))) - ((nI c) * ((ar 27) (8 + k))) : Int32).toInt64))), (6, .int (nI (k + 1)))]) rfl ?_
      exact g_eq (ws' := cw E ad sc ar bl) (lv' := [(0, .ref (ad 7)), (1, .int (nI a)), (2, .int (nI b)), (3, .int (nI c)), (4, .long (mis (ar 28) (ar 27) a b c (k + 1))), (6, .int (nI (k + 1)))]) (rfl) (rfl) rfl (ihk (k + 1) (by omega))
  exact g_eq (ws' := cw E ad sc ar bl) (lv' := [(0, .ref (ad 7)), (1, .int (nI a)), (2, .int (nI b)), (3, .int (nI c)), (4, .long (mis (ar 28) (ar 27) a b c (0))), (6, .int (nI (0)))]) (rfl) (rfl) rfl (L6_1 (4 - 0) (0) (by omega))

theorem dX6_seekBest_0 : decode cX6_seekBest 0 = .ok (.ldc2_w 24, 3) := by decide +kernel
theorem dX6_seekBest_3 : decode cX6_seekBest 3 = .ok (.lstore_n 1, 1) := by decide +kernel
theorem dX6_seekBest_4 : decode cX6_seekBest 4 = .ok (.bipush 20, 2) := by decide +kernel
theorem dX6_seekBest_6 : decode cX6_seekBest 6 = .ok (.istore_n 3, 1) := by decide +kernel
theorem dX6_seekBest_7 : decode cX6_seekBest 7 = .ok (.iload_n 3, 1) := by decide +kernel
theorem dX6_seekBest_8 : decode cX6_seekBest 8 = .ok (.ifCond .lt 88, 3) := by decide +kernel
theorem dX6_seekBest_11 : decode cX6_seekBest 11 = .ok (.bipush 20, 2) := by decide +kernel
theorem dX6_seekBest_13 : decode cX6_seekBest 13 = .ok (.iload_n 3, 1) := by decide +kernel
theorem dX6_seekBest_14 : decode cX6_seekBest 14 = .ok (.isub, 1) := by decide +kernel
theorem dX6_seekBest_15 : decode cX6_seekBest 15 = .ok (.istore 4, 2) := by decide +kernel
theorem dX6_seekBest_17 : decode cX6_seekBest 17 = .ok (.iload 4, 2) := by decide +kernel
theorem dX6_seekBest_19 : decode cX6_seekBest 19 = .ok (.ifCond .lt 71, 3) := by decide +kernel
theorem dX6_seekBest_22 : decode cX6_seekBest 22 = .ok (.aload_n 0, 1) := by decide +kernel
theorem dX6_seekBest_23 : decode cX6_seekBest 23 = .ok (.iload_n 3, 1) := by decide +kernel
theorem dX6_seekBest_24 : decode cX6_seekBest 24 = .ok (.iload 4, 2) := by decide +kernel
theorem dX6_seekBest_26 : decode cX6_seekBest 26 = .ok (.bipush 20, 2) := by decide +kernel
theorem dX6_seekBest_28 : decode cX6_seekBest 28 = .ok (.iload_n 3, 1) := by decide +kernel
theorem dX6_seekBest_29 : decode cX6_seekBest 29 = .ok (.isub, 1) := by decide +kernel
theorem dX6_seekBest_30 : decode cX6_seekBest 30 = .ok (.iload 4, 2) := by decide +kernel
theorem dX6_seekBest_32 : decode cX6_seekBest 32 = .ok (.isub, 1) := by decide +kernel
theorem dX6_seekBest_33 : decode cX6_seekBest 33 = .ok (.invokevirtual 26, 3) := by decide +kernel
theorem dX6_seekBest_36 : decode cX6_seekBest 36 = .ok (.lstore 5, 2) := by decide +kernel
theorem dX6_seekBest_38 : decode cX6_seekBest 38 = .ok (.lload_n 1, 1) := by decide +kernel
theorem dX6_seekBest_39 : decode cX6_seekBest 39 = .ok (.ldc2_w 24, 3) := by decide +kernel
theorem dX6_seekBest_42 : decode cX6_seekBest 42 = .ok (.lcmp, 1) := by decide +kernel
theorem dX6_seekBest_43 : decode cX6_seekBest 43 = .ok (.ifCond .eq 10, 3) := by decide +kernel
theorem dX6_seekBest_46 : decode cX6_seekBest 46 = .ok (.lload 5, 2) := by decide +kernel
theorem dX6_seekBest_48 : decode cX6_seekBest 48 = .ok (.lload_n 1, 1) := by decide +kernel
theorem dX6_seekBest_49 : decode cX6_seekBest 49 = .ok (.lcmp, 1) := by decide +kernel
theorem dX6_seekBest_50 : decode cX6_seekBest 50 = .ok (.ifCond .ge 34, 3) := by decide +kernel
theorem dX6_seekBest_53 : decode cX6_seekBest 53 = .ok (.lload 5, 2) := by decide +kernel
theorem dX6_seekBest_55 : decode cX6_seekBest 55 = .ok (.lstore_n 1, 1) := by decide +kernel
theorem dX6_seekBest_56 : decode cX6_seekBest 56 = .ok (.aload_n 0, 1) := by decide +kernel
theorem dX6_seekBest_57 : decode cX6_seekBest 57 = .ok (.getfield 18, 3) := by decide +kernel
theorem dX6_seekBest_60 : decode cX6_seekBest 60 = .ok (.iconst 0, 1) := by decide +kernel
theorem dX6_seekBest_61 : decode cX6_seekBest 61 = .ok (.iload_n 3, 1) := by decide +kernel
theorem dX6_seekBest_62 : decode cX6_seekBest 62 = .ok (.iastore, 1) := by decide +kernel
theorem dX6_seekBest_63 : decode cX6_seekBest 63 = .ok (.aload_n 0, 1) := by decide +kernel
theorem dX6_seekBest_64 : decode cX6_seekBest 64 = .ok (.getfield 18, 3) := by decide +kernel
theorem dX6_seekBest_67 : decode cX6_seekBest 67 = .ok (.iconst 1, 1) := by decide +kernel
theorem dX6_seekBest_68 : decode cX6_seekBest 68 = .ok (.iload 4, 2) := by decide +kernel
theorem dX6_seekBest_70 : decode cX6_seekBest 70 = .ok (.iastore, 1) := by decide +kernel
theorem dX6_seekBest_71 : decode cX6_seekBest 71 = .ok (.aload_n 0, 1) := by decide +kernel
theorem dX6_seekBest_72 : decode cX6_seekBest 72 = .ok (.getfield 18, 3) := by decide +kernel
theorem dX6_seekBest_75 : decode cX6_seekBest 75 = .ok (.iconst 2, 1) := by decide +kernel
theorem dX6_seekBest_76 : decode cX6_seekBest 76 = .ok (.bipush 20, 2) := by decide +kernel
theorem dX6_seekBest_78 : decode cX6_seekBest 78 = .ok (.iload_n 3, 1) := by decide +kernel
theorem dX6_seekBest_79 : decode cX6_seekBest 79 = .ok (.isub, 1) := by decide +kernel
theorem dX6_seekBest_80 : decode cX6_seekBest 80 = .ok (.iload 4, 2) := by decide +kernel
theorem dX6_seekBest_82 : decode cX6_seekBest 82 = .ok (.isub, 1) := by decide +kernel
theorem dX6_seekBest_83 : decode cX6_seekBest 83 = .ok (.iastore, 1) := by decide +kernel
theorem dX6_seekBest_84 : decode cX6_seekBest 84 = .ok (.iinc 4 (-1), 3) := by decide +kernel
theorem dX6_seekBest_87 : decode cX6_seekBest 87 = .ok (.goto (-70), 3) := by decide +kernel
theorem dX6_seekBest_90 : decode cX6_seekBest 90 = .ok (.iinc 3 (-1), 3) := by decide +kernel
theorem dX6_seekBest_93 : decode cX6_seekBest 93 = .ok (.goto (-86), 3) := by decide +kernel
theorem dX6_seekBest_96 : decode cX6_seekBest 96 = .ok (.return_, 1) := by decide +kernel

set_option maxHeartbeats 4000000 in
set_option maxRecDepth 100000 in
theorem c_X6_seekBest (l : Launch) (E : Ev) {A : Nat → Prop} (ad : Nat → Nat) (hA : Oka 39 ad A) (sc : Nat → Int32) (ar : Nat → Nat → Int32) (bl : Int64)  : Ct l E yX6_seekBest (.code yX6_seekBest cX6_seekBest 7 none) ({ frames := 1, cells := 0, slots := 0, locals := 28 }) A (cw E ad sc ar bl) [.ref (ad 7)] (none) (cw E ad sc (va_up ar 29 (skO (ar 28) (ar 27) (ar 29) 21).2) bl) := by
  refine Ct.of (lv := [(0, .ref (ad 7))]) (by decide +kernel) (Nat.le_of_ble_eq_true rfl) rfl ?_
  intro zp ze zs zm za zb zh zc hc
  refine g_ldc2 (pc := 0) (v := (-1)) hc tw_725 dX6_seekBest_0 ?_
  refine g_lstore_n (pc := 3) (lv' := [(0, .ref (ad 7)), (1, .long (-1))]) hc dX6_seekBest_3 rfl (by decide) rfl ?_
  refine g_bipush (pc := 4) (v := nI 20) hc dX6_seekBest_4 (by decide) ?_
  refine g_istore_n (pc := 6) (lv' := [(0, .ref (ad 7)), (1, .long (-1)), (3, .int (nI 20))]) hc dX6_seekBest_6 rfl (by decide) rfl ?_
  have L7_1 : ∀ (kt t : Nat), t + kt = 21 → G zp l ze ({ frames := 1, cells := 0, slots := 0, locals := 28 }) zs zm za zb zh zc 0 0 (MQ zb (Qz E A (none) (cw E ad sc (va_up ar 29 (skO (ar 28) (ar 27) (ar 29) 21).2) bl)) za zs 0 0 A) E A 7 (cw E ad sc (va_up ar 29 (skO (ar 28) (ar 27) (ar 29) (t)).2) bl) (7) [(0, .ref (ad 7)), (1, .long (skO (ar 28) (ar 27) (ar 29) (t)).1), (3, .int (dn 20 (t)))] [] := by
    intro kt
    induction kt with
    | zero =>
      intro t lht
      have lhtn : 21 = t := by omega
      subst lhtn
      refine g_iload_n (pc := 7) hc 2 dX6_seekBest_7 rfl rfl ?_
      refine g_if_lt_t (pc := 8) hc 96 dX6_seekBest_8 (by decide) (dn_neg (by decide)) ?_
      exact g_vret (pc := 96) hc dX6_seekBest_96 rfl (rfl)
    | succ kt iht =>
      intro t lht
      have lhtn : t < 21 := by omega
      refine g_iload_n (pc := 7) hc 2 dX6_seekBest_7 rfl rfl ?_
      refine g_if_lt_f (pc := 8) hc 96 dX6_seekBest_8 (by decide) (dn_pos (by omega) (by decide)) ?_
      refine g_eq (ws' := cw E ad sc (va_up ar 29 (skO (ar 28) (ar 27) (ar 29) (t)).2) bl) (lv' := [(0, .ref (ad 7)), (1, .long (skO (ar 28) (ar 27) (ar 29) (t)).1), (3, .int (nI (20 - t)))]) rfl (by rw [dn_eq (n := 20) (t := t) (by omega)]) rfl ?_
      refine g_bipush (pc := 11) (v := nI 20) hc dX6_seekBest_11 (by decide) ?_
      refine g_iload_n (pc := 13) hc 2 dX6_seekBest_13 rfl rfl ?_
      refine g_isub (pc := 14) hc dX6_seekBest_14 ?_
      refine g_topi (v := nI t) (by rw [pk_sub (by omega)]; congr 1; omega) ?_
      refine g_istore (pc := 15) (lv' := [(0, .ref (ad 7)), (1, .long (skO (ar 28) (ar 27) (ar 29) (t)).1), (3, .int (nI (20 - t))), (4, .int (nI t))]) hc dX6_seekBest_15 (by decide) rfl ?_
      have L17_2 : ∀ (ku u : Nat), u + ku = t + 1 → G zp l ze ({ frames := 1, cells := 0, slots := 0, locals := 28 }) zs zm za zb zh zc 0 0 (MQ zb (Qz E A (none) (cw E ad sc (va_up ar 29 (skO (ar 28) (ar 27) (ar 29) 21).2) bl)) za zs 0 0 A) E A 7 (cw E ad sc (va_up ar 29 (skI (ar 28) (ar 27) t (skO (ar 28) (ar 27) (ar 29) t) (u)).2) bl) (17) [(0, .ref (ad 7)), (1, .long (skI (ar 28) (ar 27) t (skO (ar 28) (ar 27) (ar 29) t) (u)).1), (3, .int (nI (20 - t))), (4, .int (dn t (u)))] [] := by
        intro ku
        induction ku with
        | zero =>
          intro u lhu
          have lhun : t + 1 = u := by omega
          subst lhun
          refine g_iload (pc := 17) hc 3 dX6_seekBest_17 rfl ?_
          refine g_if_lt_t (pc := 19) hc 90 dX6_seekBest_19 (by decide) (dn_neg (by omega)) ?_
          refine g_eq (ws' := cw E ad sc (va_up ar 29 (skI (ar 28) (ar 27) t (skO (ar 28) (ar 27) (ar 29) t) (t + 1)).2) bl) (lv' := [(0, .ref (ad 7)), (1, .long (skI (ar 28) (ar 27) t (skO (ar 28) (ar 27) (ar 29) t) (t + 1)).1), (3, .int (dn 20 t)), (4, .int (dn t (t + 1)))]) rfl (by rw [dn_eq (n := 20) (t := t) (by omega)]) rfl ?_
          refine g_iinc (pc := 90) (v := (dn 20 t) + Int32.ofInt (-1)) (lv' := [(0, .ref (ad 7)), (1, .long (skI (ar 28) (ar 27) t (skO (ar 28) (ar 27) (ar 29) t) (t + 1)).1), (3, .int ((dn 20 t) + Int32.ofInt (-1))), (4, .int (dn t (t + 1)))]) hc 2 dX6_seekBest_90 rfl (rfl) (by decide) rfl ?_
          refine g_goto (pc := 93) hc 7 dX6_seekBest_93 (by decide) ?_
          refine g_lv [0, 1, 2] (lv' := [(0, .ref (ad 7)), (1, .long (skI (ar 28) (ar 27) t (skO (ar 28) (ar 27) (ar 29) t) (t + 1)).1), (3, .int ((dn 20 t) + Int32.ofInt (-1)))]) rfl ?_
          exact g_eq (ws' := cw E ad sc (va_up ar 29 (skO (ar 28) (ar 27) (ar 29) (t + 1)).2) bl) (lv' := [(0, .ref (ad 7)), (1, .long (skO (ar 28) (ar 27) (ar 29) (t + 1)).1), (3, .int (dn 20 (t + 1)))]) (rfl) (by rw [dn_succ]; rfl) rfl (iht (t + 1) (by omega))
        | succ ku ihu =>
          intro u lhu
          have lhun : u < t + 1 := by omega
          refine g_iload (pc := 17) hc 3 dX6_seekBest_17 rfl ?_
          refine g_if_lt_f (pc := 19) hc 90 dX6_seekBest_19 (by decide) (dn_pos (by omega) (by omega)) ?_
          refine g_eq (ws' := cw E ad sc (va_up ar 29 (skI (ar 28) (ar 27) t (skO (ar 28) (ar 27) (ar 29) t) (u)).2) bl) (lv' := [(0, .ref (ad 7)), (1, .long (skI (ar 28) (ar 27) t (skO (ar 28) (ar 27) (ar 29) t) (u)).1), (3, .int (nI (20 - t))), (4, .int (nI (t - u)))]) rfl (by rw [dn_eq (n := t) (t := u) (by omega)]) rfl ?_
          refine g_aload_n (pc := 22) hc 0 dX6_seekBest_22 rfl rfl ?_
          refine g_iload_n (pc := 23) hc 2 dX6_seekBest_23 rfl rfl ?_
          refine g_iload (pc := 24) hc 3 dX6_seekBest_24 rfl ?_
          refine g_bipush (pc := 26) (v := nI 20) hc dX6_seekBest_26 (by decide) ?_
          refine g_iload_n (pc := 28) hc 2 dX6_seekBest_28 rfl rfl ?_
          refine g_isub (pc := 29) hc dX6_seekBest_29 ?_
          refine g_topi (v := nI t) (by rw [pk_sub (by omega)]; congr 1; omega) ?_
          refine g_iload (pc := 30) hc 3 dX6_seekBest_30 rfl ?_
          refine g_isub (pc := 32) hc dX6_seekBest_32 ?_
          refine g_topi (v := nI u) (by rw [pk_sub (by omega)]; congr 1; omega) ?_
          refine g_callVl (pc := 33) (rest := []) (As := [.int (nI (20 - t)), .int (nI (t - u)), .int (nI u)]) hc (c_X6_misfit l E ad hA sc (va_up ar 29 (skI (ar 28) (ar 27) t (skO (ar 28) (ar 27) (ar 29) t) (u)).2) bl (20 - t) (t - u) u) mi_X6_misfit tw_726 7 rfl rfl rfl rfl ⟨rfl, rfl, by decide, by decide⟩ (Nat.le_of_ble_eq_true rfl) ⟨Nat.le_refl _, Nat.le_refl _⟩ rfl dX6_seekBest_33 ?_
          refine g_topl (v := mis (ar 28) (ar 27) (20 - t) (t - u) u 4) rfl ?_
          refine g_lstore (pc := 36) (lv' := [(0, .ref (ad 7)), (1, .long (skI (ar 28) (ar 27) t (skO (ar 28) (ar 27) (ar 29) t) (u)).1), (3, .int (nI (20 - t))), (4, .int (nI (t - u))), (5, .long (mis (ar 28) (ar 27) (20 - t) (t - u) u 4))]) hc dX6_seekBest_36 (by decide) rfl ?_
          refine g_lload_n (pc := 38) hc 1 dX6_seekBest_38 rfl rfl ?_
          refine g_ldc2 (pc := 39) (v := (-1)) hc tw_725 dX6_seekBest_39 ?_
          refine g_lcmp (pc := 42) hc dX6_seekBest_42 ?_
          refine g_if_eq (pc := 43) hc 53 dX6_seekBest_43 (by decide) (fun c3 => ?_) (fun c3 => ?_)
          · refine g_lload (pc := 53) hc 4 dX6_seekBest_53 rfl ?_
            refine g_lstore_n (pc := 55) (lv' := [(0, .ref (ad 7)), (3, .int (nI (20 - t))), (4, .int (nI (t - u))), (5, .long (mis (ar 28) (ar 27) (20 - t) (t - u) u 4)), (1, .long (mis (ar 28) (ar 27) (20 - t) (t - u) u 4))]) hc dX6_seekBest_55 rfl (by decide) rfl ?_
            refine g_aload_n (pc := 56) hc 0 dX6_seekBest_56 rfl rfl ?_
            refine gf_c7_best (pc := 57) hc tw_118 dX6_seekBest_57 ?_
            refine g_iconst (pc := 60) (v := nI 0) hc dX6_seekBest_60 (by decide) ?_
            refine g_iload_n (pc := 61) hc 1 dX6_seekBest_61 rfl rfl ?_
            refine sa_c29 (pc := 62) hc hA (0) (rfl) (by omega) dX6_seekBest_62 ?_
            refine g_eq (ws' := cw E ad sc (va_up ar 29 (upd (skI (ar 28) (ar 27) t (skO (ar 28) (ar 27) (ar 29) t) (u)).2 0 (nI (20 - t)))) bl) (lv' := [(0, .ref (ad 7)), (3, .int (nI (20 - t))), (4, .int (nI (t - u))), (5, .long (mis (ar 28) (ar 27) (20 - t) (t - u) u 4)), (1, .long (mis (ar 28) (ar 27) (20 - t) (t - u) u 4))]) rfl rfl rfl ?_
            refine g_aload_n (pc := 63) hc 0 dX6_seekBest_63 rfl rfl ?_
            refine gf_c7_best (pc := 64) hc tw_118 dX6_seekBest_64 ?_
            refine g_iconst (pc := 67) (v := nI 1) hc dX6_seekBest_67 (by decide) ?_
            refine g_iload (pc := 68) hc 2 dX6_seekBest_68 rfl ?_
            refine sa_c29 (pc := 70) hc hA (1) (rfl) (by omega) dX6_seekBest_70 ?_
            refine g_eq (ws' := cw E ad sc (va_up ar 29 (upd (upd (skI (ar 28) (ar 27) t (skO (ar 28) (ar 27) (ar 29) t) (u)).2 0 (nI (20 - t))) 1 (nI (t - u)))) bl) (lv' := [(0, .ref (ad 7)), (3, .int (nI (20 - t))), (4, .int (nI (t - u))), (5, .long (mis (ar 28) (ar 27) (20 - t) (t - u) u 4)), (1, .long (mis (ar 28) (ar 27) (20 - t) (t - u) u 4))]) rfl rfl rfl ?_
            refine g_aload_n (pc := 71) hc 0 dX6_seekBest_71 rfl rfl ?_
            refine gf_c7_best (pc := 72) hc tw_118 dX6_seekBest_72 ?_
            refine g_iconst (pc := 75) (v := nI 2) hc dX6_seekBest_75 (by decide) ?_
            refine g_bipush (pc := 76) (v := nI 20) hc dX6_seekBest_76 (by decide) ?_
            refine g_iload_n (pc := 78) hc 1 dX6_seekBest_78 rfl rfl ?_
            refine g_isub (pc := 79) hc dX6_seekBest_79 ?_
            refine g_topi (v := nI t) (by rw [pk_sub (by omega)]; congr 1; omega) ?_
            refine g_iload (pc := 80) hc 2 dX6_seekBest_80 rfl ?_
            refine g_isub (pc := 82) hc dX6_seekBest_82 ?_
            refine g_topi (v := nI u) (by rw [pk_sub (by omega)]; congr 1; omega) ?_
            refine sa_c29 (pc := 83) hc hA (2) (rfl) (by omega) dX6_seekBest_83 ?_
            refine g_eq (ws' := cw E ad sc (va_up ar 29 (upd (upd (upd (skI (ar 28) (ar 27) t (skO (ar 28) (ar 27) (ar 29) t) (u)).2 0 (nI (20 - t))) 1 (nI (t - u))) 2 (nI u))) bl) (lv' := [(0, .ref (ad 7)), (3, .int (nI (20 - t))), (4, .int (nI (t - u))), (5, .long (mis (ar 28) (ar 27) (20 - t) (t - u) u 4)), (1, .long (mis (ar 28) (ar 27) (20 - t) (t - u) u 4))]) rfl rfl rfl ?_
            refine g_eq (ws' := cw E ad sc (va_up ar 29 (upd (upd (upd (skI (ar 28) (ar 27) t (skO (ar 28) (ar 27) (ar 29) t) (u)).2 0 (nI (20 - t))) 1 (nI (t - u))) 2 (nI u))) bl) (lv' := [(0, .ref (ad 7)), (3, .int (nI (20 - t))), (4, .int (dn t u)), (5, .long (mis (ar 28) (ar 27) (20 - t) (t - u) u 4)), (1, .long (mis (ar 28) (ar 27) (20 - t) (t - u) u 4))]) rfl (by rw [dn_eq (n := t) (t := u) (by omega)]) rfl ?_
            refine g_iinc (pc := 84) (v := (dn t u) + Int32.ofInt (-1)) (lv' := [(0, .ref (ad 7)), (3, .int (nI (20 - t))), (4, .int ((dn t u) + Int32.ofInt (-1))), (5, .long (mis (ar 28) (ar 27) (20 - t) (t - u) u 4)), (1, .long (mis (ar 28) (ar 27) (20 - t) (t - u) u 4))]) hc 2 dX6_seekBest_84 rfl (rfl) (by decide) rfl ?_
            refine g_goto (pc := 87) hc 17 dX6_seekBest_87 (by decide) ?_
            refine g_lv [0, 4, 1, 2] (lv' := [(0, .ref (ad 7)), (1, .long (mis (ar 28) (ar 27) (20 - t) (t - u) u 4)), (3, .int (nI (20 - t))), (4, .int ((dn t u) + Int32.ofInt (-1)))]) rfl ?_
            exact g_eq (ws' := cw E ad sc (va_up ar 29 (skI (ar 28) (ar 27) t (skO (ar 28) (ar 27) (ar 29) t) (u + 1)).2) bl) (lv' := [(0, .ref (ad 7)), (1, .long (skI (ar 28) (ar 27) t (skO (ar 28) (ar 27) (ar 29) t) (u + 1)).1), (3, .int (nI (20 - t))), (4, .int (dn t (u + 1)))]) (by rw [skI_succ]; repeat (first | rw [if_pos c3] | rw [if_neg c3]); try rfl) (by rw [dn_succ, skI_succ]; repeat (first | rw [if_pos c3] | rw [if_neg c3]); try rfl) rfl (ihu (u + 1) (by omega))
          · refine g_lload (pc := 46) hc 4 dX6_seekBest_46 rfl ?_
            refine g_lload_n (pc := 48) hc 1 dX6_seekBest_48 rfl rfl ?_
            refine g_lcmp (pc := 49) hc dX6_seekBest_49 ?_
            refine g_if_ge (pc := 50) hc 84 dX6_seekBest_50 (by decide) (fun c4 => ?_) (fun c4 => ?_)
            · refine g_eq (ws' := cw E ad sc (va_up ar 29 (skI (ar 28) (ar 27) t (skO (ar 28) (ar 27) (ar 29) t) (u)).2) bl) (lv' := [(0, .ref (ad 7)), (1, .long (skI (ar 28) (ar 27) t (skO (ar 28) (ar 27) (ar 29) t) (u)).1), (3, .int (nI (20 - t))), (4, .int (dn t u)), (5, .long (mis (ar 28) (ar 27) (20 - t) (t - u) u 4))]) rfl (by rw [dn_eq (n := t) (t := u) (by omega)]) rfl ?_
              refine g_iinc (pc := 84) (v := (dn t u) + Int32.ofInt (-1)) (lv' := [(0, .ref (ad 7)), (1, .long (skI (ar 28) (ar 27) t (skO (ar 28) (ar 27) (ar 29) t) (u)).1), (3, .int (nI (20 - t))), (4, .int ((dn t u) + Int32.ofInt (-1))), (5, .long (mis (ar 28) (ar 27) (20 - t) (t - u) u 4))]) hc 3 dX6_seekBest_84 rfl (rfl) (by decide) rfl ?_
              refine g_goto (pc := 87) hc 17 dX6_seekBest_87 (by decide) ?_
              refine g_lv [0, 1, 2, 3] (lv' := [(0, .ref (ad 7)), (1, .long (skI (ar 28) (ar 27) t (skO (ar 28) (ar 27) (ar 29) t) (u)).1), (3, .int (nI (20 - t))), (4, .int ((dn t u) + Int32.ofInt (-1)))]) rfl ?_
              exact g_eq (ws' := cw E ad sc (va_up ar 29 (skI (ar 28) (ar 27) t (skO (ar 28) (ar 27) (ar 29) t) (u + 1)).2) bl) (lv' := [(0, .ref (ad 7)), (1, .long (skI (ar 28) (ar 27) t (skO (ar 28) (ar 27) (ar 29) t) (u + 1)).1), (3, .int (nI (20 - t))), (4, .int (dn t (u + 1)))]) (by rw [skI_succ]; repeat (first | rw [if_pos c3] | rw [if_neg c3] | rw [if_pos c4] | rw [if_neg c4]); try rfl) (by rw [dn_succ, skI_succ]; repeat (first | rw [if_pos c3] | rw [if_neg c3] | rw [if_pos c4] | rw [if_neg c4]); try rfl) rfl (ihu (u + 1) (by omega))
            · refine g_lload (pc := 53) hc 4 dX6_seekBest_53 rfl ?_
              refine g_lstore_n (pc := 55) (lv' := [(0, .ref (ad 7)), (3, .int (nI (20 - t))), (4, .int (nI (t - u))), (5, .long (mis (ar 28) (ar 27) (20 - t) (t - u) u 4)), (1, .long (mis (ar 28) (ar 27) (20 - t) (t - u) u 4))]) hc dX6_seekBest_55 rfl (by decide) rfl ?_
              refine g_aload_n (pc := 56) hc 0 dX6_seekBest_56 rfl rfl ?_
              refine gf_c7_best (pc := 57) hc tw_118 dX6_seekBest_57 ?_
              refine g_iconst (pc := 60) (v := nI 0) hc dX6_seekBest_60 (by decide) ?_
              refine g_iload_n (pc := 61) hc 1 dX6_seekBest_61 rfl rfl ?_
              refine sa_c29 (pc := 62) hc hA (0) (rfl) (by omega) dX6_seekBest_62 ?_
              refine g_eq (ws' := cw E ad sc (va_up ar 29 (upd (skI (ar 28) (ar 27) t (skO (ar 28) (ar 27) (ar 29) t) (u)).2 0 (nI (20 - t)))) bl) (lv' := [(0, .ref (ad 7)), (3, .int (nI (20 - t))), (4, .int (nI (t - u))), (5, .long (mis (ar 28) (ar 27) (20 - t) (t - u) u 4)), (1, .long (mis (ar 28) (ar 27) (20 - t) (t - u) u 4))]) rfl rfl rfl ?_
              refine g_aload_n (pc := 63) hc 0 dX6_seekBest_63 rfl rfl ?_
              refine gf_c7_best (pc := 64) hc tw_118 dX6_seekBest_64 ?_
              refine g_iconst (pc := 67) (v := nI 1) hc dX6_seekBest_67 (by decide) ?_
              refine g_iload (pc := 68) hc 2 dX6_seekBest_68 rfl ?_
              refine sa_c29 (pc := 70) hc hA (1) (rfl) (by omega) dX6_seekBest_70 ?_
              refine g_eq (ws' := cw E ad sc (va_up ar 29 (upd (upd (skI (ar 28) (ar 27) t (skO (ar 28) (ar 27) (ar 29) t) (u)).2 0 (nI (20 - t))) 1 (nI (t - u)))) bl) (lv' := [(0, .ref (ad 7)), (3, .int (nI (20 - t))), (4, .int (nI (t - u))), (5, .long (mis (ar 28) (ar 27) (20 - t) (t - u) u 4)), (1, .long (mis (ar 28) (ar 27) (20 - t) (t - u) u 4))]) rfl rfl rfl ?_
              refine g_aload_n (pc := 71) hc 0 dX6_seekBest_71 rfl rfl ?_
              refine gf_c7_best (pc := 72) hc tw_118 dX6_seekBest_72 ?_
              refine g_iconst (pc := 75) (v := nI 2) hc dX6_seekBest_75 (by decide) ?_
              refine g_bipush (pc := 76) (v := nI 20) hc dX6_seekBest_76 (by decide) ?_
              refine g_iload_n (pc := 78) hc 1 dX6_seekBest_78 rfl rfl ?_
              refine g_isub (pc := 79) hc dX6_seekBest_79 ?_
              refine g_topi (v := nI t) (by rw [pk_sub (by omega)]; congr 1; omega) ?_
              refine g_iload (pc := 80) hc 2 dX6_seekBest_80 rfl ?_
              refine g_isub (pc := 82) hc dX6_seekBest_82 ?_
              refine g_topi (v := nI u) (by rw [pk_sub (by omega)]; congr 1; omega) ?_
              refine sa_c29 (pc := 83) hc hA (2) (rfl) (by omega) dX6_seekBest_83 ?_
              refine g_eq (ws' := cw E ad sc (va_up ar 29 (upd (upd (upd (skI (ar 28) (ar 27) t (skO (ar 28) (ar 27) (ar 29) t) (u)).2 0 (nI (20 - t))) 1 (nI (t - u))) 2 (nI u))) bl) (lv' := [(0, .ref (ad 7)), (3, .int (nI (20 - t))), (4, .int (nI (t - u))), (5, .long (mis (ar 28) (ar 27) (20 - t) (t - u) u 4)), (1, .long (mis (ar 28) (ar 27) (20 - t) (t - u) u 4))]) rfl rfl rfl ?_
              refine g_eq (ws' := cw E ad sc (va_up ar 29 (upd (upd (upd (skI (ar 28) (ar 27) t (skO (ar 28) (ar 27) (ar 29) t) (u)).2 0 (nI (20 - t))) 1 (nI (t - u))) 2 (nI u))) bl) (lv' := [(0, .ref (ad 7)), (3, .int (nI (20 - t))), (4, .int (dn t u)), (5, .long (mis (ar 28) (ar 27) (20 - t) (t - u) u 4)), (1, .long (mis (ar 28) (ar 27) (20 - t) (t - u) u 4))]) rfl (by rw [dn_eq (n := t) (t := u) (by omega)]) rfl ?_
              refine g_iinc (pc := 84) (v := (dn t u) + Int32.ofInt (-1)) (lv' := [(0, .ref (ad 7)), (3, .int (nI (20 - t))), (4, .int ((dn t u) + Int32.ofInt (-1))), (5, .long (mis (ar 28) (ar 27) (20 - t) (t - u) u 4)), (1, .long (mis (ar 28) (ar 27) (20 - t) (t - u) u 4))]) hc 2 dX6_seekBest_84 rfl (rfl) (by decide) rfl ?_
              refine g_goto (pc := 87) hc 17 dX6_seekBest_87 (by decide) ?_
              refine g_lv [0, 4, 1, 2] (lv' := [(0, .ref (ad 7)), (1, .long (mis (ar 28) (ar 27) (20 - t) (t - u) u 4)), (3, .int (nI (20 - t))), (4, .int ((dn t u) + Int32.ofInt (-1)))]) rfl ?_
              exact g_eq (ws' := cw E ad sc (va_up ar 29 (skI (ar 28) (ar 27) t (skO (ar 28) (ar 27) (ar 29) t) (u + 1)).2) bl) (lv' := [(0, .ref (ad 7)), (1, .long (skI (ar 28) (ar 27) t (skO (ar 28) (ar 27) (ar 29) t) (u + 1)).1), (3, .int (nI (20 - t))), (4, .int (dn t (u + 1)))]) (by rw [skI_succ]; repeat (first | rw [if_pos c3] | rw [if_neg c3] | rw [if_pos c4] | rw [if_neg c4]); try rfl) (by rw [dn_succ, skI_succ]; repeat (first | rw [if_pos c3] | rw [if_neg c3] | rw [if_pos c4] | rw [if_neg c4]); try rfl) rfl (ihu (u + 1) (by omega))
      exact g_eq (ws' := cw E ad sc (va_up ar 29 (skI (ar 28) (ar 27) t (skO (ar 28) (ar 27) (ar 29) t) (0)).2) bl) (lv' := [(0, .ref (ad 7)), (1, .long (skI (ar 28) (ar 27) t (skO (ar 28) (ar 27) (ar 29) t) (0)).1), (3, .int (nI (20 - t))), (4, .int (dn t (0)))]) (rfl) (by show _ = [_, _, _, (4, Value.int (dn t 0))]; rw [dn_eq (Nat.zero_le _)]; rfl) rfl (L17_2 (t + 1 - 0) (0) (by omega))
  exact g_eq (ws' := cw E ad sc (va_up ar 29 (skO (ar 28) (ar 27) (ar 29) (0)).2) bl) (lv' := [(0, .ref (ad 7)), (1, .long (skO (ar 28) (ar 27) (ar 29) (0)).1), (3, .int (dn 20 (0)))]) (rfl) (rfl) rfl (L7_1 (21 - 0) (0) (by omega))

theorem dX6_bestPart_0 : decode cX6_bestPart 0 = .ok (.aload_n 0, 1) := by decide +kernel
theorem dX6_bestPart_1 : decode cX6_bestPart 1 = .ok (.invokevirtual 21, 3) := by decide +kernel
theorem dX6_bestPart_4 : decode cX6_bestPart 4 = .ok (.aload_n 0, 1) := by decide +kernel
theorem dX6_bestPart_5 : decode cX6_bestPart 5 = .ok (.getfield 18, 3) := by decide +kernel
theorem dX6_bestPart_8 : decode cX6_bestPart 8 = .ok (.iload_n 1, 1) := by decide +kernel
theorem dX6_bestPart_9 : decode cX6_bestPart 9 = .ok (.iaload, 1) := by decide +kernel
theorem dX6_bestPart_10 : decode cX6_bestPart 10 = .ok (.ireturn, 1) := by decide +kernel

set_option maxHeartbeats 4000000 in
set_option maxRecDepth 100000 in
theorem c_X6_bestPart (l : Launch) (E : Ev) {A : Nat → Prop} (ad : Nat → Nat) (hA : Oka 39 ad A) (sc : Nat → Int32) (ar : Nat → Nat → Int32) (bl : Int64) (i : Nat) (hi : i < 3) : Ct l E yX6_bestPart (.code yX6_bestPart cX6_bestPart 2 (some .int)) ({ frames := 2, cells := 0, slots := 0, locals := 54 }) A (cw E ad sc ar bl) [.ref (ad 7), .int (nI i)] (some (.int ((skO (ar 28) (ar 27) (ar 29) 21).2 i))) (cw E ad sc (va_up ar 29 (skO (ar 28) (ar 27) (ar 29) 21).2) bl) := by
  refine Ct.of (lv := [(0, .ref (ad 7)), (1, .int (nI i))]) (by decide +kernel) (Nat.le_of_ble_eq_true rfl) rfl ?_
  intro zp ze zs zm za zb zh zc hc
  refine g_aload_n (pc := 0) hc 0 dX6_bestPart_0 rfl rfl ?_
  refine g_callVv (pc := 1) (rest := []) (As := []) hc (c_X6_seekBest l E ad hA sc ar bl) mi_X6_seekBest tw_721 7 rfl rfl rfl rfl ⟨rfl, rfl, by decide, by decide⟩ (Nat.le_of_ble_eq_true rfl) ⟨Nat.le_refl _, Nat.le_refl _⟩ rfl dX6_bestPart_1 ?_
  refine g_aload_n (pc := 4) hc 0 dX6_bestPart_4 rfl rfl ?_
  refine gf_c7_best (pc := 5) hc tw_118 dX6_bestPart_5 ?_
  refine g_iload_n (pc := 8) hc 1 dX6_bestPart_8 rfl rfl ?_
  refine la_c29 (pc := 9) hc (i) (rfl) (by omega) dX6_bestPart_9 ?_
  refine g_topi (v := (skO (ar 28) (ar 27) (ar 29) 21).2 i) rfl ?_
  exact g_iret (pc := 10) hc dX6_bestPart_10 (rfl) (rfl)
