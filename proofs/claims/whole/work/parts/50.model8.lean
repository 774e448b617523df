theorem dX12_far_0 : decode cX12_far 0 = .ok (.lconst 0, 1) := by decide +kernel
theorem dX12_far_1 : decode cX12_far 1 = .ok (.lstore 4, 2) := by decide +kernel
theorem dX12_far_3 : decode cX12_far 3 = .ok (.iconst 0, 1) := by decide +kernel
theorem dX12_far_4 : decode cX12_far 4 = .ok (.istore 6, 2) := by decide +kernel
theorem dX12_far_6 : decode cX12_far 6 = .ok (.iload 6, 2) := by decide +kernel
theorem dX12_far_8 : decode cX12_far 8 = .ok (.iconst 4, 1) := by decide +kernel
theorem dX12_far_9 : decode cX12_far 9 = .ok (.if_icmp .ge 70, 3) := by decide +kernel
theorem dX12_far_12 : decode cX12_far 12 = .ok (.ldc2_w 198, 3) := by decide +kernel
theorem dX12_far_15 : decode cX12_far 15 = .ok (.aload_n 0, 1) := by decide +kernel
theorem dX12_far_16 : decode cX12_far 16 = .ok (.getfield 99, 3) := by decide +kernel
theorem dX12_far_19 : decode cX12_far 19 = .ok (.iload 6, 2) := by decide +kernel
theorem dX12_far_21 : decode cX12_far 21 = .ok (.laload, 1) := by decide +kernel
theorem dX12_far_22 : decode cX12_far 22 = .ok (.lmul, 1) := by decide +kernel
theorem dX12_far_23 : decode cX12_far 23 = .ok (.iload_n 1, 1) := by decide +kernel
theorem dX12_far_24 : decode cX12_far 24 = .ok (.aload_n 0, 1) := by decide +kernel
theorem dX12_far_25 : decode cX12_far 25 = .ok (.getfield 48, 3) := by decide +kernel
theorem dX12_far_28 : decode cX12_far 28 = .ok (.iload 6, 2) := by decide +kernel
theorem dX12_far_30 : decode cX12_far 30 = .ok (.iaload, 1) := by decide +kernel
theorem dX12_far_31 : decode cX12_far 31 = .ok (.imul, 1) := by decide +kernel
theorem dX12_far_32 : decode cX12_far 32 = .ok (.i2l, 1) := by decide +kernel
theorem dX12_far_33 : decode cX12_far 33 = .ok (.lsub, 1) := by decide +kernel
theorem dX12_far_34 : decode cX12_far 34 = .ok (.iload_n 2, 1) := by decide +kernel
theorem dX12_far_35 : decode cX12_far 35 = .ok (.aload_n 0, 1) := by decide +kernel
theorem dX12_far_36 : decode cX12_far 36 = .ok (.getfield 48, 3) := by decide +kernel
theorem dX12_far_39 : decode cX12_far 39 = .ok (.iconst 4, 1) := by decide +kernel
theorem dX12_far_40 : decode cX12_far 40 = .ok (.iload 6, 2) := by decide +kernel
theorem dX12_far_42 : decode cX12_far 42 = .ok (.iadd, 1) := by decide +kernel
theorem dX12_far_43 : decode cX12_far 43 = .ok (.iaload, 1) := by decide +kernel
theorem dX12_far_44 : decode cX12_far 44 = .ok (.imul, 1) := by decide +kernel
theorem dX12_far_45 : decode cX12_far 45 = .ok (.i2l, 1) := by decide +kernel
theorem dX12_far_46 : decode cX12_far 46 = .ok (.lsub, 1) := by decide +kernel
theorem dX12_far_47 : decode cX12_far 47 = .ok (.iload_n 3, 1) := by decide +kernel
theorem dX12_far_48 : decode cX12_far 48 = .ok (.aload_n 0, 1) := by decide +kernel
theorem dX12_far_49 : decode cX12_far 49 = .ok (.getfield 48, 3) := by decide +kernel
theorem dX12_far_52 : decode cX12_far 52 = .ok (.bipush 8, 2) := by decide +kernel
theorem dX12_far_54 : decode cX12_far 54 = .ok (.iload 6, 2) := by decide +kernel
theorem dX12_far_56 : decode cX12_far 56 = .ok (.iadd, 1) := by decide +kernel
theorem dX12_far_57 : decode cX12_far 57 = .ok (.iaload, 1) := by decide +kernel
theorem dX12_far_58 : decode cX12_far 58 = .ok (.imul, 1) := by decide +kernel
theorem dX12_far_59 : decode cX12_far 59 = .ok (.i2l, 1) := by decide +kernel
theorem dX12_far_60 : decode cX12_far 60 = .ok (.lsub, 1) := by decide +kernel
theorem dX12_far_61 : decode cX12_far 61 = .ok (.lstore 7, 2) := by decide +kernel
theorem dX12_far_63 : decode cX12_far 63 = .ok (.lload 4, 2) := by decide +kernel
theorem dX12_far_65 : decode cX12_far 65 = .ok (.lload 7, 2) := by decide +kernel
theorem dX12_far_67 : decode cX12_far 67 = .ok (.lload 7, 2) := by decide +kernel
theorem dX12_far_69 : decode cX12_far 69 = .ok (.lmul, 1) := by decide +kernel
theorem dX12_far_70 : decode cX12_far 70 = .ok (.ladd, 1) := by decide +kernel
theorem dX12_far_71 : decode cX12_far 71 = .ok (.lstore 4, 2) := by decide +kernel
theorem dX12_far_73 : decode cX12_far 73 = .ok (.iinc 6 1, 3) := by decide +kernel
theorem dX12_far_76 : decode cX12_far 76 = .ok (.goto (-70), 3) := by decide +kernel
theorem dX12_far_79 : decode cX12_far 79 = .ok (.lload 4, 2) := by decide +kernel
theorem dX12_far_81 : decode cX12_far 81 = .ok (.lreturn, 1) := by decide +kernel

set_option maxHeartbeats 4000000 in
set_option maxRecDepth 100000 in
theorem c_X12_far (l : Launch) (E : Ev) {A : Nat → Prop} (ad : Nat → Nat) (hA : Oka 30 ad A) (sc : Nat → Int32) (ar : Nat → Nat → Int32) (la : Nat → Int64) (a : Nat) (b : Nat) (c : Nat) : Ct l E yX12_far (.code yX12_far cX12_far 9 (some .long)) ({ frames := 0, cells := 0, slots := 0, locals := 0 }) A (mw E ad sc ar la) [.ref (ad 0), .int (nI a), .int (nI b), .int (nI c)] (some (.long (mfa la (ar 10) a b c 4))) (mw E ad sc ar la) := by
  refine Ct.of (lv := [(0, .ref (ad 0)), (1, .int (nI a)), (2, .int (nI b)), (3, .int (nI c))]) (by decide +kernel) (Nat.le_of_ble_eq_true rfl) rfl ?_
  intro zp ze zs zm za zb zh zc hc
  refine g_lconst (pc := 0) (v := 0) hc dX12_far_0 (by decide) ?_
  refine g_lstore (pc := 1) (lv' := [(0, .ref (ad 0)), (1, .int (nI a)), (2, .int (nI b)), (3, .int (nI c)), (4, .long 0)]) hc dX12_far_1 (by decide) rfl ?_
  refine g_iconst (pc := 3) (v := nI 0) hc dX12_far_3 (by decide) ?_
  refine g_istore (pc := 4) (lv' := [(0, .ref (ad 0)), (1, .int (nI a)), (2, .int (nI b)), (3, .int (nI c)), (4, .long 0), (6, .int (nI 0))]) hc dX12_far_4 (by decide) rfl ?_
  have L6_1 : ∀ (kk k : Nat), k + kk = 4 → G zp l ze ({ frames := 0, cells := 0, slots := 0, locals := 0 }) zs zm za zb zh zc 0 0 (MQ zb (Qz E A (some (.long (mfa la (ar 10) a b c 4))) (mw E ad sc ar la)) za zs 0 0 A) E A 9 (mw E ad sc ar la) (6) [(0, .ref (ad 0)), (1, .int (nI a)), (2, .int (nI b)), (3, .int (nI c)), (4, .long (mfa la (ar 10) a b c (k))), (6, .int (nI (k)))] [] := by
    intro kk
    induction kk with
    | zero =>
      intro k lhk
      have lhkn : 4 = k := by omega
      subst lhkn
      refine g_iload (pc := 6) hc 5 dX12_far_6 rfl ?_
      refine g_iconst (pc := 8) (v := nI 4) hc dX12_far_8 (by decide) ?_
      refine g_icmp_ge_t (pc := 9) hc 79 dX12_far_9 (by decide) (nI_le (by omega) (by omega)) ?_
      refine g_lload (pc := 79) hc 4 dX12_far_79 rfl ?_
      exact g_lret (pc := 81) hc dX12_far_81 (rfl) (rfl)
    | succ kk ihk =>
      intro k lhk
      have lhkn : k < 4 := by omega
      refine g_iload (pc := 6) hc 5 dX12_far_6 rfl ?_
      refine g_iconst (pc := 8) (v := nI 4) hc dX12_far_8 (by decide) ?_
      refine g_icmp_ge_f (pc := 9) hc 79 dX12_far_9 (by decide) (nI_ge (by omega) (by omega)) ?_
      refine g_ldc2 (pc := 12) (v := 20) hc tw_1303 dX12_far_12 ?_
      refine g_aload_n (pc := 15) hc 0 dX12_far_15 rfl rfl ?_
      refine gf_m0_counted (pc := 16) hc tw_1036 dX12_far_16 ?_
      refine g_iload (pc := 19) hc 5 dX12_far_19 rfl ?_
      refine la_m27 (pc := 21) hc (k) (rfl) (by omega) dX12_far_21 ?_
      refine g_lmul (pc := 22) hc dX12_far_22 ?_
      refine g_iload_n (pc := 23) hc 1 dX12_far_23 rfl rfl ?_
      refine g_aload_n (pc := 24) hc 0 dX12_far_24 rfl rfl ?_
      refine gf_m0_profile (pc := 25) hc tw_1017 dX12_far_25 ?_
      refine g_iload (pc := 28) hc 5 dX12_far_28 rfl ?_
      refine la_m10 (pc := 30) hc (k) (rfl) (by omega) dX12_far_30 ?_
      refine g_imul (pc := 31) hc dX12_far_31 ?_
      refine g_i2l (pc := 32) (v := ((nI a) * ((ar 10) k) : Int32).toInt64) hc dX12_far_32 rfl ?_
      refine g_lsub (pc := 33) hc dX12_far_33 ?_
      refine g_iload_n (pc := 34) hc 2 dX12_far_34 rfl rfl ?_
      refine g_aload_n (pc := 35) hc 0 dX12_far_35 rfl rfl ?_
      refine gf_m0_profile (pc := 36) hc tw_1017 dX12_far_36 ?_
      refine g_iconst (pc := 39) (v := nI 4) hc dX12_far_39 (by decide) ?_
      refine g_iload (pc := 40) hc 5 dX12_far_40 rfl ?_
      refine g_iadd (pc := 42) hc dX12_far_42 ?_
      refine g_topi (v := nI (4 + k)) (nI_add 4 k) ?_
      refine la_m10 (pc := 43) hc (4 + k) (rfl) (by omega) dX12_far_43 ?_
      refine g_imul (pc := 44) hc dX12_far_44 ?_
      refine g_i2l (pc := 45) (v := ((nI b) * ((ar 10) (4 + k)) : Int32).toInt64) hc dX12_far_45 rfl ?_
      refine g_lsub (pc := 46) hc dX12_far_46 ?_
      refine g_iload_n (pc := 47) hc 3 dX12_far_47 rfl rfl ?_
      refine g_aload_n (pc := 48) hc 0 dX12_far_48 rfl rfl ?_
      refine gf_m0_profile (pc := 49) hc tw_1017 dX12_far_49 ?_
      refine g_bipush (pc := 52) (v := nI 8) hc dX12_far_52 (by decide) ?_
      refine g_iload (pc := 54) hc 5 dX12_far_54 rfl ?_
      refine g_iadd (pc := 56) hc dX12_far_56 ?_
      refine g_topi (v := nI (8 + k)) (nI_add 8 k) ?_
      refine la_m10 (pc := 57) hc (8 + k) (rfl) (by omega) dX12_far_57 ?_
      refine g_imul (pc := 58) hc dX12_far_58 ?_
      refine g_i2l (pc := 59) (v := ((nI c) * ((ar 10) (8 + k)) : Int32).toInt64) hc dX12_far_59 rfl ?_
      refine g_lsub (pc := 60) hc dX12_far_60 ?_
      refine g_lstore (pc := 61) (lv' := [(0, .ref (ad 0)), (1, .int (nI a)), (2, .int (nI b)), (3, .int (nI c)), (4, .long (mfa la (ar 10) a b c (k))), (6, .int (nI (k))), (7, .long ((((20 * (la k)) - ((nI a) * ((ar 10) k) : Int32).toInt64) - ((nI b) * ((ar 10) (4 + k)) : Int32).toInt64) - ((nI c) * ((ar 10) (8 + k)) : Int32).toInt64))]) hc dX12_far_61 (by decide) rfl ?_
      refine g_lload (pc := 63) hc 4 dX12_far_63 rfl ?_
      refine g_lload (pc := 65) hc 6 dX12_far_65 rfl ?_
      refine g_lload (pc := 67) hc 6 dX12_far_67 rfl ?_
      refine g_lmul (pc := 69) hc dX12_far_69 ?_
      refine g_ladd (pc := 70) hc dX12_far_70 ?_
      refine g_lstore (pc := 71) (lv' := [(0, .ref (ad 0)), (1, .int (nI a)), (2, .int (nI b)), (3, .int (nI c)), (6, .int (nI (k))), (7, .long ((((20 * (la k)) - ((nI a) * ((ar 10) k) : Int32).toInt64) - ((nI b) * ((ar 10) (4 + k)) : Int32).toInt64) - ((nI c) * ((ar 10) (8 + k)) : Int32).toInt64)), (4, .long ((mfa la (ar 10) a b c (k)) + (((((20 * (la k)) - ((nI a) * ((ar 10) k) : Int32).toInt64) - ((nI b) * ((ar 10) (4 + k)) : Int32).toInt64) - ((nI c) * ((ar 10) (8 + k)) : Int32).toInt64) * ((((20 * (la k)) - ((nI a) * ((ar 10) k) : Int32).toInt64) - ((nI b) * ((ar 10) (4 + k)) : Int32).toInt64) - ((nI c) * ((ar 10) (8 + k)) : Int32).toInt64))))]) hc dX12_far_71 (by decide) rfl ?_
      refine g_iinc (pc := 73) (v := nI (k + 1)) (lv' := [(0, .ref (ad 0)), (1, .int (nI a)), (2, .int (nI b)), (3, .int (nI c)), (6, .int (nI (k + 1))), (7, .long ((((20 * (la k)) - ((nI a) * ((ar 10) k) : Int32).toInt64) - ((nI b) * ((ar 10) (4 + k)) : Int32).toInt64) - ((nI c) * ((ar 10) (8 + k)) : Int32).toInt64)), (4, .long ((mfa la (ar 10) a b c (k)) + (((((20 * (la k)) - ((nI a) * ((ar 10) k) : Int32).toInt64) - ((nI b) * ((ar 10) (4 + k)) : Int32).toInt64) - ((nI c) * ((ar 10) (8 + k)) : Int32).toInt64) * ((((20 * (la k)) - ((nI a) * ((ar 10) k) : Int32).toInt64) - ((nI b) * ((ar 10) (4 + k)) : Int32).toInt64) - ((nI c) * ((ar 10) (8 + k)) : Int32).toInt64))))]) hc 4 dX12_far_73 rfl (nI_ofi k 1) (by decide) rfl ?_
      refine g_goto (pc := 76) hc 6 dX12_far_76 (by decide) ?_
      refine g_lv [0, 1, 2, 3, 6, 4] (lv' := [(0, .ref (ad 0)), (1, .int (nI a)), (2, .int (nI b)), (3, .int (nI c)), (4, .long ((mfa la (ar 10) a b c (k)) + (((((20 * (la k)) - ((nI a) * ((ar 10) k) : Int32).toInt64) - ((nI b) * ((ar 10) (4 + k)) : Int32).toInt64) - ((nI c) * ((ar 10) (8 + k)) : Int32).toInt64) * ((((20 * (la k)) - ((nI a) * ((ar 10) k) : Int32).toInt64) - ((nI b) * ((ar 10) (4 + k)) : Int32).toInt64) - ((nI c) * ((ar 10) (8 + k)) : Int32).toInt64)))), (6, .int (nI (k + 1)))]) rfl ?_
      exact g_eq (ws' := mw E ad sc ar la) (lv' := [(0, .ref (ad 0)), (1, .int (nI a)), (2, .int (nI b)), (3, .int (nI c)), (4, .long (mfa la (ar 10) a b c (k + 1))), (6, .int (nI (k + 1)))]) (rfl) (rfl) rfl (ihk (k + 1) (by omega))
  exact g_eq (ws' := mw E ad sc ar la) (lv' := [(0, .ref (ad 0)), (1, .int (nI a)), (2, .int (nI b)), (3, .int (nI c)), (4, .long (mfa la (ar 10) a b c (0))), (6, .int (nI (0)))]) (rfl) (rfl) rfl (L6_1 (4 - 0) (0) (by omega))

theorem dX12_mixed_0 : decode cX12_mixed 0 = .ok (.iload_n 1, 1) := by decide +kernel
theorem dX12_mixed_1 : decode cX12_mixed 1 = .ok (.iconst 0, 1) := by decide +kernel
theorem dX12_mixed_2 : decode cX12_mixed 2 = .ok (.iconst 2, 1) := by decide +kernel
theorem dX12_mixed_3 : decode cX12_mixed 3 = .ok (.invokestatic 113, 3) := by decide +kernel
theorem dX12_mixed_6 : decode cX12_mixed 6 = .ok (.ifCond .ne 6, 3) := by decide +kernel
theorem dX12_mixed_9 : decode cX12_mixed 9 = .ok (.ldc 120, 2) := by decide +kernel
theorem dX12_mixed_11 : decode cX12_mixed 11 = .ok (.ireturn, 1) := by decide +kernel
theorem dX12_mixed_12 : decode cX12_mixed 12 = .ok (.iconst 0, 1) := by decide +kernel
theorem dX12_mixed_13 : decode cX12_mixed 13 = .ok (.istore_n 2, 1) := by decide +kernel
theorem dX12_mixed_14 : decode cX12_mixed 14 = .ok (.iload_n 2, 1) := by decide +kernel
theorem dX12_mixed_15 : decode cX12_mixed 15 = .ok (.iconst 4, 1) := by decide +kernel
theorem dX12_mixed_16 : decode cX12_mixed 16 = .ok (.if_icmp .ge 16, 3) := by decide +kernel
theorem dX12_mixed_19 : decode cX12_mixed 19 = .ok (.aload_n 0, 1) := by decide +kernel
theorem dX12_mixed_20 : decode cX12_mixed 20 = .ok (.getfield 99, 3) := by decide +kernel
theorem dX12_mixed_23 : decode cX12_mixed 23 = .ok (.iload_n 2, 1) := by decide +kernel
theorem dX12_mixed_24 : decode cX12_mixed 24 = .ok (.lconst 0, 1) := by decide +kernel
theorem dX12_mixed_25 : decode cX12_mixed 25 = .ok (.lastore, 1) := by decide +kernel
theorem dX12_mixed_26 : decode cX12_mixed 26 = .ok (.iinc 2 1, 3) := by decide +kernel
theorem dX12_mixed_29 : decode cX12_mixed 29 = .ok (.goto (-15), 3) := by decide +kernel
theorem dX12_mixed_32 : decode cX12_mixed 32 = .ok (.iconst 0, 1) := by decide +kernel
theorem dX12_mixed_33 : decode cX12_mixed 33 = .ok (.istore_n 2, 1) := by decide +kernel
theorem dX12_mixed_34 : decode cX12_mixed 34 = .ok (.iload_n 2, 1) := by decide +kernel
theorem dX12_mixed_35 : decode cX12_mixed 35 = .ok (.aload_n 0, 1) := by decide +kernel
theorem dX12_mixed_36 : decode cX12_mixed 36 = .ok (.getfield 121, 3) := by decide +kernel
theorem dX12_mixed_39 : decode cX12_mixed 39 = .ok (.if_icmp .ge 58, 3) := by decide +kernel
theorem dX12_mixed_42 : decode cX12_mixed 42 = .ok (.aload_n 0, 1) := by decide +kernel
theorem dX12_mixed_43 : decode cX12_mixed 43 = .ok (.getfield 99, 3) := by decide +kernel
theorem dX12_mixed_46 : decode cX12_mixed 46 = .ok (.aload_n 0, 1) := by decide +kernel
theorem dX12_mixed_47 : decode cX12_mixed 47 = .ok (.getfield 35, 3) := by decide +kernel
theorem dX12_mixed_50 : decode cX12_mixed 50 = .ok (.iload_n 2, 1) := by decide +kernel
theorem dX12_mixed_51 : decode cX12_mixed 51 = .ok (.iaload, 1) := by decide +kernel
theorem dX12_mixed_52 : decode cX12_mixed 52 = .ok (.dup2, 1) := by decide +kernel
theorem dX12_mixed_53 : decode cX12_mixed 53 = .ok (.laload, 1) := by decide +kernel
theorem dX12_mixed_54 : decode cX12_mixed 54 = .ok (.aload_n 0, 1) := by decide +kernel
theorem dX12_mixed_55 : decode cX12_mixed 55 = .ok (.aload_n 0, 1) := by decide +kernel
theorem dX12_mixed_56 : decode cX12_mixed 56 = .ok (.getfield 32, 3) := by decide +kernel
theorem dX12_mixed_59 : decode cX12_mixed 59 = .ok (.iload_n 2, 1) := by decide +kernel
theorem dX12_mixed_60 : decode cX12_mixed 60 = .ok (.iaload, 1) := by decide +kernel
theorem dX12_mixed_61 : decode cX12_mixed 61 = .ok (.aload_n 0, 1) := by decide +kernel
theorem dX12_mixed_62 : decode cX12_mixed 62 = .ok (.getfield 7, 3) := by decide +kernel
theorem dX12_mixed_65 : decode cX12_mixed 65 = .ok (.idiv, 1) := by decide +kernel
theorem dX12_mixed_66 : decode cX12_mixed 66 = .ok (.invokevirtual 161, 3) := by decide +kernel
theorem dX12_mixed_69 : decode cX12_mixed 69 = .ok (.aload_n 0, 1) := by decide +kernel
theorem dX12_mixed_70 : decode cX12_mixed 70 = .ok (.getfield 29, 3) := by decide +kernel
theorem dX12_mixed_73 : decode cX12_mixed 73 = .ok (.iload_n 2, 1) := by decide +kernel
theorem dX12_mixed_74 : decode cX12_mixed 74 = .ok (.iaload, 1) := by decide +kernel
theorem dX12_mixed_75 : decode cX12_mixed 75 = .ok (.if_icmp .ne 13, 3) := by decide +kernel
theorem dX12_mixed_78 : decode cX12_mixed 78 = .ok (.aload_n 0, 1) := by decide +kernel
theorem dX12_mixed_79 : decode cX12_mixed 79 = .ok (.getfield 38, 3) := by decide +kernel
theorem dX12_mixed_82 : decode cX12_mixed 82 = .ok (.iload_n 2, 1) := by decide +kernel
theorem dX12_mixed_83 : decode cX12_mixed 83 = .ok (.iaload, 1) := by decide +kernel
theorem dX12_mixed_84 : decode cX12_mixed 84 = .ok (.i2l, 1) := by decide +kernel
theorem dX12_mixed_85 : decode cX12_mixed 85 = .ok (.goto 4, 3) := by decide +kernel
theorem dX12_mixed_88 : decode cX12_mixed 88 = .ok (.lconst 0, 1) := by decide +kernel
theorem dX12_mixed_89 : decode cX12_mixed 89 = .ok (.ladd, 1) := by decide +kernel
theorem dX12_mixed_90 : decode cX12_mixed 90 = .ok (.lastore, 1) := by decide +kernel
theorem dX12_mixed_91 : decode cX12_mixed 91 = .ok (.iinc 2 1, 3) := by decide +kernel
theorem dX12_mixed_94 : decode cX12_mixed 94 = .ok (.goto (-60), 3) := by decide +kernel
theorem dX12_mixed_97 : decode cX12_mixed 97 = .ok (.bipush 20, 2) := by decide +kernel
theorem dX12_mixed_99 : decode cX12_mixed 99 = .ok (.istore_n 2, 1) := by decide +kernel
theorem dX12_mixed_100 : decode cX12_mixed 100 = .ok (.iconst 0, 1) := by decide +kernel
theorem dX12_mixed_101 : decode cX12_mixed 101 = .ok (.istore_n 3, 1) := by decide +kernel
theorem dX12_mixed_102 : decode cX12_mixed 102 = .ok (.aload_n 0, 1) := by decide +kernel
theorem dX12_mixed_103 : decode cX12_mixed 103 = .ok (.bipush 20, 2) := by decide +kernel
theorem dX12_mixed_105 : decode cX12_mixed 105 = .ok (.iconst 0, 1) := by decide +kernel
theorem dX12_mixed_106 : decode cX12_mixed 106 = .ok (.iconst 0, 1) := by decide +kernel
theorem dX12_mixed_107 : decode cX12_mixed 107 = .ok (.invokevirtual 200, 3) := by decide +kernel
theorem dX12_mixed_110 : decode cX12_mixed 110 = .ok (.lstore 4, 2) := by decide +kernel
theorem dX12_mixed_112 : decode cX12_mixed 112 = .ok (.bipush 20, 2) := by decide +kernel
theorem dX12_mixed_114 : decode cX12_mixed 114 = .ok (.istore 6, 2) := by decide +kernel
theorem dX12_mixed_116 : decode cX12_mixed 116 = .ok (.iload 6, 2) := by decide +kernel
theorem dX12_mixed_118 : decode cX12_mixed 118 = .ok (.ifCond .lt 63, 3) := by decide +kernel
theorem dX12_mixed_121 : decode cX12_mixed 121 = .ok (.bipush 20, 2) := by decide +kernel
theorem dX12_mixed_123 : decode cX12_mixed 123 = .ok (.iload 6, 2) := by decide +kernel
theorem dX12_mixed_125 : decode cX12_mixed 125 = .ok (.isub, 1) := by decide +kernel
theorem dX12_mixed_126 : decode cX12_mixed 126 = .ok (.istore 7, 2) := by decide +kernel
theorem dX12_mixed_128 : decode cX12_mixed 128 = .ok (.iload 7, 2) := by decide +kernel
theorem dX12_mixed_130 : decode cX12_mixed 130 = .ok (.ifCond .lt 45, 3) := by decide +kernel
theorem dX12_mixed_133 : decode cX12_mixed 133 = .ok (.aload_n 0, 1) := by decide +kernel
theorem dX12_mixed_134 : decode cX12_mixed 134 = .ok (.iload 6, 2) := by decide +kernel
theorem dX12_mixed_136 : decode cX12_mixed 136 = .ok (.iload 7, 2) := by decide +kernel
theorem dX12_mixed_138 : decode cX12_mixed 138 = .ok (.bipush 20, 2) := by decide +kernel
theorem dX12_mixed_140 : decode cX12_mixed 140 = .ok (.iload 6, 2) := by decide +kernel
theorem dX12_mixed_142 : decode cX12_mixed 142 = .ok (.isub, 1) := by decide +kernel
theorem dX12_mixed_143 : decode cX12_mixed 143 = .ok (.iload 7, 2) := by decide +kernel
theorem dX12_mixed_145 : decode cX12_mixed 145 = .ok (.isub, 1) := by decide +kernel
theorem dX12_mixed_146 : decode cX12_mixed 146 = .ok (.invokevirtual 200, 3) := by decide +kernel
theorem dX12_mixed_149 : decode cX12_mixed 149 = .ok (.lstore 8, 2) := by decide +kernel
theorem dX12_mixed_151 : decode cX12_mixed 151 = .ok (.lload 8, 2) := by decide +kernel
theorem dX12_mixed_153 : decode cX12_mixed 153 = .ok (.lload 4, 2) := by decide +kernel
theorem dX12_mixed_155 : decode cX12_mixed 155 = .ok (.lcmp, 1) := by decide +kernel
theorem dX12_mixed_156 : decode cX12_mixed 156 = .ok (.ifCond .ge 13, 3) := by decide +kernel
theorem dX12_mixed_159 : decode cX12_mixed 159 = .ok (.lload 8, 2) := by decide +kernel
theorem dX12_mixed_161 : decode cX12_mixed 161 = .ok (.lstore 4, 2) := by decide +kernel
theorem dX12_mixed_163 : decode cX12_mixed 163 = .ok (.iload 6, 2) := by decide +kernel
theorem dX12_mixed_165 : decode cX12_mixed 165 = .ok (.istore_n 2, 1) := by decide +kernel
theorem dX12_mixed_166 : decode cX12_mixed 166 = .ok (.iload 7, 2) := by decide +kernel
theorem dX12_mixed_168 : decode cX12_mixed 168 = .ok (.istore_n 3, 1) := by decide +kernel
theorem dX12_mixed_169 : decode cX12_mixed 169 = .ok (.iinc 7 (-1), 3) := by decide +kernel
theorem dX12_mixed_172 : decode cX12_mixed 172 = .ok (.goto (-44), 3) := by decide +kernel
theorem dX12_mixed_175 : decode cX12_mixed 175 = .ok (.iinc 6 (-1), 3) := by decide +kernel
theorem dX12_mixed_178 : decode cX12_mixed 178 = .ok (.goto (-62), 3) := by decide +kernel
theorem dX12_mixed_181 : decode cX12_mixed 181 = .ok (.iload_n 1, 1) := by decide +kernel
theorem dX12_mixed_182 : decode cX12_mixed 182 = .ok (.ifCond .ne 7, 3) := by decide +kernel
theorem dX12_mixed_185 : decode cX12_mixed 185 = .ok (.iload_n 2, 1) := by decide +kernel
theorem dX12_mixed_186 : decode cX12_mixed 186 = .ok (.goto 18, 3) := by decide +kernel
theorem dX12_mixed_189 : decode cX12_mixed 189 = .ok (.iload_n 1, 1) := by decide +kernel
theorem dX12_mixed_190 : decode cX12_mixed 190 = .ok (.iconst 1, 1) := by decide +kernel
theorem dX12_mixed_191 : decode cX12_mixed 191 = .ok (.if_icmp .ne 7, 3) := by decide +kernel
theorem dX12_mixed_194 : decode cX12_mixed 194 = .ok (.iload_n 3, 1) := by decide +kernel
theorem dX12_mixed_195 : decode cX12_mixed 195 = .ok (.goto 9, 3) := by decide +kernel
theorem dX12_mixed_198 : decode cX12_mixed 198 = .ok (.bipush 20, 2) := by decide +kernel
theorem dX12_mixed_200 : decode cX12_mixed 200 = .ok (.iload_n 2, 1) := by decide +kernel
theorem dX12_mixed_201 : decode cX12_mixed 201 = .ok (.isub, 1) := by decide +kernel
theorem dX12_mixed_202 : decode cX12_mixed 202 = .ok (.iload_n 3, 1) := by decide +kernel
theorem dX12_mixed_203 : decode cX12_mixed 203 = .ok (.isub, 1) := by decide +kernel
theorem dX12_mixed_204 : decode cX12_mixed 204 = .ok (.ireturn, 1) := by decide +kernel

set_option maxHeartbeats 4000000 in
set_option maxRecDepth 100000 in
theorem c_X12_mixed (l : Launch) (E : Ev) {A : Nat → Prop} (ad : Nat → Nat) (hA : Oka 30 ad A) (sc : Nat → Int32) (ar : Nat → Nat → Int32) (la : Nat → Int64) {nW nF wd hg : Nat} (x : Int32) (hW : sc 3 = nI nW) (hW60 : nW ≤ 60) (hF : sc 4 = nI nF) (hF200 : nF ≤ 200) (hK4 : ∀ f, f < nF → ∃ k, k < 4 ∧ ar 7 f = nI k) (hwd : sc 0 = nI wd) (hwd1 : 2 ≤ wd) (hwd2 : wd ≤ 8) (hhg : sc 1 = nI hg) (hhg1 : 2 ≤ hg) (hhg2 : hg ≤ 8) (hPc : ∀ f, f < nF → ∃ p, p < wd * hg ∧ ar 6 f = nI p) : Ct l E yX12_mixed (.code yX12_mixed cX12_mixed 10 (some .int)) ({ frames := 2, cells := 0, slots := 0, locals := 49 }) A (mw E ad sc ar la) [.ref (ad 0), .int x] (some (.int (if inr x (nI 0) (nI 2) = true then (if x = 0 then nI (mkO (cnL nW nF wd (ar 3) (ar 5) (ar 6) (ar 7) (ar 8) (fiL la 4) (nF)) (ar 10) 21).2.1 else if x = nI 1 then nI (mkO (cnL nW nF wd (ar 3) (ar 5) (ar 6) (ar 7) (ar 8) (fiL la 4) (nF)) (ar 10) 21).2.2 else nI 20 - nI (mkO (cnL nW nF wd (ar 3) (ar 5) (ar 6) (ar 7) (ar 8) (fiL la 4) (nF)) (ar 10) 21).2.1 - nI (mkO (cnL nW nF wd (ar 3) (ar 5) (ar 6) (ar 7) (ar 8) (fiL la 4) (nF)) (ar 10) 21).2.2) else (-1000000001)))) (if inr x (nI 0) (nI 2) = true then mw E ad sc ar (cnL nW nF wd (ar 3) (ar 5) (ar 6) (ar 7) (ar 8) (fiL la 4) (nF)) else mw E ad sc ar la) := by
  have hm := prod64 hwd2 hhg2
  obtain ⟨nn, hnn⟩ : ∃ z : Nat, z = 21 := ⟨21, rfl⟩
  refine Ct.of (lv := [(0, .ref (ad 0)), (1, .int x)]) (by decide +kernel) (Nat.le_of_ble_eq_true rfl) rfl ?_
  intro zp ze zs zm za zb zh zc hc
  refine g_iload_n (pc := 0) hc 1 dX12_mixed_0 rfl rfl ?_
  refine g_iconst (pc := 1) (v := nI 0) hc dX12_mixed_1 (by decide) ?_
  refine g_iconst (pc := 2) (v := nI 2) hc dX12_mixed_2 (by decide) ?_
  refine g_callSi (pc := 3) (rest := []) (As := [.int x, .int (nI 0), .int (nI 2)]) hc (c_X12_isIn l E ad hA sc ar la x (nI 0) (nI 2)) mi_X12_isIn tw_1136 rfl ⟨rfl, rfl, by decide, by decide⟩ (Nat.le_of_ble_eq_true rfl) ⟨Nat.le_refl _, Nat.le_refl _⟩ rfl dX12_mixed_3 ?_
  refine g_if_ne_b (pc := 6) hc 12 dX12_mixed_6 (by decide) (fun c1 => ?_) (fun c1 => ?_)
  · refine g_iconst (pc := 12) (v := nI 0) hc dX12_mixed_12 (by decide) ?_
    refine g_istore_n (pc := 13) (lv' := [(0, .ref (ad 0)), (1, .int x), (2, .int (nI 0))]) hc dX12_mixed_13 rfl (by decide) rfl ?_
    have L14_2 : ∀ (kk k : Nat), k + kk = 4 → G zp l ze ({ frames := 2, cells := 0, slots := 0, locals := 49 }) zs zm za zb zh zc 0 0 (MQ zb (Qz E A (some (.int (if inr x (nI 0) (nI 2) = true then (if x = 0 then nI (mkO (cnL nW nF wd (ar 3) (ar 5) (ar 6) (ar 7) (ar 8) (fiL la 4) (nF)) (ar 10) 21).2.1 else if x = nI 1 then nI (mkO (cnL nW nF wd (ar 3) (ar 5) (ar 6) (ar 7) (ar 8) (fiL la 4) (nF)) (ar 10) 21).2.2 else nI 20 - nI (mkO (cnL nW nF wd (ar 3) (ar 5) (ar 6) (ar 7) (ar 8) (fiL la 4) (nF)) (ar 10) 21).2.1 - nI (mkO (cnL nW nF wd (ar 3) (ar 5) (ar 6) (ar 7) (ar 8) (fiL la 4) (nF)) (ar 10) 21).2.2) else (-1000000001)))) (if inr x (nI 0) (nI 2) = true then mw E ad sc ar (cnL nW nF wd (ar 3) (ar 5) (ar 6) (ar 7) (ar 8) (fiL la 4) (nF)) else mw E ad sc ar la)) za zs 0 0 A) E A 10 (mw E ad sc ar (fiL la (k))) (14) [(0, .ref (ad 0)), (1, .int x), (2, .int (nI (k)))] [] := by
      intro kk
      induction kk with
      | zero =>
        intro k lhk
        have lhkn : 4 = k := by omega
        subst lhkn
        refine g_iload_n (pc := 14) hc 2 dX12_mixed_14 rfl rfl ?_
        refine g_iconst (pc := 15) (v := nI 4) hc dX12_mixed_15 (by decide) ?_
        refine g_icmp_ge_t (pc := 16) hc 32 dX12_mixed_16 (by decide) (nI_le (by omega) (by omega)) ?_
        refine g_iconst (pc := 32) (v := nI 0) hc dX12_mixed_32 (by decide) ?_
        refine g_istore_n (pc := 33) (lv' := [(0, .ref (ad 0)), (1, .int x), (2, .int (nI 0))]) hc dX12_mixed_33 rfl (by decide) rfl ?_
        have L34_3 : ∀ (kf f : Nat), f + kf = nF → G zp l ze ({ frames := 2, cells := 0, slots := 0, locals := 49 }) zs zm za zb zh zc 0 0 (MQ zb (Qz E A (some (.int (if inr x (nI 0) (nI 2) = true then (if x = 0 then nI (mkO (cnL nW nF wd (ar 3) (ar 5) (ar 6) (ar 7) (ar 8) (fiL la 4) (nF)) (ar 10) 21).2.1 else if x = nI 1 then nI (mkO (cnL nW nF wd (ar 3) (ar 5) (ar 6) (ar 7) (ar 8) (fiL la 4) (nF)) (ar 10) 21).2.2 else nI 20 - nI (mkO (cnL nW nF wd (ar 3) (ar 5) (ar 6) (ar 7) (ar 8) (fiL la 4) (nF)) (ar 10) 21).2.1 - nI (mkO (cnL nW nF wd (ar 3) (ar 5) (ar 6) (ar 7) (ar 8) (fiL la 4) (nF)) (ar 10) 21).2.2) else (-1000000001)))) (if inr x (nI 0) (nI 2) = true then mw E ad sc ar (cnL nW nF wd (ar 3) (ar 5) (ar 6) (ar 7) (ar 8) (fiL la 4) (nF)) else mw E ad sc ar la)) za zs 0 0 A) E A 10 (mw E ad sc ar (cnL nW nF wd (ar 3) (ar 5) (ar 6) (ar 7) (ar 8) (fiL la 4) (f))) (34) [(0, .ref (ad 0)), (1, .int x), (2, .int (nI (f)))] [] := by
          intro kf
          induction kf with
          | zero =>
            intro f lhf
            have lhfn : nF = f := by omega
            subst lhfn
            refine g_iload_n (pc := 34) hc 2 dX12_mixed_34 rfl rfl ?_
            refine g_aload_n (pc := 35) hc 0 dX12_mixed_35 rfl rfl ?_
            refine gf_m0_finds (pc := 36) hc tw_1009 dX12_mixed_36 ?_
            refine g_topi (v := nI nF) (hF) ?_
            refine g_icmp_ge_t (pc := 39) hc 97 dX12_mixed_39 (by decide) (nI_le (by omega) (by omega)) ?_
            obtain ⟨L, eL⟩ : ∃ z, z = cnL nW nF wd (ar 3) (ar 5) (ar 6) (ar 7) (ar 8) (fiL la 4) (nF) := ⟨_, rfl⟩
            refine g_eq (ws' := mw E ad sc ar L) (lv' := [(0, .ref (ad 0)), (1, .int x), (2, .int (nI (nF)))]) (by rw [eL]) rfl rfl ?_
            refine g_bipush (pc := 97) (v := nI 20) hc dX12_mixed_97 (by decide) ?_
            refine g_istore_n (pc := 99) (lv' := [(0, .ref (ad 0)), (1, .int x), (2, .int (nI 20))]) hc dX12_mixed_99 rfl (by decide) rfl ?_
            refine g_iconst (pc := 100) (v := nI 0) hc dX12_mixed_100 (by decide) ?_
            refine g_istore_n (pc := 101) (lv' := [(0, .ref (ad 0)), (1, .int x), (2, .int (nI 20)), (3, .int (nI 0))]) hc dX12_mixed_101 rfl (by decide) rfl ?_
            refine g_aload_n (pc := 102) hc 0 dX12_mixed_102 rfl rfl ?_
            refine g_bipush (pc := 103) (v := nI 20) hc dX12_mixed_103 (by decide) ?_
            refine g_iconst (pc := 105) (v := nI 0) hc dX12_mixed_105 (by decide) ?_
            refine g_iconst (pc := 106) (v := nI 0) hc dX12_mixed_106 (by decide) ?_
            refine g_callVl (pc := 107) (rest := []) (As := [.int (nI 20), .int (nI 0), .int (nI 0)]) hc (c_X12_far l E ad hA sc ar L 20 0 0) mi_X12_far tw_1299 0 rfl rfl rfl rfl ⟨rfl, rfl, by decide, by decide⟩ (Nat.le_of_ble_eq_true rfl) ⟨Nat.le_refl _, Nat.le_refl _⟩ rfl dX12_mixed_107 ?_
            refine g_lstore (pc := 110) (lv' := [(0, .ref (ad 0)), (1, .int x), (2, .int (nI 20)), (3, .int (nI 0)), (4, .long (mfa L (ar 10) 20 0 0 4))]) hc dX12_mixed_110 (by decide) rfl ?_
            refine g_bipush (pc := 112) (v := nI 20) hc dX12_mixed_112 (by decide) ?_
            refine g_istore (pc := 114) (lv' := [(0, .ref (ad 0)), (1, .int x), (2, .int (nI 20)), (3, .int (nI 0)), (4, .long (mfa L (ar 10) 20 0 0 4)), (6, .int (nI 20))]) hc dX12_mixed_114 (by decide) rfl ?_
            have L116_4 : ∀ (kt t : Nat), t + kt = nn → G zp l ze ({ frames := 2, cells := 0, slots := 0, locals := 49 }) zs zm za zb zh zc 0 0 (MQ zb (Qz E A (some (.int (if inr x (nI 0) (nI 2) = true then (if x = 0 then nI (mkO (cnL nW nF wd (ar 3) (ar 5) (ar 6) (ar 7) (ar 8) (fiL la 4) (nF)) (ar 10) 21).2.1 else if x = nI 1 then nI (mkO (cnL nW nF wd (ar 3) (ar 5) (ar 6) (ar 7) (ar 8) (fiL la 4) (nF)) (ar 10) 21).2.2 else nI 20 - nI (mkO (cnL nW nF wd (ar 3) (ar 5) (ar 6) (ar 7) (ar 8) (fiL la 4) (nF)) (ar 10) 21).2.1 - nI (mkO (cnL nW nF wd (ar 3) (ar 5) (ar 6) (ar 7) (ar 8) (fiL la 4) (nF)) (ar 10) 21).2.2) else (-1000000001)))) (if inr x (nI 0) (nI 2) = true then mw E ad sc ar (cnL nW nF wd (ar 3) (ar 5) (ar 6) (ar 7) (ar 8) (fiL la 4) (nF)) else mw E ad sc ar la)) za zs 0 0 A) E A 10 (mw E ad sc ar L) (116) [(0, .ref (ad 0)), (1, .int x), (2, .int (nI (mkO L (ar 10) (t)).2.1)), (3, .int (nI (mkO L (ar 10) (t)).2.2)), (4, .long (mkO L (ar 10) (t)).1), (6, .int (dn 20 (t)))] [] := by
              intro kt
              induction kt with
              | zero =>
                intro t lht
                have lhtn : nn = t := by omega
                subst lhtn
                refine g_iload (pc := 116) hc 5 dX12_mixed_116 rfl ?_
                refine g_if_lt_t (pc := 118) hc 181 dX12_mixed_118 (by decide) (by rw [hnn]; exact dn_neg (by decide)) ?_
                refine g_iload_n (pc := 181) hc 1 dX12_mixed_181 rfl rfl ?_
                refine g_if_ne (pc := 182) hc 189 dX12_mixed_182 (by decide) (fun c5 => ?_) (fun c5 => ?_)
                · refine g_iload_n (pc := 189) hc 1 dX12_mixed_189 rfl rfl ?_
                  refine g_iconst (pc := 190) (v := nI 1) hc dX12_mixed_190 (by decide) ?_
                  refine g_icmp_ne (pc := 191) hc 198 dX12_mixed_191 (by decide) (fun c6 => ?_) (fun c6 => ?_)
                  · refine g_bipush (pc := 198) (v := nI 20) hc dX12_mixed_198 (by decide) ?_
                    refine g_iload_n (pc := 200) hc 2 dX12_mixed_200 rfl rfl ?_
                    refine g_isub (pc := 201) hc dX12_mixed_201 ?_
                    refine g_iload_n (pc := 202) hc 3 dX12_mixed_202 rfl rfl ?_
                    refine g_isub (pc := 203) hc dX12_mixed_203 ?_
                    exact g_iret (pc := 204) hc dX12_mixed_204 (by subst eL hnn; rw [if_pos c1]; (repeat (first | rw [if_pos c5] | rw [if_neg c5] | rw [if_neg (ne_true_of_eq_false c5)] | rw [if_pos c6] | rw [if_neg c6] | rw [if_neg (ne_true_of_eq_false c6)]))) (by subst eL; rw [if_pos c1])
                  · refine g_iload_n (pc := 194) hc 3 dX12_mixed_194 rfl rfl ?_
                    refine g_goto (pc := 195) hc 204 dX12_mixed_195 (by decide) ?_
                    exact g_iret (pc := 204) hc dX12_mixed_204 (by subst eL hnn; rw [if_pos c1]; (repeat (first | rw [if_pos c5] | rw [if_neg c5] | rw [if_neg (ne_true_of_eq_false c5)] | rw [if_pos c6] | rw [if_neg c6] | rw [if_neg (ne_true_of_eq_false c6)]))) (by subst eL; rw [if_pos c1])
                · refine g_iload_n (pc := 185) hc 2 dX12_mixed_185 rfl rfl ?_
                  refine g_goto (pc := 186) hc 204 dX12_mixed_186 (by decide) ?_
                  exact g_iret (pc := 204) hc dX12_mixed_204 (by subst eL hnn; rw [if_pos c1]; (repeat (first | rw [if_pos c5] | rw [if_neg c5] | rw [if_neg (ne_true_of_eq_false c5)]))) (by subst eL; rw [if_pos c1])
              | succ kt iht =>
                intro t lht
                have lhtn : t < nn := by omega
                refine g_iload (pc := 116) hc 5 dX12_mixed_116 rfl ?_
                refine g_if_lt_f (pc := 118) hc 181 dX12_mixed_118 (by decide) (dn_pos (by omega) (by decide)) ?_
                refine g_eq (ws' := mw E ad sc ar L) (lv' := [(0, .ref (ad 0)), (1, .int x), (2, .int (nI (mkO L (ar 10) (t)).2.1)), (3, .int (nI (mkO L (ar 10) (t)).2.2)), (4, .long (mkO L (ar 10) (t)).1), (6, .int (nI (20 - t)))]) rfl (by rw [dn_eq (n := 20) (t := t) (by omega)]) rfl ?_
                refine g_bipush (pc := 121) (v := nI 20) hc dX12_mixed_121 (by decide) ?_
                refine g_iload (pc := 123) hc 5 dX12_mixed_123 rfl ?_
                refine g_isub (pc := 125) hc dX12_mixed_125 ?_
                refine g_topi (v := nI t) (by rw [pk_sub (by omega)]; congr 1; omega) ?_
                refine g_istore (pc := 126) (lv' := [(0, .ref (ad 0)), (1, .int x), (2, .int (nI (mkO L (ar 10) (t)).2.1)), (3, .int (nI (mkO L (ar 10) (t)).2.2)), (4, .long (mkO L (ar 10) (t)).1), (6, .int (nI (20 - t))), (7, .int (nI t))]) hc dX12_mixed_126 (by decide) rfl ?_
                have L128_7 : ∀ (ku u : Nat), u + ku = t + 1 → G zp l ze ({ frames := 2, cells := 0, slots := 0, locals := 49 }) zs zm za zb zh zc 0 0 (MQ zb (Qz E A (some (.int (if inr x (nI 0) (nI 2) = true then (if x = 0 then nI (mkO (cnL nW nF wd (ar 3) (ar 5) (ar 6) (ar 7) (ar 8) (fiL la 4) (nF)) (ar 10) 21).2.1 else if x = nI 1 then nI (mkO (cnL nW nF wd (ar 3) (ar 5) (ar 6) (ar 7) (ar 8) (fiL la 4) (nF)) (ar 10) 21).2.2 else nI 20 - nI (mkO (cnL nW nF wd (ar 3) (ar 5) (ar 6) (ar 7) (ar 8) (fiL la 4) (nF)) (ar 10) 21).2.1 - nI (mkO (cnL nW nF wd (ar 3) (ar 5) (ar 6) (ar 7) (ar 8) (fiL la 4) (nF)) (ar 10) 21).2.2) else (-1000000001)))) (if inr x (nI 0) (nI 2) = true then mw E ad sc ar (cnL nW nF wd (ar 3) (ar 5) (ar 6) (ar 7) (ar 8) (fiL la 4) (nF)) else mw E ad sc ar la)) za zs 0 0 A) E A 10 (mw E ad sc ar L) (128) [(0, .ref (ad 0)), (1, .int x), (2, .int (nI (mkI L (ar 10) t (mkO L (ar 10) t) (u)).2.1)), (3, .int (nI (mkI L (ar 10) t (mkO L (ar 10) t) (u)).2.2)), (4, .long (mkI L (ar 10) t (mkO L (ar 10) t) (u)).1), (6, .int (nI (20 - t))), (7, .int (dn t (u)))] [] := by
                  intro ku
                  induction ku with
                  | zero =>
                    intro u lhu
                    have lhun : t + 1 = u := by omega
                    subst lhun
                    refine g_iload (pc := 128) hc 6 dX12_mixed_128 rfl ?_
                    refine g_if_lt_t (pc := 130) hc 175 dX12_mixed_130 (by decide) (dn_neg (by omega)) ?_
                    refine g_eq (ws' := mw E ad sc ar L) (lv' := [(0, .ref (ad 0)), (1, .int x), (2, .int (nI (mkI L (ar 10) t (mkO L (ar 10) t) (t + 1)).2.1)), (3, .int (nI (mkI L (ar 10) t (mkO L (ar 10) t) (t + 1)).2.2)), (4, .long (mkI L (ar 10) t (mkO L (ar 10) t) (t + 1)).1), (6, .int (dn 20 t)), (7, .int (dn t (t + 1)))]) rfl (by rw [dn_eq (n := 20) (t := t) (by omega)]) rfl ?_
                    refine g_iinc (pc := 175) (v := (dn 20 t) + Int32.ofInt (-1)) (lv' := [(0, .ref (ad 0)), (1, .int x), (2, .int (nI (mkI L (ar 10) t (mkO L (ar 10) t) (t + 1)).2.1)), (3, .int (nI (mkI L (ar 10) t (mkO L (ar 10) t) (t + 1)).2.2)), (4, .long (mkI L (ar 10) t (mkO L (ar 10) t) (t + 1)).1), (6, .int ((dn 20 t) + Int32.ofInt (-1))), (7, .int (dn t (t + 1)))]) hc 5 dX12_mixed_175 rfl (rfl) (by decide) rfl ?_
                    refine g_goto (pc := 178) hc 116 dX12_mixed_178 (by decide) ?_
                    refine g_lv [0, 1, 2, 3, 4, 5] (lv' := [(0, .ref (ad 0)), (1, .int x), (2, .int (nI (mkI L (ar 10) t (mkO L (ar 10) t) (t + 1)).2.1)), (3, .int (nI (mkI L (ar 10) t (mkO L (ar 10) t) (t + 1)).2.2)), (4, .long (mkI L (ar 10) t (mkO L (ar 10) t) (t + 1)).1), (6, .int ((dn 20 t) + Int32.ofInt (-1)))]) rfl ?_
                    exact g_eq (ws' := mw E ad sc ar L) (lv' := [(0, .ref (ad 0)), (1, .int x), (2, .int (nI (mkO L (ar 10) (t + 1)).2.1)), (3, .int (nI (mkO L (ar 10) (t + 1)).2.2)), (4, .long (mkO L (ar 10) (t + 1)).1), (6, .int (dn 20 (t + 1)))]) (rfl) (by rw [dn_succ]; rfl) rfl (iht (t + 1) (by omega))
                  | succ ku ihu =>
                    intro u lhu
                    have lhun : u < t + 1 := by omega
                    refine g_iload (pc := 128) hc 6 dX12_mixed_128 rfl ?_
                    refine g_if_lt_f (pc := 130) hc 175 dX12_mixed_130 (by decide) (dn_pos (by omega) (by omega)) ?_
                    refine g_eq (ws' := mw E ad sc ar L) (lv' := [(0, .ref (ad 0)), (1, .int x), (2, .int (nI (mkI L (ar 10) t (mkO L (ar 10) t) (u)).2.1)), (3, .int (nI (mkI L (ar 10) t (mkO L (ar 10) t) (u)).2.2)), (4, .long (mkI L (ar 10) t (mkO L (ar 10) t) (u)).1), (6, .int (nI (20 - t))), (7, .int (nI (t - u)))]) rfl (by rw [dn_eq (n := t) (t := u) (by omega)]) rfl ?_
                    refine g_aload_n (pc := 133) hc 0 dX12_mixed_133 rfl rfl ?_
                    refine g_iload (pc := 134) hc 5 dX12_mixed_134 rfl ?_
                    refine g_iload (pc := 136) hc 6 dX12_mixed_136 rfl ?_
                    refine g_bipush (pc := 138) (v := nI 20) hc dX12_mixed_138 (by decide) ?_
                    refine g_iload (pc := 140) hc 5 dX12_mixed_140 rfl ?_
                    refine g_isub (pc := 142) hc dX12_mixed_142 ?_
                    refine g_topi (v := nI t) (by rw [pk_sub (by omega)]; congr 1; omega) ?_
                    refine g_iload (pc := 143) hc 6 dX12_mixed_143 rfl ?_
                    refine g_isub (pc := 145) hc dX12_mixed_145 ?_
                    refine g_topi (v := nI u) (by rw [pk_sub (by omega)]; congr 1; omega) ?_
                    refine g_callVl (pc := 146) (rest := []) (As := [.int (nI (20 - t)), .int (nI (t - u)), .int (nI u)]) hc (c_X12_far l E ad hA sc ar L (20 - t) (t - u) u) mi_X12_far tw_1299 0 rfl rfl rfl rfl ⟨rfl, rfl, by decide, by decide⟩ (Nat.le_of_ble_eq_true rfl) ⟨Nat.le_refl _, Nat.le_refl _⟩ rfl dX12_mixed_146 ?_
                    refine g_lstore (pc := 149) (lv' := [(0, .ref (ad 0)), (1, .int x), (2, .int (nI (mkI L (ar 10) t (mkO L (ar 10) t) (u)).2.1)), (3, .int (nI (mkI L (ar 10) t (mkO L (ar 10) t) (u)).2.2)), (4, .long (mkI L (ar 10) t (mkO L (ar 10) t) (u)).1), (6, .int (nI (20 - t))), (7, .int (nI (t - u))), (8, .long (mfa L (ar 10) (20 - t) (t - u) u 4))]) hc dX12_mixed_149 (by decide) rfl ?_
                    refine g_lload (pc := 151) hc 7 dX12_mixed_151 rfl ?_
                    refine g_lload (pc := 153) hc 4 dX12_mixed_153 rfl ?_
                    refine g_lcmp (pc := 155) hc dX12_mixed_155 ?_
                    refine g_if_ge (pc := 156) hc 169 dX12_mixed_156 (by decide) (fun c8 => ?_) (fun c8 => ?_)
                    · refine g_eq (ws' := mw E ad sc ar L) (lv' := [(0, .ref (ad 0)), (1, .int x), (2, .int (nI (mkI L (ar 10) t (mkO L (ar 10) t) (u)).2.1)), (3, .int (nI (mkI L (ar 10) t (mkO L (ar 10) t) (u)).2.2)), (4, .long (mkI L (ar 10) t (mkO L (ar 10) t) (u)).1), (6, .int (nI (20 - t))), (7, .int (dn t u)), (8, .long (mfa L (ar 10) (20 - t) (t - u) u 4))]) rfl (by rw [dn_eq (n := t) (t := u) (by omega)]) rfl ?_
                      refine g_iinc (pc := 169) (v := (dn t u) + Int32.ofInt (-1)) (lv' := [(0, .ref (ad 0)), (1, .int x), (2, .int (nI (mkI L (ar 10) t (mkO L (ar 10) t) (u)).2.1)), (3, .int (nI (mkI L (ar 10) t (mkO L (ar 10) t) (u)).2.2)), (4, .long (mkI L (ar 10) t (mkO L (ar 10) t) (u)).1), (6, .int (nI (20 - t))), (7, .int ((dn t u) + Int32.ofInt (-1))), (8, .long (mfa L (ar 10) (20 - t) (t - u) u 4))]) hc 6 dX12_mixed_169 rfl (rfl) (by decide) rfl ?_
                      refine g_goto (pc := 172) hc 128 dX12_mixed_172 (by decide) ?_
                      refine g_lv [0, 1, 2, 3, 4, 5, 6] (lv' := [(0, .ref (ad 0)), (1, .int x), (2, .int (nI (mkI L (ar 10) t (mkO L (ar 10) t) (u)).2.1)), (3, .int (nI (mkI L (ar 10) t (mkO L (ar 10) t) (u)).2.2)), (4, .long (mkI L (ar 10) t (mkO L (ar 10) t) (u)).1), (6, .int (nI (20 - t))), (7, .int ((dn t u) + Int32.ofInt (-1)))]) rfl ?_
                      exact g_eq (ws' := mw E ad sc ar L) (lv' := [(0, .ref (ad 0)), (1, .int x), (2, .int (nI (mkI L (ar 10) t (mkO L (ar 10) t) (u + 1)).2.1)), (3, .int (nI (mkI L (ar 10) t (mkO L (ar 10) t) (u + 1)).2.2)), (4, .long (mkI L (ar 10) t (mkO L (ar 10) t) (u + 1)).1), (6, .int (nI (20 - t))), (7, .int (dn t (u + 1)))]) (rfl) (by rw [dn_succ, mkI_succ]; (repeat (first | rw [if_pos c8] | rw [if_neg c8] | rw [if_neg (ne_true_of_eq_false c8)]))) rfl (ihu (u + 1) (by omega))
                    · refine g_lload (pc := 159) hc 7 dX12_mixed_159 rfl ?_
                      refine g_lstore (pc := 161) (lv' := [(0, .ref (ad 0)), (1, .int x), (2, .int (nI (mkI L (ar 10) t (mkO L (ar 10) t) (u)).2.1)), (3, .int (nI (mkI L (ar 10) t (mkO L (ar 10) t) (u)).2.2)), (6, .int (nI (20 - t))), (7, .int (nI (t - u))), (8, .long (mfa L (ar 10) (20 - t) (t - u) u 4)), (4, .long (mfa L (ar 10) (20 - t) (t - u) u 4))]) hc dX12_mixed_161 (by decide) rfl ?_
                      refine g_iload (pc := 163) hc 4 dX12_mixed_163 rfl ?_
                      refine g_istore_n (pc := 165) (lv' := [(0, .ref (ad 0)), (1, .int x), (2, .int (nI (20 - t))), (3, .int (nI (mkI L (ar 10) t (mkO L (ar 10) t) (u)).2.2)), (6, .int (nI (20 - t))), (7, .int (nI (t - u))), (8, .long (mfa L (ar 10) (20 - t) (t - u) u 4)), (4, .long (mfa L (ar 10) (20 - t) (t - u) u 4))]) hc dX12_mixed_165 rfl (by decide) rfl ?_
                      refine g_iload (pc := 166) hc 5 dX12_mixed_166 rfl ?_
                      refine g_istore_n (pc := 168) (lv' := [(0, .ref (ad 0)), (1, .int x), (2, .int (nI (20 - t))), (3, .int (nI (t - u))), (6, .int (nI (20 - t))), (7, .int (nI (t - u))), (8, .long (mfa L (ar 10) (20 - t) (t - u) u 4)), (4, .long (mfa L (ar 10) (20 - t) (t - u) u 4))]) hc dX12_mixed_168 rfl (by decide) rfl ?_
                      refine g_eq (ws' := mw E ad sc ar L) (lv' := [(0, .ref (ad 0)), (1, .int x), (2, .int (nI (20 - t))), (3, .int (nI (t - u))), (6, .int (nI (20 - t))), (7, .int (dn t u)), (8, .long (mfa L (ar 10) (20 - t) (t - u) u 4)), (4, .long (mfa L (ar 10) (20 - t) (t - u) u 4))]) rfl (by rw [dn_eq (n := t) (t := u) (by omega)]) rfl ?_
                      refine g_iinc (pc := 169) (v := (dn t u) + Int32.ofInt (-1)) (lv' := [(0, .ref (ad 0)), (1, .int x), (2, .int (nI (20 - t))), (3, .int (nI (t - u))), (6, .int (nI (20 - t))), (7, .int ((dn t u) + Int32.ofInt (-1))), (8, .long (mfa L (ar 10) (20 - t) (t - u) u 4)), (4, .long (mfa L (ar 10) (20 - t) (t - u) u 4))]) hc 5 dX12_mixed_169 rfl (rfl) (by decide) rfl ?_
                      refine g_goto (pc := 172) hc 128 dX12_mixed_172 (by decide) ?_
                      refine g_lv [0, 1, 2, 3, 7, 4, 5] (lv' := [(0, .ref (ad 0)), (1, .int x), (2, .int (nI (20 - t))), (3, .int (nI (t - u))), (4, .long (mfa L (ar 10) (20 - t) (t - u) u 4)), (6, .int (nI (20 - t))), (7, .int ((dn t u) + Int32.ofInt (-1)))]) rfl ?_
                      exact g_eq (ws' := mw E ad sc ar L) (lv' := [(0, .ref (ad 0)), (1, .int x), (2, .int (nI (mkI L (ar 10) t (mkO L (ar 10) t) (u + 1)).2.1)), (3, .int (nI (mkI L (ar 10) t (mkO L (ar 10) t) (u + 1)).2.2)), (4, .long (mkI L (ar 10) t (mkO L (ar 10) t) (u + 1)).1), (6, .int (nI (20 - t))), (7, .int (dn t (u + 1)))]) (rfl) (by rw [dn_succ, mkI_succ]; (repeat (first | rw [if_pos c8] | rw [if_neg c8] | rw [if_neg (ne_true_of_eq_false c8)]))) rfl (ihu (u + 1) (by omega))
                exact g_eq (ws' := mw E ad sc ar L) (lv' := [(0, .ref (ad 0)), (1, .int x), (2, .int (nI (mkI L (ar 10) t (mkO L (ar 10) t) (0)).2.1)), (3, .int (nI (mkI L (ar 10) t (mkO L (ar 10) t) (0)).2.2)), (4, .long (mkI L (ar 10) t (mkO L (ar 10) t) (0)).1), (6, .int (nI (20 - t))), (7, .int (dn t (0)))]) (rfl) (by rw [show dn t 0 = nI t from dn_eq (Nat.zero_le _)]; rfl) rfl (L128_7 (t + 1 - 0) (0) (by omega))
            exact g_eq (ws' := mw E ad sc ar L) (lv' := [(0, .ref (ad 0)), (1, .int x), (2, .int (nI (mkO L (ar 10) (0)).2.1)), (3, .int (nI (mkO L (ar 10) (0)).2.2)), (4, .long (mkO L (ar 10) (0)).1), (6, .int (dn 20 (0)))]) (rfl) (rfl) rfl (L116_4 (nn - 0) (0) (by omega))
          | succ kf ihf =>
            intro f lhf
            have lhfn : f < nF := by omega
            refine g_iload_n (pc := 34) hc 2 dX12_mixed_34 rfl rfl ?_
            refine g_aload_n (pc := 35) hc 0 dX12_mixed_35 rfl rfl ?_
            refine gf_m0_finds (pc := 36) hc tw_1009 dX12_mixed_36 ?_
            refine g_topi (v := nI nF) (hF) ?_
            refine g_icmp_ge_f (pc := 39) hc 97 dX12_mixed_39 (by decide) (nI_ge (by omega) (by omega)) ?_
            refine g_aload_n (pc := 42) hc 0 dX12_mixed_42 rfl rfl ?_
            refine gf_m0_counted (pc := 43) hc tw_1036 dX12_mixed_43 ?_
            refine g_aload_n (pc := 46) hc 0 dX12_mixed_46 rfl rfl ?_
            refine gf_m0_fKind (pc := 47) hc tw_1012 dX12_mixed_47 ?_
            refine g_iload_n (pc := 50) hc 2 dX12_mixed_50 rfl rfl ?_
            refine la_m7 (pc := 51) hc (f) (rfl) (by omega) dX12_mixed_51 ?_
            have hk := tn_lt (hK4 f (by omega)) (by decide)
            have hpc := tn_lt (hPc f (by omega)) (by omega)
            refine g_topi (v := nI (tn (ar 7 f))) (hk.1) ?_
            refine g_dup2 (pc := 52) hc dX12_mixed_52 rfl rfl ?_
            refine la_m27 (pc := 53) hc (tn (ar 7 f)) (rfl) (hk.2) dX12_mixed_53 ?_
            refine g_aload_n (pc := 54) hc 0 dX12_mixed_54 rfl rfl ?_
            refine g_aload_n (pc := 55) hc 0 dX12_mixed_55 rfl rfl ?_
            refine gf_m0_fPace (pc := 56) hc tw_1011 dX12_mixed_56 ?_
            refine g_iload_n (pc := 59) hc 2 dX12_mixed_59 rfl rfl ?_
            refine la_m6 (pc := 60) hc (f) (rfl) (by omega) dX12_mixed_60 ?_
            refine g_topi (v := nI (tn (ar 6 f))) (hpc.1) ?_
            refine g_aload_n (pc := 61) hc 0 dX12_mixed_61 rfl rfl ?_
            refine gf_m0_wide (pc := 62) hc tw_1001 dX12_mixed_62 ?_
            refine g_topi (v := nI wd) (hwd) ?_
            refine g_idiv (pc := 65) hc dX12_mixed_65 (nI_ne0 (by omega) (by omega)) ?_
            refine g_topi (v := nI (tn (ar 6 f) / wd)) (ldiv_nI hwd1 hwd2 (by omega)) ?_
            refine g_callVi (pc := 66) (rest := [.long ((cnL nW nF wd (ar 3) (ar 5) (ar 6) (ar 7) (ar 8) (fiL la 4) (f)) (tn (ar 7 f))), .int (nI (tn (ar 7 f))), .ref (ad 27)]) (As := [.int (nI (tn (ar 6 f) / wd))]) hc (c_X12_walkOf l E ad hA sc ar (cnL nW nF wd (ar 3) (ar 5) (ar 6) (ar 7) (ar 8) (fiL la 4) (f)) (nI (tn (ar 6 f) / wd)) (hW) (hW60) (hF) (hF200)) mi_X12_walkOf tw_1197 0 rfl rfl rfl rfl ⟨rfl, rfl, by decide, by decide⟩ (Nat.le_of_ble_eq_true rfl) ⟨Nat.le_refl _, Nat.le_refl _⟩ rfl dX12_mixed_66 ?_
            refine g_aload_n (pc := 69) hc 0 dX12_mixed_69 rfl rfl ?_
            refine gf_m0_fWalk (pc := 70) hc tw_1010 dX12_mixed_70 ?_
            refine g_iload_n (pc := 73) hc 2 dX12_mixed_73 rfl rfl ?_
            refine la_m5 (pc := 74) hc (f) (rfl) (by omega) dX12_mixed_74 ?_
            refine g_icmp_ne (pc := 75) hc 88 dX12_mixed_75 (by decide) (fun c9 => ?_) (fun c9 => ?_)
            · refine g_lconst (pc := 88) (v := 0) hc dX12_mixed_88 (by decide) ?_
              refine g_topl (v := cnv nW nF wd (ar 3) (ar 5) (ar 6) (ar 8) f) (by unfold cnv; (repeat (first | rw [if_pos c9] | rw [if_neg c9] | rw [if_neg (ne_true_of_eq_false c9)]))) ?_
              refine g_ladd (pc := 89) hc dX12_mixed_89 ?_
              refine sa_m27 (pc := 90) hc hA (tn (ar 7 f)) (rfl) (hk.2) dX12_mixed_90 ?_
              refine g_iinc (pc := 91) (v := nI (f + 1)) (lv' := [(0, .ref (ad 0)), (1, .int x), (2, .int (nI (f + 1)))]) hc 2 dX12_mixed_91 rfl (nI_ofi f 1) (by decide) rfl ?_
              refine g_goto (pc := 94) hc 34 dX12_mixed_94 (by decide) ?_
              exact g_eq (ws' := mw E ad sc ar (cnL nW nF wd (ar 3) (ar 5) (ar 6) (ar 7) (ar 8) (fiL la 4) (f + 1))) (lv' := [(0, .ref (ad 0)), (1, .int x), (2, .int (nI (f + 1)))]) (rfl) (rfl) rfl (ihf (f + 1) (by omega))
            · refine g_aload_n (pc := 78) hc 0 dX12_mixed_78 rfl rfl ?_
              refine gf_m0_fMany (pc := 79) hc tw_1013 dX12_mixed_79 ?_
              refine g_iload_n (pc := 82) hc 2 dX12_mixed_82 rfl rfl ?_
              refine la_m8 (pc := 83) hc (f) (rfl) (by omega) dX12_mixed_83 ?_
              refine g_i2l (pc := 84) (v := ((ar 8) f : Int32).toInt64) hc dX12_mixed_84 rfl ?_
              refine g_goto (pc := 85) hc 89 dX12_mixed_85 (by decide) ?_
              refine g_topl (v := cnv nW nF wd (ar 3) (ar 5) (ar 6) (ar 8) f) (by unfold cnv; (repeat (first | rw [if_pos c9] | rw [if_neg c9] | rw [if_neg (ne_true_of_eq_false c9)]))) ?_
              refine g_ladd (pc := 89) hc dX12_mixed_89 ?_
              refine sa_m27 (pc := 90) hc hA (tn (ar 7 f)) (rfl) (hk.2) dX12_mixed_90 ?_
              refine g_iinc (pc := 91) (v := nI (f + 1)) (lv' := [(0, .ref (ad 0)), (1, .int x), (2, .int (nI (f + 1)))]) hc 2 dX12_mixed_91 rfl (nI_ofi f 1) (by decide) rfl ?_
              refine g_goto (pc := 94) hc 34 dX12_mixed_94 (by decide) ?_
              exact g_eq (ws' := mw E ad sc ar (cnL nW nF wd (ar 3) (ar 5) (ar 6) (ar 7) (ar 8) (fiL la 4) (f + 1))) (lv' := [(0, .ref (ad 0)), (1, .int x), (2, .int (nI (f + 1)))]) (rfl) (rfl) rfl (ihf (f + 1) (by omega))
        exact g_eq (ws' := mw E ad sc ar (cnL nW nF wd (ar 3) (ar 5) (ar 6) (ar 7) (ar 8) (fiL la 4) (0))) (lv' := [(0, .ref (ad 0)), (1, .int x), (2, .int (nI (0)))]) (rfl) (rfl) rfl (L34_3 (nF - 0) (0) (by omega))
      | succ kk ihk =>
        intro k lhk
        have lhkn : k < 4 := by omega
        refine g_iload_n (pc := 14) hc 2 dX12_mixed_14 rfl rfl ?_
        refine g_iconst (pc := 15) (v := nI 4) hc dX12_mixed_15 (by decide) ?_
        refine g_icmp_ge_f (pc := 16) hc 32 dX12_mixed_16 (by decide) (nI_ge (by omega) (by omega)) ?_
        refine g_aload_n (pc := 19) hc 0 dX12_mixed_19 rfl rfl ?_
        refine gf_m0_counted (pc := 20) hc tw_1036 dX12_mixed_20 ?_
        refine g_iload_n (pc := 23) hc 2 dX12_mixed_23 rfl rfl ?_
        refine g_lconst (pc := 24) (v := 0) hc dX12_mixed_24 (by decide) ?_
        refine sa_m27 (pc := 25) hc hA (k) (rfl) (by omega) dX12_mixed_25 ?_
        refine g_iinc (pc := 26) (v := nI (k + 1)) (lv' := [(0, .ref (ad 0)), (1, .int x), (2, .int (nI (k + 1)))]) hc 2 dX12_mixed_26 rfl (nI_ofi k 1) (by decide) rfl ?_
        refine g_goto (pc := 29) hc 14 dX12_mixed_29 (by decide) ?_
        exact g_eq (ws' := mw E ad sc ar (fiL la (k + 1))) (lv' := [(0, .ref (ad 0)), (1, .int x), (2, .int (nI (k + 1)))]) (rfl) (rfl) rfl (ihk (k + 1) (by omega))
    exact g_eq (ws' := mw E ad sc ar (fiL la (0))) (lv' := [(0, .ref (ad 0)), (1, .int x), (2, .int (nI (0)))]) (rfl) (rfl) rfl (L14_2 (4 - 0) (0) (by omega))
  · refine g_ldc (pc := 9) (v := (-1000000001)) hc tw_1139 dX12_mixed_9 ?_
    exact g_iret (pc := 11) hc dX12_mixed_11 (by rw [if_neg (ne_true_of_eq_false c1)]) (by rw [if_neg (ne_true_of_eq_false c1)])
