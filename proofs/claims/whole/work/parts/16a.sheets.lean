theorem dX3_standsOut_0 : decode cX3_standsOut 0 = .ok (.aload_n 0, 1) := by decide +kernel
theorem dX3_standsOut_1 : decode cX3_standsOut 1 = .ok (.iload_n 1, 1) := by decide +kernel
theorem dX3_standsOut_2 : decode cX3_standsOut 2 = .ok (.invokevirtual 70, 3) := by decide +kernel
theorem dX3_standsOut_5 : decode cX3_standsOut 5 = .ok (.istore 5, 2) := by decide +kernel
theorem dX3_standsOut_7 : decode cX3_standsOut 7 = .ok (.aload_n 0, 1) := by decide +kernel
theorem dX3_standsOut_8 : decode cX3_standsOut 8 = .ok (.invokevirtual 73, 3) := by decide +kernel
theorem dX3_standsOut_11 : decode cX3_standsOut 11 = .ok (.istore 6, 2) := by decide +kernel
theorem dX3_standsOut_13 : decode cX3_standsOut 13 = .ok (.iload_n 3, 1) := by decide +kernel
theorem dX3_standsOut_14 : decode cX3_standsOut 14 = .ok (.istore 7, 2) := by decide +kernel
theorem dX3_standsOut_16 : decode cX3_standsOut 16 = .ok (.iconst 0, 1) := by decide +kernel
theorem dX3_standsOut_17 : decode cX3_standsOut 17 = .ok (.istore 8, 2) := by decide +kernel
theorem dX3_standsOut_19 : decode cX3_standsOut 19 = .ok (.iconst 0, 1) := by decide +kernel
theorem dX3_standsOut_20 : decode cX3_standsOut 20 = .ok (.istore 9, 2) := by decide +kernel
theorem dX3_standsOut_22 : decode cX3_standsOut 22 = .ok (.iload 9, 2) := by decide +kernel
theorem dX3_standsOut_24 : decode cX3_standsOut 24 = .ok (.iload_n 2, 1) := by decide +kernel
theorem dX3_standsOut_25 : decode cX3_standsOut 25 = .ok (.if_icmp .ge 42, 3) := by decide +kernel
theorem dX3_standsOut_28 : decode cX3_standsOut 28 = .ok (.iload 8, 2) := by decide +kernel
theorem dX3_standsOut_30 : decode cX3_standsOut 30 = .ok (.iload 4, 2) := by decide +kernel
theorem dX3_standsOut_32 : decode cX3_standsOut 32 = .ok (.if_icmp .gt 35, 3) := by decide +kernel
theorem dX3_standsOut_35 : decode cX3_standsOut 35 = .ok (.aload_n 0, 1) := by decide +kernel
theorem dX3_standsOut_36 : decode cX3_standsOut 36 = .ok (.iload 6, 2) := by decide +kernel
theorem dX3_standsOut_38 : decode cX3_standsOut 38 = .ok (.iload 7, 2) := by decide +kernel
theorem dX3_standsOut_40 : decode cX3_standsOut 40 = .ok (.invokevirtual 76, 3) := by decide +kernel
theorem dX3_standsOut_43 : decode cX3_standsOut 43 = .ok (.istore 7, 2) := by decide +kernel
theorem dX3_standsOut_45 : decode cX3_standsOut 45 = .ok (.iload 5, 2) := by decide +kernel
theorem dX3_standsOut_47 : decode cX3_standsOut 47 = .ok (.aload_n 0, 1) := by decide +kernel
theorem dX3_standsOut_48 : decode cX3_standsOut 48 = .ok (.aload_n 0, 1) := by decide +kernel
theorem dX3_standsOut_49 : decode cX3_standsOut 49 = .ok (.invokevirtual 80, 3) := by decide +kernel
theorem dX3_standsOut_52 : decode cX3_standsOut 52 = .ok (.invokevirtual 70, 3) := by decide +kernel
theorem dX3_standsOut_55 : decode cX3_standsOut 55 = .ok (.if_icmp .gt 6, 3) := by decide +kernel
theorem dX3_standsOut_58 : decode cX3_standsOut 58 = .ok (.iinc 8 1, 3) := by decide +kernel
theorem dX3_standsOut_61 : decode cX3_standsOut 61 = .ok (.iinc 9 1, 3) := by decide +kernel
theorem dX3_standsOut_64 : decode cX3_standsOut 64 = .ok (.goto (-42), 3) := by decide +kernel
theorem dX3_standsOut_67 : decode cX3_standsOut 67 = .ok (.iload 8, 2) := by decide +kernel
theorem dX3_standsOut_69 : decode cX3_standsOut 69 = .ok (.iload 4, 2) := by decide +kernel
theorem dX3_standsOut_71 : decode cX3_standsOut 71 = .ok (.if_icmp .gt 7, 3) := by decide +kernel
theorem dX3_standsOut_74 : decode cX3_standsOut 74 = .ok (.iconst 1, 1) := by decide +kernel
theorem dX3_standsOut_75 : decode cX3_standsOut 75 = .ok (.goto 4, 3) := by decide +kernel
theorem dX3_standsOut_78 : decode cX3_standsOut 78 = .ok (.iconst 0, 1) := by decide +kernel
theorem dX3_standsOut_79 : decode cX3_standsOut 79 = .ok (.ireturn, 1) := by decide +kernel

theorem dX7_isMissing_0 : decode cX7_isMissing 0 = .ok (.aload_n 0, 1) := by decide +kernel
theorem dX7_isMissing_1 : decode cX7_isMissing 1 = .ok (.getfield 15, 3) := by decide +kernel
theorem dX7_isMissing_4 : decode cX7_isMissing 4 = .ok (.iconst (-1), 1) := by decide +kernel
theorem dX7_isMissing_5 : decode cX7_isMissing 5 = .ok (.if_icmp .ne 7, 3) := by decide +kernel
theorem dX7_isMissing_8 : decode cX7_isMissing 8 = .ok (.iconst 1, 1) := by decide +kernel
theorem dX7_isMissing_9 : decode cX7_isMissing 9 = .ok (.goto 4, 3) := by decide +kernel
theorem dX7_isMissing_12 : decode cX7_isMissing 12 = .ok (.iconst 0, 1) := by decide +kernel
theorem dX7_isMissing_13 : decode cX7_isMissing 13 = .ok (.ireturn, 1) := by decide +kernel

set_option maxHeartbeats 4000000 in
set_option maxRecDepth 100000 in
theorem c_X7_isMissing_11 (l : Launch) (E : Ev) {A : Nat → Prop} (ad : Nat → Nat) (hA : Oka 39 ad A) (sc : Nat → Int32) (ar : Nat → Nat → Int32) (bl : Int64)  : Ct l E yX7_isMissing (.code yX7_isMissing cX7_isMissing 1 (some .boolean)) ({ frames := 0, cells := 0, slots := 0, locals := 0 }) A (cw E ad sc ar bl) [.ref (ad 11)] (some (.int (bI (decide (sc 17 = (-1)))))) (cw E ad sc ar bl) := by
  refine Ct.of (lv := [(0, .ref (ad 11))]) (by decide +kernel) (Nat.le_of_ble_eq_true rfl) rfl ?_
  intro zp ze zs zm za zb zh zc hc
  refine g_aload_n (pc := 0) hc 0 dX7_isMissing_0 rfl rfl ?_
  refine gf_c11_size (pc := 1) hc tw_176 dX7_isMissing_1 ?_
  refine g_iconst (pc := 4) (v := (-1)) hc dX7_isMissing_4 (by decide) ?_
  refine g_icmp_ne (pc := 5) hc 12 dX7_isMissing_5 (by decide) (fun c1 => ?_) (fun c1 => ?_)
  · refine g_iconst (pc := 12) (v := nI 0) hc dX7_isMissing_12 (by decide) ?_
    exact g_zret (pc := 13) hc dX7_isMissing_13 (by decide) (by simp [bI, c1] <;> rfl) (rfl)
  · refine g_iconst (pc := 8) (v := nI 1) hc dX7_isMissing_8 (by decide) ?_
    refine g_goto (pc := 9) hc 13 dX7_isMissing_9 (by decide) ?_
    exact g_zret (pc := 13) hc dX7_isMissing_13 (by decide) (by simp [bI, c1] <;> rfl) (rfl)

theorem dJ7_fill_fb410_0 : decode cJ7_fill_fb410 0 = .ok (.iconst 0, 1) := by decide +kernel
theorem dJ7_fill_fb410_1 : decode cJ7_fill_fb410 1 = .ok (.istore_n 2, 1) := by decide +kernel
theorem dJ7_fill_fb410_2 : decode cJ7_fill_fb410 2 = .ok (.aload_n 0, 1) := by decide +kernel
theorem dJ7_fill_fb410_3 : decode cJ7_fill_fb410 3 = .ok (.arraylength, 1) := by decide +kernel
theorem dJ7_fill_fb410_4 : decode cJ7_fill_fb410 4 = .ok (.istore_n 3, 1) := by decide +kernel
theorem dJ7_fill_fb410_5 : decode cJ7_fill_fb410 5 = .ok (.iload_n 2, 1) := by decide +kernel
theorem dJ7_fill_fb410_6 : decode cJ7_fill_fb410 6 = .ok (.iload_n 3, 1) := by decide +kernel
theorem dJ7_fill_fb410_7 : decode cJ7_fill_fb410 7 = .ok (.if_icmp .ge 13, 3) := by decide +kernel
theorem dJ7_fill_fb410_10 : decode cJ7_fill_fb410 10 = .ok (.aload_n 0, 1) := by decide +kernel
theorem dJ7_fill_fb410_11 : decode cJ7_fill_fb410 11 = .ok (.iload_n 2, 1) := by decide +kernel
theorem dJ7_fill_fb410_12 : decode cJ7_fill_fb410 12 = .ok (.iload_n 1, 1) := by decide +kernel
theorem dJ7_fill_fb410_13 : decode cJ7_fill_fb410 13 = .ok (.sastore, 1) := by decide +kernel
theorem dJ7_fill_fb410_14 : decode cJ7_fill_fb410 14 = .ok (.iinc 2 1, 3) := by decide +kernel
theorem dJ7_fill_fb410_17 : decode cJ7_fill_fb410 17 = .ok (.goto (-12), 3) := by decide +kernel
theorem dJ7_fill_fb410_20 : decode cJ7_fill_fb410 20 = .ok (.return_, 1) := by decide +kernel

set_option maxHeartbeats 4000000 in
set_option maxRecDepth 100000 in
theorem c_fill37 (l : Launch) (E : Ev) {A : Nat → Prop} (ad : Nat → Nat) (hA : Oka 39 ad A) (sc : Nat → Int32) (ar : Nat → Nat → Int32) (bl : Int64) (v : Int32) : Ct l E yJ7_fill_fb410 (.code yJ7_fill_fb410 cJ7_fill_fb410 4 none) ({ frames := 0, cells := 0, slots := 0, locals := 0 }) A (cw E ad sc ar bl) [.ref (ad 37), .int v] (none) (cw E ad sc (va_up ar 37 (fil (vp_nar .short v) (ar 37) 64)) bl) := by
  refine Ct.of (lv := [(0, .ref (ad 37)), (1, .int v)]) (by decide +kernel) (Nat.le_of_ble_eq_true rfl) rfl ?_
  intro zp ze zs zm za zb zh zc hc
  refine g_iconst (pc := 0) (v := nI 0) hc dJ7_fill_fb410_0 (by decide) ?_
  refine g_istore_n (pc := 1) (lv' := [(0, .ref (ad 37)), (1, .int v), (2, .int (nI 0))]) hc dJ7_fill_fb410_1 rfl (by decide) rfl ?_
  refine g_aload_n (pc := 2) hc 0 dJ7_fill_fb410_2 rfl rfl ?_
  refine g_alen (pc := 3) hc 37 3 rfl rfl (v := nI 64) rfl dJ7_fill_fb410_3 ?_
  refine g_istore_n (pc := 4) (lv' := [(0, .ref (ad 37)), (1, .int v), (2, .int (nI 0)), (3, .int (nI 64))]) hc dJ7_fill_fb410_4 rfl (by decide) rfl ?_
  have L5_1 : ∀ (ki i : Nat), i + ki = 64 → G zp l ze ({ frames := 0, cells := 0, slots := 0, locals := 0 }) zs zm za zb zh zc 0 0 (MQ zb (Qz E A (none) (cw E ad sc (va_up ar 37 (fil (vp_nar .short v) (ar 37) 64)) bl)) za zs 0 0 A) E A 4 (cw E ad sc (va_up ar 37 (fil (vp_nar .short v) (ar 37) (i))) bl) (5) [(0, .ref (ad 37)), (1, .int v), (2, .int (nI (i))), (3, .int (nI 64))] [] := by
    intro ki
    induction ki with
    | zero =>
      intro i lhi
      have lhin : 64 = i := by omega
      subst lhin
      refine g_iload_n (pc := 5) hc 2 dJ7_fill_fb410_5 rfl rfl ?_
      refine g_iload_n (pc := 6) hc 3 dJ7_fill_fb410_6 rfl rfl ?_
      refine g_icmp_ge_t (pc := 7) hc 20 dJ7_fill_fb410_7 (by decide) (nI_le (by omega) (by omega)) ?_
      exact g_vret (pc := 20) hc dJ7_fill_fb410_20 rfl (rfl)
    | succ ki ihi =>
      intro i lhi
      have lhin : i < 64 := by omega
      refine g_iload_n (pc := 5) hc 2 dJ7_fill_fb410_5 rfl rfl ?_
      refine g_iload_n (pc := 6) hc 3 dJ7_fill_fb410_6 rfl rfl ?_
      refine g_icmp_ge_f (pc := 7) hc 20 dJ7_fill_fb410_7 (by decide) (nI_ge (by omega) (by omega)) ?_
      refine g_aload_n (pc := 10) hc 0 dJ7_fill_fb410_10 rfl rfl ?_
      refine g_iload_n (pc := 11) hc 2 dJ7_fill_fb410_11 rfl rfl ?_
      refine g_iload_n (pc := 12) hc 1 dJ7_fill_fb410_12 rfl rfl ?_
      refine sa_c37 (pc := 13) hc hA (i) (rfl) (by omega) dJ7_fill_fb410_13 ?_
      refine g_eq (ws' := cw E ad sc (va_up ar 37 (upd (fil (vp_nar .short v) (ar 37) (i)) i (vp_nar .short v))) bl) (lv' := [(0, .ref (ad 37)), (1, .int v), (2, .int (nI (i))), (3, .int (nI 64))]) rfl rfl rfl ?_
      refine g_iinc (pc := 14) (v := nI (i + 1)) (lv' := [(0, .ref (ad 37)), (1, .int v), (2, .int (nI (i + 1))), (3, .int (nI 64))]) hc 2 dJ7_fill_fb410_14 rfl (nI_ofi i 1) (by decide) rfl ?_
      refine g_goto (pc := 17) hc 5 dJ7_fill_fb410_17 (by decide) ?_
      exact g_eq (ws' := cw E ad sc (va_up ar 37 (fil (vp_nar .short v) (ar 37) (i + 1))) bl) (lv' := [(0, .ref (ad 37)), (1, .int v), (2, .int (nI (i + 1))), (3, .int (nI 64))]) (by rw [fil_succ]) (rfl) rfl (ihi (i + 1) (by omega))
  exact g_eq (ws' := cw E ad sc (va_up ar 37 (fil (vp_nar .short v) (ar 37) (0))) bl) (lv' := [(0, .ref (ad 37)), (1, .int v), (2, .int (nI (0))), (3, .int (nI 64))]) (by rw [fil_0]; rfl) (rfl) rfl (L5_1 (64 - 0) (0) (by omega))

theorem dX7_renew_0 : decode cX7_renew 0 = .ok (.aload_n 0, 1) := by decide +kernel
theorem dX7_renew_1 : decode cX7_renew 1 = .ok (.iload_n 1, 1) := by decide +kernel
theorem dX7_renew_2 : decode cX7_renew 2 = .ok (.putfield 15, 3) := by decide +kernel
theorem dX7_renew_5 : decode cX7_renew 5 = .ok (.aload_n 0, 1) := by decide +kernel
theorem dX7_renew_6 : decode cX7_renew 6 = .ok (.getfield 11, 3) := by decide +kernel
theorem dX7_renew_9 : decode cX7_renew 9 = .ok (.iconst 0, 1) := by decide +kernel
theorem dX7_renew_10 : decode cX7_renew 10 = .ok (.invokestatic 19, 3) := by decide +kernel
theorem dX7_renew_13 : decode cX7_renew 13 = .ok (.return_, 1) := by decide +kernel

set_option maxHeartbeats 4000000 in
set_option maxRecDepth 100000 in
theorem c_X7_renew_11 (l : Launch) (E : Ev) {A : Nat → Prop} (ad : Nat → Nat) (hA : Oka 39 ad A) (sc : Nat → Int32) (ar : Nat → Nat → Int32) (bl : Int64) (x : Int32) : Ct l E yX7_renew (.code yX7_renew cX7_renew 2 none) ({ frames := 1, cells := 0, slots := 0, locals := 23 }) A (cw E ad sc ar bl) [.ref (ad 11), .int x] (none) (cw E ad (va_up sc 17 x) (va_up ar 37 (fil (vp_nar .short (nI 0)) (ar 37) 64)) bl) := by
  refine Ct.of (lv := [(0, .ref (ad 11)), (1, .int x)]) (by decide +kernel) (Nat.le_of_ble_eq_true rfl) rfl ?_
  intro zp ze zs zm za zb zh zc hc
  refine g_aload_n (pc := 0) hc 0 dX7_renew_0 rfl rfl ?_
  refine g_iload_n (pc := 1) hc 1 dX7_renew_1 rfl rfl ?_
  refine pf_c11_size (pc := 2) hc hA tw_176 dX7_renew_2 ?_
  refine g_aload_n (pc := 5) hc 0 dX7_renew_5 rfl rfl ?_
  refine gf_c11_places (pc := 6) hc tw_175 dX7_renew_6 ?_
  refine g_iconst (pc := 9) (v := nI 0) hc dX7_renew_9 (by decide) ?_
  refine g_callSv (pc := 10) (rest := []) (As := [.ref (ad 37), .int (nI 0)]) hc (c_fill37 l E ad hA (va_up sc 17 x) ar bl (nI 0)) mi_J7_fill_fb410 tw_931 rfl ⟨rfl, rfl, by decide, by decide⟩ (Nat.le_of_ble_eq_true rfl) ⟨Nat.le_refl _, Nat.le_refl _⟩ rfl dX7_renew_10 ?_
  refine g_eq (ws' := cw E ad (va_up sc 17 x) (va_up ar 37 (fil (vp_nar .short (nI 0)) (ar 37) 64)) bl) (lv' := [(0, .ref (ad 11)), (1, .int x)]) (rfl) rfl rfl ?_
  exact g_vret (pc := 13) hc dX7_renew_13 rfl (rfl)

theorem dX7_vanish_0 : decode cX7_vanish 0 = .ok (.aload_n 0, 1) := by decide +kernel
theorem dX7_vanish_1 : decode cX7_vanish 1 = .ok (.getfield 15, 3) := by decide +kernel
theorem dX7_vanish_4 : decode cX7_vanish 4 = .ok (.istore_n 1, 1) := by decide +kernel
theorem dX7_vanish_5 : decode cX7_vanish 5 = .ok (.aload_n 0, 1) := by decide +kernel
theorem dX7_vanish_6 : decode cX7_vanish 6 = .ok (.iconst (-1), 1) := by decide +kernel
theorem dX7_vanish_7 : decode cX7_vanish 7 = .ok (.putfield 15, 3) := by decide +kernel
theorem dX7_vanish_10 : decode cX7_vanish 10 = .ok (.iload_n 1, 1) := by decide +kernel
theorem dX7_vanish_11 : decode cX7_vanish 11 = .ok (.ireturn, 1) := by decide +kernel

set_option maxHeartbeats 4000000 in
set_option maxRecDepth 100000 in
theorem c_X7_vanish_11 (l : Launch) (E : Ev) {A : Nat → Prop} (ad : Nat → Nat) (hA : Oka 39 ad A) (sc : Nat → Int32) (ar : Nat → Nat → Int32) (bl : Int64)  : Ct l E yX7_vanish (.code yX7_vanish cX7_vanish 2 (some .int)) ({ frames := 0, cells := 0, slots := 0, locals := 0 }) A (cw E ad sc ar bl) [.ref (ad 11)] (some (.int (sc 17))) (cw E ad (va_up sc 17 (-1)) ar bl) := by
  refine Ct.of (lv := [(0, .ref (ad 11))]) (by decide +kernel) (Nat.le_of_ble_eq_true rfl) rfl ?_
  intro zp ze zs zm za zb zh zc hc
  refine g_aload_n (pc := 0) hc 0 dX7_vanish_0 rfl rfl ?_
  refine gf_c11_size (pc := 1) hc tw_176 dX7_vanish_1 ?_
  refine g_istore_n (pc := 4) (lv' := [(0, .ref (ad 11)), (1, .int (sc 17))]) hc dX7_vanish_4 rfl (by decide) rfl ?_
  refine g_aload_n (pc := 5) hc 0 dX7_vanish_5 rfl rfl ?_
  refine g_iconst (pc := 6) (v := (-1)) hc dX7_vanish_6 (by decide) ?_
  refine pf_c11_size (pc := 7) hc hA tw_176 dX7_vanish_7 ?_
  refine g_iload_n (pc := 10) hc 1 dX7_vanish_10 rfl rfl ?_
  exact g_iret (pc := 11) hc dX7_vanish_11 (rfl) (rfl)

theorem dX7_has_0 : decode cX7_has 0 = .ok (.iload_n 1, 1) := by decide +kernel
theorem dX7_has_1 : decode cX7_has 1 = .ok (.ifCond .lt 15, 3) := by decide +kernel
theorem dX7_has_4 : decode cX7_has 4 = .ok (.iload_n 1, 1) := by decide +kernel
theorem dX7_has_5 : decode cX7_has 5 = .ok (.aload_n 0, 1) := by decide +kernel
theorem dX7_has_6 : decode cX7_has 6 = .ok (.getfield 15, 3) := by decide +kernel
theorem dX7_has_9 : decode cX7_has 9 = .ok (.if_icmp .ge 7, 3) := by decide +kernel
theorem dX7_has_12 : decode cX7_has 12 = .ok (.iconst 1, 1) := by decide +kernel
theorem dX7_has_13 : decode cX7_has 13 = .ok (.goto 4, 3) := by decide +kernel
theorem dX7_has_16 : decode cX7_has 16 = .ok (.iconst 0, 1) := by decide +kernel
theorem dX7_has_17 : decode cX7_has 17 = .ok (.ireturn, 1) := by decide +kernel

set_option maxHeartbeats 4000000 in
set_option maxRecDepth 100000 in
theorem c_X7_has_11 (l : Launch) (E : Ev) {A : Nat → Prop} (ad : Nat → Nat) (hA : Oka 39 ad A) (sc : Nat → Int32) (ar : Nat → Nat → Int32) (bl : Int64) (x : Int32) : Ct l E yX7_has (.code yX7_has cX7_has 2 (some .boolean)) ({ frames := 0, cells := 0, slots := 0, locals := 0 }) A (cw E ad sc ar bl) [.ref (ad 11), .int x] (some (.int (bI (inx x (sc 17))))) (cw E ad sc ar bl) := by
  refine Ct.of (lv := [(0, .ref (ad 11)), (1, .int x)]) (by decide +kernel) (Nat.le_of_ble_eq_true rfl) rfl ?_
  intro zp ze zs zm za zb zh zc hc
  refine g_iload_n (pc := 0) hc 1 dX7_has_0 rfl rfl ?_
  refine g_if_lt (pc := 1) hc 16 dX7_has_1 (by decide) (fun c1 => ?_) (fun c1 => ?_)
  · refine g_iconst (pc := 16) (v := nI 0) hc dX7_has_16 (by decide) ?_
    exact g_zret (pc := 17) hc dX7_has_17 (by decide) (by simp [bI, inx, c1] <;> rfl) (rfl)
  · refine g_iload_n (pc := 4) hc 1 dX7_has_4 rfl rfl ?_
    refine g_aload_n (pc := 5) hc 0 dX7_has_5 rfl rfl ?_
    refine gf_c11_size (pc := 6) hc tw_176 dX7_has_6 ?_
    refine g_icmp_ge (pc := 9) hc 16 dX7_has_9 (by decide) (fun c2 => ?_) (fun c2 => ?_)
    · refine g_iconst (pc := 16) (v := nI 0) hc dX7_has_16 (by decide) ?_
      exact g_zret (pc := 17) hc dX7_has_17 (by decide) (by simp [bI, inx, c1, c2] <;> rfl) (rfl)
    · refine g_iconst (pc := 12) (v := nI 1) hc dX7_has_12 (by decide) ?_
      refine g_goto (pc := 13) hc 17 dX7_has_13 (by decide) ?_
      exact g_zret (pc := 17) hc dX7_has_17 (by decide) (by simp [bI, inx, c1, c2] <;> rfl) (rfl)

theorem dX7_hasRun_0 : decode cX7_hasRun 0 = .ok (.iload_n 1, 1) := by decide +kernel
theorem dX7_hasRun_1 : decode cX7_hasRun 1 = .ok (.ifCond .lt 21, 3) := by decide +kernel
theorem dX7_hasRun_4 : decode cX7_hasRun 4 = .ok (.iload_n 2, 1) := by decide +kernel
theorem dX7_hasRun_5 : decode cX7_hasRun 5 = .ok (.ifCond .lt 17, 3) := by decide +kernel
theorem dX7_hasRun_8 : decode cX7_hasRun 8 = .ok (.iload_n 1, 1) := by decide +kernel
theorem dX7_hasRun_9 : decode cX7_hasRun 9 = .ok (.aload_n 0, 1) := by decide +kernel
theorem dX7_hasRun_10 : decode cX7_hasRun 10 = .ok (.getfield 15, 3) := by decide +kernel
theorem dX7_hasRun_13 : decode cX7_hasRun 13 = .ok (.iload_n 2, 1) := by decide +kernel
theorem dX7_hasRun_14 : decode cX7_hasRun 14 = .ok (.isub, 1) := by decide +kernel
theorem dX7_hasRun_15 : decode cX7_hasRun 15 = .ok (.if_icmp .gt 7, 3) := by decide +kernel
theorem dX7_hasRun_18 : decode cX7_hasRun 18 = .ok (.iconst 1, 1) := by decide +kernel
theorem dX7_hasRun_19 : decode cX7_hasRun 19 = .ok (.goto 4, 3) := by decide +kernel
theorem dX7_hasRun_22 : decode cX7_hasRun 22 = .ok (.iconst 0, 1) := by decide +kernel
theorem dX7_hasRun_23 : decode cX7_hasRun 23 = .ok (.ireturn, 1) := by decide +kernel

set_option maxHeartbeats 4000000 in
set_option maxRecDepth 100000 in
theorem c_X7_hasRun_11 (l : Launch) (E : Ev) {A : Nat → Prop} (ad : Nat → Nat) (hA : Oka 39 ad A) (sc : Nat → Int32) (ar : Nat → Nat → Int32) (bl : Int64) (x : Int32) (y : Int32) : Ct l E yX7_hasRun (.code yX7_hasRun cX7_hasRun 3 (some .boolean)) ({ frames := 0, cells := 0, slots := 0, locals := 0 }) A (cw E ad sc ar bl) [.ref (ad 11), .int x, .int y] (some (.int (bI (hrun x y (sc 17))))) (cw E ad sc ar bl) := by
  refine Ct.of (lv := [(0, .ref (ad 11)), (1, .int x), (2, .int y)]) (by decide +kernel) (Nat.le_of_ble_eq_true rfl) rfl ?_
  intro zp ze zs zm za zb zh zc hc
  refine g_iload_n (pc := 0) hc 1 dX7_hasRun_0 rfl rfl ?_
  refine g_if_lt (pc := 1) hc 22 dX7_hasRun_1 (by decide) (fun c1 => ?_) (fun c1 => ?_)
  · refine g_iconst (pc := 22) (v := nI 0) hc dX7_hasRun_22 (by decide) ?_
    exact g_zret (pc := 23) hc dX7_hasRun_23 (by decide) (by unfold hrun; repeat (first | rw [if_pos c1] | rw [if_neg c1] | rw [if_neg (ne_true_of_eq_false c1)]); try rfl) (rfl)
  · refine g_iload_n (pc := 4) hc 2 dX7_hasRun_4 rfl rfl ?_
    refine g_if_lt (pc := 5) hc 22 dX7_hasRun_5 (by decide) (fun c2 => ?_) (fun c2 => ?_)
    · refine g_iconst (pc := 22) (v := nI 0) hc dX7_hasRun_22 (by decide) ?_
      exact g_zret (pc := 23) hc dX7_hasRun_23 (by decide) (by unfold hrun; repeat (first | rw [if_pos c1] | rw [if_neg c1] | rw [if_neg (ne_true_of_eq_false c1)] | rw [if_pos c2] | rw [if_neg c2] | rw [if_neg (ne_true_of_eq_false c2)]); try rfl) (rfl)
    · refine g_iload_n (pc := 8) hc 1 dX7_hasRun_8 rfl rfl ?_
      refine g_aload_n (pc := 9) hc 0 dX7_hasRun_9 rfl rfl ?_
      refine gf_c11_size (pc := 10) hc tw_176 dX7_hasRun_10 ?_
      refine g_iload_n (pc := 13) hc 2 dX7_hasRun_13 rfl rfl ?_
      refine g_isub (pc := 14) hc dX7_hasRun_14 ?_
      refine g_icmp_gt (pc := 15) hc 22 dX7_hasRun_15 (by decide) (fun c3 => ?_) (fun c3 => ?_)
      · refine g_iconst (pc := 22) (v := nI 0) hc dX7_hasRun_22 (by decide) ?_
        exact g_zret (pc := 23) hc dX7_hasRun_23 (by decide) (by unfold hrun; repeat (first | rw [if_pos c1] | rw [if_neg c1] | rw [if_neg (ne_true_of_eq_false c1)] | rw [if_pos c2] | rw [if_neg c2] | rw [if_neg (ne_true_of_eq_false c2)] | rw [if_pos c3] | rw [if_neg c3] | rw [if_neg (ne_true_of_eq_false c3)]); try rfl) (rfl)
      · refine g_iconst (pc := 18) (v := nI 1) hc dX7_hasRun_18 (by decide) ?_
        refine g_goto (pc := 19) hc 23 dX7_hasRun_19 (by decide) ?_
        exact g_zret (pc := 23) hc dX7_hasRun_23 (by decide) (by unfold hrun; repeat (first | rw [if_pos c1] | rw [if_neg c1] | rw [if_neg (ne_true_of_eq_false c1)] | rw [if_pos c2] | rw [if_neg c2] | rw [if_neg (ne_true_of_eq_false c2)] | rw [if_pos c3] | rw [if_neg c3] | rw [if_neg (ne_true_of_eq_false c3)]); try rfl) (rfl)

theorem dX7_at_0 : decode cX7_at 0 = .ok (.aload_n 0, 1) := by decide +kernel
theorem dX7_at_1 : decode cX7_at 1 = .ok (.getfield 11, 3) := by decide +kernel
theorem dX7_at_4 : decode cX7_at 4 = .ok (.iload_n 1, 1) := by decide +kernel
theorem dX7_at_5 : decode cX7_at 5 = .ok (.saload, 1) := by decide +kernel
theorem dX7_at_6 : decode cX7_at 6 = .ok (.ireturn, 1) := by decide +kernel

set_option maxHeartbeats 4000000 in
set_option maxRecDepth 100000 in
theorem c_X7_at_11 (l : Launch) (E : Ev) {A : Nat → Prop} (ad : Nat → Nat) (hA : Oka 39 ad A) (sc : Nat → Int32) (ar : Nat → Nat → Int32) (bl : Int64) (j : Nat) (hj : j < 64) : Ct l E yX7_at (.code yX7_at cX7_at 2 (some .int)) ({ frames := 0, cells := 0, slots := 0, locals := 0 }) A (cw E ad sc ar bl) [.ref (ad 11), .int (nI j)] (some (.int ((ar 37) j))) (cw E ad sc ar bl) := by
  refine Ct.of (lv := [(0, .ref (ad 11)), (1, .int (nI j))]) (by decide +kernel) (Nat.le_of_ble_eq_true rfl) rfl ?_
  intro zp ze zs zm za zb zh zc hc
  refine g_aload_n (pc := 0) hc 0 dX7_at_0 rfl rfl ?_
  refine gf_c11_places (pc := 1) hc tw_175 dX7_at_1 ?_
  refine g_iload_n (pc := 4) hc 1 dX7_at_4 rfl rfl ?_
  refine la_c37 (pc := 5) hc (j) (rfl) (by omega) dX7_at_5 ?_
  exact g_iret (pc := 6) hc dX7_at_6 (rfl) (rfl)

theorem dX7_put_0 : decode cX7_put 0 = .ok (.aload_n 0, 1) := by decide +kernel
theorem dX7_put_1 : decode cX7_put 1 = .ok (.getfield 11, 3) := by decide +kernel
theorem dX7_put_4 : decode cX7_put 4 = .ok (.iload_n 1, 1) := by decide +kernel
theorem dX7_put_5 : decode cX7_put 5 = .ok (.saload, 1) := by decide +kernel
theorem dX7_put_6 : decode cX7_put 6 = .ok (.istore_n 3, 1) := by decide +kernel
theorem dX7_put_7 : decode cX7_put 7 = .ok (.aload_n 0, 1) := by decide +kernel
theorem dX7_put_8 : decode cX7_put 8 = .ok (.getfield 11, 3) := by decide +kernel
theorem dX7_put_11 : decode cX7_put 11 = .ok (.iload_n 1, 1) := by decide +kernel
theorem dX7_put_12 : decode cX7_put 12 = .ok (.iload_n 2, 1) := by decide +kernel
theorem dX7_put_13 : decode cX7_put 13 = .ok (.i2s, 1) := by decide +kernel
theorem dX7_put_14 : decode cX7_put 14 = .ok (.sastore, 1) := by decide +kernel
theorem dX7_put_15 : decode cX7_put 15 = .ok (.iload_n 3, 1) := by decide +kernel
theorem dX7_put_16 : decode cX7_put 16 = .ok (.ireturn, 1) := by decide +kernel

set_option maxHeartbeats 4000000 in
set_option maxRecDepth 100000 in
theorem c_X7_put_11 (l : Launch) (E : Ev) {A : Nat → Prop} (ad : Nat → Nat) (hA : Oka 39 ad A) (sc : Nat → Int32) (ar : Nat → Nat → Int32) (bl : Int64) (j : Nat) (v : Int32) (hj : j < 64) : Ct l E yX7_put (.code yX7_put cX7_put 4 (some .int)) ({ frames := 0, cells := 0, slots := 0, locals := 0 }) A (cw E ad sc ar bl) [.ref (ad 11), .int (nI j), .int v] (some (.int ((ar 37) j))) (cw E ad sc (va_up ar 37 (upd (ar 37) j (vp_nar .short (v : Int32).toInt16.toInt32))) bl) := by
  refine Ct.of (lv := [(0, .ref (ad 11)), (1, .int (nI j)), (2, .int v)]) (by decide +kernel) (Nat.le_of_ble_eq_true rfl) rfl ?_
  intro zp ze zs zm za zb zh zc hc
  refine g_aload_n (pc := 0) hc 0 dX7_put_0 rfl rfl ?_
  refine gf_c11_places (pc := 1) hc tw_175 dX7_put_1 ?_
  refine g_iload_n (pc := 4) hc 1 dX7_put_4 rfl rfl ?_
  refine la_c37 (pc := 5) hc (j) (rfl) (by omega) dX7_put_5 ?_
  refine g_istore_n (pc := 6) (lv' := [(0, .ref (ad 11)), (1, .int (nI j)), (2, .int v), (3, .int ((ar 37) j))]) hc dX7_put_6 rfl (by decide) rfl ?_
  refine g_aload_n (pc := 7) hc 0 dX7_put_7 rfl rfl ?_
  refine gf_c11_places (pc := 8) hc tw_175 dX7_put_8 ?_
  refine g_iload_n (pc := 11) hc 1 dX7_put_11 rfl rfl ?_
  refine g_iload_n (pc := 12) hc 2 dX7_put_12 rfl rfl ?_
  refine g_i2s (pc := 13) (v := (v : Int32).toInt16.toInt32) hc dX7_put_13 rfl ?_
  refine sa_c37 (pc := 14) hc hA (j) (rfl) (by omega) dX7_put_14 ?_
  refine g_iload_n (pc := 15) hc 3 dX7_put_15 rfl rfl ?_
  exact g_iret (pc := 16) hc dX7_put_16 (rfl) (rfl)

set_option maxHeartbeats 4000000 in
set_option maxRecDepth 100000 in
theorem c_X7_isMissing_12 (l : Launch) (E : Ev) {A : Nat → Prop} (ad : Nat → Nat) (hA : Oka 39 ad A) (sc : Nat → Int32) (ar : Nat → Nat → Int32) (bl : Int64)  : Ct l E yX7_isMissing (.code yX7_isMissing cX7_isMissing 1 (some .boolean)) ({ frames := 0, cells := 0, slots := 0, locals := 0 }) A (cw E ad sc ar bl) [.ref (ad 12)] (some (.int (bI (decide (sc 18 = (-1)))))) (cw E ad sc ar bl) := by
  refine Ct.of (lv := [(0, .ref (ad 12))]) (by decide +kernel) (Nat.le_of_ble_eq_true rfl) rfl ?_
  intro zp ze zs zm za zb zh zc hc
  refine g_aload_n (pc := 0) hc 0 dX7_isMissing_0 rfl rfl ?_
  refine gf_c12_size (pc := 1) hc tw_176 dX7_isMissing_1 ?_
  refine g_iconst (pc := 4) (v := (-1)) hc dX7_isMissing_4 (by decide) ?_
  refine g_icmp_ne (pc := 5) hc 12 dX7_isMissing_5 (by decide) (fun c1 => ?_) (fun c1 => ?_)
  · refine g_iconst (pc := 12) (v := nI 0) hc dX7_isMissing_12 (by decide) ?_
    exact g_zret (pc := 13) hc dX7_isMissing_13 (by decide) (by simp [bI, c1] <;> rfl) (rfl)
  · refine g_iconst (pc := 8) (v := nI 1) hc dX7_isMissing_8 (by decide) ?_
    refine g_goto (pc := 9) hc 13 dX7_isMissing_9 (by decide) ?_
    exact g_zret (pc := 13) hc dX7_isMissing_13 (by decide) (by simp [bI, c1] <;> rfl) (rfl)

set_option maxHeartbeats 4000000 in
set_option maxRecDepth 100000 in
theorem c_fill38 (l : Launch) (E : Ev) {A : Nat → Prop} (ad : Nat → Nat) (hA : Oka 39 ad A) (sc : Nat → Int32) (ar : Nat → Nat → Int32) (bl : Int64) (v : Int32) : Ct l E yJ7_fill_fb410 (.code yJ7_fill_fb410 cJ7_fill_fb410 4 none) ({ frames := 0, cells := 0, slots := 0, locals := 0 }) A (cw E ad sc ar bl) [.ref (ad 38), .int v] (none) (cw E ad sc (va_up ar 38 (fil (vp_nar .short v) (ar 38) 64)) bl) := by
  refine Ct.of (lv := [(0, .ref (ad 38)), (1, .int v)]) (by decide +kernel) (Nat.le_of_ble_eq_true rfl) rfl ?_
  intro zp ze zs zm za zb zh zc hc
  refine g_iconst (pc := 0) (v := nI 0) hc dJ7_fill_fb410_0 (by decide) ?_
  refine g_istore_n (pc := 1) (lv' := [(0, .ref (ad 38)), (1, .int v), (2, .int (nI 0))]) hc dJ7_fill_fb410_1 rfl (by decide) rfl ?_
  refine g_aload_n (pc := 2) hc 0 dJ7_fill_fb410_2 rfl rfl ?_
  refine g_alen (pc := 3) hc 38 3 rfl rfl (v := nI 64) rfl dJ7_fill_fb410_3 ?_
  refine g_istore_n (pc := 4) (lv' := [(0, .ref (ad 38)), (1, .int v), (2, .int (nI 0)), (3, .int (nI 64))]) hc dJ7_fill_fb410_4 rfl (by decide) rfl ?_
  have L5_1 : ∀ (ki i : Nat), i + ki = 64 → G zp l ze ({ frames := 0, cells := 0, slots := 0, locals := 0 }) zs zm za zb zh zc 0 0 (MQ zb (Qz E A (none) (cw E ad sc (va_up ar 38 (fil (vp_nar .short v) (ar 38) 64)) bl)) za zs 0 0 A) E A 4 (cw E ad sc (va_up ar 38 (fil (vp_nar .short v) (ar 38) (i))) bl) (5) [(0, .ref (ad 38)), (1, .int v), (2, .int (nI (i))), (3, .int (nI 64))] [] := by
    intro ki
    induction ki with
    | zero =>
      intro i lhi
      have lhin : 64 = i := by omega
      subst lhin
      refine g_iload_n (pc := 5) hc 2 dJ7_fill_fb410_5 rfl rfl ?_
      refine g_iload_n (pc := 6) hc 3 dJ7_fill_fb410_6 rfl rfl ?_
      refine g_icmp_ge_t (pc := 7) hc 20 dJ7_fill_fb410_7 (by decide) (nI_le (by omega) (by omega)) ?_
      exact g_vret (pc := 20) hc dJ7_fill_fb410_20 rfl (rfl)
    | succ ki ihi =>
      intro i lhi
      have lhin : i < 64 := by omega
      refine g_iload_n (pc := 5) hc 2 dJ7_fill_fb410_5 rfl rfl ?_
      refine g_iload_n (pc := 6) hc 3 dJ7_fill_fb410_6 rfl rfl ?_
      refine g_icmp_ge_f (pc := 7) hc 20 dJ7_fill_fb410_7 (by decide) (nI_ge (by omega) (by omega)) ?_
      refine g_aload_n (pc := 10) hc 0 dJ7_fill_fb410_10 rfl rfl ?_
      refine g_iload_n (pc := 11) hc 2 dJ7_fill_fb410_11 rfl rfl ?_
      refine g_iload_n (pc := 12) hc 1 dJ7_fill_fb410_12 rfl rfl ?_
      refine sa_c38 (pc := 13) hc hA (i) (rfl) (by omega) dJ7_fill_fb410_13 ?_
      refine g_eq (ws' := cw E ad sc (va_up ar 38 (upd (fil (vp_nar .short v) (ar 38) (i)) i (vp_nar .short v))) bl) (lv' := [(0, .ref (ad 38)), (1, .int v), (2, .int (nI (i))), (3, .int (nI 64))]) rfl rfl rfl ?_
      refine g_iinc (pc := 14) (v := nI (i + 1)) (lv' := [(0, .ref (ad 38)), (1, .int v), (2, .int (nI (i + 1))), (3, .int (nI 64))]) hc 2 dJ7_fill_fb410_14 rfl (nI_ofi i 1) (by decide) rfl ?_
      refine g_goto (pc := 17) hc 5 dJ7_fill_fb410_17 (by decide) ?_
      exact g_eq (ws' := cw E ad sc (va_up ar 38 (fil (vp_nar .short v) (ar 38) (i + 1))) bl) (lv' := [(0, .ref (ad 38)), (1, .int v), (2, .int (nI (i + 1))), (3, .int (nI 64))]) (by rw [fil_succ]) (rfl) rfl (ihi (i + 1) (by omega))
  exact g_eq (ws' := cw E ad sc (va_up ar 38 (fil (vp_nar .short v) (ar 38) (0))) bl) (lv' := [(0, .ref (ad 38)), (1, .int v), (2, .int (nI (0))), (3, .int (nI 64))]) (by rw [fil_0]; rfl) (rfl) rfl (L5_1 (64 - 0) (0) (by omega))

set_option maxHeartbeats 4000000 in
set_option maxRecDepth 100000 in
theorem c_X7_renew_12 (l : Launch) (E : Ev) {A : Nat → Prop} (ad : Nat → Nat) (hA : Oka 39 ad A) (sc : Nat → Int32) (ar : Nat → Nat → Int32) (bl : Int64) (x : Int32) : Ct l E yX7_renew (.code yX7_renew cX7_renew 2 none) ({ frames := 1, cells := 0, slots := 0, locals := 23 }) A (cw E ad sc ar bl) [.ref (ad 12), .int x] (none) (cw E ad (va_up sc 18 x) (va_up ar 38 (fil (vp_nar .short (nI 0)) (ar 38) 64)) bl) := by
  refine Ct.of (lv := [(0, .ref (ad 12)), (1, .int x)]) (by decide +kernel) (Nat.le_of_ble_eq_true rfl) rfl ?_
  intro zp ze zs zm za zb zh zc hc
  refine g_aload_n (pc := 0) hc 0 dX7_renew_0 rfl rfl ?_
  refine g_iload_n (pc := 1) hc 1 dX7_renew_1 rfl rfl ?_
  refine pf_c12_size (pc := 2) hc hA tw_176 dX7_renew_2 ?_
  refine g_aload_n (pc := 5) hc 0 dX7_renew_5 rfl rfl ?_
  refine gf_c12_places (pc := 6) hc tw_175 dX7_renew_6 ?_
  refine g_iconst (pc := 9) (v := nI 0) hc dX7_renew_9 (by decide) ?_
  refine g_callSv (pc := 10) (rest := []) (As := [.ref (ad 38), .int (nI 0)]) hc (c_fill38 l E ad hA (va_up sc 18 x) ar bl (nI 0)) mi_J7_fill_fb410 tw_931 rfl ⟨rfl, rfl, by decide, by decide⟩ (Nat.le_of_ble_eq_true rfl) ⟨Nat.le_refl _, Nat.le_refl _⟩ rfl dX7_renew_10 ?_
  refine g_eq (ws' := cw E ad (va_up sc 18 x) (va_up ar 38 (fil (vp_nar .short (nI 0)) (ar 38) 64)) bl) (lv' := [(0, .ref (ad 12)), (1, .int x)]) (rfl) rfl rfl ?_
  exact g_vret (pc := 13) hc dX7_renew_13 rfl (rfl)

set_option maxHeartbeats 4000000 in
set_option maxRecDepth 100000 in
theorem c_X7_vanish_12 (l : Launch) (E : Ev) {A : Nat → Prop} (ad : Nat → Nat) (hA : Oka 39 ad A) (sc : Nat → Int32) (ar : Nat → Nat → Int32) (bl : Int64)  : Ct l E yX7_vanish (.code yX7_vanish cX7_vanish 2 (some .int)) ({ frames := 0, cells := 0, slots := 0, locals := 0 }) A (cw E ad sc ar bl) [.ref (ad 12)] (some (.int (sc 18))) (cw E ad (va_up sc 18 (-1)) ar bl) := by
  refine Ct.of (lv := [(0, .ref (ad 12))]) (by decide +kernel) (Nat.le_of_ble_eq_true rfl) rfl ?_
  intro zp ze zs zm za zb zh zc hc
  refine g_aload_n (pc := 0) hc 0 dX7_vanish_0 rfl rfl ?_
  refine gf_c12_size (pc := 1) hc tw_176 dX7_vanish_1 ?_
  refine g_istore_n (pc := 4) (lv' := [(0, .ref (ad 12)), (1, .int (sc 18))]) hc dX7_vanish_4 rfl (by decide) rfl ?_
  refine g_aload_n (pc := 5) hc 0 dX7_vanish_5 rfl rfl ?_
  refine g_iconst (pc := 6) (v := (-1)) hc dX7_vanish_6 (by decide) ?_
  refine pf_c12_size (pc := 7) hc hA tw_176 dX7_vanish_7 ?_
  refine g_iload_n (pc := 10) hc 1 dX7_vanish_10 rfl rfl ?_
  exact g_iret (pc := 11) hc dX7_vanish_11 (rfl) (rfl)

set_option maxHeartbeats 4000000 in
set_option maxRecDepth 100000 in
theorem c_X7_has_12 (l : Launch) (E : Ev) {A : Nat → Prop} (ad : Nat → Nat) (hA : Oka 39 ad A) (sc : Nat → Int32) (ar : Nat → Nat → Int32) (bl : Int64) (x : Int32) : Ct l E yX7_has (.code yX7_has cX7_has 2 (some .boolean)) ({ frames := 0, cells := 0, slots := 0, locals := 0 }) A (cw E ad sc ar bl) [.ref (ad 12), .int x] (some (.int (bI (inx x (sc 18))))) (cw E ad sc ar bl) := by
  refine Ct.of (lv := [(0, .ref (ad 12)), (1, .int x)]) (by decide +kernel) (Nat.le_of_ble_eq_true rfl) rfl ?_
  intro zp ze zs zm za zb zh zc hc
  refine g_iload_n (pc := 0) hc 1 dX7_has_0 rfl rfl ?_
  refine g_if_lt (pc := 1) hc 16 dX7_has_1 (by decide) (fun c1 => ?_) (fun c1 => ?_)
  · refine g_iconst (pc := 16) (v := nI 0) hc dX7_has_16 (by decide) ?_
    exact g_zret (pc := 17) hc dX7_has_17 (by decide) (by simp [bI, inx, c1] <;> rfl) (rfl)
  · refine g_iload_n (pc := 4) hc 1 dX7_has_4 rfl rfl ?_
    refine g_aload_n (pc := 5) hc 0 dX7_has_5 rfl rfl ?_
    refine gf_c12_size (pc := 6) hc tw_176 dX7_has_6 ?_
    refine g_icmp_ge (pc := 9) hc 16 dX7_has_9 (by decide) (fun c2 => ?_) (fun c2 => ?_)
    · refine g_iconst (pc := 16) (v := nI 0) hc dX7_has_16 (by decide) ?_
      exact g_zret (pc := 17) hc dX7_has_17 (by decide) (by simp [bI, inx, c1, c2] <;> rfl) (rfl)
    · refine g_iconst (pc := 12) (v := nI 1) hc dX7_has_12 (by decide) ?_
      refine g_goto (pc := 13) hc 17 dX7_has_13 (by decide) ?_
      exact g_zret (pc := 17) hc dX7_has_17 (by decide) (by simp [bI, inx, c1, c2] <;> rfl) (rfl)

set_option maxHeartbeats 4000000 in
set_option maxRecDepth 100000 in
theorem c_X7_hasRun_12 (l : Launch) (E : Ev) {A : Nat → Prop} (ad : Nat → Nat) (hA : Oka 39 ad A) (sc : Nat → Int32) (ar : Nat → Nat → Int32) (bl : Int64) (x : Int32) (y : Int32) : Ct l E yX7_hasRun (.code yX7_hasRun cX7_hasRun 3 (some .boolean)) ({ frames := 0, cells := 0, slots := 0, locals := 0 }) A (cw E ad sc ar bl) [.ref (ad 12), .int x, .int y] (some (.int (bI (hrun x y (sc 18))))) (cw E ad sc ar bl) := by
  refine Ct.of (lv := [(0, .ref (ad 12)), (1, .int x), (2, .int y)]) (by decide +kernel) (Nat.le_of_ble_eq_true rfl) rfl ?_
  intro zp ze zs zm za zb zh zc hc
  refine g_iload_n (pc := 0) hc 1 dX7_hasRun_0 rfl rfl ?_
  refine g_if_lt (pc := 1) hc 22 dX7_hasRun_1 (by decide) (fun c1 => ?_) (fun c1 => ?_)
  · refine g_iconst (pc := 22) (v := nI 0) hc dX7_hasRun_22 (by decide) ?_
    exact g_zret (pc := 23) hc dX7_hasRun_23 (by decide) (by unfold hrun; repeat (first | rw [if_pos c1] | rw [if_neg c1] | rw [if_neg (ne_true_of_eq_false c1)]); try rfl) (rfl)
  · refine g_iload_n (pc := 4) hc 2 dX7_hasRun_4 rfl rfl ?_
    refine g_if_lt (pc := 5) hc 22 dX7_hasRun_5 (by decide) (fun c2 => ?_) (fun c2 => ?_)
    · refine g_iconst (pc := 22) (v := nI 0) hc dX7_hasRun_22 (by decide) ?_
      exact g_zret (pc := 23) hc dX7_hasRun_23 (by decide) (by unfold hrun; repeat (first | rw [if_pos c1] | rw [if_neg c1] | rw [if_neg (ne_true_of_eq_false c1)] | rw [if_pos c2] | rw [if_neg c2] | rw [if_neg (ne_true_of_eq_false c2)]); try rfl) (rfl)
    · refine g_iload_n (pc := 8) hc 1 dX7_hasRun_8 rfl rfl ?_
      refine g_aload_n (pc := 9) hc 0 dX7_hasRun_9 rfl rfl ?_
      refine gf_c12_size (pc := 10) hc tw_176 dX7_hasRun_10 ?_
      refine g_iload_n (pc := 13) hc 2 dX7_hasRun_13 rfl rfl ?_
      refine g_isub (pc := 14) hc dX7_hasRun_14 ?_
      refine g_icmp_gt (pc := 15) hc 22 dX7_hasRun_15 (by decide) (fun c3 => ?_) (fun c3 => ?_)
      · refine g_iconst (pc := 22) (v := nI 0) hc dX7_hasRun_22 (by decide) ?_
        exact g_zret (pc := 23) hc dX7_hasRun_23 (by decide) (by unfold hrun; repeat (first | rw [if_pos c1] | rw [if_neg c1] | rw [if_neg (ne_true_of_eq_false c1)] | rw [if_pos c2] | rw [if_neg c2] | rw [if_neg (ne_true_of_eq_false c2)] | rw [if_pos c3] | rw [if_neg c3] | rw [if_neg (ne_true_of_eq_false c3)]); try rfl) (rfl)
      · refine g_iconst (pc := 18) (v := nI 1) hc dX7_hasRun_18 (by decide) ?_
        refine g_goto (pc := 19) hc 23 dX7_hasRun_19 (by decide) ?_
        exact g_zret (pc := 23) hc dX7_hasRun_23 (by decide) (by unfold hrun; repeat (first | rw [if_pos c1] | rw [if_neg c1] | rw [if_neg (ne_true_of_eq_false c1)] | rw [if_pos c2] | rw [if_neg c2] | rw [if_neg (ne_true_of_eq_false c2)] | rw [if_pos c3] | rw [if_neg c3] | rw [if_neg (ne_true_of_eq_false c3)]); try rfl) (rfl)

set_option maxHeartbeats 4000000 in
set_option maxRecDepth 100000 in
theorem c_X7_at_12 (l : Launch) (E : Ev) {A : Nat → Prop} (ad : Nat → Nat) (hA : Oka 39 ad A) (sc : Nat → Int32) (ar : Nat → Nat → Int32) (bl : Int64) (j : Nat) (hj : j < 64) : Ct l E yX7_at (.code yX7_at cX7_at 2 (some .int)) ({ frames := 0, cells := 0, slots := 0, locals := 0 }) A (cw E ad sc ar bl) [.ref (ad 12), .int (nI j)] (some (.int ((ar 38) j))) (cw E ad sc ar bl) := by
  refine Ct.of (lv := [(0, .ref (ad 12)), (1, .int (nI j))]) (by decide +kernel) (Nat.le_of_ble_eq_true rfl) rfl ?_
  intro zp ze zs zm za zb zh zc hc
  refine g_aload_n (pc := 0) hc 0 dX7_at_0 rfl rfl ?_
  refine gf_c12_places (pc := 1) hc tw_175 dX7_at_1 ?_
  refine g_iload_n (pc := 4) hc 1 dX7_at_4 rfl rfl ?_
  refine la_c38 (pc := 5) hc (j) (rfl) (by omega) dX7_at_5 ?_
  exact g_iret (pc := 6) hc dX7_at_6 (rfl) (rfl)

set_option maxHeartbeats 4000000 in
set_option maxRecDepth 100000 in
theorem c_X7_put_12 (l : Launch) (E : Ev) {A : Nat → Prop} (ad : Nat → Nat) (hA : Oka 39 ad A) (sc : Nat → Int32) (ar : Nat → Nat → Int32) (bl : Int64) (j : Nat) (v : Int32) (hj : j < 64) : Ct l E yX7_put (.code yX7_put cX7_put 4 (some .int)) ({ frames := 0, cells := 0, slots := 0, locals := 0 }) A (cw E ad sc ar bl) [.ref (ad 12), .int (nI j), .int v] (some (.int ((ar 38) j))) (cw E ad sc (va_up ar 38 (upd (ar 38) j (vp_nar .short (v : Int32).toInt16.toInt32))) bl) := by
  refine Ct.of (lv := [(0, .ref (ad 12)), (1, .int (nI j)), (2, .int v)]) (by decide +kernel) (Nat.le_of_ble_eq_true rfl) rfl ?_
  intro zp ze zs zm za zb zh zc hc
  refine g_aload_n (pc := 0) hc 0 dX7_put_0 rfl rfl ?_
  refine gf_c12_places (pc := 1) hc tw_175 dX7_put_1 ?_
  refine g_iload_n (pc := 4) hc 1 dX7_put_4 rfl rfl ?_
  refine la_c38 (pc := 5) hc (j) (rfl) (by omega) dX7_put_5 ?_
  refine g_istore_n (pc := 6) (lv' := [(0, .ref (ad 12)), (1, .int (nI j)), (2, .int v), (3, .int ((ar 38) j))]) hc dX7_put_6 rfl (by decide) rfl ?_
  refine g_aload_n (pc := 7) hc 0 dX7_put_7 rfl rfl ?_
  refine gf_c12_places (pc := 8) hc tw_175 dX7_put_8 ?_
  refine g_iload_n (pc := 11) hc 1 dX7_put_11 rfl rfl ?_
  refine g_iload_n (pc := 12) hc 2 dX7_put_12 rfl rfl ?_
  refine g_i2s (pc := 13) (v := (v : Int32).toInt16.toInt32) hc dX7_put_13 rfl ?_
  refine sa_c38 (pc := 14) hc hA (j) (rfl) (by omega) dX7_put_14 ?_
  refine g_iload_n (pc := 15) hc 3 dX7_put_15 rfl rfl ?_
  exact g_iret (pc := 16) hc dX7_put_16 (rfl) (rfl)
