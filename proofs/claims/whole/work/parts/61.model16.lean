theorem dX12_withdraw_0 : decode cX12_withdraw 0 = .ok (.iload_n 1, 1) := by decide +kernel
theorem dX12_withdraw_1 : decode cX12_withdraw 1 = .ok (.iconst 0, 1) := by decide +kernel
theorem dX12_withdraw_2 : decode cX12_withdraw 2 = .ok (.aload_n 0, 1) := by decide +kernel
theorem dX12_withdraw_3 : decode cX12_withdraw 3 = .ok (.getfield 128, 3) := by decide +kernel
theorem dX12_withdraw_6 : decode cX12_withdraw 6 = .ok (.iconst 1, 1) := by decide +kernel
theorem dX12_withdraw_7 : decode cX12_withdraw 7 = .ok (.isub, 1) := by decide +kernel
theorem dX12_withdraw_8 : decode cX12_withdraw 8 = .ok (.invokestatic 113, 3) := by decide +kernel
theorem dX12_withdraw_11 : decode cX12_withdraw 11 = .ok (.ifCond .ne 6, 3) := by decide +kernel
theorem dX12_withdraw_14 : decode cX12_withdraw 14 = .ok (.ldc 120, 2) := by decide +kernel
theorem dX12_withdraw_16 : decode cX12_withdraw 16 = .ok (.ireturn, 1) := by decide +kernel
theorem dX12_withdraw_17 : decode cX12_withdraw 17 = .ok (.aload_n 0, 1) := by decide +kernel
theorem dX12_withdraw_18 : decode cX12_withdraw 18 = .ok (.getfield 69, 3) := by decide +kernel
theorem dX12_withdraw_21 : decode cX12_withdraw 21 = .ok (.iload_n 1, 1) := by decide +kernel
theorem dX12_withdraw_22 : decode cX12_withdraw 22 = .ok (.baload, 1) := by decide +kernel
theorem dX12_withdraw_23 : decode cX12_withdraw 23 = .ok (.ifCond .eq 6, 3) := by decide +kernel
theorem dX12_withdraw_26 : decode cX12_withdraw 26 = .ok (.ldc 149, 2) := by decide +kernel
theorem dX12_withdraw_28 : decode cX12_withdraw 28 = .ok (.ireturn, 1) := by decide +kernel
theorem dX12_withdraw_29 : decode cX12_withdraw 29 = .ok (.aload_n 0, 1) := by decide +kernel
theorem dX12_withdraw_30 : decode cX12_withdraw 30 = .ok (.getfield 69, 3) := by decide +kernel
theorem dX12_withdraw_33 : decode cX12_withdraw 33 = .ok (.iload_n 1, 1) := by decide +kernel
theorem dX12_withdraw_34 : decode cX12_withdraw 34 = .ok (.iconst 1, 1) := by decide +kernel
theorem dX12_withdraw_35 : decode cX12_withdraw 35 = .ok (.bastore, 1) := by decide +kernel
theorem dX12_withdraw_36 : decode cX12_withdraw 36 = .ok (.iconst 1, 1) := by decide +kernel
theorem dX12_withdraw_37 : decode cX12_withdraw 37 = .ok (.ireturn, 1) := by decide +kernel

set_option maxHeartbeats 4000000 in
set_option maxRecDepth 100000 in
theorem c_X12_withdraw (l : Launch) (E : Ev) {A : Nat → Prop} (ad : Nat → Nat) (hA : Oka 30 ad A) (sc : Nat → Int32) (ar : Nat → Nat → Int32) (la : Nat → Int64) {nL : Nat} (x : Int32) (hL : sc 8 = nI nL) (hL12 : nL ≤ 12) : Ct l E yX12_withdraw (.code yX12_withdraw cX12_withdraw 2 (some .int)) ({ frames := 1, cells := 0, slots := 0, locals := 22 }) A (mw E ad sc ar la) [.ref (ad 0), .int x] (some (.int (if inx x (nI nL) = true then (if ar 17 (tn x) = 0 then nI 1 else (-1000000002)) else (-1000000001)))) (if inx x (nI nL) = true then (if ar 17 (tn x) = 0 then mw E ad sc (va_up ar 17 (upd (ar 17) (tn x) (vp_nar .boolean (nI 1)))) la else mw E ad sc ar la) else mw E ad sc ar la) := by
  refine Ct.of (lv := [(0, .ref (ad 0)), (1, .int x)]) (by decide +kernel) (Nat.le_of_ble_eq_true rfl) rfl ?_
  intro zp ze zs zm za zb zh zc hc
  refine g_iload_n (pc := 0) hc 1 dX12_withdraw_0 rfl rfl ?_
  refine g_iconst (pc := 1) (v := nI 0) hc dX12_withdraw_1 (by decide) ?_
  refine g_aload_n (pc := 2) hc 0 dX12_withdraw_2 rfl rfl ?_
  refine gf_m0_leaves (pc := 3) hc tw_1020 dX12_withdraw_3 ?_
  refine g_topi (v := nI nL) (hL) ?_
  refine g_iconst (pc := 6) (v := nI 1) hc dX12_withdraw_6 (by decide) ?_
  refine g_isub (pc := 7) hc dX12_withdraw_7 ?_
  refine g_callSi (pc := 8) (rest := []) (As := [.int x, .int (nI 0), .int ((nI nL) - (nI 1))]) hc (c_X12_isIn l E ad hA sc ar la x (nI 0) ((nI nL) - (nI 1))) mi_X12_isIn tw_1136 rfl ⟨rfl, rfl, by decide, by decide⟩ (Nat.le_of_ble_eq_true rfl) ⟨Nat.le_refl _, Nat.le_refl _⟩ rfl dX12_withdraw_8 ?_
  refine g_topi (v := bI (inx x (nI nL))) (by rw [inr_pred _ (by omega)]) ?_
  refine g_if_ne_b (pc := 11) hc 17 dX12_withdraw_11 (by decide) (fun c1 => ?_) (fun c1 => ?_)
  · obtain ⟨i, hi, hx⟩ := inx_of (by omega) c1
    refine g_eq (ws' := mw E ad sc ar la) (lv' := [(0, .ref (ad 0)), (1, .int (nI i))]) rfl (by rw [hx]) rfl ?_
    refine g_aload_n (pc := 17) hc 0 dX12_withdraw_17 rfl rfl ?_
    refine gf_m0_isBack (pc := 18) hc tw_1026 dX12_withdraw_18 ?_
    refine g_iload_n (pc := 21) hc 1 dX12_withdraw_21 rfl rfl ?_
    refine la_m17 (pc := 22) hc (i) (rfl) (by omega) dX12_withdraw_22 ?_
    refine g_if_eq (pc := 23) hc 29 dX12_withdraw_23 (by decide) (fun c2 => ?_) (fun c2 => ?_)
    · refine g_aload_n (pc := 29) hc 0 dX12_withdraw_29 rfl rfl ?_
      refine gf_m0_isBack (pc := 30) hc tw_1026 dX12_withdraw_30 ?_
      refine g_iload_n (pc := 33) hc 1 dX12_withdraw_33 rfl rfl ?_
      refine g_iconst (pc := 34) (v := nI 1) hc dX12_withdraw_34 (by decide) ?_
      refine sa_m17 (pc := 35) hc hA (i) (rfl) (by omega) dX12_withdraw_35 ?_
      refine g_iconst (pc := 36) (v := nI 1) hc dX12_withdraw_36 (by decide) ?_
      exact g_iret (pc := 37) hc dX12_withdraw_37 (by rw [if_pos c1, hx, tn, nI_clamp (by omega)]; (repeat (first | rw [if_pos c2] | rw [if_neg c2] | rw [if_neg (ne_true_of_eq_false c2)]))) (by rw [if_pos c1, hx, tn, nI_clamp (by omega)]; (repeat (first | rw [if_pos c2] | rw [if_neg c2] | rw [if_neg (ne_true_of_eq_false c2)])))
    · refine g_ldc (pc := 26) (v := (-1000000002)) hc tw_1175 dX12_withdraw_26 ?_
      exact g_iret (pc := 28) hc dX12_withdraw_28 (by rw [if_pos c1, hx, tn, nI_clamp (by omega)]; (repeat (first | rw [if_pos c2] | rw [if_neg c2] | rw [if_neg (ne_true_of_eq_false c2)]))) (by rw [if_pos c1, hx, tn, nI_clamp (by omega)]; (repeat (first | rw [if_pos c2] | rw [if_neg c2] | rw [if_neg (ne_true_of_eq_false c2)])))
  · refine g_ldc (pc := 14) (v := (-1000000001)) hc tw_1139 dX12_withdraw_14 ?_
    exact g_iret (pc := 16) hc dX12_withdraw_16 (by (repeat (first | rw [if_pos c1] | rw [if_neg c1] | rw [if_neg (ne_true_of_eq_false c1)]))) (by (repeat (first | rw [if_pos c1] | rw [if_neg c1] | rw [if_neg (ne_true_of_eq_false c1)])))

theorem dX12_lets_0 : decode cX12_lets 0 = .ok (.iload_n 1, 1) := by decide +kernel
theorem dX12_lets_1 : decode cX12_lets 1 = .ok (.invokestatic 136, 3) := by decide +kernel
theorem dX12_lets_4 : decode cX12_lets 4 = .ok (.ifCond .eq 34, 3) := by decide +kernel
theorem dX12_lets_7 : decode cX12_lets 7 = .ok (.iload_n 2, 1) := by decide +kernel
theorem dX12_lets_8 : decode cX12_lets 8 = .ok (.iconst 0, 1) := by decide +kernel
theorem dX12_lets_9 : decode cX12_lets 9 = .ok (.bipush 7, 2) := by decide +kernel
theorem dX12_lets_11 : decode cX12_lets 11 = .ok (.invokestatic 113, 3) := by decide +kernel
theorem dX12_lets_14 : decode cX12_lets 14 = .ok (.ifCond .eq 24, 3) := by decide +kernel
theorem dX12_lets_17 : decode cX12_lets 17 = .ok (.iload_n 3, 1) := by decide +kernel
theorem dX12_lets_18 : decode cX12_lets 18 = .ok (.iconst 0, 1) := by decide +kernel
theorem dX12_lets_19 : decode cX12_lets 19 = .ok (.sipush 400, 3) := by decide +kernel
theorem dX12_lets_22 : decode cX12_lets 22 = .ok (.invokestatic 113, 3) := by decide +kernel
theorem dX12_lets_25 : decode cX12_lets 25 = .ok (.ifCond .eq 13, 3) := by decide +kernel
theorem dX12_lets_28 : decode cX12_lets 28 = .ok (.aload_n 0, 1) := by decide +kernel
theorem dX12_lets_29 : decode cX12_lets 29 = .ok (.iload_n 1, 1) := by decide +kernel
theorem dX12_lets_30 : decode cX12_lets 30 = .ok (.iload_n 2, 1) := by decide +kernel
theorem dX12_lets_31 : decode cX12_lets 31 = .ok (.iload_n 3, 1) := by decide +kernel
theorem dX12_lets_32 : decode cX12_lets 32 = .ok (.invokevirtual 145, 3) := by decide +kernel
theorem dX12_lets_35 : decode cX12_lets 35 = .ok (.goto 5, 3) := by decide +kernel
theorem dX12_lets_38 : decode cX12_lets 38 = .ok (.ldc 120, 2) := by decide +kernel
theorem dX12_lets_40 : decode cX12_lets 40 = .ok (.ireturn, 1) := by decide +kernel

set_option maxHeartbeats 4000000 in
set_option maxRecDepth 100000 in
theorem c_X12_lets (l : Launch) (E : Ev) {A : Nat → Prop} (ad : Nat → Nat) (hA : Oka 30 ad A) (sc : Nat → Int32) (ar : Nat → Nat → Int32) (la : Nat → Int64) {nL : Nat} (x : Int32) (y : Int32) (z : Int32) (hL : sc 8 = nI nL) (hL12 : nL ≤ 12) : Ct l E yX12_lets (.code yX12_lets cX12_lets 4 (some .int)) ({ frames := 3, cells := 0, slots := 0, locals := 71 }) A (mw E ad sc ar la) [.ref (ad 0), .int x, .int y, .int z] (some (.int (if ok2 (inr x (nI 0) (nI 4)) (ok2 (inr y (nI 0) (nI 7)) (inr z (nI 0) (nI 400))) = true then (if fstL (mok (ar 12) (ar 13) (ar 14) (ar 15) (ar 16) (ar 17) x y z) nL = (-1) then (-1000000005) else fstL (mok (ar 12) (ar 13) (ar 14) (ar 15) (ar 16) (ar 17) x y z) nL) else (-1000000001)))) (mw E ad sc ar la) := by
  refine Ct.of (lv := [(0, .ref (ad 0)), (1, .int x), (2, .int y), (3, .int z)]) (by decide +kernel) (Nat.le_of_ble_eq_true rfl) rfl ?_
  intro zp ze zs zm za zb zh zc hc
  refine g_iload_n (pc := 0) hc 1 dX12_lets_0 rfl rfl ?_
  refine g_callSi (pc := 1) (rest := []) (As := [.int x]) hc (c_X12_isWalker l E ad hA sc ar la x) mi_X12_isWalker tw_1159 rfl ⟨rfl, rfl, by decide, by decide⟩ (Nat.le_of_ble_eq_true rfl) ⟨Nat.le_refl _, Nat.le_refl _⟩ rfl dX12_lets_1 ?_
  refine g_if_eq_b (pc := 4) hc 38 dX12_lets_4 (by decide) (fun c1 => ?_) (fun c1 => ?_)
  · refine g_ldc (pc := 38) (v := (-1000000001)) hc tw_1139 dX12_lets_38 ?_
    exact g_iret (pc := 40) hc dX12_lets_40 (by rw [if_neg (ne_true_of_eq_false (ok2_f1 c1))]) (rfl)
  · refine g_iload_n (pc := 7) hc 2 dX12_lets_7 rfl rfl ?_
    refine g_iconst (pc := 8) (v := nI 0) hc dX12_lets_8 (by decide) ?_
    refine g_bipush (pc := 9) (v := nI 7) hc dX12_lets_9 (by decide) ?_
    refine g_callSi (pc := 11) (rest := []) (As := [.int y, .int (nI 0), .int (nI 7)]) hc (c_X12_isIn l E ad hA sc ar la y (nI 0) (nI 7)) mi_X12_isIn tw_1136 rfl ⟨rfl, rfl, by decide, by decide⟩ (Nat.le_of_ble_eq_true rfl) ⟨Nat.le_refl _, Nat.le_refl _⟩ rfl dX12_lets_11 ?_
    refine g_if_eq_b (pc := 14) hc 38 dX12_lets_14 (by decide) (fun c2 => ?_) (fun c2 => ?_)
    · refine g_ldc (pc := 38) (v := (-1000000001)) hc tw_1139 dX12_lets_38 ?_
      exact g_iret (pc := 40) hc dX12_lets_40 (by rw [if_neg (ne_true_of_eq_false (ok2_f2 c1 (ok2_f1 c2)))]) (rfl)
    · refine g_iload_n (pc := 17) hc 3 dX12_lets_17 rfl rfl ?_
      refine g_iconst (pc := 18) (v := nI 0) hc dX12_lets_18 (by decide) ?_
      refine g_sipush (pc := 19) (v := nI 400) hc dX12_lets_19 (by decide) ?_
      refine g_callSi (pc := 22) (rest := []) (As := [.int z, .int (nI 0), .int (nI 400)]) hc (c_X12_isIn l E ad hA sc ar la z (nI 0) (nI 400)) mi_X12_isIn tw_1136 rfl ⟨rfl, rfl, by decide, by decide⟩ (Nat.le_of_ble_eq_true rfl) ⟨Nat.le_refl _, Nat.le_refl _⟩ rfl dX12_lets_22 ?_
      refine g_if_eq_b (pc := 25) hc 38 dX12_lets_25 (by decide) (fun c3 => ?_) (fun c3 => ?_)
      · refine g_ldc (pc := 38) (v := (-1000000001)) hc tw_1139 dX12_lets_38 ?_
        exact g_iret (pc := 40) hc dX12_lets_40 (by rw [if_neg (ne_true_of_eq_false (ok2_f2 c1 (ok2_f2 c2 c3)))]) (rfl)
      · refine g_aload_n (pc := 28) hc 0 dX12_lets_28 rfl rfl ?_
        refine g_iload_n (pc := 29) hc 1 dX12_lets_29 rfl rfl ?_
        refine g_iload_n (pc := 30) hc 2 dX12_lets_30 rfl rfl ?_
        refine g_iload_n (pc := 31) hc 3 dX12_lets_31 rfl rfl ?_
        refine g_callVi (pc := 32) (rest := []) (As := [.int x, .int y, .int z]) hc (c_X12_letBy l E ad hA sc ar la x y z (hL) (hL12)) mi_X12_letBy tw_1166 0 rfl rfl rfl rfl ⟨rfl, rfl, by decide, by decide⟩ (Nat.le_of_ble_eq_true rfl) ⟨Nat.le_refl _, Nat.le_refl _⟩ rfl dX12_lets_32 ?_
        refine g_goto (pc := 35) hc 40 dX12_lets_35 (by decide) ?_
        exact g_iret (pc := 40) hc dX12_lets_40 (by rw [if_pos (ok2_t c1 (ok2_t c2 c3))]) (rfl)

theorem dX12_days_0 : decode cX12_days 0 = .ok (.iload_n 1, 1) := by decide +kernel
theorem dX12_days_1 : decode cX12_days 1 = .ok (.iconst 1, 1) := by decide +kernel
theorem dX12_days_2 : decode cX12_days 2 = .ok (.bipush 60, 2) := by decide +kernel
theorem dX12_days_4 : decode cX12_days 4 = .ok (.invokestatic 113, 3) := by decide +kernel
theorem dX12_days_7 : decode cX12_days 7 = .ok (.ifCond .eq 15, 3) := by decide +kernel
theorem dX12_days_10 : decode cX12_days 10 = .ok (.aload_n 0, 1) := by decide +kernel
theorem dX12_days_11 : decode cX12_days 11 = .ok (.getfield 142, 3) := by decide +kernel
theorem dX12_days_14 : decode cX12_days 14 = .ok (.iload_n 1, 1) := by decide +kernel
theorem dX12_days_15 : decode cX12_days 15 = .ok (.iadd, 1) := by decide +kernel
theorem dX12_days_16 : decode cX12_days 16 = .ok (.sipush 400, 3) := by decide +kernel
theorem dX12_days_19 : decode cX12_days 19 = .ok (.if_icmp .le 6, 3) := by decide +kernel
theorem dX12_days_22 : decode cX12_days 22 = .ok (.ldc 120, 2) := by decide +kernel
theorem dX12_days_24 : decode cX12_days 24 = .ok (.ireturn, 1) := by decide +kernel
theorem dX12_days_25 : decode cX12_days 25 = .ok (.aload_n 0, 1) := by decide +kernel
theorem dX12_days_26 : decode cX12_days 26 = .ok (.dup, 1) := by decide +kernel
theorem dX12_days_27 : decode cX12_days 27 = .ok (.getfield 142, 3) := by decide +kernel
theorem dX12_days_30 : decode cX12_days 30 = .ok (.iload_n 1, 1) := by decide +kernel
theorem dX12_days_31 : decode cX12_days 31 = .ok (.iadd, 1) := by decide +kernel
theorem dX12_days_32 : decode cX12_days 32 = .ok (.putfield 142, 3) := by decide +kernel
theorem dX12_days_35 : decode cX12_days 35 = .ok (.aload_n 0, 1) := by decide +kernel
theorem dX12_days_36 : decode cX12_days 36 = .ok (.getfield 142, 3) := by decide +kernel
theorem dX12_days_39 : decode cX12_days 39 = .ok (.ireturn, 1) := by decide +kernel

set_option maxHeartbeats 4000000 in
set_option maxRecDepth 100000 in
theorem c_X12_days (l : Launch) (E : Ev) {A : Nat → Prop} (ad : Nat → Nat) (hA : Oka 30 ad A) (sc : Nat → Int32) (ar : Nat → Nat → Int32) (la : Nat → Int64)  (x : Int32)  : Ct l E yX12_days (.code yX12_days cX12_days 2 (some .int)) ({ frames := 1, cells := 0, slots := 0, locals := 22 }) A (mw E ad sc ar la) [.ref (ad 0), .int x] (some (.int (if ok2 (inr x (nI 1) (nI 60)) (decide (sc 2 + x ≤ nI 400)) = true then sc 2 + x else (-1000000001)))) (if ok2 (inr x (nI 1) (nI 60)) (decide (sc 2 + x ≤ nI 400)) = true then mw E ad (va_up sc 2 (sc 2 + x)) ar la else mw E ad sc ar la) := by
  refine Ct.of (lv := [(0, .ref (ad 0)), (1, .int x)]) (by decide +kernel) (Nat.le_of_ble_eq_true rfl) rfl ?_
  intro zp ze zs zm za zb zh zc hc
  refine g_iload_n (pc := 0) hc 1 dX12_days_0 rfl rfl ?_
  refine g_iconst (pc := 1) (v := nI 1) hc dX12_days_1 (by decide) ?_
  refine g_bipush (pc := 2) (v := nI 60) hc dX12_days_2 (by decide) ?_
  refine g_callSi (pc := 4) (rest := []) (As := [.int x, .int (nI 1), .int (nI 60)]) hc (c_X12_isIn l E ad hA sc ar la x (nI 1) (nI 60)) mi_X12_isIn tw_1136 rfl ⟨rfl, rfl, by decide, by decide⟩ (Nat.le_of_ble_eq_true rfl) ⟨Nat.le_refl _, Nat.le_refl _⟩ rfl dX12_days_4 ?_
  refine g_if_eq_b (pc := 7) hc 22 dX12_days_7 (by decide) (fun c1 => ?_) (fun c1 => ?_)
  · refine g_ldc (pc := 22) (v := (-1000000001)) hc tw_1139 dX12_days_22 ?_
    exact g_iret (pc := 24) hc dX12_days_24 (by rw [if_neg (ne_true_of_eq_false (ok2_f1 c1))]) (by rw [if_neg (ne_true_of_eq_false (ok2_f1 c1))])
  · refine g_aload_n (pc := 10) hc 0 dX12_days_10 rfl rfl ?_
    refine gf_m0_today (pc := 11) hc tw_1004 dX12_days_11 ?_
    refine g_iload_n (pc := 14) hc 1 dX12_days_14 rfl rfl ?_
    refine g_iadd (pc := 15) hc dX12_days_15 ?_
    refine g_sipush (pc := 16) (v := nI 400) hc dX12_days_16 (by decide) ?_
    refine g_icmp_le (pc := 19) hc 25 dX12_days_19 (by decide) (fun c2 => ?_) (fun c2 => ?_)
    · refine g_aload_n (pc := 25) hc 0 dX12_days_25 rfl rfl ?_
      refine g_dup (pc := 26) hc dX12_days_26 rfl ?_
      refine gf_m0_today (pc := 27) hc tw_1004 dX12_days_27 ?_
      refine g_iload_n (pc := 30) hc 1 dX12_days_30 rfl rfl ?_
      refine g_iadd (pc := 31) hc dX12_days_31 ?_
      refine pf_m0_today (pc := 32) hc hA tw_1004 dX12_days_32 ?_
      refine g_aload_n (pc := 35) hc 0 dX12_days_35 rfl rfl ?_
      refine gf_m0_today (pc := 36) hc tw_1004 dX12_days_36 ?_
      refine g_topi (v := (sc 2) + x) rfl ?_
      exact g_iret (pc := 39) hc dX12_days_39 (by rw [if_pos (ok2_t c1 (decide_eq_true c2))]) (by rw [if_pos (ok2_t c1 (decide_eq_true c2))])
    · refine g_ldc (pc := 22) (v := (-1000000001)) hc tw_1139 dX12_days_22 ?_
      exact g_iret (pc := 24) hc dX12_days_24 (by rw [if_neg (ne_true_of_eq_false (ok2_f2 c1 (decide_eq_false c2)))]) (by rw [if_neg (ne_true_of_eq_false (ok2_f2 c1 (decide_eq_false c2)))])

theorem dX12_many_0 : decode cX12_many 0 = .ok (.iconst 0, 1) := by decide +kernel
theorem dX12_many_1 : decode cX12_many 1 = .ok (.istore_n 2, 1) := by decide +kernel
theorem dX12_many_2 : decode cX12_many 2 = .ok (.iload_n 1, 1) := by decide +kernel
theorem dX12_many_3 : decode cX12_many 3 = .ok (.tableswitch 174 0 7 #[45, 50, 55, 60, 94, 129, 134, 139], 45) := by decide +kernel
theorem dX12_many_48 : decode cX12_many 48 = .ok (.aload_n 0, 1) := by decide +kernel
theorem dX12_many_49 : decode cX12_many 49 = .ok (.invokevirtual 109, 3) := by decide +kernel
theorem dX12_many_52 : decode cX12_many 52 = .ok (.ireturn, 1) := by decide +kernel
theorem dX12_many_53 : decode cX12_many 53 = .ok (.aload_n 0, 1) := by decide +kernel
theorem dX12_many_54 : decode cX12_many 54 = .ok (.getfield 117, 3) := by decide +kernel
theorem dX12_many_57 : decode cX12_many 57 = .ok (.ireturn, 1) := by decide +kernel
theorem dX12_many_58 : decode cX12_many 58 = .ok (.aload_n 0, 1) := by decide +kernel
theorem dX12_many_59 : decode cX12_many 59 = .ok (.getfield 121, 3) := by decide +kernel
theorem dX12_many_62 : decode cX12_many 62 = .ok (.ireturn, 1) := by decide +kernel
theorem dX12_many_63 : decode cX12_many 63 = .ok (.iconst 0, 1) := by decide +kernel
theorem dX12_many_64 : decode cX12_many 64 = .ok (.istore_n 3, 1) := by decide +kernel
theorem dX12_many_65 : decode cX12_many 65 = .ok (.iload_n 3, 1) := by decide +kernel
theorem dX12_many_66 : decode cX12_many 66 = .ok (.aload_n 0, 1) := by decide +kernel
theorem dX12_many_67 : decode cX12_many 67 = .ok (.getfield 13, 3) := by decide +kernel
theorem dX12_many_70 : decode cX12_many 70 = .ok (.if_icmp .ge 25, 3) := by decide +kernel
theorem dX12_many_73 : decode cX12_many 73 = .ok (.iload_n 2, 1) := by decide +kernel
theorem dX12_many_74 : decode cX12_many 74 = .ok (.aload_n 0, 1) := by decide +kernel
theorem dX12_many_75 : decode cX12_many 75 = .ok (.iload_n 3, 1) := by decide +kernel
theorem dX12_many_76 : decode cX12_many 76 = .ok (.invokevirtual 161, 3) := by decide +kernel
theorem dX12_many_79 : decode cX12_many 79 = .ok (.ifCond .ge 7, 3) := by decide +kernel
theorem dX12_many_82 : decode cX12_many 82 = .ok (.iconst 1, 1) := by decide +kernel
theorem dX12_many_83 : decode cX12_many 83 = .ok (.goto 4, 3) := by decide +kernel
theorem dX12_many_86 : decode cX12_many 86 = .ok (.iconst 0, 1) := by decide +kernel
theorem dX12_many_87 : decode cX12_many 87 = .ok (.iadd, 1) := by decide +kernel
theorem dX12_many_88 : decode cX12_many 88 = .ok (.istore_n 2, 1) := by decide +kernel
theorem dX12_many_89 : decode cX12_many 89 = .ok (.iinc 3 1, 3) := by decide +kernel
theorem dX12_many_92 : decode cX12_many 92 = .ok (.goto (-27), 3) := by decide +kernel
theorem dX12_many_95 : decode cX12_many 95 = .ok (.iload_n 2, 1) := by decide +kernel
theorem dX12_many_96 : decode cX12_many 96 = .ok (.ireturn, 1) := by decide +kernel
theorem dX12_many_97 : decode cX12_many 97 = .ok (.iconst 0, 1) := by decide +kernel
theorem dX12_many_98 : decode cX12_many 98 = .ok (.istore_n 3, 1) := by decide +kernel
theorem dX12_many_99 : decode cX12_many 99 = .ok (.iload_n 3, 1) := by decide +kernel
theorem dX12_many_100 : decode cX12_many 100 = .ok (.aload_n 0, 1) := by decide +kernel
theorem dX12_many_101 : decode cX12_many 101 = .ok (.getfield 128, 3) := by decide +kernel
theorem dX12_many_104 : decode cX12_many 104 = .ok (.if_icmp .ge 26, 3) := by decide +kernel
theorem dX12_many_107 : decode cX12_many 107 = .ok (.iload_n 2, 1) := by decide +kernel
theorem dX12_many_108 : decode cX12_many 108 = .ok (.aload_n 0, 1) := by decide +kernel
theorem dX12_many_109 : decode cX12_many 109 = .ok (.getfield 69, 3) := by decide +kernel
theorem dX12_many_112 : decode cX12_many 112 = .ok (.iload_n 3, 1) := by decide +kernel
theorem dX12_many_113 : decode cX12_many 113 = .ok (.baload, 1) := by decide +kernel
theorem dX12_many_114 : decode cX12_many 114 = .ok (.ifCond .eq 7, 3) := by decide +kernel
theorem dX12_many_117 : decode cX12_many 117 = .ok (.iconst 0, 1) := by decide +kernel
theorem dX12_many_118 : decode cX12_many 118 = .ok (.goto 4, 3) := by decide +kernel
theorem dX12_many_121 : decode cX12_many 121 = .ok (.iconst 1, 1) := by decide +kernel
theorem dX12_many_122 : decode cX12_many 122 = .ok (.iadd, 1) := by decide +kernel
theorem dX12_many_123 : decode cX12_many 123 = .ok (.istore_n 2, 1) := by decide +kernel
theorem dX12_many_124 : decode cX12_many 124 = .ok (.iinc 3 1, 3) := by decide +kernel
theorem dX12_many_127 : decode cX12_many 127 = .ok (.goto (-28), 3) := by decide +kernel
theorem dX12_many_130 : decode cX12_many 130 = .ok (.iload_n 2, 1) := by decide +kernel
theorem dX12_many_131 : decode cX12_many 131 = .ok (.ireturn, 1) := by decide +kernel
theorem dX12_many_132 : decode cX12_many 132 = .ok (.aload_n 0, 1) := by decide +kernel
theorem dX12_many_133 : decode cX12_many 133 = .ok (.getfield 142, 3) := by decide +kernel
theorem dX12_many_136 : decode cX12_many 136 = .ok (.ireturn, 1) := by decide +kernel
theorem dX12_many_137 : decode cX12_many 137 = .ok (.aload_n 0, 1) := by decide +kernel
theorem dX12_many_138 : decode cX12_many 138 = .ok (.getfield 204, 3) := by decide +kernel
theorem dX12_many_141 : decode cX12_many 141 = .ok (.ireturn, 1) := by decide +kernel
theorem dX12_many_142 : decode cX12_many 142 = .ok (.iconst 0, 1) := by decide +kernel
theorem dX12_many_143 : decode cX12_many 143 = .ok (.istore_n 3, 1) := by decide +kernel
theorem dX12_many_144 : decode cX12_many 144 = .ok (.iload_n 3, 1) := by decide +kernel
theorem dX12_many_145 : decode cX12_many 145 = .ok (.aload_n 0, 1) := by decide +kernel
theorem dX12_many_146 : decode cX12_many 146 = .ok (.invokevirtual 109, 3) := by decide +kernel
theorem dX12_many_149 : decode cX12_many 149 = .ok (.if_icmp .ge 26, 3) := by decide +kernel
theorem dX12_many_152 : decode cX12_many 152 = .ok (.iload_n 2, 1) := by decide +kernel
theorem dX12_many_153 : decode cX12_many 153 = .ok (.aload_n 0, 1) := by decide +kernel
theorem dX12_many_154 : decode cX12_many 154 = .ok (.getfield 41, 3) := by decide +kernel
theorem dX12_many_157 : decode cX12_many 157 = .ok (.iload_n 3, 1) := by decide +kernel
theorem dX12_many_158 : decode cX12_many 158 = .ok (.baload, 1) := by decide +kernel
theorem dX12_many_159 : decode cX12_many 159 = .ok (.ifCond .eq 7, 3) := by decide +kernel
theorem dX12_many_162 : decode cX12_many 162 = .ok (.iconst 1, 1) := by decide +kernel
theorem dX12_many_163 : decode cX12_many 163 = .ok (.goto 4, 3) := by decide +kernel
theorem dX12_many_166 : decode cX12_many 166 = .ok (.iconst 0, 1) := by decide +kernel
theorem dX12_many_167 : decode cX12_many 167 = .ok (.iadd, 1) := by decide +kernel
theorem dX12_many_168 : decode cX12_many 168 = .ok (.istore_n 2, 1) := by decide +kernel
theorem dX12_many_169 : decode cX12_many 169 = .ok (.iinc 3 1, 3) := by decide +kernel
theorem dX12_many_172 : decode cX12_many 172 = .ok (.goto (-28), 3) := by decide +kernel
theorem dX12_many_175 : decode cX12_many 175 = .ok (.iload_n 2, 1) := by decide +kernel
theorem dX12_many_176 : decode cX12_many 176 = .ok (.ireturn, 1) := by decide +kernel
theorem dX12_many_177 : decode cX12_many 177 = .ok (.ldc 120, 2) := by decide +kernel
theorem dX12_many_179 : decode cX12_many 179 = .ok (.ireturn, 1) := by decide +kernel

set_option maxHeartbeats 4000000 in
set_option maxRecDepth 100000 in
theorem c_X12_many (l : Launch) (E : Ev) {A : Nat → Prop} (ad : Nat → Nat) (hA : Oka 30 ad A) (sc : Nat → Int32) (ar : Nat → Nat → Int32) (la : Nat → Int64) {nW nF wd hg nL : Nat} (x : Int32) (hW : sc 3 = nI nW) (hW60 : nW ≤ 60) (hF : sc 4 = nI nF) (hF200 : nF ≤ 200) (hwd : sc 0 = nI wd) (hwd1 : 2 ≤ wd) (hwd2 : wd ≤ 8) (hhg : sc 1 = nI hg) (hhg1 : 2 ≤ hg) (hhg2 : hg ≤ 8) (hL : sc 8 = nI nL) (hL12 : nL ≤ 12) : Ct l E yX12_many (.code yX12_many cX12_many 4 (some .int)) ({ frames := 2, cells := 0, slots := 0, locals := 49 }) A (mw E ad sc ar la) [.ref (ad 0), .int x] (some (.int (if x = nI 0 then nI (wd * hg) else (if x = nI 1 then sc 3 else (if x = nI 2 then sc 4 else (if x = nI 3 then mgs nW nF (ar 3) (ar 5) (ar 8) hg else (if x = nI 4 then bks (ar 17) nL else (if x = nI 5 then sc 2 else (if x = nI 6 then sc 7 else (if x = nI 7 then ems (ar 9) (wd * hg) else ((-1000000001)))))))))))) (mw E ad sc ar la) := by
  have hm := prod64 hwd2 hhg2
  refine Ct.of (lv := [(0, .ref (ad 0)), (1, .int x)]) (by decide +kernel) (Nat.le_of_ble_eq_true rfl) rfl ?_
  intro zp ze zs zm za zb zh zc hc
  refine g_iconst (pc := 0) (v := nI 0) hc dX12_many_0 (by decide) ?_
  refine g_istore_n (pc := 1) (lv' := [(0, .ref (ad 0)), (1, .int x), (2, .int (nI 0))]) hc dX12_many_1 rfl (by decide) rfl ?_
  refine g_iload_n (pc := 2) hc 1 dX12_many_2 rfl rfl ?_
  by_cases c1 : x = nI 0
  · refine g_tableIn (pc := 3) hc 48 dX12_many_3 (by rw [c1]; decide) (by rw [c1]; decide) (off := 45) (by rw [c1]; rfl) (by decide) ?_
    refine g_aload_n (pc := 48) hc 0 dX12_many_48 rfl rfl ?_
    refine g_callVi (pc := 49) (rest := []) (As := []) hc (c_X12_paces l E ad hA sc ar la  (hwd) (hwd1) (hwd2) (hhg) (hhg1) (hhg2)) mi_X12_paces tw_1140 0 rfl rfl rfl rfl ⟨rfl, rfl, by decide, by decide⟩ (Nat.le_of_ble_eq_true rfl) ⟨Nat.le_refl _, Nat.le_refl _⟩ rfl dX12_many_49 ?_
    exact g_iret (pc := 52) hc dX12_many_52 (by (repeat (first | rw [if_pos c1] | rw [if_neg c1] | rw [if_neg (ne_true_of_eq_false c1)]))) (rfl)
  by_cases c2 : x = nI 1
  · refine g_tableIn (pc := 3) hc 53 dX12_many_3 (by rw [c2]; decide) (by rw [c2]; decide) (off := 50) (by rw [c2]; rfl) (by decide) ?_
    refine g_aload_n (pc := 53) hc 0 dX12_many_53 rfl rfl ?_
    refine gf_m0_walks (pc := 54) hc tw_1005 dX12_many_54 ?_
    exact g_iret (pc := 57) hc dX12_many_57 (by (repeat (first | rw [if_pos c1] | rw [if_neg c1] | rw [if_neg (ne_true_of_eq_false c1)] | rw [if_pos c2] | rw [if_neg c2] | rw [if_neg (ne_true_of_eq_false c2)]))) (rfl)
  by_cases c3 : x = nI 2
  · refine g_tableIn (pc := 3) hc 58 dX12_many_3 (by rw [c3]; decide) (by rw [c3]; decide) (off := 55) (by rw [c3]; rfl) (by decide) ?_
    refine g_aload_n (pc := 58) hc 0 dX12_many_58 rfl rfl ?_
    refine gf_m0_finds (pc := 59) hc tw_1009 dX12_many_59 ?_
    exact g_iret (pc := 62) hc dX12_many_62 (by (repeat (first | rw [if_pos c1] | rw [if_neg c1] | rw [if_neg (ne_true_of_eq_false c1)] | rw [if_pos c2] | rw [if_neg c2] | rw [if_neg (ne_true_of_eq_false c2)] | rw [if_pos c3] | rw [if_neg c3] | rw [if_neg (ne_true_of_eq_false c3)]))) (rfl)
  by_cases c4 : x = nI 3
  · refine g_tableIn (pc := 3) hc 63 dX12_many_3 (by rw [c4]; decide) (by rw [c4]; decide) (off := 60) (by rw [c4]; rfl) (by decide) ?_
    refine g_iconst (pc := 63) (v := nI 0) hc dX12_many_63 (by decide) ?_
    refine g_istore_n (pc := 64) (lv' := [(0, .ref (ad 0)), (1, .int x), (2, .int (nI 0)), (3, .int (nI 0))]) hc dX12_many_64 rfl (by decide) rfl ?_
    have L65_5 : ∀ (kr r : Nat), r + kr = hg → G zp l ze ({ frames := 2, cells := 0, slots := 0, locals := 49 }) zs zm za zb zh zc 0 0 (MQ zb (Qz E A (some (.int (if x = nI 0 then nI (wd * hg) else (if x = nI 1 then sc 3 else (if x = nI 2 then sc 4 else (if x = nI 3 then mgs nW nF (ar 3) (ar 5) (ar 8) hg else (if x = nI 4 then bks (ar 17) nL else (if x = nI 5 then sc 2 else (if x = nI 6 then sc 7 else (if x = nI 7 then ems (ar 9) (wd * hg) else ((-1000000001)))))))))))) (mw E ad sc ar la)) za zs 0 0 A) E A 4 (mw E ad sc ar la) (65) [(0, .ref (ad 0)), (1, .int x), (2, .int (mgs nW nF (ar 3) (ar 5) (ar 8) (r))), (3, .int (nI (r)))] [] := by
      intro kr
      induction kr with
      | zero =>
        intro r lhr
        have lhrn : hg = r := by omega
        subst lhrn
        refine g_iload_n (pc := 65) hc 3 dX12_many_65 rfl rfl ?_
        refine g_aload_n (pc := 66) hc 0 dX12_many_66 rfl rfl ?_
        refine gf_m0_high (pc := 67) hc tw_1002 dX12_many_67 ?_
        refine g_topi (v := nI hg) (hhg) ?_
        refine g_icmp_ge_t (pc := 70) hc 95 dX12_many_70 (by decide) (nI_le (by omega) (by omega)) ?_
        refine g_iload_n (pc := 95) hc 2 dX12_many_95 rfl rfl ?_
        exact g_iret (pc := 96) hc dX12_many_96 (by (repeat (first | rw [if_pos c1] | rw [if_neg c1] | rw [if_neg (ne_true_of_eq_false c1)] | rw [if_pos c2] | rw [if_neg c2] | rw [if_neg (ne_true_of_eq_false c2)] | rw [if_pos c3] | rw [if_neg c3] | rw [if_neg (ne_true_of_eq_false c3)] | rw [if_pos c4] | rw [if_neg c4] | rw [if_neg (ne_true_of_eq_false c4)]))) (rfl)
      | succ kr ihr =>
        intro r lhr
        have lhrn : r < hg := by omega
        refine g_iload_n (pc := 65) hc 3 dX12_many_65 rfl rfl ?_
        refine g_aload_n (pc := 66) hc 0 dX12_many_66 rfl rfl ?_
        refine gf_m0_high (pc := 67) hc tw_1002 dX12_many_67 ?_
        refine g_topi (v := nI hg) (hhg) ?_
        refine g_icmp_ge_f (pc := 70) hc 95 dX12_many_70 (by decide) (nI_ge (by omega) (by omega)) ?_
        refine g_iload_n (pc := 73) hc 2 dX12_many_73 rfl rfl ?_
        refine g_aload_n (pc := 74) hc 0 dX12_many_74 rfl rfl ?_
        refine g_iload_n (pc := 75) hc 3 dX12_many_75 rfl rfl ?_
        refine g_callVi (pc := 76) (rest := [.int (mgs nW nF (ar 3) (ar 5) (ar 8) (r))]) (As := [.int (nI (r))]) hc (c_X12_walkOf l E ad hA sc ar la (nI (r)) (hW) (hW60) (hF) (hF200)) mi_X12_walkOf tw_1197 0 rfl rfl rfl rfl ⟨rfl, rfl, by decide, by decide⟩ (Nat.le_of_ble_eq_true rfl) ⟨Nat.le_refl _, Nat.le_refl _⟩ rfl dX12_many_76 ?_
        refine g_if_ge (pc := 79) hc 86 dX12_many_79 (by decide) (fun c6 => ?_) (fun c6 => ?_)
        · refine g_iconst (pc := 86) (v := nI 0) hc dX12_many_86 (by decide) ?_
          refine g_iadd (pc := 87) hc dX12_many_87 ?_
          refine g_istore_n (pc := 88) (lv' := [(0, .ref (ad 0)), (1, .int x), (2, .int ((mgs nW nF (ar 3) (ar 5) (ar 8) (r)) + (nI 0))), (3, .int (nI (r)))]) hc dX12_many_88 rfl (by decide) rfl ?_
          refine g_iinc (pc := 89) (v := nI (r + 1)) (lv' := [(0, .ref (ad 0)), (1, .int x), (2, .int ((mgs nW nF (ar 3) (ar 5) (ar 8) (r)) + (nI 0))), (3, .int (nI (r + 1)))]) hc 3 dX12_many_89 rfl (nI_ofi r 1) (by decide) rfl ?_
          refine g_goto (pc := 92) hc 65 dX12_many_92 (by decide) ?_
          exact g_eq (ws' := mw E ad sc ar la) (lv' := [(0, .ref (ad 0)), (1, .int x), (2, .int (mgs nW nF (ar 3) (ar 5) (ar 8) (r + 1))), (3, .int (nI (r + 1)))]) (rfl) (by rw [mgs_succ]; repeat (first | rw [if_pos c6] | rw [if_neg c6] | rw [if_neg (ne_true_of_eq_false c6)])) rfl (ihr (r + 1) (by omega))
        · refine g_iconst (pc := 82) (v := nI 1) hc dX12_many_82 (by decide) ?_
          refine g_goto (pc := 83) hc 87 dX12_many_83 (by decide) ?_
          refine g_iadd (pc := 87) hc dX12_many_87 ?_
          refine g_istore_n (pc := 88) (lv' := [(0, .ref (ad 0)), (1, .int x), (2, .int ((mgs nW nF (ar 3) (ar 5) (ar 8) (r)) + (nI 1))), (3, .int (nI (r)))]) hc dX12_many_88 rfl (by decide) rfl ?_
          refine g_iinc (pc := 89) (v := nI (r + 1)) (lv' := [(0, .ref (ad 0)), (1, .int x), (2, .int ((mgs nW nF (ar 3) (ar 5) (ar 8) (r)) + (nI 1))), (3, .int (nI (r + 1)))]) hc 3 dX12_many_89 rfl (nI_ofi r 1) (by decide) rfl ?_
          refine g_goto (pc := 92) hc 65 dX12_many_92 (by decide) ?_
          exact g_eq (ws' := mw E ad sc ar la) (lv' := [(0, .ref (ad 0)), (1, .int x), (2, .int (mgs nW nF (ar 3) (ar 5) (ar 8) (r + 1))), (3, .int (nI (r + 1)))]) (rfl) (by rw [mgs_succ]; repeat (first | rw [if_pos c6] | rw [if_neg c6] | rw [if_neg (ne_true_of_eq_false c6)])) rfl (ihr (r + 1) (by omega))
    exact g_eq (ws' := mw E ad sc ar la) (lv' := [(0, .ref (ad 0)), (1, .int x), (2, .int (mgs nW nF (ar 3) (ar 5) (ar 8) (0))), (3, .int (nI (0)))]) (rfl) (rfl) rfl (L65_5 (hg - 0) (0) (by omega))
  by_cases c7 : x = nI 4
  · refine g_tableIn (pc := 3) hc 97 dX12_many_3 (by rw [c7]; decide) (by rw [c7]; decide) (off := 94) (by rw [c7]; rfl) (by decide) ?_
    refine g_iconst (pc := 97) (v := nI 0) hc dX12_many_97 (by decide) ?_
    refine g_istore_n (pc := 98) (lv' := [(0, .ref (ad 0)), (1, .int x), (2, .int (nI 0)), (3, .int (nI 0))]) hc dX12_many_98 rfl (by decide) rfl ?_
    have L99_8 : ∀ (kk k : Nat), k + kk = nL → G zp l ze ({ frames := 2, cells := 0, slots := 0, locals := 49 }) zs zm za zb zh zc 0 0 (MQ zb (Qz E A (some (.int (if x = nI 0 then nI (wd * hg) else (if x = nI 1 then sc 3 else (if x = nI 2 then sc 4 else (if x = nI 3 then mgs nW nF (ar 3) (ar 5) (ar 8) hg else (if x = nI 4 then bks (ar 17) nL else (if x = nI 5 then sc 2 else (if x = nI 6 then sc 7 else (if x = nI 7 then ems (ar 9) (wd * hg) else ((-1000000001)))))))))))) (mw E ad sc ar la)) za zs 0 0 A) E A 4 (mw E ad sc ar la) (99) [(0, .ref (ad 0)), (1, .int x), (2, .int (bks (ar 17) (k))), (3, .int (nI (k)))] [] := by
      intro kk
      induction kk with
      | zero =>
        intro k lhk
        have lhkn : nL = k := by omega
        subst lhkn
        refine g_iload_n (pc := 99) hc 3 dX12_many_99 rfl rfl ?_
        refine g_aload_n (pc := 100) hc 0 dX12_many_100 rfl rfl ?_
        refine gf_m0_leaves (pc := 101) hc tw_1020 dX12_many_101 ?_
        refine g_topi (v := nI nL) (hL) ?_
        refine g_icmp_ge_t (pc := 104) hc 130 dX12_many_104 (by decide) (nI_le (by omega) (by omega)) ?_
        refine g_iload_n (pc := 130) hc 2 dX12_many_130 rfl rfl ?_
        exact g_iret (pc := 131) hc dX12_many_131 (by (repeat (first | rw [if_pos c1] | rw [if_neg c1] | rw [if_neg (ne_true_of_eq_false c1)] | rw [if_pos c2] | rw [if_neg c2] | rw [if_neg (ne_true_of_eq_false c2)] | rw [if_pos c3] | rw [if_neg c3] | rw [if_neg (ne_true_of_eq_false c3)] | rw [if_pos c4] | rw [if_neg c4] | rw [if_neg (ne_true_of_eq_false c4)] | rw [if_pos c7] | rw [if_neg c7] | rw [if_neg (ne_true_of_eq_false c7)]))) (rfl)
      | succ kk ihk =>
        intro k lhk
        have lhkn : k < nL := by omega
        refine g_iload_n (pc := 99) hc 3 dX12_many_99 rfl rfl ?_
        refine g_aload_n (pc := 100) hc 0 dX12_many_100 rfl rfl ?_
        refine gf_m0_leaves (pc := 101) hc tw_1020 dX12_many_101 ?_
        refine g_topi (v := nI nL) (hL) ?_
        refine g_icmp_ge_f (pc := 104) hc 130 dX12_many_104 (by decide) (nI_ge (by omega) (by omega)) ?_
        refine g_iload_n (pc := 107) hc 2 dX12_many_107 rfl rfl ?_
        refine g_aload_n (pc := 108) hc 0 dX12_many_108 rfl rfl ?_
        refine gf_m0_isBack (pc := 109) hc tw_1026 dX12_many_109 ?_
        refine g_iload_n (pc := 112) hc 3 dX12_many_112 rfl rfl ?_
        refine la_m17 (pc := 113) hc (k) (rfl) (by omega) dX12_many_113 ?_
        refine g_if_eq (pc := 114) hc 121 dX12_many_114 (by decide) (fun c9 => ?_) (fun c9 => ?_)
        · refine g_iconst (pc := 121) (v := nI 1) hc dX12_many_121 (by decide) ?_
          refine g_iadd (pc := 122) hc dX12_many_122 ?_
          refine g_istore_n (pc := 123) (lv' := [(0, .ref (ad 0)), (1, .int x), (2, .int ((bks (ar 17) (k)) + (nI 1))), (3, .int (nI (k)))]) hc dX12_many_123 rfl (by decide) rfl ?_
          refine g_iinc (pc := 124) (v := nI (k + 1)) (lv' := [(0, .ref (ad 0)), (1, .int x), (2, .int ((bks (ar 17) (k)) + (nI 1))), (3, .int (nI (k + 1)))]) hc 3 dX12_many_124 rfl (nI_ofi k 1) (by decide) rfl ?_
          refine g_goto (pc := 127) hc 99 dX12_many_127 (by decide) ?_
          exact g_eq (ws' := mw E ad sc ar la) (lv' := [(0, .ref (ad 0)), (1, .int x), (2, .int (bks (ar 17) (k + 1))), (3, .int (nI (k + 1)))]) (rfl) (by rw [bks_succ]; repeat (first | rw [if_pos c9] | rw [if_neg c9] | rw [if_neg (ne_true_of_eq_false c9)])) rfl (ihk (k + 1) (by omega))
        · refine g_iconst (pc := 117) (v := nI 0) hc dX12_many_117 (by decide) ?_
          refine g_goto (pc := 118) hc 122 dX12_many_118 (by decide) ?_
          refine g_iadd (pc := 122) hc dX12_many_122 ?_
          refine g_istore_n (pc := 123) (lv' := [(0, .ref (ad 0)), (1, .int x), (2, .int ((bks (ar 17) (k)) + (nI 0))), (3, .int (nI (k)))]) hc dX12_many_123 rfl (by decide) rfl ?_
          refine g_iinc (pc := 124) (v := nI (k + 1)) (lv' := [(0, .ref (ad 0)), (1, .int x), (2, .int ((bks (ar 17) (k)) + (nI 0))), (3, .int (nI (k + 1)))]) hc 3 dX12_many_124 rfl (nI_ofi k 1) (by decide) rfl ?_
          refine g_goto (pc := 127) hc 99 dX12_many_127 (by decide) ?_
          exact g_eq (ws' := mw E ad sc ar la) (lv' := [(0, .ref (ad 0)), (1, .int x), (2, .int (bks (ar 17) (k + 1))), (3, .int (nI (k + 1)))]) (rfl) (by rw [bks_succ]; repeat (first | rw [if_pos c9] | rw [if_neg c9] | rw [if_neg (ne_true_of_eq_false c9)])) rfl (ihk (k + 1) (by omega))
    exact g_eq (ws' := mw E ad sc ar la) (lv' := [(0, .ref (ad 0)), (1, .int x), (2, .int (bks (ar 17) (0))), (3, .int (nI (0)))]) (rfl) (rfl) rfl (L99_8 (nL - 0) (0) (by omega))
  by_cases c10 : x = nI 5
  · refine g_tableIn (pc := 3) hc 132 dX12_many_3 (by rw [c10]; decide) (by rw [c10]; decide) (off := 129) (by rw [c10]; rfl) (by decide) ?_
    refine g_aload_n (pc := 132) hc 0 dX12_many_132 rfl rfl ?_
    refine gf_m0_today (pc := 133) hc tw_1004 dX12_many_133 ?_
    exact g_iret (pc := 136) hc dX12_many_136 (by (repeat (first | rw [if_pos c1] | rw [if_neg c1] | rw [if_neg (ne_true_of_eq_false c1)] | rw [if_pos c2] | rw [if_neg c2] | rw [if_neg (ne_true_of_eq_false c2)] | rw [if_pos c3] | rw [if_neg c3] | rw [if_neg (ne_true_of_eq_false c3)] | rw [if_pos c4] | rw [if_neg c4] | rw [if_neg (ne_true_of_eq_false c4)] | rw [if_pos c7] | rw [if_neg c7] | rw [if_neg (ne_true_of_eq_false c7)] | rw [if_pos c10] | rw [if_neg c10] | rw [if_neg (ne_true_of_eq_false c10)]))) (rfl)
  by_cases c11 : x = nI 6
  · refine g_tableIn (pc := 3) hc 137 dX12_many_3 (by rw [c11]; decide) (by rw [c11]; decide) (off := 134) (by rw [c11]; rfl) (by decide) ?_
    refine g_aload_n (pc := 137) hc 0 dX12_many_137 rfl rfl ?_
    refine gf_m0_taped (pc := 138) hc tw_1019 dX12_many_138 ?_
    exact g_iret (pc := 141) hc dX12_many_141 (by (repeat (first | rw [if_pos c1] | rw [if_neg c1] | rw [if_neg (ne_true_of_eq_false c1)] | rw [if_pos c2] | rw [if_neg c2] | rw [if_neg (ne_true_of_eq_false c2)] | rw [if_pos c3] | rw [if_neg c3] | rw [if_neg (ne_true_of_eq_false c3)] | rw [if_pos c4] | rw [if_neg c4] | rw [if_neg (ne_true_of_eq_false c4)] | rw [if_pos c7] | rw [if_neg c7] | rw [if_neg (ne_true_of_eq_false c7)] | rw [if_pos c10] | rw [if_neg c10] | rw [if_neg (ne_true_of_eq_false c10)] | rw [if_pos c11] | rw [if_neg c11] | rw [if_neg (ne_true_of_eq_false c11)]))) (rfl)
  by_cases c12 : x = nI 7
  · refine g_tableIn (pc := 3) hc 142 dX12_many_3 (by rw [c12]; decide) (by rw [c12]; decide) (off := 139) (by rw [c12]; rfl) (by decide) ?_
    refine g_iconst (pc := 142) (v := nI 0) hc dX12_many_142 (by decide) ?_
    refine g_istore_n (pc := 143) (lv' := [(0, .ref (ad 0)), (1, .int x), (2, .int (nI 0)), (3, .int (nI 0))]) hc dX12_many_143 rfl (by decide) rfl ?_
    have L144_13 : ∀ (kp p : Nat), p + kp = wd * hg → G zp l ze ({ frames := 2, cells := 0, slots := 0, locals := 49 }) zs zm za zb zh zc 0 0 (MQ zb (Qz E A (some (.int (if x = nI 0 then nI (wd * hg) else (if x = nI 1 then sc 3 else (if x = nI 2 then sc 4 else (if x = nI 3 then mgs nW nF (ar 3) (ar 5) (ar 8) hg else (if x = nI 4 then bks (ar 17) nL else (if x = nI 5 then sc 2 else (if x = nI 6 then sc 7 else (if x = nI 7 then ems (ar 9) (wd * hg) else ((-1000000001)))))))))))) (mw E ad sc ar la)) za zs 0 0 A) E A 4 (mw E ad sc ar la) (144) [(0, .ref (ad 0)), (1, .int x), (2, .int (ems (ar 9) (p))), (3, .int (nI (p)))] [] := by
      intro kp
      induction kp with
      | zero =>
        intro p lhp
        have lhpn : wd * hg = p := by omega
        subst lhpn
        refine g_iload_n (pc := 144) hc 3 dX12_many_144 rfl rfl ?_
        refine g_aload_n (pc := 145) hc 0 dX12_many_145 rfl rfl ?_
        refine g_callVi (pc := 146) (rest := [.int (nI (wd * hg))]) (As := []) hc (c_X12_paces l E ad hA sc ar la  (hwd) (hwd1) (hwd2) (hhg) (hhg1) (hhg2)) mi_X12_paces tw_1140 0 rfl rfl rfl rfl ⟨rfl, rfl, by decide, by decide⟩ (Nat.le_of_ble_eq_true rfl) ⟨Nat.le_refl _, Nat.le_refl _⟩ rfl dX12_many_146 ?_
        refine g_icmp_ge_t (pc := 149) hc 175 dX12_many_149 (by decide) (nI_le (by omega) (by omega)) ?_
        refine g_iload_n (pc := 175) hc 2 dX12_many_175 rfl rfl ?_
        exact g_iret (pc := 176) hc dX12_many_176 (by (repeat (first | rw [if_pos c1] | rw [if_neg c1] | rw [if_neg (ne_true_of_eq_false c1)] | rw [if_pos c2] | rw [if_neg c2] | rw [if_neg (ne_true_of_eq_false c2)] | rw [if_pos c3] | rw [if_neg c3] | rw [if_neg (ne_true_of_eq_false c3)] | rw [if_pos c4] | rw [if_neg c4] | rw [if_neg (ne_true_of_eq_false c4)] | rw [if_pos c7] | rw [if_neg c7] | rw [if_neg (ne_true_of_eq_false c7)] | rw [if_pos c10] | rw [if_neg c10] | rw [if_neg (ne_true_of_eq_false c10)] | rw [if_pos c11] | rw [if_neg c11] | rw [if_neg (ne_true_of_eq_false c11)] | rw [if_pos c12] | rw [if_neg c12] | rw [if_neg (ne_true_of_eq_false c12)]))) (rfl)
      | succ kp ihp =>
        intro p lhp
        have lhpn : p < wd * hg := by omega
        refine g_iload_n (pc := 144) hc 3 dX12_many_144 rfl rfl ?_
        refine g_aload_n (pc := 145) hc 0 dX12_many_145 rfl rfl ?_
        refine g_callVi (pc := 146) (rest := [.int (nI (p))]) (As := []) hc (c_X12_paces l E ad hA sc ar la  (hwd) (hwd1) (hwd2) (hhg) (hhg1) (hhg2)) mi_X12_paces tw_1140 0 rfl rfl rfl rfl ⟨rfl, rfl, by decide, by decide⟩ (Nat.le_of_ble_eq_true rfl) ⟨Nat.le_refl _, Nat.le_refl _⟩ rfl dX12_many_146 ?_
        refine g_icmp_ge_f (pc := 149) hc 175 dX12_many_149 (by decide) (nI_ge (by omega) (by omega)) ?_
        refine g_iload_n (pc := 152) hc 2 dX12_many_152 rfl rfl ?_
        refine g_aload_n (pc := 153) hc 0 dX12_many_153 rfl rfl ?_
        refine gf_m0_isEmpty (pc := 154) hc tw_1014 dX12_many_154 ?_
        refine g_iload_n (pc := 157) hc 3 dX12_many_157 rfl rfl ?_
        refine la_m9 (pc := 158) hc (p) (rfl) (by omega) dX12_many_158 ?_
        refine g_if_eq (pc := 159) hc 166 dX12_many_159 (by decide) (fun c14 => ?_) (fun c14 => ?_)
        · refine g_iconst (pc := 166) (v := nI 0) hc dX12_many_166 (by decide) ?_
          refine g_iadd (pc := 167) hc dX12_many_167 ?_
          refine g_istore_n (pc := 168) (lv' := [(0, .ref (ad 0)), (1, .int x), (2, .int ((ems (ar 9) (p)) + (nI 0))), (3, .int (nI (p)))]) hc dX12_many_168 rfl (by decide) rfl ?_
          refine g_iinc (pc := 169) (v := nI (p + 1)) (lv' := [(0, .ref (ad 0)), (1, .int x), (2, .int ((ems (ar 9) (p)) + (nI 0))), (3, .int (nI (p + 1)))]) hc 3 dX12_many_169 rfl (nI_ofi p 1) (by decide) rfl ?_
          refine g_goto (pc := 172) hc 144 dX12_many_172 (by decide) ?_
          exact g_eq (ws' := mw E ad sc ar la) (lv' := [(0, .ref (ad 0)), (1, .int x), (2, .int (ems (ar 9) (p + 1))), (3, .int (nI (p + 1)))]) (rfl) (by rw [ems_succ]; repeat (first | rw [if_pos c14] | rw [if_neg c14] | rw [if_neg (ne_true_of_eq_false c14)])) rfl (ihp (p + 1) (by omega))
        · refine g_iconst (pc := 162) (v := nI 1) hc dX12_many_162 (by decide) ?_
          refine g_goto (pc := 163) hc 167 dX12_many_163 (by decide) ?_
          refine g_iadd (pc := 167) hc dX12_many_167 ?_
          refine g_istore_n (pc := 168) (lv' := [(0, .ref (ad 0)), (1, .int x), (2, .int ((ems (ar 9) (p)) + (nI 1))), (3, .int (nI (p)))]) hc dX12_many_168 rfl (by decide) rfl ?_
          refine g_iinc (pc := 169) (v := nI (p + 1)) (lv' := [(0, .ref (ad 0)), (1, .int x), (2, .int ((ems (ar 9) (p)) + (nI 1))), (3, .int (nI (p + 1)))]) hc 3 dX12_many_169 rfl (nI_ofi p 1) (by decide) rfl ?_
          refine g_goto (pc := 172) hc 144 dX12_many_172 (by decide) ?_
          exact g_eq (ws' := mw E ad sc ar la) (lv' := [(0, .ref (ad 0)), (1, .int x), (2, .int (ems (ar 9) (p + 1))), (3, .int (nI (p + 1)))]) (rfl) (by rw [ems_succ]; repeat (first | rw [if_pos c14] | rw [if_neg c14] | rw [if_neg (ne_true_of_eq_false c14)])) rfl (ihp (p + 1) (by omega))
    exact g_eq (ws' := mw E ad sc ar la) (lv' := [(0, .ref (ad 0)), (1, .int x), (2, .int (ems (ar 9) (0))), (3, .int (nI (0)))]) (rfl) (rfl) rfl (L144_13 (wd * hg - 0) (0) (by omega))
  refine g_tableOut (pc := 3) hc 177 dX12_many_3 (tsw_out8 c1 c2 c3 c4 c7 c10 c11 c12) (by decide) ?_
  refine g_ldc (pc := 177) (v := (-1000000001)) hc tw_1139 dX12_many_177 ?_
  exact g_iret (pc := 179) hc dX12_many_179 (by (repeat (first | rw [if_pos c1] | rw [if_neg c1] | rw [if_neg (ne_true_of_eq_false c1)] | rw [if_pos c2] | rw [if_neg c2] | rw [if_neg (ne_true_of_eq_false c2)] | rw [if_pos c3] | rw [if_neg c3] | rw [if_neg (ne_true_of_eq_false c3)] | rw [if_pos c4] | rw [if_neg c4] | rw [if_neg (ne_true_of_eq_false c4)] | rw [if_pos c7] | rw [if_neg c7] | rw [if_neg (ne_true_of_eq_false c7)] | rw [if_pos c10] | rw [if_neg c10] | rw [if_neg (ne_true_of_eq_false c10)] | rw [if_pos c11] | rw [if_neg c11] | rw [if_neg (ne_true_of_eq_false c11)] | rw [if_pos c12] | rw [if_neg c12] | rw [if_neg (ne_true_of_eq_false c12)]))) (rfl)
