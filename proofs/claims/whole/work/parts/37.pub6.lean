theorem dX11_sheet_0 : decode cX11_sheet 0 = .ok (.iload_n 1, 1) := by decide +kernel
theorem dX11_sheet_1 : decode cX11_sheet 1 = .ok (.invokestatic 309, 3) := by decide +kernel
theorem dX11_sheet_4 : decode cX11_sheet 4 = .ok (.ifCond .eq 9, 3) := by decide +kernel
theorem dX11_sheet_7 : decode cX11_sheet 7 = .ok (.iload_n 2, 1) := by decide +kernel
theorem dX11_sheet_8 : decode cX11_sheet 8 = .ok (.bipush 64, 2) := by decide +kernel
theorem dX11_sheet_10 : decode cX11_sheet 10 = .ok (.if_icmp .le 6, 3) := by decide +kernel
theorem dX11_sheet_13 : decode cX11_sheet 13 = .ok (.ldc 109, 2) := by decide +kernel
theorem dX11_sheet_15 : decode cX11_sheet 15 = .ok (.ireturn, 1) := by decide +kernel
theorem dX11_sheet_16 : decode cX11_sheet 16 = .ok (.iload_n 2, 1) := by decide +kernel
theorem dX11_sheet_17 : decode cX11_sheet 17 = .ok (.ifCond .ge 7, 3) := by decide +kernel
theorem dX11_sheet_20 : decode cX11_sheet 20 = .ok (.ldc_w 312, 3) := by decide +kernel
theorem dX11_sheet_23 : decode cX11_sheet 23 = .ok (.ireturn, 1) := by decide +kernel
theorem dX11_sheet_24 : decode cX11_sheet 24 = .ok (.aload_n 0, 1) := by decide +kernel
theorem dX11_sheet_25 : decode cX11_sheet 25 = .ok (.iload_n 1, 1) := by decide +kernel
theorem dX11_sheet_26 : decode cX11_sheet 26 = .ok (.invokevirtual 313, 3) := by decide +kernel
theorem dX11_sheet_29 : decode cX11_sheet 29 = .ok (.iload_n 2, 1) := by decide +kernel
theorem dX11_sheet_30 : decode cX11_sheet 30 = .ok (.invokevirtual 317, 3) := by decide +kernel
theorem dX11_sheet_33 : decode cX11_sheet 33 = .ok (.iload_n 2, 1) := by decide +kernel
theorem dX11_sheet_34 : decode cX11_sheet 34 = .ok (.ireturn, 1) := by decide +kernel

theorem dX11_mark_0 : decode cX11_mark 0 = .ok (.iload_n 1, 1) := by decide +kernel
theorem dX11_mark_1 : decode cX11_mark 1 = .ok (.invokestatic 309, 3) := by decide +kernel
theorem dX11_mark_4 : decode cX11_mark 4 = .ok (.ifCond .ne 6, 3) := by decide +kernel
theorem dX11_mark_7 : decode cX11_mark 7 = .ok (.ldc 109, 2) := by decide +kernel
theorem dX11_mark_9 : decode cX11_mark 9 = .ok (.ireturn, 1) := by decide +kernel
theorem dX11_mark_10 : decode cX11_mark 10 = .ok (.aload_n 0, 1) := by decide +kernel
theorem dX11_mark_11 : decode cX11_mark 11 = .ok (.iload_n 1, 1) := by decide +kernel
theorem dX11_mark_12 : decode cX11_mark 12 = .ok (.invokevirtual 313, 3) := by decide +kernel
theorem dX11_mark_15 : decode cX11_mark 15 = .ok (.astore 4, 2) := by decide +kernel
theorem dX11_mark_17 : decode cX11_mark 17 = .ok (.aload 4, 2) := by decide +kernel
theorem dX11_mark_19 : decode cX11_mark 19 = .ok (.invokevirtual 261, 3) := by decide +kernel
theorem dX11_mark_22 : decode cX11_mark 22 = .ok (.ifCond .eq 7, 3) := by decide +kernel
theorem dX11_mark_25 : decode cX11_mark 25 = .ok (.ldc_w 264, 3) := by decide +kernel
theorem dX11_mark_28 : decode cX11_mark 28 = .ok (.ireturn, 1) := by decide +kernel
theorem dX11_mark_29 : decode cX11_mark 29 = .ok (.aload 4, 2) := by decide +kernel
theorem dX11_mark_31 : decode cX11_mark 31 = .ok (.iload_n 2, 1) := by decide +kernel
theorem dX11_mark_32 : decode cX11_mark 32 = .ok (.invokevirtual 319, 3) := by decide +kernel
theorem dX11_mark_35 : decode cX11_mark 35 = .ok (.ifCond .ne 7, 3) := by decide +kernel
theorem dX11_mark_38 : decode cX11_mark 38 = .ok (.ldc_w 320, 3) := by decide +kernel
theorem dX11_mark_41 : decode cX11_mark 41 = .ok (.ireturn, 1) := by decide +kernel
theorem dX11_mark_42 : decode cX11_mark 42 = .ok (.aload 4, 2) := by decide +kernel
theorem dX11_mark_44 : decode cX11_mark 44 = .ok (.iload_n 2, 1) := by decide +kernel
theorem dX11_mark_45 : decode cX11_mark 45 = .ok (.iload_n 3, 1) := by decide +kernel
theorem dX11_mark_46 : decode cX11_mark 46 = .ok (.invokevirtual 321, 3) := by decide +kernel
theorem dX11_mark_49 : decode cX11_mark 49 = .ok (.ireturn, 1) := by decide +kernel

theorem dX11_lose_0 : decode cX11_lose 0 = .ok (.iload_n 1, 1) := by decide +kernel
theorem dX11_lose_1 : decode cX11_lose 1 = .ok (.invokestatic 309, 3) := by decide +kernel
theorem dX11_lose_4 : decode cX11_lose 4 = .ok (.ifCond .ne 6, 3) := by decide +kernel
theorem dX11_lose_7 : decode cX11_lose 7 = .ok (.ldc 109, 2) := by decide +kernel
theorem dX11_lose_9 : decode cX11_lose 9 = .ok (.ireturn, 1) := by decide +kernel
theorem dX11_lose_10 : decode cX11_lose 10 = .ok (.aload_n 0, 1) := by decide +kernel
theorem dX11_lose_11 : decode cX11_lose 11 = .ok (.iload_n 1, 1) := by decide +kernel
theorem dX11_lose_12 : decode cX11_lose 12 = .ok (.invokevirtual 313, 3) := by decide +kernel
theorem dX11_lose_15 : decode cX11_lose 15 = .ok (.astore_n 2, 1) := by decide +kernel
theorem dX11_lose_16 : decode cX11_lose 16 = .ok (.aload_n 2, 1) := by decide +kernel
theorem dX11_lose_17 : decode cX11_lose 17 = .ok (.invokevirtual 261, 3) := by decide +kernel
theorem dX11_lose_20 : decode cX11_lose 20 = .ok (.ifCond .eq 9, 3) := by decide +kernel
theorem dX11_lose_23 : decode cX11_lose 23 = .ok (.ldc_w 264, 3) := by decide +kernel
theorem dX11_lose_26 : decode cX11_lose 26 = .ok (.goto 7, 3) := by decide +kernel
theorem dX11_lose_29 : decode cX11_lose 29 = .ok (.aload_n 2, 1) := by decide +kernel
theorem dX11_lose_30 : decode cX11_lose 30 = .ok (.invokevirtual 331, 3) := by decide +kernel
theorem dX11_lose_33 : decode cX11_lose 33 = .ok (.ireturn, 1) := by decide +kernel

set_option maxHeartbeats 4000000 in
set_option maxRecDepth 100000 in
theorem c_X11_sheet_0 (l : Launch) (E : Ev) {A : Nat → Prop} (ad : Nat → Nat) (hA : Oka 39 ad A) (sc : Nat → Int32) (ar : Nat → Nat → Int32) (bl : Int64) (x : Int32) : Ct l E yX11_sheet (.code yX11_sheet cX11_sheet 3 (some .int)) ({ frames := 2, cells := 0, slots := 0, locals := 44 }) A (cw E ad sc ar bl) [.ref (ad 0), .int (nI 0), .int x] (some (.int (if x ≤ nI 64 then (if 0 ≤ x then x else (-1000000014)) else (-1000000001)))) (if x ≤ nI 64 then (if 0 ≤ x then cw E ad (va_up sc 17 x) (va_up ar 37 (fil (vp_nar .short (nI 0)) (ar 37) 64)) bl else cw E ad sc ar bl) else cw E ad sc ar bl) := by
  refine Ct.of (lv := [(0, .ref (ad 0)), (1, .int (nI 0)), (2, .int x)]) (by decide +kernel) (Nat.le_of_ble_eq_true rfl) rfl ?_
  intro zp ze zs zm za zb zh zc hc
  refine g_iload_n (pc := 0) hc 1 dX11_sheet_0 rfl rfl ?_
  refine g_callSi (pc := 1) (rest := []) (As := [.int (nI 0)]) hc (c_X11_isSheet l E ad hA sc ar bl (nI 0)) mi_X11_isSheet tw_919 rfl ⟨rfl, rfl, by decide, by decide⟩ (Nat.le_of_ble_eq_true rfl) ⟨Nat.le_refl _, Nat.le_refl _⟩ rfl dX11_sheet_1 ?_
  refine g_if_eq_f (pc := 4) hc 13 dX11_sheet_4 (by decide) (by decide) ?_
  refine g_iload_n (pc := 7) hc 2 dX11_sheet_7 rfl rfl ?_
  refine g_bipush (pc := 8) (v := nI 64) hc dX11_sheet_8 (by decide) ?_
  refine g_icmp_le (pc := 10) hc 16 dX11_sheet_10 (by decide) (fun c1 => ?_) (fun c1 => ?_)
  · refine g_iload_n (pc := 16) hc 2 dX11_sheet_16 rfl rfl ?_
    refine g_if_ge (pc := 17) hc 24 dX11_sheet_17 (by decide) (fun c2 => ?_) (fun c2 => ?_)
    · refine g_aload_n (pc := 24) hc 0 dX11_sheet_24 rfl rfl ?_
      refine g_iload_n (pc := 25) hc 1 dX11_sheet_25 rfl rfl ?_
      refine g_callVa (pc := 26) (rest := []) (As := [.int (nI 0)]) hc (c_X11_sn0 l E ad hA sc ar bl) mi_X11_sheetNumbered tw_923 0 rfl rfl rfl rfl ⟨rfl, rfl, by decide, by decide⟩ (Nat.le_of_ble_eq_true rfl) ⟨Nat.le_refl _, Nat.le_refl _⟩ rfl dX11_sheet_26 ?_
      refine g_iload_n (pc := 29) hc 2 dX11_sheet_29 rfl rfl ?_
      refine g_callVv (pc := 30) (rest := []) (As := [.int x]) hc (c_X7_renew_11 l E ad hA sc ar bl x) mi_X7_renew tw_927 11 rfl rfl rfl rfl ⟨rfl, rfl, by decide, by decide⟩ (Nat.le_of_ble_eq_true rfl) ⟨Nat.le_refl _, Nat.le_refl _⟩ rfl dX11_sheet_30 ?_
      refine g_iload_n (pc := 33) hc 2 dX11_sheet_33 rfl rfl ?_
      exact g_iret (pc := 34) hc dX11_sheet_34 (by (repeat (first | rw [if_pos c1] | rw [if_neg c1] | rw [if_neg (ne_true_of_eq_false c1)] | rw [if_pos c2] | rw [if_neg c2] | rw [if_neg (ne_true_of_eq_false c2)]))) (by (repeat (first | rw [if_pos c1] | rw [if_neg c1] | rw [if_neg (ne_true_of_eq_false c1)] | rw [if_pos c2] | rw [if_neg c2] | rw [if_neg (ne_true_of_eq_false c2)])))
    · refine g_ldcw (pc := 20) (v := (-1000000014)) hc tw_922 dX11_sheet_20 ?_
      exact g_iret (pc := 23) hc dX11_sheet_23 (by (repeat (first | rw [if_pos c1] | rw [if_neg c1] | rw [if_neg (ne_true_of_eq_false c1)] | rw [if_pos c2] | rw [if_neg c2] | rw [if_neg (ne_true_of_eq_false c2)]))) (by (repeat (first | rw [if_pos c1] | rw [if_neg c1] | rw [if_neg (ne_true_of_eq_false c1)] | rw [if_pos c2] | rw [if_neg c2] | rw [if_neg (ne_true_of_eq_false c2)])))
  · refine g_ldc (pc := 13) (v := (-1000000001)) hc tw_308 dX11_sheet_13 ?_
    exact g_iret (pc := 15) hc dX11_sheet_15 (by (repeat (first | rw [if_pos c1] | rw [if_neg c1] | rw [if_neg (ne_true_of_eq_false c1)]))) (by (repeat (first | rw [if_pos c1] | rw [if_neg c1] | rw [if_neg (ne_true_of_eq_false c1)])))

set_option maxHeartbeats 4000000 in
set_option maxRecDepth 100000 in
theorem c_X11_mark_0 (l : Launch) (E : Ev) {A : Nat → Prop} (ad : Nat → Nat) (hA : Oka 39 ad A) (sc : Nat → Int32) (ar : Nat → Nat → Int32) (bl : Int64) (x y : Int32) (hS : inx x (sc 17) = true → ∃ j : Nat, j < 64 ∧ x = nI j) : Ct l E yX11_mark (.code yX11_mark cX11_mark 5 (some .int)) ({ frames := 2, cells := 0, slots := 0, locals := 42 }) A (cw E ad sc ar bl) [.ref (ad 0), .int (nI 0), .int x, .int y] (some (.int (if sc 17 = (-1) then (-1000000011) else if inx x (sc 17) = true then ar 37 (tn x) else (-1000000013)))) (if sc 17 = (-1) then cw E ad sc ar bl else if inx x (sc 17) = true then cw E ad sc (va_up ar 37 (upd (ar 37) (tn x) (vp_nar .short (y : Int32).toInt16.toInt32))) bl else cw E ad sc ar bl) := by
  refine Ct.of (lv := [(0, .ref (ad 0)), (1, .int (nI 0)), (2, .int x), (3, .int y)]) (by decide +kernel) (Nat.le_of_ble_eq_true rfl) rfl ?_
  intro zp ze zs zm za zb zh zc hc
  refine g_iload_n (pc := 0) hc 1 dX11_mark_0 rfl rfl ?_
  refine g_callSi (pc := 1) (rest := []) (As := [.int (nI 0)]) hc (c_X11_isSheet l E ad hA sc ar bl (nI 0)) mi_X11_isSheet tw_919 rfl ⟨rfl, rfl, by decide, by decide⟩ (Nat.le_of_ble_eq_true rfl) ⟨Nat.le_refl _, Nat.le_refl _⟩ rfl dX11_mark_1 ?_
  refine g_if_ne_t (pc := 4) hc 10 dX11_mark_4 (by decide) (by decide) ?_
  refine g_aload_n (pc := 10) hc 0 dX11_mark_10 rfl rfl ?_
  refine g_iload_n (pc := 11) hc 1 dX11_mark_11 rfl rfl ?_
  refine g_callVa (pc := 12) (rest := []) (As := [.int (nI 0)]) hc (c_X11_sn0 l E ad hA sc ar bl) mi_X11_sheetNumbered tw_923 0 rfl rfl rfl rfl ⟨rfl, rfl, by decide, by decide⟩ (Nat.le_of_ble_eq_true rfl) ⟨Nat.le_refl _, Nat.le_refl _⟩ rfl dX11_mark_12 ?_
  refine g_astore (pc := 15) (lv' := [(0, .ref (ad 0)), (1, .int (nI 0)), (2, .int x), (3, .int y), (4, .ref (ad 11))]) hc dX11_mark_15 (by decide) rfl ?_
  refine g_aload (pc := 17) hc 4 dX11_mark_17 rfl ?_
  refine g_callVi (pc := 19) (rest := []) (As := []) hc (c_X7_isMissing_11 l E ad hA sc ar bl) mi_X7_isMissing tw_665 11 rfl rfl rfl rfl ⟨rfl, rfl, by decide, by decide⟩ (Nat.le_of_ble_eq_true rfl) ⟨Nat.le_refl _, Nat.le_refl _⟩ rfl dX11_mark_19 ?_
  refine g_if_eq_b (pc := 22) hc 29 dX11_mark_22 (by decide) (fun c1 => ?_) (fun c1 => ?_)
  · refine g_aload (pc := 29) hc 4 dX11_mark_29 rfl ?_
    refine g_iload_n (pc := 31) hc 2 dX11_mark_31 rfl rfl ?_
    refine g_callVi (pc := 32) (rest := []) (As := [.int x]) hc (c_X7_has_11 l E ad hA sc ar bl x) mi_X7_has tw_938 11 rfl rfl rfl rfl ⟨rfl, rfl, by decide, by decide⟩ (Nat.le_of_ble_eq_true rfl) ⟨Nat.le_refl _, Nat.le_refl _⟩ rfl dX11_mark_32 ?_
    refine g_if_ne_b (pc := 35) hc 42 dX11_mark_35 (by decide) (fun c2 => ?_) (fun c2 => ?_)
    · obtain ⟨i, hi, hx⟩ := hS c2
      refine g_eq (ws' := cw E ad sc ar bl) (lv' := [(0, .ref (ad 0)), (1, .int (nI 0)), (2, .int (nI i)), (3, .int y), (4, .ref (ad 11))]) rfl (by rw [hx]) rfl ?_
      refine g_aload (pc := 42) hc 4 dX11_mark_42 rfl ?_
      refine g_iload_n (pc := 44) hc 2 dX11_mark_44 rfl rfl ?_
      refine g_iload_n (pc := 45) hc 3 dX11_mark_45 rfl rfl ?_
      refine g_callVi (pc := 46) (rest := []) (As := [.int (nI i), .int y]) hc (c_X7_put_11 l E ad hA sc ar bl i y (by omega)) mi_X7_put tw_940 11 rfl rfl rfl rfl ⟨rfl, rfl, by decide, by decide⟩ (Nat.le_of_ble_eq_true rfl) ⟨Nat.le_refl _, Nat.le_refl _⟩ rfl dX11_mark_46 ?_
      exact g_iret (pc := 49) hc dX11_mark_49 (by rw [if_neg (of_decide_eq_false c1), if_pos c2, hx, tn, nI_clamp (by omega)]) (by rw [if_neg (of_decide_eq_false c1), if_pos c2, hx, tn, nI_clamp (by omega)])
    · refine g_ldcw (pc := 38) (v := (-1000000013)) hc tw_939 dX11_mark_38 ?_
      exact g_iret (pc := 41) hc dX11_mark_41 (by rw [if_neg (of_decide_eq_false c1), if_neg (ne_true_of_eq_false c2)]) (by rw [if_neg (of_decide_eq_false c1), if_neg (ne_true_of_eq_false c2)])
  · refine g_ldcw (pc := 25) (v := (-1000000011)) hc tw_669 dX11_mark_25 ?_
    exact g_iret (pc := 28) hc dX11_mark_28 (by rw [if_pos (of_decide_eq_true c1)]) (by rw [if_pos (of_decide_eq_true c1)])

set_option maxHeartbeats 4000000 in
set_option maxRecDepth 100000 in
theorem c_X11_lose_0 (l : Launch) (E : Ev) {A : Nat → Prop} (ad : Nat → Nat) (hA : Oka 39 ad A) (sc : Nat → Int32) (ar : Nat → Nat → Int32) (bl : Int64)  : Ct l E yX11_lose (.code yX11_lose cX11_lose 3 (some .int)) ({ frames := 2, cells := 0, slots := 0, locals := 42 }) A (cw E ad sc ar bl) [.ref (ad 0), .int (nI 0)] (some (.int (if sc 17 = (-1) then (-1000000011) else sc 17))) (if sc 17 = (-1) then cw E ad sc ar bl else cw E ad (va_up sc 17 (-1)) ar bl) := by
  refine Ct.of (lv := [(0, .ref (ad 0)), (1, .int (nI 0))]) (by decide +kernel) (Nat.le_of_ble_eq_true rfl) rfl ?_
  intro zp ze zs zm za zb zh zc hc
  refine g_iload_n (pc := 0) hc 1 dX11_lose_0 rfl rfl ?_
  refine g_callSi (pc := 1) (rest := []) (As := [.int (nI 0)]) hc (c_X11_isSheet l E ad hA sc ar bl (nI 0)) mi_X11_isSheet tw_919 rfl ⟨rfl, rfl, by decide, by decide⟩ (Nat.le_of_ble_eq_true rfl) ⟨Nat.le_refl _, Nat.le_refl _⟩ rfl dX11_lose_1 ?_
  refine g_if_ne_t (pc := 4) hc 10 dX11_lose_4 (by decide) (by decide) ?_
  refine g_aload_n (pc := 10) hc 0 dX11_lose_10 rfl rfl ?_
  refine g_iload_n (pc := 11) hc 1 dX11_lose_11 rfl rfl ?_
  refine g_callVa (pc := 12) (rest := []) (As := [.int (nI 0)]) hc (c_X11_sn0 l E ad hA sc ar bl) mi_X11_sheetNumbered tw_923 0 rfl rfl rfl rfl ⟨rfl, rfl, by decide, by decide⟩ (Nat.le_of_ble_eq_true rfl) ⟨Nat.le_refl _, Nat.le_refl _⟩ rfl dX11_lose_12 ?_
  refine g_astore_n (pc := 15) (lv' := [(0, .ref (ad 0)), (1, .int (nI 0)), (2, .ref (ad 11))]) hc dX11_lose_15 rfl (by decide) rfl ?_
  refine g_aload_n (pc := 16) hc 2 dX11_lose_16 rfl rfl ?_
  refine g_callVi (pc := 17) (rest := []) (As := []) hc (c_X7_isMissing_11 l E ad hA sc ar bl) mi_X7_isMissing tw_665 11 rfl rfl rfl rfl ⟨rfl, rfl, by decide, by decide⟩ (Nat.le_of_ble_eq_true rfl) ⟨Nat.le_refl _, Nat.le_refl _⟩ rfl dX11_lose_17 ?_
  refine g_if_eq_b (pc := 20) hc 29 dX11_lose_20 (by decide) (fun c1 => ?_) (fun c1 => ?_)
  · refine g_aload_n (pc := 29) hc 2 dX11_lose_29 rfl rfl ?_
    refine g_callVi (pc := 30) (rest := []) (As := []) hc (c_X7_vanish_11 l E ad hA sc ar bl) mi_X7_vanish tw_963 11 rfl rfl rfl rfl ⟨rfl, rfl, by decide, by decide⟩ (Nat.le_of_ble_eq_true rfl) ⟨Nat.le_refl _, Nat.le_refl _⟩ rfl dX11_lose_30 ?_
    exact g_iret (pc := 33) hc dX11_lose_33 (by first | rw [if_pos (of_decide_eq_true c1)] | rw [if_neg (of_decide_eq_false c1)]) (by first | rw [if_pos (of_decide_eq_true c1)] | rw [if_neg (of_decide_eq_false c1)])
  · refine g_ldcw (pc := 23) (v := (-1000000011)) hc tw_669 dX11_lose_23 ?_
    refine g_goto (pc := 26) hc 33 dX11_lose_26 (by decide) ?_
    exact g_iret (pc := 33) hc dX11_lose_33 (by first | rw [if_pos (of_decide_eq_true c1)] | rw [if_neg (of_decide_eq_false c1)]) (by first | rw [if_pos (of_decide_eq_true c1)] | rw [if_neg (of_decide_eq_false c1)])

set_option maxHeartbeats 4000000 in
set_option maxRecDepth 100000 in
theorem c_X11_sheet_1 (l : Launch) (E : Ev) {A : Nat → Prop} (ad : Nat → Nat) (hA : Oka 39 ad A) (sc : Nat → Int32) (ar : Nat → Nat → Int32) (bl : Int64) (x : Int32) : Ct l E yX11_sheet (.code yX11_sheet cX11_sheet 3 (some .int)) ({ frames := 2, cells := 0, slots := 0, locals := 44 }) A (cw E ad sc ar bl) [.ref (ad 0), .int (nI 1), .int x] (some (.int (if x ≤ nI 64 then (if 0 ≤ x then x else (-1000000014)) else (-1000000001)))) (if x ≤ nI 64 then (if 0 ≤ x then cw E ad (va_up sc 18 x) (va_up ar 38 (fil (vp_nar .short (nI 0)) (ar 38) 64)) bl else cw E ad sc ar bl) else cw E ad sc ar bl) := by
  refine Ct.of (lv := [(0, .ref (ad 0)), (1, .int (nI 1)), (2, .int x)]) (by decide +kernel) (Nat.le_of_ble_eq_true rfl) rfl ?_
  intro zp ze zs zm za zb zh zc hc
  refine g_iload_n (pc := 0) hc 1 dX11_sheet_0 rfl rfl ?_
  refine g_callSi (pc := 1) (rest := []) (As := [.int (nI 1)]) hc (c_X11_isSheet l E ad hA sc ar bl (nI 1)) mi_X11_isSheet tw_919 rfl ⟨rfl, rfl, by decide, by decide⟩ (Nat.le_of_ble_eq_true rfl) ⟨Nat.le_refl _, Nat.le_refl _⟩ rfl dX11_sheet_1 ?_
  refine g_if_eq_f (pc := 4) hc 13 dX11_sheet_4 (by decide) (by decide) ?_
  refine g_iload_n (pc := 7) hc 2 dX11_sheet_7 rfl rfl ?_
  refine g_bipush (pc := 8) (v := nI 64) hc dX11_sheet_8 (by decide) ?_
  refine g_icmp_le (pc := 10) hc 16 dX11_sheet_10 (by decide) (fun c1 => ?_) (fun c1 => ?_)
  · refine g_iload_n (pc := 16) hc 2 dX11_sheet_16 rfl rfl ?_
    refine g_if_ge (pc := 17) hc 24 dX11_sheet_17 (by decide) (fun c2 => ?_) (fun c2 => ?_)
    · refine g_aload_n (pc := 24) hc 0 dX11_sheet_24 rfl rfl ?_
      refine g_iload_n (pc := 25) hc 1 dX11_sheet_25 rfl rfl ?_
      refine g_callVa (pc := 26) (rest := []) (As := [.int (nI 1)]) hc (c_X11_sn1 l E ad hA sc ar bl) mi_X11_sheetNumbered tw_923 0 rfl rfl rfl rfl ⟨rfl, rfl, by decide, by decide⟩ (Nat.le_of_ble_eq_true rfl) ⟨Nat.le_refl _, Nat.le_refl _⟩ rfl dX11_sheet_26 ?_
      refine g_iload_n (pc := 29) hc 2 dX11_sheet_29 rfl rfl ?_
      refine g_callVv (pc := 30) (rest := []) (As := [.int x]) hc (c_X7_renew_12 l E ad hA sc ar bl x) mi_X7_renew tw_927 12 rfl rfl rfl rfl ⟨rfl, rfl, by decide, by decide⟩ (Nat.le_of_ble_eq_true rfl) ⟨Nat.le_refl _, Nat.le_refl _⟩ rfl dX11_sheet_30 ?_
      refine g_iload_n (pc := 33) hc 2 dX11_sheet_33 rfl rfl ?_
      exact g_iret (pc := 34) hc dX11_sheet_34 (by (repeat (first | rw [if_pos c1] | rw [if_neg c1] | rw [if_neg (ne_true_of_eq_false c1)] | rw [if_pos c2] | rw [if_neg c2] | rw [if_neg (ne_true_of_eq_false c2)]))) (by (repeat (first | rw [if_pos c1] | rw [if_neg c1] | rw [if_neg (ne_true_of_eq_false c1)] | rw [if_pos c2] | rw [if_neg c2] | rw [if_neg (ne_true_of_eq_false c2)])))
    · refine g_ldcw (pc := 20) (v := (-1000000014)) hc tw_922 dX11_sheet_20 ?_
      exact g_iret (pc := 23) hc dX11_sheet_23 (by (repeat (first | rw [if_pos c1] | rw [if_neg c1] | rw [if_neg (ne_true_of_eq_false c1)] | rw [if_pos c2] | rw [if_neg c2] | rw [if_neg (ne_true_of_eq_false c2)]))) (by (repeat (first | rw [if_pos c1] | rw [if_neg c1] | rw [if_neg (ne_true_of_eq_false c1)] | rw [if_pos c2] | rw [if_neg c2] | rw [if_neg (ne_true_of_eq_false c2)])))
  · refine g_ldc (pc := 13) (v := (-1000000001)) hc tw_308 dX11_sheet_13 ?_
    exact g_iret (pc := 15) hc dX11_sheet_15 (by (repeat (first | rw [if_pos c1] | rw [if_neg c1] | rw [if_neg (ne_true_of_eq_false c1)]))) (by (repeat (first | rw [if_pos c1] | rw [if_neg c1] | rw [if_neg (ne_true_of_eq_false c1)])))

set_option maxHeartbeats 4000000 in
set_option maxRecDepth 100000 in
theorem c_X11_mark_1 (l : Launch) (E : Ev) {A : Nat → Prop} (ad : Nat → Nat) (hA : Oka 39 ad A) (sc : Nat → Int32) (ar : Nat → Nat → Int32) (bl : Int64) (x y : Int32) (hS : inx x (sc 18) = true → ∃ j : Nat, j < 64 ∧ x = nI j) : Ct l E yX11_mark (.code yX11_mark cX11_mark 5 (some .int)) ({ frames := 2, cells := 0, slots := 0, locals := 42 }) A (cw E ad sc ar bl) [.ref (ad 0), .int (nI 1), .int x, .int y] (some (.int (if sc 18 = (-1) then (-1000000011) else if inx x (sc 18) = true then ar 38 (tn x) else (-1000000013)))) (if sc 18 = (-1) then cw E ad sc ar bl else if inx x (sc 18) = true then cw E ad sc (va_up ar 38 (upd (ar 38) (tn x) (vp_nar .short (y : Int32).toInt16.toInt32))) bl else cw E ad sc ar bl) := by
  refine Ct.of (lv := [(0, .ref (ad 0)), (1, .int (nI 1)), (2, .int x), (3, .int y)]) (by decide +kernel) (Nat.le_of_ble_eq_true rfl) rfl ?_
  intro zp ze zs zm za zb zh zc hc
  refine g_iload_n (pc := 0) hc 1 dX11_mark_0 rfl rfl ?_
  refine g_callSi (pc := 1) (rest := []) (As := [.int (nI 1)]) hc (c_X11_isSheet l E ad hA sc ar bl (nI 1)) mi_X11_isSheet tw_919 rfl ⟨rfl, rfl, by decide, by decide⟩ (Nat.le_of_ble_eq_true rfl) ⟨Nat.le_refl _, Nat.le_refl _⟩ rfl dX11_mark_1 ?_
  refine g_if_ne_t (pc := 4) hc 10 dX11_mark_4 (by decide) (by decide) ?_
  refine g_aload_n (pc := 10) hc 0 dX11_mark_10 rfl rfl ?_
  refine g_iload_n (pc := 11) hc 1 dX11_mark_11 rfl rfl ?_
  refine g_callVa (pc := 12) (rest := []) (As := [.int (nI 1)]) hc (c_X11_sn1 l E ad hA sc ar bl) mi_X11_sheetNumbered tw_923 0 rfl rfl rfl rfl ⟨rfl, rfl, by decide, by decide⟩ (Nat.le_of_ble_eq_true rfl) ⟨Nat.le_refl _, Nat.le_refl _⟩ rfl dX11_mark_12 ?_
  refine g_astore (pc := 15) (lv' := [(0, .ref (ad 0)), (1, .int (nI 1)), (2, .int x), (3, .int y), (4, .ref (ad 12))]) hc dX11_mark_15 (by decide) rfl ?_
  refine g_aload (pc := 17) hc 4 dX11_mark_17 rfl ?_
  refine g_callVi (pc := 19) (rest := []) (As := []) hc (c_X7_isMissing_12 l E ad hA sc ar bl) mi_X7_isMissing tw_665 12 rfl rfl rfl rfl ⟨rfl, rfl, by decide, by decide⟩ (Nat.le_of_ble_eq_true rfl) ⟨Nat.le_refl _, Nat.le_refl _⟩ rfl dX11_mark_19 ?_
  refine g_if_eq_b (pc := 22) hc 29 dX11_mark_22 (by decide) (fun c1 => ?_) (fun c1 => ?_)
  · refine g_aload (pc := 29) hc 4 dX11_mark_29 rfl ?_
    refine g_iload_n (pc := 31) hc 2 dX11_mark_31 rfl rfl ?_
    refine g_callVi (pc := 32) (rest := []) (As := [.int x]) hc (c_X7_has_12 l E ad hA sc ar bl x) mi_X7_has tw_938 12 rfl rfl rfl rfl ⟨rfl, rfl, by decide, by decide⟩ (Nat.le_of_ble_eq_true rfl) ⟨Nat.le_refl _, Nat.le_refl _⟩ rfl dX11_mark_32 ?_
    refine g_if_ne_b (pc := 35) hc 42 dX11_mark_35 (by decide) (fun c2 => ?_) (fun c2 => ?_)
    · obtain ⟨i, hi, hx⟩ := hS c2
      refine g_eq (ws' := cw E ad sc ar bl) (lv' := [(0, .ref (ad 0)), (1, .int (nI 1)), (2, .int (nI i)), (3, .int y), (4, .ref (ad 12))]) rfl (by rw [hx]) rfl ?_
      refine g_aload (pc := 42) hc 4 dX11_mark_42 rfl ?_
      refine g_iload_n (pc := 44) hc 2 dX11_mark_44 rfl rfl ?_
      refine g_iload_n (pc := 45) hc 3 dX11_mark_45 rfl rfl ?_
      refine g_callVi (pc := 46) (rest := []) (As := [.int (nI i), .int y]) hc (c_X7_put_12 l E ad hA sc ar bl i y (by omega)) mi_X7_put tw_940 12 rfl rfl rfl rfl ⟨rfl, rfl, by decide, by decide⟩ (Nat.le_of_ble_eq_true rfl) ⟨Nat.le_refl _, Nat.le_refl _⟩ rfl dX11_mark_46 ?_
      exact g_iret (pc := 49) hc dX11_mark_49 (by rw [if_neg (of_decide_eq_false c1), if_pos c2, hx, tn, nI_clamp (by omega)]) (by rw [if_neg (of_decide_eq_false c1), if_pos c2, hx, tn, nI_clamp (by omega)])
    · refine g_ldcw (pc := 38) (v := (-1000000013)) hc tw_939 dX11_mark_38 ?_
      exact g_iret (pc := 41) hc dX11_mark_41 (by rw [if_neg (of_decide_eq_false c1), if_neg (ne_true_of_eq_false c2)]) (by rw [if_neg (of_decide_eq_false c1), if_neg (ne_true_of_eq_false c2)])
  · refine g_ldcw (pc := 25) (v := (-1000000011)) hc tw_669 dX11_mark_25 ?_
    exact g_iret (pc := 28) hc dX11_mark_28 (by rw [if_pos (of_decide_eq_true c1)]) (by rw [if_pos (of_decide_eq_true c1)])

set_option maxHeartbeats 4000000 in
set_option maxRecDepth 100000 in
theorem c_X11_lose_1 (l : Launch) (E : Ev) {A : Nat → Prop} (ad : Nat → Nat) (hA : Oka 39 ad A) (sc : Nat → Int32) (ar : Nat → Nat → Int32) (bl : Int64)  : Ct l E yX11_lose (.code yX11_lose cX11_lose 3 (some .int)) ({ frames := 2, cells := 0, slots := 0, locals := 42 }) A (cw E ad sc ar bl) [.ref (ad 0), .int (nI 1)] (some (.int (if sc 18 = (-1) then (-1000000011) else sc 18))) (if sc 18 = (-1) then cw E ad sc ar bl else cw E ad (va_up sc 18 (-1)) ar bl) := by
  refine Ct.of (lv := [(0, .ref (ad 0)), (1, .int (nI 1))]) (by decide +kernel) (Nat.le_of_ble_eq_true rfl) rfl ?_
  intro zp ze zs zm za zb zh zc hc
  refine g_iload_n (pc := 0) hc 1 dX11_lose_0 rfl rfl ?_
  refine g_callSi (pc := 1) (rest := []) (As := [.int (nI 1)]) hc (c_X11_isSheet l E ad hA sc ar bl (nI 1)) mi_X11_isSheet tw_919 rfl ⟨rfl, rfl, by decide, by decide⟩ (Nat.le_of_ble_eq_true rfl) ⟨Nat.le_refl _, Nat.le_refl _⟩ rfl dX11_lose_1 ?_
  refine g_if_ne_t (pc := 4) hc 10 dX11_lose_4 (by decide) (by decide) ?_
  refine g_aload_n (pc := 10) hc 0 dX11_lose_10 rfl rfl ?_
  refine g_iload_n (pc := 11) hc 1 dX11_lose_11 rfl rfl ?_
  refine g_callVa (pc := 12) (rest := []) (As := [.int (nI 1)]) hc (c_X11_sn1 l E ad hA sc ar bl) mi_X11_sheetNumbered tw_923 0 rfl rfl rfl rfl ⟨rfl, rfl, by decide, by decide⟩ (Nat.le_of_ble_eq_true rfl) ⟨Nat.le_refl _, Nat.le_refl _⟩ rfl dX11_lose_12 ?_
  refine g_astore_n (pc := 15) (lv' := [(0, .ref (ad 0)), (1, .int (nI 1)), (2, .ref (ad 12))]) hc dX11_lose_15 rfl (by decide) rfl ?_
  refine g_aload_n (pc := 16) hc 2 dX11_lose_16 rfl rfl ?_
  refine g_callVi (pc := 17) (rest := []) (As := []) hc (c_X7_isMissing_12 l E ad hA sc ar bl) mi_X7_isMissing tw_665 12 rfl rfl rfl rfl ⟨rfl, rfl, by decide, by decide⟩ (Nat.le_of_ble_eq_true rfl) ⟨Nat.le_refl _, Nat.le_refl _⟩ rfl dX11_lose_17 ?_
  refine g_if_eq_b (pc := 20) hc 29 dX11_lose_20 (by decide) (fun c1 => ?_) (fun c1 => ?_)
  · refine g_aload_n (pc := 29) hc 2 dX11_lose_29 rfl rfl ?_
    refine g_callVi (pc := 30) (rest := []) (As := []) hc (c_X7_vanish_12 l E ad hA sc ar bl) mi_X7_vanish tw_963 12 rfl rfl rfl rfl ⟨rfl, rfl, by decide, by decide⟩ (Nat.le_of_ble_eq_true rfl) ⟨Nat.le_refl _, Nat.le_refl _⟩ rfl dX11_lose_30 ?_
    exact g_iret (pc := 33) hc dX11_lose_33 (by first | rw [if_pos (of_decide_eq_true c1)] | rw [if_neg (of_decide_eq_false c1)]) (by first | rw [if_pos (of_decide_eq_true c1)] | rw [if_neg (of_decide_eq_false c1)])
  · refine g_ldcw (pc := 23) (v := (-1000000011)) hc tw_669 dX11_lose_23 ?_
    refine g_goto (pc := 26) hc 33 dX11_lose_26 (by decide) ?_
    exact g_iret (pc := 33) hc dX11_lose_33 (by first | rw [if_pos (of_decide_eq_true c1)] | rw [if_neg (of_decide_eq_false c1)]) (by first | rw [if_pos (of_decide_eq_true c1)] | rw [if_neg (of_decide_eq_false c1)])

set_option maxHeartbeats 4000000 in
set_option maxRecDepth 100000 in
theorem c_X11_sheet_b (l : Launch) (E : Ev) {A : Nat → Prop} (ad : Nat → Nat) (hA : Oka 39 ad A) (sc : Nat → Int32) (ar : Nat → Nat → Int32) (bl : Int64) (x y : Int32) (hb : inr x (nI 0) (nI 1) = false) : Ct l E yX11_sheet (.code yX11_sheet cX11_sheet 3 (some .int)) ({ frames := 2, cells := 0, slots := 0, locals := 44 }) A (cw E ad sc ar bl) [.ref (ad 0), .int x, .int y] (some (.int (-1000000001))) (cw E ad sc ar bl) := by
  refine Ct.of (lv := [(0, .ref (ad 0)), (1, .int x), (2, .int y)]) (by decide +kernel) (Nat.le_of_ble_eq_true rfl) rfl ?_
  intro zp ze zs zm za zb zh zc hc
  refine g_iload_n (pc := 0) hc 1 dX11_sheet_0 rfl rfl ?_
  refine g_callSi (pc := 1) (rest := []) (As := [.int x]) hc (c_X11_isSheet l E ad hA sc ar bl x) mi_X11_isSheet tw_919 rfl ⟨rfl, rfl, by decide, by decide⟩ (Nat.le_of_ble_eq_true rfl) ⟨Nat.le_refl _, Nat.le_refl _⟩ rfl dX11_sheet_1 ?_
  refine g_if_eq_t (pc := 4) hc 13 dX11_sheet_4 (by decide) (by rw [hb]; rfl) ?_
  refine g_ldc (pc := 13) (v := (-1000000001)) hc tw_308 dX11_sheet_13 ?_
  exact g_iret (pc := 15) hc dX11_sheet_15 (rfl) (rfl)

set_option maxHeartbeats 4000000 in
set_option maxRecDepth 100000 in
theorem c_X11_mark_b (l : Launch) (E : Ev) {A : Nat → Prop} (ad : Nat → Nat) (hA : Oka 39 ad A) (sc : Nat → Int32) (ar : Nat → Nat → Int32) (bl : Int64) (x y z : Int32) (hb : inr x (nI 0) (nI 1) = false) : Ct l E yX11_mark (.code yX11_mark cX11_mark 5 (some .int)) ({ frames := 2, cells := 0, slots := 0, locals := 42 }) A (cw E ad sc ar bl) [.ref (ad 0), .int x, .int y, .int z] (some (.int (-1000000001))) (cw E ad sc ar bl) := by
  refine Ct.of (lv := [(0, .ref (ad 0)), (1, .int x), (2, .int y), (3, .int z)]) (by decide +kernel) (Nat.le_of_ble_eq_true rfl) rfl ?_
  intro zp ze zs zm za zb zh zc hc
  refine g_iload_n (pc := 0) hc 1 dX11_mark_0 rfl rfl ?_
  refine g_callSi (pc := 1) (rest := []) (As := [.int x]) hc (c_X11_isSheet l E ad hA sc ar bl x) mi_X11_isSheet tw_919 rfl ⟨rfl, rfl, by decide, by decide⟩ (Nat.le_of_ble_eq_true rfl) ⟨Nat.le_refl _, Nat.le_refl _⟩ rfl dX11_mark_1 ?_
  refine g_if_ne_f (pc := 4) hc 10 dX11_mark_4 (by decide) (by rw [hb]; rfl) ?_
  refine g_ldc (pc := 7) (v := (-1000000001)) hc tw_308 dX11_mark_7 ?_
  exact g_iret (pc := 9) hc dX11_mark_9 (rfl) (rfl)

set_option maxHeartbeats 4000000 in
set_option maxRecDepth 100000 in
theorem c_X11_lose_b (l : Launch) (E : Ev) {A : Nat → Prop} (ad : Nat → Nat) (hA : Oka 39 ad A) (sc : Nat → Int32) (ar : Nat → Nat → Int32) (bl : Int64) (x : Int32) (hb : inr x (nI 0) (nI 1) = false) : Ct l E yX11_lose (.code yX11_lose cX11_lose 3 (some .int)) ({ frames := 2, cells := 0, slots := 0, locals := 42 }) A (cw E ad sc ar bl) [.ref (ad 0), .int x] (some (.int (-1000000001))) (cw E ad sc ar bl) := by
  refine Ct.of (lv := [(0, .ref (ad 0)), (1, .int x)]) (by decide +kernel) (Nat.le_of_ble_eq_true rfl) rfl ?_
  intro zp ze zs zm za zb zh zc hc
  refine g_iload_n (pc := 0) hc 1 dX11_lose_0 rfl rfl ?_
  refine g_callSi (pc := 1) (rest := []) (As := [.int x]) hc (c_X11_isSheet l E ad hA sc ar bl x) mi_X11_isSheet tw_919 rfl ⟨rfl, rfl, by decide, by decide⟩ (Nat.le_of_ble_eq_true rfl) ⟨Nat.le_refl _, Nat.le_refl _⟩ rfl dX11_lose_1 ?_
  refine g_if_ne_f (pc := 4) hc 10 dX11_lose_4 (by decide) (by rw [hb]; rfl) ?_
  refine g_ldc (pc := 7) (v := (-1000000001)) hc tw_308 dX11_lose_7 ?_
  exact g_iret (pc := 9) hc dX11_lose_9 (rfl) (rfl)

theorem dX11_copy_0 : decode cX11_copy 0 = .ok (.iload_n 1, 1) := by decide +kernel
theorem dX11_copy_1 : decode cX11_copy 1 = .ok (.invokestatic 309, 3) := by decide +kernel
theorem dX11_copy_4 : decode cX11_copy 4 = .ok (.ifCond .eq 10, 3) := by decide +kernel
theorem dX11_copy_7 : decode cX11_copy 7 = .ok (.iload_n 3, 1) := by decide +kernel
theorem dX11_copy_8 : decode cX11_copy 8 = .ok (.invokestatic 309, 3) := by decide +kernel
theorem dX11_copy_11 : decode cX11_copy 11 = .ok (.ifCond .ne 6, 3) := by decide +kernel
theorem dX11_copy_14 : decode cX11_copy 14 = .ok (.ldc 109, 2) := by decide +kernel
theorem dX11_copy_16 : decode cX11_copy 16 = .ok (.ireturn, 1) := by decide +kernel
theorem dX11_copy_17 : decode cX11_copy 17 = .ok (.aload_n 0, 1) := by decide +kernel
theorem dX11_copy_18 : decode cX11_copy 18 = .ok (.iload_n 1, 1) := by decide +kernel
theorem dX11_copy_19 : decode cX11_copy 19 = .ok (.invokevirtual 313, 3) := by decide +kernel
theorem dX11_copy_22 : decode cX11_copy 22 = .ok (.astore 6, 2) := by decide +kernel
theorem dX11_copy_24 : decode cX11_copy 24 = .ok (.aload_n 0, 1) := by decide +kernel
theorem dX11_copy_25 : decode cX11_copy 25 = .ok (.iload_n 3, 1) := by decide +kernel
theorem dX11_copy_26 : decode cX11_copy 26 = .ok (.invokevirtual 313, 3) := by decide +kernel
theorem dX11_copy_29 : decode cX11_copy 29 = .ok (.astore 7, 2) := by decide +kernel
theorem dX11_copy_31 : decode cX11_copy 31 = .ok (.aload 6, 2) := by decide +kernel
theorem dX11_copy_33 : decode cX11_copy 33 = .ok (.invokevirtual 261, 3) := by decide +kernel
theorem dX11_copy_36 : decode cX11_copy 36 = .ok (.ifCond .ne 11, 3) := by decide +kernel
theorem dX11_copy_39 : decode cX11_copy 39 = .ok (.aload 7, 2) := by decide +kernel
theorem dX11_copy_41 : decode cX11_copy 41 = .ok (.invokevirtual 261, 3) := by decide +kernel
theorem dX11_copy_44 : decode cX11_copy 44 = .ok (.ifCond .eq 7, 3) := by decide +kernel
theorem dX11_copy_47 : decode cX11_copy 47 = .ok (.ldc_w 264, 3) := by decide +kernel
theorem dX11_copy_50 : decode cX11_copy 50 = .ok (.ireturn, 1) := by decide +kernel
theorem dX11_copy_51 : decode cX11_copy 51 = .ok (.aload 6, 2) := by decide +kernel
theorem dX11_copy_53 : decode cX11_copy 53 = .ok (.iload_n 2, 1) := by decide +kernel
theorem dX11_copy_54 : decode cX11_copy 54 = .ok (.iload 5, 2) := by decide +kernel
theorem dX11_copy_56 : decode cX11_copy 56 = .ok (.invokevirtual 324, 3) := by decide +kernel
theorem dX11_copy_59 : decode cX11_copy 59 = .ok (.ifCond .eq 15, 3) := by decide +kernel
theorem dX11_copy_62 : decode cX11_copy 62 = .ok (.aload 7, 2) := by decide +kernel
theorem dX11_copy_64 : decode cX11_copy 64 = .ok (.iload 4, 2) := by decide +kernel
theorem dX11_copy_66 : decode cX11_copy 66 = .ok (.iload 5, 2) := by decide +kernel
theorem dX11_copy_68 : decode cX11_copy 68 = .ok (.invokevirtual 324, 3) := by decide +kernel
theorem dX11_copy_71 : decode cX11_copy 71 = .ok (.ifCond .ne 7, 3) := by decide +kernel
theorem dX11_copy_74 : decode cX11_copy 74 = .ok (.ldc_w 320, 3) := by decide +kernel
theorem dX11_copy_77 : decode cX11_copy 77 = .ok (.ireturn, 1) := by decide +kernel
theorem dX11_copy_78 : decode cX11_copy 78 = .ok (.aload 7, 2) := by decide +kernel
theorem dX11_copy_80 : decode cX11_copy 80 = .ok (.aload 6, 2) := by decide +kernel
theorem dX11_copy_82 : decode cX11_copy 82 = .ok (.iload_n 2, 1) := by decide +kernel
theorem dX11_copy_83 : decode cX11_copy 83 = .ok (.iload 4, 2) := by decide +kernel
theorem dX11_copy_85 : decode cX11_copy 85 = .ok (.iload 5, 2) := by decide +kernel
theorem dX11_copy_87 : decode cX11_copy 87 = .ok (.invokevirtual 327, 3) := by decide +kernel
theorem dX11_copy_90 : decode cX11_copy 90 = .ok (.iload 5, 2) := by decide +kernel
theorem dX11_copy_92 : decode cX11_copy 92 = .ok (.ireturn, 1) := by decide +kernel

set_option maxHeartbeats 4000000 in
set_option maxRecDepth 100000 in
theorem c_X11_copy_b (l : Launch) (E : Ev) {A : Nat → Prop} (ad : Nat → Nat) (hA : Oka 39 ad A) (sc : Nat → Int32) (ar : Nat → Nat → Int32) (bl : Int64) (x y z u t : Int32) (hb : ok2 (inr x (nI 0) (nI 1)) (inr z (nI 0) (nI 1)) = false) : Ct l E yX11_copy (.code yX11_copy cX11_copy 8 (some .int)) ({ frames := 2, cells := 0, slots := 0, locals := 54 }) A (cw E ad sc ar bl) [.ref (ad 0), .int x, .int y, .int z, .int u, .int t] (some (.int (-1000000001))) (cw E ad sc ar bl) := by
  refine Ct.of (lv := [(0, .ref (ad 0)), (1, .int x), (2, .int y), (3, .int z), (4, .int u), (5, .int t)]) (by decide +kernel) (Nat.le_of_ble_eq_true rfl) rfl ?_
  intro zp ze zs zm za zb zh zc hc
  refine g_iload_n (pc := 0) hc 1 dX11_copy_0 rfl rfl ?_
  refine g_callSi (pc := 1) (rest := []) (As := [.int x]) hc (c_X11_isSheet l E ad hA sc ar bl x) mi_X11_isSheet tw_919 rfl ⟨rfl, rfl, by decide, by decide⟩ (Nat.le_of_ble_eq_true rfl) ⟨Nat.le_refl _, Nat.le_refl _⟩ rfl dX11_copy_1 ?_
  refine g_if_eq_b (pc := 4) hc 14 dX11_copy_4 (by decide) (fun c1 => ?_) (fun c1 => ?_)
  · refine g_ldc (pc := 14) (v := (-1000000001)) hc tw_308 dX11_copy_14 ?_
    exact g_iret (pc := 16) hc dX11_copy_16 (rfl) (rfl)
  · refine g_iload_n (pc := 7) hc 3 dX11_copy_7 rfl rfl ?_
    refine g_callSi (pc := 8) (rest := []) (As := [.int z]) hc (c_X11_isSheet l E ad hA sc ar bl z) mi_X11_isSheet tw_919 rfl ⟨rfl, rfl, by decide, by decide⟩ (Nat.le_of_ble_eq_true rfl) ⟨Nat.le_refl _, Nat.le_refl _⟩ rfl dX11_copy_8 ?_
    refine g_if_ne_b (pc := 11) hc 17 dX11_copy_11 (by decide) (fun c2 => ?_) (fun c2 => ?_)
    · exact absurd (ok2_t c1 c2) (by rw [hb]; decide)
    · refine g_ldc (pc := 14) (v := (-1000000001)) hc tw_308 dX11_copy_14 ?_
      exact g_iret (pc := 16) hc dX11_copy_16 (rfl) (rfl)

set_option maxHeartbeats 4000000 in
set_option maxRecDepth 100000 in
theorem c_X11_copy_00 (l : Launch) (E : Ev) {A : Nat → Prop} (ad : Nat → Nat) (hA : Oka 39 ad A) (sc : Nat → Int32) (ar : Nat → Nat → Int32) (bl : Int64) (y u t : Int32) (hr1 : hrun y t (sc 17) = true → ∃ a n : Nat, a + n ≤ 64 ∧ y = nI a ∧ t = nI n) (hr2 : hrun u t (sc 17) = true → ∃ b n : Nat, b + n ≤ 64 ∧ u = nI b ∧ t = nI n) (hfit : ∀ i, i < 64 → fits .short (.int (ar 37 i)) = true) : Ct l E yX11_copy (.code yX11_copy cX11_copy 8 (some .int)) ({ frames := 2, cells := 0, slots := 0, locals := 54 }) A (cw E ad sc ar bl) [.ref (ad 0), .int (nI 0), .int y, .int (nI 0), .int u, .int t] (some (.int (if (if decide (sc 17 = (-1)) = true then true else decide (sc 17 = (-1))) = true then (-1000000011) else if ok2 (hrun y t (sc 17)) (hrun u t (sc 17)) = true then t else (-1000000013)))) (if (if decide (sc 17 = (-1)) = true then true else decide (sc 17 = (-1))) = true then cw E ad sc ar bl else if ok2 (hrun y t (sc 17)) (hrun u t (sc 17)) = true then cw E ad sc (va_up ar 37 (va_cpy (ar 37) (ar 37) (tn y) (tn u) (tn t))) bl else cw E ad sc ar bl) := by
  refine Ct.of (lv := [(0, .ref (ad 0)), (1, .int (nI 0)), (2, .int y), (3, .int (nI 0)), (4, .int u), (5, .int t)]) (by decide +kernel) (Nat.le_of_ble_eq_true rfl) rfl ?_
  intro zp ze zs zm za zb zh zc hc
  refine g_iload_n (pc := 0) hc 1 dX11_copy_0 rfl rfl ?_
  refine g_callSi (pc := 1) (rest := []) (As := [.int (nI 0)]) hc (c_X11_isSheet l E ad hA sc ar bl (nI 0)) mi_X11_isSheet tw_919 rfl ⟨rfl, rfl, by decide, by decide⟩ (Nat.le_of_ble_eq_true rfl) ⟨Nat.le_refl _, Nat.le_refl _⟩ rfl dX11_copy_1 ?_
  refine g_if_eq_f (pc := 4) hc 14 dX11_copy_4 (by decide) (by decide) ?_
  refine g_iload_n (pc := 7) hc 3 dX11_copy_7 rfl rfl ?_
  refine g_callSi (pc := 8) (rest := []) (As := [.int (nI 0)]) hc (c_X11_isSheet l E ad hA sc ar bl (nI 0)) mi_X11_isSheet tw_919 rfl ⟨rfl, rfl, by decide, by decide⟩ (Nat.le_of_ble_eq_true rfl) ⟨Nat.le_refl _, Nat.le_refl _⟩ rfl dX11_copy_8 ?_
  refine g_if_ne_t (pc := 11) hc 17 dX11_copy_11 (by decide) (by decide) ?_
  refine g_aload_n (pc := 17) hc 0 dX11_copy_17 rfl rfl ?_
  refine g_iload_n (pc := 18) hc 1 dX11_copy_18 rfl rfl ?_
  refine g_callVa (pc := 19) (rest := []) (As := [.int (nI 0)]) hc (c_X11_sn0 l E ad hA sc ar bl) mi_X11_sheetNumbered tw_923 0 rfl rfl rfl rfl ⟨rfl, rfl, by decide, by decide⟩ (Nat.le_of_ble_eq_true rfl) ⟨Nat.le_refl _, Nat.le_refl _⟩ rfl dX11_copy_19 ?_
  refine g_astore (pc := 22) (lv' := [(0, .ref (ad 0)), (1, .int (nI 0)), (2, .int y), (3, .int (nI 0)), (4, .int u), (5, .int t), (6, .ref (ad 11))]) hc dX11_copy_22 (by decide) rfl ?_
  refine g_aload_n (pc := 24) hc 0 dX11_copy_24 rfl rfl ?_
  refine g_iload_n (pc := 25) hc 3 dX11_copy_25 rfl rfl ?_
  refine g_callVa (pc := 26) (rest := []) (As := [.int (nI 0)]) hc (c_X11_sn0 l E ad hA sc ar bl) mi_X11_sheetNumbered tw_923 0 rfl rfl rfl rfl ⟨rfl, rfl, by decide, by decide⟩ (Nat.le_of_ble_eq_true rfl) ⟨Nat.le_refl _, Nat.le_refl _⟩ rfl dX11_copy_26 ?_
  refine g_astore (pc := 29) (lv' := [(0, .ref (ad 0)), (1, .int (nI 0)), (2, .int y), (3, .int (nI 0)), (4, .int u), (5, .int t), (6, .ref (ad 11)), (7, .ref (ad 11))]) hc dX11_copy_29 (by decide) rfl ?_
  refine g_aload (pc := 31) hc 6 dX11_copy_31 rfl ?_
  refine g_callVi (pc := 33) (rest := []) (As := []) hc (c_X7_isMissing_11 l E ad hA sc ar bl) mi_X7_isMissing tw_665 11 rfl rfl rfl rfl ⟨rfl, rfl, by decide, by decide⟩ (Nat.le_of_ble_eq_true rfl) ⟨Nat.le_refl _, Nat.le_refl _⟩ rfl dX11_copy_33 ?_
  refine g_if_ne_b (pc := 36) hc 47 dX11_copy_36 (by decide) (fun c1 => ?_) (fun c1 => ?_)
  · refine g_ldcw (pc := 47) (v := (-1000000011)) hc tw_669 dX11_copy_47 ?_
    exact g_iret (pc := 50) hc dX11_copy_50 (by rw [if_pos (by rw [if_pos c1])]) (by rw [if_pos (by rw [if_pos c1])])
  · refine g_aload (pc := 39) hc 7 dX11_copy_39 rfl ?_
    refine g_callVi (pc := 41) (rest := []) (As := []) hc (c_X7_isMissing_11 l E ad hA sc ar bl) mi_X7_isMissing tw_665 11 rfl rfl rfl rfl ⟨rfl, rfl, by decide, by decide⟩ (Nat.le_of_ble_eq_true rfl) ⟨Nat.le_refl _, Nat.le_refl _⟩ rfl dX11_copy_41 ?_
    refine g_if_eq_b (pc := 44) hc 51 dX11_copy_44 (by decide) (fun c2 => ?_) (fun c2 => ?_)
    · refine g_aload (pc := 51) hc 6 dX11_copy_51 rfl ?_
      refine g_iload_n (pc := 53) hc 2 dX11_copy_53 rfl rfl ?_
      refine g_iload (pc := 54) hc 5 dX11_copy_54 rfl ?_
      refine g_callVi (pc := 56) (rest := []) (As := [.int y, .int t]) hc (c_X7_hasRun_11 l E ad hA sc ar bl y t) mi_X7_hasRun tw_948 11 rfl rfl rfl rfl ⟨rfl, rfl, by decide, by decide⟩ (Nat.le_of_ble_eq_true rfl) ⟨Nat.le_refl _, Nat.le_refl _⟩ rfl dX11_copy_56 ?_
      refine g_if_eq_b (pc := 59) hc 74 dX11_copy_59 (by decide) (fun c3 => ?_) (fun c3 => ?_)
      · refine g_ldcw (pc := 74) (v := (-1000000013)) hc tw_939 dX11_copy_74 ?_
        exact g_iret (pc := 77) hc dX11_copy_77 (by rw [if_neg (ne_true_of_eq_false (by rw [if_neg (ne_true_of_eq_false c1)]; exact c2)), if_neg (ne_true_of_eq_false (ok2_f1 c3))]) (by rw [if_neg (ne_true_of_eq_false (by rw [if_neg (ne_true_of_eq_false c1)]; exact c2)), if_neg (ne_true_of_eq_false (ok2_f1 c3))])
      · refine g_aload (pc := 62) hc 7 dX11_copy_62 rfl ?_
        refine g_iload (pc := 64) hc 4 dX11_copy_64 rfl ?_
        refine g_iload (pc := 66) hc 5 dX11_copy_66 rfl ?_
        refine g_callVi (pc := 68) (rest := []) (As := [.int u, .int t]) hc (c_X7_hasRun_11 l E ad hA sc ar bl u t) mi_X7_hasRun tw_948 11 rfl rfl rfl rfl ⟨rfl, rfl, by decide, by decide⟩ (Nat.le_of_ble_eq_true rfl) ⟨Nat.le_refl _, Nat.le_refl _⟩ rfl dX11_copy_68 ?_
        refine g_if_ne_b (pc := 71) hc 78 dX11_copy_71 (by decide) (fun c4 => ?_) (fun c4 => ?_)
        · obtain ⟨a, n, han, hy, ht⟩ := hr1 c3
          obtain ⟨b, n2, hbn, hu, ht2⟩ := hr2 c4
          have hnn : n = n2 := (nI_eq (by omega) (by omega)).mp (ht.symm.trans ht2)
          subst hnn
          refine g_eq (ws' := cw E ad sc ar bl) (lv' := [(0, .ref (ad 0)), (1, .int (nI 0)), (2, .int (nI a)), (3, .int (nI 0)), (4, .int (nI b)), (5, .int (nI n)), (6, .ref (ad 11)), (7, .ref (ad 11))]) rfl (by rw [hy, hu, ht]) rfl ?_
          refine g_aload (pc := 78) hc 7 dX11_copy_78 rfl ?_
          refine g_aload (pc := 80) hc 6 dX11_copy_80 rfl ?_
          refine g_iload_n (pc := 82) hc 2 dX11_copy_82 rfl rfl ?_
          refine g_iload (pc := 83) hc 4 dX11_copy_83 rfl ?_
          refine g_iload (pc := 85) hc 5 dX11_copy_85 rfl ?_
          refine g_callVv (pc := 87) (rest := []) (As := [.ref (ad 11), .int (nI a), .int (nI b), .int (nI n)]) hc (c_X7_take_11_11 l E ad hA sc ar bl a b n (by omega) (by omega) hfit) mi_X7_take tw_952 11 rfl rfl rfl rfl ⟨rfl, rfl, by decide, by decide⟩ (Nat.le_of_ble_eq_true rfl) ⟨Nat.le_refl _, Nat.le_refl _⟩ rfl dX11_copy_87 ?_
          refine g_iload (pc := 90) hc 5 dX11_copy_90 rfl ?_
          exact g_iret (pc := 92) hc dX11_copy_92 (by rw [if_neg (ne_true_of_eq_false (by rw [if_neg (ne_true_of_eq_false c1)]; exact c2)), if_pos (ok2_t c3 c4), ht]) (by rw [if_neg (ne_true_of_eq_false (by rw [if_neg (ne_true_of_eq_false c1)]; exact c2)), if_pos (ok2_t c3 c4), hy, hu, ht, tn, tn, tn, nI_clamp (by omega), nI_clamp (by omega), nI_clamp (by omega)])
        · refine g_ldcw (pc := 74) (v := (-1000000013)) hc tw_939 dX11_copy_74 ?_
          exact g_iret (pc := 77) hc dX11_copy_77 (by rw [if_neg (ne_true_of_eq_false (by rw [if_neg (ne_true_of_eq_false c1)]; exact c2)), if_neg (ne_true_of_eq_false (ok2_f2 c3 c4))]) (by rw [if_neg (ne_true_of_eq_false (by rw [if_neg (ne_true_of_eq_false c1)]; exact c2)), if_neg (ne_true_of_eq_false (ok2_f2 c3 c4))])
    · refine g_ldcw (pc := 47) (v := (-1000000011)) hc tw_669 dX11_copy_47 ?_
      exact g_iret (pc := 50) hc dX11_copy_50 (by rw [if_pos (by rw [if_neg (ne_true_of_eq_false c1)]; exact c2)]) (by rw [if_pos (by rw [if_neg (ne_true_of_eq_false c1)]; exact c2)])

set_option maxHeartbeats 4000000 in
set_option maxRecDepth 100000 in
theorem c_X11_copy_01 (l : Launch) (E : Ev) {A : Nat → Prop} (ad : Nat → Nat) (hA : Oka 39 ad A) (sc : Nat → Int32) (ar : Nat → Nat → Int32) (bl : Int64) (y u t : Int32) (hr1 : hrun y t (sc 17) = true → ∃ a n : Nat, a + n ≤ 64 ∧ y = nI a ∧ t = nI n) (hr2 : hrun u t (sc 18) = true → ∃ b n : Nat, b + n ≤ 64 ∧ u = nI b ∧ t = nI n) (hfit : ∀ i, i < 64 → fits .short (.int (ar 37 i)) = true) : Ct l E yX11_copy (.code yX11_copy cX11_copy 8 (some .int)) ({ frames := 2, cells := 0, slots := 0, locals := 54 }) A (cw E ad sc ar bl) [.ref (ad 0), .int (nI 0), .int y, .int (nI 1), .int u, .int t] (some (.int (if (if decide (sc 17 = (-1)) = true then true else decide (sc 18 = (-1))) = true then (-1000000011) else if ok2 (hrun y t (sc 17)) (hrun u t (sc 18)) = true then t else (-1000000013)))) (if (if decide (sc 17 = (-1)) = true then true else decide (sc 18 = (-1))) = true then cw E ad sc ar bl else if ok2 (hrun y t (sc 17)) (hrun u t (sc 18)) = true then cw E ad sc (va_up ar 38 (va_cpy (ar 37) (ar 38) (tn y) (tn u) (tn t))) bl else cw E ad sc ar bl) := by
  refine Ct.of (lv := [(0, .ref (ad 0)), (1, .int (nI 0)), (2, .int y), (3, .int (nI 1)), (4, .int u), (5, .int t)]) (by decide +kernel) (Nat.le_of_ble_eq_true rfl) rfl ?_
  intro zp ze zs zm za zb zh zc hc
  refine g_iload_n (pc := 0) hc 1 dX11_copy_0 rfl rfl ?_
  refine g_callSi (pc := 1) (rest := []) (As := [.int (nI 0)]) hc (c_X11_isSheet l E ad hA sc ar bl (nI 0)) mi_X11_isSheet tw_919 rfl ⟨rfl, rfl, by decide, by decide⟩ (Nat.le_of_ble_eq_true rfl) ⟨Nat.le_refl _, Nat.le_refl _⟩ rfl dX11_copy_1 ?_
  refine g_if_eq_f (pc := 4) hc 14 dX11_copy_4 (by decide) (by decide) ?_
  refine g_iload_n (pc := 7) hc 3 dX11_copy_7 rfl rfl ?_
  refine g_callSi (pc := 8) (rest := []) (As := [.int (nI 1)]) hc (c_X11_isSheet l E ad hA sc ar bl (nI 1)) mi_X11_isSheet tw_919 rfl ⟨rfl, rfl, by decide, by decide⟩ (Nat.le_of_ble_eq_true rfl) ⟨Nat.le_refl _, Nat.le_refl _⟩ rfl dX11_copy_8 ?_
  refine g_if_ne_t (pc := 11) hc 17 dX11_copy_11 (by decide) (by decide) ?_
  refine g_aload_n (pc := 17) hc 0 dX11_copy_17 rfl rfl ?_
  refine g_iload_n (pc := 18) hc 1 dX11_copy_18 rfl rfl ?_
  refine g_callVa (pc := 19) (rest := []) (As := [.int (nI 0)]) hc (c_X11_sn0 l E ad hA sc ar bl) mi_X11_sheetNumbered tw_923 0 rfl rfl rfl rfl ⟨rfl, rfl, by decide, by decide⟩ (Nat.le_of_ble_eq_true rfl) ⟨Nat.le_refl _, Nat.le_refl _⟩ rfl dX11_copy_19 ?_
  refine g_astore (pc := 22) (lv' := [(0, .ref (ad 0)), (1, .int (nI 0)), (2, .int y), (3, .int (nI 1)), (4, .int u), (5, .int t), (6, .ref (ad 11))]) hc dX11_copy_22 (by decide) rfl ?_
  refine g_aload_n (pc := 24) hc 0 dX11_copy_24 rfl rfl ?_
  refine g_iload_n (pc := 25) hc 3 dX11_copy_25 rfl rfl ?_
  refine g_callVa (pc := 26) (rest := []) (As := [.int (nI 1)]) hc (c_X11_sn1 l E ad hA sc ar bl) mi_X11_sheetNumbered tw_923 0 rfl rfl rfl rfl ⟨rfl, rfl, by decide, by decide⟩ (Nat.le_of_ble_eq_true rfl) ⟨Nat.le_refl _, Nat.le_refl _⟩ rfl dX11_copy_26 ?_
  refine g_astore (pc := 29) (lv' := [(0, .ref (ad 0)), (1, .int (nI 0)), (2, .int y), (3, .int (nI 1)), (4, .int u), (5, .int t), (6, .ref (ad 11)), (7, .ref (ad 12))]) hc dX11_copy_29 (by decide) rfl ?_
  refine g_aload (pc := 31) hc 6 dX11_copy_31 rfl ?_
  refine g_callVi (pc := 33) (rest := []) (As := []) hc (c_X7_isMissing_11 l E ad hA sc ar bl) mi_X7_isMissing tw_665 11 rfl rfl rfl rfl ⟨rfl, rfl, by decide, by decide⟩ (Nat.le_of_ble_eq_true rfl) ⟨Nat.le_refl _, Nat.le_refl _⟩ rfl dX11_copy_33 ?_
  refine g_if_ne_b (pc := 36) hc 47 dX11_copy_36 (by decide) (fun c1 => ?_) (fun c1 => ?_)
  · refine g_ldcw (pc := 47) (v := (-1000000011)) hc tw_669 dX11_copy_47 ?_
    exact g_iret (pc := 50) hc dX11_copy_50 (by rw [if_pos (by rw [if_pos c1])]) (by rw [if_pos (by rw [if_pos c1])])
  · refine g_aload (pc := 39) hc 7 dX11_copy_39 rfl ?_
    refine g_callVi (pc := 41) (rest := []) (As := []) hc (c_X7_isMissing_12 l E ad hA sc ar bl) mi_X7_isMissing tw_665 12 rfl rfl rfl rfl ⟨rfl, rfl, by decide, by decide⟩ (Nat.le_of_ble_eq_true rfl) ⟨Nat.le_refl _, Nat.le_refl _⟩ rfl dX11_copy_41 ?_
    refine g_if_eq_b (pc := 44) hc 51 dX11_copy_44 (by decide) (fun c2 => ?_) (fun c2 => ?_)
    · refine g_aload (pc := 51) hc 6 dX11_copy_51 rfl ?_
      refine g_iload_n (pc := 53) hc 2 dX11_copy_53 rfl rfl ?_
      refine g_iload (pc := 54) hc 5 dX11_copy_54 rfl ?_
      refine g_callVi (pc := 56) (rest := []) (As := [.int y, .int t]) hc (c_X7_hasRun_11 l E ad hA sc ar bl y t) mi_X7_hasRun tw_948 11 rfl rfl rfl rfl ⟨rfl, rfl, by decide, by decide⟩ (Nat.le_of_ble_eq_true rfl) ⟨Nat.le_refl _, Nat.le_refl _⟩ rfl dX11_copy_56 ?_
      refine g_if_eq_b (pc := 59) hc 74 dX11_copy_59 (by decide) (fun c3 => ?_) (fun c3 => ?_)
      · refine g_ldcw (pc := 74) (v := (-1000000013)) hc tw_939 dX11_copy_74 ?_
        exact g_iret (pc := 77) hc dX11_copy_77 (by rw [if_neg (ne_true_of_eq_false (by rw [if_neg (ne_true_of_eq_false c1)]; exact c2)), if_neg (ne_true_of_eq_false (ok2_f1 c3))]) (by rw [if_neg (ne_true_of_eq_false (by rw [if_neg (ne_true_of_eq_false c1)]; exact c2)), if_neg (ne_true_of_eq_false (ok2_f1 c3))])
      · refine g_aload (pc := 62) hc 7 dX11_copy_62 rfl ?_
        refine g_iload (pc := 64) hc 4 dX11_copy_64 rfl ?_
        refine g_iload (pc := 66) hc 5 dX11_copy_66 rfl ?_
        refine g_callVi (pc := 68) (rest := []) (As := [.int u, .int t]) hc (c_X7_hasRun_12 l E ad hA sc ar bl u t) mi_X7_hasRun tw_948 12 rfl rfl rfl rfl ⟨rfl, rfl, by decide, by decide⟩ (Nat.le_of_ble_eq_true rfl) ⟨Nat.le_refl _, Nat.le_refl _⟩ rfl dX11_copy_68 ?_
        refine g_if_ne_b (pc := 71) hc 78 dX11_copy_71 (by decide) (fun c4 => ?_) (fun c4 => ?_)
        · obtain ⟨a, n, han, hy, ht⟩ := hr1 c3
          obtain ⟨b, n2, hbn, hu, ht2⟩ := hr2 c4
          have hnn : n = n2 := (nI_eq (by omega) (by omega)).mp (ht.symm.trans ht2)
          subst hnn
          refine g_eq (ws' := cw E ad sc ar bl) (lv' := [(0, .ref (ad 0)), (1, .int (nI 0)), (2, .int (nI a)), (3, .int (nI 1)), (4, .int (nI b)), (5, .int (nI n)), (6, .ref (ad 11)), (7, .ref (ad 12))]) rfl (by rw [hy, hu, ht]) rfl ?_
          refine g_aload (pc := 78) hc 7 dX11_copy_78 rfl ?_
          refine g_aload (pc := 80) hc 6 dX11_copy_80 rfl ?_
          refine g_iload_n (pc := 82) hc 2 dX11_copy_82 rfl rfl ?_
          refine g_iload (pc := 83) hc 4 dX11_copy_83 rfl ?_
          refine g_iload (pc := 85) hc 5 dX11_copy_85 rfl ?_
          refine g_callVv (pc := 87) (rest := []) (As := [.ref (ad 11), .int (nI a), .int (nI b), .int (nI n)]) hc (c_X7_take_12_11 l E ad hA sc ar bl a b n (by omega) (by omega) hfit) mi_X7_take tw_952 12 rfl rfl rfl rfl ⟨rfl, rfl, by decide, by decide⟩ (Nat.le_of_ble_eq_true rfl) ⟨Nat.le_refl _, Nat.le_refl _⟩ rfl dX11_copy_87 ?_
          refine g_iload (pc := 90) hc 5 dX11_copy_90 rfl ?_
          exact g_iret (pc := 92) hc dX11_copy_92 (by rw [if_neg (ne_true_of_eq_false (by rw [if_neg (ne_true_of_eq_false c1)]; exact c2)), if_pos (ok2_t c3 c4), ht]) (by rw [if_neg (ne_true_of_eq_false (by rw [if_neg (ne_true_of_eq_false c1)]; exact c2)), if_pos (ok2_t c3 c4), hy, hu, ht, tn, tn, tn, nI_clamp (by omega), nI_clamp (by omega), nI_clamp (by omega)])
        · refine g_ldcw (pc := 74) (v := (-1000000013)) hc tw_939 dX11_copy_74 ?_
          exact g_iret (pc := 77) hc dX11_copy_77 (by rw [if_neg (ne_true_of_eq_false (by rw [if_neg (ne_true_of_eq_false c1)]; exact c2)), if_neg (ne_true_of_eq_false (ok2_f2 c3 c4))]) (by rw [if_neg (ne_true_of_eq_false (by rw [if_neg (ne_true_of_eq_false c1)]; exact c2)), if_neg (ne_true_of_eq_false (ok2_f2 c3 c4))])
    · refine g_ldcw (pc := 47) (v := (-1000000011)) hc tw_669 dX11_copy_47 ?_
      exact g_iret (pc := 50) hc dX11_copy_50 (by rw [if_pos (by rw [if_neg (ne_true_of_eq_false c1)]; exact c2)]) (by rw [if_pos (by rw [if_neg (ne_true_of_eq_false c1)]; exact c2)])

set_option maxHeartbeats 4000000 in
set_option maxRecDepth 100000 in
theorem c_X11_copy_10 (l : Launch) (E : Ev) {A : Nat → Prop} (ad : Nat → Nat) (hA : Oka 39 ad A) (sc : Nat → Int32) (ar : Nat → Nat → Int32) (bl : Int64) (y u t : Int32) (hr1 : hrun y t (sc 18) = true → ∃ a n : Nat, a + n ≤ 64 ∧ y = nI a ∧ t = nI n) (hr2 : hrun u t (sc 17) = true → ∃ b n : Nat, b + n ≤ 64 ∧ u = nI b ∧ t = nI n) (hfit : ∀ i, i < 64 → fits .short (.int (ar 38 i)) = true) : Ct l E yX11_copy (.code yX11_copy cX11_copy 8 (some .int)) ({ frames := 2, cells := 0, slots := 0, locals := 54 }) A (cw E ad sc ar bl) [.ref (ad 0), .int (nI 1), .int y, .int (nI 0), .int u, .int t] (some (.int (if (if decide (sc 18 = (-1)) = true then true else decide (sc 17 = (-1))) = true then (-1000000011) else if ok2 (hrun y t (sc 18)) (hrun u t (sc 17)) = true then t else (-1000000013)))) (if (if decide (sc 18 = (-1)) = true then true else decide (sc 17 = (-1))) = true then cw E ad sc ar bl else if ok2 (hrun y t (sc 18)) (hrun u t (sc 17)) = true then cw E ad sc (va_up ar 37 (va_cpy (ar 38) (ar 37) (tn y) (tn u) (tn t))) bl else cw E ad sc ar bl) := by
  refine Ct.of (lv := [(0, .ref (ad 0)), (1, .int (nI 1)), (2, .int y), (3, .int (nI 0)), (4, .int u), (5, .int t)]) (by decide +kernel) (Nat.le_of_ble_eq_true rfl) rfl ?_
  intro zp ze zs zm za zb zh zc hc
  refine g_iload_n (pc := 0) hc 1 dX11_copy_0 rfl rfl ?_
  refine g_callSi (pc := 1) (rest := []) (As := [.int (nI 1)]) hc (c_X11_isSheet l E ad hA sc ar bl (nI 1)) mi_X11_isSheet tw_919 rfl ⟨rfl, rfl, by decide, by decide⟩ (Nat.le_of_ble_eq_true rfl) ⟨Nat.le_refl _, Nat.le_refl _⟩ rfl dX11_copy_1 ?_
  refine g_if_eq_f (pc := 4) hc 14 dX11_copy_4 (by decide) (by decide) ?_
  refine g_iload_n (pc := 7) hc 3 dX11_copy_7 rfl rfl ?_
  refine g_callSi (pc := 8) (rest := []) (As := [.int (nI 0)]) hc (c_X11_isSheet l E ad hA sc ar bl (nI 0)) mi_X11_isSheet tw_919 rfl ⟨rfl, rfl, by decide, by decide⟩ (Nat.le_of_ble_eq_true rfl) ⟨Nat.le_refl _, Nat.le_refl _⟩ rfl dX11_copy_8 ?_
  refine g_if_ne_t (pc := 11) hc 17 dX11_copy_11 (by decide) (by decide) ?_
  refine g_aload_n (pc := 17) hc 0 dX11_copy_17 rfl rfl ?_
  refine g_iload_n (pc := 18) hc 1 dX11_copy_18 rfl rfl ?_
  refine g_callVa (pc := 19) (rest := []) (As := [.int (nI 1)]) hc (c_X11_sn1 l E ad hA sc ar bl) mi_X11_sheetNumbered tw_923 0 rfl rfl rfl rfl ⟨rfl, rfl, by decide, by decide⟩ (Nat.le_of_ble_eq_true rfl) ⟨Nat.le_refl _, Nat.le_refl _⟩ rfl dX11_copy_19 ?_
  refine g_astore (pc := 22) (lv' := [(0, .ref (ad 0)), (1, .int (nI 1)), (2, .int y), (3, .int (nI 0)), (4, .int u), (5, .int t), (6, .ref (ad 12))]) hc dX11_copy_22 (by decide) rfl ?_
  refine g_aload_n (pc := 24) hc 0 dX11_copy_24 rfl rfl ?_
  refine g_iload_n (pc := 25) hc 3 dX11_copy_25 rfl rfl ?_
  refine g_callVa (pc := 26) (rest := []) (As := [.int (nI 0)]) hc (c_X11_sn0 l E ad hA sc ar bl) mi_X11_sheetNumbered tw_923 0 rfl rfl rfl rfl ⟨rfl, rfl, by decide, by decide⟩ (Nat.le_of_ble_eq_true rfl) ⟨Nat.le_refl _, Nat.le_refl _⟩ rfl dX11_copy_26 ?_
  refine g_astore (pc := 29) (lv' := [(0, .ref (ad 0)), (1, .int (nI 1)), (2, .int y), (3, .int (nI 0)), (4, .int u), (5, .int t), (6, .ref (ad 12)), (7, .ref (ad 11))]) hc dX11_copy_29 (by decide) rfl ?_
  refine g_aload (pc := 31) hc 6 dX11_copy_31 rfl ?_
  refine g_callVi (pc := 33) (rest := []) (As := []) hc (c_X7_isMissing_12 l E ad hA sc ar bl) mi_X7_isMissing tw_665 12 rfl rfl rfl rfl ⟨rfl, rfl, by decide, by decide⟩ (Nat.le_of_ble_eq_true rfl) ⟨Nat.le_refl _, Nat.le_refl _⟩ rfl dX11_copy_33 ?_
  refine g_if_ne_b (pc := 36) hc 47 dX11_copy_36 (by decide) (fun c1 => ?_) (fun c1 => ?_)
  · refine g_ldcw (pc := 47) (v := (-1000000011)) hc tw_669 dX11_copy_47 ?_
    exact g_iret (pc := 50) hc dX11_copy_50 (by rw [if_pos (by rw [if_pos c1])]) (by rw [if_pos (by rw [if_pos c1])])
  · refine g_aload (pc := 39) hc 7 dX11_copy_39 rfl ?_
    refine g_callVi (pc := 41) (rest := []) (As := []) hc (c_X7_isMissing_11 l E ad hA sc ar bl) mi_X7_isMissing tw_665 11 rfl rfl rfl rfl ⟨rfl, rfl, by decide, by decide⟩ (Nat.le_of_ble_eq_true rfl) ⟨Nat.le_refl _, Nat.le_refl _⟩ rfl dX11_copy_41 ?_
    refine g_if_eq_b (pc := 44) hc 51 dX11_copy_44 (by decide) (fun c2 => ?_) (fun c2 => ?_)
    · refine g_aload (pc := 51) hc 6 dX11_copy_51 rfl ?_
      refine g_iload_n (pc := 53) hc 2 dX11_copy_53 rfl rfl ?_
      refine g_iload (pc := 54) hc 5 dX11_copy_54 rfl ?_
      refine g_callVi (pc := 56) (rest := []) (As := [.int y, .int t]) hc (c_X7_hasRun_12 l E ad hA sc ar bl y t) mi_X7_hasRun tw_948 12 rfl rfl rfl rfl ⟨rfl, rfl, by decide, by decide⟩ (Nat.le_of_ble_eq_true rfl) ⟨Nat.le_refl _, Nat.le_refl _⟩ rfl dX11_copy_56 ?_
      refine g_if_eq_b (pc := 59) hc 74 dX11_copy_59 (by decide) (fun c3 => ?_) (fun c3 => ?_)
      · refine g_ldcw (pc := 74) (v := (-1000000013)) hc tw_939 dX11_copy_74 ?_
        exact g_iret (pc := 77) hc dX11_copy_77 (by rw [if_neg (ne_true_of_eq_false (by rw [if_neg (ne_true_of_eq_false c1)]; exact c2)), if_neg (ne_true_of_eq_false (ok2_f1 c3))]) (by rw [if_neg (ne_true_of_eq_false (by rw [if_neg (ne_true_of_eq_false c1)]; exact c2)), if_neg (ne_true_of_eq_false (ok2_f1 c3))])
      · refine g_aload (pc := 62) hc 7 dX11_copy_62 rfl ?_
        refine g_iload (pc := 64) hc 4 dX11_copy_64 rfl ?_
        refine g_iload (pc := 66) hc 5 dX11_copy_66 rfl ?_
        refine g_callVi (pc := 68) (rest := []) (As := [.int u, .int t]) hc (c_X7_hasRun_11 l E ad hA sc ar bl u t) mi_X7_hasRun tw_948 11 rfl rfl rfl rfl ⟨rfl, rfl, by decide, by decide⟩ (Nat.le_of_ble_eq_true rfl) ⟨Nat.le_refl _, Nat.le_refl _⟩ rfl dX11_copy_68 ?_
        refine g_if_ne_b (pc := 71) hc 78 dX11_copy_71 (by decide) (fun c4 => ?_) (fun c4 => ?_)
        · obtain ⟨a, n, han, hy, ht⟩ := hr1 c3
          obtain ⟨b, n2, hbn, hu, ht2⟩ := hr2 c4
          have hnn : n = n2 := (nI_eq (by omega) (by omega)).mp (ht.symm.trans ht2)
          subst hnn
          refine g_eq (ws' := cw E ad sc ar bl) (lv' := [(0, .ref (ad 0)), (1, .int (nI 1)), (2, .int (nI a)), (3, .int (nI 0)), (4, .int (nI b)), (5, .int (nI n)), (6, .ref (ad 12)), (7, .ref (ad 11))]) rfl (by rw [hy, hu, ht]) rfl ?_
          refine g_aload (pc := 78) hc 7 dX11_copy_78 rfl ?_
          refine g_aload (pc := 80) hc 6 dX11_copy_80 rfl ?_
          refine g_iload_n (pc := 82) hc 2 dX11_copy_82 rfl rfl ?_
          refine g_iload (pc := 83) hc 4 dX11_copy_83 rfl ?_
          refine g_iload (pc := 85) hc 5 dX11_copy_85 rfl ?_
          refine g_callVv (pc := 87) (rest := []) (As := [.ref (ad 12), .int (nI a), .int (nI b), .int (nI n)]) hc (c_X7_take_11_12 l E ad hA sc ar bl a b n (by omega) (by omega) hfit) mi_X7_take tw_952 11 rfl rfl rfl rfl ⟨rfl, rfl, by decide, by decide⟩ (Nat.le_of_ble_eq_true rfl) ⟨Nat.le_refl _, Nat.le_refl _⟩ rfl dX11_copy_87 ?_
          refine g_iload (pc := 90) hc 5 dX11_copy_90 rfl ?_
          exact g_iret (pc := 92) hc dX11_copy_92 (by rw [if_neg (ne_true_of_eq_false (by rw [if_neg (ne_true_of_eq_false c1)]; exact c2)), if_pos (ok2_t c3 c4), ht]) (by rw [if_neg (ne_true_of_eq_false (by rw [if_neg (ne_true_of_eq_false c1)]; exact c2)), if_pos (ok2_t c3 c4), hy, hu, ht, tn, tn, tn, nI_clamp (by omega), nI_clamp (by omega), nI_clamp (by omega)])
        · refine g_ldcw (pc := 74) (v := (-1000000013)) hc tw_939 dX11_copy_74 ?_
          exact g_iret (pc := 77) hc dX11_copy_77 (by rw [if_neg (ne_true_of_eq_false (by rw [if_neg (ne_true_of_eq_false c1)]; exact c2)), if_neg (ne_true_of_eq_false (ok2_f2 c3 c4))]) (by rw [if_neg (ne_true_of_eq_false (by rw [if_neg (ne_true_of_eq_false c1)]; exact c2)), if_neg (ne_true_of_eq_false (ok2_f2 c3 c4))])
    · refine g_ldcw (pc := 47) (v := (-1000000011)) hc tw_669 dX11_copy_47 ?_
      exact g_iret (pc := 50) hc dX11_copy_50 (by rw [if_pos (by rw [if_neg (ne_true_of_eq_false c1)]; exact c2)]) (by rw [if_pos (by rw [if_neg (ne_true_of_eq_false c1)]; exact c2)])

set_option maxHeartbeats 4000000 in
set_option maxRecDepth 100000 in
theorem c_X11_copy_11 (l : Launch) (E : Ev) {A : Nat → Prop} (ad : Nat → Nat) (hA : Oka 39 ad A) (sc : Nat → Int32) (ar : Nat → Nat → Int32) (bl : Int64) (y u t : Int32) (hr1 : hrun y t (sc 18) = true → ∃ a n : Nat, a + n ≤ 64 ∧ y = nI a ∧ t = nI n) (hr2 : hrun u t (sc 18) = true → ∃ b n : Nat, b + n ≤ 64 ∧ u = nI b ∧ t = nI n) (hfit : ∀ i, i < 64 → fits .short (.int (ar 38 i)) = true) : Ct l E yX11_copy (.code yX11_copy cX11_copy 8 (some .int)) ({ frames := 2, cells := 0, slots := 0, locals := 54 }) A (cw E ad sc ar bl) [.ref (ad 0), .int (nI 1), .int y, .int (nI 1), .int u, .int t] (some (.int (if (if decide (sc 18 = (-1)) = true then true else decide (sc 18 = (-1))) = true then (-1000000011) else if ok2 (hrun y t (sc 18)) (hrun u t (sc 18)) = true then t else (-1000000013)))) (if (if decide (sc 18 = (-1)) = true then true else decide (sc 18 = (-1))) = true then cw E ad sc ar bl else if ok2 (hrun y t (sc 18)) (hrun u t (sc 18)) = true then cw E ad sc (va_up ar 38 (va_cpy (ar 38) (ar 38) (tn y) (tn u) (tn t))) bl else cw E ad sc ar bl) := by
  refine Ct.of (lv := [(0, .ref (ad 0)), (1, .int (nI 1)), (2, .int y), (3, .int (nI 1)), (4, .int u), (5, .int t)]) (by decide +kernel) (Nat.le_of_ble_eq_true rfl) rfl ?_
  intro zp ze zs zm za zb zh zc hc
  refine g_iload_n (pc := 0) hc 1 dX11_copy_0 rfl rfl ?_
  refine g_callSi (pc := 1) (rest := []) (As := [.int (nI 1)]) hc (c_X11_isSheet l E ad hA sc ar bl (nI 1)) mi_X11_isSheet tw_919 rfl ⟨rfl, rfl, by decide, by decide⟩ (Nat.le_of_ble_eq_true rfl) ⟨Nat.le_refl _, Nat.le_refl _⟩ rfl dX11_copy_1 ?_
  refine g_if_eq_f (pc := 4) hc 14 dX11_copy_4 (by decide) (by decide) ?_
  refine g_iload_n (pc := 7) hc 3 dX11_copy_7 rfl rfl ?_
  refine g_callSi (pc := 8) (rest := []) (As := [.int (nI 1)]) hc (c_X11_isSheet l E ad hA sc ar bl (nI 1)) mi_X11_isSheet tw_919 rfl ⟨rfl, rfl, by decide, by decide⟩ (Nat.le_of_ble_eq_true rfl) ⟨Nat.le_refl _, Nat.le_refl _⟩ rfl dX11_copy_8 ?_
  refine g_if_ne_t (pc := 11) hc 17 dX11_copy_11 (by decide) (by decide) ?_
  refine g_aload_n (pc := 17) hc 0 dX11_copy_17 rfl rfl ?_
  refine g_iload_n (pc := 18) hc 1 dX11_copy_18 rfl rfl ?_
  refine g_callVa (pc := 19) (rest := []) (As := [.int (nI 1)]) hc (c_X11_sn1 l E ad hA sc ar bl) mi_X11_sheetNumbered tw_923 0 rfl rfl rfl rfl ⟨rfl, rfl, by decide, by decide⟩ (Nat.le_of_ble_eq_true rfl) ⟨Nat.le_refl _, Nat.le_refl _⟩ rfl dX11_copy_19 ?_
  refine g_astore (pc := 22) (lv' := [(0, .ref (ad 0)), (1, .int (nI 1)), (2, .int y), (3, .int (nI 1)), (4, .int u), (5, .int t), (6, .ref (ad 12))]) hc dX11_copy_22 (by decide) rfl ?_
  refine g_aload_n (pc := 24) hc 0 dX11_copy_24 rfl rfl ?_
  refine g_iload_n (pc := 25) hc 3 dX11_copy_25 rfl rfl ?_
  refine g_callVa (pc := 26) (rest := []) (As := [.int (nI 1)]) hc (c_X11_sn1 l E ad hA sc ar bl) mi_X11_sheetNumbered tw_923 0 rfl rfl rfl rfl ⟨rfl, rfl, by decide, by decide⟩ (Nat.le_of_ble_eq_true rfl) ⟨Nat.le_refl _, Nat.le_refl _⟩ rfl dX11_copy_26 ?_
  refine g_astore (pc := 29) (lv' := [(0, .ref (ad 0)), (1, .int (nI 1)), (2, .int y), (3, .int (nI 1)), (4, .int u), (5, .int t), (6, .ref (ad 12)), (7, .ref (ad 12))]) hc dX11_copy_29 (by decide) rfl ?_
  refine g_aload (pc := 31) hc 6 dX11_copy_31 rfl ?_
  refine g_callVi (pc := 33) (rest := []) (As := []) hc (c_X7_isMissing_12 l E ad hA sc ar bl) mi_X7_isMissing tw_665 12 rfl rfl rfl rfl ⟨rfl, rfl, by decide, by decide⟩ (Nat.le_of_ble_eq_true rfl) ⟨Nat.le_refl _, Nat.le_refl _⟩ rfl dX11_copy_33 ?_
  refine g_if_ne_b (pc := 36) hc 47 dX11_copy_36 (by decide) (fun c1 => ?_) (fun c1 => ?_)
  · refine g_ldcw (pc := 47) (v := (-1000000011)) hc tw_669 dX11_copy_47 ?_
    exact g_iret (pc := 50) hc dX11_copy_50 (by rw [if_pos (by rw [if_pos c1])]) (by rw [if_pos (by rw [if_pos c1])])
  · refine g_aload (pc := 39) hc 7 dX11_copy_39 rfl ?_
    refine g_callVi (pc := 41) (rest := []) (As := []) hc (c_X7_isMissing_12 l E ad hA sc ar bl) mi_X7_isMissing tw_665 12 rfl rfl rfl rfl ⟨rfl, rfl, by decide, by decide⟩ (Nat.le_of_ble_eq_true rfl) ⟨Nat.le_refl _, Nat.le_refl _⟩ rfl dX11_copy_41 ?_
    refine g_if_eq_b (pc := 44) hc 51 dX11_copy_44 (by decide) (fun c2 => ?_) (fun c2 => ?_)
    · refine g_aload (pc := 51) hc 6 dX11_copy_51 rfl ?_
      refine g_iload_n (pc := 53) hc 2 dX11_copy_53 rfl rfl ?_
      refine g_iload (pc := 54) hc 5 dX11_copy_54 rfl ?_
      refine g_callVi (pc := 56) (rest := []) (As := [.int y, .int t]) hc (c_X7_hasRun_12 l E ad hA sc ar bl y t) mi_X7_hasRun tw_948 12 rfl rfl rfl rfl ⟨rfl, rfl, by decide, by decide⟩ (Nat.le_of_ble_eq_true rfl) ⟨Nat.le_refl _, Nat.le_refl _⟩ rfl dX11_copy_56 ?_
      refine g_if_eq_b (pc := 59) hc 74 dX11_copy_59 (by decide) (fun c3 => ?_) (fun c3 => ?_)
      · refine g_ldcw (pc := 74) (v := (-1000000013)) hc tw_939 dX11_copy_74 ?_
        exact g_iret (pc := 77) hc dX11_copy_77 (by rw [if_neg (ne_true_of_eq_false (by rw [if_neg (ne_true_of_eq_false c1)]; exact c2)), if_neg (ne_true_of_eq_false (ok2_f1 c3))]) (by rw [if_neg (ne_true_of_eq_false (by rw [if_neg (ne_true_of_eq_false c1)]; exact c2)), if_neg (ne_true_of_eq_false (ok2_f1 c3))])
      · refine g_aload (pc := 62) hc 7 dX11_copy_62 rfl ?_
        refine g_iload (pc := 64) hc 4 dX11_copy_64 rfl ?_
        refine g_iload (pc := 66) hc 5 dX11_copy_66 rfl ?_
        refine g_callVi (pc := 68) (rest := []) (As := [.int u, .int t]) hc (c_X7_hasRun_12 l E ad hA sc ar bl u t) mi_X7_hasRun tw_948 12 rfl rfl rfl rfl ⟨rfl, rfl, by decide, by decide⟩ (Nat.le_of_ble_eq_true rfl) ⟨Nat.le_refl _, Nat.le_refl _⟩ rfl dX11_copy_68 ?_
        refine g_if_ne_b (pc := 71) hc 78 dX11_copy_71 (by decide) (fun c4 => ?_) (fun c4 => ?_)
        · obtain ⟨a, n, han, hy, ht⟩ := hr1 c3
          obtain ⟨b, n2, hbn, hu, ht2⟩ := hr2 c4
          have hnn : n = n2 := (nI_eq (by omega) (by omega)).mp (ht.symm.trans ht2)
          subst hnn
          refine g_eq (ws' := cw E ad sc ar bl) (lv' := [(0, .ref (ad 0)), (1, .int (nI 1)), (2, .int (nI a)), (3, .int (nI 1)), (4, .int (nI b)), (5, .int (nI n)), (6, .ref (ad 12)), (7, .ref (ad 12))]) rfl (by rw [hy, hu, ht]) rfl ?_
          refine g_aload (pc := 78) hc 7 dX11_copy_78 rfl ?_
          refine g_aload (pc := 80) hc 6 dX11_copy_80 rfl ?_
          refine g_iload_n (pc := 82) hc 2 dX11_copy_82 rfl rfl ?_
          refine g_iload (pc := 83) hc 4 dX11_copy_83 rfl ?_
          refine g_iload (pc := 85) hc 5 dX11_copy_85 rfl ?_
          refine g_callVv (pc := 87) (rest := []) (As := [.ref (ad 12), .int (nI a), .int (nI b), .int (nI n)]) hc (c_X7_take_12_12 l E ad hA sc ar bl a b n (by omega) (by omega) hfit) mi_X7_take tw_952 12 rfl rfl rfl rfl ⟨rfl, rfl, by decide, by decide⟩ (Nat.le_of_ble_eq_true rfl) ⟨Nat.le_refl _, Nat.le_refl _⟩ rfl dX11_copy_87 ?_
          refine g_iload (pc := 90) hc 5 dX11_copy_90 rfl ?_
          exact g_iret (pc := 92) hc dX11_copy_92 (by rw [if_neg (ne_true_of_eq_false (by rw [if_neg (ne_true_of_eq_false c1)]; exact c2)), if_pos (ok2_t c3 c4), ht]) (by rw [if_neg (ne_true_of_eq_false (by rw [if_neg (ne_true_of_eq_false c1)]; exact c2)), if_pos (ok2_t c3 c4), hy, hu, ht, tn, tn, tn, nI_clamp (by omega), nI_clamp (by omega), nI_clamp (by omega)])
        · refine g_ldcw (pc := 74) (v := (-1000000013)) hc tw_939 dX11_copy_74 ?_
          exact g_iret (pc := 77) hc dX11_copy_77 (by rw [if_neg (ne_true_of_eq_false (by rw [if_neg (ne_true_of_eq_false c1)]; exact c2)), if_neg (ne_true_of_eq_false (ok2_f2 c3 c4))]) (by rw [if_neg (ne_true_of_eq_false (by rw [if_neg (ne_true_of_eq_false c1)]; exact c2)), if_neg (ne_true_of_eq_false (ok2_f2 c3 c4))])
    · refine g_ldcw (pc := 47) (v := (-1000000011)) hc tw_669 dX11_copy_47 ?_
      exact g_iret (pc := 50) hc dX11_copy_50 (by rw [if_pos (by rw [if_neg (ne_true_of_eq_false c1)]; exact c2)]) (by rw [if_pos (by rw [if_neg (ne_true_of_eq_false c1)]; exact c2)])
