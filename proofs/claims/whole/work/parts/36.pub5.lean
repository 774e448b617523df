theorem dX11_leave_0 : decode cX11_leave 0 = .ok (.aload_n 0, 1) := by decide +kernel
theorem dX11_leave_1 : decode cX11_leave 1 = .ok (.getfield 101, 3) := by decide +kernel
theorem dX11_leave_4 : decode cX11_leave 4 = .ok (.invokevirtual 295, 3) := by decide +kernel
theorem dX11_leave_7 : decode cX11_leave 7 = .ok (.istore_n 1, 1) := by decide +kernel
theorem dX11_leave_8 : decode cX11_leave 8 = .ok (.aload_n 0, 1) := by decide +kernel
theorem dX11_leave_9 : decode cX11_leave 9 = .ok (.getfield 47, 3) := by decide +kernel
theorem dX11_leave_12 : decode cX11_leave 12 = .ok (.iconst 0, 1) := by decide +kernel
theorem dX11_leave_13 : decode cX11_leave 13 = .ok (.invokevirtual 292, 3) := by decide +kernel
theorem dX11_leave_16 : decode cX11_leave 16 = .ok (.iload_n 1, 1) := by decide +kernel
theorem dX11_leave_17 : decode cX11_leave 17 = .ok (.iconst (-1), 1) := by decide +kernel
theorem dX11_leave_18 : decode cX11_leave 18 = .ok (.if_icmp .eq 8, 3) := by decide +kernel
theorem dX11_leave_21 : decode cX11_leave 21 = .ok (.bipush (-100), 2) := by decide +kernel
theorem dX11_leave_23 : decode cX11_leave 23 = .ok (.iload_n 1, 1) := by decide +kernel
theorem dX11_leave_24 : decode cX11_leave 24 = .ok (.isub, 1) := by decide +kernel
theorem dX11_leave_25 : decode cX11_leave 25 = .ok (.ireturn, 1) := by decide +kernel
theorem dX11_leave_26 : decode cX11_leave 26 = .ok (.aload_n 0, 1) := by decide +kernel
theorem dX11_leave_27 : decode cX11_leave 27 = .ok (.getfield 54, 3) := by decide +kernel
theorem dX11_leave_30 : decode cX11_leave 30 = .ok (.invokevirtual 298, 3) := by decide +kernel
theorem dX11_leave_33 : decode cX11_leave 33 = .ok (.ifCond .eq 6, 3) := by decide +kernel
theorem dX11_leave_36 : decode cX11_leave 36 = .ok (.ldc 159, 2) := by decide +kernel
theorem dX11_leave_38 : decode cX11_leave 38 = .ok (.ireturn, 1) := by decide +kernel
theorem dX11_leave_39 : decode cX11_leave 39 = .ok (.aload_n 0, 1) := by decide +kernel
theorem dX11_leave_40 : decode cX11_leave 40 = .ok (.getfield 54, 3) := by decide +kernel
theorem dX11_leave_43 : decode cX11_leave 43 = .ok (.aload_n 0, 1) := by decide +kernel
theorem dX11_leave_44 : decode cX11_leave 44 = .ok (.getfield 101, 3) := by decide +kernel
theorem dX11_leave_47 : decode cX11_leave 47 = .ok (.invokevirtual 299, 3) := by decide +kernel
theorem dX11_leave_50 : decode cX11_leave 50 = .ok (.ireturn, 1) := by decide +kernel

set_option maxHeartbeats 4000000 in
set_option maxRecDepth 100000 in
theorem c_X11_leave (l : Launch) (E : Ev) {A : Nat → Prop} (ad : Nat → Nat) (hA : Oka 39 ad A) (sc : Nat → Int32) (ar : Nat → Nat → Int32) (bl : Int64) {tL nL : Nat}  (hT : sc 7 = nI tL) (hT60 : tL ≤ 60) (hL : sc 16 = nI nL) (hL12 : nL ≤ 12) : Ct l E yX11_leave (.code yX11_leave cX11_leave 2 (some .int)) ({ frames := 9, cells := 0, slots := 0, locals := 191 }) A (cw E ad sc ar bl) [.ref (ad 0)] (some (.int (if (rd5 (ar 30) tL).2.2 = (-1) then (if sc 16 < nI 12 then nI nL else (-1000000003)) else (-100) - (rd5 (ar 30) tL).2.2))) (if (rd5 (ar 30) tL).2.2 = (-1) then (if sc 16 < nI 12 then cw E ad (va_up (va_up (va_up (va_up (va_up (va_up (va_up (va_up (va_up (va_up sc 11 (spA (ar 30) (nI 7) (rd1 (ar 30) tL))) 12 (spB (ar 30) tL (nI 7) (rd1 (ar 30) tL))) 13 (dyA (ar 30) tL (rd2 (ar 30) tL))) 14 (dyB (ar 30) tL (rd2 (ar 30) tL))) 15 (bwB (ar 30) tL (rd3 (ar 30) tL))) 8 (nI (rd5 (ar 30) tL).1)) 9 (nI (rd5 (ar 30) tL).2.1)) 10 (rd5 (ar 30) tL).2.2) 7 (nI 0)) 16 (nI (nL + 1))) (va_up (va_up (va_up (va_up (va_up ar 31 (upd (ar 31) nL (spA (ar 30) (nI 7) (rd1 (ar 30) tL)))) 32 (upd (ar 32) nL (spB (ar 30) tL (nI 7) (rd1 (ar 30) tL)))) 33 (upd (ar 33) nL (dyA (ar 30) tL (rd2 (ar 30) tL)))) 34 (upd (ar 34) nL (dyB (ar 30) tL (rd2 (ar 30) tL)))) 35 (upd (ar 35) nL (bwB (ar 30) tL (rd3 (ar 30) tL)))) bl else cw E ad (va_up (va_up (va_up (va_up (va_up (va_up (va_up (va_up (va_up sc 11 (spA (ar 30) (nI 7) (rd1 (ar 30) tL))) 12 (spB (ar 30) tL (nI 7) (rd1 (ar 30) tL))) 13 (dyA (ar 30) tL (rd2 (ar 30) tL))) 14 (dyB (ar 30) tL (rd2 (ar 30) tL))) 15 (bwB (ar 30) tL (rd3 (ar 30) tL))) 8 (nI (rd5 (ar 30) tL).1)) 9 (nI (rd5 (ar 30) tL).2.1)) 10 (rd5 (ar 30) tL).2.2) 7 (nI 0)) ar bl) else cw E ad (va_up (va_up (va_up (va_up (va_up (va_up (va_up (va_up (va_up sc 11 (spA (ar 30) (nI 7) (rd1 (ar 30) tL))) 12 (spB (ar 30) tL (nI 7) (rd1 (ar 30) tL))) 13 (dyA (ar 30) tL (rd2 (ar 30) tL))) 14 (dyB (ar 30) tL (rd2 (ar 30) tL))) 15 (bwB (ar 30) tL (rd3 (ar 30) tL))) 8 (nI (rd5 (ar 30) tL).1)) 9 (nI (rd5 (ar 30) tL).2.1)) 10 (rd5 (ar 30) tL).2.2) 7 (nI 0)) ar bl) := by
  refine Ct.of (lv := [(0, .ref (ad 0))]) (by decide +kernel) (Nat.le_of_ble_eq_true rfl) rfl ?_
  intro zp ze zs zm za zb zh zc hc
  refine g_aload_n (pc := 0) hc 0 dX11_leave_0 rfl rfl ?_
  refine gf_c0_reader (pc := 1) hc tw_263 dX11_leave_1 ?_
  refine g_callVi (pc := 4) (rest := []) (As := []) hc (c_X4_read l E ad hA sc ar bl hT hT60) mi_X4_read tw_758 9 rfl rfl rfl rfl ⟨rfl, rfl, by decide, by decide⟩ (Nat.le_of_ble_eq_true rfl) ⟨Nat.le_refl _, Nat.le_refl _⟩ rfl dX11_leave_4 ?_
  refine g_istore_n (pc := 7) (lv' := [(0, .ref (ad 0)), (1, .int (rd5 (ar 30) tL).2.2)]) hc dX11_leave_7 rfl (by decide) rfl ?_
  refine g_aload_n (pc := 8) hc 0 dX11_leave_8 rfl rfl ?_
  refine gf_c0_tape (pc := 9) hc tw_262 dX11_leave_9 ?_
  refine g_iconst (pc := 12) (v := nI 0) hc dX11_leave_12 (by decide) ?_
  refine g_callVv (pc := 13) (rest := []) (As := [.int (nI 0)]) hc (c_X9_keep l E ad hA (va_up (va_up (va_up (va_up (va_up (va_up (va_up (va_up sc 11 (spA (ar 30) (nI 7) (rd1 (ar 30) tL))) 12 (spB (ar 30) tL (nI 7) (rd1 (ar 30) tL))) 13 (dyA (ar 30) tL (rd2 (ar 30) tL))) 14 (dyB (ar 30) tL (rd2 (ar 30) tL))) 15 (bwB (ar 30) tL (rd3 (ar 30) tL))) 8 (nI (rd5 (ar 30) tL).1)) 9 (nI (rd5 (ar 30) tL).2.1)) 10 (rd5 (ar 30) tL).2.2) ar bl (nI 0)) mi_X9_keep tw_750 8 rfl rfl rfl rfl ⟨rfl, rfl, by decide, by decide⟩ (Nat.le_of_ble_eq_true rfl) ⟨Nat.le_refl _, Nat.le_refl _⟩ rfl dX11_leave_13 ?_
  refine g_eq (ws' := cw E ad (va_up (va_up (va_up (va_up (va_up (va_up (va_up (va_up (va_up sc 11 (spA (ar 30) (nI 7) (rd1 (ar 30) tL))) 12 (spB (ar 30) tL (nI 7) (rd1 (ar 30) tL))) 13 (dyA (ar 30) tL (rd2 (ar 30) tL))) 14 (dyB (ar 30) tL (rd2 (ar 30) tL))) 15 (bwB (ar 30) tL (rd3 (ar 30) tL))) 8 (nI (rd5 (ar 30) tL).1)) 9 (nI (rd5 (ar 30) tL).2.1)) 10 (rd5 (ar 30) tL).2.2) 7 (nI 0)) ar bl) (lv' := [(0, .ref (ad 0)), (1, .int (rd5 (ar 30) tL).2.2)]) (by simp [cw, va_up]) rfl rfl ?_
  refine g_iload_n (pc := 16) hc 1 dX11_leave_16 rfl rfl ?_
  refine g_iconst (pc := 17) (v := (-1)) hc dX11_leave_17 (by decide) ?_
  refine g_icmp_eq (pc := 18) hc 26 dX11_leave_18 (by decide) (fun c1 => ?_) (fun c1 => ?_)
  · refine g_aload_n (pc := 26) hc 0 dX11_leave_26 rfl rfl ?_
    refine gf_c0_leaves (pc := 27) hc tw_264 dX11_leave_27 ?_
    refine g_callVi (pc := 30) (rest := []) (As := []) hc (c_X5_isFull l E ad hA (va_up (va_up (va_up (va_up (va_up (va_up (va_up (va_up (va_up sc 11 (spA (ar 30) (nI 7) (rd1 (ar 30) tL))) 12 (spB (ar 30) tL (nI 7) (rd1 (ar 30) tL))) 13 (dyA (ar 30) tL (rd2 (ar 30) tL))) 14 (dyB (ar 30) tL (rd2 (ar 30) tL))) 15 (bwB (ar 30) tL (rd3 (ar 30) tL))) 8 (nI (rd5 (ar 30) tL).1)) 9 (nI (rd5 (ar 30) tL).2.1)) 10 (rd5 (ar 30) tL).2.2) 7 (nI 0)) ar bl) mi_X5_isFull tw_863 10 rfl rfl rfl rfl ⟨rfl, rfl, by decide, by decide⟩ (Nat.le_of_ble_eq_true rfl) ⟨Nat.le_refl _, Nat.le_refl _⟩ rfl dX11_leave_30 ?_
    refine g_topi (v := bI (!decide (sc 16 < nI 12))) rfl ?_
    refine g_if_eq_b (pc := 33) hc 39 dX11_leave_33 (by decide) (fun c2 => ?_) (fun c2 => ?_)
    · have hL1 : nL < 12 := nW_lt c2 hL (by omega) (by decide)
      refine g_aload_n (pc := 39) hc 0 dX11_leave_39 rfl rfl ?_
      refine gf_c0_leaves (pc := 40) hc tw_264 dX11_leave_40 ?_
      refine g_aload_n (pc := 43) hc 0 dX11_leave_43 rfl rfl ?_
      refine gf_c0_reader (pc := 44) hc tw_263 dX11_leave_44 ?_
      refine g_callVi (pc := 47) (rest := []) (As := [.ref (ad 9)]) hc (c_X5_add l E ad hA (va_up (va_up (va_up (va_up (va_up (va_up (va_up (va_up (va_up sc 11 (spA (ar 30) (nI 7) (rd1 (ar 30) tL))) 12 (spB (ar 30) tL (nI 7) (rd1 (ar 30) tL))) 13 (dyA (ar 30) tL (rd2 (ar 30) tL))) 14 (dyB (ar 30) tL (rd2 (ar 30) tL))) 15 (bwB (ar 30) tL (rd3 (ar 30) tL))) 8 (nI (rd5 (ar 30) tL).1)) 9 (nI (rd5 (ar 30) tL).2.1)) 10 (rd5 (ar 30) tL).2.2) 7 (nI 0)) ar bl  (hL) (hL1)) mi_X5_add tw_867 10 rfl rfl rfl rfl ⟨rfl, rfl, by decide, by decide⟩ (Nat.le_of_ble_eq_true rfl) ⟨Nat.le_refl _, Nat.le_refl _⟩ rfl dX11_leave_47 ?_
      refine g_topi (v := nI nL) rfl ?_
      refine g_eq (ws' := cw E ad (va_up (va_up (va_up (va_up (va_up (va_up (va_up (va_up (va_up (va_up sc 11 (spA (ar 30) (nI 7) (rd1 (ar 30) tL))) 12 (spB (ar 30) tL (nI 7) (rd1 (ar 30) tL))) 13 (dyA (ar 30) tL (rd2 (ar 30) tL))) 14 (dyB (ar 30) tL (rd2 (ar 30) tL))) 15 (bwB (ar 30) tL (rd3 (ar 30) tL))) 8 (nI (rd5 (ar 30) tL).1)) 9 (nI (rd5 (ar 30) tL).2.1)) 10 (rd5 (ar 30) tL).2.2) 7 (nI 0)) 16 (nI (nL + 1))) (va_up (va_up (va_up (va_up (va_up ar 31 (upd (ar 31) nL (spA (ar 30) (nI 7) (rd1 (ar 30) tL)))) 32 (upd (ar 32) nL (spB (ar 30) tL (nI 7) (rd1 (ar 30) tL)))) 33 (upd (ar 33) nL (dyA (ar 30) tL (rd2 (ar 30) tL)))) 34 (upd (ar 34) nL (dyB (ar 30) tL (rd2 (ar 30) tL)))) 35 (upd (ar 35) nL (bwB (ar 30) tL (rd3 (ar 30) tL)))) bl) (lv' := [(0, .ref (ad 0)), (1, .int (rd5 (ar 30) tL).2.2)]) (by simp [cw, va_up]) rfl rfl ?_
      exact g_iret (pc := 50) hc dX11_leave_50 (by rw [if_pos c1, if_pos (wf_f c2)]) (by rw [if_pos c1, if_pos (wf_f c2)])
    · refine g_ldc (pc := 36) (v := (-1000000003)) hc tw_383 dX11_leave_36 ?_
      exact g_iret (pc := 38) hc dX11_leave_38 (by rw [if_pos c1, if_neg (wf_t c2)]) (by rw [if_pos c1, if_neg (wf_t c2)])
  · refine g_bipush (pc := 21) (v := (-100)) hc dX11_leave_21 (by decide) ?_
    refine g_iload_n (pc := 23) hc 1 dX11_leave_23 rfl rfl ?_
    refine g_isub (pc := 24) hc dX11_leave_24 ?_
    exact g_iret (pc := 25) hc dX11_leave_25 (by rw [if_neg c1]) (by rw [if_neg c1])

theorem dX11_withdraw_0 : decode cX11_withdraw 0 = .ok (.aload_n 0, 1) := by decide +kernel
theorem dX11_withdraw_1 : decode cX11_withdraw 1 = .ok (.getfield 54, 3) := by decide +kernel
theorem dX11_withdraw_4 : decode cX11_withdraw 4 = .ok (.iload_n 1, 1) := by decide +kernel
theorem dX11_withdraw_5 : decode cX11_withdraw 5 = .ok (.invokevirtual 302, 3) := by decide +kernel
theorem dX11_withdraw_8 : decode cX11_withdraw 8 = .ok (.ifCond .ne 6, 3) := by decide +kernel
theorem dX11_withdraw_11 : decode cX11_withdraw 11 = .ok (.ldc 109, 2) := by decide +kernel
theorem dX11_withdraw_13 : decode cX11_withdraw 13 = .ok (.ireturn, 1) := by decide +kernel
theorem dX11_withdraw_14 : decode cX11_withdraw 14 = .ok (.aload_n 0, 1) := by decide +kernel
theorem dX11_withdraw_15 : decode cX11_withdraw 15 = .ok (.getfield 54, 3) := by decide +kernel
theorem dX11_withdraw_18 : decode cX11_withdraw 18 = .ok (.iload_n 1, 1) := by decide +kernel
theorem dX11_withdraw_19 : decode cX11_withdraw 19 = .ok (.invokevirtual 303, 3) := by decide +kernel
theorem dX11_withdraw_22 : decode cX11_withdraw 22 = .ok (.ifCond .eq 6, 3) := by decide +kernel
theorem dX11_withdraw_25 : decode cX11_withdraw 25 = .ok (.ldc 155, 2) := by decide +kernel
theorem dX11_withdraw_27 : decode cX11_withdraw 27 = .ok (.ireturn, 1) := by decide +kernel
theorem dX11_withdraw_28 : decode cX11_withdraw 28 = .ok (.aload_n 0, 1) := by decide +kernel
theorem dX11_withdraw_29 : decode cX11_withdraw 29 = .ok (.getfield 54, 3) := by decide +kernel
theorem dX11_withdraw_32 : decode cX11_withdraw 32 = .ok (.iload_n 1, 1) := by decide +kernel
theorem dX11_withdraw_33 : decode cX11_withdraw 33 = .ok (.invokevirtual 306, 3) := by decide +kernel
theorem dX11_withdraw_36 : decode cX11_withdraw 36 = .ok (.iconst 1, 1) := by decide +kernel
theorem dX11_withdraw_37 : decode cX11_withdraw 37 = .ok (.ireturn, 1) := by decide +kernel

set_option maxHeartbeats 4000000 in
set_option maxRecDepth 100000 in
theorem c_X11_withdraw (l : Launch) (E : Ev) {A : Nat → Prop} (ad : Nat → Nat) (hA : Oka 39 ad A) (sc : Nat → Int32) (ar : Nat → Nat → Int32) (bl : Int64) {nL : Nat} (x : Int32) (hL : sc 16 = nI nL) (hL12 : nL ≤ 12) (hz : ∀ j, j < 12 → narrow .boolean (.int (ar 36 j)) = .int (ar 36 j)) : Ct l E yX11_withdraw (.code yX11_withdraw cX11_withdraw 2 (some .int)) ({ frames := 1, cells := 0, slots := 0, locals := 21 }) A (cw E ad sc ar bl) [.ref (ad 0), .int x] (some (.int (if inx x (nI nL) = true then (if ar 36 (tn x) = 0 then nI 1 else (-1000000002)) else (-1000000001)))) (if inx x (nI nL) = true then (if ar 36 (tn x) = 0 then cw E ad sc (va_up ar 36 (upd (ar 36) (tn x) (vp_nar .boolean (nI 1)))) bl else cw E ad sc ar bl) else cw E ad sc ar bl) := by
  refine Ct.of (lv := [(0, .ref (ad 0)), (1, .int x)]) (by decide +kernel) (Nat.le_of_ble_eq_true rfl) rfl ?_
  intro zp ze zs zm za zb zh zc hc
  refine g_aload_n (pc := 0) hc 0 dX11_withdraw_0 rfl rfl ?_
  refine gf_c0_leaves (pc := 1) hc tw_264 dX11_withdraw_1 ?_
  refine g_iload_n (pc := 4) hc 1 dX11_withdraw_4 rfl rfl ?_
  refine g_callVi (pc := 5) (rest := []) (As := [.int x]) hc (c_X5_has l E ad hA sc ar bl x) mi_X5_has tw_895 10 rfl rfl rfl rfl ⟨rfl, rfl, by decide, by decide⟩ (Nat.le_of_ble_eq_true rfl) ⟨Nat.le_refl _, Nat.le_refl _⟩ rfl dX11_withdraw_5 ?_
  refine g_if_ne_b (pc := 8) hc 14 dX11_withdraw_8 (by decide) (fun c1 => ?_) (fun c1 => ?_)
  · rw [hL] at c1
    obtain ⟨i, hi, hx⟩ := inx_of (by omega) c1
    refine g_eq (ws' := cw E ad sc ar bl) (lv' := [(0, .ref (ad 0)), (1, .int (nI i))]) rfl (by rw [hx]) rfl ?_
    refine g_aload_n (pc := 14) hc 0 dX11_withdraw_14 rfl rfl ?_
    refine gf_c0_leaves (pc := 15) hc tw_264 dX11_withdraw_15 ?_
    refine g_iload_n (pc := 18) hc 1 dX11_withdraw_18 rfl rfl ?_
    refine g_callVi (pc := 19) (rest := []) (As := [.int (nI i)]) hc (c_X5_isWithdrawn l E ad hA sc ar bl i (by omega) (hz _ (by omega))) mi_X5_isWithdrawn tw_899 10 rfl rfl rfl rfl ⟨rfl, rfl, by decide, by decide⟩ (Nat.le_of_ble_eq_true rfl) ⟨Nat.le_refl _, Nat.le_refl _⟩ rfl dX11_withdraw_19 ?_
    refine g_if_eq (pc := 22) hc 28 dX11_withdraw_22 (by decide) (fun c2 => ?_) (fun c2 => ?_)
    · refine g_aload_n (pc := 28) hc 0 dX11_withdraw_28 rfl rfl ?_
      refine gf_c0_leaves (pc := 29) hc tw_264 dX11_withdraw_29 ?_
      refine g_iload_n (pc := 32) hc 1 dX11_withdraw_32 rfl rfl ?_
      refine g_callVv (pc := 33) (rest := []) (As := [.int (nI i)]) hc (c_X5_takeBack l E ad hA sc ar bl i (by omega)) mi_X5_takeBack tw_903 10 rfl rfl rfl rfl ⟨rfl, rfl, by decide, by decide⟩ (Nat.le_of_ble_eq_true rfl) ⟨Nat.le_refl _, Nat.le_refl _⟩ rfl dX11_withdraw_33 ?_
      refine g_iconst (pc := 36) (v := nI 1) hc dX11_withdraw_36 (by decide) ?_
      exact g_iret (pc := 37) hc dX11_withdraw_37 (by rw [if_pos c1, hx, tn, nI_clamp (by omega), if_pos c2]) (by rw [if_pos c1, hx, tn, nI_clamp (by omega), if_pos c2])
    · refine g_ldc (pc := 25) (v := (-1000000002)) hc tw_378 dX11_withdraw_25 ?_
      exact g_iret (pc := 27) hc dX11_withdraw_27 (by rw [if_pos c1, hx, tn, nI_clamp (by omega), if_neg c2]) (by rw [if_pos c1, hx, tn, nI_clamp (by omega), if_neg c2])
  · rw [hL] at c1
    refine g_ldc (pc := 11) (v := (-1000000001)) hc tw_308 dX11_withdraw_11 ?_
    exact g_iret (pc := 13) hc dX11_withdraw_13 (by rw [if_neg (ne_true_of_eq_false c1)]) (by rw [if_neg (ne_true_of_eq_false c1)])

theorem dX11_lets_0 : decode cX11_lets 0 = .ok (.iload_n 1, 1) := by decide +kernel
theorem dX11_lets_1 : decode cX11_lets 1 = .ok (.invokestatic 141, 3) := by decide +kernel
theorem dX11_lets_4 : decode cX11_lets 4 = .ok (.ifCond .eq 24, 3) := by decide +kernel
theorem dX11_lets_7 : decode cX11_lets 7 = .ok (.iload_n 2, 1) := by decide +kernel
theorem dX11_lets_8 : decode cX11_lets 8 = .ok (.iconst 0, 1) := by decide +kernel
theorem dX11_lets_9 : decode cX11_lets 9 = .ok (.bipush 7, 2) := by decide +kernel
theorem dX11_lets_11 : decode cX11_lets 11 = .ok (.invokestatic 105, 3) := by decide +kernel
theorem dX11_lets_14 : decode cX11_lets 14 = .ok (.ifCond .eq 14, 3) := by decide +kernel
theorem dX11_lets_17 : decode cX11_lets 17 = .ok (.iload_n 3, 1) := by decide +kernel
theorem dX11_lets_18 : decode cX11_lets 18 = .ok (.iconst 0, 1) := by decide +kernel
theorem dX11_lets_19 : decode cX11_lets 19 = .ok (.sipush 400, 3) := by decide +kernel
theorem dX11_lets_22 : decode cX11_lets 22 = .ok (.invokestatic 105, 3) := by decide +kernel
theorem dX11_lets_25 : decode cX11_lets 25 = .ok (.ifCond .ne 6, 3) := by decide +kernel
theorem dX11_lets_28 : decode cX11_lets 28 = .ok (.ldc 109, 2) := by decide +kernel
theorem dX11_lets_30 : decode cX11_lets 30 = .ok (.ireturn, 1) := by decide +kernel
theorem dX11_lets_31 : decode cX11_lets 31 = .ok (.aload_n 0, 1) := by decide +kernel
theorem dX11_lets_32 : decode cX11_lets 32 = .ok (.getfield 54, 3) := by decide +kernel
theorem dX11_lets_35 : decode cX11_lets 35 = .ok (.iload_n 1, 1) := by decide +kernel
theorem dX11_lets_36 : decode cX11_lets 36 = .ok (.iload_n 2, 1) := by decide +kernel
theorem dX11_lets_37 : decode cX11_lets 37 = .ok (.iload_n 3, 1) := by decide +kernel
theorem dX11_lets_38 : decode cX11_lets 38 = .ok (.invokevirtual 151, 3) := by decide +kernel
theorem dX11_lets_41 : decode cX11_lets 41 = .ok (.istore 4, 2) := by decide +kernel
theorem dX11_lets_43 : decode cX11_lets 43 = .ok (.iload 4, 2) := by decide +kernel
theorem dX11_lets_45 : decode cX11_lets 45 = .ok (.iconst (-1), 1) := by decide +kernel
theorem dX11_lets_46 : decode cX11_lets 46 = .ok (.if_icmp .ne 8, 3) := by decide +kernel
theorem dX11_lets_49 : decode cX11_lets 49 = .ok (.ldc 219, 2) := by decide +kernel
theorem dX11_lets_51 : decode cX11_lets 51 = .ok (.goto 5, 3) := by decide +kernel
theorem dX11_lets_54 : decode cX11_lets 54 = .ok (.iload 4, 2) := by decide +kernel
theorem dX11_lets_56 : decode cX11_lets 56 = .ok (.ireturn, 1) := by decide +kernel

set_option maxHeartbeats 4000000 in
set_option maxRecDepth 100000 in
theorem c_X11_lets (l : Launch) (E : Ev) {A : Nat → Prop} (ad : Nat → Nat) (hA : Oka 39 ad A) (sc : Nat → Int32) (ar : Nat → Nat → Int32) (bl : Int64) {nL : Nat} (x : Int32) (y : Int32) (z : Int32) (hL : sc 16 = nI nL) (hL12 : nL ≤ 12) : Ct l E yX11_lets (.code yX11_lets cX11_lets 5 (some .int)) ({ frames := 3, cells := 0, slots := 0, locals := 69 }) A (cw E ad sc ar bl) [.ref (ad 0), .int x, .int y, .int z] (some (.int (if ok2 (inr x (nI 0) (nI 4)) (ok2 (inr y (nI 0) (nI 7)) (inr z (nI 0) (nI 400))) = true then (if fstL (lok (ar 31) (ar 32) (ar 33) (ar 34) (ar 35) (ar 36) x y z) nL = (-1) then (-1000000005) else fstL (lok (ar 31) (ar 32) (ar 33) (ar 34) (ar 35) (ar 36) x y z) nL) else (-1000000001)))) (cw E ad sc ar bl) := by
  refine Ct.of (lv := [(0, .ref (ad 0)), (1, .int x), (2, .int y), (3, .int z)]) (by decide +kernel) (Nat.le_of_ble_eq_true rfl) rfl ?_
  intro zp ze zs zm za zb zh zc hc
  refine g_iload_n (pc := 0) hc 1 dX11_lets_0 rfl rfl ?_
  refine g_callSi (pc := 1) (rest := []) (As := [.int x]) hc (c_X11_isWalker l E ad hA sc ar bl x) mi_X11_isWalker tw_358 rfl ⟨rfl, rfl, by decide, by decide⟩ (Nat.le_of_ble_eq_true rfl) ⟨Nat.le_refl _, Nat.le_refl _⟩ rfl dX11_lets_1 ?_
  refine g_if_eq_b (pc := 4) hc 28 dX11_lets_4 (by decide) (fun c1 => ?_) (fun c1 => ?_)
  · refine g_ldc (pc := 28) (v := (-1000000001)) hc tw_308 dX11_lets_28 ?_
    exact g_iret (pc := 30) hc dX11_lets_30 (by rw [if_neg (ne_true_of_eq_false (ok2_f1 c1))]) (rfl)
  · refine g_iload_n (pc := 7) hc 2 dX11_lets_7 rfl rfl ?_
    refine g_iconst (pc := 8) (v := nI 0) hc dX11_lets_8 (by decide) ?_
    refine g_bipush (pc := 9) (v := nI 7) hc dX11_lets_9 (by decide) ?_
    refine g_callSi (pc := 11) (rest := []) (As := [.int y, .int (nI 0), .int (nI 7)]) hc (c_X11_within l E ad hA sc ar bl y (nI 0) (nI 7)) mi_X11_within tw_305 rfl ⟨rfl, rfl, by decide, by decide⟩ (Nat.le_of_ble_eq_true rfl) ⟨Nat.le_refl _, Nat.le_refl _⟩ rfl dX11_lets_11 ?_
    refine g_if_eq_b (pc := 14) hc 28 dX11_lets_14 (by decide) (fun c2 => ?_) (fun c2 => ?_)
    · refine g_ldc (pc := 28) (v := (-1000000001)) hc tw_308 dX11_lets_28 ?_
      exact g_iret (pc := 30) hc dX11_lets_30 (by rw [if_neg (ne_true_of_eq_false (ok2_f2 c1 (ok2_f1 c2)))]) (rfl)
    · refine g_iload_n (pc := 17) hc 3 dX11_lets_17 rfl rfl ?_
      refine g_iconst (pc := 18) (v := nI 0) hc dX11_lets_18 (by decide) ?_
      refine g_sipush (pc := 19) (v := nI 400) hc dX11_lets_19 (by decide) ?_
      refine g_callSi (pc := 22) (rest := []) (As := [.int z, .int (nI 0), .int (nI 400)]) hc (c_X11_within l E ad hA sc ar bl z (nI 0) (nI 400)) mi_X11_within tw_305 rfl ⟨rfl, rfl, by decide, by decide⟩ (Nat.le_of_ble_eq_true rfl) ⟨Nat.le_refl _, Nat.le_refl _⟩ rfl dX11_lets_22 ?_
      refine g_if_ne_b (pc := 25) hc 31 dX11_lets_25 (by decide) (fun c3 => ?_) (fun c3 => ?_)
      · refine g_aload_n (pc := 31) hc 0 dX11_lets_31 rfl rfl ?_
        refine gf_c0_leaves (pc := 32) hc tw_264 dX11_lets_32 ?_
        refine g_iload_n (pc := 35) hc 1 dX11_lets_35 rfl rfl ?_
        refine g_iload_n (pc := 36) hc 2 dX11_lets_36 rfl rfl ?_
        refine g_iload_n (pc := 37) hc 3 dX11_lets_37 rfl rfl ?_
        refine g_callVi (pc := 38) (rest := []) (As := [.int x, .int y, .int z]) hc (c_X5_firstLetting l E ad hA sc ar bl x y z (hL) (hL12)) mi_X5_firstLetting tw_369 10 rfl rfl rfl rfl ⟨rfl, rfl, by decide, by decide⟩ (Nat.le_of_ble_eq_true rfl) ⟨Nat.le_refl _, Nat.le_refl _⟩ rfl dX11_lets_38 ?_
        refine g_istore (pc := 41) (lv' := [(0, .ref (ad 0)), (1, .int x), (2, .int y), (3, .int z), (4, .int (fstL (lok (ar 31) (ar 32) (ar 33) (ar 34) (ar 35) (ar 36) x y z) nL))]) hc dX11_lets_41 (by decide) rfl ?_
        refine g_iload (pc := 43) hc 4 dX11_lets_43 rfl ?_
        refine g_iconst (pc := 45) (v := (-1)) hc dX11_lets_45 (by decide) ?_
        refine g_icmp_ne (pc := 46) hc 54 dX11_lets_46 (by decide) (fun c4 => ?_) (fun c4 => ?_)
        · refine g_iload (pc := 54) hc 4 dX11_lets_54 rfl ?_
          exact g_iret (pc := 56) hc dX11_lets_56 (by rw [if_pos (ok2_t c1 (ok2_t c2 c3))]; (repeat (first | rw [if_pos c4] | rw [if_neg c4] | rw [if_neg (ne_true_of_eq_false c4)]))) (rfl)
        · refine g_ldc (pc := 49) (v := (-1000000005)) hc tw_499 dX11_lets_49 ?_
          refine g_goto (pc := 51) hc 56 dX11_lets_51 (by decide) ?_
          exact g_iret (pc := 56) hc dX11_lets_56 (by rw [if_pos (ok2_t c1 (ok2_t c2 c3))]; (repeat (first | rw [if_pos c4] | rw [if_neg c4] | rw [if_neg (ne_true_of_eq_false c4)]))) (rfl)
      · refine g_ldc (pc := 28) (v := (-1000000001)) hc tw_308 dX11_lets_28 ?_
        exact g_iret (pc := 30) hc dX11_lets_30 (by rw [if_neg (ne_true_of_eq_false (ok2_f2 c1 (ok2_f2 c2 c3)))]) (rfl)

theorem dX11_days_0 : decode cX11_days 0 = .ok (.iload_n 1, 1) := by decide +kernel
theorem dX11_days_1 : decode cX11_days 1 = .ok (.iconst 1, 1) := by decide +kernel
theorem dX11_days_2 : decode cX11_days 2 = .ok (.bipush 60, 2) := by decide +kernel
theorem dX11_days_4 : decode cX11_days 4 = .ok (.invokestatic 105, 3) := by decide +kernel
theorem dX11_days_7 : decode cX11_days 7 = .ok (.ifCond .eq 15, 3) := by decide +kernel
theorem dX11_days_10 : decode cX11_days 10 = .ok (.aload_n 0, 1) := by decide +kernel
theorem dX11_days_11 : decode cX11_days 11 = .ok (.getfield 68, 3) := by decide +kernel
theorem dX11_days_14 : decode cX11_days 14 = .ok (.iload_n 1, 1) := by decide +kernel
theorem dX11_days_15 : decode cX11_days 15 = .ok (.iadd, 1) := by decide +kernel
theorem dX11_days_16 : decode cX11_days 16 = .ok (.sipush 400, 3) := by decide +kernel
theorem dX11_days_19 : decode cX11_days 19 = .ok (.if_icmp .le 6, 3) := by decide +kernel
theorem dX11_days_22 : decode cX11_days 22 = .ok (.ldc 109, 2) := by decide +kernel
theorem dX11_days_24 : decode cX11_days 24 = .ok (.ireturn, 1) := by decide +kernel
theorem dX11_days_25 : decode cX11_days 25 = .ok (.aload_n 0, 1) := by decide +kernel
theorem dX11_days_26 : decode cX11_days 26 = .ok (.dup, 1) := by decide +kernel
theorem dX11_days_27 : decode cX11_days 27 = .ok (.getfield 68, 3) := by decide +kernel
theorem dX11_days_30 : decode cX11_days 30 = .ok (.iload_n 1, 1) := by decide +kernel
theorem dX11_days_31 : decode cX11_days 31 = .ok (.iadd, 1) := by decide +kernel
theorem dX11_days_32 : decode cX11_days 32 = .ok (.putfield 68, 3) := by decide +kernel
theorem dX11_days_35 : decode cX11_days 35 = .ok (.aload_n 0, 1) := by decide +kernel
theorem dX11_days_36 : decode cX11_days 36 = .ok (.getfield 68, 3) := by decide +kernel
theorem dX11_days_39 : decode cX11_days 39 = .ok (.ireturn, 1) := by decide +kernel

set_option maxHeartbeats 4000000 in
set_option maxRecDepth 100000 in
theorem c_X11_days (l : Launch) (E : Ev) {A : Nat → Prop} (ad : Nat → Nat) (hA : Oka 39 ad A) (sc : Nat → Int32) (ar : Nat → Nat → Int32) (bl : Int64)  (x : Int32)  : Ct l E yX11_days (.code yX11_days cX11_days 2 (some .int)) ({ frames := 1, cells := 0, slots := 0, locals := 22 }) A (cw E ad sc ar bl) [.ref (ad 0), .int x] (some (.int (if ok2 (inr x (nI 1) (nI 60)) (decide (sc 0 + x ≤ nI 400)) = true then sc 0 + x else (-1000000001)))) (if ok2 (inr x (nI 1) (nI 60)) (decide (sc 0 + x ≤ nI 400)) = true then cw E ad (va_up sc 0 (sc 0 + x)) ar bl else cw E ad sc ar bl) := by
  refine Ct.of (lv := [(0, .ref (ad 0)), (1, .int x)]) (by decide +kernel) (Nat.le_of_ble_eq_true rfl) rfl ?_
  intro zp ze zs zm za zb zh zc hc
  refine g_iload_n (pc := 0) hc 1 dX11_days_0 rfl rfl ?_
  refine g_iconst (pc := 1) (v := nI 1) hc dX11_days_1 (by decide) ?_
  refine g_bipush (pc := 2) (v := nI 60) hc dX11_days_2 (by decide) ?_
  refine g_callSi (pc := 4) (rest := []) (As := [.int x, .int (nI 1), .int (nI 60)]) hc (c_X11_within l E ad hA sc ar bl x (nI 1) (nI 60)) mi_X11_within tw_305 rfl ⟨rfl, rfl, by decide, by decide⟩ (Nat.le_of_ble_eq_true rfl) ⟨Nat.le_refl _, Nat.le_refl _⟩ rfl dX11_days_4 ?_
  refine g_if_eq_b (pc := 7) hc 22 dX11_days_7 (by decide) (fun c1 => ?_) (fun c1 => ?_)
  · refine g_ldc (pc := 22) (v := (-1000000001)) hc tw_308 dX11_days_22 ?_
    exact g_iret (pc := 24) hc dX11_days_24 (by rw [if_neg (ne_true_of_eq_false (ok2_f1 c1))]) (by rw [if_neg (ne_true_of_eq_false (ok2_f1 c1))])
  · refine g_aload_n (pc := 10) hc 0 dX11_days_10 rfl rfl ?_
    refine gf_c0_today (pc := 11) hc tw_267 dX11_days_11 ?_
    refine g_iload_n (pc := 14) hc 1 dX11_days_14 rfl rfl ?_
    refine g_iadd (pc := 15) hc dX11_days_15 ?_
    refine g_sipush (pc := 16) (v := nI 400) hc dX11_days_16 (by decide) ?_
    refine g_icmp_le (pc := 19) hc 25 dX11_days_19 (by decide) (fun c2 => ?_) (fun c2 => ?_)
    · refine g_aload_n (pc := 25) hc 0 dX11_days_25 rfl rfl ?_
      refine g_dup (pc := 26) hc dX11_days_26 rfl ?_
      refine gf_c0_today (pc := 27) hc tw_267 dX11_days_27 ?_
      refine g_iload_n (pc := 30) hc 1 dX11_days_30 rfl rfl ?_
      refine g_iadd (pc := 31) hc dX11_days_31 ?_
      refine pf_c0_today (pc := 32) hc hA tw_267 dX11_days_32 ?_
      refine g_aload_n (pc := 35) hc 0 dX11_days_35 rfl rfl ?_
      refine gf_c0_today (pc := 36) hc tw_267 dX11_days_36 ?_
      refine g_topi (v := (sc 0) + x) rfl ?_
      exact g_iret (pc := 39) hc dX11_days_39 (by rw [if_pos (ok2_t c1 (decide_eq_true c2))]) (by rw [if_pos (ok2_t c1 (decide_eq_true c2))])
    · refine g_ldc (pc := 22) (v := (-1000000001)) hc tw_308 dX11_days_22 ?_
      exact g_iret (pc := 24) hc dX11_days_24 (by rw [if_neg (ne_true_of_eq_false (ok2_f2 c1 (decide_eq_false c2)))]) (by rw [if_neg (ne_true_of_eq_false (ok2_f2 c1 (decide_eq_false c2)))])

theorem dX11_many_0 : decode cX11_many 0 = .ok (.iload_n 1, 1) := by decide +kernel
theorem dX11_many_1 : decode cX11_many 1 = .ok (.tableswitch 105 0 7 #[47, 55, 63, 71, 76, 84, 89, 97], 47) := by decide +kernel
theorem dX11_many_48 : decode cX11_many 48 = .ok (.aload_n 0, 1) := by decide +kernel
theorem dX11_many_49 : decode cX11_many 49 = .ok (.getfield 10, 3) := by decide +kernel
theorem dX11_many_52 : decode cX11_many 52 = .ok (.invokevirtual 118, 3) := by decide +kernel
theorem dX11_many_55 : decode cX11_many 55 = .ok (.ireturn, 1) := by decide +kernel
theorem dX11_many_56 : decode cX11_many 56 = .ok (.aload_n 0, 1) := by decide +kernel
theorem dX11_many_57 : decode cX11_many 57 = .ok (.getfield 26, 3) := by decide +kernel
theorem dX11_many_60 : decode cX11_many 60 = .ok (.invokevirtual 334, 3) := by decide +kernel
theorem dX11_many_63 : decode cX11_many 63 = .ok (.ireturn, 1) := by decide +kernel
theorem dX11_many_64 : decode cX11_many 64 = .ok (.aload_n 0, 1) := by decide +kernel
theorem dX11_many_65 : decode cX11_many 65 = .ok (.getfield 33, 3) := by decide +kernel
theorem dX11_many_68 : decode cX11_many 68 = .ok (.invokevirtual 337, 3) := by decide +kernel
theorem dX11_many_71 : decode cX11_many 71 = .ok (.ireturn, 1) := by decide +kernel
theorem dX11_many_72 : decode cX11_many 72 = .ok (.aload_n 0, 1) := by decide +kernel
theorem dX11_many_73 : decode cX11_many 73 = .ok (.invokevirtual 338, 3) := by decide +kernel
theorem dX11_many_76 : decode cX11_many 76 = .ok (.ireturn, 1) := by decide +kernel
theorem dX11_many_77 : decode cX11_many 77 = .ok (.aload_n 0, 1) := by decide +kernel
theorem dX11_many_78 : decode cX11_many 78 = .ok (.getfield 54, 3) := by decide +kernel
theorem dX11_many_81 : decode cX11_many 81 = .ok (.invokevirtual 341, 3) := by decide +kernel
theorem dX11_many_84 : decode cX11_many 84 = .ok (.ireturn, 1) := by decide +kernel
theorem dX11_many_85 : decode cX11_many 85 = .ok (.aload_n 0, 1) := by decide +kernel
theorem dX11_many_86 : decode cX11_many 86 = .ok (.getfield 68, 3) := by decide +kernel
theorem dX11_many_89 : decode cX11_many 89 = .ok (.ireturn, 1) := by decide +kernel
theorem dX11_many_90 : decode cX11_many 90 = .ok (.aload_n 0, 1) := by decide +kernel
theorem dX11_many_91 : decode cX11_many 91 = .ok (.getfield 47, 3) := by decide +kernel
theorem dX11_many_94 : decode cX11_many 94 = .ok (.invokevirtual 289, 3) := by decide +kernel
theorem dX11_many_97 : decode cX11_many 97 = .ok (.ireturn, 1) := by decide +kernel
theorem dX11_many_98 : decode cX11_many 98 = .ok (.aload_n 0, 1) := by decide +kernel
theorem dX11_many_99 : decode cX11_many 99 = .ok (.getfield 10, 3) := by decide +kernel
theorem dX11_many_102 : decode cX11_many 102 = .ok (.invokevirtual 344, 3) := by decide +kernel
theorem dX11_many_105 : decode cX11_many 105 = .ok (.ireturn, 1) := by decide +kernel
theorem dX11_many_106 : decode cX11_many 106 = .ok (.ldc 109, 2) := by decide +kernel
theorem dX11_many_108 : decode cX11_many 108 = .ok (.ireturn, 1) := by decide +kernel

set_option maxHeartbeats 4000000 in
set_option maxRecDepth 100000 in
theorem c_X11_many (l : Launch) (E : Ev) {A : Nat → Prop} (ad : Nat → Nat) (hA : Oka 39 ad A) (sc : Nat → Int32) (ar : Nat → Nat → Int32) (bl : Int64) {nW wd hg nL : Nat} (x : Int32) (hW : sc 5 = nI nW) (hW60 : nW ≤ 60) (hwd : sc 3 = nI wd) (hwd1 : 2 ≤ wd) (hwd2 : wd ≤ 8) (hhg : sc 4 = nI hg) (hhg1 : 2 ≤ hg) (hhg2 : hg ≤ 8) (hL : sc 16 = nI nL) (hL12 : nL ≤ 12) : Ct l E yX11_many (.code yX11_many cX11_many 2 (some .int)) ({ frames := 5, cells := 0, slots := 0, locals := 112 }) A (cw E ad sc ar bl) [.ref (ad 0), .int x] (some (.int (if x = nI 0 then nI (wd * hg) else (if x = nI 1 then sc 5 else (if x = nI 2 then sc 6 else (if x = nI 3 then gps nW (ar 17) (ar 19) hg else (if x = nI 4 then stg (ar 36) nL else (if x = nI 5 then sc 0 else (if x = nI 6 then sc 7 else (if x = nI 7 then bct bl else ((-1000000001)))))))))))) (cw E ad sc ar bl) := by
  refine Ct.of (lv := [(0, .ref (ad 0)), (1, .int x)]) (by decide +kernel) (Nat.le_of_ble_eq_true rfl) rfl ?_
  intro zp ze zs zm za zb zh zc hc
  refine g_iload_n (pc := 0) hc 1 dX11_many_0 rfl rfl ?_
  by_cases c1 : x = nI 0
  · refine g_tableIn (pc := 1) hc 48 dX11_many_1 (by rw [c1]; decide) (by rw [c1]; decide) (off := 47) (by rw [c1]; rfl) (by decide) ?_
    refine g_aload_n (pc := 48) hc 0 dX11_many_48 rfl rfl ?_
    refine gf_c0_ground (pc := 49) hc tw_255 dX11_many_49 ?_
    refine g_callVi (pc := 52) (rest := []) (As := []) hc (c_X2_paces l E ad hA sc ar bl  (hwd) (hwd1) (hwd2) (hhg) (hhg1) (hhg2)) mi_X2_paces tw_324 1 rfl rfl rfl rfl ⟨rfl, rfl, by decide, by decide⟩ (Nat.le_of_ble_eq_true rfl) ⟨Nat.le_refl _, Nat.le_refl _⟩ rfl dX11_many_52 ?_
    exact g_iret (pc := 55) hc dX11_many_55 (by (repeat (first | rw [if_pos c1] | rw [if_neg c1] | rw [if_neg (ne_true_of_eq_false c1)]))) (rfl)
  by_cases c2 : x = nI 1
  · refine g_tableIn (pc := 1) hc 56 dX11_many_1 (by rw [c2]; decide) (by rw [c2]; decide) (off := 55) (by rw [c2]; rfl) (by decide) ?_
    refine g_aload_n (pc := 56) hc 0 dX11_many_56 rfl rfl ?_
    refine gf_c0_walks (pc := 57) hc tw_257 dX11_many_57 ?_
    refine g_callVi (pc := 60) (rest := []) (As := []) hc (c_X10_number l E ad hA sc ar bl) mi_X10_number tw_971 3 rfl rfl rfl rfl ⟨rfl, rfl, by decide, by decide⟩ (Nat.le_of_ble_eq_true rfl) ⟨Nat.le_refl _, Nat.le_refl _⟩ rfl dX11_many_60 ?_
    exact g_iret (pc := 63) hc dX11_many_63 (by (repeat (first | rw [if_pos c1] | rw [if_neg c1] | rw [if_neg (ne_true_of_eq_false c1)] | rw [if_pos c2] | rw [if_neg c2] | rw [if_neg (ne_true_of_eq_false c2)]))) (rfl)
  by_cases c3 : x = nI 2
  · refine g_tableIn (pc := 1) hc 64 dX11_many_1 (by rw [c3]; decide) (by rw [c3]; decide) (off := 63) (by rw [c3]; rfl) (by decide) ?_
    refine g_aload_n (pc := 64) hc 0 dX11_many_64 rfl rfl ?_
    refine gf_c0_finds (pc := 65) hc tw_258 dX11_many_65 ?_
    refine g_callVi (pc := 68) (rest := []) (As := []) hc (c_X1_number l E ad hA sc ar bl) mi_X1_number tw_972 4 rfl rfl rfl rfl ⟨rfl, rfl, by decide, by decide⟩ (Nat.le_of_ble_eq_true rfl) ⟨Nat.le_refl _, Nat.le_refl _⟩ rfl dX11_many_68 ?_
    exact g_iret (pc := 71) hc dX11_many_71 (by (repeat (first | rw [if_pos c1] | rw [if_neg c1] | rw [if_neg (ne_true_of_eq_false c1)] | rw [if_pos c2] | rw [if_neg c2] | rw [if_neg (ne_true_of_eq_false c2)] | rw [if_pos c3] | rw [if_neg c3] | rw [if_neg (ne_true_of_eq_false c3)]))) (rfl)
  by_cases c4 : x = nI 3
  · refine g_tableIn (pc := 1) hc 72 dX11_many_1 (by rw [c4]; decide) (by rw [c4]; decide) (off := 71) (by rw [c4]; rfl) (by decide) ?_
    refine g_aload_n (pc := 72) hc 0 dX11_many_72 rfl rfl ?_
    refine g_callVi (pc := 73) (rest := []) (As := []) hc (c_X11_gaps l E ad hA sc ar bl  (hW) (hW60) (hwd) (hwd1) (hwd2) (hhg) (hhg1) (hhg2)) mi_X11_gaps tw_976 0 rfl rfl rfl rfl ⟨rfl, rfl, by decide, by decide⟩ (Nat.le_of_ble_eq_true rfl) ⟨Nat.le_refl _, Nat.le_refl _⟩ rfl dX11_many_73 ?_
    exact g_iret (pc := 76) hc dX11_many_76 (by (repeat (first | rw [if_pos c1] | rw [if_neg c1] | rw [if_neg (ne_true_of_eq_false c1)] | rw [if_pos c2] | rw [if_neg c2] | rw [if_neg (ne_true_of_eq_false c2)] | rw [if_pos c3] | rw [if_neg c3] | rw [if_neg (ne_true_of_eq_false c3)] | rw [if_pos c4] | rw [if_neg c4] | rw [if_neg (ne_true_of_eq_false c4)]))) (rfl)
  by_cases c5 : x = nI 4
  · refine g_tableIn (pc := 1) hc 77 dX11_many_1 (by rw [c5]; decide) (by rw [c5]; decide) (off := 76) (by rw [c5]; rfl) (by decide) ?_
    refine g_aload_n (pc := 77) hc 0 dX11_many_77 rfl rfl ?_
    refine gf_c0_leaves (pc := 78) hc tw_264 dX11_many_78 ?_
    refine g_callVi (pc := 81) (rest := []) (As := []) hc (c_X5_standing l E ad hA sc ar bl  (hL) (hL12)) mi_X5_standing tw_980 10 rfl rfl rfl rfl ⟨rfl, rfl, by decide, by decide⟩ (Nat.le_of_ble_eq_true rfl) ⟨Nat.le_refl _, Nat.le_refl _⟩ rfl dX11_many_81 ?_
    exact g_iret (pc := 84) hc dX11_many_84 (by (repeat (first | rw [if_pos c1] | rw [if_neg c1] | rw [if_neg (ne_true_of_eq_false c1)] | rw [if_pos c2] | rw [if_neg c2] | rw [if_neg (ne_true_of_eq_false c2)] | rw [if_pos c3] | rw [if_neg c3] | rw [if_neg (ne_true_of_eq_false c3)] | rw [if_pos c4] | rw [if_neg c4] | rw [if_neg (ne_true_of_eq_false c4)] | rw [if_pos c5] | rw [if_neg c5] | rw [if_neg (ne_true_of_eq_false c5)]))) (rfl)
  by_cases c6 : x = nI 5
  · refine g_tableIn (pc := 1) hc 85 dX11_many_1 (by rw [c6]; decide) (by rw [c6]; decide) (off := 84) (by rw [c6]; rfl) (by decide) ?_
    refine g_aload_n (pc := 85) hc 0 dX11_many_85 rfl rfl ?_
    refine gf_c0_today (pc := 86) hc tw_267 dX11_many_86 ?_
    exact g_iret (pc := 89) hc dX11_many_89 (by (repeat (first | rw [if_pos c1] | rw [if_neg c1] | rw [if_neg (ne_true_of_eq_false c1)] | rw [if_pos c2] | rw [if_neg c2] | rw [if_neg (ne_true_of_eq_false c2)] | rw [if_pos c3] | rw [if_neg c3] | rw [if_neg (ne_true_of_eq_false c3)] | rw [if_pos c4] | rw [if_neg c4] | rw [if_neg (ne_true_of_eq_false c4)] | rw [if_pos c5] | rw [if_neg c5] | rw [if_neg (ne_true_of_eq_false c5)] | rw [if_pos c6] | rw [if_neg c6] | rw [if_neg (ne_true_of_eq_false c6)]))) (rfl)
  by_cases c7 : x = nI 6
  · refine g_tableIn (pc := 1) hc 90 dX11_many_1 (by rw [c7]; decide) (by rw [c7]; decide) (off := 89) (by rw [c7]; rfl) (by decide) ?_
    refine g_aload_n (pc := 90) hc 0 dX11_many_90 rfl rfl ?_
    refine gf_c0_tape (pc := 91) hc tw_262 dX11_many_91 ?_
    refine g_callVi (pc := 94) (rest := []) (As := []) hc (c_X9_length l E ad hA sc ar bl) mi_X9_length tw_742 8 rfl rfl rfl rfl ⟨rfl, rfl, by decide, by decide⟩ (Nat.le_of_ble_eq_true rfl) ⟨Nat.le_refl _, Nat.le_refl _⟩ rfl dX11_many_94 ?_
    exact g_iret (pc := 97) hc dX11_many_97 (by (repeat (first | rw [if_pos c1] | rw [if_neg c1] | rw [if_neg (ne_true_of_eq_false c1)] | rw [if_pos c2] | rw [if_neg c2] | rw [if_neg (ne_true_of_eq_false c2)] | rw [if_pos c3] | rw [if_neg c3] | rw [if_neg (ne_true_of_eq_false c3)] | rw [if_pos c4] | rw [if_neg c4] | rw [if_neg (ne_true_of_eq_false c4)] | rw [if_pos c5] | rw [if_neg c5] | rw [if_neg (ne_true_of_eq_false c5)] | rw [if_pos c6] | rw [if_neg c6] | rw [if_neg (ne_true_of_eq_false c6)] | rw [if_pos c7] | rw [if_neg c7] | rw [if_neg (ne_true_of_eq_false c7)]))) (rfl)
  by_cases c8 : x = nI 7
  · refine g_tableIn (pc := 1) hc 98 dX11_many_1 (by rw [c8]; decide) (by rw [c8]; decide) (off := 97) (by rw [c8]; rfl) (by decide) ?_
    refine g_aload_n (pc := 98) hc 0 dX11_many_98 rfl rfl ?_
    refine gf_c0_ground (pc := 99) hc tw_255 dX11_many_99 ?_
    refine g_callVi (pc := 102) (rest := []) (As := []) hc (c_X2_barrenPaces l E ad hA sc ar bl) mi_X2_barrenPaces tw_985 1 rfl rfl rfl rfl ⟨rfl, rfl, by decide, by decide⟩ (Nat.le_of_ble_eq_true rfl) ⟨Nat.le_refl _, Nat.le_refl _⟩ rfl dX11_many_102 ?_
    exact g_iret (pc := 105) hc dX11_many_105 (by (repeat (first | rw [if_pos c1] | rw [if_neg c1] | rw [if_neg (ne_true_of_eq_false c1)] | rw [if_pos c2] | rw [if_neg c2] | rw [if_neg (ne_true_of_eq_false c2)] | rw [if_pos c3] | rw [if_neg c3] | rw [if_neg (ne_true_of_eq_false c3)] | rw [if_pos c4] | rw [if_neg c4] | rw [if_neg (ne_true_of_eq_false c4)] | rw [if_pos c5] | rw [if_neg c5] | rw [if_neg (ne_true_of_eq_false c5)] | rw [if_pos c6] | rw [if_neg c6] | rw [if_neg (ne_true_of_eq_false c6)] | rw [if_pos c7] | rw [if_neg c7] | rw [if_neg (ne_true_of_eq_false c7)] | rw [if_pos c8] | rw [if_neg c8] | rw [if_neg (ne_true_of_eq_false c8)]))) (rfl)
  refine g_tableOut (pc := 1) hc 106 dX11_many_1 (tsw_out8 c1 c2 c3 c4 c5 c6 c7 c8) (by decide) ?_
  refine g_ldc (pc := 106) (v := (-1000000001)) hc tw_308 dX11_many_106 ?_
  exact g_iret (pc := 108) hc dX11_many_108 (by (repeat (first | rw [if_pos c1] | rw [if_neg c1] | rw [if_neg (ne_true_of_eq_false c1)] | rw [if_pos c2] | rw [if_neg c2] | rw [if_neg (ne_true_of_eq_false c2)] | rw [if_pos c3] | rw [if_neg c3] | rw [if_neg (ne_true_of_eq_false c3)] | rw [if_pos c4] | rw [if_neg c4] | rw [if_neg (ne_true_of_eq_false c4)] | rw [if_pos c5] | rw [if_neg c5] | rw [if_neg (ne_true_of_eq_false c5)] | rw [if_pos c6] | rw [if_neg c6] | rw [if_neg (ne_true_of_eq_false c6)] | rw [if_pos c7] | rw [if_neg c7] | rw [if_neg (ne_true_of_eq_false c7)] | rw [if_pos c8] | rw [if_neg c8] | rw [if_neg (ne_true_of_eq_false c8)]))) (rfl)
