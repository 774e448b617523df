theorem dX11_spade_0 : decode cX11_spade 0 = .ok (.aload_n 0, 1) := by decide +kernel
theorem dX11_spade_1 : decode cX11_spade 1 = .ok (.getfield 10, 3) := by decide +kernel
theorem dX11_spade_4 : decode cX11_spade 4 = .ok (.iload_n 1, 1) := by decide +kernel
theorem dX11_spade_5 : decode cX11_spade 5 = .ok (.invokevirtual 166, 3) := by decide +kernel
theorem dX11_spade_8 : decode cX11_spade 8 = .ok (.ifCond .eq 12, 3) := by decide +kernel
theorem dX11_spade_11 : decode cX11_spade 11 = .ok (.iload_n 2, 1) := by decide +kernel
theorem dX11_spade_12 : decode cX11_spade 12 = .ok (.iconst 0, 1) := by decide +kernel
theorem dX11_spade_13 : decode cX11_spade 13 = .ok (.iconst 1, 1) := by decide +kernel
theorem dX11_spade_14 : decode cX11_spade 14 = .ok (.invokestatic 105, 3) := by decide +kernel
theorem dX11_spade_17 : decode cX11_spade 17 = .ok (.ifCond .ne 6, 3) := by decide +kernel
theorem dX11_spade_20 : decode cX11_spade 20 = .ok (.ldc 109, 2) := by decide +kernel
theorem dX11_spade_22 : decode cX11_spade 22 = .ok (.ireturn, 1) := by decide +kernel
theorem dX11_spade_23 : decode cX11_spade 23 = .ok (.aload_n 0, 1) := by decide +kernel
theorem dX11_spade_24 : decode cX11_spade 24 = .ok (.getfield 10, 3) := by decide +kernel
theorem dX11_spade_27 : decode cX11_spade 27 = .ok (.iload_n 1, 1) := by decide +kernel
theorem dX11_spade_28 : decode cX11_spade 28 = .ok (.invokevirtual 254, 3) := by decide +kernel
theorem dX11_spade_31 : decode cX11_spade 31 = .ok (.ifCond .ne 7, 3) := by decide +kernel
theorem dX11_spade_34 : decode cX11_spade 34 = .ok (.iconst 1, 1) := by decide +kernel
theorem dX11_spade_35 : decode cX11_spade 35 = .ok (.goto 4, 3) := by decide +kernel
theorem dX11_spade_38 : decode cX11_spade 38 = .ok (.iconst 0, 1) := by decide +kernel
theorem dX11_spade_39 : decode cX11_spade 39 = .ok (.invokestatic 137, 3) := by decide +kernel
theorem dX11_spade_42 : decode cX11_spade 42 = .ok (.istore_n 3, 1) := by decide +kernel
theorem dX11_spade_43 : decode cX11_spade 43 = .ok (.aload_n 0, 1) := by decide +kernel
theorem dX11_spade_44 : decode cX11_spade 44 = .ok (.getfield 10, 3) := by decide +kernel
theorem dX11_spade_47 : decode cX11_spade 47 = .ok (.iload_n 1, 1) := by decide +kernel
theorem dX11_spade_48 : decode cX11_spade 48 = .ok (.iload_n 2, 1) := by decide +kernel
theorem dX11_spade_49 : decode cX11_spade 49 = .ok (.ifCond .ne 7, 3) := by decide +kernel
theorem dX11_spade_52 : decode cX11_spade 52 = .ok (.iconst 1, 1) := by decide +kernel
theorem dX11_spade_53 : decode cX11_spade 53 = .ok (.goto 4, 3) := by decide +kernel
theorem dX11_spade_56 : decode cX11_spade 56 = .ok (.iconst 0, 1) := by decide +kernel
theorem dX11_spade_57 : decode cX11_spade 57 = .ok (.invokevirtual 257, 3) := by decide +kernel
theorem dX11_spade_60 : decode cX11_spade 60 = .ok (.iload_n 3, 1) := by decide +kernel
theorem dX11_spade_61 : decode cX11_spade 61 = .ok (.ireturn, 1) := by decide +kernel

set_option maxHeartbeats 4000000 in
set_option maxRecDepth 100000 in
theorem c_X11_spade (l : Launch) (E : Ev) {A : Nat → Prop} (ad : Nat → Nat) (hA : Oka 39 ad A) (sc : Nat → Int32) (ar : Nat → Nat → Int32) (bl : Int64) {wd hg : Nat} (x : Int32) (y : Int32) (hwd : sc 3 = nI wd) (hwd1 : 2 ≤ wd) (hwd2 : wd ≤ 8) (hhg : sc 4 = nI hg) (hhg1 : 2 ≤ hg) (hhg2 : hg ≤ 8) : Ct l E yX11_spade (.code yX11_spade cX11_spade 4 (some .int)) ({ frames := 2, cells := 0, slots := 0, locals := 41 }) A (cw E ad sc ar bl) [.ref (ad 0), .int x, .int y] (some (.int (if ok2 (inx x (nI (wd * hg))) (inr y (nI 0) (nI 1)) = true then bI (!brb bl x) else (-1000000001)))) (if ok2 (inx x (nI (wd * hg))) (inr y (nI 0) (nI 1)) = true then cw E ad sc ar (dgb bl x (bI (decide (y = 0)))) else cw E ad sc ar bl) := by
  have hm := prod64 hwd2 hhg2
  refine Ct.of (lv := [(0, .ref (ad 0)), (1, .int x), (2, .int y)]) (by decide +kernel) (Nat.le_of_ble_eq_true rfl) rfl ?_
  intro zp ze zs zm za zb zh zc hc
  refine g_aload_n (pc := 0) hc 0 dX11_spade_0 rfl rfl ?_
  refine gf_c0_ground (pc := 1) hc tw_255 dX11_spade_1 ?_
  refine g_iload_n (pc := 4) hc 1 dX11_spade_4 rfl rfl ?_
  refine g_callVi (pc := 5) (rest := []) (As := [.int x]) hc (c_X2_hasPace l E ad hA sc ar bl x (hwd) (hwd1) (hwd2) (hhg) (hhg1) (hhg2)) mi_X2_hasPace tw_396 1 rfl rfl rfl rfl ⟨rfl, rfl, by decide, by decide⟩ (Nat.le_of_ble_eq_true rfl) ⟨Nat.le_refl _, Nat.le_refl _⟩ rfl dX11_spade_5 ?_
  refine g_if_eq_b (pc := 8) hc 20 dX11_spade_8 (by decide) (fun c1 => ?_) (fun c1 => ?_)
  · refine g_ldc (pc := 20) (v := (-1000000001)) hc tw_308 dX11_spade_20 ?_
    exact g_iret (pc := 22) hc dX11_spade_22 (by rw [if_neg (ne_true_of_eq_false (ok2_f1 c1))]) (by rw [if_neg (ne_true_of_eq_false (ok2_f1 c1))])
  · refine g_iload_n (pc := 11) hc 2 dX11_spade_11 rfl rfl ?_
    refine g_iconst (pc := 12) (v := nI 0) hc dX11_spade_12 (by decide) ?_
    refine g_iconst (pc := 13) (v := nI 1) hc dX11_spade_13 (by decide) ?_
    refine g_callSi (pc := 14) (rest := []) (As := [.int y, .int (nI 0), .int (nI 1)]) hc (c_X11_within l E ad hA sc ar bl y (nI 0) (nI 1)) mi_X11_within tw_305 rfl ⟨rfl, rfl, by decide, by decide⟩ (Nat.le_of_ble_eq_true rfl) ⟨Nat.le_refl _, Nat.le_refl _⟩ rfl dX11_spade_14 ?_
    refine g_if_ne_b (pc := 17) hc 23 dX11_spade_17 (by decide) (fun c2 => ?_) (fun c2 => ?_)
    · refine g_aload_n (pc := 23) hc 0 dX11_spade_23 rfl rfl ?_
      refine gf_c0_ground (pc := 24) hc tw_255 dX11_spade_24 ?_
      refine g_iload_n (pc := 27) hc 1 dX11_spade_27 rfl rfl ?_
      refine g_callVi (pc := 28) (rest := []) (As := [.int x]) hc (c_X2_isBarren l E ad hA sc ar bl x) mi_X2_isBarren tw_651 1 rfl rfl rfl rfl ⟨rfl, rfl, by decide, by decide⟩ (Nat.le_of_ble_eq_true rfl) ⟨Nat.le_refl _, Nat.le_refl _⟩ rfl dX11_spade_28 ?_
      refine g_if_ne_b (pc := 31) hc 38 dX11_spade_31 (by decide) (fun c3 => ?_) (fun c3 => ?_)
      · refine g_iconst (pc := 38) (v := nI 0) hc dX11_spade_38 (by decide) ?_
        refine g_callSi (pc := 39) (rest := []) (As := [.int (nI 0)]) hc (c_X11_toInt l E ad hA sc ar bl (nI 0)) mi_X11_toInt tw_351 rfl ⟨rfl, rfl, by decide, by decide⟩ (Nat.le_of_ble_eq_true rfl) ⟨Nat.le_refl _, Nat.le_refl _⟩ rfl dX11_spade_39 ?_
        refine g_topi (v := nI 0) (toI_0) ?_
        refine g_istore_n (pc := 42) (lv' := [(0, .ref (ad 0)), (1, .int x), (2, .int y), (3, .int (nI 0))]) hc dX11_spade_42 rfl (by decide) rfl ?_
        refine g_aload_n (pc := 43) hc 0 dX11_spade_43 rfl rfl ?_
        refine gf_c0_ground (pc := 44) hc tw_255 dX11_spade_44 ?_
        refine g_iload_n (pc := 47) hc 1 dX11_spade_47 rfl rfl ?_
        refine g_iload_n (pc := 48) hc 2 dX11_spade_48 rfl rfl ?_
        refine g_if_ne (pc := 49) hc 56 dX11_spade_49 (by decide) (fun c4 => ?_) (fun c4 => ?_)
        · refine g_iconst (pc := 56) (v := nI 0) hc dX11_spade_56 (by decide) ?_
          refine g_callVv (pc := 57) (rest := []) (As := [.int x, .int (nI 0)]) hc (c_X2_dig l E ad hA sc ar bl x (nI 0)) mi_X2_dig tw_652 1 rfl rfl rfl rfl ⟨rfl, rfl, by decide, by decide⟩ (Nat.le_of_ble_eq_true rfl) ⟨Nat.le_refl _, Nat.le_refl _⟩ rfl dX11_spade_57 ?_
          refine g_iload_n (pc := 60) hc 3 dX11_spade_60 rfl rfl ?_
          exact g_iret (pc := 61) hc dX11_spade_61 (by rw [if_pos (ok2_t c1 c2), c3]; rfl) (by rw [if_pos (ok2_t c1 c2)]; first | (rw [decide_eq_true c4]; rfl) | (rw [decide_eq_false c4]; rfl))
        · refine g_iconst (pc := 52) (v := nI 1) hc dX11_spade_52 (by decide) ?_
          refine g_goto (pc := 53) hc 57 dX11_spade_53 (by decide) ?_
          refine g_callVv (pc := 57) (rest := []) (As := [.int x, .int (nI 1)]) hc (c_X2_dig l E ad hA sc ar bl x (nI 1)) mi_X2_dig tw_652 1 rfl rfl rfl rfl ⟨rfl, rfl, by decide, by decide⟩ (Nat.le_of_ble_eq_true rfl) ⟨Nat.le_refl _, Nat.le_refl _⟩ rfl dX11_spade_57 ?_
          refine g_iload_n (pc := 60) hc 3 dX11_spade_60 rfl rfl ?_
          exact g_iret (pc := 61) hc dX11_spade_61 (by rw [if_pos (ok2_t c1 c2), c3]; rfl) (by rw [if_pos (ok2_t c1 c2)]; first | (rw [decide_eq_true c4]; rfl) | (rw [decide_eq_false c4]; rfl))
      · refine g_iconst (pc := 34) (v := nI 1) hc dX11_spade_34 (by decide) ?_
        refine g_goto (pc := 35) hc 39 dX11_spade_35 (by decide) ?_
        refine g_callSi (pc := 39) (rest := []) (As := [.int (nI 1)]) hc (c_X11_toInt l E ad hA sc ar bl (nI 1)) mi_X11_toInt tw_351 rfl ⟨rfl, rfl, by decide, by decide⟩ (Nat.le_of_ble_eq_true rfl) ⟨Nat.le_refl _, Nat.le_refl _⟩ rfl dX11_spade_39 ?_
        refine g_topi (v := nI 1) (toI_1) ?_
        refine g_istore_n (pc := 42) (lv' := [(0, .ref (ad 0)), (1, .int x), (2, .int y), (3, .int (nI 1))]) hc dX11_spade_42 rfl (by decide) rfl ?_
        refine g_aload_n (pc := 43) hc 0 dX11_spade_43 rfl rfl ?_
        refine gf_c0_ground (pc := 44) hc tw_255 dX11_spade_44 ?_
        refine g_iload_n (pc := 47) hc 1 dX11_spade_47 rfl rfl ?_
        refine g_iload_n (pc := 48) hc 2 dX11_spade_48 rfl rfl ?_
        refine g_if_ne (pc := 49) hc 56 dX11_spade_49 (by decide) (fun c5 => ?_) (fun c5 => ?_)
        · refine g_iconst (pc := 56) (v := nI 0) hc dX11_spade_56 (by decide) ?_
          refine g_callVv (pc := 57) (rest := []) (As := [.int x, .int (nI 0)]) hc (c_X2_dig l E ad hA sc ar bl x (nI 0)) mi_X2_dig tw_652 1 rfl rfl rfl rfl ⟨rfl, rfl, by decide, by decide⟩ (Nat.le_of_ble_eq_true rfl) ⟨Nat.le_refl _, Nat.le_refl _⟩ rfl dX11_spade_57 ?_
          refine g_iload_n (pc := 60) hc 3 dX11_spade_60 rfl rfl ?_
          exact g_iret (pc := 61) hc dX11_spade_61 (by rw [if_pos (ok2_t c1 c2), c3]; rfl) (by rw [if_pos (ok2_t c1 c2)]; first | (rw [decide_eq_true c5]; rfl) | (rw [decide_eq_false c5]; rfl))
        · refine g_iconst (pc := 52) (v := nI 1) hc dX11_spade_52 (by decide) ?_
          refine g_goto (pc := 53) hc 57 dX11_spade_53 (by decide) ?_
          refine g_callVv (pc := 57) (rest := []) (As := [.int x, .int (nI 1)]) hc (c_X2_dig l E ad hA sc ar bl x (nI 1)) mi_X2_dig tw_652 1 rfl rfl rfl rfl ⟨rfl, rfl, by decide, by decide⟩ (Nat.le_of_ble_eq_true rfl) ⟨Nat.le_refl _, Nat.le_refl _⟩ rfl dX11_spade_57 ?_
          refine g_iload_n (pc := 60) hc 3 dX11_spade_60 rfl rfl ?_
          exact g_iret (pc := 61) hc dX11_spade_61 (by rw [if_pos (ok2_t c1 c2), c3]; rfl) (by rw [if_pos (ok2_t c1 c2)]; first | (rw [decide_eq_true c5]; rfl) | (rw [decide_eq_false c5]; rfl))
    · refine g_ldc (pc := 20) (v := (-1000000001)) hc tw_308 dX11_spade_20 ?_
      exact g_iret (pc := 22) hc dX11_spade_22 (by rw [if_neg (ne_true_of_eq_false (ok2_f2 c1 c2))]) (by rw [if_neg (ne_true_of_eq_false (ok2_f2 c1 c2))])

theorem dX11_rule_0 : decode cX11_rule 0 = .ok (.iload_n 1, 1) := by decide +kernel
theorem dX11_rule_1 : decode cX11_rule 1 = .ok (.ifCond .ne 15, 3) := by decide +kernel
theorem dX11_rule_4 : decode cX11_rule 4 = .ok (.aload_n 0, 1) := by decide +kernel
theorem dX11_rule_5 : decode cX11_rule 5 = .ok (.getfield 72, 3) := by decide +kernel
theorem dX11_rule_8 : decode cX11_rule 8 = .ok (.istore_n 3, 1) := by decide +kernel
theorem dX11_rule_9 : decode cX11_rule 9 = .ok (.aload_n 0, 1) := by decide +kernel
theorem dX11_rule_10 : decode cX11_rule 10 = .ok (.iload_n 2, 1) := by decide +kernel
theorem dX11_rule_11 : decode cX11_rule 11 = .ok (.putfield 72, 3) := by decide +kernel
theorem dX11_rule_14 : decode cX11_rule 14 = .ok (.iload_n 3, 1) := by decide +kernel
theorem dX11_rule_15 : decode cX11_rule 15 = .ok (.ireturn, 1) := by decide +kernel
theorem dX11_rule_16 : decode cX11_rule 16 = .ok (.iload_n 1, 1) := by decide +kernel
theorem dX11_rule_17 : decode cX11_rule 17 = .ok (.iconst 1, 1) := by decide +kernel
theorem dX11_rule_18 : decode cX11_rule 18 = .ok (.if_icmp .ne 13, 3) := by decide +kernel
theorem dX11_rule_21 : decode cX11_rule 21 = .ok (.iload_n 2, 1) := by decide +kernel
theorem dX11_rule_22 : decode cX11_rule 22 = .ok (.iconst 0, 1) := by decide +kernel
theorem dX11_rule_23 : decode cX11_rule 23 = .ok (.bipush 9, 2) := by decide +kernel
theorem dX11_rule_25 : decode cX11_rule 25 = .ok (.invokestatic 105, 3) := by decide +kernel
theorem dX11_rule_28 : decode cX11_rule 28 = .ok (.ifCond .ne 6, 3) := by decide +kernel
theorem dX11_rule_31 : decode cX11_rule 31 = .ok (.ldc 109, 2) := by decide +kernel
theorem dX11_rule_33 : decode cX11_rule 33 = .ok (.ireturn, 1) := by decide +kernel
theorem dX11_rule_34 : decode cX11_rule 34 = .ok (.aload_n 0, 1) := by decide +kernel
theorem dX11_rule_35 : decode cX11_rule 35 = .ok (.getfield 75, 3) := by decide +kernel
theorem dX11_rule_38 : decode cX11_rule 38 = .ok (.istore_n 3, 1) := by decide +kernel
theorem dX11_rule_39 : decode cX11_rule 39 = .ok (.aload_n 0, 1) := by decide +kernel
theorem dX11_rule_40 : decode cX11_rule 40 = .ok (.iload_n 2, 1) := by decide +kernel
theorem dX11_rule_41 : decode cX11_rule 41 = .ok (.putfield 75, 3) := by decide +kernel
theorem dX11_rule_44 : decode cX11_rule 44 = .ok (.iload_n 3, 1) := by decide +kernel
theorem dX11_rule_45 : decode cX11_rule 45 = .ok (.ireturn, 1) := by decide +kernel

set_option maxHeartbeats 4000000 in
set_option maxRecDepth 100000 in
theorem c_X11_rule (l : Launch) (E : Ev) {A : Nat → Prop} (ad : Nat → Nat) (hA : Oka 39 ad A) (sc : Nat → Int32) (ar : Nat → Nat → Int32) (bl : Int64)  (x : Int32) (y : Int32)  : Ct l E yX11_rule (.code yX11_rule cX11_rule 4 (some .int)) ({ frames := 1, cells := 0, slots := 0, locals := 22 }) A (cw E ad sc ar bl) [.ref (ad 0), .int x, .int y] (some (.int (if x = 0 then sc 1 else if x = nI 1 then (if inr y (nI 0) (nI 9) = true then sc 2 else (-1000000001)) else (-1000000001)))) (if x = 0 then cw E ad (va_up sc 1 y) ar bl else if x = nI 1 then (if inr y (nI 0) (nI 9) = true then cw E ad (va_up sc 2 y) ar bl else cw E ad sc ar bl) else cw E ad sc ar bl) := by
  refine Ct.of (lv := [(0, .ref (ad 0)), (1, .int x), (2, .int y)]) (by decide +kernel) (Nat.le_of_ble_eq_true rfl) rfl ?_
  intro zp ze zs zm za zb zh zc hc
  refine g_iload_n (pc := 0) hc 1 dX11_rule_0 rfl rfl ?_
  refine g_if_ne (pc := 1) hc 16 dX11_rule_1 (by decide) (fun c1 => ?_) (fun c1 => ?_)
  · refine g_iload_n (pc := 16) hc 1 dX11_rule_16 rfl rfl ?_
    refine g_iconst (pc := 17) (v := nI 1) hc dX11_rule_17 (by decide) ?_
    refine g_icmp_ne (pc := 18) hc 31 dX11_rule_18 (by decide) (fun c2 => ?_) (fun c2 => ?_)
    · refine g_ldc (pc := 31) (v := (-1000000001)) hc tw_308 dX11_rule_31 ?_
      exact g_iret (pc := 33) hc dX11_rule_33 (by (repeat (first | rw [if_pos c1] | rw [if_neg c1] | rw [if_neg (ne_true_of_eq_false c1)] | rw [if_pos c2] | rw [if_neg c2] | rw [if_neg (ne_true_of_eq_false c2)]))) (by (repeat (first | rw [if_pos c1] | rw [if_neg c1] | rw [if_neg (ne_true_of_eq_false c1)] | rw [if_pos c2] | rw [if_neg c2] | rw [if_neg (ne_true_of_eq_false c2)])))
    · refine g_iload_n (pc := 21) hc 2 dX11_rule_21 rfl rfl ?_
      refine g_iconst (pc := 22) (v := nI 0) hc dX11_rule_22 (by decide) ?_
      refine g_bipush (pc := 23) (v := nI 9) hc dX11_rule_23 (by decide) ?_
      refine g_callSi (pc := 25) (rest := []) (As := [.int y, .int (nI 0), .int (nI 9)]) hc (c_X11_within l E ad hA sc ar bl y (nI 0) (nI 9)) mi_X11_within tw_305 rfl ⟨rfl, rfl, by decide, by decide⟩ (Nat.le_of_ble_eq_true rfl) ⟨Nat.le_refl _, Nat.le_refl _⟩ rfl dX11_rule_25 ?_
      refine g_if_ne_b (pc := 28) hc 34 dX11_rule_28 (by decide) (fun c3 => ?_) (fun c3 => ?_)
      · refine g_aload_n (pc := 34) hc 0 dX11_rule_34 rfl rfl ?_
        refine gf_c0_spare (pc := 35) hc tw_269 dX11_rule_35 ?_
        refine g_istore_n (pc := 38) (lv' := [(0, .ref (ad 0)), (1, .int x), (2, .int y), (3, .int (sc 2))]) hc dX11_rule_38 rfl (by decide) rfl ?_
        refine g_aload_n (pc := 39) hc 0 dX11_rule_39 rfl rfl ?_
        refine g_iload_n (pc := 40) hc 2 dX11_rule_40 rfl rfl ?_
        refine pf_c0_spare (pc := 41) hc hA tw_269 dX11_rule_41 ?_
        refine g_iload_n (pc := 44) hc 3 dX11_rule_44 rfl rfl ?_
        exact g_iret (pc := 45) hc dX11_rule_45 (by (repeat (first | rw [if_pos c1] | rw [if_neg c1] | rw [if_neg (ne_true_of_eq_false c1)] | rw [if_pos c2] | rw [if_neg c2] | rw [if_neg (ne_true_of_eq_false c2)] | rw [if_pos c3] | rw [if_neg c3] | rw [if_neg (ne_true_of_eq_false c3)]))) (by (repeat (first | rw [if_pos c1] | rw [if_neg c1] | rw [if_neg (ne_true_of_eq_false c1)] | rw [if_pos c2] | rw [if_neg c2] | rw [if_neg (ne_true_of_eq_false c2)] | rw [if_pos c3] | rw [if_neg c3] | rw [if_neg (ne_true_of_eq_false c3)])))
      · refine g_ldc (pc := 31) (v := (-1000000001)) hc tw_308 dX11_rule_31 ?_
        exact g_iret (pc := 33) hc dX11_rule_33 (by (repeat (first | rw [if_pos c1] | rw [if_neg c1] | rw [if_neg (ne_true_of_eq_false c1)] | rw [if_pos c2] | rw [if_neg c2] | rw [if_neg (ne_true_of_eq_false c2)] | rw [if_pos c3] | rw [if_neg c3] | rw [if_neg (ne_true_of_eq_false c3)]))) (by (repeat (first | rw [if_pos c1] | rw [if_neg c1] | rw [if_neg (ne_true_of_eq_false c1)] | rw [if_pos c2] | rw [if_neg c2] | rw [if_neg (ne_true_of_eq_false c2)] | rw [if_pos c3] | rw [if_neg c3] | rw [if_neg (ne_true_of_eq_false c3)])))
  · refine g_aload_n (pc := 4) hc 0 dX11_rule_4 rfl rfl ?_
    refine gf_c0_seed (pc := 5) hc tw_268 dX11_rule_5 ?_
    refine g_istore_n (pc := 8) (lv' := [(0, .ref (ad 0)), (1, .int x), (2, .int y), (3, .int (sc 1))]) hc dX11_rule_8 rfl (by decide) rfl ?_
    refine g_aload_n (pc := 9) hc 0 dX11_rule_9 rfl rfl ?_
    refine g_iload_n (pc := 10) hc 2 dX11_rule_10 rfl rfl ?_
    refine pf_c0_seed (pc := 11) hc hA tw_268 dX11_rule_11 ?_
    refine g_iload_n (pc := 14) hc 3 dX11_rule_14 rfl rfl ?_
    exact g_iret (pc := 15) hc dX11_rule_15 (by (repeat (first | rw [if_pos c1] | rw [if_neg c1] | rw [if_neg (ne_true_of_eq_false c1)]))) (by (repeat (first | rw [if_pos c1] | rw [if_neg c1] | rw [if_neg (ne_true_of_eq_false c1)])))

theorem dX11_plough_0 : decode cX11_plough 0 = .ok (.aload_n 0, 1) := by decide +kernel
theorem dX11_plough_1 : decode cX11_plough 1 = .ok (.getfield 10, 3) := by decide +kernel
theorem dX11_plough_4 : decode cX11_plough 4 = .ok (.iload_n 1, 1) := by decide +kernel
theorem dX11_plough_5 : decode cX11_plough 5 = .ok (.invokevirtual 166, 3) := by decide +kernel
theorem dX11_plough_8 : decode cX11_plough 8 = .ok (.ifCond .eq 13, 3) := by decide +kernel
theorem dX11_plough_11 : decode cX11_plough 11 = .ok (.iload_n 2, 1) := by decide +kernel
theorem dX11_plough_12 : decode cX11_plough 12 = .ok (.iconst 0, 1) := by decide +kernel
theorem dX11_plough_13 : decode cX11_plough 13 = .ok (.bipush 50, 2) := by decide +kernel
theorem dX11_plough_15 : decode cX11_plough 15 = .ok (.invokestatic 105, 3) := by decide +kernel
theorem dX11_plough_18 : decode cX11_plough 18 = .ok (.ifCond .ne 6, 3) := by decide +kernel
theorem dX11_plough_21 : decode cX11_plough 21 = .ok (.ldc 109, 2) := by decide +kernel
theorem dX11_plough_23 : decode cX11_plough 23 = .ok (.ireturn, 1) := by decide +kernel
theorem dX11_plough_24 : decode cX11_plough 24 = .ok (.aload_n 0, 1) := by decide +kernel
theorem dX11_plough_25 : decode cX11_plough 25 = .ok (.getfield 61, 3) := by decide +kernel
theorem dX11_plough_28 : decode cX11_plough 28 = .ok (.invokevirtual 261, 3) := by decide +kernel
theorem dX11_plough_31 : decode cX11_plough 31 = .ok (.ifCond .eq 7, 3) := by decide +kernel
theorem dX11_plough_34 : decode cX11_plough 34 = .ok (.ldc_w 264, 3) := by decide +kernel
theorem dX11_plough_37 : decode cX11_plough 37 = .ok (.ireturn, 1) := by decide +kernel
theorem dX11_plough_38 : decode cX11_plough 38 = .ok (.aload_n 0, 1) := by decide +kernel
theorem dX11_plough_39 : decode cX11_plough 39 = .ok (.getfield 10, 3) := by decide +kernel
theorem dX11_plough_42 : decode cX11_plough 42 = .ok (.aload_n 0, 1) := by decide +kernel
theorem dX11_plough_43 : decode cX11_plough 43 = .ok (.getfield 61, 3) := by decide +kernel
theorem dX11_plough_46 : decode cX11_plough 46 = .ok (.iload_n 1, 1) := by decide +kernel
theorem dX11_plough_47 : decode cX11_plough 47 = .ok (.iload_n 2, 1) := by decide +kernel
theorem dX11_plough_48 : decode cX11_plough 48 = .ok (.invokevirtual 265, 3) := by decide +kernel
theorem dX11_plough_51 : decode cX11_plough 51 = .ok (.ireturn, 1) := by decide +kernel

set_option maxHeartbeats 4000000 in
set_option maxRecDepth 100000 in
theorem c_X11_plough (l : Launch) (E : Ev) {A : Nat → Prop} (ad : Nat → Nat) (hA : Oka 39 ad A) (sc : Nat → Int32) (ar : Nat → Nat → Int32) (bl : Int64) {wd hg : Nat} (x : Int32) (y : Int32) (hwd : sc 3 = nI wd) (hwd1 : 2 ≤ wd) (hwd2 : wd ≤ 8) (hhg : sc 4 = nI hg) (hhg1 : 2 ≤ hg) (hhg2 : hg ≤ 8) : Ct l E yX11_plough (.code yX11_plough cX11_plough 3 (some .int)) ({ frames := 5, cells := 0, slots := 0, locals := 115 }) A (cw E ad sc ar bl) [.ref (ad 0), .int x, .int y] (some (.int (if ok2 (inx x (nI (wd * hg))) (inr y (nI 0) (nI 50)) = true then (if sc 17 = (-1) then (-1000000011) else (pls wd hg (lyf (sc 17) (ar 37) (ar 13) (wd * hg), ar 14) (tn y)).1 (tn x)) else (-1000000001)))) (if ok2 (inx x (nI (wd * hg))) (inr y (nI 0) (nI 50)) = true then (if sc 17 = (-1) then cw E ad sc ar bl else cw E (swN ad (tn y)) sc (va_up (va_up ar 13 (pls wd hg (lyf (sc 17) (ar 37) (ar 13) (wd * hg), ar 14) (tn y)).1) 14 (pls wd hg (lyf (sc 17) (ar 37) (ar 13) (wd * hg), ar 14) (tn y)).2) bl) else cw E ad sc ar bl) := by
  have hm := prod64 hwd2 hhg2
  refine Ct.of (lv := [(0, .ref (ad 0)), (1, .int x), (2, .int y)]) (by decide +kernel) (Nat.le_of_ble_eq_true rfl) rfl ?_
  intro zp ze zs zm za zb zh zc hc
  refine g_aload_n (pc := 0) hc 0 dX11_plough_0 rfl rfl ?_
  refine gf_c0_ground (pc := 1) hc tw_255 dX11_plough_1 ?_
  refine g_iload_n (pc := 4) hc 1 dX11_plough_4 rfl rfl ?_
  refine g_callVi (pc := 5) (rest := []) (As := [.int x]) hc (c_X2_hasPace l E ad hA sc ar bl x (hwd) (hwd1) (hwd2) (hhg) (hhg1) (hhg2)) mi_X2_hasPace tw_396 1 rfl rfl rfl rfl ⟨rfl, rfl, by decide, by decide⟩ (Nat.le_of_ble_eq_true rfl) ⟨Nat.le_refl _, Nat.le_refl _⟩ rfl dX11_plough_5 ?_
  refine g_if_eq_b (pc := 8) hc 21 dX11_plough_8 (by decide) (fun c1 => ?_) (fun c1 => ?_)
  · refine g_ldc (pc := 21) (v := (-1000000001)) hc tw_308 dX11_plough_21 ?_
    exact g_iret (pc := 23) hc dX11_plough_23 (by rw [if_neg (ne_true_of_eq_false (ok2_f1 c1))]) (by rw [if_neg (ne_true_of_eq_false (ok2_f1 c1))])
  · obtain ⟨p, hp, hx⟩ := inx_of (by omega) c1
    refine g_iload_n (pc := 11) hc 2 dX11_plough_11 rfl rfl ?_
    refine g_iconst (pc := 12) (v := nI 0) hc dX11_plough_12 (by decide) ?_
    refine g_bipush (pc := 13) (v := nI 50) hc dX11_plough_13 (by decide) ?_
    refine g_callSi (pc := 15) (rest := []) (As := [.int y, .int (nI 0), .int (nI 50)]) hc (c_X11_within l E ad hA sc ar bl y (nI 0) (nI 50)) mi_X11_within tw_305 rfl ⟨rfl, rfl, by decide, by decide⟩ (Nat.le_of_ble_eq_true rfl) ⟨Nat.le_refl _, Nat.le_refl _⟩ rfl dX11_plough_15 ?_
    refine g_if_ne_b (pc := 18) hc 24 dX11_plough_18 (by decide) (fun c2 => ?_) (fun c2 => ?_)
    · obtain ⟨m, hm0, hm50, hy⟩ := inr_of (by decide) c2 (by decide)
      refine g_eq (ws' := cw E ad sc ar bl) (lv' := [(0, .ref (ad 0)), (1, .int (nI p)), (2, .int (nI m))]) rfl (by rw [hx, hy]) rfl ?_
      refine g_aload_n (pc := 24) hc 0 dX11_plough_24 rfl rfl ?_
      refine gf_c0_firstSheet (pc := 25) hc tw_265 dX11_plough_25 ?_
      refine g_callVi (pc := 28) (rest := []) (As := []) hc (c_X7_isMissing_11 l E ad hA sc ar bl) mi_X7_isMissing tw_665 11 rfl rfl rfl rfl ⟨rfl, rfl, by decide, by decide⟩ (Nat.le_of_ble_eq_true rfl) ⟨Nat.le_refl _, Nat.le_refl _⟩ rfl dX11_plough_28 ?_
      refine g_if_eq_b (pc := 31) hc 38 dX11_plough_31 (by decide) (fun c3 => ?_) (fun c3 => ?_)
      · refine g_aload_n (pc := 38) hc 0 dX11_plough_38 rfl rfl ?_
        refine gf_c0_ground (pc := 39) hc tw_255 dX11_plough_39 ?_
        refine g_aload_n (pc := 42) hc 0 dX11_plough_42 rfl rfl ?_
        refine gf_c0_firstSheet (pc := 43) hc tw_265 dX11_plough_43 ?_
        refine g_iload_n (pc := 46) hc 1 dX11_plough_46 rfl rfl ?_
        refine g_iload_n (pc := 47) hc 2 dX11_plough_47 rfl rfl ?_
        refine g_callVi (pc := 48) (rest := []) (As := [.ref (ad 11), .int (nI p), .int (nI m)]) hc (c_X2_behindPloughs l E ad hA sc ar bl p m (hwd) (hwd1) (hwd2) (hhg) (hhg1) (hhg2) (by omega) (by omega)) mi_X2_behindPloughs tw_670 1 rfl rfl rfl rfl ⟨rfl, rfl, by decide, by decide⟩ (Nat.le_of_ble_eq_true rfl) ⟨Nat.le_refl _, Nat.le_refl _⟩ rfl dX11_plough_48 ?_
        exact g_iret (pc := 51) hc dX11_plough_51 (by rw [if_pos (ok2_t c1 c2), if_neg (of_decide_eq_false c3), hx, hy, tn, tn, nI_clamp (by omega), nI_clamp (by omega)]) (by rw [if_pos (ok2_t c1 c2), if_neg (of_decide_eq_false c3), hy, tn, nI_clamp (by omega)])
      · refine g_ldcw (pc := 34) (v := (-1000000011)) hc tw_669 dX11_plough_34 ?_
        exact g_iret (pc := 37) hc dX11_plough_37 (by rw [if_pos (ok2_t c1 c2), if_pos (of_decide_eq_true c3)]) (by rw [if_pos (ok2_t c1 c2), if_pos (of_decide_eq_true c3)])
    · refine g_ldc (pc := 21) (v := (-1000000001)) hc tw_308 dX11_plough_21 ?_
      exact g_iret (pc := 23) hc dX11_plough_23 (by rw [if_neg (ne_true_of_eq_false (ok2_f2 c1 c2))]) (by rw [if_neg (ne_true_of_eq_false (ok2_f2 c1 c2))])

theorem dX11_profile_0 : decode cX11_profile 0 = .ok (.iload_n 1, 1) := by decide +kernel
theorem dX11_profile_1 : decode cX11_profile 1 = .ok (.invokestatic 269, 3) := by decide +kernel
theorem dX11_profile_4 : decode cX11_profile 4 = .ok (.ifCond .eq 20, 3) := by decide +kernel
theorem dX11_profile_7 : decode cX11_profile 7 = .ok (.iload_n 2, 1) := by decide +kernel
theorem dX11_profile_8 : decode cX11_profile 8 = .ok (.invokestatic 122, 3) := by decide +kernel
theorem dX11_profile_11 : decode cX11_profile 11 = .ok (.ifCond .eq 13, 3) := by decide +kernel
theorem dX11_profile_14 : decode cX11_profile 14 = .ok (.iload_n 3, 1) := by decide +kernel
theorem dX11_profile_15 : decode cX11_profile 15 = .ok (.iconst 0, 1) := by decide +kernel
theorem dX11_profile_16 : decode cX11_profile 16 = .ok (.bipush 100, 2) := by decide +kernel
theorem dX11_profile_18 : decode cX11_profile 18 = .ok (.invokestatic 105, 3) := by decide +kernel
theorem dX11_profile_21 : decode cX11_profile 21 = .ok (.ifCond .ne 6, 3) := by decide +kernel
theorem dX11_profile_24 : decode cX11_profile 24 = .ok (.ldc 109, 2) := by decide +kernel
theorem dX11_profile_26 : decode cX11_profile 26 = .ok (.ireturn, 1) := by decide +kernel
theorem dX11_profile_27 : decode cX11_profile 27 = .ok (.aload_n 0, 1) := by decide +kernel
theorem dX11_profile_28 : decode cX11_profile 28 = .ok (.getfield 40, 3) := by decide +kernel
theorem dX11_profile_31 : decode cX11_profile 31 = .ok (.iload_n 1, 1) := by decide +kernel
theorem dX11_profile_32 : decode cX11_profile 32 = .ok (.iload_n 2, 1) := by decide +kernel
theorem dX11_profile_33 : decode cX11_profile 33 = .ok (.iload_n 3, 1) := by decide +kernel
theorem dX11_profile_34 : decode cX11_profile 34 = .ok (.invokevirtual 272, 3) := by decide +kernel
theorem dX11_profile_37 : decode cX11_profile 37 = .ok (.ireturn, 1) := by decide +kernel

set_option maxHeartbeats 4000000 in
set_option maxRecDepth 100000 in
theorem c_X11_profile (l : Launch) (E : Ev) {A : Nat → Prop} (ad : Nat → Nat) (hA : Oka 39 ad A) (sc : Nat → Int32) (ar : Nat → Nat → Int32) (bl : Int64)  (x : Int32) (y : Int32) (z : Int32)  : Ct l E yX11_profile (.code yX11_profile cX11_profile 4 (some .int)) ({ frames := 2, cells := 0, slots := 0, locals := 42 }) A (cw E ad sc ar bl) [.ref (ad 0), .int x, .int y, .int z] (some (.int (if ok2 (inr x (nI 0) (nI 2)) (ok2 (inr y (nI 0) (nI 3)) (inr z (nI 0) (nI 100))) = true then ar 27 (tn x * 4 + tn y) else (-1000000001)))) (if ok2 (inr x (nI 0) (nI 2)) (ok2 (inr y (nI 0) (nI 3)) (inr z (nI 0) (nI 100))) = true then cw E ad sc (va_up ar 27 (upd (ar 27) (tn x * 4 + tn y) z)) bl else cw E ad sc ar bl) := by
  refine Ct.of (lv := [(0, .ref (ad 0)), (1, .int x), (2, .int y), (3, .int z)]) (by decide +kernel) (Nat.le_of_ble_eq_true rfl) rfl ?_
  intro zp ze zs zm za zb zh zc hc
  refine g_iload_n (pc := 0) hc 1 dX11_profile_0 rfl rfl ?_
  refine g_callSi (pc := 1) (rest := []) (As := [.int x]) hc (c_X11_isPeriod l E ad hA sc ar bl x) mi_X11_isPeriod tw_697 rfl ⟨rfl, rfl, by decide, by decide⟩ (Nat.le_of_ble_eq_true rfl) ⟨Nat.le_refl _, Nat.le_refl _⟩ rfl dX11_profile_1 ?_
  refine g_if_eq_b (pc := 4) hc 24 dX11_profile_4 (by decide) (fun c1 => ?_) (fun c1 => ?_)
  · refine g_ldc (pc := 24) (v := (-1000000001)) hc tw_308 dX11_profile_24 ?_
    exact g_iret (pc := 26) hc dX11_profile_26 (by rw [if_neg (ne_true_of_eq_false (ok2_f1 c1))]) (by rw [if_neg (ne_true_of_eq_false (ok2_f1 c1))])
  · refine g_iload_n (pc := 7) hc 2 dX11_profile_7 rfl rfl ?_
    refine g_callSi (pc := 8) (rest := []) (As := [.int y]) hc (c_X11_isKind l E ad hA sc ar bl y) mi_X11_isKind tw_332 rfl ⟨rfl, rfl, by decide, by decide⟩ (Nat.le_of_ble_eq_true rfl) ⟨Nat.le_refl _, Nat.le_refl _⟩ rfl dX11_profile_8 ?_
    refine g_if_eq_b (pc := 11) hc 24 dX11_profile_11 (by decide) (fun c2 => ?_) (fun c2 => ?_)
    · refine g_ldc (pc := 24) (v := (-1000000001)) hc tw_308 dX11_profile_24 ?_
      exact g_iret (pc := 26) hc dX11_profile_26 (by rw [if_neg (ne_true_of_eq_false (ok2_f2 c1 (ok2_f1 c2)))]) (by rw [if_neg (ne_true_of_eq_false (ok2_f2 c1 (ok2_f1 c2)))])
    · refine g_iload_n (pc := 14) hc 3 dX11_profile_14 rfl rfl ?_
      refine g_iconst (pc := 15) (v := nI 0) hc dX11_profile_15 (by decide) ?_
      refine g_bipush (pc := 16) (v := nI 100) hc dX11_profile_16 (by decide) ?_
      refine g_callSi (pc := 18) (rest := []) (As := [.int z, .int (nI 0), .int (nI 100)]) hc (c_X11_within l E ad hA sc ar bl z (nI 0) (nI 100)) mi_X11_within tw_305 rfl ⟨rfl, rfl, by decide, by decide⟩ (Nat.le_of_ble_eq_true rfl) ⟨Nat.le_refl _, Nat.le_refl _⟩ rfl dX11_profile_18 ?_
      refine g_if_ne_b (pc := 21) hc 27 dX11_profile_21 (by decide) (fun c3 => ?_) (fun c3 => ?_)
      · obtain ⟨i, hi1, hi2, hx⟩ := inr_of (by decide) c1 (by decide)
        obtain ⟨j, hj1, hj2, hy⟩ := inr_of (by decide) c2 (by decide)
        refine g_eq (ws' := cw E ad sc ar bl) (lv' := [(0, .ref (ad 0)), (1, .int (nI i)), (2, .int (nI j)), (3, .int z)]) rfl (by rw [hx, hy]) rfl ?_
        refine g_aload_n (pc := 27) hc 0 dX11_profile_27 rfl rfl ?_
        refine gf_c0_periods (pc := 28) hc tw_261 dX11_profile_28 ?_
        refine g_iload_n (pc := 31) hc 1 dX11_profile_31 rfl rfl ?_
        refine g_iload_n (pc := 32) hc 2 dX11_profile_32 rfl rfl ?_
        refine g_iload_n (pc := 33) hc 3 dX11_profile_33 rfl rfl ?_
        refine g_callVi (pc := 34) (rest := []) (As := [.int (nI i), .int (nI j), .int z]) hc (c_X6_become l E ad hA sc ar bl i j z (by omega) (by omega)) mi_X6_become tw_700 7 rfl rfl rfl rfl ⟨rfl, rfl, by decide, by decide⟩ (Nat.le_of_ble_eq_true rfl) ⟨Nat.le_refl _, Nat.le_refl _⟩ rfl dX11_profile_34 ?_
        exact g_iret (pc := 37) hc dX11_profile_37 (by rw [if_pos (ok2_t c1 (ok2_t c2 c3)), hx, hy, tn, tn, nI_clamp (by omega), nI_clamp (by omega)]) (by rw [if_pos (ok2_t c1 (ok2_t c2 c3)), hx, hy, tn, tn, nI_clamp (by omega), nI_clamp (by omega)])
      · refine g_ldc (pc := 24) (v := (-1000000001)) hc tw_308 dX11_profile_24 ?_
        exact g_iret (pc := 26) hc dX11_profile_26 (by rw [if_neg (ne_true_of_eq_false (ok2_f2 c1 (ok2_f2 c2 c3)))]) (by rw [if_neg (ne_true_of_eq_false (ok2_f2 c1 (ok2_f2 c2 c3)))])

theorem dX11_mixed_0 : decode cX11_mixed 0 = .ok (.iload_n 1, 1) := by decide +kernel
theorem dX11_mixed_1 : decode cX11_mixed 1 = .ok (.invokestatic 269, 3) := by decide +kernel
theorem dX11_mixed_4 : decode cX11_mixed 4 = .ok (.ifCond .ne 6, 3) := by decide +kernel
theorem dX11_mixed_7 : decode cX11_mixed 7 = .ok (.ldc 109, 2) := by decide +kernel
theorem dX11_mixed_9 : decode cX11_mixed 9 = .ok (.ireturn, 1) := by decide +kernel
theorem dX11_mixed_10 : decode cX11_mixed 10 = .ok (.iconst 0, 1) := by decide +kernel
theorem dX11_mixed_11 : decode cX11_mixed 11 = .ok (.istore_n 2, 1) := by decide +kernel
theorem dX11_mixed_12 : decode cX11_mixed 12 = .ok (.iload_n 2, 1) := by decide +kernel
theorem dX11_mixed_13 : decode cX11_mixed 13 = .ok (.iconst 4, 1) := by decide +kernel
theorem dX11_mixed_14 : decode cX11_mixed 14 = .ok (.if_icmp .ge 22, 3) := by decide +kernel
theorem dX11_mixed_17 : decode cX11_mixed 17 = .ok (.aload_n 0, 1) := by decide +kernel
theorem dX11_mixed_18 : decode cX11_mixed 18 = .ok (.getfield 40, 3) := by decide +kernel
theorem dX11_mixed_21 : decode cX11_mixed 21 = .ok (.iload_n 2, 1) := by decide +kernel
theorem dX11_mixed_22 : decode cX11_mixed 22 = .ok (.aload_n 0, 1) := by decide +kernel
theorem dX11_mixed_23 : decode cX11_mixed 23 = .ok (.iload_n 2, 1) := by decide +kernel
theorem dX11_mixed_24 : decode cX11_mixed 24 = .ok (.invokevirtual 274, 3) := by decide +kernel
theorem dX11_mixed_27 : decode cX11_mixed 27 = .ok (.invokevirtual 277, 3) := by decide +kernel
theorem dX11_mixed_30 : decode cX11_mixed 30 = .ok (.iinc 2 1, 3) := by decide +kernel
theorem dX11_mixed_33 : decode cX11_mixed 33 = .ok (.goto (-21), 3) := by decide +kernel
theorem dX11_mixed_36 : decode cX11_mixed 36 = .ok (.aload_n 0, 1) := by decide +kernel
theorem dX11_mixed_37 : decode cX11_mixed 37 = .ok (.getfield 40, 3) := by decide +kernel
theorem dX11_mixed_40 : decode cX11_mixed 40 = .ok (.iload_n 1, 1) := by decide +kernel
theorem dX11_mixed_41 : decode cX11_mixed 41 = .ok (.invokevirtual 280, 3) := by decide +kernel
theorem dX11_mixed_44 : decode cX11_mixed 44 = .ok (.ireturn, 1) := by decide +kernel

set_option maxHeartbeats 800000 in
set_option maxRecDepth 100000 in
theorem c_X11_mixed (l : Launch) (E : Ev) {A : Nat → Prop} (ad : Nat → Nat) (hA : Oka 39 ad A) (sc : Nat → Int32) (ar : Nat → Nat → Int32) (bl : Int64) {nW wd hg : Nat} (x : Int32) (hW : sc 5 = nI nW) (hW60 : nW ≤ 60) (hwd : sc 3 = nI wd) (hwd1 : 2 ≤ wd) (hwd2 : wd ≤ 8) (hhg : sc 4 = nI hg) (hhg1 : 2 ≤ hg) (hhg2 : hg ≤ 8) : Ct l E yX11_mixed (.code yX11_mixed cX11_mixed 3 (some .int)) ({ frames := 5, cells := 0, slots := 0, locals := 113 }) A (cw E ad sc ar bl) [.ref (ad 0), .int x] (some (.int (if inr x (nI 0) (nI 2) = true then (skO (cotI (fun k => cfo (sc 5) nW (ar 17) (ar 19) k hg) (ar 28) 4) (ar 27) (ar 29) 21).2 (tn x) else (-1000000001)))) (if inr x (nI 0) (nI 2) = true then cw E ad sc (va_up (va_up ar 28 (cotI (fun k => cfo (sc 5) nW (ar 17) (ar 19) k hg) (ar 28) 4)) 29 (skO (cotI (fun k => cfo (sc 5) nW (ar 17) (ar 19) k hg) (ar 28) 4) (ar 27) (ar 29) 21).2) bl else cw E ad sc ar bl) := by
  refine Ct.of (lv := [(0, .ref (ad 0)), (1, .int x)]) (by decide +kernel) (Nat.le_of_ble_eq_true rfl) rfl ?_
  intro zp ze zs zm za zb zh zc hc
  refine g_iload_n (pc := 0) hc 1 dX11_mixed_0 rfl rfl ?_
  refine g_callSi (pc := 1) (rest := []) (As := [.int x]) hc (c_X11_isPeriod l E ad hA sc ar bl x) mi_X11_isPeriod tw_697 rfl ⟨rfl, rfl, by decide, by decide⟩ (Nat.le_of_ble_eq_true rfl) ⟨Nat.le_refl _, Nat.le_refl _⟩ rfl dX11_mixed_1 ?_
  refine g_if_ne_b (pc := 4) hc 10 dX11_mixed_4 (by decide) (fun c1 => ?_) (fun c1 => ?_)
  · obtain ⟨i, hi1, hi2, hx⟩ := inr_of (by decide) c1 (by decide)
    refine g_eq (ws' := cw E ad sc ar bl) (lv' := [(0, .ref (ad 0)), (1, .int (nI i))]) rfl (by rw [hx]) rfl ?_
    refine g_iconst (pc := 10) (v := nI 0) hc dX11_mixed_10 (by decide) ?_
    refine g_istore_n (pc := 11) (lv' := [(0, .ref (ad 0)), (1, .int (nI i)), (2, .int (nI 0))]) hc dX11_mixed_11 rfl (by decide) rfl ?_
    have L12_2 : ∀ (kk k : Nat), k + kk = 4 → G zp l ze ({ frames := 5, cells := 0, slots := 0, locals := 113 }) zs zm za zb zh zc 0 0 (MQ zb (Qz E A (some (.int (if inr x (nI 0) (nI 2) = true then (skO (cotI (fun k => cfo (sc 5) nW (ar 17) (ar 19) k hg) (ar 28) 4) (ar 27) (ar 29) 21).2 (tn x) else (-1000000001)))) (if inr x (nI 0) (nI 2) = true then cw E ad sc (va_up (va_up ar 28 (cotI (fun k => cfo (sc 5) nW (ar 17) (ar 19) k hg) (ar 28) 4)) 29 (skO (cotI (fun k => cfo (sc 5) nW (ar 17) (ar 19) k hg) (ar 28) 4) (ar 27) (ar 29) 21).2) bl else cw E ad sc ar bl)) za zs 0 0 A) E A 3 (cw E ad sc (va_up ar 28 (cotI (fun k => cfo (sc 5) nW (ar 17) (ar 19) k hg) (ar 28) (k))) bl) (12) [(0, .ref (ad 0)), (1, .int (nI i)), (2, .int (nI (k)))] [] := by
      intro kk
      induction kk with
      | zero =>
        intro k lhk
        have lhkn : 4 = k := by omega
        subst lhkn
        refine g_iload_n (pc := 12) hc 2 dX11_mixed_12 rfl rfl ?_
        refine g_iconst (pc := 13) (v := nI 4) hc dX11_mixed_13 (by decide) ?_
        refine g_icmp_ge_t (pc := 14) hc 36 dX11_mixed_14 (by decide) (nI_le (by omega) (by omega)) ?_
        refine g_aload_n (pc := 36) hc 0 dX11_mixed_36 rfl rfl ?_
        refine gf_c0_periods (pc := 37) hc tw_261 dX11_mixed_37 ?_
        refine g_iload_n (pc := 40) hc 1 dX11_mixed_40 rfl rfl ?_
        refine g_callVi (pc := 41) (rest := []) (As := [.int (nI i)]) hc (c_X6_bestPart l E ad hA sc (va_up ar 28 (cotI (fun k => cfo (sc 5) nW (ar 17) (ar 19) k hg) (ar 28) (4))) bl i (by omega)) mi_X6_bestPart tw_717 7 rfl rfl rfl rfl ⟨rfl, rfl, by decide, by decide⟩ (Nat.le_of_ble_eq_true rfl) ⟨Nat.le_refl _, Nat.le_refl _⟩ rfl dX11_mixed_41 ?_
        refine g_topi (v := (skO (cotI (fun k => cfo (sc 5) nW (ar 17) (ar 19) k hg) (ar 28) (4)) (ar 27) (ar 29) 21).2 i) (by simp [va_up]) ?_
        refine g_eq (ws' := cw E ad sc (va_up (va_up ar 28 (cotI (fun k => cfo (sc 5) nW (ar 17) (ar 19) k hg) (ar 28) (4))) 29 (skO (cotI (fun k => cfo (sc 5) nW (ar 17) (ar 19) k hg) (ar 28) (4)) (ar 27) (ar 29) 21).2) bl) (lv' := [(0, .ref (ad 0)), (1, .int (nI i)), (2, .int (nI (4)))]) (by simp [cw, va_up]) rfl rfl ?_
        exact g_iret (pc := 44) hc dX11_mixed_44 (by rw [if_pos c1, hx, tn, nI_clamp (by omega)]) (by rw [if_pos c1])
      | succ kk ihk =>
        intro k lhk
        have lhkn : k < 4 := by omega
        refine g_iload_n (pc := 12) hc 2 dX11_mixed_12 rfl rfl ?_
        refine g_iconst (pc := 13) (v := nI 4) hc dX11_mixed_13 (by decide) ?_
        refine g_icmp_ge_f (pc := 14) hc 36 dX11_mixed_14 (by decide) (nI_ge (by omega) (by omega)) ?_
        refine g_aload_n (pc := 17) hc 0 dX11_mixed_17 rfl rfl ?_
        refine gf_c0_periods (pc := 18) hc tw_261 dX11_mixed_18 ?_
        refine g_iload_n (pc := 21) hc 2 dX11_mixed_21 rfl rfl ?_
        refine g_aload_n (pc := 22) hc 0 dX11_mixed_22 rfl rfl ?_
        refine g_iload_n (pc := 23) hc 2 dX11_mixed_23 rfl rfl ?_
        refine g_callVi (pc := 24) (rest := [.int (nI (k)), .ref (ad 7)]) (As := [.int (nI (k))]) hc (c_X11_countedOf l E ad hA sc (va_up ar 28 (cotI (fun k => cfo (sc 5) nW (ar 17) (ar 19) k hg) (ar 28) (k))) bl k (hW) (hW60) (hwd) (hwd1) (hwd2) (hhg) (hhg1) (hhg2) (by omega)) mi_X11_countedOf tw_708 0 rfl rfl rfl rfl ⟨rfl, rfl, by decide, by decide⟩ (Nat.le_of_ble_eq_true rfl) ⟨Nat.le_refl _, Nat.le_refl _⟩ rfl dX11_mixed_24 ?_
        refine g_topi (v := cfo (sc 5) nW (ar 17) (ar 19) k hg) (by simp [va_up]) ?_
        refine g_callVv (pc := 27) (rest := []) (As := [.int (nI (k)), .int (cfo (sc 5) nW (ar 17) (ar 19) k hg)]) hc (c_X6_tell l E ad hA sc (va_up ar 28 (cotI (fun k => cfo (sc 5) nW (ar 17) (ar 19) k hg) (ar 28) (k))) bl k (cfo (sc 5) nW (ar 17) (ar 19) k hg) (by omega)) mi_X6_tell tw_713 7 rfl rfl rfl rfl ⟨rfl, rfl, by decide, by decide⟩ (Nat.le_of_ble_eq_true rfl) ⟨Nat.le_refl _, Nat.le_refl _⟩ rfl dX11_mixed_27 ?_
        refine g_eq (ws' := cw E ad sc (va_up ar 28 (upd (cotI (fun k => cfo (sc 5) nW (ar 17) (ar 19) k hg) (ar 28) (k)) k (cfo (sc 5) nW (ar 17) (ar 19) k hg))) bl) (lv' := [(0, .ref (ad 0)), (1, .int (nI i)), (2, .int (nI (k)))]) (by simp [cw, va_up]) rfl rfl ?_
        refine g_iinc (pc := 30) (v := nI (k + 1)) (lv' := [(0, .ref (ad 0)), (1, .int (nI i)), (2, .int (nI (k + 1)))]) hc 2 dX11_mixed_30 rfl (nI_ofi k 1) (by decide) rfl ?_
        refine g_goto (pc := 33) hc 12 dX11_mixed_33 (by decide) ?_
        exact g_eq (ws' := cw E ad sc (va_up ar 28 (cotI (fun k => cfo (sc 5) nW (ar 17) (ar 19) k hg) (ar 28) (k + 1))) bl) (lv' := [(0, .ref (ad 0)), (1, .int (nI i)), (2, .int (nI (k + 1)))]) (rfl) (rfl) rfl (ihk (k + 1) (by omega))
    exact g_eq (ws' := cw E ad sc (va_up ar 28 (cotI (fun k => cfo (sc 5) nW (ar 17) (ar 19) k hg) (ar 28) (0))) bl) (lv' := [(0, .ref (ad 0)), (1, .int (nI i)), (2, .int (nI (0)))]) (rfl) (rfl) rfl (L12_2 (4 - 0) (0) (by omega))
  · refine g_ldc (pc := 7) (v := (-1000000001)) hc tw_308 dX11_mixed_7 ?_
    exact g_iret (pc := 9) hc dX11_mixed_9 (by rw [if_neg (ne_true_of_eq_false c1)]) (by rw [if_neg (ne_true_of_eq_false c1)])

theorem feed_room {x : Int32} {n : Nat} (h : (!decide (nI 60 < x + nI 12)) = true) (e : x = nI n) (hn : n ≤ 60) : n + 12 ≤ 60 := by
  have h1 : ¬ nI 60 < x + nI 12 := by simpa using h
  rw [e, nI_add] at h1
  rcases Nat.lt_or_ge 60 (n + 12) with q | q
  · exact absurd (nI_lt q (by omega)) h1
  · exact q

theorem dX11_feed_0 : decode cX11_feed 0 = .ok (.aload_n 0, 1) := by decide +kernel
theorem dX11_feed_1 : decode cX11_feed 1 = .ok (.getfield 47, 3) := by decide +kernel
theorem dX11_feed_4 : decode cX11_feed 4 = .ok (.invokevirtual 283, 3) := by decide +kernel
theorem dX11_feed_7 : decode cX11_feed 7 = .ok (.ifCond .ne 6, 3) := by decide +kernel
theorem dX11_feed_10 : decode cX11_feed 10 = .ok (.ldc 159, 2) := by decide +kernel
theorem dX11_feed_12 : decode cX11_feed 12 = .ok (.ireturn, 1) := by decide +kernel
theorem dX11_feed_13 : decode cX11_feed 13 = .ok (.aload_n 0, 1) := by decide +kernel
theorem dX11_feed_14 : decode cX11_feed 14 = .ok (.getfield 47, 3) := by decide +kernel
theorem dX11_feed_17 : decode cX11_feed 17 = .ok (.iload_n 1, 1) := by decide +kernel
theorem dX11_feed_18 : decode cX11_feed 18 = .ok (.invokevirtual 286, 3) := by decide +kernel
theorem dX11_feed_21 : decode cX11_feed 21 = .ok (.aload_n 0, 1) := by decide +kernel
theorem dX11_feed_22 : decode cX11_feed 22 = .ok (.getfield 47, 3) := by decide +kernel
theorem dX11_feed_25 : decode cX11_feed 25 = .ok (.iload_n 2, 1) := by decide +kernel
theorem dX11_feed_26 : decode cX11_feed 26 = .ok (.invokevirtual 286, 3) := by decide +kernel
theorem dX11_feed_29 : decode cX11_feed 29 = .ok (.aload_n 0, 1) := by decide +kernel
theorem dX11_feed_30 : decode cX11_feed 30 = .ok (.getfield 47, 3) := by decide +kernel
theorem dX11_feed_33 : decode cX11_feed 33 = .ok (.iload_n 3, 1) := by decide +kernel
theorem dX11_feed_34 : decode cX11_feed 34 = .ok (.invokevirtual 286, 3) := by decide +kernel
theorem dX11_feed_37 : decode cX11_feed 37 = .ok (.aload_n 0, 1) := by decide +kernel
theorem dX11_feed_38 : decode cX11_feed 38 = .ok (.getfield 47, 3) := by decide +kernel
theorem dX11_feed_41 : decode cX11_feed 41 = .ok (.invokevirtual 289, 3) := by decide +kernel
theorem dX11_feed_44 : decode cX11_feed 44 = .ok (.ireturn, 1) := by decide +kernel

set_option maxHeartbeats 4000000 in
set_option maxRecDepth 100000 in
theorem c_X11_feed (l : Launch) (E : Ev) {A : Nat → Prop} (ad : Nat → Nat) (hA : Oka 39 ad A) (sc : Nat → Int32) (ar : Nat → Nat → Int32) (bl : Int64) {tL : Nat} (x : Int32) (y : Int32) (z : Int32) (hT : sc 7 = nI tL) (hT60 : tL ≤ 60) : Ct l E yX11_feed (.code yX11_feed cX11_feed 4 (some .int)) ({ frames := 1, cells := 0, slots := 0, locals := 22 }) A (cw E ad sc ar bl) [.ref (ad 0), .int x, .int y, .int z] (some (.int (if (!decide (nI 60 < sc 7 + nI 12)) = true then nI (tL + 4 + 4 + 4) else (-1000000003)))) (if (!decide (nI 60 < sc 7 + nI 12)) = true then cw E ad (va_up sc 7 (nI (tL + 4 + 4 + 4))) (va_up ar 30 (tpa (tpa (tpa (ar 30) tL x) (tL + 4) y) (tL + 4 + 4) z)) bl else cw E ad sc ar bl) := by
  refine Ct.of (lv := [(0, .ref (ad 0)), (1, .int x), (2, .int y), (3, .int z)]) (by decide +kernel) (Nat.le_of_ble_eq_true rfl) rfl ?_
  intro zp ze zs zm za zb zh zc hc
  refine g_aload_n (pc := 0) hc 0 dX11_feed_0 rfl rfl ?_
  refine gf_c0_tape (pc := 1) hc tw_262 dX11_feed_1 ?_
  refine g_callVi (pc := 4) (rest := []) (As := []) hc (c_X9_hasRoom l E ad hA sc ar bl) mi_X9_hasRoom tw_734 8 rfl rfl rfl rfl ⟨rfl, rfl, by decide, by decide⟩ (Nat.le_of_ble_eq_true rfl) ⟨Nat.le_refl _, Nat.le_refl _⟩ rfl dX11_feed_4 ?_
  refine g_if_ne_b (pc := 7) hc 13 dX11_feed_7 (by decide) (fun c1 => ?_) (fun c1 => ?_)
  · have hr := feed_room c1 hT hT60
    refine g_aload_n (pc := 13) hc 0 dX11_feed_13 rfl rfl ?_
    refine gf_c0_tape (pc := 14) hc tw_262 dX11_feed_14 ?_
    refine g_iload_n (pc := 17) hc 1 dX11_feed_17 rfl rfl ?_
    refine g_callVv (pc := 18) (rest := []) (As := [.int x]) hc (c_X9_add l E ad hA sc ar bl (tL := tL) x hT (by omega)) mi_X9_add tw_738 8 rfl rfl rfl rfl ⟨rfl, rfl, by decide, by decide⟩ (Nat.le_of_ble_eq_true rfl) ⟨Nat.le_refl _, Nat.le_refl _⟩ rfl dX11_feed_18 ?_
    refine g_aload_n (pc := 21) hc 0 dX11_feed_21 rfl rfl ?_
    refine gf_c0_tape (pc := 22) hc tw_262 dX11_feed_22 ?_
    refine g_iload_n (pc := 25) hc 2 dX11_feed_25 rfl rfl ?_
    refine g_callVv (pc := 26) (rest := []) (As := [.int y]) hc (c_X9_add l E ad hA (va_up sc 7 (nI (tL + 4))) (va_up ar 30 (tpa (ar 30) (tL) x)) bl (tL := tL + 4) y rfl (by omega)) mi_X9_add tw_738 8 rfl rfl rfl rfl ⟨rfl, rfl, by decide, by decide⟩ (Nat.le_of_ble_eq_true rfl) ⟨Nat.le_refl _, Nat.le_refl _⟩ rfl dX11_feed_26 ?_
    refine g_eq (ws' := cw E ad (va_up sc 7 (nI (tL + 4 + 4))) (va_up ar 30 (tpa (tpa (ar 30) (tL) x) (tL + 4) y)) bl) (lv' := [(0, .ref (ad 0)), (1, .int x), (2, .int y), (3, .int z)]) (rfl) rfl rfl ?_
    refine g_aload_n (pc := 29) hc 0 dX11_feed_29 rfl rfl ?_
    refine gf_c0_tape (pc := 30) hc tw_262 dX11_feed_30 ?_
    refine g_iload_n (pc := 33) hc 3 dX11_feed_33 rfl rfl ?_
    refine g_callVv (pc := 34) (rest := []) (As := [.int z]) hc (c_X9_add l E ad hA (va_up sc 7 (nI (tL + 4 + 4))) (va_up ar 30 (tpa (tpa (ar 30) (tL) x) (tL + 4) y)) bl (tL := tL + 4 + 4) z rfl (by omega)) mi_X9_add tw_738 8 rfl rfl rfl rfl ⟨rfl, rfl, by decide, by decide⟩ (Nat.le_of_ble_eq_true rfl) ⟨Nat.le_refl _, Nat.le_refl _⟩ rfl dX11_feed_34 ?_
    refine g_eq (ws' := cw E ad (va_up sc 7 (nI (tL + 4 + 4 + 4))) (va_up ar 30 (tpa (tpa (tpa (ar 30) (tL) x) (tL + 4) y) (tL + 4 + 4) z)) bl) (lv' := [(0, .ref (ad 0)), (1, .int x), (2, .int y), (3, .int z)]) (rfl) rfl rfl ?_
    refine g_aload_n (pc := 37) hc 0 dX11_feed_37 rfl rfl ?_
    refine gf_c0_tape (pc := 38) hc tw_262 dX11_feed_38 ?_
    refine g_callVi (pc := 41) (rest := []) (As := []) hc (c_X9_length l E ad hA (va_up sc 7 (nI (tL + 4 + 4 + 4))) (va_up ar 30 (tpa (tpa (tpa (ar 30) (tL) x) (tL + 4) y) (tL + 4 + 4) z)) bl) mi_X9_length tw_742 8 rfl rfl rfl rfl ⟨rfl, rfl, by decide, by decide⟩ (Nat.le_of_ble_eq_true rfl) ⟨Nat.le_refl _, Nat.le_refl _⟩ rfl dX11_feed_41 ?_
    refine g_topi (v := nI (tL + 4 + 4 + 4)) rfl ?_
    exact g_iret (pc := 44) hc dX11_feed_44 (by rw [if_pos c1]) (by rw [if_pos c1])
  · refine g_ldc (pc := 10) (v := (-1000000003)) hc tw_383 dX11_feed_10 ?_
    exact g_iret (pc := 12) hc dX11_feed_12 (by rw [if_neg (ne_true_of_eq_false c1)]) (by rw [if_neg (ne_true_of_eq_false c1)])

theorem dX11_trim_0 : decode cX11_trim 0 = .ok (.iload_n 1, 1) := by decide +kernel
theorem dX11_trim_1 : decode cX11_trim 1 = .ok (.iconst 0, 1) := by decide +kernel
theorem dX11_trim_2 : decode cX11_trim 2 = .ok (.aload_n 0, 1) := by decide +kernel
theorem dX11_trim_3 : decode cX11_trim 3 = .ok (.getfield 47, 3) := by decide +kernel
theorem dX11_trim_6 : decode cX11_trim 6 = .ok (.invokevirtual 289, 3) := by decide +kernel
theorem dX11_trim_9 : decode cX11_trim 9 = .ok (.invokestatic 105, 3) := by decide +kernel
theorem dX11_trim_12 : decode cX11_trim 12 = .ok (.ifCond .ne 6, 3) := by decide +kernel
theorem dX11_trim_15 : decode cX11_trim 15 = .ok (.ldc 109, 2) := by decide +kernel
theorem dX11_trim_17 : decode cX11_trim 17 = .ok (.ireturn, 1) := by decide +kernel
theorem dX11_trim_18 : decode cX11_trim 18 = .ok (.aload_n 0, 1) := by decide +kernel
theorem dX11_trim_19 : decode cX11_trim 19 = .ok (.getfield 47, 3) := by decide +kernel
theorem dX11_trim_22 : decode cX11_trim 22 = .ok (.iload_n 1, 1) := by decide +kernel
theorem dX11_trim_23 : decode cX11_trim 23 = .ok (.invokevirtual 292, 3) := by decide +kernel
theorem dX11_trim_26 : decode cX11_trim 26 = .ok (.iload_n 1, 1) := by decide +kernel
theorem dX11_trim_27 : decode cX11_trim 27 = .ok (.ireturn, 1) := by decide +kernel

set_option maxHeartbeats 4000000 in
set_option maxRecDepth 100000 in
theorem c_X11_trim (l : Launch) (E : Ev) {A : Nat → Prop} (ad : Nat → Nat) (hA : Oka 39 ad A) (sc : Nat → Int32) (ar : Nat → Nat → Int32) (bl : Int64)  (x : Int32)  : Ct l E yX11_trim (.code yX11_trim cX11_trim 2 (some .int)) ({ frames := 1, cells := 0, slots := 0, locals := 22 }) A (cw E ad sc ar bl) [.ref (ad 0), .int x] (some (.int (if inr x (nI 0) (sc 7) = true then x else (-1000000001)))) (if inr x (nI 0) (sc 7) = true then cw E ad (va_up sc 7 x) ar bl else cw E ad sc ar bl) := by
  refine Ct.of (lv := [(0, .ref (ad 0)), (1, .int x)]) (by decide +kernel) (Nat.le_of_ble_eq_true rfl) rfl ?_
  intro zp ze zs zm za zb zh zc hc
  refine g_iload_n (pc := 0) hc 1 dX11_trim_0 rfl rfl ?_
  refine g_iconst (pc := 1) (v := nI 0) hc dX11_trim_1 (by decide) ?_
  refine g_aload_n (pc := 2) hc 0 dX11_trim_2 rfl rfl ?_
  refine gf_c0_tape (pc := 3) hc tw_262 dX11_trim_3 ?_
  refine g_callVi (pc := 6) (rest := [.int (nI 0), .int x]) (As := []) hc (c_X9_length l E ad hA sc ar bl) mi_X9_length tw_742 8 rfl rfl rfl rfl ⟨rfl, rfl, by decide, by decide⟩ (Nat.le_of_ble_eq_true rfl) ⟨Nat.le_refl _, Nat.le_refl _⟩ rfl dX11_trim_6 ?_
  refine g_callSi (pc := 9) (rest := []) (As := [.int x, .int (nI 0), .int (sc 7)]) hc (c_X11_within l E ad hA sc ar bl x (nI 0) (sc 7)) mi_X11_within tw_305 rfl ⟨rfl, rfl, by decide, by decide⟩ (Nat.le_of_ble_eq_true rfl) ⟨Nat.le_refl _, Nat.le_refl _⟩ rfl dX11_trim_9 ?_
  refine g_if_ne_b (pc := 12) hc 18 dX11_trim_12 (by decide) (fun c1 => ?_) (fun c1 => ?_)
  · refine g_aload_n (pc := 18) hc 0 dX11_trim_18 rfl rfl ?_
    refine gf_c0_tape (pc := 19) hc tw_262 dX11_trim_19 ?_
    refine g_iload_n (pc := 22) hc 1 dX11_trim_22 rfl rfl ?_
    refine g_callVv (pc := 23) (rest := []) (As := [.int x]) hc (c_X9_keep l E ad hA sc ar bl x) mi_X9_keep tw_750 8 rfl rfl rfl rfl ⟨rfl, rfl, by decide, by decide⟩ (Nat.le_of_ble_eq_true rfl) ⟨Nat.le_refl _, Nat.le_refl _⟩ rfl dX11_trim_23 ?_
    refine g_iload_n (pc := 26) hc 1 dX11_trim_26 rfl rfl ?_
    exact g_iret (pc := 27) hc dX11_trim_27 (by (repeat (first | rw [if_pos c1] | rw [if_neg c1] | rw [if_neg (ne_true_of_eq_false c1)]))) (by (repeat (first | rw [if_pos c1] | rw [if_neg c1] | rw [if_neg (ne_true_of_eq_false c1)])))
  · refine g_ldc (pc := 15) (v := (-1000000001)) hc tw_308 dX11_trim_15 ?_
    exact g_iret (pc := 17) hc dX11_trim_17 (by (repeat (first | rw [if_pos c1] | rw [if_neg c1] | rw [if_neg (ne_true_of_eq_false c1)]))) (by (repeat (first | rw [if_pos c1] | rw [if_neg c1] | rw [if_neg (ne_true_of_eq_false c1)])))
