theorem dX12_spade_0 : decode cX12_spade 0 = .ok (.aload_n 0, 1) := by decide +kernel
theorem dX12_spade_1 : decode cX12_spade 1 = .ok (.iload_n 1, 1) := by decide +kernel
theorem dX12_spade_2 : decode cX12_spade 2 = .ok (.invokevirtual 154, 3) := by decide +kernel
theorem dX12_spade_5 : decode cX12_spade 5 = .ok (.ifCond .eq 12, 3) := by decide +kernel
theorem dX12_spade_8 : decode cX12_spade 8 = .ok (.iload_n 2, 1) := by decide +kernel
theorem dX12_spade_9 : decode cX12_spade 9 = .ok (.iconst 0, 1) := by decide +kernel
theorem dX12_spade_10 : decode cX12_spade 10 = .ok (.iconst 1, 1) := by decide +kernel
theorem dX12_spade_11 : decode cX12_spade 11 = .ok (.invokestatic 113, 3) := by decide +kernel
theorem dX12_spade_14 : decode cX12_spade 14 = .ok (.ifCond .ne 6, 3) := by decide +kernel
theorem dX12_spade_17 : decode cX12_spade 17 = .ok (.ldc 120, 2) := by decide +kernel
theorem dX12_spade_19 : decode cX12_spade 19 = .ok (.ireturn, 1) := by decide +kernel
theorem dX12_spade_20 : decode cX12_spade 20 = .ok (.aload_n 0, 1) := by decide +kernel
theorem dX12_spade_21 : decode cX12_spade 21 = .ok (.getfield 41, 3) := by decide +kernel
theorem dX12_spade_24 : decode cX12_spade 24 = .ok (.iload_n 1, 1) := by decide +kernel
theorem dX12_spade_25 : decode cX12_spade 25 = .ok (.baload, 1) := by decide +kernel
theorem dX12_spade_26 : decode cX12_spade 26 = .ok (.ifCond .eq 7, 3) := by decide +kernel
theorem dX12_spade_29 : decode cX12_spade 29 = .ok (.iconst 0, 1) := by decide +kernel
theorem dX12_spade_30 : decode cX12_spade 30 = .ok (.goto 4, 3) := by decide +kernel
theorem dX12_spade_33 : decode cX12_spade 33 = .ok (.iconst 1, 1) := by decide +kernel
theorem dX12_spade_34 : decode cX12_spade 34 = .ok (.istore_n 3, 1) := by decide +kernel
theorem dX12_spade_35 : decode cX12_spade 35 = .ok (.aload_n 0, 1) := by decide +kernel
theorem dX12_spade_36 : decode cX12_spade 36 = .ok (.getfield 41, 3) := by decide +kernel
theorem dX12_spade_39 : decode cX12_spade 39 = .ok (.iload_n 1, 1) := by decide +kernel
theorem dX12_spade_40 : decode cX12_spade 40 = .ok (.iload_n 2, 1) := by decide +kernel
theorem dX12_spade_41 : decode cX12_spade 41 = .ok (.ifCond .ne 7, 3) := by decide +kernel
theorem dX12_spade_44 : decode cX12_spade 44 = .ok (.iconst 1, 1) := by decide +kernel
theorem dX12_spade_45 : decode cX12_spade 45 = .ok (.goto 4, 3) := by decide +kernel
theorem dX12_spade_48 : decode cX12_spade 48 = .ok (.iconst 0, 1) := by decide +kernel
theorem dX12_spade_49 : decode cX12_spade 49 = .ok (.bastore, 1) := by decide +kernel
theorem dX12_spade_50 : decode cX12_spade 50 = .ok (.iload_n 3, 1) := by decide +kernel
theorem dX12_spade_51 : decode cX12_spade 51 = .ok (.ireturn, 1) := by decide +kernel

set_option maxHeartbeats 4000000 in
set_option maxRecDepth 100000 in
theorem c_X12_spade (l : Launch) (E : Ev) {A : Nat → Prop} (ad : Nat → Nat) (hA : Oka 30 ad A) (sc : Nat → Int32) (ar : Nat → Nat → Int32) (la : Nat → Int64) {wd hg : Nat} (x : Int32) (y : Int32) (hwd : sc 0 = nI wd) (hwd1 : 2 ≤ wd) (hwd2 : wd ≤ 8) (hhg : sc 1 = nI hg) (hhg1 : 2 ≤ hg) (hhg2 : hg ≤ 8) : Ct l E yX12_spade (.code yX12_spade cX12_spade 4 (some .int)) ({ frames := 2, cells := 0, slots := 0, locals := 43 }) A (mw E ad sc ar la) [.ref (ad 0), .int x, .int y] (some (.int (if ok2 (inx x (nI (wd * hg))) (inr y (nI 0) (nI 1)) = true then (if ar 9 (tn x) = 0 then nI 1 else nI 0) else (-1000000001)))) (if ok2 (inx x (nI (wd * hg))) (inr y (nI 0) (nI 1)) = true then mw E ad sc (va_up ar 9 (upd (ar 9) (tn x) (vp_nar .boolean (if y = 0 then nI 1 else nI 0)))) la else mw E ad sc ar la) := by
  have hm := prod64 hwd2 hhg2
  refine Ct.of (lv := [(0, .ref (ad 0)), (1, .int x), (2, .int y)]) (by decide +kernel) (Nat.le_of_ble_eq_true rfl) rfl ?_
  intro zp ze zs zm za zb zh zc hc
  refine g_aload_n (pc := 0) hc 0 dX12_spade_0 rfl rfl ?_
  refine g_iload_n (pc := 1) hc 1 dX12_spade_1 rfl rfl ?_
  refine g_callVi (pc := 2) (rest := []) (As := [.int x]) hc (c_X12_isPace l E ad hA sc ar la x (hwd) (hwd1) (hwd2) (hhg) (hhg1) (hhg2)) mi_X12_isPace tw_1185 0 rfl rfl rfl rfl ⟨rfl, rfl, by decide, by decide⟩ (Nat.le_of_ble_eq_true rfl) ⟨Nat.le_refl _, Nat.le_refl _⟩ rfl dX12_spade_2 ?_
  refine g_if_eq_b (pc := 5) hc 17 dX12_spade_5 (by decide) (fun c1 => ?_) (fun c1 => ?_)
  · refine g_ldc (pc := 17) (v := (-1000000001)) hc tw_1139 dX12_spade_17 ?_
    exact g_iret (pc := 19) hc dX12_spade_19 (by rw [if_neg (ne_true_of_eq_false (ok2_f1 c1))]) (by rw [if_neg (ne_true_of_eq_false (ok2_f1 c1))])
  · refine g_iload_n (pc := 8) hc 2 dX12_spade_8 rfl rfl ?_
    refine g_iconst (pc := 9) (v := nI 0) hc dX12_spade_9 (by decide) ?_
    refine g_iconst (pc := 10) (v := nI 1) hc dX12_spade_10 (by decide) ?_
    refine g_callSi (pc := 11) (rest := []) (As := [.int y, .int (nI 0), .int (nI 1)]) hc (c_X12_isIn l E ad hA sc ar la y (nI 0) (nI 1)) mi_X12_isIn tw_1136 rfl ⟨rfl, rfl, by decide, by decide⟩ (Nat.le_of_ble_eq_true rfl) ⟨Nat.le_refl _, Nat.le_refl _⟩ rfl dX12_spade_11 ?_
    refine g_if_ne_b (pc := 14) hc 20 dX12_spade_14 (by decide) (fun c2 => ?_) (fun c2 => ?_)
    · obtain ⟨p, hp, hx⟩ := inx_of (by omega) c1
      refine g_eq (ws' := mw E ad sc ar la) (lv' := [(0, .ref (ad 0)), (1, .int (nI p)), (2, .int y)]) rfl (by rw [hx]) rfl ?_
      refine g_aload_n (pc := 20) hc 0 dX12_spade_20 rfl rfl ?_
      refine gf_m0_isEmpty (pc := 21) hc tw_1014 dX12_spade_21 ?_
      refine g_iload_n (pc := 24) hc 1 dX12_spade_24 rfl rfl ?_
      refine la_m9 (pc := 25) hc (p) (rfl) (by omega) dX12_spade_25 ?_
      refine g_if_eq (pc := 26) hc 33 dX12_spade_26 (by decide) (fun c3 => ?_) (fun c3 => ?_)
      · refine g_iconst (pc := 33) (v := nI 1) hc dX12_spade_33 (by decide) ?_
        refine g_istore_n (pc := 34) (lv' := [(0, .ref (ad 0)), (1, .int (nI p)), (2, .int y), (3, .int (nI 1))]) hc dX12_spade_34 rfl (by decide) rfl ?_
        refine g_aload_n (pc := 35) hc 0 dX12_spade_35 rfl rfl ?_
        refine gf_m0_isEmpty (pc := 36) hc tw_1014 dX12_spade_36 ?_
        refine g_iload_n (pc := 39) hc 1 dX12_spade_39 rfl rfl ?_
        refine g_iload_n (pc := 40) hc 2 dX12_spade_40 rfl rfl ?_
        refine g_if_ne (pc := 41) hc 48 dX12_spade_41 (by decide) (fun c4 => ?_) (fun c4 => ?_)
        · refine g_iconst (pc := 48) (v := nI 0) hc dX12_spade_48 (by decide) ?_
          refine sa_m9 (pc := 49) hc hA (p) (rfl) (by omega) dX12_spade_49 ?_
          refine g_iload_n (pc := 50) hc 3 dX12_spade_50 rfl rfl ?_
          exact g_iret (pc := 51) hc dX12_spade_51 (by rw [if_pos (ok2_t c1 c2), hx, tn, nI_clamp (by omega)]; (repeat (first | rw [if_pos c3] | rw [if_neg c3] | rw [if_neg (ne_true_of_eq_false c3)] | rw [if_pos c4] | rw [if_neg c4] | rw [if_neg (ne_true_of_eq_false c4)]))) (by rw [if_pos (ok2_t c1 c2), hx, tn, nI_clamp (by omega)]; (repeat (first | rw [if_pos c3] | rw [if_neg c3] | rw [if_neg (ne_true_of_eq_false c3)] | rw [if_pos c4] | rw [if_neg c4] | rw [if_neg (ne_true_of_eq_false c4)])))
        · refine g_iconst (pc := 44) (v := nI 1) hc dX12_spade_44 (by decide) ?_
          refine g_goto (pc := 45) hc 49 dX12_spade_45 (by decide) ?_
          refine sa_m9 (pc := 49) hc hA (p) (rfl) (by omega) dX12_spade_49 ?_
          refine g_iload_n (pc := 50) hc 3 dX12_spade_50 rfl rfl ?_
          exact g_iret (pc := 51) hc dX12_spade_51 (by rw [if_pos (ok2_t c1 c2), hx, tn, nI_clamp (by omega)]; (repeat (first | rw [if_pos c3] | rw [if_neg c3] | rw [if_neg (ne_true_of_eq_false c3)] | rw [if_pos c4] | rw [if_neg c4] | rw [if_neg (ne_true_of_eq_false c4)]))) (by rw [if_pos (ok2_t c1 c2), hx, tn, nI_clamp (by omega)]; (repeat (first | rw [if_pos c3] | rw [if_neg c3] | rw [if_neg (ne_true_of_eq_false c3)] | rw [if_pos c4] | rw [if_neg c4] | rw [if_neg (ne_true_of_eq_false c4)])))
      · refine g_iconst (pc := 29) (v := nI 0) hc dX12_spade_29 (by decide) ?_
        refine g_goto (pc := 30) hc 34 dX12_spade_30 (by decide) ?_
        refine g_istore_n (pc := 34) (lv' := [(0, .ref (ad 0)), (1, .int (nI p)), (2, .int y), (3, .int (nI 0))]) hc dX12_spade_34 rfl (by decide) rfl ?_
        refine g_aload_n (pc := 35) hc 0 dX12_spade_35 rfl rfl ?_
        refine gf_m0_isEmpty (pc := 36) hc tw_1014 dX12_spade_36 ?_
        refine g_iload_n (pc := 39) hc 1 dX12_spade_39 rfl rfl ?_
        refine g_iload_n (pc := 40) hc 2 dX12_spade_40 rfl rfl ?_
        refine g_if_ne (pc := 41) hc 48 dX12_spade_41 (by decide) (fun c5 => ?_) (fun c5 => ?_)
        · refine g_iconst (pc := 48) (v := nI 0) hc dX12_spade_48 (by decide) ?_
          refine sa_m9 (pc := 49) hc hA (p) (rfl) (by omega) dX12_spade_49 ?_
          refine g_iload_n (pc := 50) hc 3 dX12_spade_50 rfl rfl ?_
          exact g_iret (pc := 51) hc dX12_spade_51 (by rw [if_pos (ok2_t c1 c2), hx, tn, nI_clamp (by omega)]; (repeat (first | rw [if_pos c3] | rw [if_neg c3] | rw [if_neg (ne_true_of_eq_false c3)] | rw [if_pos c5] | rw [if_neg c5] | rw [if_neg (ne_true_of_eq_false c5)]))) (by rw [if_pos (ok2_t c1 c2), hx, tn, nI_clamp (by omega)]; (repeat (first | rw [if_pos c3] | rw [if_neg c3] | rw [if_neg (ne_true_of_eq_false c3)] | rw [if_pos c5] | rw [if_neg c5] | rw [if_neg (ne_true_of_eq_false c5)])))
        · refine g_iconst (pc := 44) (v := nI 1) hc dX12_spade_44 (by decide) ?_
          refine g_goto (pc := 45) hc 49 dX12_spade_45 (by decide) ?_
          refine sa_m9 (pc := 49) hc hA (p) (rfl) (by omega) dX12_spade_49 ?_
          refine g_iload_n (pc := 50) hc 3 dX12_spade_50 rfl rfl ?_
          exact g_iret (pc := 51) hc dX12_spade_51 (by rw [if_pos (ok2_t c1 c2), hx, tn, nI_clamp (by omega)]; (repeat (first | rw [if_pos c3] | rw [if_neg c3] | rw [if_neg (ne_true_of_eq_false c3)] | rw [if_pos c5] | rw [if_neg c5] | rw [if_neg (ne_true_of_eq_false c5)]))) (by rw [if_pos (ok2_t c1 c2), hx, tn, nI_clamp (by omega)]; (repeat (first | rw [if_pos c3] | rw [if_neg c3] | rw [if_neg (ne_true_of_eq_false c3)] | rw [if_pos c5] | rw [if_neg c5] | rw [if_neg (ne_true_of_eq_false c5)])))
    · refine g_ldc (pc := 17) (v := (-1000000001)) hc tw_1139 dX12_spade_17 ?_
      exact g_iret (pc := 19) hc dX12_spade_19 (by rw [if_neg (ne_true_of_eq_false (ok2_f2 c1 c2))]) (by rw [if_neg (ne_true_of_eq_false (ok2_f2 c1 c2))])

theorem dX12_rule_0 : decode cX12_rule 0 = .ok (.iload_n 1, 1) := by decide +kernel
theorem dX12_rule_1 : decode cX12_rule 1 = .ok (.iconst 0, 1) := by decide +kernel
theorem dX12_rule_2 : decode cX12_rule 2 = .ok (.iconst 1, 1) := by decide +kernel
theorem dX12_rule_3 : decode cX12_rule 3 = .ok (.invokestatic 113, 3) := by decide +kernel
theorem dX12_rule_6 : decode cX12_rule 6 = .ok (.ifCond .eq 18, 3) := by decide +kernel
theorem dX12_rule_9 : decode cX12_rule 9 = .ok (.iload_n 1, 1) := by decide +kernel
theorem dX12_rule_10 : decode cX12_rule 10 = .ok (.iconst 1, 1) := by decide +kernel
theorem dX12_rule_11 : decode cX12_rule 11 = .ok (.if_icmp .ne 16, 3) := by decide +kernel
theorem dX12_rule_14 : decode cX12_rule 14 = .ok (.iload_n 2, 1) := by decide +kernel
theorem dX12_rule_15 : decode cX12_rule 15 = .ok (.iconst 0, 1) := by decide +kernel
theorem dX12_rule_16 : decode cX12_rule 16 = .ok (.bipush 9, 2) := by decide +kernel
theorem dX12_rule_18 : decode cX12_rule 18 = .ok (.invokestatic 113, 3) := by decide +kernel
theorem dX12_rule_21 : decode cX12_rule 21 = .ok (.ifCond .ne 6, 3) := by decide +kernel
theorem dX12_rule_24 : decode cX12_rule 24 = .ok (.ldc 120, 2) := by decide +kernel
theorem dX12_rule_26 : decode cX12_rule 26 = .ok (.ireturn, 1) := by decide +kernel
theorem dX12_rule_27 : decode cX12_rule 27 = .ok (.iload_n 1, 1) := by decide +kernel
theorem dX12_rule_28 : decode cX12_rule 28 = .ok (.ifCond .ne 10, 3) := by decide +kernel
theorem dX12_rule_31 : decode cX12_rule 31 = .ok (.aload_n 0, 1) := by decide +kernel
theorem dX12_rule_32 : decode cX12_rule 32 = .ok (.getfield 45, 3) := by decide +kernel
theorem dX12_rule_35 : decode cX12_rule 35 = .ok (.goto 7, 3) := by decide +kernel
theorem dX12_rule_38 : decode cX12_rule 38 = .ok (.aload_n 0, 1) := by decide +kernel
theorem dX12_rule_39 : decode cX12_rule 39 = .ok (.getfield 188, 3) := by decide +kernel
theorem dX12_rule_42 : decode cX12_rule 42 = .ok (.istore_n 3, 1) := by decide +kernel
theorem dX12_rule_43 : decode cX12_rule 43 = .ok (.iload_n 1, 1) := by decide +kernel
theorem dX12_rule_44 : decode cX12_rule 44 = .ok (.ifCond .ne 11, 3) := by decide +kernel
theorem dX12_rule_47 : decode cX12_rule 47 = .ok (.aload_n 0, 1) := by decide +kernel
theorem dX12_rule_48 : decode cX12_rule 48 = .ok (.iload_n 2, 1) := by decide +kernel
theorem dX12_rule_49 : decode cX12_rule 49 = .ok (.putfield 45, 3) := by decide +kernel
theorem dX12_rule_52 : decode cX12_rule 52 = .ok (.goto 8, 3) := by decide +kernel
theorem dX12_rule_55 : decode cX12_rule 55 = .ok (.aload_n 0, 1) := by decide +kernel
theorem dX12_rule_56 : decode cX12_rule 56 = .ok (.iload_n 2, 1) := by decide +kernel
theorem dX12_rule_57 : decode cX12_rule 57 = .ok (.putfield 188, 3) := by decide +kernel
theorem dX12_rule_60 : decode cX12_rule 60 = .ok (.iload_n 3, 1) := by decide +kernel
theorem dX12_rule_61 : decode cX12_rule 61 = .ok (.ireturn, 1) := by decide +kernel

set_option maxHeartbeats 4000000 in
set_option maxRecDepth 100000 in
theorem c_X12_rule (l : Launch) (E : Ev) {A : Nat → Prop} (ad : Nat → Nat) (hA : Oka 30 ad A) (sc : Nat → Int32) (ar : Nat → Nat → Int32) (la : Nat → Int64)  (x : Int32) (y : Int32)  : Ct l E yX12_rule (.code yX12_rule cX12_rule 4 (some .int)) ({ frames := 1, cells := 0, slots := 0, locals := 22 }) A (mw E ad sc ar la) [.ref (ad 0), .int x, .int y] (some (.int (if rlo x y = true then (if x = 0 then sc 5 else sc 6) else (-1000000001)))) (if rlo x y = true then (if x = 0 then mw E ad (va_up sc 5 y) ar la else mw E ad (va_up sc 6 y) ar la) else mw E ad sc ar la) := by
  refine Ct.of (lv := [(0, .ref (ad 0)), (1, .int x), (2, .int y)]) (by decide +kernel) (Nat.le_of_ble_eq_true rfl) rfl ?_
  intro zp ze zs zm za zb zh zc hc
  refine g_iload_n (pc := 0) hc 1 dX12_rule_0 rfl rfl ?_
  refine g_iconst (pc := 1) (v := nI 0) hc dX12_rule_1 (by decide) ?_
  refine g_iconst (pc := 2) (v := nI 1) hc dX12_rule_2 (by decide) ?_
  refine g_callSi (pc := 3) (rest := []) (As := [.int x, .int (nI 0), .int (nI 1)]) hc (c_X12_isIn l E ad hA sc ar la x (nI 0) (nI 1)) mi_X12_isIn tw_1136 rfl ⟨rfl, rfl, by decide, by decide⟩ (Nat.le_of_ble_eq_true rfl) ⟨Nat.le_refl _, Nat.le_refl _⟩ rfl dX12_rule_3 ?_
  refine g_if_eq_b (pc := 6) hc 24 dX12_rule_6 (by decide) (fun c1 => ?_) (fun c1 => ?_)
  · refine g_ldc (pc := 24) (v := (-1000000001)) hc tw_1139 dX12_rule_24 ?_
    exact g_iret (pc := 26) hc dX12_rule_26 (by rw [if_neg (ne_true_of_eq_false (by unfold rlo; (repeat (first | rw [if_pos c1] | rw [if_neg c1] | rw [if_neg (ne_true_of_eq_false c1)])); try exact c1))]) (by rw [if_neg (ne_true_of_eq_false (by unfold rlo; (repeat (first | rw [if_pos c1] | rw [if_neg c1] | rw [if_neg (ne_true_of_eq_false c1)])); try exact c1))])
  · refine g_iload_n (pc := 9) hc 1 dX12_rule_9 rfl rfl ?_
    refine g_iconst (pc := 10) (v := nI 1) hc dX12_rule_10 (by decide) ?_
    refine g_icmp_ne (pc := 11) hc 27 dX12_rule_11 (by decide) (fun c2 => ?_) (fun c2 => ?_)
    · refine g_iload_n (pc := 27) hc 1 dX12_rule_27 rfl rfl ?_
      refine g_if_ne (pc := 28) hc 38 dX12_rule_28 (by decide) (fun c3 => ?_) (fun c3 => ?_)
      · refine g_aload_n (pc := 38) hc 0 dX12_rule_38 rfl rfl ?_
        refine gf_m0_spare (pc := 39) hc tw_1016 dX12_rule_39 ?_
        refine g_istore_n (pc := 42) (lv' := [(0, .ref (ad 0)), (1, .int x), (2, .int y), (3, .int (sc 6))]) hc dX12_rule_42 rfl (by decide) rfl ?_
        refine g_iload_n (pc := 43) hc 1 dX12_rule_43 rfl rfl ?_
        refine g_if_ne_t (pc := 44) hc 55 dX12_rule_44 (by decide) (c3) ?_
        refine g_aload_n (pc := 55) hc 0 dX12_rule_55 rfl rfl ?_
        refine g_iload_n (pc := 56) hc 2 dX12_rule_56 rfl rfl ?_
        refine pf_m0_spare (pc := 57) hc hA tw_1016 dX12_rule_57 ?_
        refine g_iload_n (pc := 60) hc 3 dX12_rule_60 rfl rfl ?_
        exact g_iret (pc := 61) hc dX12_rule_61 (by rw [if_pos (by unfold rlo; (repeat (first | rw [if_pos c1] | rw [if_neg c1] | rw [if_neg (ne_true_of_eq_false c1)] | rw [if_pos c2] | rw [if_neg c2] | rw [if_neg (ne_true_of_eq_false c2)])); try exact c2)]; (repeat (first | rw [if_pos c3] | rw [if_neg c3] | rw [if_neg (ne_true_of_eq_false c3)]))) (by rw [if_pos (by unfold rlo; (repeat (first | rw [if_pos c1] | rw [if_neg c1] | rw [if_neg (ne_true_of_eq_false c1)] | rw [if_pos c2] | rw [if_neg c2] | rw [if_neg (ne_true_of_eq_false c2)])); try exact c2)]; (repeat (first | rw [if_pos c3] | rw [if_neg c3] | rw [if_neg (ne_true_of_eq_false c3)])))
      · refine g_aload_n (pc := 31) hc 0 dX12_rule_31 rfl rfl ?_
        refine gf_m0_seed (pc := 32) hc tw_1015 dX12_rule_32 ?_
        refine g_goto (pc := 35) hc 42 dX12_rule_35 (by decide) ?_
        refine g_istore_n (pc := 42) (lv' := [(0, .ref (ad 0)), (1, .int x), (2, .int y), (3, .int (sc 5))]) hc dX12_rule_42 rfl (by decide) rfl ?_
        refine g_iload_n (pc := 43) hc 1 dX12_rule_43 rfl rfl ?_
        refine g_if_ne_f (pc := 44) hc 55 dX12_rule_44 (by decide) (by simp [c3]) ?_
        refine g_aload_n (pc := 47) hc 0 dX12_rule_47 rfl rfl ?_
        refine g_iload_n (pc := 48) hc 2 dX12_rule_48 rfl rfl ?_
        refine pf_m0_seed (pc := 49) hc hA tw_1015 dX12_rule_49 ?_
        refine g_goto (pc := 52) hc 60 dX12_rule_52 (by decide) ?_
        refine g_iload_n (pc := 60) hc 3 dX12_rule_60 rfl rfl ?_
        exact g_iret (pc := 61) hc dX12_rule_61 (by rw [if_pos (by unfold rlo; (repeat (first | rw [if_pos c1] | rw [if_neg c1] | rw [if_neg (ne_true_of_eq_false c1)] | rw [if_pos c2] | rw [if_neg c2] | rw [if_neg (ne_true_of_eq_false c2)])); try exact c2)]; (repeat (first | rw [if_pos c3] | rw [if_neg c3] | rw [if_neg (ne_true_of_eq_false c3)]))) (by rw [if_pos (by unfold rlo; (repeat (first | rw [if_pos c1] | rw [if_neg c1] | rw [if_neg (ne_true_of_eq_false c1)] | rw [if_pos c2] | rw [if_neg c2] | rw [if_neg (ne_true_of_eq_false c2)])); try exact c2)]; (repeat (first | rw [if_pos c3] | rw [if_neg c3] | rw [if_neg (ne_true_of_eq_false c3)])))
    · refine g_iload_n (pc := 14) hc 2 dX12_rule_14 rfl rfl ?_
      refine g_iconst (pc := 15) (v := nI 0) hc dX12_rule_15 (by decide) ?_
      refine g_bipush (pc := 16) (v := nI 9) hc dX12_rule_16 (by decide) ?_
      refine g_callSi (pc := 18) (rest := []) (As := [.int y, .int (nI 0), .int (nI 9)]) hc (c_X12_isIn l E ad hA sc ar la y (nI 0) (nI 9)) mi_X12_isIn tw_1136 rfl ⟨rfl, rfl, by decide, by decide⟩ (Nat.le_of_ble_eq_true rfl) ⟨Nat.le_refl _, Nat.le_refl _⟩ rfl dX12_rule_18 ?_
      refine g_if_ne_b (pc := 21) hc 27 dX12_rule_21 (by decide) (fun c4 => ?_) (fun c4 => ?_)
      · refine g_iload_n (pc := 27) hc 1 dX12_rule_27 rfl rfl ?_
        refine g_if_ne (pc := 28) hc 38 dX12_rule_28 (by decide) (fun c5 => ?_) (fun c5 => ?_)
        · refine g_aload_n (pc := 38) hc 0 dX12_rule_38 rfl rfl ?_
          refine gf_m0_spare (pc := 39) hc tw_1016 dX12_rule_39 ?_
          refine g_istore_n (pc := 42) (lv' := [(0, .ref (ad 0)), (1, .int x), (2, .int y), (3, .int (sc 6))]) hc dX12_rule_42 rfl (by decide) rfl ?_
          refine g_iload_n (pc := 43) hc 1 dX12_rule_43 rfl rfl ?_
          refine g_if_ne_t (pc := 44) hc 55 dX12_rule_44 (by decide) (c5) ?_
          refine g_aload_n (pc := 55) hc 0 dX12_rule_55 rfl rfl ?_
          refine g_iload_n (pc := 56) hc 2 dX12_rule_56 rfl rfl ?_
          refine pf_m0_spare (pc := 57) hc hA tw_1016 dX12_rule_57 ?_
          refine g_iload_n (pc := 60) hc 3 dX12_rule_60 rfl rfl ?_
          exact g_iret (pc := 61) hc dX12_rule_61 (by rw [if_pos (by unfold rlo; (repeat (first | rw [if_pos c1] | rw [if_neg c1] | rw [if_neg (ne_true_of_eq_false c1)] | rw [if_pos c2] | rw [if_neg c2] | rw [if_neg (ne_true_of_eq_false c2)] | rw [if_pos c4] | rw [if_neg c4] | rw [if_neg (ne_true_of_eq_false c4)])); try exact c4)]; (repeat (first | rw [if_pos c5] | rw [if_neg c5] | rw [if_neg (ne_true_of_eq_false c5)]))) (by rw [if_pos (by unfold rlo; (repeat (first | rw [if_pos c1] | rw [if_neg c1] | rw [if_neg (ne_true_of_eq_false c1)] | rw [if_pos c2] | rw [if_neg c2] | rw [if_neg (ne_true_of_eq_false c2)] | rw [if_pos c4] | rw [if_neg c4] | rw [if_neg (ne_true_of_eq_false c4)])); try exact c4)]; (repeat (first | rw [if_pos c5] | rw [if_neg c5] | rw [if_neg (ne_true_of_eq_false c5)])))
        · refine g_aload_n (pc := 31) hc 0 dX12_rule_31 rfl rfl ?_
          refine gf_m0_seed (pc := 32) hc tw_1015 dX12_rule_32 ?_
          refine g_goto (pc := 35) hc 42 dX12_rule_35 (by decide) ?_
          refine g_istore_n (pc := 42) (lv' := [(0, .ref (ad 0)), (1, .int x), (2, .int y), (3, .int (sc 5))]) hc dX12_rule_42 rfl (by decide) rfl ?_
          refine g_iload_n (pc := 43) hc 1 dX12_rule_43 rfl rfl ?_
          refine g_if_ne_f (pc := 44) hc 55 dX12_rule_44 (by decide) (by simp [c5]) ?_
          refine g_aload_n (pc := 47) hc 0 dX12_rule_47 rfl rfl ?_
          refine g_iload_n (pc := 48) hc 2 dX12_rule_48 rfl rfl ?_
          refine pf_m0_seed (pc := 49) hc hA tw_1015 dX12_rule_49 ?_
          refine g_goto (pc := 52) hc 60 dX12_rule_52 (by decide) ?_
          refine g_iload_n (pc := 60) hc 3 dX12_rule_60 rfl rfl ?_
          exact g_iret (pc := 61) hc dX12_rule_61 (by rw [if_pos (by unfold rlo; (repeat (first | rw [if_pos c1] | rw [if_neg c1] | rw [if_neg (ne_true_of_eq_false c1)] | rw [if_pos c2] | rw [if_neg c2] | rw [if_neg (ne_true_of_eq_false c2)] | rw [if_pos c4] | rw [if_neg c4] | rw [if_neg (ne_true_of_eq_false c4)])); try exact c4)]; (repeat (first | rw [if_pos c5] | rw [if_neg c5] | rw [if_neg (ne_true_of_eq_false c5)]))) (by rw [if_pos (by unfold rlo; (repeat (first | rw [if_pos c1] | rw [if_neg c1] | rw [if_neg (ne_true_of_eq_false c1)] | rw [if_pos c2] | rw [if_neg c2] | rw [if_neg (ne_true_of_eq_false c2)] | rw [if_pos c4] | rw [if_neg c4] | rw [if_neg (ne_true_of_eq_false c4)])); try exact c4)]; (repeat (first | rw [if_pos c5] | rw [if_neg c5] | rw [if_neg (ne_true_of_eq_false c5)])))
      · refine g_ldc (pc := 24) (v := (-1000000001)) hc tw_1139 dX12_rule_24 ?_
        exact g_iret (pc := 26) hc dX12_rule_26 (by rw [if_neg (ne_true_of_eq_false (by unfold rlo; (repeat (first | rw [if_pos c1] | rw [if_neg c1] | rw [if_neg (ne_true_of_eq_false c1)] | rw [if_pos c2] | rw [if_neg c2] | rw [if_neg (ne_true_of_eq_false c2)] | rw [if_pos c4] | rw [if_neg c4] | rw [if_neg (ne_true_of_eq_false c4)])); try exact c4))]) (by rw [if_neg (ne_true_of_eq_false (by unfold rlo; (repeat (first | rw [if_pos c1] | rw [if_neg c1] | rw [if_neg (ne_true_of_eq_false c1)] | rw [if_pos c2] | rw [if_neg c2] | rw [if_neg (ne_true_of_eq_false c2)] | rw [if_pos c4] | rw [if_neg c4] | rw [if_neg (ne_true_of_eq_false c4)])); try exact c4))])

theorem dX12_besideMany_0 : decode cX12_besideMany 0 = .ok (.iload_n 1, 1) := by decide +kernel
theorem dX12_besideMany_1 : decode cX12_besideMany 1 = .ok (.aload_n 0, 1) := by decide +kernel
theorem dX12_besideMany_2 : decode cX12_besideMany 2 = .ok (.getfield 7, 3) := by decide +kernel
theorem dX12_besideMany_5 : decode cX12_besideMany 5 = .ok (.irem, 1) := by decide +kernel
theorem dX12_besideMany_6 : decode cX12_besideMany 6 = .ok (.ifCond .le 7, 3) := by decide +kernel
theorem dX12_besideMany_9 : decode cX12_besideMany 9 = .ok (.iconst 1, 1) := by decide +kernel
theorem dX12_besideMany_10 : decode cX12_besideMany 10 = .ok (.goto 4, 3) := by decide +kernel
theorem dX12_besideMany_13 : decode cX12_besideMany 13 = .ok (.iconst 0, 1) := by decide +kernel
theorem dX12_besideMany_14 : decode cX12_besideMany 14 = .ok (.istore_n 2, 1) := by decide +kernel
theorem dX12_besideMany_15 : decode cX12_besideMany 15 = .ok (.iload_n 2, 1) := by decide +kernel
theorem dX12_besideMany_16 : decode cX12_besideMany 16 = .ok (.iload_n 1, 1) := by decide +kernel
theorem dX12_besideMany_17 : decode cX12_besideMany 17 = .ok (.aload_n 0, 1) := by decide +kernel
theorem dX12_besideMany_18 : decode cX12_besideMany 18 = .ok (.getfield 7, 3) := by decide +kernel
theorem dX12_besideMany_21 : decode cX12_besideMany 21 = .ok (.irem, 1) := by decide +kernel
theorem dX12_besideMany_22 : decode cX12_besideMany 22 = .ok (.aload_n 0, 1) := by decide +kernel
theorem dX12_besideMany_23 : decode cX12_besideMany 23 = .ok (.getfield 7, 3) := by decide +kernel
theorem dX12_besideMany_26 : decode cX12_besideMany 26 = .ok (.iconst 1, 1) := by decide +kernel
theorem dX12_besideMany_27 : decode cX12_besideMany 27 = .ok (.isub, 1) := by decide +kernel
theorem dX12_besideMany_28 : decode cX12_besideMany 28 = .ok (.if_icmp .ge 7, 3) := by decide +kernel
theorem dX12_besideMany_31 : decode cX12_besideMany 31 = .ok (.iconst 1, 1) := by decide +kernel
theorem dX12_besideMany_32 : decode cX12_besideMany 32 = .ok (.goto 4, 3) := by decide +kernel
theorem dX12_besideMany_35 : decode cX12_besideMany 35 = .ok (.iconst 0, 1) := by decide +kernel
theorem dX12_besideMany_36 : decode cX12_besideMany 36 = .ok (.iadd, 1) := by decide +kernel
theorem dX12_besideMany_37 : decode cX12_besideMany 37 = .ok (.istore_n 2, 1) := by decide +kernel
theorem dX12_besideMany_38 : decode cX12_besideMany 38 = .ok (.iload_n 2, 1) := by decide +kernel
theorem dX12_besideMany_39 : decode cX12_besideMany 39 = .ok (.iload_n 1, 1) := by decide +kernel
theorem dX12_besideMany_40 : decode cX12_besideMany 40 = .ok (.aload_n 0, 1) := by decide +kernel
theorem dX12_besideMany_41 : decode cX12_besideMany 41 = .ok (.getfield 7, 3) := by decide +kernel
theorem dX12_besideMany_44 : decode cX12_besideMany 44 = .ok (.if_icmp .lt 7, 3) := by decide +kernel
theorem dX12_besideMany_47 : decode cX12_besideMany 47 = .ok (.iconst 1, 1) := by decide +kernel
theorem dX12_besideMany_48 : decode cX12_besideMany 48 = .ok (.goto 4, 3) := by decide +kernel
theorem dX12_besideMany_51 : decode cX12_besideMany 51 = .ok (.iconst 0, 1) := by decide +kernel
theorem dX12_besideMany_52 : decode cX12_besideMany 52 = .ok (.iadd, 1) := by decide +kernel
theorem dX12_besideMany_53 : decode cX12_besideMany 53 = .ok (.istore_n 2, 1) := by decide +kernel
theorem dX12_besideMany_54 : decode cX12_besideMany 54 = .ok (.iload_n 2, 1) := by decide +kernel
theorem dX12_besideMany_55 : decode cX12_besideMany 55 = .ok (.iload_n 1, 1) := by decide +kernel
theorem dX12_besideMany_56 : decode cX12_besideMany 56 = .ok (.aload_n 0, 1) := by decide +kernel
theorem dX12_besideMany_57 : decode cX12_besideMany 57 = .ok (.getfield 7, 3) := by decide +kernel
theorem dX12_besideMany_60 : decode cX12_besideMany 60 = .ok (.iadd, 1) := by decide +kernel
theorem dX12_besideMany_61 : decode cX12_besideMany 61 = .ok (.aload_n 0, 1) := by decide +kernel
theorem dX12_besideMany_62 : decode cX12_besideMany 62 = .ok (.invokevirtual 109, 3) := by decide +kernel
theorem dX12_besideMany_65 : decode cX12_besideMany 65 = .ok (.if_icmp .ge 7, 3) := by decide +kernel
theorem dX12_besideMany_68 : decode cX12_besideMany 68 = .ok (.iconst 1, 1) := by decide +kernel
theorem dX12_besideMany_69 : decode cX12_besideMany 69 = .ok (.goto 4, 3) := by decide +kernel
theorem dX12_besideMany_72 : decode cX12_besideMany 72 = .ok (.iconst 0, 1) := by decide +kernel
theorem dX12_besideMany_73 : decode cX12_besideMany 73 = .ok (.iadd, 1) := by decide +kernel
theorem dX12_besideMany_74 : decode cX12_besideMany 74 = .ok (.ireturn, 1) := by decide +kernel

set_option maxHeartbeats 4000000 in
set_option maxRecDepth 100000 in
theorem c_X12_besideMany (l : Launch) (E : Ev) {A : Nat → Prop} (ad : Nat → Nat) (hA : Oka 30 ad A) (sc : Nat → Int32) (ar : Nat → Nat → Int32) (la : Nat → Int64) {wd hg : Nat} (p : Nat) (hwd : sc 0 = nI wd) (hwd1 : 2 ≤ wd) (hwd2 : wd ≤ 8) (hhg : sc 1 = nI hg) (hhg1 : 2 ≤ hg) (hhg2 : hg ≤ 8) (hp : p < wd * hg) : Ct l E yX12_besideMany (.code yX12_besideMany cX12_besideMany 3 (some .int)) ({ frames := 1, cells := 0, slots := 0, locals := 20 }) A (mw E ad sc ar la) [.ref (ad 0), .int (nI p)] (some (.int (nI (sdN wd hg p)))) (mw E ad sc ar la) := by
  have hm := prod64 hwd2 hhg2
  have hcol : p % wd < wd := Nat.mod_lt _ (by omega)
  refine Ct.of (lv := [(0, .ref (ad 0)), (1, .int (nI p))]) (by decide +kernel) (Nat.le_of_ble_eq_true rfl) rfl ?_
  intro zp ze zs zm za zb zh zc hc
  refine g_iload_n (pc := 0) hc 1 dX12_besideMany_0 rfl rfl ?_
  refine g_aload_n (pc := 1) hc 0 dX12_besideMany_1 rfl rfl ?_
  refine gf_m0_wide (pc := 2) hc tw_1001 dX12_besideMany_2 ?_
  refine g_topi (v := nI wd) (hwd) ?_
  refine g_irem (pc := 5) hc dX12_besideMany_5 (nI_ne0 (by omega) (by omega)) ?_
  refine g_topi (v := nI (p % wd)) (pk_rem (by omega) (by omega) (by omega)) ?_
  refine g_if_le (pc := 6) hc 13 dX12_besideMany_6 (by decide) (fun c1 => ?_) (fun c1 => ?_)
  · refine g_iconst (pc := 13) (v := nI 0) hc dX12_besideMany_13 (by decide) ?_
    refine g_topi (v := bI (sdL wd p)) (mbI_f (sL_f c1 (by omega))) ?_
    refine g_istore_n (pc := 14) (lv' := [(0, .ref (ad 0)), (1, .int (nI p)), (2, .int (bI (sdL wd p)))]) hc dX12_besideMany_14 rfl (by decide) rfl ?_
    refine g_iload_n (pc := 15) hc 2 dX12_besideMany_15 rfl rfl ?_
    refine g_iload_n (pc := 16) hc 1 dX12_besideMany_16 rfl rfl ?_
    refine g_aload_n (pc := 17) hc 0 dX12_besideMany_17 rfl rfl ?_
    refine gf_m0_wide (pc := 18) hc tw_1001 dX12_besideMany_18 ?_
    refine g_topi (v := nI wd) (hwd) ?_
    refine g_irem (pc := 21) hc dX12_besideMany_21 (nI_ne0 (by omega) (by omega)) ?_
    refine g_topi (v := nI (p % wd)) (pk_rem (by omega) (by omega) (by omega)) ?_
    refine g_aload_n (pc := 22) hc 0 dX12_besideMany_22 rfl rfl ?_
    refine gf_m0_wide (pc := 23) hc tw_1001 dX12_besideMany_23 ?_
    refine g_topi (v := nI wd) (hwd) ?_
    refine g_iconst (pc := 26) (v := nI 1) hc dX12_besideMany_26 (by decide) ?_
    refine g_isub (pc := 27) hc dX12_besideMany_27 ?_
    refine g_topi (v := nI (wd - 1)) (pk_sub (by omega)) ?_
    refine g_icmp_ge (pc := 28) hc 35 dX12_besideMany_28 (by decide) (fun c2 => ?_) (fun c2 => ?_)
    · refine g_iconst (pc := 35) (v := nI 0) hc dX12_besideMany_35 (by decide) ?_
      refine g_topi (v := bI (sdR wd p)) (mbI_f (sR_f c2 (by omega) (by omega))) ?_
      refine g_iadd (pc := 36) hc dX12_besideMany_36 ?_
      refine g_istore_n (pc := 37) (lv' := [(0, .ref (ad 0)), (1, .int (nI p)), (2, .int ((bI (sdL wd p)) + (bI (sdR wd p))))]) hc dX12_besideMany_37 rfl (by decide) rfl ?_
      refine g_iload_n (pc := 38) hc 2 dX12_besideMany_38 rfl rfl ?_
      refine g_iload_n (pc := 39) hc 1 dX12_besideMany_39 rfl rfl ?_
      refine g_aload_n (pc := 40) hc 0 dX12_besideMany_40 rfl rfl ?_
      refine gf_m0_wide (pc := 41) hc tw_1001 dX12_besideMany_41 ?_
      refine g_topi (v := nI wd) (hwd) ?_
      refine g_icmp_lt (pc := 44) hc 51 dX12_besideMany_44 (by decide) (fun c3 => ?_) (fun c3 => ?_)
      · refine g_iconst (pc := 51) (v := nI 0) hc dX12_besideMany_51 (by decide) ?_
        refine g_topi (v := bI (sdU wd p)) (mbI_f (sU_f c3 (by omega) (by omega))) ?_
        refine g_iadd (pc := 52) hc dX12_besideMany_52 ?_
        refine g_istore_n (pc := 53) (lv' := [(0, .ref (ad 0)), (1, .int (nI p)), (2, .int (((bI (sdL wd p)) + (bI (sdR wd p))) + (bI (sdU wd p))))]) hc dX12_besideMany_53 rfl (by decide) rfl ?_
        refine g_iload_n (pc := 54) hc 2 dX12_besideMany_54 rfl rfl ?_
        refine g_iload_n (pc := 55) hc 1 dX12_besideMany_55 rfl rfl ?_
        refine g_aload_n (pc := 56) hc 0 dX12_besideMany_56 rfl rfl ?_
        refine gf_m0_wide (pc := 57) hc tw_1001 dX12_besideMany_57 ?_
        refine g_topi (v := nI wd) (hwd) ?_
        refine g_iadd (pc := 60) hc dX12_besideMany_60 ?_
        refine g_topi (v := nI (p + wd)) (nI_add p wd) ?_
        refine g_aload_n (pc := 61) hc 0 dX12_besideMany_61 rfl rfl ?_
        refine g_callVi (pc := 62) (rest := [.int (nI (p + wd)), .int (((bI (sdL wd p)) + (bI (sdR wd p))) + (bI (sdU wd p)))]) (As := []) hc (c_X12_paces l E ad hA sc ar la  (hwd) (hwd1) (hwd2) (hhg) (hhg1) (hhg2)) mi_X12_paces tw_1140 0 rfl rfl rfl rfl ⟨rfl, rfl, by decide, by decide⟩ (Nat.le_of_ble_eq_true rfl) ⟨Nat.le_refl _, Nat.le_refl _⟩ rfl dX12_besideMany_62 ?_
        refine g_icmp_ge (pc := 65) hc 72 dX12_besideMany_65 (by decide) (fun c4 => ?_) (fun c4 => ?_)
        · refine g_iconst (pc := 72) (v := nI 0) hc dX12_besideMany_72 (by decide) ?_
          refine g_topi (v := bI (sdD wd hg p)) (mbI_f (sD_f c4 hp hwd1 hm hwd2)) ?_
          refine g_iadd (pc := 73) hc dX12_besideMany_73 ?_
          exact g_iret (pc := 74) hc dX12_besideMany_74 (by rw [bI_bN, bI_bN, bI_bN, bI_bN, nI_add, nI_add, nI_add]; rfl) (rfl)
        · refine g_iconst (pc := 68) (v := nI 1) hc dX12_besideMany_68 (by decide) ?_
          refine g_goto (pc := 69) hc 73 dX12_besideMany_69 (by decide) ?_
          refine g_topi (v := bI (sdD wd hg p)) (mbI_t (sD_t c4 hp hwd1 hm hwd2)) ?_
          refine g_iadd (pc := 73) hc dX12_besideMany_73 ?_
          exact g_iret (pc := 74) hc dX12_besideMany_74 (by rw [bI_bN, bI_bN, bI_bN, bI_bN, nI_add, nI_add, nI_add]; rfl) (rfl)
      · refine g_iconst (pc := 47) (v := nI 1) hc dX12_besideMany_47 (by decide) ?_
        refine g_goto (pc := 48) hc 52 dX12_besideMany_48 (by decide) ?_
        refine g_topi (v := bI (sdU wd p)) (mbI_t (sU_t c3 (by omega) (by omega) hwd1)) ?_
        refine g_iadd (pc := 52) hc dX12_besideMany_52 ?_
        refine g_istore_n (pc := 53) (lv' := [(0, .ref (ad 0)), (1, .int (nI p)), (2, .int (((bI (sdL wd p)) + (bI (sdR wd p))) + (bI (sdU wd p))))]) hc dX12_besideMany_53 rfl (by decide) rfl ?_
        refine g_iload_n (pc := 54) hc 2 dX12_besideMany_54 rfl rfl ?_
        refine g_iload_n (pc := 55) hc 1 dX12_besideMany_55 rfl rfl ?_
        refine g_aload_n (pc := 56) hc 0 dX12_besideMany_56 rfl rfl ?_
        refine gf_m0_wide (pc := 57) hc tw_1001 dX12_besideMany_57 ?_
        refine g_topi (v := nI wd) (hwd) ?_
        refine g_iadd (pc := 60) hc dX12_besideMany_60 ?_
        refine g_topi (v := nI (p + wd)) (nI_add p wd) ?_
        refine g_aload_n (pc := 61) hc 0 dX12_besideMany_61 rfl rfl ?_
        refine g_callVi (pc := 62) (rest := [.int (nI (p + wd)), .int (((bI (sdL wd p)) + (bI (sdR wd p))) + (bI (sdU wd p)))]) (As := []) hc (c_X12_paces l E ad hA sc ar la  (hwd) (hwd1) (hwd2) (hhg) (hhg1) (hhg2)) mi_X12_paces tw_1140 0 rfl rfl rfl rfl ⟨rfl, rfl, by decide, by decide⟩ (Nat.le_of_ble_eq_true rfl) ⟨Nat.le_refl _, Nat.le_refl _⟩ rfl dX12_besideMany_62 ?_
        refine g_icmp_ge (pc := 65) hc 72 dX12_besideMany_65 (by decide) (fun c5 => ?_) (fun c5 => ?_)
        · refine g_iconst (pc := 72) (v := nI 0) hc dX12_besideMany_72 (by decide) ?_
          refine g_topi (v := bI (sdD wd hg p)) (mbI_f (sD_f c5 hp hwd1 hm hwd2)) ?_
          refine g_iadd (pc := 73) hc dX12_besideMany_73 ?_
          exact g_iret (pc := 74) hc dX12_besideMany_74 (by rw [bI_bN, bI_bN, bI_bN, bI_bN, nI_add, nI_add, nI_add]; rfl) (rfl)
        · refine g_iconst (pc := 68) (v := nI 1) hc dX12_besideMany_68 (by decide) ?_
          refine g_goto (pc := 69) hc 73 dX12_besideMany_69 (by decide) ?_
          refine g_topi (v := bI (sdD wd hg p)) (mbI_t (sD_t c5 hp hwd1 hm hwd2)) ?_
          refine g_iadd (pc := 73) hc dX12_besideMany_73 ?_
          exact g_iret (pc := 74) hc dX12_besideMany_74 (by rw [bI_bN, bI_bN, bI_bN, bI_bN, nI_add, nI_add, nI_add]; rfl) (rfl)
    · refine g_iconst (pc := 31) (v := nI 1) hc dX12_besideMany_31 (by decide) ?_
      refine g_goto (pc := 32) hc 36 dX12_besideMany_32 (by decide) ?_
      refine g_topi (v := bI (sdR wd p)) (mbI_t (sR_t c2 (by omega) (by omega))) ?_
      refine g_iadd (pc := 36) hc dX12_besideMany_36 ?_
      refine g_istore_n (pc := 37) (lv' := [(0, .ref (ad 0)), (1, .int (nI p)), (2, .int ((bI (sdL wd p)) + (bI (sdR wd p))))]) hc dX12_besideMany_37 rfl (by decide) rfl ?_
      refine g_iload_n (pc := 38) hc 2 dX12_besideMany_38 rfl rfl ?_
      refine g_iload_n (pc := 39) hc 1 dX12_besideMany_39 rfl rfl ?_
      refine g_aload_n (pc := 40) hc 0 dX12_besideMany_40 rfl rfl ?_
      refine gf_m0_wide (pc := 41) hc tw_1001 dX12_besideMany_41 ?_
      refine g_topi (v := nI wd) (hwd) ?_
      refine g_icmp_lt (pc := 44) hc 51 dX12_besideMany_44 (by decide) (fun c6 => ?_) (fun c6 => ?_)
      · refine g_iconst (pc := 51) (v := nI 0) hc dX12_besideMany_51 (by decide) ?_
        refine g_topi (v := bI (sdU wd p)) (mbI_f (sU_f c6 (by omega) (by omega))) ?_
        refine g_iadd (pc := 52) hc dX12_besideMany_52 ?_
        refine g_istore_n (pc := 53) (lv' := [(0, .ref (ad 0)), (1, .int (nI p)), (2, .int (((bI (sdL wd p)) + (bI (sdR wd p))) + (bI (sdU wd p))))]) hc dX12_besideMany_53 rfl (by decide) rfl ?_
        refine g_iload_n (pc := 54) hc 2 dX12_besideMany_54 rfl rfl ?_
        refine g_iload_n (pc := 55) hc 1 dX12_besideMany_55 rfl rfl ?_
        refine g_aload_n (pc := 56) hc 0 dX12_besideMany_56 rfl rfl ?_
        refine gf_m0_wide (pc := 57) hc tw_1001 dX12_besideMany_57 ?_
        refine g_topi (v := nI wd) (hwd) ?_
        refine g_iadd (pc := 60) hc dX12_besideMany_60 ?_
        refine g_topi (v := nI (p + wd)) (nI_add p wd) ?_
        refine g_aload_n (pc := 61) hc 0 dX12_besideMany_61 rfl rfl ?_
        refine g_callVi (pc := 62) (rest := [.int (nI (p + wd)), .int (((bI (sdL wd p)) + (bI (sdR wd p))) + (bI (sdU wd p)))]) (As := []) hc (c_X12_paces l E ad hA sc ar la  (hwd) (hwd1) (hwd2) (hhg) (hhg1) (hhg2)) mi_X12_paces tw_1140 0 rfl rfl rfl rfl ⟨rfl, rfl, by decide, by decide⟩ (Nat.le_of_ble_eq_true rfl) ⟨Nat.le_refl _, Nat.le_refl _⟩ rfl dX12_besideMany_62 ?_
        refine g_icmp_ge (pc := 65) hc 72 dX12_besideMany_65 (by decide) (fun c7 => ?_) (fun c7 => ?_)
        · refine g_iconst (pc := 72) (v := nI 0) hc dX12_besideMany_72 (by decide) ?_
          refine g_topi (v := bI (sdD wd hg p)) (mbI_f (sD_f c7 hp hwd1 hm hwd2)) ?_
          refine g_iadd (pc := 73) hc dX12_besideMany_73 ?_
          exact g_iret (pc := 74) hc dX12_besideMany_74 (by rw [bI_bN, bI_bN, bI_bN, bI_bN, nI_add, nI_add, nI_add]; rfl) (rfl)
        · refine g_iconst (pc := 68) (v := nI 1) hc dX12_besideMany_68 (by decide) ?_
          refine g_goto (pc := 69) hc 73 dX12_besideMany_69 (by decide) ?_
          refine g_topi (v := bI (sdD wd hg p)) (mbI_t (sD_t c7 hp hwd1 hm hwd2)) ?_
          refine g_iadd (pc := 73) hc dX12_besideMany_73 ?_
          exact g_iret (pc := 74) hc dX12_besideMany_74 (by rw [bI_bN, bI_bN, bI_bN, bI_bN, nI_add, nI_add, nI_add]; rfl) (rfl)
      · refine g_iconst (pc := 47) (v := nI 1) hc dX12_besideMany_47 (by decide) ?_
        refine g_goto (pc := 48) hc 52 dX12_besideMany_48 (by decide) ?_
        refine g_topi (v := bI (sdU wd p)) (mbI_t (sU_t c6 (by omega) (by omega) hwd1)) ?_
        refine g_iadd (pc := 52) hc dX12_besideMany_52 ?_
        refine g_istore_n (pc := 53) (lv' := [(0, .ref (ad 0)), (1, .int (nI p)), (2, .int (((bI (sdL wd p)) + (bI (sdR wd p))) + (bI (sdU wd p))))]) hc dX12_besideMany_53 rfl (by decide) rfl ?_
        refine g_iload_n (pc := 54) hc 2 dX12_besideMany_54 rfl rfl ?_
        refine g_iload_n (pc := 55) hc 1 dX12_besideMany_55 rfl rfl ?_
        refine g_aload_n (pc := 56) hc 0 dX12_besideMany_56 rfl rfl ?_
        refine gf_m0_wide (pc := 57) hc tw_1001 dX12_besideMany_57 ?_
        refine g_topi (v := nI wd) (hwd) ?_
        refine g_iadd (pc := 60) hc dX12_besideMany_60 ?_
        refine g_topi (v := nI (p + wd)) (nI_add p wd) ?_
        refine g_aload_n (pc := 61) hc 0 dX12_besideMany_61 rfl rfl ?_
        refine g_callVi (pc := 62) (rest := [.int (nI (p + wd)), .int (((bI (sdL wd p)) + (bI (sdR wd p))) + (bI (sdU wd p)))]) (As := []) hc (c_X12_paces l E ad hA sc ar la  (hwd) (hwd1) (hwd2) (hhg) (hhg1) (hhg2)) mi_X12_paces tw_1140 0 rfl rfl rfl rfl ⟨rfl, rfl, by decide, by decide⟩ (Nat.le_of_ble_eq_true rfl) ⟨Nat.le_refl _, Nat.le_refl _⟩ rfl dX12_besideMany_62 ?_
        refine g_icmp_ge (pc := 65) hc 72 dX12_besideMany_65 (by decide) (fun c8 => ?_) (fun c8 => ?_)
        · refine g_iconst (pc := 72) (v := nI 0) hc dX12_besideMany_72 (by decide) ?_
          refine g_topi (v := bI (sdD wd hg p)) (mbI_f (sD_f c8 hp hwd1 hm hwd2)) ?_
          refine g_iadd (pc := 73) hc dX12_besideMany_73 ?_
          exact g_iret (pc := 74) hc dX12_besideMany_74 (by rw [bI_bN, bI_bN, bI_bN, bI_bN, nI_add, nI_add, nI_add]; rfl) (rfl)
        · refine g_iconst (pc := 68) (v := nI 1) hc dX12_besideMany_68 (by decide) ?_
          refine g_goto (pc := 69) hc 73 dX12_besideMany_69 (by decide) ?_
          refine g_topi (v := bI (sdD wd hg p)) (mbI_t (sD_t c8 hp hwd1 hm hwd2)) ?_
          refine g_iadd (pc := 73) hc dX12_besideMany_73 ?_
          exact g_iret (pc := 74) hc dX12_besideMany_74 (by rw [bI_bN, bI_bN, bI_bN, bI_bN, nI_add, nI_add, nI_add]; rfl) (rfl)
  · refine g_iconst (pc := 9) (v := nI 1) hc dX12_besideMany_9 (by decide) ?_
    refine g_goto (pc := 10) hc 14 dX12_besideMany_10 (by decide) ?_
    refine g_topi (v := bI (sdL wd p)) (mbI_t (sL_t c1)) ?_
    refine g_istore_n (pc := 14) (lv' := [(0, .ref (ad 0)), (1, .int (nI p)), (2, .int (bI (sdL wd p)))]) hc dX12_besideMany_14 rfl (by decide) rfl ?_
    refine g_iload_n (pc := 15) hc 2 dX12_besideMany_15 rfl rfl ?_
    refine g_iload_n (pc := 16) hc 1 dX12_besideMany_16 rfl rfl ?_
    refine g_aload_n (pc := 17) hc 0 dX12_besideMany_17 rfl rfl ?_
    refine gf_m0_wide (pc := 18) hc tw_1001 dX12_besideMany_18 ?_
    refine g_topi (v := nI wd) (hwd) ?_
    refine g_irem (pc := 21) hc dX12_besideMany_21 (nI_ne0 (by omega) (by omega)) ?_
    refine g_topi (v := nI (p % wd)) (pk_rem (by omega) (by omega) (by omega)) ?_
    refine g_aload_n (pc := 22) hc 0 dX12_besideMany_22 rfl rfl ?_
    refine gf_m0_wide (pc := 23) hc tw_1001 dX12_besideMany_23 ?_
    refine g_topi (v := nI wd) (hwd) ?_
    refine g_iconst (pc := 26) (v := nI 1) hc dX12_besideMany_26 (by decide) ?_
    refine g_isub (pc := 27) hc dX12_besideMany_27 ?_
    refine g_topi (v := nI (wd - 1)) (pk_sub (by omega)) ?_
    refine g_icmp_ge (pc := 28) hc 35 dX12_besideMany_28 (by decide) (fun c9 => ?_) (fun c9 => ?_)
    · refine g_iconst (pc := 35) (v := nI 0) hc dX12_besideMany_35 (by decide) ?_
      refine g_topi (v := bI (sdR wd p)) (mbI_f (sR_f c9 (by omega) (by omega))) ?_
      refine g_iadd (pc := 36) hc dX12_besideMany_36 ?_
      refine g_istore_n (pc := 37) (lv' := [(0, .ref (ad 0)), (1, .int (nI p)), (2, .int ((bI (sdL wd p)) + (bI (sdR wd p))))]) hc dX12_besideMany_37 rfl (by decide) rfl ?_
      refine g_iload_n (pc := 38) hc 2 dX12_besideMany_38 rfl rfl ?_
      refine g_iload_n (pc := 39) hc 1 dX12_besideMany_39 rfl rfl ?_
      refine g_aload_n (pc := 40) hc 0 dX12_besideMany_40 rfl rfl ?_
      refine gf_m0_wide (pc := 41) hc tw_1001 dX12_besideMany_41 ?_
      refine g_topi (v := nI wd) (hwd) ?_
      refine g_icmp_lt (pc := 44) hc 51 dX12_besideMany_44 (by decide) (fun c10 => ?_) (fun c10 => ?_)
      · refine g_iconst (pc := 51) (v := nI 0) hc dX12_besideMany_51 (by decide) ?_
        refine g_topi (v := bI (sdU wd p)) (mbI_f (sU_f c10 (by omega) (by omega))) ?_
        refine g_iadd (pc := 52) hc dX12_besideMany_52 ?_
        refine g_istore_n (pc := 53) (lv' := [(0, .ref (ad 0)), (1, .int (nI p)), (2, .int (((bI (sdL wd p)) + (bI (sdR wd p))) + (bI (sdU wd p))))]) hc dX12_besideMany_53 rfl (by decide) rfl ?_
        refine g_iload_n (pc := 54) hc 2 dX12_besideMany_54 rfl rfl ?_
        refine g_iload_n (pc := 55) hc 1 dX12_besideMany_55 rfl rfl ?_
        refine g_aload_n (pc := 56) hc 0 dX12_besideMany_56 rfl rfl ?_
        refine gf_m0_wide (pc := 57) hc tw_1001 dX12_besideMany_57 ?_
        refine g_topi (v := nI wd) (hwd) ?_
        refine g_iadd (pc := 60) hc dX12_besideMany_60 ?_
        refine g_topi (v := nI (p + wd)) (nI_add p wd) ?_
        refine g_aload_n (pc := 61) hc 0 dX12_besideMany_61 rfl rfl ?_
        refine g_callVi (pc := 62) (rest := [.int (nI (p + wd)), .int (((bI (sdL wd p)) + (bI (sdR wd p))) + (bI (sdU wd p)))]) (As := []) hc (c_X12_paces l E ad hA sc ar la  (hwd) (hwd1) (hwd2) (hhg) (hhg1) (hhg2)) mi_X12_paces tw_1140 0 rfl rfl rfl rfl ⟨rfl, rfl, by decide, by decide⟩ (Nat.le_of_ble_eq_true rfl) ⟨Nat.le_refl _, Nat.le_refl _⟩ rfl dX12_besideMany_62 ?_
        refine g_icmp_ge (pc := 65) hc 72 dX12_besideMany_65 (by decide) (fun c11 => ?_) (fun c11 => ?_)
        · refine g_iconst (pc := 72) (v := nI 0) hc dX12_besideMany_72 (by decide) ?_
          refine g_topi (v := bI (sdD wd hg p)) (mbI_f (sD_f c11 hp hwd1 hm hwd2)) ?_
          refine g_iadd (pc := 73) hc dX12_besideMany_73 ?_
          exact g_iret (pc := 74) hc dX12_besideMany_74 (by rw [bI_bN, bI_bN, bI_bN, bI_bN, nI_add, nI_add, nI_add]; rfl) (rfl)
        · refine g_iconst (pc := 68) (v := nI 1) hc dX12_besideMany_68 (by decide) ?_
          refine g_goto (pc := 69) hc 73 dX12_besideMany_69 (by decide) ?_
          refine g_topi (v := bI (sdD wd hg p)) (mbI_t (sD_t c11 hp hwd1 hm hwd2)) ?_
          refine g_iadd (pc := 73) hc dX12_besideMany_73 ?_
          exact g_iret (pc := 74) hc dX12_besideMany_74 (by rw [bI_bN, bI_bN, bI_bN, bI_bN, nI_add, nI_add, nI_add]; rfl) (rfl)
      · refine g_iconst (pc := 47) (v := nI 1) hc dX12_besideMany_47 (by decide) ?_
        refine g_goto (pc := 48) hc 52 dX12_besideMany_48 (by decide) ?_
        refine g_topi (v := bI (sdU wd p)) (mbI_t (sU_t c10 (by omega) (by omega) hwd1)) ?_
        refine g_iadd (pc := 52) hc dX12_besideMany_52 ?_
        refine g_istore_n (pc := 53) (lv' := [(0, .ref (ad 0)), (1, .int (nI p)), (2, .int (((bI (sdL wd p)) + (bI (sdR wd p))) + (bI (sdU wd p))))]) hc dX12_besideMany_53 rfl (by decide) rfl ?_
        refine g_iload_n (pc := 54) hc 2 dX12_besideMany_54 rfl rfl ?_
        refine g_iload_n (pc := 55) hc 1 dX12_besideMany_55 rfl rfl ?_
        refine g_aload_n (pc := 56) hc 0 dX12_besideMany_56 rfl rfl ?_
        refine gf_m0_wide (pc := 57) hc tw_1001 dX12_besideMany_57 ?_
        refine g_topi (v := nI wd) (hwd) ?_
        refine g_iadd (pc := 60) hc dX12_besideMany_60 ?_
        refine g_topi (v := nI (p + wd)) (nI_add p wd) ?_
        refine g_aload_n (pc := 61) hc 0 dX12_besideMany_61 rfl rfl ?_
        refine g_callVi (pc := 62) (rest := [.int (nI (p + wd)), .int (((bI (sdL wd p)) + (bI (sdR wd p))) + (bI (sdU wd p)))]) (As := []) hc (c_X12_paces l E ad hA sc ar la  (hwd) (hwd1) (hwd2) (hhg) (hhg1) (hhg2)) mi_X12_paces tw_1140 0 rfl rfl rfl rfl ⟨rfl, rfl, by decide, by decide⟩ (Nat.le_of_ble_eq_true rfl) ⟨Nat.le_refl _, Nat.le_refl _⟩ rfl dX12_besideMany_62 ?_
        refine g_icmp_ge (pc := 65) hc 72 dX12_besideMany_65 (by decide) (fun c12 => ?_) (fun c12 => ?_)
        · refine g_iconst (pc := 72) (v := nI 0) hc dX12_besideMany_72 (by decide) ?_
          refine g_topi (v := bI (sdD wd hg p)) (mbI_f (sD_f c12 hp hwd1 hm hwd2)) ?_
          refine g_iadd (pc := 73) hc dX12_besideMany_73 ?_
          exact g_iret (pc := 74) hc dX12_besideMany_74 (by rw [bI_bN, bI_bN, bI_bN, bI_bN, nI_add, nI_add, nI_add]; rfl) (rfl)
        · refine g_iconst (pc := 68) (v := nI 1) hc dX12_besideMany_68 (by decide) ?_
          refine g_goto (pc := 69) hc 73 dX12_besideMany_69 (by decide) ?_
          refine g_topi (v := bI (sdD wd hg p)) (mbI_t (sD_t c12 hp hwd1 hm hwd2)) ?_
          refine g_iadd (pc := 73) hc dX12_besideMany_73 ?_
          exact g_iret (pc := 74) hc dX12_besideMany_74 (by rw [bI_bN, bI_bN, bI_bN, bI_bN, nI_add, nI_add, nI_add]; rfl) (rfl)
    · refine g_iconst (pc := 31) (v := nI 1) hc dX12_besideMany_31 (by decide) ?_
      refine g_goto (pc := 32) hc 36 dX12_besideMany_32 (by decide) ?_
      refine g_topi (v := bI (sdR wd p)) (mbI_t (sR_t c9 (by omega) (by omega))) ?_
      refine g_iadd (pc := 36) hc dX12_besideMany_36 ?_
      refine g_istore_n (pc := 37) (lv' := [(0, .ref (ad 0)), (1, .int (nI p)), (2, .int ((bI (sdL wd p)) + (bI (sdR wd p))))]) hc dX12_besideMany_37 rfl (by decide) rfl ?_
      refine g_iload_n (pc := 38) hc 2 dX12_besideMany_38 rfl rfl ?_
      refine g_iload_n (pc := 39) hc 1 dX12_besideMany_39 rfl rfl ?_
      refine g_aload_n (pc := 40) hc 0 dX12_besideMany_40 rfl rfl ?_
      refine gf_m0_wide (pc := 41) hc tw_1001 dX12_besideMany_41 ?_
      refine g_topi (v := nI wd) (hwd) ?_
      refine g_icmp_lt (pc := 44) hc 51 dX12_besideMany_44 (by decide) (fun c13 => ?_) (fun c13 => ?_)
      · refine g_iconst (pc := 51) (v := nI 0) hc dX12_besideMany_51 (by decide) ?_
        refine g_topi (v := bI (sdU wd p)) (mbI_f (sU_f c13 (by omega) (by omega))) ?_
        refine g_iadd (pc := 52) hc dX12_besideMany_52 ?_
        refine g_istore_n (pc := 53) (lv' := [(0, .ref (ad 0)), (1, .int (nI p)), (2, .int (((bI (sdL wd p)) + (bI (sdR wd p))) + (bI (sdU wd p))))]) hc dX12_besideMany_53 rfl (by decide) rfl ?_
        refine g_iload_n (pc := 54) hc 2 dX12_besideMany_54 rfl rfl ?_
        refine g_iload_n (pc := 55) hc 1 dX12_besideMany_55 rfl rfl ?_
        refine g_aload_n (pc := 56) hc 0 dX12_besideMany_56 rfl rfl ?_
        refine gf_m0_wide (pc := 57) hc tw_1001 dX12_besideMany_57 ?_
        refine g_topi (v := nI wd) (hwd) ?_
        refine g_iadd (pc := 60) hc dX12_besideMany_60 ?_
        refine g_topi (v := nI (p + wd)) (nI_add p wd) ?_
        refine g_aload_n (pc := 61) hc 0 dX12_besideMany_61 rfl rfl ?_
        refine g_callVi (pc := 62) (rest := [.int (nI (p + wd)), .int (((bI (sdL wd p)) + (bI (sdR wd p))) + (bI (sdU wd p)))]) (As := []) hc (c_X12_paces l E ad hA sc ar la  (hwd) (hwd1) (hwd2) (hhg) (hhg1) (hhg2)) mi_X12_paces tw_1140 0 rfl rfl rfl rfl ⟨rfl, rfl, by decide, by decide⟩ (Nat.le_of_ble_eq_true rfl) ⟨Nat.le_refl _, Nat.le_refl _⟩ rfl dX12_besideMany_62 ?_
        refine g_icmp_ge (pc := 65) hc 72 dX12_besideMany_65 (by decide) (fun c14 => ?_) (fun c14 => ?_)
        · refine g_iconst (pc := 72) (v := nI 0) hc dX12_besideMany_72 (by decide) ?_
          refine g_topi (v := bI (sdD wd hg p)) (mbI_f (sD_f c14 hp hwd1 hm hwd2)) ?_
          refine g_iadd (pc := 73) hc dX12_besideMany_73 ?_
          exact g_iret (pc := 74) hc dX12_besideMany_74 (by rw [bI_bN, bI_bN, bI_bN, bI_bN, nI_add, nI_add, nI_add]; rfl) (rfl)
        · refine g_iconst (pc := 68) (v := nI 1) hc dX12_besideMany_68 (by decide) ?_
          refine g_goto (pc := 69) hc 73 dX12_besideMany_69 (by decide) ?_
          refine g_topi (v := bI (sdD wd hg p)) (mbI_t (sD_t c14 hp hwd1 hm hwd2)) ?_
          refine g_iadd (pc := 73) hc dX12_besideMany_73 ?_
          exact g_iret (pc := 74) hc dX12_besideMany_74 (by rw [bI_bN, bI_bN, bI_bN, bI_bN, nI_add, nI_add, nI_add]; rfl) (rfl)
      · refine g_iconst (pc := 47) (v := nI 1) hc dX12_besideMany_47 (by decide) ?_
        refine g_goto (pc := 48) hc 52 dX12_besideMany_48 (by decide) ?_
        refine g_topi (v := bI (sdU wd p)) (mbI_t (sU_t c13 (by omega) (by omega) hwd1)) ?_
        refine g_iadd (pc := 52) hc dX12_besideMany_52 ?_
        refine g_istore_n (pc := 53) (lv' := [(0, .ref (ad 0)), (1, .int (nI p)), (2, .int (((bI (sdL wd p)) + (bI (sdR wd p))) + (bI (sdU wd p))))]) hc dX12_besideMany_53 rfl (by decide) rfl ?_
        refine g_iload_n (pc := 54) hc 2 dX12_besideMany_54 rfl rfl ?_
        refine g_iload_n (pc := 55) hc 1 dX12_besideMany_55 rfl rfl ?_
        refine g_aload_n (pc := 56) hc 0 dX12_besideMany_56 rfl rfl ?_
        refine gf_m0_wide (pc := 57) hc tw_1001 dX12_besideMany_57 ?_
        refine g_topi (v := nI wd) (hwd) ?_
        refine g_iadd (pc := 60) hc dX12_besideMany_60 ?_
        refine g_topi (v := nI (p + wd)) (nI_add p wd) ?_
        refine g_aload_n (pc := 61) hc 0 dX12_besideMany_61 rfl rfl ?_
        refine g_callVi (pc := 62) (rest := [.int (nI (p + wd)), .int (((bI (sdL wd p)) + (bI (sdR wd p))) + (bI (sdU wd p)))]) (As := []) hc (c_X12_paces l E ad hA sc ar la  (hwd) (hwd1) (hwd2) (hhg) (hhg1) (hhg2)) mi_X12_paces tw_1140 0 rfl rfl rfl rfl ⟨rfl, rfl, by decide, by decide⟩ (Nat.le_of_ble_eq_true rfl) ⟨Nat.le_refl _, Nat.le_refl _⟩ rfl dX12_besideMany_62 ?_
        refine g_icmp_ge (pc := 65) hc 72 dX12_besideMany_65 (by decide) (fun c15 => ?_) (fun c15 => ?_)
        · refine g_iconst (pc := 72) (v := nI 0) hc dX12_besideMany_72 (by decide) ?_
          refine g_topi (v := bI (sdD wd hg p)) (mbI_f (sD_f c15 hp hwd1 hm hwd2)) ?_
          refine g_iadd (pc := 73) hc dX12_besideMany_73 ?_
          exact g_iret (pc := 74) hc dX12_besideMany_74 (by rw [bI_bN, bI_bN, bI_bN, bI_bN, nI_add, nI_add, nI_add]; rfl) (rfl)
        · refine g_iconst (pc := 68) (v := nI 1) hc dX12_besideMany_68 (by decide) ?_
          refine g_goto (pc := 69) hc 73 dX12_besideMany_69 (by decide) ?_
          refine g_topi (v := bI (sdD wd hg p)) (mbI_t (sD_t c15 hp hwd1 hm hwd2)) ?_
          refine g_iadd (pc := 73) hc dX12_besideMany_73 ?_
          exact g_iret (pc := 74) hc dX12_besideMany_74 (by rw [bI_bN, bI_bN, bI_bN, bI_bN, nI_add, nI_add, nI_add]; rfl) (rfl)

theorem dX12_ploughOnce_0 : decode cX12_ploughOnce 0 = .ok (.iconst 0, 1) := by decide +kernel
theorem dX12_ploughOnce_1 : decode cX12_ploughOnce 1 = .ok (.istore_n 1, 1) := by decide +kernel
theorem dX12_ploughOnce_2 : decode cX12_ploughOnce 2 = .ok (.iload_n 1, 1) := by decide +kernel
theorem dX12_ploughOnce_3 : decode cX12_ploughOnce 3 = .ok (.aload_n 0, 1) := by decide +kernel
theorem dX12_ploughOnce_4 : decode cX12_ploughOnce 4 = .ok (.invokevirtual 109, 3) := by decide +kernel
theorem dX12_ploughOnce_7 : decode cX12_ploughOnce 7 = .ok (.if_icmp .ge 16, 3) := by decide +kernel
theorem dX12_ploughOnce_10 : decode cX12_ploughOnce 10 = .ok (.aload_n 0, 1) := by decide +kernel
theorem dX12_ploughOnce_11 : decode cX12_ploughOnce 11 = .ok (.getfield 96, 3) := by decide +kernel
theorem dX12_ploughOnce_14 : decode cX12_ploughOnce 14 = .ok (.iload_n 1, 1) := by decide +kernel
theorem dX12_ploughOnce_15 : decode cX12_ploughOnce 15 = .ok (.iconst 0, 1) := by decide +kernel
theorem dX12_ploughOnce_16 : decode cX12_ploughOnce 16 = .ok (.iastore, 1) := by decide +kernel
theorem dX12_ploughOnce_17 : decode cX12_ploughOnce 17 = .ok (.iinc 1 1, 3) := by decide +kernel
theorem dX12_ploughOnce_20 : decode cX12_ploughOnce 20 = .ok (.goto (-18), 3) := by decide +kernel
theorem dX12_ploughOnce_23 : decode cX12_ploughOnce 23 = .ok (.iconst 0, 1) := by decide +kernel
theorem dX12_ploughOnce_24 : decode cX12_ploughOnce 24 = .ok (.istore_n 1, 1) := by decide +kernel
theorem dX12_ploughOnce_25 : decode cX12_ploughOnce 25 = .ok (.iload_n 1, 1) := by decide +kernel
theorem dX12_ploughOnce_26 : decode cX12_ploughOnce 26 = .ok (.aload_n 0, 1) := by decide +kernel
theorem dX12_ploughOnce_27 : decode cX12_ploughOnce 27 = .ok (.invokevirtual 109, 3) := by decide +kernel
theorem dX12_ploughOnce_30 : decode cX12_ploughOnce 30 = .ok (.if_icmp .ge 146, 3) := by decide +kernel
theorem dX12_ploughOnce_33 : decode cX12_ploughOnce 33 = .ok (.aload_n 0, 1) := by decide +kernel
theorem dX12_ploughOnce_34 : decode cX12_ploughOnce 34 = .ok (.getfield 93, 3) := by decide +kernel
theorem dX12_ploughOnce_37 : decode cX12_ploughOnce 37 = .ok (.iload_n 1, 1) := by decide +kernel
theorem dX12_ploughOnce_38 : decode cX12_ploughOnce 38 = .ok (.iaload, 1) := by decide +kernel
theorem dX12_ploughOnce_39 : decode cX12_ploughOnce 39 = .ok (.iconst 2, 1) := by decide +kernel
theorem dX12_ploughOnce_40 : decode cX12_ploughOnce 40 = .ok (.idiv, 1) := by decide +kernel
theorem dX12_ploughOnce_41 : decode cX12_ploughOnce 41 = .ok (.aload_n 0, 1) := by decide +kernel
theorem dX12_ploughOnce_42 : decode cX12_ploughOnce 42 = .ok (.iload_n 1, 1) := by decide +kernel
theorem dX12_ploughOnce_43 : decode cX12_ploughOnce 43 = .ok (.invokevirtual 191, 3) := by decide +kernel
theorem dX12_ploughOnce_46 : decode cX12_ploughOnce 46 = .ok (.idiv, 1) := by decide +kernel
theorem dX12_ploughOnce_47 : decode cX12_ploughOnce 47 = .ok (.istore_n 2, 1) := by decide +kernel
theorem dX12_ploughOnce_48 : decode cX12_ploughOnce 48 = .ok (.aload_n 0, 1) := by decide +kernel
theorem dX12_ploughOnce_49 : decode cX12_ploughOnce 49 = .ok (.getfield 96, 3) := by decide +kernel
theorem dX12_ploughOnce_52 : decode cX12_ploughOnce 52 = .ok (.iload_n 1, 1) := by decide +kernel
theorem dX12_ploughOnce_53 : decode cX12_ploughOnce 53 = .ok (.dup2, 1) := by decide +kernel
theorem dX12_ploughOnce_54 : decode cX12_ploughOnce 54 = .ok (.iaload, 1) := by decide +kernel
theorem dX12_ploughOnce_55 : decode cX12_ploughOnce 55 = .ok (.aload_n 0, 1) := by decide +kernel
theorem dX12_ploughOnce_56 : decode cX12_ploughOnce 56 = .ok (.getfield 93, 3) := by decide +kernel
theorem dX12_ploughOnce_59 : decode cX12_ploughOnce 59 = .ok (.iload_n 1, 1) := by decide +kernel
theorem dX12_ploughOnce_60 : decode cX12_ploughOnce 60 = .ok (.iaload, 1) := by decide +kernel
theorem dX12_ploughOnce_61 : decode cX12_ploughOnce 61 = .ok (.iload_n 2, 1) := by decide +kernel
theorem dX12_ploughOnce_62 : decode cX12_ploughOnce 62 = .ok (.aload_n 0, 1) := by decide +kernel
theorem dX12_ploughOnce_63 : decode cX12_ploughOnce 63 = .ok (.iload_n 1, 1) := by decide +kernel
theorem dX12_ploughOnce_64 : decode cX12_ploughOnce 64 = .ok (.invokevirtual 191, 3) := by decide +kernel
theorem dX12_ploughOnce_67 : decode cX12_ploughOnce 67 = .ok (.imul, 1) := by decide +kernel
theorem dX12_ploughOnce_68 : decode cX12_ploughOnce 68 = .ok (.isub, 1) := by decide +kernel
theorem dX12_ploughOnce_69 : decode cX12_ploughOnce 69 = .ok (.iadd, 1) := by decide +kernel
theorem dX12_ploughOnce_70 : decode cX12_ploughOnce 70 = .ok (.iastore, 1) := by decide +kernel
theorem dX12_ploughOnce_71 : decode cX12_ploughOnce 71 = .ok (.iload_n 1, 1) := by decide +kernel
theorem dX12_ploughOnce_72 : decode cX12_ploughOnce 72 = .ok (.aload_n 0, 1) := by decide +kernel
theorem dX12_ploughOnce_73 : decode cX12_ploughOnce 73 = .ok (.getfield 7, 3) := by decide +kernel
theorem dX12_ploughOnce_76 : decode cX12_ploughOnce 76 = .ok (.irem, 1) := by decide +kernel
theorem dX12_ploughOnce_77 : decode cX12_ploughOnce 77 = .ok (.ifCond .le 15, 3) := by decide +kernel
theorem dX12_ploughOnce_80 : decode cX12_ploughOnce 80 = .ok (.aload_n 0, 1) := by decide +kernel
theorem dX12_ploughOnce_81 : decode cX12_ploughOnce 81 = .ok (.getfield 96, 3) := by decide +kernel
theorem dX12_ploughOnce_84 : decode cX12_ploughOnce 84 = .ok (.iload_n 1, 1) := by decide +kernel
theorem dX12_ploughOnce_85 : decode cX12_ploughOnce 85 = .ok (.iconst 1, 1) := by decide +kernel
theorem dX12_ploughOnce_86 : decode cX12_ploughOnce 86 = .ok (.isub, 1) := by decide +kernel
theorem dX12_ploughOnce_87 : decode cX12_ploughOnce 87 = .ok (.dup2, 1) := by decide +kernel
theorem dX12_ploughOnce_88 : decode cX12_ploughOnce 88 = .ok (.iaload, 1) := by decide +kernel
theorem dX12_ploughOnce_89 : decode cX12_ploughOnce 89 = .ok (.iload_n 2, 1) := by decide +kernel
theorem dX12_ploughOnce_90 : decode cX12_ploughOnce 90 = .ok (.iadd, 1) := by decide +kernel
theorem dX12_ploughOnce_91 : decode cX12_ploughOnce 91 = .ok (.iastore, 1) := by decide +kernel
theorem dX12_ploughOnce_92 : decode cX12_ploughOnce 92 = .ok (.iload_n 1, 1) := by decide +kernel
theorem dX12_ploughOnce_93 : decode cX12_ploughOnce 93 = .ok (.aload_n 0, 1) := by decide +kernel
theorem dX12_ploughOnce_94 : decode cX12_ploughOnce 94 = .ok (.getfield 7, 3) := by decide +kernel
theorem dX12_ploughOnce_97 : decode cX12_ploughOnce 97 = .ok (.irem, 1) := by decide +kernel
theorem dX12_ploughOnce_98 : decode cX12_ploughOnce 98 = .ok (.aload_n 0, 1) := by decide +kernel
theorem dX12_ploughOnce_99 : decode cX12_ploughOnce 99 = .ok (.getfield 7, 3) := by decide +kernel
theorem dX12_ploughOnce_102 : decode cX12_ploughOnce 102 = .ok (.iconst 1, 1) := by decide +kernel
theorem dX12_ploughOnce_103 : decode cX12_ploughOnce 103 = .ok (.isub, 1) := by decide +kernel
theorem dX12_ploughOnce_104 : decode cX12_ploughOnce 104 = .ok (.if_icmp .ge 15, 3) := by decide +kernel
theorem dX12_ploughOnce_107 : decode cX12_ploughOnce 107 = .ok (.aload_n 0, 1) := by decide +kernel
theorem dX12_ploughOnce_108 : decode cX12_ploughOnce 108 = .ok (.getfield 96, 3) := by decide +kernel
theorem dX12_ploughOnce_111 : decode cX12_ploughOnce 111 = .ok (.iload_n 1, 1) := by decide +kernel
theorem dX12_ploughOnce_112 : decode cX12_ploughOnce 112 = .ok (.iconst 1, 1) := by decide +kernel
theorem dX12_ploughOnce_113 : decode cX12_ploughOnce 113 = .ok (.iadd, 1) := by decide +kernel
theorem dX12_ploughOnce_114 : decode cX12_ploughOnce 114 = .ok (.dup2, 1) := by decide +kernel
theorem dX12_ploughOnce_115 : decode cX12_ploughOnce 115 = .ok (.iaload, 1) := by decide +kernel
theorem dX12_ploughOnce_116 : decode cX12_ploughOnce 116 = .ok (.iload_n 2, 1) := by decide +kernel
theorem dX12_ploughOnce_117 : decode cX12_ploughOnce 117 = .ok (.iadd, 1) := by decide +kernel
theorem dX12_ploughOnce_118 : decode cX12_ploughOnce 118 = .ok (.iastore, 1) := by decide +kernel
theorem dX12_ploughOnce_119 : decode cX12_ploughOnce 119 = .ok (.iload_n 1, 1) := by decide +kernel
theorem dX12_ploughOnce_120 : decode cX12_ploughOnce 120 = .ok (.aload_n 0, 1) := by decide +kernel
theorem dX12_ploughOnce_121 : decode cX12_ploughOnce 121 = .ok (.getfield 7, 3) := by decide +kernel
theorem dX12_ploughOnce_124 : decode cX12_ploughOnce 124 = .ok (.if_icmp .lt 18, 3) := by decide +kernel
theorem dX12_ploughOnce_127 : decode cX12_ploughOnce 127 = .ok (.aload_n 0, 1) := by decide +kernel
theorem dX12_ploughOnce_128 : decode cX12_ploughOnce 128 = .ok (.getfield 96, 3) := by decide +kernel
theorem dX12_ploughOnce_131 : decode cX12_ploughOnce 131 = .ok (.iload_n 1, 1) := by decide +kernel
theorem dX12_ploughOnce_132 : decode cX12_ploughOnce 132 = .ok (.aload_n 0, 1) := by decide +kernel
theorem dX12_ploughOnce_133 : decode cX12_ploughOnce 133 = .ok (.getfield 7, 3) := by decide +kernel
theorem dX12_ploughOnce_136 : decode cX12_ploughOnce 136 = .ok (.isub, 1) := by decide +kernel
theorem dX12_ploughOnce_137 : decode cX12_ploughOnce 137 = .ok (.dup2, 1) := by decide +kernel
theorem dX12_ploughOnce_138 : decode cX12_ploughOnce 138 = .ok (.iaload, 1) := by decide +kernel
theorem dX12_ploughOnce_139 : decode cX12_ploughOnce 139 = .ok (.iload_n 2, 1) := by decide +kernel
theorem dX12_ploughOnce_140 : decode cX12_ploughOnce 140 = .ok (.iadd, 1) := by decide +kernel
theorem dX12_ploughOnce_141 : decode cX12_ploughOnce 141 = .ok (.iastore, 1) := by decide +kernel
theorem dX12_ploughOnce_142 : decode cX12_ploughOnce 142 = .ok (.iload_n 1, 1) := by decide +kernel
theorem dX12_ploughOnce_143 : decode cX12_ploughOnce 143 = .ok (.aload_n 0, 1) := by decide +kernel
theorem dX12_ploughOnce_144 : decode cX12_ploughOnce 144 = .ok (.getfield 7, 3) := by decide +kernel
theorem dX12_ploughOnce_147 : decode cX12_ploughOnce 147 = .ok (.iadd, 1) := by decide +kernel
theorem dX12_ploughOnce_148 : decode cX12_ploughOnce 148 = .ok (.aload_n 0, 1) := by decide +kernel
theorem dX12_ploughOnce_149 : decode cX12_ploughOnce 149 = .ok (.invokevirtual 109, 3) := by decide +kernel
theorem dX12_ploughOnce_152 : decode cX12_ploughOnce 152 = .ok (.if_icmp .ge 18, 3) := by decide +kernel
theorem dX12_ploughOnce_155 : decode cX12_ploughOnce 155 = .ok (.aload_n 0, 1) := by decide +kernel
theorem dX12_ploughOnce_156 : decode cX12_ploughOnce 156 = .ok (.getfield 96, 3) := by decide +kernel
theorem dX12_ploughOnce_159 : decode cX12_ploughOnce 159 = .ok (.iload_n 1, 1) := by decide +kernel
theorem dX12_ploughOnce_160 : decode cX12_ploughOnce 160 = .ok (.aload_n 0, 1) := by decide +kernel
theorem dX12_ploughOnce_161 : decode cX12_ploughOnce 161 = .ok (.getfield 7, 3) := by decide +kernel
theorem dX12_ploughOnce_164 : decode cX12_ploughOnce 164 = .ok (.iadd, 1) := by decide +kernel
theorem dX12_ploughOnce_165 : decode cX12_ploughOnce 165 = .ok (.dup2, 1) := by decide +kernel
theorem dX12_ploughOnce_166 : decode cX12_ploughOnce 166 = .ok (.iaload, 1) := by decide +kernel
theorem dX12_ploughOnce_167 : decode cX12_ploughOnce 167 = .ok (.iload_n 2, 1) := by decide +kernel
theorem dX12_ploughOnce_168 : decode cX12_ploughOnce 168 = .ok (.iadd, 1) := by decide +kernel
theorem dX12_ploughOnce_169 : decode cX12_ploughOnce 169 = .ok (.iastore, 1) := by decide +kernel
theorem dX12_ploughOnce_170 : decode cX12_ploughOnce 170 = .ok (.iinc 1 1, 3) := by decide +kernel
theorem dX12_ploughOnce_173 : decode cX12_ploughOnce 173 = .ok (.goto (-148), 3) := by decide +kernel
theorem dX12_ploughOnce_176 : decode cX12_ploughOnce 176 = .ok (.iconst 0, 1) := by decide +kernel
theorem dX12_ploughOnce_177 : decode cX12_ploughOnce 177 = .ok (.istore_n 1, 1) := by decide +kernel
theorem dX12_ploughOnce_178 : decode cX12_ploughOnce 178 = .ok (.iload_n 1, 1) := by decide +kernel
theorem dX12_ploughOnce_179 : decode cX12_ploughOnce 179 = .ok (.aload_n 0, 1) := by decide +kernel
theorem dX12_ploughOnce_180 : decode cX12_ploughOnce 180 = .ok (.invokevirtual 109, 3) := by decide +kernel
theorem dX12_ploughOnce_183 : decode cX12_ploughOnce 183 = .ok (.if_icmp .ge 21, 3) := by decide +kernel
theorem dX12_ploughOnce_186 : decode cX12_ploughOnce 186 = .ok (.aload_n 0, 1) := by decide +kernel
theorem dX12_ploughOnce_187 : decode cX12_ploughOnce 187 = .ok (.getfield 93, 3) := by decide +kernel
theorem dX12_ploughOnce_190 : decode cX12_ploughOnce 190 = .ok (.iload_n 1, 1) := by decide +kernel
theorem dX12_ploughOnce_191 : decode cX12_ploughOnce 191 = .ok (.aload_n 0, 1) := by decide +kernel
theorem dX12_ploughOnce_192 : decode cX12_ploughOnce 192 = .ok (.getfield 96, 3) := by decide +kernel
theorem dX12_ploughOnce_195 : decode cX12_ploughOnce 195 = .ok (.iload_n 1, 1) := by decide +kernel
theorem dX12_ploughOnce_196 : decode cX12_ploughOnce 196 = .ok (.iaload, 1) := by decide +kernel
theorem dX12_ploughOnce_197 : decode cX12_ploughOnce 197 = .ok (.iastore, 1) := by decide +kernel
theorem dX12_ploughOnce_198 : decode cX12_ploughOnce 198 = .ok (.iinc 1 1, 3) := by decide +kernel
theorem dX12_ploughOnce_201 : decode cX12_ploughOnce 201 = .ok (.goto (-23), 3) := by decide +kernel
theorem dX12_ploughOnce_204 : decode cX12_ploughOnce 204 = .ok (.return_, 1) := by decide +kernel

set_option maxHeartbeats 4000000 in
set_option maxRecDepth 100000 in
theorem c_X12_ploughOnce (l : Launch) (E : Ev) {A : Nat → Prop} (ad : Nat → Nat) (hA : Oka 30 ad A) (sc : Nat → Int32) (ar : Nat → Nat → Int32) (la : Nat → Int64) {wd hg : Nat}  (hwd : sc 0 = nI wd) (hwd1 : 2 ≤ wd) (hwd2 : wd ≤ 8) (hhg : sc 1 = nI hg) (hhg1 : 2 ≤ hg) (hhg2 : hg ≤ 8) : Ct l E yX12_ploughOnce (.code yX12_ploughOnce cX12_ploughOnce 3 none) ({ frames := 2, cells := 0, slots := 0, locals := 42 }) A (mw E ad sc ar la) [.ref (ad 0)] (none) (mw E ad sc (va_up (va_up ar 25 (cotI (mpn (ar 25) (ar 26) wd hg) (ar 25) (wd * hg))) 26 (mpn (ar 25) (ar 26) wd hg)) la) := by
  have hm := prod64 hwd2 hhg2
  refine Ct.of (lv := [(0, .ref (ad 0))]) (by decide +kernel) (Nat.le_of_ble_eq_true rfl) rfl ?_
  intro zp ze zs zm za zb zh zc hc
  refine g_iconst (pc := 0) (v := nI 0) hc dX12_ploughOnce_0 (by decide) ?_
  refine g_istore_n (pc := 1) (lv' := [(0, .ref (ad 0)), (1, .int (nI 0))]) hc dX12_ploughOnce_1 rfl (by decide) rfl ?_
  have L2_1 : ∀ (ku u : Nat), u + ku = wd * hg → G zp l ze ({ frames := 2, cells := 0, slots := 0, locals := 42 }) zs zm za zb zh zc 0 0 (MQ zb (Qz E A (none) (mw E ad sc (va_up (va_up ar 25 (cotI (mpn (ar 25) (ar 26) wd hg) (ar 25) (wd * hg))) 26 (mpn (ar 25) (ar 26) wd hg)) la)) za zs 0 0 A) E A 3 (mw E ad sc (va_up ar 26 (fil (nI 0) (ar 26) (u))) la) (2) [(0, .ref (ad 0)), (1, .int (nI (u)))] [] := by
    intro ku
    induction ku with
    | zero =>
      intro u lhu
      have lhun : wd * hg = u := by omega
      subst lhun
      refine g_iload_n (pc := 2) hc 1 dX12_ploughOnce_2 rfl rfl ?_
      refine g_aload_n (pc := 3) hc 0 dX12_ploughOnce_3 rfl rfl ?_
      refine g_callVi (pc := 4) (rest := [.int (nI (wd * hg))]) (As := []) hc (c_X12_paces l E ad hA sc (va_up ar 26 (fil (nI 0) (ar 26) (wd * hg))) la  (hwd) (hwd1) (hwd2) (hhg) (hhg1) (hhg2)) mi_X12_paces tw_1140 0 rfl rfl rfl rfl ⟨rfl, rfl, by decide, by decide⟩ (Nat.le_of_ble_eq_true rfl) ⟨Nat.le_refl _, Nat.le_refl _⟩ rfl dX12_ploughOnce_4 ?_
      refine g_topi (v := nI (wd * hg)) rfl ?_
      refine g_icmp_ge_t (pc := 7) hc 23 dX12_ploughOnce_7 (by decide) (nI_le (by omega) (by omega)) ?_
      refine g_iconst (pc := 23) (v := nI 0) hc dX12_ploughOnce_23 (by decide) ?_
      refine g_istore_n (pc := 24) (lv' := [(0, .ref (ad 0)), (1, .int (nI 0))]) hc dX12_ploughOnce_24 rfl (by decide) rfl ?_
      have L25_2 : ∀ (kt t : Nat), t + kt = wd * hg → G zp l ze ({ frames := 2, cells := 0, slots := 0, locals := 42 }) zs zm za zb zh zc 0 0 (MQ zb (Qz E A (none) (mw E ad sc (va_up (va_up ar 25 (cotI (mpn (ar 25) (ar 26) wd hg) (ar 25) (wd * hg))) 26 (mpn (ar 25) (ar 26) wd hg)) la)) za zs 0 0 A) E A 3 (mw E ad sc (va_up ar 26 (plo (ar 25) wd hg (fil (nI 0) (ar 26) (wd * hg)) (t))) la) (25) [(0, .ref (ad 0)), (1, .int (nI (t)))] [] := by
        intro kt
        induction kt with
        | zero =>
          intro t lht
          have lhtn : wd * hg = t := by omega
          subst lhtn
          refine g_iload_n (pc := 25) hc 1 dX12_ploughOnce_25 rfl rfl ?_
          refine g_aload_n (pc := 26) hc 0 dX12_ploughOnce_26 rfl rfl ?_
          refine g_callVi (pc := 27) (rest := [.int (nI (wd * hg))]) (As := []) hc (c_X12_paces l E ad hA sc (va_up ar 26 (plo (ar 25) wd hg (fil (nI 0) (ar 26) (wd * hg)) (wd * hg))) la  (hwd) (hwd1) (hwd2) (hhg) (hhg1) (hhg2)) mi_X12_paces tw_1140 0 rfl rfl rfl rfl ⟨rfl, rfl, by decide, by decide⟩ (Nat.le_of_ble_eq_true rfl) ⟨Nat.le_refl _, Nat.le_refl _⟩ rfl dX12_ploughOnce_27 ?_
          refine g_topi (v := nI (wd * hg)) rfl ?_
          refine g_icmp_ge_t (pc := 30) hc 176 dX12_ploughOnce_30 (by decide) (nI_le (by omega) (by omega)) ?_
          refine g_eq (ws' := mw E ad sc (va_up ar 26 (mpn (ar 25) (ar 26) wd hg)) la) (lv' := [(0, .ref (ad 0)), (1, .int (nI (wd * hg)))]) (rfl) rfl rfl ?_
          refine g_iconst (pc := 176) (v := nI 0) hc dX12_ploughOnce_176 (by decide) ?_
          refine g_istore_n (pc := 177) (lv' := [(0, .ref (ad 0)), (1, .int (nI 0))]) hc dX12_ploughOnce_177 rfl (by decide) rfl ?_
          have L178_3 : ∀ (kv v : Nat), v + kv = wd * hg → G zp l ze ({ frames := 2, cells := 0, slots := 0, locals := 42 }) zs zm za zb zh zc 0 0 (MQ zb (Qz E A (none) (mw E ad sc (va_up (va_up ar 25 (cotI (mpn (ar 25) (ar 26) wd hg) (ar 25) (wd * hg))) 26 (mpn (ar 25) (ar 26) wd hg)) la)) za zs 0 0 A) E A 3 (mw E ad sc (va_up (va_up ar 25 (cotI (mpn (ar 25) (ar 26) wd hg) (ar 25) (v))) 26 (mpn (ar 25) (ar 26) wd hg)) la) (178) [(0, .ref (ad 0)), (1, .int (nI (v)))] [] := by
            intro kv
            induction kv with
            | zero =>
              intro v lhv
              have lhvn : wd * hg = v := by omega
              subst lhvn
              refine g_iload_n (pc := 178) hc 1 dX12_ploughOnce_178 rfl rfl ?_
              refine g_aload_n (pc := 179) hc 0 dX12_ploughOnce_179 rfl rfl ?_
              refine g_callVi (pc := 180) (rest := [.int (nI (wd * hg))]) (As := []) hc (c_X12_paces l E ad hA sc (va_up (va_up ar 25 (cotI (mpn (ar 25) (ar 26) wd hg) (ar 25) (wd * hg))) 26 (mpn (ar 25) (ar 26) wd hg)) la  (hwd) (hwd1) (hwd2) (hhg) (hhg1) (hhg2)) mi_X12_paces tw_1140 0 rfl rfl rfl rfl ⟨rfl, rfl, by decide, by decide⟩ (Nat.le_of_ble_eq_true rfl) ⟨Nat.le_refl _, Nat.le_refl _⟩ rfl dX12_ploughOnce_180 ?_
              refine g_topi (v := nI (wd * hg)) rfl ?_
              refine g_icmp_ge_t (pc := 183) hc 204 dX12_ploughOnce_183 (by decide) (nI_le (by omega) (by omega)) ?_
              exact g_vret (pc := 204) hc dX12_ploughOnce_204 rfl (rfl)
            | succ kv ihv =>
              intro v lhv
              have lhvn : v < wd * hg := by omega
              refine g_iload_n (pc := 178) hc 1 dX12_ploughOnce_178 rfl rfl ?_
              refine g_aload_n (pc := 179) hc 0 dX12_ploughOnce_179 rfl rfl ?_
              refine g_callVi (pc := 180) (rest := [.int (nI (v))]) (As := []) hc (c_X12_paces l E ad hA sc (va_up (va_up ar 25 (cotI (mpn (ar 25) (ar 26) wd hg) (ar 25) (v))) 26 (mpn (ar 25) (ar 26) wd hg)) la  (hwd) (hwd1) (hwd2) (hhg) (hhg1) (hhg2)) mi_X12_paces tw_1140 0 rfl rfl rfl rfl ⟨rfl, rfl, by decide, by decide⟩ (Nat.le_of_ble_eq_true rfl) ⟨Nat.le_refl _, Nat.le_refl _⟩ rfl dX12_ploughOnce_180 ?_
              refine g_topi (v := nI (wd * hg)) rfl ?_
              refine g_icmp_ge_f (pc := 183) hc 204 dX12_ploughOnce_183 (by decide) (nI_ge (by omega) (by omega)) ?_
              refine g_aload_n (pc := 186) hc 0 dX12_ploughOnce_186 rfl rfl ?_
              refine gf_m0_soil (pc := 187) hc tw_1034 dX12_ploughOnce_187 ?_
              refine g_iload_n (pc := 190) hc 1 dX12_ploughOnce_190 rfl rfl ?_
              refine g_aload_n (pc := 191) hc 0 dX12_ploughOnce_191 rfl rfl ?_
              refine gf_m0_next (pc := 192) hc tw_1035 dX12_ploughOnce_192 ?_
              refine g_iload_n (pc := 195) hc 1 dX12_ploughOnce_195 rfl rfl ?_
              refine la_m26 (pc := 196) hc (v) (rfl) (by omega) dX12_ploughOnce_196 ?_
              refine g_topi (v := (mpn (ar 25) (ar 26) wd hg) v) rfl ?_
              refine sa_m25 (pc := 197) hc hA (v) (rfl) (by omega) dX12_ploughOnce_197 ?_
              refine g_eq (ws' := mw E ad sc (va_up (va_up ar 26 (mpn (ar 25) (ar 26) wd hg)) 25 (upd (cotI (mpn (ar 25) (ar 26) wd hg) (ar 25) (v)) v ((mpn (ar 25) (ar 26) wd hg) v))) la) (lv' := [(0, .ref (ad 0)), (1, .int (nI (v)))]) rfl rfl rfl ?_
              refine g_iinc (pc := 198) (v := nI (v + 1)) (lv' := [(0, .ref (ad 0)), (1, .int (nI (v + 1)))]) hc 1 dX12_ploughOnce_198 rfl (nI_ofi v 1) (by decide) rfl ?_
              refine g_goto (pc := 201) hc 178 dX12_ploughOnce_201 (by decide) ?_
              exact g_eq (ws' := mw E ad sc (va_up (va_up ar 25 (cotI (mpn (ar 25) (ar 26) wd hg) (ar 25) (v + 1))) 26 (mpn (ar 25) (ar 26) wd hg)) la) (lv' := [(0, .ref (ad 0)), (1, .int (nI (v + 1)))]) (rfl) (rfl) rfl (ihv (v + 1) (by omega))
          exact g_eq (ws' := mw E ad sc (va_up (va_up ar 25 (cotI (mpn (ar 25) (ar 26) wd hg) (ar 25) (0))) 26 (mpn (ar 25) (ar 26) wd hg)) la) (lv' := [(0, .ref (ad 0)), (1, .int (nI (0)))]) (rfl) (rfl) rfl (L178_3 (wd * hg - 0) (0) (by omega))
        | succ kt iht =>
          intro t lht
          have lhtn : t < wd * hg := by omega
          refine g_iload_n (pc := 25) hc 1 dX12_ploughOnce_25 rfl rfl ?_
          refine g_aload_n (pc := 26) hc 0 dX12_ploughOnce_26 rfl rfl ?_
          refine g_callVi (pc := 27) (rest := [.int (nI (t))]) (As := []) hc (c_X12_paces l E ad hA sc (va_up ar 26 (plo (ar 25) wd hg (fil (nI 0) (ar 26) (wd * hg)) (t))) la  (hwd) (hwd1) (hwd2) (hhg) (hhg1) (hhg2)) mi_X12_paces tw_1140 0 rfl rfl rfl rfl ⟨rfl, rfl, by decide, by decide⟩ (Nat.le_of_ble_eq_true rfl) ⟨Nat.le_refl _, Nat.le_refl _⟩ rfl dX12_ploughOnce_27 ?_
          refine g_topi (v := nI (wd * hg)) rfl ?_
          refine g_icmp_ge_f (pc := 30) hc 176 dX12_ploughOnce_30 (by decide) (nI_ge (by omega) (by omega)) ?_
          have htp : t < wd * hg := lhtn
          have hrow := row_lt htp hwd1
          have hcol : t % wd < wd := Nat.mod_lt _ (by omega)
          have hsd := sdN_pos (hg := hg) hwd1 hcol
          refine g_aload_n (pc := 33) hc 0 dX12_ploughOnce_33 rfl rfl ?_
          refine gf_m0_soil (pc := 34) hc tw_1034 dX12_ploughOnce_34 ?_
          refine g_iload_n (pc := 37) hc 1 dX12_ploughOnce_37 rfl rfl ?_
          refine la_m25 (pc := 38) hc (t) (rfl) (by omega) dX12_ploughOnce_38 ?_
          refine g_topi (v := (ar 25) t) rfl ?_
          refine g_iconst (pc := 39) (v := nI 2) hc dX12_ploughOnce_39 (by decide) ?_
          refine g_idiv (pc := 40) hc dX12_ploughOnce_40 (by decide) ?_
          refine g_aload_n (pc := 41) hc 0 dX12_ploughOnce_41 rfl rfl ?_
          refine g_iload_n (pc := 42) hc 1 dX12_ploughOnce_42 rfl rfl ?_
          refine g_callVi (pc := 43) (rest := [.int (((ar 25) t) / (nI 2))]) (As := [.int (nI (t))]) hc (c_X12_besideMany l E ad hA sc (va_up ar 26 (plo (ar 25) wd hg (fil (nI 0) (ar 26) (wd * hg)) (t))) la t (hwd) (hwd1) (hwd2) (hhg) (hhg1) (hhg2) (by omega)) mi_X12_besideMany tw_1287 0 rfl rfl rfl rfl ⟨rfl, rfl, by decide, by decide⟩ (Nat.le_of_ble_eq_true rfl) ⟨Nat.le_refl _, Nat.le_refl _⟩ rfl dX12_ploughOnce_43 ?_
          refine g_topi (v := nI (sdN wd hg t)) rfl ?_
          refine g_idiv (pc := 46) hc dX12_ploughOnce_46 (nI_ne0 hsd.1 (by omega)) ?_
          refine g_topi (v := prt (ar 25) wd hg t) (rfl) ?_
          refine g_istore_n (pc := 47) (lv' := [(0, .ref (ad 0)), (1, .int (nI (t))), (2, .int (prt (ar 25) wd hg t))]) hc dX12_ploughOnce_47 rfl (by decide) rfl ?_
          refine g_aload_n (pc := 48) hc 0 dX12_ploughOnce_48 rfl rfl ?_
          refine gf_m0_next (pc := 49) hc tw_1035 dX12_ploughOnce_49 ?_
          refine g_iload_n (pc := 52) hc 1 dX12_ploughOnce_52 rfl rfl ?_
          refine g_dup2 (pc := 53) hc dX12_ploughOnce_53 rfl rfl ?_
          refine la_m26 (pc := 54) hc (t) (rfl) (by omega) dX12_ploughOnce_54 ?_
          refine g_topi (v := (plo (ar 25) wd hg (fil (nI 0) (ar 26) (wd * hg)) (t)) t) rfl ?_
          refine g_aload_n (pc := 55) hc 0 dX12_ploughOnce_55 rfl rfl ?_
          refine gf_m0_soil (pc := 56) hc tw_1034 dX12_ploughOnce_56 ?_
          refine g_iload_n (pc := 59) hc 1 dX12_ploughOnce_59 rfl rfl ?_
          refine la_m25 (pc := 60) hc (t) (rfl) (by omega) dX12_ploughOnce_60 ?_
          refine g_topi (v := (ar 25) t) rfl ?_
          refine g_iload_n (pc := 61) hc 2 dX12_ploughOnce_61 rfl rfl ?_
          refine g_aload_n (pc := 62) hc 0 dX12_ploughOnce_62 rfl rfl ?_
          refine g_iload_n (pc := 63) hc 1 dX12_ploughOnce_63 rfl rfl ?_
          refine g_callVi (pc := 64) (rest := [.int (prt (ar 25) wd hg t), .int ((ar 25) t), .int ((plo (ar 25) wd hg (fil (nI 0) (ar 26) (wd * hg)) (t)) t), .int (nI (t)), .ref (ad 26)]) (As := [.int (nI (t))]) hc (c_X12_besideMany l E ad hA sc (va_up ar 26 (plo (ar 25) wd hg (fil (nI 0) (ar 26) (wd * hg)) (t))) la t (hwd) (hwd1) (hwd2) (hhg) (hhg1) (hhg2) (by omega)) mi_X12_besideMany tw_1287 0 rfl rfl rfl rfl ⟨rfl, rfl, by decide, by decide⟩ (Nat.le_of_ble_eq_true rfl) ⟨Nat.le_refl _, Nat.le_refl _⟩ rfl dX12_ploughOnce_64 ?_
          refine g_topi (v := nI (sdN wd hg t)) rfl ?_
          refine g_imul (pc := 67) hc dX12_ploughOnce_67 ?_
          refine g_isub (pc := 68) hc dX12_ploughOnce_68 ?_
          refine g_iadd (pc := 69) hc dX12_ploughOnce_69 ?_
          refine sa_m26 (pc := 70) hc hA (t) (rfl) (by omega) dX12_ploughOnce_70 ?_
          refine g_eq (ws' := mw E ad sc (va_up ar 26 (upd (plo (ar 25) wd hg (fil (nI 0) (ar 26) (wd * hg)) (t)) t (((plo (ar 25) wd hg (fil (nI 0) (ar 26) (wd * hg)) (t)) t) + (((ar 25) t) - ((prt (ar 25) wd hg t) * (nI (sdN wd hg t))))))) la) (lv' := [(0, .ref (ad 0)), (1, .int (nI (t))), (2, .int (prt (ar 25) wd hg t))]) rfl rfl rfl ?_
          refine g_eq (ws' := mw E ad sc (va_up ar 26 (sp0 (ar 25) wd hg (plo (ar 25) wd hg (fil (nI 0) (ar 26) (wd * hg)) t) t)) la) (lv' := [(0, .ref (ad 0)), (1, .int (nI (t))), (2, .int (prt (ar 25) wd hg t))]) (rfl) rfl rfl ?_
          have J92_4 : G zp l ze ({ frames := 2, cells := 0, slots := 0, locals := 42 }) zs zm za zb zh zc 0 0 (MQ zb (Qz E A (none) (mw E ad sc (va_up (va_up ar 25 (cotI (mpn (ar 25) (ar 26) wd hg) (ar 25) (wd * hg))) 26 (mpn (ar 25) (ar 26) wd hg)) la)) za zs 0 0 A) E A 3 (mw E ad sc (va_up ar 26 (cup (sdL wd t) (sp0 (ar 25) wd hg (plo (ar 25) wd hg (fil (nI 0) (ar 26) (wd * hg)) t) t) (t - 1) (prt (ar 25) wd hg t))) la) (92) [(0, .ref (ad 0)), (1, .int (nI (t))), (2, .int (prt (ar 25) wd hg t))] [] := by
            have J119_5 : G zp l ze ({ frames := 2, cells := 0, slots := 0, locals := 42 }) zs zm za zb zh zc 0 0 (MQ zb (Qz E A (none) (mw E ad sc (va_up (va_up ar 25 (cotI (mpn (ar 25) (ar 26) wd hg) (ar 25) (wd * hg))) 26 (mpn (ar 25) (ar 26) wd hg)) la)) za zs 0 0 A) E A 3 (mw E ad sc (va_up ar 26 (cup (sdR wd t) (cup (sdL wd t) (sp0 (ar 25) wd hg (plo (ar 25) wd hg (fil (nI 0) (ar 26) (wd * hg)) t) t) (t - 1) (prt (ar 25) wd hg t)) (t + 1) (prt (ar 25) wd hg t))) la) (119) [(0, .ref (ad 0)), (1, .int (nI (t))), (2, .int (prt (ar 25) wd hg t))] [] := by
              have J142_6 : G zp l ze ({ frames := 2, cells := 0, slots := 0, locals := 42 }) zs zm za zb zh zc 0 0 (MQ zb (Qz E A (none) (mw E ad sc (va_up (va_up ar 25 (cotI (mpn (ar 25) (ar 26) wd hg) (ar 25) (wd * hg))) 26 (mpn (ar 25) (ar 26) wd hg)) la)) za zs 0 0 A) E A 3 (mw E ad sc (va_up ar 26 (cup (sdU wd t) (cup (sdR wd t) (cup (sdL wd t) (sp0 (ar 25) wd hg (plo (ar 25) wd hg (fil (nI 0) (ar 26) (wd * hg)) t) t) (t - 1) (prt (ar 25) wd hg t)) (t + 1) (prt (ar 25) wd hg t)) (t - wd) (prt (ar 25) wd hg t))) la) (142) [(0, .ref (ad 0)), (1, .int (nI (t))), (2, .int (prt (ar 25) wd hg t))] [] := by
                have J170_7 : G zp l ze ({ frames := 2, cells := 0, slots := 0, locals := 42 }) zs zm za zb zh zc 0 0 (MQ zb (Qz E A (none) (mw E ad sc (va_up (va_up ar 25 (cotI (mpn (ar 25) (ar 26) wd hg) (ar 25) (wd * hg))) 26 (mpn (ar 25) (ar 26) wd hg)) la)) za zs 0 0 A) E A 3 (mw E ad sc (va_up ar 26 (cup (sdD wd hg t) (cup (sdU wd t) (cup (sdR wd t) (cup (sdL wd t) (sp0 (ar 25) wd hg (plo (ar 25) wd hg (fil (nI 0) (ar 26) (wd * hg)) t) t) (t - 1) (prt (ar 25) wd hg t)) (t + 1) (prt (ar 25) wd hg t)) (t - wd) (prt (ar 25) wd hg t)) (t + wd) (prt (ar 25) wd hg t))) la) (170) [(0, .ref (ad 0)), (1, .int (nI (t))), (2, .int (prt (ar 25) wd hg t))] [] := by
                  refine g_iinc (pc := 170) (v := nI (t + 1)) (lv' := [(0, .ref (ad 0)), (1, .int (nI (t + 1))), (2, .int (prt (ar 25) wd hg t))]) hc 1 dX12_ploughOnce_170 rfl (nI_ofi t 1) (by decide) rfl ?_
                  refine g_goto (pc := 173) hc 25 dX12_ploughOnce_173 (by decide) ?_
                  refine g_lv [0, 1] (lv' := [(0, .ref (ad 0)), (1, .int (nI (t + 1)))]) rfl ?_
                  exact g_eq (ws' := mw E ad sc (va_up ar 26 (plo (ar 25) wd hg (fil (nI 0) (ar 26) (wd * hg)) (t + 1))) la) (lv' := [(0, .ref (ad 0)), (1, .int (nI (t + 1)))]) (rfl) (rfl) rfl (iht (t + 1) (by omega))
                refine g_iload_n (pc := 142) hc 1 dX12_ploughOnce_142 rfl rfl ?_
                refine g_aload_n (pc := 143) hc 0 dX12_ploughOnce_143 rfl rfl ?_
                refine gf_m0_wide (pc := 144) hc tw_1001 dX12_ploughOnce_144 ?_
                refine g_topi (v := nI wd) (hwd) ?_
                refine g_iadd (pc := 147) hc dX12_ploughOnce_147 ?_
                refine g_topi (v := nI (t + wd)) (nI_add t wd) ?_
                refine g_aload_n (pc := 148) hc 0 dX12_ploughOnce_148 rfl rfl ?_
                refine g_callVi (pc := 149) (rest := [.int (nI (t + wd))]) (As := []) hc (c_X12_paces l E ad hA sc (va_up ar 26 (cup (sdU wd t) (cup (sdR wd t) (cup (sdL wd t) (sp0 (ar 25) wd hg (plo (ar 25) wd hg (fil (nI 0) (ar 26) (wd * hg)) t) t) (t - 1) (prt (ar 25) wd hg t)) (t + 1) (prt (ar 25) wd hg t)) (t - wd) (prt (ar 25) wd hg t))) la  (hwd) (hwd1) (hwd2) (hhg) (hhg1) (hhg2)) mi_X12_paces tw_1140 0 rfl rfl rfl rfl ⟨rfl, rfl, by decide, by decide⟩ (Nat.le_of_ble_eq_true rfl) ⟨Nat.le_refl _, Nat.le_refl _⟩ rfl dX12_ploughOnce_149 ?_
                refine g_topi (v := nI (wd * hg)) rfl ?_
                refine g_icmp_ge (pc := 152) hc 170 dX12_ploughOnce_152 (by decide) (fun c8 => ?_) (fun c8 => ?_)
                · exact g_eq (ws' := mw E ad sc (va_up ar 26 (cup (sdD wd hg t) (cup (sdU wd t) (cup (sdR wd t) (cup (sdL wd t) (sp0 (ar 25) wd hg (plo (ar 25) wd hg (fil (nI 0) (ar 26) (wd * hg)) t) t) (t - 1) (prt (ar 25) wd hg t)) (t + 1) (prt (ar 25) wd hg t)) (t - wd) (prt (ar 25) wd hg t)) (t + wd) (prt (ar 25) wd hg t))) la) (lv' := [(0, .ref (ad 0)), (1, .int (nI (t))), (2, .int (prt (ar 25) wd hg t))]) (by (first | rw [cup_t (sD_t c8 htp hwd1 hm hwd2)] | rw [cup_f (sD_f c8 htp hwd1 hm hwd2)]); try rfl) (rfl) (rfl) J170_7
                · have hnd := nb_d (hg := hg) (sD_t c8 htp hwd1 hm hwd2) hcol
                  refine g_aload_n (pc := 155) hc 0 dX12_ploughOnce_155 rfl rfl ?_
                  refine gf_m0_next (pc := 156) hc tw_1035 dX12_ploughOnce_156 ?_
                  refine g_iload_n (pc := 159) hc 1 dX12_ploughOnce_159 rfl rfl ?_
                  refine g_aload_n (pc := 160) hc 0 dX12_ploughOnce_160 rfl rfl ?_
                  refine gf_m0_wide (pc := 161) hc tw_1001 dX12_ploughOnce_161 ?_
                  refine g_topi (v := nI wd) (hwd) ?_
                  refine g_iadd (pc := 164) hc dX12_ploughOnce_164 ?_
                  refine g_topi (v := nI (t + wd)) (nI_add t wd) ?_
                  refine g_dup2 (pc := 165) hc dX12_ploughOnce_165 rfl rfl ?_
                  refine la_m26 (pc := 166) hc (t + wd) (rfl) (by omega) dX12_ploughOnce_166 ?_
                  refine g_topi (v := (cup (sdU wd t) (cup (sdR wd t) (cup (sdL wd t) (sp0 (ar 25) wd hg (plo (ar 25) wd hg (fil (nI 0) (ar 26) (wd * hg)) t) t) (t - 1) (prt (ar 25) wd hg t)) (t + 1) (prt (ar 25) wd hg t)) (t - wd) (prt (ar 25) wd hg t)) (t + wd)) rfl ?_
                  refine g_iload_n (pc := 167) hc 2 dX12_ploughOnce_167 rfl rfl ?_
                  refine g_iadd (pc := 168) hc dX12_ploughOnce_168 ?_
                  refine sa_m26 (pc := 169) hc hA (t + wd) (rfl) (by omega) dX12_ploughOnce_169 ?_
                  refine g_eq (ws' := mw E ad sc (va_up ar 26 (upd (cup (sdU wd t) (cup (sdR wd t) (cup (sdL wd t) (sp0 (ar 25) wd hg (plo (ar 25) wd hg (fil (nI 0) (ar 26) (wd * hg)) t) t) (t - 1) (prt (ar 25) wd hg t)) (t + 1) (prt (ar 25) wd hg t)) (t - wd) (prt (ar 25) wd hg t)) (t + wd) (((cup (sdU wd t) (cup (sdR wd t) (cup (sdL wd t) (sp0 (ar 25) wd hg (plo (ar 25) wd hg (fil (nI 0) (ar 26) (wd * hg)) t) t) (t - 1) (prt (ar 25) wd hg t)) (t + 1) (prt (ar 25) wd hg t)) (t - wd) (prt (ar 25) wd hg t)) (t + wd)) + (prt (ar 25) wd hg t)))) la) (lv' := [(0, .ref (ad 0)), (1, .int (nI (t))), (2, .int (prt (ar 25) wd hg t))]) rfl rfl rfl ?_
                  exact g_eq (ws' := mw E ad sc (va_up ar 26 (cup (sdD wd hg t) (cup (sdU wd t) (cup (sdR wd t) (cup (sdL wd t) (sp0 (ar 25) wd hg (plo (ar 25) wd hg (fil (nI 0) (ar 26) (wd * hg)) t) t) (t - 1) (prt (ar 25) wd hg t)) (t + 1) (prt (ar 25) wd hg t)) (t - wd) (prt (ar 25) wd hg t)) (t + wd) (prt (ar 25) wd hg t))) la) (lv' := [(0, .ref (ad 0)), (1, .int (nI (t))), (2, .int (prt (ar 25) wd hg t))]) (by (first | rw [cup_t (sD_t c8 htp hwd1 hm hwd2)] | rw [cup_f (sD_f c8 htp hwd1 hm hwd2)]); try rfl) (rfl) (rfl) J170_7
              refine g_iload_n (pc := 119) hc 1 dX12_ploughOnce_119 rfl rfl ?_
              refine g_aload_n (pc := 120) hc 0 dX12_ploughOnce_120 rfl rfl ?_
              refine gf_m0_wide (pc := 121) hc tw_1001 dX12_ploughOnce_121 ?_
              refine g_topi (v := nI wd) (hwd) ?_
              refine g_icmp_lt (pc := 124) hc 142 dX12_ploughOnce_124 (by decide) (fun c9 => ?_) (fun c9 => ?_)
              · exact g_eq (ws' := mw E ad sc (va_up ar 26 (cup (sdU wd t) (cup (sdR wd t) (cup (sdL wd t) (sp0 (ar 25) wd hg (plo (ar 25) wd hg (fil (nI 0) (ar 26) (wd * hg)) t) t) (t - 1) (prt (ar 25) wd hg t)) (t + 1) (prt (ar 25) wd hg t)) (t - wd) (prt (ar 25) wd hg t))) la) (lv' := [(0, .ref (ad 0)), (1, .int (nI (t))), (2, .int (prt (ar 25) wd hg t))]) (by (first | rw [cup_t (sU_t c9 (by omega) (by omega) hwd1)] | rw [cup_f (sU_f c9 (by omega) (by omega))]); try rfl) (rfl) (rfl) J142_6
              · refine g_aload_n (pc := 127) hc 0 dX12_ploughOnce_127 rfl rfl ?_
                refine gf_m0_next (pc := 128) hc tw_1035 dX12_ploughOnce_128 ?_
                refine g_iload_n (pc := 131) hc 1 dX12_ploughOnce_131 rfl rfl ?_
                refine g_aload_n (pc := 132) hc 0 dX12_ploughOnce_132 rfl rfl ?_
                refine gf_m0_wide (pc := 133) hc tw_1001 dX12_ploughOnce_133 ?_
                refine g_topi (v := nI wd) (hwd) ?_
                refine g_isub (pc := 136) hc dX12_ploughOnce_136 ?_
                refine g_topi (v := nI (t - wd)) (pk_sub (nb_u (sU_t c9 (by omega) (by omega) hwd1))) ?_
                refine g_dup2 (pc := 137) hc dX12_ploughOnce_137 rfl rfl ?_
                refine la_m26 (pc := 138) hc (t - wd) (rfl) (by omega) dX12_ploughOnce_138 ?_
                refine g_topi (v := (cup (sdR wd t) (cup (sdL wd t) (sp0 (ar 25) wd hg (plo (ar 25) wd hg (fil (nI 0) (ar 26) (wd * hg)) t) t) (t - 1) (prt (ar 25) wd hg t)) (t + 1) (prt (ar 25) wd hg t)) (t - wd)) rfl ?_
                refine g_iload_n (pc := 139) hc 2 dX12_ploughOnce_139 rfl rfl ?_
                refine g_iadd (pc := 140) hc dX12_ploughOnce_140 ?_
                refine sa_m26 (pc := 141) hc hA (t - wd) (rfl) (by omega) dX12_ploughOnce_141 ?_
                refine g_eq (ws' := mw E ad sc (va_up ar 26 (upd (cup (sdR wd t) (cup (sdL wd t) (sp0 (ar 25) wd hg (plo (ar 25) wd hg (fil (nI 0) (ar 26) (wd * hg)) t) t) (t - 1) (prt (ar 25) wd hg t)) (t + 1) (prt (ar 25) wd hg t)) (t - wd) (((cup (sdR wd t) (cup (sdL wd t) (sp0 (ar 25) wd hg (plo (ar 25) wd hg (fil (nI 0) (ar 26) (wd * hg)) t) t) (t - 1) (prt (ar 25) wd hg t)) (t + 1) (prt (ar 25) wd hg t)) (t - wd)) + (prt (ar 25) wd hg t)))) la) (lv' := [(0, .ref (ad 0)), (1, .int (nI (t))), (2, .int (prt (ar 25) wd hg t))]) rfl rfl rfl ?_
                exact g_eq (ws' := mw E ad sc (va_up ar 26 (cup (sdU wd t) (cup (sdR wd t) (cup (sdL wd t) (sp0 (ar 25) wd hg (plo (ar 25) wd hg (fil (nI 0) (ar 26) (wd * hg)) t) t) (t - 1) (prt (ar 25) wd hg t)) (t + 1) (prt (ar 25) wd hg t)) (t - wd) (prt (ar 25) wd hg t))) la) (lv' := [(0, .ref (ad 0)), (1, .int (nI (t))), (2, .int (prt (ar 25) wd hg t))]) (by (first | rw [cup_t (sU_t c9 (by omega) (by omega) hwd1)] | rw [cup_f (sU_f c9 (by omega) (by omega))]); try rfl) (rfl) (rfl) J142_6
            refine g_iload_n (pc := 92) hc 1 dX12_ploughOnce_92 rfl rfl ?_
            refine g_aload_n (pc := 93) hc 0 dX12_ploughOnce_93 rfl rfl ?_
            refine gf_m0_wide (pc := 94) hc tw_1001 dX12_ploughOnce_94 ?_
            refine g_topi (v := nI wd) (hwd) ?_
            refine g_irem (pc := 97) hc dX12_ploughOnce_97 (nI_ne0 (by omega) (by omega)) ?_
            refine g_topi (v := nI (t % wd)) (pk_rem (by omega) (by omega) (by omega)) ?_
            refine g_aload_n (pc := 98) hc 0 dX12_ploughOnce_98 rfl rfl ?_
            refine gf_m0_wide (pc := 99) hc tw_1001 dX12_ploughOnce_99 ?_
            refine g_topi (v := nI wd) (hwd) ?_
            refine g_iconst (pc := 102) (v := nI 1) hc dX12_ploughOnce_102 (by decide) ?_
            refine g_isub (pc := 103) hc dX12_ploughOnce_103 ?_
            refine g_topi (v := nI (wd - 1)) (pk_sub (by omega)) ?_
            refine g_icmp_ge (pc := 104) hc 119 dX12_ploughOnce_104 (by decide) (fun c10 => ?_) (fun c10 => ?_)
            · exact g_eq (ws' := mw E ad sc (va_up ar 26 (cup (sdR wd t) (cup (sdL wd t) (sp0 (ar 25) wd hg (plo (ar 25) wd hg (fil (nI 0) (ar 26) (wd * hg)) t) t) (t - 1) (prt (ar 25) wd hg t)) (t + 1) (prt (ar 25) wd hg t))) la) (lv' := [(0, .ref (ad 0)), (1, .int (nI (t))), (2, .int (prt (ar 25) wd hg t))]) (by (first | rw [cup_t (sR_t c10 (by omega) (by omega))] | rw [cup_f (sR_f c10 (by omega) (by omega))]); try rfl) (rfl) (rfl) J119_5
            · have hnr := nb_r (hg := hg) (sR_t c10 (by omega) (by omega)) hrow
              refine g_aload_n (pc := 107) hc 0 dX12_ploughOnce_107 rfl rfl ?_
              refine gf_m0_next (pc := 108) hc tw_1035 dX12_ploughOnce_108 ?_
              refine g_iload_n (pc := 111) hc 1 dX12_ploughOnce_111 rfl rfl ?_
              refine g_iconst (pc := 112) (v := nI 1) hc dX12_ploughOnce_112 (by decide) ?_
              refine g_iadd (pc := 113) hc dX12_ploughOnce_113 ?_
              refine g_topi (v := nI (t + 1)) (nI_add t 1) ?_
              refine g_dup2 (pc := 114) hc dX12_ploughOnce_114 rfl rfl ?_
              refine la_m26 (pc := 115) hc (t + 1) (rfl) (by omega) dX12_ploughOnce_115 ?_
              refine g_topi (v := (cup (sdL wd t) (sp0 (ar 25) wd hg (plo (ar 25) wd hg (fil (nI 0) (ar 26) (wd * hg)) t) t) (t - 1) (prt (ar 25) wd hg t)) (t + 1)) rfl ?_
              refine g_iload_n (pc := 116) hc 2 dX12_ploughOnce_116 rfl rfl ?_
              refine g_iadd (pc := 117) hc dX12_ploughOnce_117 ?_
              refine sa_m26 (pc := 118) hc hA (t + 1) (rfl) (by omega) dX12_ploughOnce_118 ?_
              refine g_eq (ws' := mw E ad sc (va_up ar 26 (upd (cup (sdL wd t) (sp0 (ar 25) wd hg (plo (ar 25) wd hg (fil (nI 0) (ar 26) (wd * hg)) t) t) (t - 1) (prt (ar 25) wd hg t)) (t + 1) (((cup (sdL wd t) (sp0 (ar 25) wd hg (plo (ar 25) wd hg (fil (nI 0) (ar 26) (wd * hg)) t) t) (t - 1) (prt (ar 25) wd hg t)) (t + 1)) + (prt (ar 25) wd hg t)))) la) (lv' := [(0, .ref (ad 0)), (1, .int (nI (t))), (2, .int (prt (ar 25) wd hg t))]) rfl rfl rfl ?_
              exact g_eq (ws' := mw E ad sc (va_up ar 26 (cup (sdR wd t) (cup (sdL wd t) (sp0 (ar 25) wd hg (plo (ar 25) wd hg (fil (nI 0) (ar 26) (wd * hg)) t) t) (t - 1) (prt (ar 25) wd hg t)) (t + 1) (prt (ar 25) wd hg t))) la) (lv' := [(0, .ref (ad 0)), (1, .int (nI (t))), (2, .int (prt (ar 25) wd hg t))]) (by (first | rw [cup_t (sR_t c10 (by omega) (by omega))] | rw [cup_f (sR_f c10 (by omega) (by omega))]); try rfl) (rfl) (rfl) J119_5
          refine g_iload_n (pc := 71) hc 1 dX12_ploughOnce_71 rfl rfl ?_
          refine g_aload_n (pc := 72) hc 0 dX12_ploughOnce_72 rfl rfl ?_
          refine gf_m0_wide (pc := 73) hc tw_1001 dX12_ploughOnce_73 ?_
          refine g_topi (v := nI wd) (hwd) ?_
          refine g_irem (pc := 76) hc dX12_ploughOnce_76 (nI_ne0 (by omega) (by omega)) ?_
          refine g_topi (v := nI (t % wd)) (pk_rem (by omega) (by omega) (by omega)) ?_
          refine g_if_le (pc := 77) hc 92 dX12_ploughOnce_77 (by decide) (fun c11 => ?_) (fun c11 => ?_)
          · exact g_eq (ws' := mw E ad sc (va_up ar 26 (cup (sdL wd t) (sp0 (ar 25) wd hg (plo (ar 25) wd hg (fil (nI 0) (ar 26) (wd * hg)) t) t) (t - 1) (prt (ar 25) wd hg t))) la) (lv' := [(0, .ref (ad 0)), (1, .int (nI (t))), (2, .int (prt (ar 25) wd hg t))]) (by (first | rw [cup_t (sL_t c11)] | rw [cup_f (sL_f c11 (by omega))]); try rfl) (rfl) (rfl) J92_4
          · refine g_aload_n (pc := 80) hc 0 dX12_ploughOnce_80 rfl rfl ?_
            refine gf_m0_next (pc := 81) hc tw_1035 dX12_ploughOnce_81 ?_
            refine g_iload_n (pc := 84) hc 1 dX12_ploughOnce_84 rfl rfl ?_
            refine g_iconst (pc := 85) (v := nI 1) hc dX12_ploughOnce_85 (by decide) ?_
            refine g_isub (pc := 86) hc dX12_ploughOnce_86 ?_
            refine g_topi (v := nI (t - 1)) (pk_sub (nb_l (sL_t c11))) ?_
            refine g_dup2 (pc := 87) hc dX12_ploughOnce_87 rfl rfl ?_
            refine la_m26 (pc := 88) hc (t - 1) (rfl) (by omega) dX12_ploughOnce_88 ?_
            refine g_topi (v := (sp0 (ar 25) wd hg (plo (ar 25) wd hg (fil (nI 0) (ar 26) (wd * hg)) t) t) (t - 1)) rfl ?_
            refine g_iload_n (pc := 89) hc 2 dX12_ploughOnce_89 rfl rfl ?_
            refine g_iadd (pc := 90) hc dX12_ploughOnce_90 ?_
            refine sa_m26 (pc := 91) hc hA (t - 1) (rfl) (by omega) dX12_ploughOnce_91 ?_
            refine g_eq (ws' := mw E ad sc (va_up ar 26 (upd (sp0 (ar 25) wd hg (plo (ar 25) wd hg (fil (nI 0) (ar 26) (wd * hg)) t) t) (t - 1) (((sp0 (ar 25) wd hg (plo (ar 25) wd hg (fil (nI 0) (ar 26) (wd * hg)) t) t) (t - 1)) + (prt (ar 25) wd hg t)))) la) (lv' := [(0, .ref (ad 0)), (1, .int (nI (t))), (2, .int (prt (ar 25) wd hg t))]) rfl rfl rfl ?_
            exact g_eq (ws' := mw E ad sc (va_up ar 26 (cup (sdL wd t) (sp0 (ar 25) wd hg (plo (ar 25) wd hg (fil (nI 0) (ar 26) (wd * hg)) t) t) (t - 1) (prt (ar 25) wd hg t))) la) (lv' := [(0, .ref (ad 0)), (1, .int (nI (t))), (2, .int (prt (ar 25) wd hg t))]) (by (first | rw [cup_t (sL_t c11)] | rw [cup_f (sL_f c11 (by omega))]); try rfl) (rfl) (rfl) J92_4
      exact g_eq (ws' := mw E ad sc (va_up ar 26 (plo (ar 25) wd hg (fil (nI 0) (ar 26) (wd * hg)) (0))) la) (lv' := [(0, .ref (ad 0)), (1, .int (nI (0)))]) (rfl) (rfl) rfl (L25_2 (wd * hg - 0) (0) (by omega))
    | succ ku ihu =>
      intro u lhu
      have lhun : u < wd * hg := by omega
      refine g_iload_n (pc := 2) hc 1 dX12_ploughOnce_2 rfl rfl ?_
      refine g_aload_n (pc := 3) hc 0 dX12_ploughOnce_3 rfl rfl ?_
      refine g_callVi (pc := 4) (rest := [.int (nI (u))]) (As := []) hc (c_X12_paces l E ad hA sc (va_up ar 26 (fil (nI 0) (ar 26) (u))) la  (hwd) (hwd1) (hwd2) (hhg) (hhg1) (hhg2)) mi_X12_paces tw_1140 0 rfl rfl rfl rfl ⟨rfl, rfl, by decide, by decide⟩ (Nat.le_of_ble_eq_true rfl) ⟨Nat.le_refl _, Nat.le_refl _⟩ rfl dX12_ploughOnce_4 ?_
      refine g_topi (v := nI (wd * hg)) rfl ?_
      refine g_icmp_ge_f (pc := 7) hc 23 dX12_ploughOnce_7 (by decide) (nI_ge (by omega) (by omega)) ?_
      refine g_aload_n (pc := 10) hc 0 dX12_ploughOnce_10 rfl rfl ?_
      refine gf_m0_next (pc := 11) hc tw_1035 dX12_ploughOnce_11 ?_
      refine g_iload_n (pc := 14) hc 1 dX12_ploughOnce_14 rfl rfl ?_
      refine g_iconst (pc := 15) (v := nI 0) hc dX12_ploughOnce_15 (by decide) ?_
      refine sa_m26 (pc := 16) hc hA (u) (rfl) (by omega) dX12_ploughOnce_16 ?_
      refine g_eq (ws' := mw E ad sc (va_up ar 26 (upd (fil (nI 0) (ar 26) (u)) u (nI 0))) la) (lv' := [(0, .ref (ad 0)), (1, .int (nI (u)))]) rfl rfl rfl ?_
      refine g_iinc (pc := 17) (v := nI (u + 1)) (lv' := [(0, .ref (ad 0)), (1, .int (nI (u + 1)))]) hc 1 dX12_ploughOnce_17 rfl (nI_ofi u 1) (by decide) rfl ?_
      refine g_goto (pc := 20) hc 2 dX12_ploughOnce_20 (by decide) ?_
      exact g_eq (ws' := mw E ad sc (va_up ar 26 (fil (nI 0) (ar 26) (u + 1))) la) (lv' := [(0, .ref (ad 0)), (1, .int (nI (u + 1)))]) (by rw [fil_succ]) (rfl) rfl (ihu (u + 1) (by omega))
  exact g_eq (ws' := mw E ad sc (va_up ar 26 (fil (nI 0) (ar 26) (0))) la) (lv' := [(0, .ref (ad 0)), (1, .int (nI (0)))]) (by rw [fil_0]; rfl) (rfl) rfl (L2_1 (wd * hg - 0) (0) (by omega))

theorem dX12_plough_0 : decode cX12_plough 0 = .ok (.aload_n 0, 1) := by decide +kernel
theorem dX12_plough_1 : decode cX12_plough 1 = .ok (.iload_n 1, 1) := by decide +kernel
theorem dX12_plough_2 : decode cX12_plough 2 = .ok (.invokevirtual 154, 3) := by decide +kernel
theorem dX12_plough_5 : decode cX12_plough 5 = .ok (.ifCond .eq 13, 3) := by decide +kernel
theorem dX12_plough_8 : decode cX12_plough 8 = .ok (.iload_n 2, 1) := by decide +kernel
theorem dX12_plough_9 : decode cX12_plough 9 = .ok (.iconst 0, 1) := by decide +kernel
theorem dX12_plough_10 : decode cX12_plough 10 = .ok (.bipush 50, 2) := by decide +kernel
theorem dX12_plough_12 : decode cX12_plough 12 = .ok (.invokestatic 113, 3) := by decide +kernel
theorem dX12_plough_15 : decode cX12_plough 15 = .ok (.ifCond .ne 6, 3) := by decide +kernel
theorem dX12_plough_18 : decode cX12_plough 18 = .ok (.ldc 120, 2) := by decide +kernel
theorem dX12_plough_20 : decode cX12_plough 20 = .ok (.ireturn, 1) := by decide +kernel
theorem dX12_plough_21 : decode cX12_plough 21 = .ok (.aload_n 0, 1) := by decide +kernel
theorem dX12_plough_22 : decode cX12_plough 22 = .ok (.getfield 72, 3) := by decide +kernel
theorem dX12_plough_25 : decode cX12_plough 25 = .ok (.iconst 0, 1) := by decide +kernel
theorem dX12_plough_26 : decode cX12_plough 26 = .ok (.iaload, 1) := by decide +kernel
theorem dX12_plough_27 : decode cX12_plough 27 = .ok (.ifCond .ge 6, 3) := by decide +kernel
theorem dX12_plough_30 : decode cX12_plough 30 = .ok (.ldc 194, 2) := by decide +kernel
theorem dX12_plough_32 : decode cX12_plough 32 = .ok (.ireturn, 1) := by decide +kernel
theorem dX12_plough_33 : decode cX12_plough 33 = .ok (.iconst 0, 1) := by decide +kernel
theorem dX12_plough_34 : decode cX12_plough 34 = .ok (.istore_n 3, 1) := by decide +kernel
theorem dX12_plough_35 : decode cX12_plough 35 = .ok (.iload_n 3, 1) := by decide +kernel
theorem dX12_plough_36 : decode cX12_plough 36 = .ok (.aload_n 0, 1) := by decide +kernel
theorem dX12_plough_37 : decode cX12_plough 37 = .ok (.invokevirtual 109, 3) := by decide +kernel
theorem dX12_plough_40 : decode cX12_plough 40 = .ok (.if_icmp .ge 51, 3) := by decide +kernel
theorem dX12_plough_43 : decode cX12_plough 43 = .ok (.aload_n 0, 1) := by decide +kernel
theorem dX12_plough_44 : decode cX12_plough 44 = .ok (.getfield 93, 3) := by decide +kernel
theorem dX12_plough_47 : decode cX12_plough 47 = .ok (.iload_n 3, 1) := by decide +kernel
theorem dX12_plough_48 : decode cX12_plough 48 = .ok (.iload_n 3, 1) := by decide +kernel
theorem dX12_plough_49 : decode cX12_plough 49 = .ok (.aload_n 0, 1) := by decide +kernel
theorem dX12_plough_50 : decode cX12_plough 50 = .ok (.getfield 72, 3) := by decide +kernel
theorem dX12_plough_53 : decode cX12_plough 53 = .ok (.iconst 0, 1) := by decide +kernel
theorem dX12_plough_54 : decode cX12_plough 54 = .ok (.iaload, 1) := by decide +kernel
theorem dX12_plough_55 : decode cX12_plough 55 = .ok (.if_icmp .ge 28, 3) := by decide +kernel
theorem dX12_plough_58 : decode cX12_plough 58 = .ok (.aload_n 0, 1) := by decide +kernel
theorem dX12_plough_59 : decode cX12_plough 59 = .ok (.getfield 75, 3) := by decide +kernel
theorem dX12_plough_62 : decode cX12_plough 62 = .ok (.iload_n 3, 1) := by decide +kernel
theorem dX12_plough_63 : decode cX12_plough 63 = .ok (.iaload, 1) := by decide +kernel
theorem dX12_plough_64 : decode cX12_plough 64 = .ok (.iconst 0, 1) := by decide +kernel
theorem dX12_plough_65 : decode cX12_plough 65 = .ok (.sipush 9999, 3) := by decide +kernel
theorem dX12_plough_68 : decode cX12_plough 68 = .ok (.invokestatic 113, 3) := by decide +kernel
theorem dX12_plough_71 : decode cX12_plough 71 = .ok (.ifCond .eq 12, 3) := by decide +kernel
theorem dX12_plough_74 : decode cX12_plough 74 = .ok (.aload_n 0, 1) := by decide +kernel
theorem dX12_plough_75 : decode cX12_plough 75 = .ok (.getfield 75, 3) := by decide +kernel
theorem dX12_plough_78 : decode cX12_plough 78 = .ok (.iload_n 3, 1) := by decide +kernel
theorem dX12_plough_79 : decode cX12_plough 79 = .ok (.iaload, 1) := by decide +kernel
theorem dX12_plough_80 : decode cX12_plough 80 = .ok (.goto 4, 3) := by decide +kernel
theorem dX12_plough_83 : decode cX12_plough 83 = .ok (.iconst 0, 1) := by decide +kernel
theorem dX12_plough_84 : decode cX12_plough 84 = .ok (.iastore, 1) := by decide +kernel
theorem dX12_plough_85 : decode cX12_plough 85 = .ok (.iinc 3 1, 3) := by decide +kernel
theorem dX12_plough_88 : decode cX12_plough 88 = .ok (.goto (-53), 3) := by decide +kernel
theorem dX12_plough_91 : decode cX12_plough 91 = .ok (.iconst 0, 1) := by decide +kernel
theorem dX12_plough_92 : decode cX12_plough 92 = .ok (.istore_n 3, 1) := by decide +kernel
theorem dX12_plough_93 : decode cX12_plough 93 = .ok (.iload_n 3, 1) := by decide +kernel
theorem dX12_plough_94 : decode cX12_plough 94 = .ok (.iload_n 2, 1) := by decide +kernel
theorem dX12_plough_95 : decode cX12_plough 95 = .ok (.if_icmp .ge 13, 3) := by decide +kernel
theorem dX12_plough_98 : decode cX12_plough 98 = .ok (.aload_n 0, 1) := by decide +kernel
theorem dX12_plough_99 : decode cX12_plough 99 = .ok (.invokevirtual 195, 3) := by decide +kernel
theorem dX12_plough_102 : decode cX12_plough 102 = .ok (.iinc 3 1, 3) := by decide +kernel
theorem dX12_plough_105 : decode cX12_plough 105 = .ok (.goto (-12), 3) := by decide +kernel
theorem dX12_plough_108 : decode cX12_plough 108 = .ok (.aload_n 0, 1) := by decide +kernel
theorem dX12_plough_109 : decode cX12_plough 109 = .ok (.getfield 93, 3) := by decide +kernel
theorem dX12_plough_112 : decode cX12_plough 112 = .ok (.iload_n 1, 1) := by decide +kernel
theorem dX12_plough_113 : decode cX12_plough 113 = .ok (.iaload, 1) := by decide +kernel
theorem dX12_plough_114 : decode cX12_plough 114 = .ok (.ireturn, 1) := by decide +kernel

set_option maxHeartbeats 4000000 in
set_option maxRecDepth 100000 in
theorem c_X12_plough (l : Launch) (E : Ev) {A : Nat → Prop} (ad : Nat → Nat) (hA : Oka 30 ad A) (sc : Nat → Int32) (ar : Nat → Nat → Int32) (la : Nat → Int64) {wd hg : Nat} (x : Int32) (y : Int32) (hwd : sc 0 = nI wd) (hwd1 : 2 ≤ wd) (hwd2 : wd ≤ 8) (hhg : sc 1 = nI hg) (hhg1 : 2 ≤ hg) (hhg2 : hg ≤ 8) : Ct l E yX12_plough (.code yX12_plough cX12_plough 4 (some .int)) ({ frames := 3, cells := 0, slots := 0, locals := 64 }) A (mw E ad sc ar la) [.ref (ad 0), .int x, .int y] (some (.int (if ok2 (inx x (nI (wd * hg))) (inr y (nI 0) (nI 50)) = true then (if ar 18 0 < 0 then (-1000000011) else (mpl wd hg (cotI (msv (ar 18 0) (ar 19)) (ar 25) (wd * hg), ar 26) (tn y)).1 (tn x)) else (-1000000001)))) (if ok2 (inx x (nI (wd * hg))) (inr y (nI 0) (nI 50)) = true then (if ar 18 0 < 0 then mw E ad sc ar la else mw E ad sc (va_up (va_up ar 25 (mpl wd hg (cotI (msv (ar 18 0) (ar 19)) (ar 25) (wd * hg), ar 26) (tn y)).1) 26 (mpl wd hg (cotI (msv (ar 18 0) (ar 19)) (ar 25) (wd * hg), ar 26) (tn y)).2) la) else mw E ad sc ar la) := by
  have hm := prod64 hwd2 hhg2
  refine Ct.of (lv := [(0, .ref (ad 0)), (1, .int x), (2, .int y)]) (by decide +kernel) (Nat.le_of_ble_eq_true rfl) rfl ?_
  intro zp ze zs zm za zb zh zc hc
  refine g_aload_n (pc := 0) hc 0 dX12_plough_0 rfl rfl ?_
  refine g_iload_n (pc := 1) hc 1 dX12_plough_1 rfl rfl ?_
  refine g_callVi (pc := 2) (rest := []) (As := [.int x]) hc (c_X12_isPace l E ad hA sc ar la x (hwd) (hwd1) (hwd2) (hhg) (hhg1) (hhg2)) mi_X12_isPace tw_1185 0 rfl rfl rfl rfl ⟨rfl, rfl, by decide, by decide⟩ (Nat.le_of_ble_eq_true rfl) ⟨Nat.le_refl _, Nat.le_refl _⟩ rfl dX12_plough_2 ?_
  refine g_if_eq_b (pc := 5) hc 18 dX12_plough_5 (by decide) (fun c1 => ?_) (fun c1 => ?_)
  · refine g_ldc (pc := 18) (v := (-1000000001)) hc tw_1139 dX12_plough_18 ?_
    exact g_iret (pc := 20) hc dX12_plough_20 (by rw [if_neg (ne_true_of_eq_false (ok2_f1 c1))]) (by rw [if_neg (ne_true_of_eq_false (ok2_f1 c1))])
  · refine g_iload_n (pc := 8) hc 2 dX12_plough_8 rfl rfl ?_
    refine g_iconst (pc := 9) (v := nI 0) hc dX12_plough_9 (by decide) ?_
    refine g_bipush (pc := 10) (v := nI 50) hc dX12_plough_10 (by decide) ?_
    refine g_callSi (pc := 12) (rest := []) (As := [.int y, .int (nI 0), .int (nI 50)]) hc (c_X12_isIn l E ad hA sc ar la y (nI 0) (nI 50)) mi_X12_isIn tw_1136 rfl ⟨rfl, rfl, by decide, by decide⟩ (Nat.le_of_ble_eq_true rfl) ⟨Nat.le_refl _, Nat.le_refl _⟩ rfl dX12_plough_12 ?_
    refine g_if_ne_b (pc := 15) hc 21 dX12_plough_15 (by decide) (fun c2 => ?_) (fun c2 => ?_)
    · obtain ⟨p, hp, hx⟩ := inx_of (by omega) c1
      obtain ⟨m, hm0, hm50, hy⟩ := inr_of (by decide) c2 (by decide)
      refine g_eq (ws' := mw E ad sc ar la) (lv' := [(0, .ref (ad 0)), (1, .int (nI p)), (2, .int (nI m))]) rfl (by rw [hx, hy]) rfl ?_
      refine g_aload_n (pc := 21) hc 0 dX12_plough_21 rfl rfl ?_
      refine gf_m0_places (pc := 22) hc tw_1027 dX12_plough_22 ?_
      refine g_iconst (pc := 25) (v := nI 0) hc dX12_plough_25 (by decide) ?_
      refine la_m18 (pc := 26) hc (0) (rfl) (by omega) dX12_plough_26 ?_
      refine g_if_ge (pc := 27) hc 33 dX12_plough_27 (by decide) (fun c3 => ?_) (fun c3 => ?_)
      · refine g_iconst (pc := 33) (v := nI 0) hc dX12_plough_33 (by decide) ?_
        refine g_istore_n (pc := 34) (lv' := [(0, .ref (ad 0)), (1, .int (nI p)), (2, .int (nI m)), (3, .int (nI 0))]) hc dX12_plough_34 rfl (by decide) rfl ?_
        have L35_4 : ∀ (kt t : Nat), t + kt = wd * hg → G zp l ze ({ frames := 3, cells := 0, slots := 0, locals := 64 }) zs zm za zb zh zc 0 0 (MQ zb (Qz E A (some (.int (if ok2 (inx x (nI (wd * hg))) (inr y (nI 0) (nI 50)) = true then (if ar 18 0 < 0 then (-1000000011) else (mpl wd hg (cotI (msv (ar 18 0) (ar 19)) (ar 25) (wd * hg), ar 26) (tn y)).1 (tn x)) else (-1000000001)))) (if ok2 (inx x (nI (wd * hg))) (inr y (nI 0) (nI 50)) = true then (if ar 18 0 < 0 then mw E ad sc ar la else mw E ad sc (va_up (va_up ar 25 (mpl wd hg (cotI (msv (ar 18 0) (ar 19)) (ar 25) (wd * hg), ar 26) (tn y)).1) 26 (mpl wd hg (cotI (msv (ar 18 0) (ar 19)) (ar 25) (wd * hg), ar 26) (tn y)).2) la) else mw E ad sc ar la)) za zs 0 0 A) E A 4 (mw E ad sc (va_up ar 25 (cotI (msv (ar 18 0) (ar 19)) (ar 25) (t))) la) (35) [(0, .ref (ad 0)), (1, .int (nI p)), (2, .int (nI m)), (3, .int (nI (t)))] [] := by
          intro kt
          induction kt with
          | zero =>
            intro t lht
            have lhtn : wd * hg = t := by omega
            subst lhtn
            refine g_iload_n (pc := 35) hc 3 dX12_plough_35 rfl rfl ?_
            refine g_aload_n (pc := 36) hc 0 dX12_plough_36 rfl rfl ?_
            refine g_callVi (pc := 37) (rest := [.int (nI (wd * hg))]) (As := []) hc (c_X12_paces l E ad hA sc (va_up ar 25 (cotI (msv (ar 18 0) (ar 19)) (ar 25) (wd * hg))) la  (hwd) (hwd1) (hwd2) (hhg) (hhg1) (hhg2)) mi_X12_paces tw_1140 0 rfl rfl rfl rfl ⟨rfl, rfl, by decide, by decide⟩ (Nat.le_of_ble_eq_true rfl) ⟨Nat.le_refl _, Nat.le_refl _⟩ rfl dX12_plough_37 ?_
            refine g_topi (v := nI (wd * hg)) rfl ?_
            refine g_icmp_ge_t (pc := 40) hc 91 dX12_plough_40 (by decide) (nI_le (by omega) (by omega)) ?_
            refine g_iconst (pc := 91) (v := nI 0) hc dX12_plough_91 (by decide) ?_
            refine g_istore_n (pc := 92) (lv' := [(0, .ref (ad 0)), (1, .int (nI p)), (2, .int (nI m)), (3, .int (nI 0))]) hc dX12_plough_92 rfl (by decide) rfl ?_
            have L93_5 : ∀ (kd d : Nat), d + kd = m → G zp l ze ({ frames := 3, cells := 0, slots := 0, locals := 64 }) zs zm za zb zh zc 0 0 (MQ zb (Qz E A (some (.int (if ok2 (inx x (nI (wd * hg))) (inr y (nI 0) (nI 50)) = true then (if ar 18 0 < 0 then (-1000000011) else (mpl wd hg (cotI (msv (ar 18 0) (ar 19)) (ar 25) (wd * hg), ar 26) (tn y)).1 (tn x)) else (-1000000001)))) (if ok2 (inx x (nI (wd * hg))) (inr y (nI 0) (nI 50)) = true then (if ar 18 0 < 0 then mw E ad sc ar la else mw E ad sc (va_up (va_up ar 25 (mpl wd hg (cotI (msv (ar 18 0) (ar 19)) (ar 25) (wd * hg), ar 26) (tn y)).1) 26 (mpl wd hg (cotI (msv (ar 18 0) (ar 19)) (ar 25) (wd * hg), ar 26) (tn y)).2) la) else mw E ad sc ar la)) za zs 0 0 A) E A 4 (mw E ad sc (va_up (va_up ar 25 (mpl wd hg (cotI (msv (ar 18 0) (ar 19)) (ar 25) (wd * hg), ar 26) (d)).1) 26 (mpl wd hg (cotI (msv (ar 18 0) (ar 19)) (ar 25) (wd * hg), ar 26) (d)).2) la) (93) [(0, .ref (ad 0)), (1, .int (nI p)), (2, .int (nI m)), (3, .int (nI (d)))] [] := by
              intro kd
              induction kd with
              | zero =>
                intro d lhd
                have lhdn : m = d := by omega
                subst lhdn
                refine g_iload_n (pc := 93) hc 3 dX12_plough_93 rfl rfl ?_
                refine g_iload_n (pc := 94) hc 2 dX12_plough_94 rfl rfl ?_
                refine g_icmp_ge_t (pc := 95) hc 108 dX12_plough_95 (by decide) (nI_le (by omega) (by omega)) ?_
                refine g_aload_n (pc := 108) hc 0 dX12_plough_108 rfl rfl ?_
                refine gf_m0_soil (pc := 109) hc tw_1034 dX12_plough_109 ?_
                refine g_iload_n (pc := 112) hc 1 dX12_plough_112 rfl rfl ?_
                refine la_m25 (pc := 113) hc (p) (rfl) (by omega) dX12_plough_113 ?_
                refine g_topi (v := (mpl wd hg (cotI (msv (ar 18 0) (ar 19)) (ar 25) (wd * hg), ar 26) (m)).1 p) rfl ?_
                exact g_iret (pc := 114) hc dX12_plough_114 (by rw [if_pos (ok2_t c1 c2), if_neg (Int32.not_lt.mpr c3), hx, hy, tn, tn, nI_clamp (by omega), nI_clamp (by omega)]) (by rw [if_pos (ok2_t c1 c2), if_neg (Int32.not_lt.mpr c3), hy, tn, nI_clamp (by omega)])
              | succ kd ihd =>
                intro d lhd
                have lhdn : d < m := by omega
                refine g_iload_n (pc := 93) hc 3 dX12_plough_93 rfl rfl ?_
                refine g_iload_n (pc := 94) hc 2 dX12_plough_94 rfl rfl ?_
                refine g_icmp_ge_f (pc := 95) hc 108 dX12_plough_95 (by decide) (nI_ge (by omega) (by omega)) ?_
                refine g_aload_n (pc := 98) hc 0 dX12_plough_98 rfl rfl ?_
                refine g_callVv (pc := 99) (rest := []) (As := []) hc (c_X12_ploughOnce l E ad hA sc (va_up (va_up ar 25 (mpl wd hg (cotI (msv (ar 18 0) (ar 19)) (ar 25) (wd * hg), ar 26) (d)).1) 26 (mpl wd hg (cotI (msv (ar 18 0) (ar 19)) (ar 25) (wd * hg), ar 26) (d)).2) la  (hwd) (hwd1) (hwd2) (hhg) (hhg1) (hhg2)) mi_X12_ploughOnce tw_1283 0 rfl rfl rfl rfl ⟨rfl, rfl, by decide, by decide⟩ (Nat.le_of_ble_eq_true rfl) ⟨Nat.le_refl _, Nat.le_refl _⟩ rfl dX12_plough_99 ?_
                refine g_eq (ws' := mw E ad sc (va_up (va_up ar 25 (cotI (mpn (mpl wd hg (cotI (msv (ar 18 0) (ar 19)) (ar 25) (wd * hg), ar 26) (d)).1 (mpl wd hg (cotI (msv (ar 18 0) (ar 19)) (ar 25) (wd * hg), ar 26) (d)).2 wd hg) (mpl wd hg (cotI (msv (ar 18 0) (ar 19)) (ar 25) (wd * hg), ar 26) (d)).1 (wd * hg))) 26 (mpn (mpl wd hg (cotI (msv (ar 18 0) (ar 19)) (ar 25) (wd * hg), ar 26) (d)).1 (mpl wd hg (cotI (msv (ar 18 0) (ar 19)) (ar 25) (wd * hg), ar 26) (d)).2 wd hg)) la) (lv' := [(0, .ref (ad 0)), (1, .int (nI p)), (2, .int (nI m)), (3, .int (nI (d)))]) (rfl) rfl rfl ?_
                refine g_iinc (pc := 102) (v := nI (d + 1)) (lv' := [(0, .ref (ad 0)), (1, .int (nI p)), (2, .int (nI m)), (3, .int (nI (d + 1)))]) hc 3 dX12_plough_102 rfl (nI_ofi d 1) (by decide) rfl ?_
                refine g_goto (pc := 105) hc 93 dX12_plough_105 (by decide) ?_
                exact g_eq (ws' := mw E ad sc (va_up (va_up ar 25 (mpl wd hg (cotI (msv (ar 18 0) (ar 19)) (ar 25) (wd * hg), ar 26) (d + 1)).1) 26 (mpl wd hg (cotI (msv (ar 18 0) (ar 19)) (ar 25) (wd * hg), ar 26) (d + 1)).2) la) (lv' := [(0, .ref (ad 0)), (1, .int (nI p)), (2, .int (nI m)), (3, .int (nI (d + 1)))]) (rfl) (rfl) rfl (ihd (d + 1) (by omega))
            exact g_eq (ws' := mw E ad sc (va_up (va_up ar 25 (mpl wd hg (cotI (msv (ar 18 0) (ar 19)) (ar 25) (wd * hg), ar 26) (0)).1) 26 (mpl wd hg (cotI (msv (ar 18 0) (ar 19)) (ar 25) (wd * hg), ar 26) (0)).2) la) (lv' := [(0, .ref (ad 0)), (1, .int (nI p)), (2, .int (nI m)), (3, .int (nI (0)))]) (rfl) (rfl) rfl (L93_5 (m - 0) (0) (by omega))
          | succ kt iht =>
            intro t lht
            have lhtn : t < wd * hg := by omega
            refine g_iload_n (pc := 35) hc 3 dX12_plough_35 rfl rfl ?_
            refine g_aload_n (pc := 36) hc 0 dX12_plough_36 rfl rfl ?_
            refine g_callVi (pc := 37) (rest := [.int (nI (t))]) (As := []) hc (c_X12_paces l E ad hA sc (va_up ar 25 (cotI (msv (ar 18 0) (ar 19)) (ar 25) (t))) la  (hwd) (hwd1) (hwd2) (hhg) (hhg1) (hhg2)) mi_X12_paces tw_1140 0 rfl rfl rfl rfl ⟨rfl, rfl, by decide, by decide⟩ (Nat.le_of_ble_eq_true rfl) ⟨Nat.le_refl _, Nat.le_refl _⟩ rfl dX12_plough_37 ?_
            refine g_topi (v := nI (wd * hg)) rfl ?_
            refine g_icmp_ge_f (pc := 40) hc 91 dX12_plough_40 (by decide) (nI_ge (by omega) (by omega)) ?_
            refine g_aload_n (pc := 43) hc 0 dX12_plough_43 rfl rfl ?_
            refine gf_m0_soil (pc := 44) hc tw_1034 dX12_plough_44 ?_
            refine g_iload_n (pc := 47) hc 3 dX12_plough_47 rfl rfl ?_
            refine g_iload_n (pc := 48) hc 3 dX12_plough_48 rfl rfl ?_
            refine g_aload_n (pc := 49) hc 0 dX12_plough_49 rfl rfl ?_
            refine gf_m0_places (pc := 50) hc tw_1027 dX12_plough_50 ?_
            refine g_iconst (pc := 53) (v := nI 0) hc dX12_plough_53 (by decide) ?_
            refine la_m18 (pc := 54) hc (0) (rfl) (by omega) dX12_plough_54 ?_
            refine g_topi (v := (ar 18) 0) rfl ?_
            refine g_icmp_ge (pc := 55) hc 83 dX12_plough_55 (by decide) (fun c6 => ?_) (fun c6 => ?_)
            · refine g_iconst (pc := 83) (v := nI 0) hc dX12_plough_83 (by decide) ?_
              refine g_topi (v := msv (ar 18 0) (ar 19) t) (by unfold msv; (repeat (first | rw [if_pos c6] | rw [if_neg c6] | rw [if_neg (ne_true_of_eq_false c6)]))) ?_
              refine sa_m25 (pc := 84) hc hA (t) (rfl) (by omega) dX12_plough_84 ?_
              refine g_eq (ws' := mw E ad sc (va_up ar 25 (upd (cotI (msv (ar 18 0) (ar 19)) (ar 25) (t)) t (msv (ar 18 0) (ar 19) t))) la) (lv' := [(0, .ref (ad 0)), (1, .int (nI p)), (2, .int (nI m)), (3, .int (nI (t)))]) rfl rfl rfl ?_
              refine g_iinc (pc := 85) (v := nI (t + 1)) (lv' := [(0, .ref (ad 0)), (1, .int (nI p)), (2, .int (nI m)), (3, .int (nI (t + 1)))]) hc 3 dX12_plough_85 rfl (nI_ofi t 1) (by decide) rfl ?_
              refine g_goto (pc := 88) hc 35 dX12_plough_88 (by decide) ?_
              exact g_eq (ws' := mw E ad sc (va_up ar 25 (cotI (msv (ar 18 0) (ar 19)) (ar 25) (t + 1))) la) (lv' := [(0, .ref (ad 0)), (1, .int (nI p)), (2, .int (nI m)), (3, .int (nI (t + 1)))]) (rfl) (rfl) rfl (iht (t + 1) (by omega))
            · refine g_aload_n (pc := 58) hc 0 dX12_plough_58 rfl rfl ?_
              refine gf_m0_numbers (pc := 59) hc tw_1028 dX12_plough_59 ?_
              refine g_iload_n (pc := 62) hc 3 dX12_plough_62 rfl rfl ?_
              refine la_m19 (pc := 63) hc (t) (rfl) (by omega) dX12_plough_63 ?_
              refine g_topi (v := (ar 19) t) rfl ?_
              refine g_iconst (pc := 64) (v := nI 0) hc dX12_plough_64 (by decide) ?_
              refine g_sipush (pc := 65) (v := nI 9999) hc dX12_plough_65 (by decide) ?_
              refine g_callSi (pc := 68) (rest := [.int (nI (t)), .ref (ad 25)]) (As := [.int ((ar 19) t), .int (nI 0), .int (nI 9999)]) hc (c_X12_isIn l E ad hA sc (va_up ar 25 (cotI (msv (ar 18 0) (ar 19)) (ar 25) (t))) la ((ar 19) t) (nI 0) (nI 9999)) mi_X12_isIn tw_1136 rfl ⟨rfl, rfl, by decide, by decide⟩ (Nat.le_of_ble_eq_true rfl) ⟨Nat.le_refl _, Nat.le_refl _⟩ rfl dX12_plough_68 ?_
              refine g_topi (v := bI (inr ((ar 19) t) (nI 0) (nI 9999))) rfl ?_
              refine g_if_eq_b (pc := 71) hc 83 dX12_plough_71 (by decide) (fun c7 => ?_) (fun c7 => ?_)
              · refine g_iconst (pc := 83) (v := nI 0) hc dX12_plough_83 (by decide) ?_
                refine g_topi (v := msv (ar 18 0) (ar 19) t) (by unfold msv; (repeat (first | rw [if_pos c6] | rw [if_neg c6] | rw [if_neg (ne_true_of_eq_false c6)] | rw [if_pos c7] | rw [if_neg c7] | rw [if_neg (ne_true_of_eq_false c7)]))) ?_
                refine sa_m25 (pc := 84) hc hA (t) (rfl) (by omega) dX12_plough_84 ?_
                refine g_eq (ws' := mw E ad sc (va_up ar 25 (upd (cotI (msv (ar 18 0) (ar 19)) (ar 25) (t)) t (msv (ar 18 0) (ar 19) t))) la) (lv' := [(0, .ref (ad 0)), (1, .int (nI p)), (2, .int (nI m)), (3, .int (nI (t)))]) rfl rfl rfl ?_
                refine g_iinc (pc := 85) (v := nI (t + 1)) (lv' := [(0, .ref (ad 0)), (1, .int (nI p)), (2, .int (nI m)), (3, .int (nI (t + 1)))]) hc 3 dX12_plough_85 rfl (nI_ofi t 1) (by decide) rfl ?_
                refine g_goto (pc := 88) hc 35 dX12_plough_88 (by decide) ?_
                exact g_eq (ws' := mw E ad sc (va_up ar 25 (cotI (msv (ar 18 0) (ar 19)) (ar 25) (t + 1))) la) (lv' := [(0, .ref (ad 0)), (1, .int (nI p)), (2, .int (nI m)), (3, .int (nI (t + 1)))]) (rfl) (rfl) rfl (iht (t + 1) (by omega))
              · refine g_aload_n (pc := 74) hc 0 dX12_plough_74 rfl rfl ?_
                refine gf_m0_numbers (pc := 75) hc tw_1028 dX12_plough_75 ?_
                refine g_iload_n (pc := 78) hc 3 dX12_plough_78 rfl rfl ?_
                refine la_m19 (pc := 79) hc (t) (rfl) (by omega) dX12_plough_79 ?_
                refine g_topi (v := (ar 19) t) rfl ?_
                refine g_goto (pc := 80) hc 84 dX12_plough_80 (by decide) ?_
                refine g_topi (v := msv (ar 18 0) (ar 19) t) (by unfold msv; (repeat (first | rw [if_pos c6] | rw [if_neg c6] | rw [if_neg (ne_true_of_eq_false c6)] | rw [if_pos c7] | rw [if_neg c7] | rw [if_neg (ne_true_of_eq_false c7)]))) ?_
                refine sa_m25 (pc := 84) hc hA (t) (rfl) (by omega) dX12_plough_84 ?_
                refine g_eq (ws' := mw E ad sc (va_up ar 25 (upd (cotI (msv (ar 18 0) (ar 19)) (ar 25) (t)) t (msv (ar 18 0) (ar 19) t))) la) (lv' := [(0, .ref (ad 0)), (1, .int (nI p)), (2, .int (nI m)), (3, .int (nI (t)))]) rfl rfl rfl ?_
                refine g_iinc (pc := 85) (v := nI (t + 1)) (lv' := [(0, .ref (ad 0)), (1, .int (nI p)), (2, .int (nI m)), (3, .int (nI (t + 1)))]) hc 3 dX12_plough_85 rfl (nI_ofi t 1) (by decide) rfl ?_
                refine g_goto (pc := 88) hc 35 dX12_plough_88 (by decide) ?_
                exact g_eq (ws' := mw E ad sc (va_up ar 25 (cotI (msv (ar 18 0) (ar 19)) (ar 25) (t + 1))) la) (lv' := [(0, .ref (ad 0)), (1, .int (nI p)), (2, .int (nI m)), (3, .int (nI (t + 1)))]) (rfl) (rfl) rfl (iht (t + 1) (by omega))
        exact g_eq (ws' := mw E ad sc (va_up ar 25 (cotI (msv (ar 18 0) (ar 19)) (ar 25) (0))) la) (lv' := [(0, .ref (ad 0)), (1, .int (nI p)), (2, .int (nI m)), (3, .int (nI (0)))]) (rfl) (rfl) rfl (L35_4 (wd * hg - 0) (0) (by omega))
      · refine g_ldc (pc := 30) (v := (-1000000011)) hc tw_1282 dX12_plough_30 ?_
        exact g_iret (pc := 32) hc dX12_plough_32 (by rw [if_pos (ok2_t c1 c2), if_pos (Int32.not_le.mp c3)]) (by rw [if_pos (ok2_t c1 c2), if_pos (Int32.not_le.mp c3)])
    · refine g_ldc (pc := 18) (v := (-1000000001)) hc tw_1139 dX12_plough_18 ?_
      exact g_iret (pc := 20) hc dX12_plough_20 (by rw [if_neg (ne_true_of_eq_false (ok2_f2 c1 c2))]) (by rw [if_neg (ne_true_of_eq_false (ok2_f2 c1 c2))])

theorem dX12_profile_0 : decode cX12_profile 0 = .ok (.iload_n 1, 1) := by decide +kernel
theorem dX12_profile_1 : decode cX12_profile 1 = .ok (.iconst 0, 1) := by decide +kernel
theorem dX12_profile_2 : decode cX12_profile 2 = .ok (.iconst 2, 1) := by decide +kernel
theorem dX12_profile_3 : decode cX12_profile 3 = .ok (.invokestatic 113, 3) := by decide +kernel
theorem dX12_profile_6 : decode cX12_profile 6 = .ok (.ifCond .eq 20, 3) := by decide +kernel
theorem dX12_profile_9 : decode cX12_profile 9 = .ok (.iload_n 2, 1) := by decide +kernel
theorem dX12_profile_10 : decode cX12_profile 10 = .ok (.invokestatic 124, 3) := by decide +kernel
theorem dX12_profile_13 : decode cX12_profile 13 = .ok (.ifCond .eq 13, 3) := by decide +kernel
theorem dX12_profile_16 : decode cX12_profile 16 = .ok (.iload_n 3, 1) := by decide +kernel
theorem dX12_profile_17 : decode cX12_profile 17 = .ok (.iconst 0, 1) := by decide +kernel
theorem dX12_profile_18 : decode cX12_profile 18 = .ok (.bipush 100, 2) := by decide +kernel
theorem dX12_profile_20 : decode cX12_profile 20 = .ok (.invokestatic 113, 3) := by decide +kernel
theorem dX12_profile_23 : decode cX12_profile 23 = .ok (.ifCond .ne 6, 3) := by decide +kernel
theorem dX12_profile_26 : decode cX12_profile 26 = .ok (.ldc 120, 2) := by decide +kernel
theorem dX12_profile_28 : decode cX12_profile 28 = .ok (.ireturn, 1) := by decide +kernel
theorem dX12_profile_29 : decode cX12_profile 29 = .ok (.aload_n 0, 1) := by decide +kernel
theorem dX12_profile_30 : decode cX12_profile 30 = .ok (.getfield 48, 3) := by decide +kernel
theorem dX12_profile_33 : decode cX12_profile 33 = .ok (.iconst 4, 1) := by decide +kernel
theorem dX12_profile_34 : decode cX12_profile 34 = .ok (.iload_n 1, 1) := by decide +kernel
theorem dX12_profile_35 : decode cX12_profile 35 = .ok (.imul, 1) := by decide +kernel
theorem dX12_profile_36 : decode cX12_profile 36 = .ok (.iload_n 2, 1) := by decide +kernel
theorem dX12_profile_37 : decode cX12_profile 37 = .ok (.iadd, 1) := by decide +kernel
theorem dX12_profile_38 : decode cX12_profile 38 = .ok (.iaload, 1) := by decide +kernel
theorem dX12_profile_39 : decode cX12_profile 39 = .ok (.istore 4, 2) := by decide +kernel
theorem dX12_profile_41 : decode cX12_profile 41 = .ok (.aload_n 0, 1) := by decide +kernel
theorem dX12_profile_42 : decode cX12_profile 42 = .ok (.getfield 48, 3) := by decide +kernel
theorem dX12_profile_45 : decode cX12_profile 45 = .ok (.iconst 4, 1) := by decide +kernel
theorem dX12_profile_46 : decode cX12_profile 46 = .ok (.iload_n 1, 1) := by decide +kernel
theorem dX12_profile_47 : decode cX12_profile 47 = .ok (.imul, 1) := by decide +kernel
theorem dX12_profile_48 : decode cX12_profile 48 = .ok (.iload_n 2, 1) := by decide +kernel
theorem dX12_profile_49 : decode cX12_profile 49 = .ok (.iadd, 1) := by decide +kernel
theorem dX12_profile_50 : decode cX12_profile 50 = .ok (.iload_n 3, 1) := by decide +kernel
theorem dX12_profile_51 : decode cX12_profile 51 = .ok (.iastore, 1) := by decide +kernel
theorem dX12_profile_52 : decode cX12_profile 52 = .ok (.iload 4, 2) := by decide +kernel
theorem dX12_profile_54 : decode cX12_profile 54 = .ok (.ireturn, 1) := by decide +kernel

set_option maxHeartbeats 4000000 in
set_option maxRecDepth 100000 in
theorem c_X12_profile (l : Launch) (E : Ev) {A : Nat → Prop} (ad : Nat → Nat) (hA : Oka 30 ad A) (sc : Nat → Int32) (ar : Nat → Nat → Int32) (la : Nat → Int64)  (x : Int32) (y : Int32) (z : Int32)  : Ct l E yX12_profile (.code yX12_profile cX12_profile 5 (some .int)) ({ frames := 2, cells := 0, slots := 0, locals := 42 }) A (mw E ad sc ar la) [.ref (ad 0), .int x, .int y, .int z] (some (.int (if ok2 (inr x (nI 0) (nI 2)) (ok2 (inr y (nI 0) (nI 3)) (inr z (nI 0) (nI 100))) = true then ar 10 (4 * tn x + tn y) else (-1000000001)))) (if ok2 (inr x (nI 0) (nI 2)) (ok2 (inr y (nI 0) (nI 3)) (inr z (nI 0) (nI 100))) = true then mw E ad sc (va_up ar 10 (upd (ar 10) (4 * tn x + tn y) z)) la else mw E ad sc ar la) := by
  refine Ct.of (lv := [(0, .ref (ad 0)), (1, .int x), (2, .int y), (3, .int z)]) (by decide +kernel) (Nat.le_of_ble_eq_true rfl) rfl ?_
  intro zp ze zs zm za zb zh zc hc
  refine g_iload_n (pc := 0) hc 1 dX12_profile_0 rfl rfl ?_
  refine g_iconst (pc := 1) (v := nI 0) hc dX12_profile_1 (by decide) ?_
  refine g_iconst (pc := 2) (v := nI 2) hc dX12_profile_2 (by decide) ?_
  refine g_callSi (pc := 3) (rest := []) (As := [.int x, .int (nI 0), .int (nI 2)]) hc (c_X12_isIn l E ad hA sc ar la x (nI 0) (nI 2)) mi_X12_isIn tw_1136 rfl ⟨rfl, rfl, by decide, by decide⟩ (Nat.le_of_ble_eq_true rfl) ⟨Nat.le_refl _, Nat.le_refl _⟩ rfl dX12_profile_3 ?_
  refine g_if_eq_b (pc := 6) hc 26 dX12_profile_6 (by decide) (fun c1 => ?_) (fun c1 => ?_)
  · refine g_ldc (pc := 26) (v := (-1000000001)) hc tw_1139 dX12_profile_26 ?_
    exact g_iret (pc := 28) hc dX12_profile_28 (by rw [if_neg (ne_true_of_eq_false (ok2_f1 c1))]) (by rw [if_neg (ne_true_of_eq_false (ok2_f1 c1))])
  · refine g_iload_n (pc := 9) hc 2 dX12_profile_9 rfl rfl ?_
    refine g_callSi (pc := 10) (rest := []) (As := [.int y]) hc (c_X12_isKind l E ad hA sc ar la y) mi_X12_isKind tw_1148 rfl ⟨rfl, rfl, by decide, by decide⟩ (Nat.le_of_ble_eq_true rfl) ⟨Nat.le_refl _, Nat.le_refl _⟩ rfl dX12_profile_10 ?_
    refine g_if_eq_b (pc := 13) hc 26 dX12_profile_13 (by decide) (fun c2 => ?_) (fun c2 => ?_)
    · refine g_ldc (pc := 26) (v := (-1000000001)) hc tw_1139 dX12_profile_26 ?_
      exact g_iret (pc := 28) hc dX12_profile_28 (by rw [if_neg (ne_true_of_eq_false (ok2_f2 c1 (ok2_f1 c2)))]) (by rw [if_neg (ne_true_of_eq_false (ok2_f2 c1 (ok2_f1 c2)))])
    · refine g_iload_n (pc := 16) hc 3 dX12_profile_16 rfl rfl ?_
      refine g_iconst (pc := 17) (v := nI 0) hc dX12_profile_17 (by decide) ?_
      refine g_bipush (pc := 18) (v := nI 100) hc dX12_profile_18 (by decide) ?_
      refine g_callSi (pc := 20) (rest := []) (As := [.int z, .int (nI 0), .int (nI 100)]) hc (c_X12_isIn l E ad hA sc ar la z (nI 0) (nI 100)) mi_X12_isIn tw_1136 rfl ⟨rfl, rfl, by decide, by decide⟩ (Nat.le_of_ble_eq_true rfl) ⟨Nat.le_refl _, Nat.le_refl _⟩ rfl dX12_profile_20 ?_
      refine g_if_ne_b (pc := 23) hc 29 dX12_profile_23 (by decide) (fun c3 => ?_) (fun c3 => ?_)
      · obtain ⟨i, hi1, hi2, hx⟩ := inr_of (by decide) c1 (by decide)
        obtain ⟨j, hj1, hj2, hy⟩ := inr_of (by decide) c2 (by decide)
        refine g_eq (ws' := mw E ad sc ar la) (lv' := [(0, .ref (ad 0)), (1, .int (nI i)), (2, .int (nI j)), (3, .int z)]) rfl (by rw [hx, hy]) rfl ?_
        refine g_aload_n (pc := 29) hc 0 dX12_profile_29 rfl rfl ?_
        refine gf_m0_profile (pc := 30) hc tw_1017 dX12_profile_30 ?_
        refine g_iconst (pc := 33) (v := nI 4) hc dX12_profile_33 (by decide) ?_
        refine g_iload_n (pc := 34) hc 1 dX12_profile_34 rfl rfl ?_
        refine g_imul (pc := 35) hc dX12_profile_35 ?_
        refine g_topi (v := nI (4 * i)) (pk_mul 4 i) ?_
        refine g_iload_n (pc := 36) hc 2 dX12_profile_36 rfl rfl ?_
        refine g_iadd (pc := 37) hc dX12_profile_37 ?_
        refine g_topi (v := nI ((4 * i) + j)) (nI_add (4 * i) j) ?_
        refine la_m10 (pc := 38) hc ((4 * i) + j) (rfl) (by omega) dX12_profile_38 ?_
        refine g_istore (pc := 39) (lv' := [(0, .ref (ad 0)), (1, .int (nI i)), (2, .int (nI j)), (3, .int z), (4, .int ((ar 10) ((4 * i) + j)))]) hc dX12_profile_39 (by decide) rfl ?_
        refine g_aload_n (pc := 41) hc 0 dX12_profile_41 rfl rfl ?_
        refine gf_m0_profile (pc := 42) hc tw_1017 dX12_profile_42 ?_
        refine g_iconst (pc := 45) (v := nI 4) hc dX12_profile_45 (by decide) ?_
        refine g_iload_n (pc := 46) hc 1 dX12_profile_46 rfl rfl ?_
        refine g_imul (pc := 47) hc dX12_profile_47 ?_
        refine g_topi (v := nI (4 * i)) (pk_mul 4 i) ?_
        refine g_iload_n (pc := 48) hc 2 dX12_profile_48 rfl rfl ?_
        refine g_iadd (pc := 49) hc dX12_profile_49 ?_
        refine g_topi (v := nI ((4 * i) + j)) (nI_add (4 * i) j) ?_
        refine g_iload_n (pc := 50) hc 3 dX12_profile_50 rfl rfl ?_
        refine sa_m10 (pc := 51) hc hA ((4 * i) + j) (rfl) (by omega) dX12_profile_51 ?_
        refine g_iload (pc := 52) hc 4 dX12_profile_52 rfl ?_
        exact g_iret (pc := 54) hc dX12_profile_54 (by rw [if_pos (ok2_t c1 (ok2_t c2 c3)), hx, hy, tn, tn, nI_clamp (by omega), nI_clamp (by omega)]) (by rw [if_pos (ok2_t c1 (ok2_t c2 c3)), hx, hy, tn, tn, nI_clamp (by omega), nI_clamp (by omega)])
      · refine g_ldc (pc := 26) (v := (-1000000001)) hc tw_1139 dX12_profile_26 ?_
        exact g_iret (pc := 28) hc dX12_profile_28 (by rw [if_neg (ne_true_of_eq_false (ok2_f2 c1 (ok2_f2 c2 c3)))]) (by rw [if_neg (ne_true_of_eq_false (ok2_f2 c1 (ok2_f2 c2 c3)))])
