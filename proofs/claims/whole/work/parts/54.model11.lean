theorem dX12_isSpan_0 : decode cX12_isSpan 0 = .ok (.aload_n 0, 1) := by decide +kernel
theorem dX12_isSpan_1 : decode cX12_isSpan 1 = .ok (.invokevirtual 220, 3) := by decide +kernel
theorem dX12_isSpan_4 : decode cX12_isSpan 4 = .ok (.aload_n 0, 1) := by decide +kernel
theorem dX12_isSpan_5 : decode cX12_isSpan 5 = .ok (.aload_n 0, 1) := by decide +kernel
theorem dX12_isSpan_6 : decode cX12_isSpan 6 = .ok (.invokevirtual 222, 3) := by decide +kernel
theorem dX12_isSpan_9 : decode cX12_isSpan 9 = .ok (.putfield 225, 3) := by decide +kernel
theorem dX12_isSpan_12 : decode cX12_isSpan 12 = .ok (.aload_n 0, 1) := by decide +kernel
theorem dX12_isSpan_13 : decode cX12_isSpan 13 = .ok (.getfield 225, 3) := by decide +kernel
theorem dX12_isSpan_16 : decode cX12_isSpan 16 = .ok (.iconst 0, 1) := by decide +kernel
theorem dX12_isSpan_17 : decode cX12_isSpan 17 = .ok (.iload_n 1, 1) := by decide +kernel
theorem dX12_isSpan_18 : decode cX12_isSpan 18 = .ok (.invokestatic 113, 3) := by decide +kernel
theorem dX12_isSpan_21 : decode cX12_isSpan 21 = .ok (.ifCond .ne 5, 3) := by decide +kernel
theorem dX12_isSpan_24 : decode cX12_isSpan 24 = .ok (.iconst 0, 1) := by decide +kernel
theorem dX12_isSpan_25 : decode cX12_isSpan 25 = .ok (.ireturn, 1) := by decide +kernel
theorem dX12_isSpan_26 : decode cX12_isSpan 26 = .ok (.aload_n 0, 1) := by decide +kernel
theorem dX12_isSpan_27 : decode cX12_isSpan 27 = .ok (.invokevirtual 220, 3) := by decide +kernel
theorem dX12_isSpan_30 : decode cX12_isSpan 30 = .ok (.aload_n 0, 1) := by decide +kernel
theorem dX12_isSpan_31 : decode cX12_isSpan 31 = .ok (.bipush 116, 2) := by decide +kernel
theorem dX12_isSpan_33 : decode cX12_isSpan 33 = .ok (.bipush 111, 2) := by decide +kernel
theorem dX12_isSpan_35 : decode cX12_isSpan 35 = .ok (.iconst 0, 1) := by decide +kernel
theorem dX12_isSpan_36 : decode cX12_isSpan 36 = .ok (.iconst 0, 1) := by decide +kernel
theorem dX12_isSpan_37 : decode cX12_isSpan 37 = .ok (.invokevirtual 228, 3) := by decide +kernel
theorem dX12_isSpan_40 : decode cX12_isSpan 40 = .ok (.ifCond .ne 5, 3) := by decide +kernel
theorem dX12_isSpan_43 : decode cX12_isSpan 43 = .ok (.iconst 0, 1) := by decide +kernel
theorem dX12_isSpan_44 : decode cX12_isSpan 44 = .ok (.ireturn, 1) := by decide +kernel
theorem dX12_isSpan_45 : decode cX12_isSpan 45 = .ok (.aload_n 0, 1) := by decide +kernel
theorem dX12_isSpan_46 : decode cX12_isSpan 46 = .ok (.invokevirtual 220, 3) := by decide +kernel
theorem dX12_isSpan_49 : decode cX12_isSpan 49 = .ok (.aload_n 0, 1) := by decide +kernel
theorem dX12_isSpan_50 : decode cX12_isSpan 50 = .ok (.aload_n 0, 1) := by decide +kernel
theorem dX12_isSpan_51 : decode cX12_isSpan 51 = .ok (.invokevirtual 222, 3) := by decide +kernel
theorem dX12_isSpan_54 : decode cX12_isSpan 54 = .ok (.putfield 231, 3) := by decide +kernel
theorem dX12_isSpan_57 : decode cX12_isSpan 57 = .ok (.aload_n 0, 1) := by decide +kernel
theorem dX12_isSpan_58 : decode cX12_isSpan 58 = .ok (.getfield 231, 3) := by decide +kernel
theorem dX12_isSpan_61 : decode cX12_isSpan 61 = .ok (.aload_n 0, 1) := by decide +kernel
theorem dX12_isSpan_62 : decode cX12_isSpan 62 = .ok (.getfield 225, 3) := by decide +kernel
theorem dX12_isSpan_65 : decode cX12_isSpan 65 = .ok (.iload_n 1, 1) := by decide +kernel
theorem dX12_isSpan_66 : decode cX12_isSpan 66 = .ok (.invokestatic 113, 3) := by decide +kernel
theorem dX12_isSpan_69 : decode cX12_isSpan 69 = .ok (.ireturn, 1) := by decide +kernel

set_option maxHeartbeats 4000000 in
set_option maxRecDepth 100000 in
theorem c_X12_isSpan (l : Launch) (E : Ev) {A : Nat → Prop} (ad : Nat → Nat) (hA : Oka 30 ad A) (sc : Nat → Int32) (ar : Nat → Nat → Int32) (la : Nat → Int64) {tL : Nat} (q : Rq) (hT : sc 7 = nI tL) (hT60 : tL ≤ 60) (h9 : sc 9 = nI q.2.1) (hq : rdok tL q) (hB : ∀ i, ar 11 i &&& nI 255 = ar 11 i) (m : Int32) : Ct l E yX12_isSpan (.code yX12_isSpan cX12_isSpan 2 (some .boolean)) ({ frames := 2, cells := 0, slots := 0, locals := 44 }) A (mw E ad sc ar la) [.ref (ad 0), .int m] (some (.int (bI (msO (ar 11) tL m q)))) (mw E ad (va_up (va_up (va_up (va_up (va_up sc 13 (msB (ar 11) tL m q (sc 13))) 12 (mvh (ar 11) (goT (ar 11) tL q))) 9 (nI (msT (ar 11) tL m q).2.1)) 10 (nI (msT (ar 11) tL m q).1)) 11 (nI ((msT (ar 11) tL m q).2.1 - (msT (ar 11) tL m q).1))) ar la) := by
  refine Ct.of (lv := [(0, .ref (ad 0)), (1, .int m)]) (by decide +kernel) (Nat.le_of_ble_eq_true rfl) rfl ?_
  intro zp ze zs zm za zb zh zc hc
  refine g_aload_n (pc := 0) hc 0 dX12_isSpan_0 rfl rfl ?_
  refine g_callVv (pc := 1) (rest := []) (As := []) hc (c_X12_next l E ad hA sc ar la q hT hT60 h9 (hq) hB) mi_X12_next tw_1324 0 rfl rfl rfl rfl ⟨rfl, rfl, by decide, by decide⟩ (Nat.le_of_ble_eq_true rfl) ⟨Nat.le_refl _, Nat.le_refl _⟩ rfl dX12_isSpan_1 ?_
  obtain ⟨qa, ea⟩ : ∃ z, z = (goT (ar 11) tL q) := ⟨_, rfl⟩
  have ka : rdok tL qa := by rw [ea]; exact goT_ok hq
  refine g_eq (ws' := mw E ad (va_up (va_up (va_up sc 9 (nI qa.2.1)) 10 (nI qa.1)) 11 (nI (qa.2.1 - qa.1))) ar la) (lv' := [(0, .ref (ad 0)), (1, .int m)]) (by rw [ea]) rfl rfl ?_
  refine g_aload_n (pc := 4) hc 0 dX12_isSpan_4 rfl rfl ?_
  refine g_aload_n (pc := 5) hc 0 dX12_isSpan_5 rfl rfl ?_
  refine g_callVi (pc := 6) (rest := [.ref (ad 0)]) (As := []) hc (c_X12_number l E ad hA (va_up (va_up (va_up sc 9 (nI qa.2.1)) 10 (nI qa.1)) 11 (nI (qa.2.1 - qa.1))) ar la qa hT hT60 rfl rfl (ka) hB) mi_X12_number tw_1336 0 rfl rfl rfl rfl ⟨rfl, rfl, by decide, by decide⟩ (Nat.le_of_ble_eq_true rfl) ⟨Nat.le_refl _, Nat.le_refl _⟩ rfl dX12_isSpan_6 ?_
  refine g_topi (v := mvh (ar 11) qa) rfl ?_
  refine pf_m0_spanFrom (pc := 9) hc hA tw_1040 dX12_isSpan_9 ?_
  refine g_aload_n (pc := 12) hc 0 dX12_isSpan_12 rfl rfl ?_
  refine gf_m0_spanFrom (pc := 13) hc tw_1040 dX12_isSpan_13 ?_
  refine g_topi (v := mvh (ar 11) qa) rfl ?_
  refine g_iconst (pc := 16) (v := nI 0) hc dX12_isSpan_16 (by decide) ?_
  refine g_iload_n (pc := 17) hc 1 dX12_isSpan_17 rfl rfl ?_
  refine g_callSi (pc := 18) (rest := []) (As := [.int (mvh (ar 11) qa), .int (nI 0), .int m]) hc (c_X12_isIn l E ad hA (va_up (va_up (va_up (va_up sc 9 (nI qa.2.1)) 10 (nI qa.1)) 11 (nI (qa.2.1 - qa.1))) 12 (mvh (ar 11) qa)) ar la (mvh (ar 11) qa) (nI 0) m) mi_X12_isIn tw_1136 rfl ⟨rfl, rfl, by decide, by decide⟩ (Nat.le_of_ble_eq_true rfl) ⟨Nat.le_refl _, Nat.le_refl _⟩ rfl dX12_isSpan_18 ?_
  refine g_topi (v := bI (inr (mvh (ar 11) qa) (nI 0) m)) rfl ?_
  refine g_if_ne_b (pc := 21) hc 26 dX12_isSpan_21 (by decide) (fun c1 => ?_) (fun c1 => ?_)
  · refine g_aload_n (pc := 26) hc 0 dX12_isSpan_26 rfl rfl ?_
    refine g_callVv (pc := 27) (rest := []) (As := []) hc (c_X12_next l E ad hA (va_up (va_up (va_up (va_up sc 9 (nI qa.2.1)) 10 (nI qa.1)) 11 (nI (qa.2.1 - qa.1))) 12 (mvh (ar 11) qa)) ar la qa hT hT60 rfl (ka) hB) mi_X12_next tw_1324 0 rfl rfl rfl rfl ⟨rfl, rfl, by decide, by decide⟩ (Nat.le_of_ble_eq_true rfl) ⟨Nat.le_refl _, Nat.le_refl _⟩ rfl dX12_isSpan_27 ?_
    refine g_eq (ws' := mw E ad (va_up (va_up (va_up (va_up sc 12 (mvh (ar 11) qa)) 9 (nI (goT (ar 11) tL qa).2.1)) 10 (nI (goT (ar 11) tL qa).1)) 11 (nI ((goT (ar 11) tL qa).2.1 - (goT (ar 11) tL qa).1))) ar la) (lv' := [(0, .ref (ad 0)), (1, .int m)]) (by simp [mw, va_up]) rfl rfl ?_
    obtain ⟨qb, eb⟩ : ∃ z, z = (goT (ar 11) tL qa) := ⟨_, rfl⟩
    have kb : rdok tL qb := by rw [eb]; exact goT_ok ka
    refine g_eq (ws' := mw E ad (va_up (va_up (va_up (va_up sc 12 (mvh (ar 11) qa)) 9 (nI qb.2.1)) 10 (nI qb.1)) 11 (nI (qb.2.1 - qb.1))) ar la) (lv' := [(0, .ref (ad 0)), (1, .int m)]) (by rw [eb]) rfl rfl ?_
    refine g_aload_n (pc := 30) hc 0 dX12_isSpan_30 rfl rfl ?_
    refine g_bipush (pc := 31) (v := nI 116) hc dX12_isSpan_31 (by decide) ?_
    refine g_bipush (pc := 33) (v := nI 111) hc dX12_isSpan_33 (by decide) ?_
    refine g_iconst (pc := 35) (v := nI 0) hc dX12_isSpan_35 (by decide) ?_
    refine g_iconst (pc := 36) (v := nI 0) hc dX12_isSpan_36 (by decide) ?_
    refine g_callVi (pc := 37) (rest := []) (As := [.int (nI 116), .int (nI 111), .int (nI 0), .int (nI 0)]) hc (c_X12_isWord_1 l E ad hA (va_up (va_up (va_up (va_up sc 12 (mvh (ar 11) qa)) 9 (nI qb.2.1)) 10 (nI qb.1)) 11 (nI (qb.2.1 - qb.1))) ar la qb hT hT60 rfl rfl (kb) hB) mi_X12_isWord tw_1328 0 rfl rfl rfl rfl ⟨rfl, rfl, by decide, by decide⟩ (Nat.le_of_ble_eq_true rfl) ⟨Nat.le_refl _, Nat.le_refl _⟩ rfl dX12_isSpan_37 ?_
    refine g_topi (v := bI (wat (ar 11) qb 1)) rfl ?_
    refine g_if_ne_b (pc := 40) hc 45 dX12_isSpan_40 (by decide) (fun c2 => ?_) (fun c2 => ?_)
    · refine g_aload_n (pc := 45) hc 0 dX12_isSpan_45 rfl rfl ?_
      refine g_callVv (pc := 46) (rest := []) (As := []) hc (c_X12_next l E ad hA (va_up (va_up (va_up (va_up sc 12 (mvh (ar 11) qa)) 9 (nI qb.2.1)) 10 (nI qb.1)) 11 (nI (qb.2.1 - qb.1))) ar la qb hT hT60 rfl (kb) hB) mi_X12_next tw_1324 0 rfl rfl rfl rfl ⟨rfl, rfl, by decide, by decide⟩ (Nat.le_of_ble_eq_true rfl) ⟨Nat.le_refl _, Nat.le_refl _⟩ rfl dX12_isSpan_46 ?_
      refine g_eq (ws' := mw E ad (va_up (va_up (va_up (va_up sc 12 (mvh (ar 11) qa)) 9 (nI (goT (ar 11) tL qb).2.1)) 10 (nI (goT (ar 11) tL qb).1)) 11 (nI ((goT (ar 11) tL qb).2.1 - (goT (ar 11) tL qb).1))) ar la) (lv' := [(0, .ref (ad 0)), (1, .int m)]) (by simp [mw, va_up]) rfl rfl ?_
      obtain ⟨qc, ec⟩ : ∃ z, z = (goT (ar 11) tL qb) := ⟨_, rfl⟩
      have kc : rdok tL qc := by rw [ec]; exact goT_ok kb
      refine g_eq (ws' := mw E ad (va_up (va_up (va_up (va_up sc 12 (mvh (ar 11) qa)) 9 (nI qc.2.1)) 10 (nI qc.1)) 11 (nI (qc.2.1 - qc.1))) ar la) (lv' := [(0, .ref (ad 0)), (1, .int m)]) (by rw [ec]) rfl rfl ?_
      refine g_aload_n (pc := 49) hc 0 dX12_isSpan_49 rfl rfl ?_
      refine g_aload_n (pc := 50) hc 0 dX12_isSpan_50 rfl rfl ?_
      refine g_callVi (pc := 51) (rest := [.ref (ad 0)]) (As := []) hc (c_X12_number l E ad hA (va_up (va_up (va_up (va_up sc 12 (mvh (ar 11) qa)) 9 (nI qc.2.1)) 10 (nI qc.1)) 11 (nI (qc.2.1 - qc.1))) ar la qc hT hT60 rfl rfl (kc) hB) mi_X12_number tw_1336 0 rfl rfl rfl rfl ⟨rfl, rfl, by decide, by decide⟩ (Nat.le_of_ble_eq_true rfl) ⟨Nat.le_refl _, Nat.le_refl _⟩ rfl dX12_isSpan_51 ?_
      refine g_topi (v := mvh (ar 11) qc) rfl ?_
      refine pf_m0_spanTo (pc := 54) hc hA tw_1041 dX12_isSpan_54 ?_
      refine g_aload_n (pc := 57) hc 0 dX12_isSpan_57 rfl rfl ?_
      refine gf_m0_spanTo (pc := 58) hc tw_1041 dX12_isSpan_58 ?_
      refine g_topi (v := mvh (ar 11) qc) rfl ?_
      refine g_aload_n (pc := 61) hc 0 dX12_isSpan_61 rfl rfl ?_
      refine gf_m0_spanFrom (pc := 62) hc tw_1040 dX12_isSpan_62 ?_
      refine g_topi (v := mvh (ar 11) qa) rfl ?_
      refine g_iload_n (pc := 65) hc 1 dX12_isSpan_65 rfl rfl ?_
      refine g_callSi (pc := 66) (rest := []) (As := [.int (mvh (ar 11) qc), .int (mvh (ar 11) qa), .int m]) hc (c_X12_isIn l E ad hA (va_up (va_up (va_up (va_up (va_up sc 12 (mvh (ar 11) qa)) 9 (nI qc.2.1)) 10 (nI qc.1)) 11 (nI (qc.2.1 - qc.1))) 13 (mvh (ar 11) qc)) ar la (mvh (ar 11) qc) (mvh (ar 11) qa) m) mi_X12_isIn tw_1136 rfl ⟨rfl, rfl, by decide, by decide⟩ (Nat.le_of_ble_eq_true rfl) ⟨Nat.le_refl _, Nat.le_refl _⟩ rfl dX12_isSpan_66 ?_
      refine g_topi (v := bI (inr (mvh (ar 11) qc) (mvh (ar 11) qa) m)) rfl ?_
      exact g_zret (pc := 69) hc dX12_isSpan_69 (bI_nar _) (by unfold msO; rw [← ea, ← eb, ← ec]; (repeat (first | rw [if_pos c1] | rw [if_neg c1] | rw [if_neg (ne_true_of_eq_false c1)] | rw [if_pos c2] | rw [if_neg c2] | rw [if_neg (ne_true_of_eq_false c2)])); try rfl) (by unfold msT msB; rw [← ea, ← eb, ← ec]; (repeat (first | rw [if_pos c1] | rw [if_neg c1] | rw [if_neg (ne_true_of_eq_false c1)] | rw [if_pos c2] | rw [if_neg c2] | rw [if_neg (ne_true_of_eq_false c2)])); try simp [mw, va_up])
    · refine g_iconst (pc := 43) (v := nI 0) hc dX12_isSpan_43 (by decide) ?_
      exact g_zret (pc := 44) hc dX12_isSpan_44 (by decide) (by unfold msO; rw [← ea, ← eb]; (repeat (first | rw [if_pos c1] | rw [if_neg c1] | rw [if_neg (ne_true_of_eq_false c1)] | rw [if_pos c2] | rw [if_neg c2] | rw [if_neg (ne_true_of_eq_false c2)])); try rfl) (by unfold msT msB; rw [← ea, ← eb]; (repeat (first | rw [if_pos c1] | rw [if_neg c1] | rw [if_neg (ne_true_of_eq_false c1)] | rw [if_pos c2] | rw [if_neg c2] | rw [if_neg (ne_true_of_eq_false c2)])); try simp [mw, va_up])
  · refine g_iconst (pc := 24) (v := nI 0) hc dX12_isSpan_24 (by decide) ?_
    exact g_zret (pc := 25) hc dX12_isSpan_25 (by decide) (by unfold msO; rw [← ea]; (repeat (first | rw [if_pos c1] | rw [if_neg c1] | rw [if_neg (ne_true_of_eq_false c1)])); try rfl) (by unfold msT msB; rw [← ea]; (repeat (first | rw [if_pos c1] | rw [if_neg c1] | rw [if_neg (ne_true_of_eq_false c1)])); try simp [mw, va_up])
