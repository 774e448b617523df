set_option maxHeartbeats 4000000 in
set_option maxRecDepth 100000 in
theorem rl_a (l : Launch) (E : Ev) {A : Nat → Prop} (ad : Nat → Nat) (hA : Oka 30 ad A) (sc : Nat → Int32) (ar : Nat → Nat → Int32) (la : Nat → Int64) {tL : Nat} (q : Rq) (i : Nat) (hi : i < 12) (hT : sc 7 = nI tL) (hT60 : tL ≤ 60) (h9 : sc 9 = nI q.2.1) (h10 : sc 10 = nI q.1) (h11 : sc 11 = nI (q.2.1 - q.1)) (hq : rdok tL q) (hB : ∀ i, ar 11 i &&& nI 255 = ar 11 i) {zp : Program} {ze : Env} {zs : State} {zm : MethodId} {za : Array Value} {zb : List Frame} {zh : Method} {zc : Code} (hc : Cx zp zs zm za zh zc E A yX12_readLeave.cls cX12_readLeave 5 (some .int)) : G zp l ze ({ frames := 3, cells := 0, slots := 0, locals := 65 }) zs zm za zb zh zc 0 0 (MQ zb (Qz E A (some (.int (rA (ar 11) tL q (ar 16 i) (ar 14 i) (ar 15 i) (sc 13)).1)) (mw E ad (va_up (va_up (va_up (va_up (va_up sc 12 (rAa (ar 11) tL q (sc 12))) 13 (rAb (ar 11) tL q (sc 13))) 9 (nI (rA (ar 11) tL q (ar 16 i) (ar 14 i) (ar 15 i) (sc 13)).2.1.2.1)) 10 (nI (rA (ar 11) tL q (ar 16 i) (ar 14 i) (ar 15 i) (sc 13)).2.1.1)) 11 (nI ((rA (ar 11) tL q (ar 16 i) (ar 14 i) (ar 15 i) (sc 13)).2.1.2.1 - (rA (ar 11) tL q (ar 16 i) (ar 14 i) (ar 15 i) (sc 13)).2.1.1))) (va_up (va_up (va_up ar 14 (upd (ar 14) i (rA (ar 11) tL q (ar 16 i) (ar 14 i) (ar 15 i) (sc 13)).2.2.2.1)) 15 (upd (ar 15) i (rA (ar 11) tL q (ar 16 i) (ar 14 i) (ar 15 i) (sc 13)).2.2.2.2)) 16 (upd (ar 16) i (rA (ar 11) tL q (ar 16 i) (ar 14 i) (ar 15 i) (sc 13)).2.2.1)) la)) za zs 0 0 A) E A 5 (mw E ad sc ar la) (81) [(0, .ref (ad 0)), (1, .int (nI i))] [] := by
  refine g_aload_n (pc := 81) hc 0 dX12_readLeave_81 rfl rfl ?_
  refine g_callVv (pc := 82) (rest := []) (As := []) hc (c_X12_next l E ad hA sc ar la q hT hT60 h9 (hq) hB) mi_X12_next tw_1324 0 rfl rfl rfl rfl ⟨rfl, rfl, by decide, by decide⟩ (Nat.le_of_ble_eq_true rfl) ⟨Nat.le_refl _, Nat.le_refl _⟩ rfl dX12_readLeave_82 ?_
  obtain ⟨qa, ea⟩ : ∃ z, z = (goT (ar 11) tL q) := ⟨_, rfl⟩
  have ka : rdok tL qa := by rw [ea]; exact goT_ok hq
  refine g_eq (ws' := mw E ad (va_up (va_up (va_up sc 9 (nI qa.2.1)) 10 (nI qa.1)) 11 (nI (qa.2.1 - qa.1))) ar la) (lv' := [(0, .ref (ad 0)), (1, .int (nI i))]) (by rw [ea]) rfl rfl ?_
  refine g_aload_n (pc := 85) hc 0 dX12_readLeave_85 rfl rfl ?_
  refine g_bipush (pc := 86) (v := nI 100) hc dX12_readLeave_86 (by decide) ?_
  refine g_bipush (pc := 88) (v := nI 97) hc dX12_readLeave_88 (by decide) ?_
  refine g_bipush (pc := 90) (v := nI 121) hc dX12_readLeave_90 (by decide) ?_
  refine g_bipush (pc := 92) (v := nI 115) hc dX12_readLeave_92 (by decide) ?_
  refine g_callVi (pc := 94) (rest := []) (As := [.int (nI 100), .int (nI 97), .int (nI 121), .int (nI 115)]) hc (c_X12_isWord_2 l E ad hA (va_up (va_up (va_up sc 9 (nI qa.2.1)) 10 (nI qa.1)) 11 (nI (qa.2.1 - qa.1))) ar la qa hT hT60 rfl rfl (ka) hB) mi_X12_isWord tw_1328 0 rfl rfl rfl rfl ⟨rfl, rfl, by decide, by decide⟩ (Nat.le_of_ble_eq_true rfl) ⟨Nat.le_refl _, Nat.le_refl _⟩ rfl dX12_readLeave_94 ?_
  refine g_topi (v := bI (wat (ar 11) qa 2)) rfl ?_
  refine g_if_eq_b (pc := 97) hc 139 dX12_readLeave_97 (by decide) (fun c1 => ?_) (fun c1 => ?_)
  · exact g_q (by unfold rA; rw [← ea]; (repeat (first | rw [if_pos c1] | rw [if_neg c1] | rw [if_neg (ne_true_of_eq_false c1)]))) (by unfold rA rAa rAb; rw [← ea]; (repeat (first | rw [if_pos c1] | rw [if_neg c1] | rw [if_neg (ne_true_of_eq_false c1)])); rw [upd_self (ar 14), upd_self (ar 15), va_upS ar 14, va_upS ar 15]; try simp [mw, va_up]) (rl_b l E ad hA (va_up (va_up (va_up sc 9 (nI qa.2.1)) 10 (nI qa.1)) 11 (nI (qa.2.1 - qa.1))) ar la qa i hi hT hT60 rfl rfl rfl ka hB hc)
  · refine g_aload_n (pc := 100) hc 0 dX12_readLeave_100 rfl rfl ?_
    refine g_sipush (pc := 101) (v := nI 400) hc dX12_readLeave_101 (by decide) ?_
    refine g_callVi (pc := 104) (rest := []) (As := [.int (nI 400)]) hc (c_X12_isSpan l E ad hA (va_up (va_up (va_up sc 9 (nI qa.2.1)) 10 (nI qa.1)) 11 (nI (qa.2.1 - qa.1))) ar la qa hT hT60 rfl (ka) hB (nI 400)) mi_X12_isSpan tw_1332 0 rfl rfl rfl rfl ⟨rfl, rfl, by decide, by decide⟩ (Nat.le_of_ble_eq_true rfl) ⟨Nat.le_refl _, Nat.le_refl _⟩ rfl dX12_readLeave_104 ?_
    refine g_topi (v := bI (msO (ar 11) tL (nI 400) qa)) rfl ?_
    refine g_eq (ws' := mw E ad (va_up (va_up (va_up (va_up (va_up sc 13 (msB (ar 11) tL (nI 400) qa (sc 13))) 12 (mvh (ar 11) (goT (ar 11) tL qa))) 9 (nI (msT (ar 11) tL (nI 400) qa).2.1)) 10 (nI (msT (ar 11) tL (nI 400) qa).1)) 11 (nI ((msT (ar 11) tL (nI 400) qa).2.1 - (msT (ar 11) tL (nI 400) qa).1))) ar la) (lv' := [(0, .ref (ad 0)), (1, .int (nI i))]) (by simp [mw, va_up]) rfl rfl ?_
    obtain ⟨qb, eb⟩ : ∃ z, z = (msT (ar 11) tL (nI 400) qa) := ⟨_, rfl⟩
    have kb : rdok tL qb := by rw [eb]; exact msT_ok ka
    refine g_eq (ws' := mw E ad (va_up (va_up (va_up (va_up (va_up sc 13 (msB (ar 11) tL (nI 400) qa (sc 13))) 12 (mvh (ar 11) (goT (ar 11) tL qa))) 9 (nI qb.2.1)) 10 (nI qb.1)) 11 (nI (qb.2.1 - qb.1))) ar la) (lv' := [(0, .ref (ad 0)), (1, .int (nI i))]) (by rw [eb]) rfl rfl ?_
    refine g_if_ne_b (pc := 107) hc 115 dX12_readLeave_107 (by decide) (fun c2 => ?_) (fun c2 => ?_)
    · refine g_aload_n (pc := 115) hc 0 dX12_readLeave_115 rfl rfl ?_
      refine gf_m0_lFirst (pc := 116) hc tw_1023 dX12_readLeave_116 ?_
      refine g_iload_n (pc := 119) hc 1 dX12_readLeave_119 rfl rfl ?_
      refine g_aload_n (pc := 120) hc 0 dX12_readLeave_120 rfl rfl ?_
      refine gf_m0_spanFrom (pc := 121) hc tw_1040 dX12_readLeave_121 ?_
      refine g_topi (v := mvh (ar 11) (goT (ar 11) tL qa)) rfl ?_
      refine sa_m14 (pc := 124) hc hA (i) (rfl) (by omega) dX12_readLeave_124 ?_
      refine g_aload_n (pc := 125) hc 0 dX12_readLeave_125 rfl rfl ?_
      refine gf_m0_lLast (pc := 126) hc tw_1024 dX12_readLeave_126 ?_
      refine g_iload_n (pc := 129) hc 1 dX12_readLeave_129 rfl rfl ?_
      refine g_aload_n (pc := 130) hc 0 dX12_readLeave_130 rfl rfl ?_
      refine gf_m0_spanTo (pc := 131) hc tw_1041 dX12_readLeave_131 ?_
      refine g_topi (v := msB (ar 11) tL (nI 400) qa (sc 13)) rfl ?_
      refine sa_m15 (pc := 134) hc hA (i) (rfl) (by omega) dX12_readLeave_134 ?_
      refine g_eq (ws' := mw E ad (va_up (va_up (va_up (va_up (va_up sc 13 (msB (ar 11) tL (nI 400) qa (sc 13))) 12 (mvh (ar 11) (goT (ar 11) tL qa))) 9 (nI qb.2.1)) 10 (nI qb.1)) 11 (nI (qb.2.1 - qb.1))) (va_up (va_up ar 14 (upd (ar 14) i (mvh (ar 11) (goT (ar 11) tL qa)))) 15 (upd (ar 15) i (msB (ar 11) tL (nI 400) qa (sc 13)))) la) (lv' := [(0, .ref (ad 0)), (1, .int (nI i))]) rfl rfl rfl ?_
      refine g_aload_n (pc := 135) hc 0 dX12_readLeave_135 rfl rfl ?_
      refine g_callVv (pc := 136) (rest := []) (As := []) hc (c_X12_next l E ad hA (va_up (va_up (va_up (va_up (va_up sc 13 (msB (ar 11) tL (nI 400) qa (sc 13))) 12 (mvh (ar 11) (goT (ar 11) tL qa))) 9 (nI qb.2.1)) 10 (nI qb.1)) 11 (nI (qb.2.1 - qb.1))) (va_up (va_up ar 14 (upd (ar 14) i (mvh (ar 11) (goT (ar 11) tL qa)))) 15 (upd (ar 15) i (msB (ar 11) tL (nI 400) qa (sc 13)))) la qb hT hT60 rfl (kb) hB) mi_X12_next tw_1324 0 rfl rfl rfl rfl ⟨rfl, rfl, by decide, by decide⟩ (Nat.le_of_ble_eq_true rfl) ⟨Nat.le_refl _, Nat.le_refl _⟩ rfl dX12_readLeave_136 ?_
      refine g_eq (ws' := mw E ad (va_up (va_up (va_up (va_up (va_up sc 13 (msB (ar 11) tL (nI 400) qa (sc 13))) 12 (mvh (ar 11) (goT (ar 11) tL qa))) 9 (nI (goT (ar 11) tL qb).2.1)) 10 (nI (goT (ar 11) tL qb).1)) 11 (nI ((goT (ar 11) tL qb).2.1 - (goT (ar 11) tL qb).1))) (va_up (va_up ar 14 (upd (ar 14) i (mvh (ar 11) (goT (ar 11) tL qa)))) 15 (upd (ar 15) i (msB (ar 11) tL (nI 400) qa (sc 13)))) la) (lv' := [(0, .ref (ad 0)), (1, .int (nI i))]) (by simp [mw, va_up]) rfl rfl ?_
      obtain ⟨qc, ec⟩ : ∃ z, z = (goT (ar 11) tL qb) := ⟨_, rfl⟩
      have kc : rdok tL qc := by rw [ec]; exact goT_ok kb
      refine g_eq (ws' := mw E ad (va_up (va_up (va_up (va_up (va_up sc 13 (msB (ar 11) tL (nI 400) qa (sc 13))) 12 (mvh (ar 11) (goT (ar 11) tL qa))) 9 (nI qc.2.1)) 10 (nI qc.1)) 11 (nI (qc.2.1 - qc.1))) (va_up (va_up ar 14 (upd (ar 14) i (mvh (ar 11) (goT (ar 11) tL qa)))) 15 (upd (ar 15) i (msB (ar 11) tL (nI 400) qa (sc 13)))) la) (lv' := [(0, .ref (ad 0)), (1, .int (nI i))]) (by rw [ec]) rfl rfl ?_
      exact g_q (by unfold rA; rw [← ea, ← eb, ← ec]; (repeat (first | rw [if_pos c1] | rw [if_neg c1] | rw [if_neg (ne_true_of_eq_false c1)] | rw [if_pos c2] | rw [if_neg c2] | rw [if_neg (ne_true_of_eq_false c2)])); try rfl) (by unfold rA rAa rAb; rw [← ea, ← eb, ← ec]; (repeat (first | rw [if_pos c1] | rw [if_neg c1] | rw [if_neg (ne_true_of_eq_false c1)] | rw [if_pos c2] | rw [if_neg c2] | rw [if_neg (ne_true_of_eq_false c2)])); try simp [mw, va_up]) (rl_b l E ad hA (va_up (va_up (va_up (va_up (va_up sc 13 (msB (ar 11) tL (nI 400) qa (sc 13))) 12 (mvh (ar 11) (goT (ar 11) tL qa))) 9 (nI qc.2.1)) 10 (nI qc.1)) 11 (nI (qc.2.1 - qc.1))) (va_up (va_up ar 14 (upd (ar 14) i (mvh (ar 11) (goT (ar 11) tL qa)))) 15 (upd (ar 15) i (msB (ar 11) tL (nI 400) qa (sc 13)))) la qc i hi hT hT60 rfl rfl rfl kc hB hc)
    · refine g_aload_n (pc := 110) hc 0 dX12_readLeave_110 rfl rfl ?_
      refine g_callVi (pc := 111) (rest := []) (As := []) hc (c_X12_here l E ad hA (va_up (va_up (va_up (va_up (va_up sc 13 (msB (ar 11) tL (nI 400) qa (sc 13))) 12 (mvh (ar 11) (goT (ar 11) tL qa))) 9 (nI qb.2.1)) 10 (nI qb.1)) 11 (nI (qb.2.1 - qb.1))) ar la qb hT hT60 rfl rfl (kb) hB) mi_X12_here tw_1340 0 rfl rfl rfl rfl ⟨rfl, rfl, by decide, by decide⟩ (Nat.le_of_ble_eq_true rfl) ⟨Nat.le_refl _, Nat.le_refl _⟩ rfl dX12_readLeave_111 ?_
      refine g_topi (v := mhr tL qb) rfl ?_
      exact g_iret (pc := 114) hc dX12_readLeave_114 (by unfold rA; rw [← ea, ← eb]; (repeat (first | rw [if_pos c1] | rw [if_neg c1] | rw [if_neg (ne_true_of_eq_false c1)] | rw [if_pos c2] | rw [if_neg c2] | rw [if_neg (ne_true_of_eq_false c2)]))) (by unfold rA rAa rAb; rw [← ea, ← eb]; (repeat (first | rw [if_pos c1] | rw [if_neg c1] | rw [if_neg (ne_true_of_eq_false c1)] | rw [if_pos c2] | rw [if_neg c2] | rw [if_neg (ne_true_of_eq_false c2)])); rw [upd_self (ar 14), upd_self (ar 15), upd_self (ar 16), va_upS ar 14, va_upS ar 15, va_upS ar 16]; try simp [mw, va_up])
