set_option maxHeartbeats 4000000 in
set_option maxRecDepth 100000 in
theorem c_X12_readLeave (l : Launch) (E : Ev) {A : Nat → Prop} (ad : Nat → Nat) (hA : Oka 30 ad A) (sc : Nat → Int32) (ar : Nat → Nat → Int32) (la : Nat → Int64) {tL : Nat} (i : Nat) (hi : i < 12) (hT : sc 7 = nI tL) (hT60 : tL ≤ 60) (hB : ∀ i, ar 11 i &&& nI 255 = ar 11 i) : Ct l E yX12_readLeave (.code yX12_readLeave cX12_readLeave 5 (some .int)) ({ frames := 3, cells := 0, slots := 0, locals := 65 }) A (mw E ad sc ar la) [.ref (ad 0), .int (nI i)] (some (.int (rL (ar 11) tL (sc 12) (sc 13) ((ar 12) i) ((ar 13) i) ((ar 14) i) ((ar 15) i) ((ar 16) i)).1)) (mw E ad (va_up (va_up (va_up (va_up (va_up sc 12 (rL (ar 11) tL (sc 12) (sc 13) ((ar 12) i) ((ar 13) i) ((ar 14) i) ((ar 15) i) ((ar 16) i)).2.2.2.1) 13 (rL (ar 11) tL (sc 12) (sc 13) ((ar 12) i) ((ar 13) i) ((ar 14) i) ((ar 15) i) ((ar 16) i)).2.2.2.2) 9 (nI (rL (ar 11) tL (sc 12) (sc 13) ((ar 12) i) ((ar 13) i) ((ar 14) i) ((ar 15) i) ((ar 16) i)).2.1.2.1)) 10 (nI (rL (ar 11) tL (sc 12) (sc 13) ((ar 12) i) ((ar 13) i) ((ar 14) i) ((ar 15) i) ((ar 16) i)).2.1.1)) 11 (nI ((rL (ar 11) tL (sc 12) (sc 13) ((ar 12) i) ((ar 13) i) ((ar 14) i) ((ar 15) i) ((ar 16) i)).2.1.2.1 - (rL (ar 11) tL (sc 12) (sc 13) ((ar 12) i) ((ar 13) i) ((ar 14) i) ((ar 15) i) ((ar 16) i)).2.1.1))) (va_up (va_up (va_up (va_up (va_up ar 12 (upd (ar 12) i (rL (ar 11) tL (sc 12) (sc 13) ((ar 12) i) ((ar 13) i) ((ar 14) i) ((ar 15) i) ((ar 16) i)).2.2.1.1)) 13 (upd (ar 13) i (rL (ar 11) tL (sc 12) (sc 13) ((ar 12) i) ((ar 13) i) ((ar 14) i) ((ar 15) i) ((ar 16) i)).2.2.1.2.1)) 14 (upd (ar 14) i (rL (ar 11) tL (sc 12) (sc 13) ((ar 12) i) ((ar 13) i) ((ar 14) i) ((ar 15) i) ((ar 16) i)).2.2.1.2.2.1)) 15 (upd (ar 15) i (rL (ar 11) tL (sc 12) (sc 13) ((ar 12) i) ((ar 13) i) ((ar 14) i) ((ar 15) i) ((ar 16) i)).2.2.1.2.2.2.1)) 16 (upd (ar 16) i (rL (ar 11) tL (sc 12) (sc 13) ((ar 12) i) ((ar 13) i) ((ar 14) i) ((ar 15) i) ((ar 16) i)).2.2.1.2.2.2.2)) la) := by
  refine Ct.of (lv := [(0, .ref (ad 0)), (1, .int (nI i))]) (by decide +kernel) (Nat.le_of_ble_eq_true rfl) rfl ?_
  intro zp ze zs zm za zb zh zc hc
  refine g_aload_n (pc := 0) hc 0 dX12_readLeave_0 rfl rfl ?_
  refine g_iconst (pc := 1) (v := nI 0) hc dX12_readLeave_1 (by decide) ?_
  refine pf_m0_read (pc := 2) hc hA tw_1037 dX12_readLeave_2 ?_
  refine g_aload_n (pc := 5) hc 0 dX12_readLeave_5 rfl rfl ?_
  refine g_callVv (pc := 6) (rest := []) (As := []) hc (c_X12_next l E ad hA (va_up sc 9 (nI 0)) ar la ((0, 0, (-1)) : Rq) hT hT60 rfl ((⟨Nat.le_refl _, Nat.zero_le _⟩ : rdok tL ((0, 0, (-1)) : Rq))) hB) mi_X12_next tw_1324 0 rfl rfl rfl rfl ⟨rfl, rfl, by decide, by decide⟩ (Nat.le_of_ble_eq_true rfl) ⟨Nat.le_refl _, Nat.le_refl _⟩ rfl dX12_readLeave_6 ?_
  refine g_eq (ws' := mw E ad (va_up (va_up (va_up sc 9 (nI (goT (ar 11) tL ((0, 0, (-1)) : Rq)).2.1)) 10 (nI (goT (ar 11) tL ((0, 0, (-1)) : Rq)).1)) 11 (nI ((goT (ar 11) tL ((0, 0, (-1)) : Rq)).2.1 - (goT (ar 11) tL ((0, 0, (-1)) : Rq)).1))) ar la) (lv' := [(0, .ref (ad 0)), (1, .int (nI i))]) (by simp [mw, va_up]) rfl rfl ?_
  obtain ⟨q0, e0⟩ : ∃ z, z = rd0 (ar 11) tL := ⟨_, rfl⟩
  have k0 : rdok tL q0 := by rw [e0]; exact rd0_ok _ _
  refine g_eq (ws' := mw E ad (va_up (va_up (va_up sc 9 (nI q0.2.1)) 10 (nI q0.1)) 11 (nI (q0.2.1 - q0.1))) ar la) (lv' := [(0, .ref (ad 0)), (1, .int (nI i))]) (by rw [e0, rd0]) rfl rfl ?_
  refine g_aload_n (pc := 9) hc 0 dX12_readLeave_9 rfl rfl ?_
  refine g_bipush (pc := 10) (v := nI 114) hc dX12_readLeave_10 (by decide) ?_
  refine g_bipush (pc := 12) (v := nI 111) hc dX12_readLeave_12 (by decide) ?_
  refine g_bipush (pc := 14) (v := nI 119) hc dX12_readLeave_14 (by decide) ?_
  refine g_bipush (pc := 16) (v := nI 115) hc dX12_readLeave_16 (by decide) ?_
  refine g_callVi (pc := 18) (rest := []) (As := [.int (nI 114), .int (nI 111), .int (nI 119), .int (nI 115)]) hc (c_X12_isWord_0 l E ad hA (va_up (va_up (va_up sc 9 (nI q0.2.1)) 10 (nI q0.1)) 11 (nI (q0.2.1 - q0.1))) ar la q0 hT hT60 rfl rfl (k0) hB) mi_X12_isWord tw_1328 0 rfl rfl rfl rfl ⟨rfl, rfl, by decide, by decide⟩ (Nat.le_of_ble_eq_true rfl) ⟨Nat.le_refl _, Nat.le_refl _⟩ rfl dX12_readLeave_18 ?_
  refine g_topi (v := bI (wat (ar 11) q0 0)) rfl ?_
  refine g_if_eq_b (pc := 21) hc 33 dX12_readLeave_21 (by decide) (fun c1 => ?_) (fun c1 => ?_)
  · refine g_aload_n (pc := 33) hc 0 dX12_readLeave_33 rfl rfl ?_
    refine g_callVi (pc := 34) (rest := []) (As := []) hc (c_X12_here l E ad hA (va_up (va_up (va_up sc 9 (nI q0.2.1)) 10 (nI q0.1)) 11 (nI (q0.2.1 - q0.1))) ar la q0 hT hT60 rfl rfl (k0) hB) mi_X12_here tw_1340 0 rfl rfl rfl rfl ⟨rfl, rfl, by decide, by decide⟩ (Nat.le_of_ble_eq_true rfl) ⟨Nat.le_refl _, Nat.le_refl _⟩ rfl dX12_readLeave_34 ?_
    refine g_topi (v := mhr tL q0) rfl ?_
    exact g_iret (pc := 37) hc dX12_readLeave_37 (by unfold rL; rw [← e0]; (repeat (first | rw [if_pos c1] | rw [if_neg c1] | rw [if_neg (ne_true_of_eq_false c1)]))) (by unfold rL; rw [← e0]; (repeat (first | rw [if_pos c1] | rw [if_neg c1] | rw [if_neg (ne_true_of_eq_false c1)])); rw [upd_self (ar 12)]; rw [upd_self (ar 13)]; rw [upd_self (ar 14)]; rw [upd_self (ar 15)]; rw [upd_self (ar 16)]; rw [va_upS ar 12, va_upS ar 13, va_upS ar 14, va_upS ar 15, va_upS ar 16]; try simp [mw, va_up])
  · refine g_aload_n (pc := 24) hc 0 dX12_readLeave_24 rfl rfl ?_
    refine g_bipush (pc := 25) (v := nI 7) hc dX12_readLeave_25 (by decide) ?_
    refine g_callVi (pc := 27) (rest := []) (As := [.int (nI 7)]) hc (c_X12_isSpan l E ad hA (va_up (va_up (va_up sc 9 (nI q0.2.1)) 10 (nI q0.1)) 11 (nI (q0.2.1 - q0.1))) ar la q0 hT hT60 rfl (k0) hB (nI 7)) mi_X12_isSpan tw_1332 0 rfl rfl rfl rfl ⟨rfl, rfl, by decide, by decide⟩ (Nat.le_of_ble_eq_true rfl) ⟨Nat.le_refl _, Nat.le_refl _⟩ rfl dX12_readLeave_27 ?_
    refine g_topi (v := bI (msO (ar 11) tL (nI 7) q0)) rfl ?_
    refine g_eq (ws' := mw E ad (va_up (va_up (va_up (va_up (va_up sc 13 (msB (ar 11) tL (nI 7) q0 (sc 13))) 12 (mvh (ar 11) (goT (ar 11) tL q0))) 9 (nI (msT (ar 11) tL (nI 7) q0).2.1)) 10 (nI (msT (ar 11) tL (nI 7) q0).1)) 11 (nI ((msT (ar 11) tL (nI 7) q0).2.1 - (msT (ar 11) tL (nI 7) q0).1))) ar la) (lv' := [(0, .ref (ad 0)), (1, .int (nI i))]) (by simp [mw, va_up]) rfl rfl ?_
    obtain ⟨q1, e1⟩ : ∃ z, z = (msT (ar 11) tL (nI 7) q0) := ⟨_, rfl⟩
    have k1 : rdok tL q1 := by rw [e1]; exact msT_ok k0
    refine g_eq (ws' := mw E ad (va_up (va_up (va_up (va_up (va_up sc 13 (msB (ar 11) tL (nI 7) q0 (sc 13))) 12 (mvh (ar 11) (goT (ar 11) tL q0))) 9 (nI q1.2.1)) 10 (nI q1.1)) 11 (nI (q1.2.1 - q1.1))) ar la) (lv' := [(0, .ref (ad 0)), (1, .int (nI i))]) (by rw [e1]) rfl rfl ?_
    refine g_if_ne_b (pc := 30) hc 38 dX12_readLeave_30 (by decide) (fun c2 => ?_) (fun c2 => ?_)
    · refine g_aload_n (pc := 38) hc 0 dX12_readLeave_38 rfl rfl ?_
      refine gf_m0_lFrom (pc := 39) hc tw_1021 dX12_readLeave_39 ?_
      refine g_iload_n (pc := 42) hc 1 dX12_readLeave_42 rfl rfl ?_
      refine g_aload_n (pc := 43) hc 0 dX12_readLeave_43 rfl rfl ?_
      refine gf_m0_spanFrom (pc := 44) hc tw_1040 dX12_readLeave_44 ?_
      refine g_topi (v := mvh (ar 11) (goT (ar 11) tL q0)) rfl ?_
      refine sa_m12 (pc := 47) hc hA (i) (rfl) (by omega) dX12_readLeave_47 ?_
      refine g_aload_n (pc := 48) hc 0 dX12_readLeave_48 rfl rfl ?_
      refine gf_m0_lTo (pc := 49) hc tw_1022 dX12_readLeave_49 ?_
      refine g_iload_n (pc := 52) hc 1 dX12_readLeave_52 rfl rfl ?_
      refine g_aload_n (pc := 53) hc 0 dX12_readLeave_53 rfl rfl ?_
      refine gf_m0_spanTo (pc := 54) hc tw_1041 dX12_readLeave_54 ?_
      refine g_topi (v := msB (ar 11) tL (nI 7) q0 (sc 13)) rfl ?_
      refine sa_m13 (pc := 57) hc hA (i) (rfl) (by omega) dX12_readLeave_57 ?_
      refine g_eq (ws' := mw E ad (va_up (va_up (va_up (va_up (va_up sc 13 (msB (ar 11) tL (nI 7) q0 (sc 13))) 12 (mvh (ar 11) (goT (ar 11) tL q0))) 9 (nI q1.2.1)) 10 (nI q1.1)) 11 (nI (q1.2.1 - q1.1))) (va_up (va_up ar 12 (upd (ar 12) i (mvh (ar 11) (goT (ar 11) tL q0)))) 13 (upd (ar 13) i (msB (ar 11) tL (nI 7) q0 (sc 13)))) la) (lv' := [(0, .ref (ad 0)), (1, .int (nI i))]) rfl rfl rfl ?_
      refine g_aload_n (pc := 58) hc 0 dX12_readLeave_58 rfl rfl ?_
      refine gf_m0_lFirst (pc := 59) hc tw_1023 dX12_readLeave_59 ?_
      refine g_iload_n (pc := 62) hc 1 dX12_readLeave_62 rfl rfl ?_
      refine g_iconst (pc := 63) (v := nI 0) hc dX12_readLeave_63 (by decide) ?_
      refine sa_m14 (pc := 64) hc hA (i) (rfl) (by omega) dX12_readLeave_64 ?_
      refine g_eq (ws' := mw E ad (va_up (va_up (va_up (va_up (va_up sc 13 (msB (ar 11) tL (nI 7) q0 (sc 13))) 12 (mvh (ar 11) (goT (ar 11) tL q0))) 9 (nI q1.2.1)) 10 (nI q1.1)) 11 (nI (q1.2.1 - q1.1))) (va_up (va_up (va_up ar 12 (upd (ar 12) i (mvh (ar 11) (goT (ar 11) tL q0)))) 13 (upd (ar 13) i (msB (ar 11) tL (nI 7) q0 (sc 13)))) 14 (upd (ar 14) i (nI 0))) la) (lv' := [(0, .ref (ad 0)), (1, .int (nI i))]) rfl rfl rfl ?_
      refine g_aload_n (pc := 65) hc 0 dX12_readLeave_65 rfl rfl ?_
      refine gf_m0_lLast (pc := 66) hc tw_1024 dX12_readLeave_66 ?_
      refine g_iload_n (pc := 69) hc 1 dX12_readLeave_69 rfl rfl ?_
      refine g_sipush (pc := 70) (v := nI 400) hc dX12_readLeave_70 (by decide) ?_
      refine sa_m15 (pc := 73) hc hA (i) (rfl) (by omega) dX12_readLeave_73 ?_
      refine g_eq (ws' := mw E ad (va_up (va_up (va_up (va_up (va_up sc 13 (msB (ar 11) tL (nI 7) q0 (sc 13))) 12 (mvh (ar 11) (goT (ar 11) tL q0))) 9 (nI q1.2.1)) 10 (nI q1.1)) 11 (nI (q1.2.1 - q1.1))) (va_up (va_up (va_up (va_up ar 12 (upd (ar 12) i (mvh (ar 11) (goT (ar 11) tL q0)))) 13 (upd (ar 13) i (msB (ar 11) tL (nI 7) q0 (sc 13)))) 14 (upd (ar 14) i (nI 0))) 15 (upd (ar 15) i (nI 400))) la) (lv' := [(0, .ref (ad 0)), (1, .int (nI i))]) rfl rfl rfl ?_
      refine g_aload_n (pc := 74) hc 0 dX12_readLeave_74 rfl rfl ?_
      refine gf_m0_lNot (pc := 75) hc tw_1025 dX12_readLeave_75 ?_
      refine g_iload_n (pc := 78) hc 1 dX12_readLeave_78 rfl rfl ?_
      refine g_iconst (pc := 79) (v := nI 0) hc dX12_readLeave_79 (by decide) ?_
      refine sa_m16 (pc := 80) hc hA (i) (rfl) (by omega) dX12_readLeave_80 ?_
      refine g_eq (ws' := mw E ad (va_up (va_up (va_up (va_up (va_up sc 13 (msB (ar 11) tL (nI 7) q0 (sc 13))) 12 (mvh (ar 11) (goT (ar 11) tL q0))) 9 (nI q1.2.1)) 10 (nI q1.1)) 11 (nI (q1.2.1 - q1.1))) (va_up (va_up (va_up (va_up (va_up ar 12 (upd (ar 12) i (mvh (ar 11) (goT (ar 11) tL q0)))) 13 (upd (ar 13) i (msB (ar 11) tL (nI 7) q0 (sc 13)))) 14 (upd (ar 14) i (nI 0))) 15 (upd (ar 15) i (nI 400))) 16 (upd (ar 16) i (nI 0))) la) (lv' := [(0, .ref (ad 0)), (1, .int (nI i))]) rfl rfl rfl ?_
      exact g_q (by unfold rL; rw [← e0, ← e1]; (repeat (first | rw [if_pos c1] | rw [if_neg c1] | rw [if_neg (ne_true_of_eq_false c1)] | rw [if_pos c2] | rw [if_neg c2] | rw [if_neg (ne_true_of_eq_false c2)])); simp [va_up, pk_us]) (by unfold rL; rw [← e0, ← e1]; (repeat (first | rw [if_pos c1] | rw [if_neg c1] | rw [if_neg (ne_true_of_eq_false c1)] | rw [if_pos c2] | rw [if_neg c2] | rw [if_neg (ne_true_of_eq_false c2)])); simp [mw, va_up, pk_us, upd2]) (rl_a l E ad hA (va_up (va_up (va_up (va_up (va_up sc 13 (msB (ar 11) tL (nI 7) q0 (sc 13))) 12 (mvh (ar 11) (goT (ar 11) tL q0))) 9 (nI q1.2.1)) 10 (nI q1.1)) 11 (nI (q1.2.1 - q1.1))) (va_up (va_up (va_up (va_up (va_up ar 12 (upd (ar 12) i (mvh (ar 11) (goT (ar 11) tL q0)))) 13 (upd (ar 13) i (msB (ar 11) tL (nI 7) q0 (sc 13)))) 14 (upd (ar 14) i (nI 0))) 15 (upd (ar 15) i (nI 400))) 16 (upd (ar 16) i (nI 0))) la q1 i hi hT hT60 rfl rfl rfl k1 hB hc)
    · refine g_aload_n (pc := 33) hc 0 dX12_readLeave_33 rfl rfl ?_
      refine g_callVi (pc := 34) (rest := []) (As := []) hc (c_X12_here l E ad hA (va_up (va_up (va_up (va_up (va_up sc 13 (msB (ar 11) tL (nI 7) q0 (sc 13))) 12 (mvh (ar 11) (goT (ar 11) tL q0))) 9 (nI q1.2.1)) 10 (nI q1.1)) 11 (nI (q1.2.1 - q1.1))) ar la q1 hT hT60 rfl rfl (k1) hB) mi_X12_here tw_1340 0 rfl rfl rfl rfl ⟨rfl, rfl, by decide, by decide⟩ (Nat.le_of_ble_eq_true rfl) ⟨Nat.le_refl _, Nat.le_refl _⟩ rfl dX12_readLeave_34 ?_
      refine g_topi (v := mhr tL q1) rfl ?_
      exact g_iret (pc := 37) hc dX12_readLeave_37 (by unfold rL; rw [← e0, ← e1]; (repeat (first | rw [if_pos c1] | rw [if_neg c1] | rw [if_neg (ne_true_of_eq_false c1)] | rw [if_pos c2] | rw [if_neg c2] | rw [if_neg (ne_true_of_eq_false c2)]))) (by unfold rL; rw [← e0, ← e1]; (repeat (first | rw [if_pos c1] | rw [if_neg c1] | rw [if_neg (ne_true_of_eq_false c1)] | rw [if_pos c2] | rw [if_neg c2] | rw [if_neg (ne_true_of_eq_false c2)])); rw [upd_self (ar 12)]; rw [upd_self (ar 13)]; rw [upd_self (ar 14)]; rw [upd_self (ar 15)]; rw [upd_self (ar 16)]; rw [va_upS ar 12, va_upS ar 13, va_upS ar 14, va_upS ar 15, va_upS ar 16]; try simp [mw, va_up])

theorem dX12_put_0 : decode cX12_put 0 = .ok (.aload_n 0, 1) := by decide +kernel
theorem dX12_put_1 : decode cX12_put 1 = .ok (.getfield 54, 3) := by decide +kernel
theorem dX12_put_4 : decode cX12_put 4 = .ok (.iload_n 1, 1) := by decide +kernel
theorem dX12_put_5 : decode cX12_put 5 = .ok (.aload_n 0, 1) := by decide +kernel
theorem dX12_put_6 : decode cX12_put 6 = .ok (.getfield 103, 3) := by decide +kernel
theorem dX12_put_9 : decode cX12_put 9 = .ok (.iconst 0, 1) := by decide +kernel
theorem dX12_put_10 : decode cX12_put 10 = .ok (.iaload, 1) := by decide +kernel
theorem dX12_put_11 : decode cX12_put 11 = .ok (.iastore, 1) := by decide +kernel
theorem dX12_put_12 : decode cX12_put 12 = .ok (.aload_n 0, 1) := by decide +kernel
theorem dX12_put_13 : decode cX12_put 13 = .ok (.getfield 57, 3) := by decide +kernel
theorem dX12_put_16 : decode cX12_put 16 = .ok (.iload_n 1, 1) := by decide +kernel
theorem dX12_put_17 : decode cX12_put 17 = .ok (.aload_n 0, 1) := by decide +kernel
theorem dX12_put_18 : decode cX12_put 18 = .ok (.getfield 103, 3) := by decide +kernel
theorem dX12_put_21 : decode cX12_put 21 = .ok (.iconst 1, 1) := by decide +kernel
theorem dX12_put_22 : decode cX12_put 22 = .ok (.iaload, 1) := by decide +kernel
theorem dX12_put_23 : decode cX12_put 23 = .ok (.iastore, 1) := by decide +kernel
theorem dX12_put_24 : decode cX12_put 24 = .ok (.aload_n 0, 1) := by decide +kernel
theorem dX12_put_25 : decode cX12_put 25 = .ok (.getfield 60, 3) := by decide +kernel
theorem dX12_put_28 : decode cX12_put 28 = .ok (.iload_n 1, 1) := by decide +kernel
theorem dX12_put_29 : decode cX12_put 29 = .ok (.aload_n 0, 1) := by decide +kernel
theorem dX12_put_30 : decode cX12_put 30 = .ok (.getfield 103, 3) := by decide +kernel
theorem dX12_put_33 : decode cX12_put 33 = .ok (.iconst 2, 1) := by decide +kernel
theorem dX12_put_34 : decode cX12_put 34 = .ok (.iaload, 1) := by decide +kernel
theorem dX12_put_35 : decode cX12_put 35 = .ok (.iastore, 1) := by decide +kernel
theorem dX12_put_36 : decode cX12_put 36 = .ok (.aload_n 0, 1) := by decide +kernel
theorem dX12_put_37 : decode cX12_put 37 = .ok (.getfield 63, 3) := by decide +kernel
theorem dX12_put_40 : decode cX12_put 40 = .ok (.iload_n 1, 1) := by decide +kernel
theorem dX12_put_41 : decode cX12_put 41 = .ok (.aload_n 0, 1) := by decide +kernel
theorem dX12_put_42 : decode cX12_put 42 = .ok (.getfield 103, 3) := by decide +kernel
theorem dX12_put_45 : decode cX12_put 45 = .ok (.iconst 3, 1) := by decide +kernel
theorem dX12_put_46 : decode cX12_put 46 = .ok (.iaload, 1) := by decide +kernel
theorem dX12_put_47 : decode cX12_put 47 = .ok (.iastore, 1) := by decide +kernel
theorem dX12_put_48 : decode cX12_put 48 = .ok (.aload_n 0, 1) := by decide +kernel
theorem dX12_put_49 : decode cX12_put 49 = .ok (.getfield 66, 3) := by decide +kernel
theorem dX12_put_52 : decode cX12_put 52 = .ok (.iload_n 1, 1) := by decide +kernel
theorem dX12_put_53 : decode cX12_put 53 = .ok (.aload_n 0, 1) := by decide +kernel
theorem dX12_put_54 : decode cX12_put 54 = .ok (.getfield 103, 3) := by decide +kernel
theorem dX12_put_57 : decode cX12_put 57 = .ok (.iconst 4, 1) := by decide +kernel
theorem dX12_put_58 : decode cX12_put 58 = .ok (.iaload, 1) := by decide +kernel
theorem dX12_put_59 : decode cX12_put 59 = .ok (.iastore, 1) := by decide +kernel
theorem dX12_put_60 : decode cX12_put 60 = .ok (.return_, 1) := by decide +kernel

set_option maxHeartbeats 4000000 in
set_option maxRecDepth 100000 in
theorem c_X12_put (l : Launch) (E : Ev) {A : Nat → Prop} (ad : Nat → Nat) (hA : Oka 30 ad A) (sc : Nat → Int32) (ar : Nat → Nat → Int32) (la : Nat → Int64) (i : Nat) (hi : i < 12) : Ct l E yX12_put (.code yX12_put cX12_put 2 none) ({ frames := 0, cells := 0, slots := 0, locals := 0 }) A (mw E ad sc ar la) [.ref (ad 0), .int (nI i)] (none) (mw E ad sc (va_up (va_up (va_up (va_up (va_up ar 12 (upd (ar 12) i ((ar 28) 0))) 13 (upd (ar 13) i ((ar 28) 1))) 14 (upd (ar 14) i ((ar 28) 2))) 15 (upd (ar 15) i ((ar 28) 3))) 16 (upd (ar 16) i ((ar 28) 4))) la) := by
  refine Ct.of (lv := [(0, .ref (ad 0)), (1, .int (nI i))]) (by decide +kernel) (Nat.le_of_ble_eq_true rfl) rfl ?_
  intro zp ze zs zm za zb zh zc hc
  refine g_aload_n (pc := 0) hc 0 dX12_put_0 rfl rfl ?_
  refine gf_m0_lFrom (pc := 1) hc tw_1021 dX12_put_1 ?_
  refine g_iload_n (pc := 4) hc 1 dX12_put_4 rfl rfl ?_
  refine g_aload_n (pc := 5) hc 0 dX12_put_5 rfl rfl ?_
  refine gf_m0_aside (pc := 6) hc tw_1042 dX12_put_6 ?_
  refine g_iconst (pc := 9) (v := nI 0) hc dX12_put_9 (by decide) ?_
  refine la_m28 (pc := 10) hc (0) (rfl) (by omega) dX12_put_10 ?_
  refine sa_m12 (pc := 11) hc hA (i) (rfl) (by omega) dX12_put_11 ?_
  refine g_aload_n (pc := 12) hc 0 dX12_put_12 rfl rfl ?_
  refine gf_m0_lTo (pc := 13) hc tw_1022 dX12_put_13 ?_
  refine g_iload_n (pc := 16) hc 1 dX12_put_16 rfl rfl ?_
  refine g_aload_n (pc := 17) hc 0 dX12_put_17 rfl rfl ?_
  refine gf_m0_aside (pc := 18) hc tw_1042 dX12_put_18 ?_
  refine g_iconst (pc := 21) (v := nI 1) hc dX12_put_21 (by decide) ?_
  refine la_m28 (pc := 22) hc (1) (rfl) (by omega) dX12_put_22 ?_
  refine g_topi (v := (ar 28) 1) rfl ?_
  refine sa_m13 (pc := 23) hc hA (i) (rfl) (by omega) dX12_put_23 ?_
  refine g_eq (ws' := mw E ad sc (va_up (va_up ar 12 (upd (ar 12) i ((ar 28) 0))) 13 (upd (ar 13) i ((ar 28) 1))) la) (lv' := [(0, .ref (ad 0)), (1, .int (nI i))]) rfl rfl rfl ?_
  refine g_aload_n (pc := 24) hc 0 dX12_put_24 rfl rfl ?_
  refine gf_m0_lFirst (pc := 25) hc tw_1023 dX12_put_25 ?_
  refine g_iload_n (pc := 28) hc 1 dX12_put_28 rfl rfl ?_
  refine g_aload_n (pc := 29) hc 0 dX12_put_29 rfl rfl ?_
  refine gf_m0_aside (pc := 30) hc tw_1042 dX12_put_30 ?_
  refine g_iconst (pc := 33) (v := nI 2) hc dX12_put_33 (by decide) ?_
  refine la_m28 (pc := 34) hc (2) (rfl) (by omega) dX12_put_34 ?_
  refine g_topi (v := (ar 28) 2) rfl ?_
  refine sa_m14 (pc := 35) hc hA (i) (rfl) (by omega) dX12_put_35 ?_
  refine g_eq (ws' := mw E ad sc (va_up (va_up (va_up ar 12 (upd (ar 12) i ((ar 28) 0))) 13 (upd (ar 13) i ((ar 28) 1))) 14 (upd (ar 14) i ((ar 28) 2))) la) (lv' := [(0, .ref (ad 0)), (1, .int (nI i))]) rfl rfl rfl ?_
  refine g_aload_n (pc := 36) hc 0 dX12_put_36 rfl rfl ?_
  refine gf_m0_lLast (pc := 37) hc tw_1024 dX12_put_37 ?_
  refine g_iload_n (pc := 40) hc 1 dX12_put_40 rfl rfl ?_
  refine g_aload_n (pc := 41) hc 0 dX12_put_41 rfl rfl ?_
  refine gf_m0_aside (pc := 42) hc tw_1042 dX12_put_42 ?_
  refine g_iconst (pc := 45) (v := nI 3) hc dX12_put_45 (by decide) ?_
  refine la_m28 (pc := 46) hc (3) (rfl) (by omega) dX12_put_46 ?_
  refine g_topi (v := (ar 28) 3) rfl ?_
  refine sa_m15 (pc := 47) hc hA (i) (rfl) (by omega) dX12_put_47 ?_
  refine g_eq (ws' := mw E ad sc (va_up (va_up (va_up (va_up ar 12 (upd (ar 12) i ((ar 28) 0))) 13 (upd (ar 13) i ((ar 28) 1))) 14 (upd (ar 14) i ((ar 28) 2))) 15 (upd (ar 15) i ((ar 28) 3))) la) (lv' := [(0, .ref (ad 0)), (1, .int (nI i))]) rfl rfl rfl ?_
  refine g_aload_n (pc := 48) hc 0 dX12_put_48 rfl rfl ?_
  refine gf_m0_lNot (pc := 49) hc tw_1025 dX12_put_49 ?_
  refine g_iload_n (pc := 52) hc 1 dX12_put_52 rfl rfl ?_
  refine g_aload_n (pc := 53) hc 0 dX12_put_53 rfl rfl ?_
  refine gf_m0_aside (pc := 54) hc tw_1042 dX12_put_54 ?_
  refine g_iconst (pc := 57) (v := nI 4) hc dX12_put_57 (by decide) ?_
  refine la_m28 (pc := 58) hc (4) (rfl) (by omega) dX12_put_58 ?_
  refine g_topi (v := (ar 28) 4) rfl ?_
  refine sa_m16 (pc := 59) hc hA (i) (rfl) (by omega) dX12_put_59 ?_
  refine g_eq (ws' := mw E ad sc (va_up (va_up (va_up (va_up (va_up ar 12 (upd (ar 12) i ((ar 28) 0))) 13 (upd (ar 13) i ((ar 28) 1))) 14 (upd (ar 14) i ((ar 28) 2))) 15 (upd (ar 15) i ((ar 28) 3))) 16 (upd (ar 16) i ((ar 28) 4))) la) (lv' := [(0, .ref (ad 0)), (1, .int (nI i))]) rfl rfl rfl ?_
  exact g_vret (pc := 60) hc dX12_put_60 rfl (rfl)
