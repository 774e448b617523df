theorem dX4_readRows_0 : decode cX4_readRows 0 = .ok (.aload_n 0, 1) := by decide +kernel
theorem dX4_readRows_1 : decode cX4_readRows 1 = .ok (.ldc 61, 2) := by decide +kernel
theorem dX4_readRows_3 : decode cX4_readRows 3 = .ok (.invokevirtual 63, 3) := by decide +kernel
theorem dX4_readRows_6 : decode cX4_readRows 6 = .ok (.aload_n 0, 1) := by decide +kernel
theorem dX4_readRows_7 : decode cX4_readRows 7 = .ok (.aload_n 0, 1) := by decide +kernel
theorem dX4_readRows_8 : decode cX4_readRows 8 = .ok (.iconst 0, 1) := by decide +kernel
theorem dX4_readRows_9 : decode cX4_readRows 9 = .ok (.bipush 7, 2) := by decide +kernel
theorem dX4_readRows_11 : decode cX4_readRows 11 = .ok (.invokevirtual 67, 3) := by decide +kernel
theorem dX4_readRows_14 : decode cX4_readRows 14 = .ok (.putfield 46, 3) := by decide +kernel
theorem dX4_readRows_17 : decode cX4_readRows 17 = .ok (.aload_n 0, 1) := by decide +kernel
theorem dX4_readRows_18 : decode cX4_readRows 18 = .ok (.ldc 71, 2) := by decide +kernel
theorem dX4_readRows_20 : decode cX4_readRows 20 = .ok (.invokevirtual 63, 3) := by decide +kernel
theorem dX4_readRows_23 : decode cX4_readRows 23 = .ok (.aload_n 0, 1) := by decide +kernel
theorem dX4_readRows_24 : decode cX4_readRows 24 = .ok (.aload_n 0, 1) := by decide +kernel
theorem dX4_readRows_25 : decode cX4_readRows 25 = .ok (.aload_n 0, 1) := by decide +kernel
theorem dX4_readRows_26 : decode cX4_readRows 26 = .ok (.getfield 46, 3) := by decide +kernel
theorem dX4_readRows_29 : decode cX4_readRows 29 = .ok (.bipush 7, 2) := by decide +kernel
theorem dX4_readRows_31 : decode cX4_readRows 31 = .ok (.invokevirtual 67, 3) := by decide +kernel
theorem dX4_readRows_34 : decode cX4_readRows 34 = .ok (.putfield 49, 3) := by decide +kernel
theorem dX4_readRows_37 : decode cX4_readRows 37 = .ok (.return_, 1) := by decide +kernel

set_option maxHeartbeats 4000000 in
set_option maxRecDepth 100000 in
theorem c_X4_readRows (l : Launch) (E : Ev) {A : Nat → Prop} (ad : Nat → Nat) (hA : Oka 39 ad A) (sc : Nat → Int32) (ar : Nat → Nat → Int32) (bl : Int64) {tL : Nat} (q : Rq)  (hT : sc 7 = nI tL) (hT60 : tL ≤ 60) (h8 : sc 8 = nI q.1) (h9 : sc 9 = nI q.2.1) (h10 : sc 10 = q.2.2) (hq : rdok tL q) : Ct l E yX4_readRows (.code yX4_readRows cX4_readRows 1 none) ({ frames := 7, cells := 0, slots := 0, locals := 149 }) A (cw E ad sc ar bl) [.ref (ad 9)] (none) (cw E ad (va_up (va_up (va_up (va_up (va_up sc 11 (spA (ar 30) (nI 7) (exT (ar 30) tL 0 q))) 12 (spB (ar 30) tL (nI 7) (exT (ar 30) tL 0 q))) 8 (nI (spT (ar 30) tL (nI 7) (exT (ar 30) tL 0 q)).1)) 9 (nI (spT (ar 30) tL (nI 7) (exT (ar 30) tL 0 q)).2.1)) 10 (spT (ar 30) tL (nI 7) (exT (ar 30) tL 0 q)).2.2) ar bl) := by
  refine Ct.of (lv := [(0, .ref (ad 9))]) (by decide +kernel) (Nat.le_of_ble_eq_true rfl) rfl ?_
  intro zp ze zs zm za zb zh zc hc
  refine g_aload_n (pc := 0) hc 0 dX4_readRows_0 rfl rfl ?_
  refine g_ldcS (pc := 1) hc 0 rfl rfl dX4_readRows_1 ?_
  refine g_callVv (pc := 3) (rest := []) (As := [.ref (E.2.2.2 0)]) hc (c_X4_expect l E ad hA sc ar bl q 0 hT hT60 h8 h9 h10 (hq) (by decide)) mi_X4_expect tw_776 9 rfl rfl rfl rfl ⟨rfl, rfl, by decide, by decide⟩ (Nat.le_of_ble_eq_true rfl) ⟨Nat.le_refl _, Nat.le_refl _⟩ rfl dX4_readRows_3 ?_
  refine g_aload_n (pc := 6) hc 0 dX4_readRows_6 rfl rfl ?_
  refine g_aload_n (pc := 7) hc 0 dX4_readRows_7 rfl rfl ?_
  refine g_iconst (pc := 8) (v := nI 0) hc dX4_readRows_8 (by decide) ?_
  refine g_bipush (pc := 9) (v := nI 7) hc dX4_readRows_9 (by decide) ?_
  refine g_callVi (pc := 11) (rest := [.ref (ad 9)]) (As := [.int (nI 0), .int (nI 7)]) hc (c_X4_expectNumber l E ad hA (va_up (va_up (va_up sc 8 (nI (exT (ar 30) tL 0 q).1)) 9 (nI (exT (ar 30) tL 0 q).2.1)) 10 (exT (ar 30) tL 0 q).2.2) ar bl (exT (ar 30) tL 0 q) (nI 0) (nI 7) hT hT60 rfl rfl rfl (exT_ok hq)) mi_X4_expectNumber tw_840 9 rfl rfl rfl rfl ⟨rfl, rfl, by decide, by decide⟩ (Nat.le_of_ble_eq_true rfl) ⟨Nat.le_refl _, Nat.le_refl _⟩ rfl dX4_readRows_11 ?_
  refine g_topi (v := enV (ar 30) (nI 0) (nI 7) (exT (ar 30) tL 0 q)) rfl ?_
  refine g_eq (ws' := cw E ad (va_up (va_up (va_up sc 8 (nI (enT (ar 30) tL (nI 0) (nI 7) (exT (ar 30) tL 0 q)).1)) 9 (nI (enT (ar 30) tL (nI 0) (nI 7) (exT (ar 30) tL 0 q)).2.1)) 10 (enT (ar 30) tL (nI 0) (nI 7) (exT (ar 30) tL 0 q)).2.2) ar bl) (lv' := [(0, .ref (ad 9))]) (rfl) rfl rfl ?_
  refine pf_c9_firstRow (pc := 14) hc hA tw_231 dX4_readRows_14 ?_
  refine g_aload_n (pc := 17) hc 0 dX4_readRows_17 rfl rfl ?_
  refine g_ldcS (pc := 18) hc 1 rfl rfl dX4_readRows_18 ?_
  refine g_callVv (pc := 20) (rest := []) (As := [.ref (E.2.2.2 1)]) hc (c_X4_expect l E ad hA (va_up (va_up (va_up (va_up sc 8 (nI (enT (ar 30) tL (nI 0) (nI 7) (exT (ar 30) tL 0 q)).1)) 9 (nI (enT (ar 30) tL (nI 0) (nI 7) (exT (ar 30) tL 0 q)).2.1)) 10 (enT (ar 30) tL (nI 0) (nI 7) (exT (ar 30) tL 0 q)).2.2) 11 (enV (ar 30) (nI 0) (nI 7) (exT (ar 30) tL 0 q))) ar bl (enT (ar 30) tL (nI 0) (nI 7) (exT (ar 30) tL 0 q)) 1 hT hT60 rfl rfl rfl (enT_ok (exT_ok hq)) (by decide)) mi_X4_expect tw_776 9 rfl rfl rfl rfl ⟨rfl, rfl, by decide, by decide⟩ (Nat.le_of_ble_eq_true rfl) ⟨Nat.le_refl _, Nat.le_refl _⟩ rfl dX4_readRows_20 ?_
  refine g_eq (ws' := cw E ad (va_up (va_up (va_up (va_up sc 11 (enV (ar 30) (nI 0) (nI 7) (exT (ar 30) tL 0 q))) 8 (nI (exT (ar 30) tL 1 (enT (ar 30) tL (nI 0) (nI 7) (exT (ar 30) tL 0 q))).1)) 9 (nI (exT (ar 30) tL 1 (enT (ar 30) tL (nI 0) (nI 7) (exT (ar 30) tL 0 q))).2.1)) 10 (exT (ar 30) tL 1 (enT (ar 30) tL (nI 0) (nI 7) (exT (ar 30) tL 0 q))).2.2) ar bl) (lv' := [(0, .ref (ad 9))]) (rfl) rfl rfl ?_
  refine g_aload_n (pc := 23) hc 0 dX4_readRows_23 rfl rfl ?_
  refine g_aload_n (pc := 24) hc 0 dX4_readRows_24 rfl rfl ?_
  refine g_aload_n (pc := 25) hc 0 dX4_readRows_25 rfl rfl ?_
  refine gf_c9_firstRow (pc := 26) hc tw_231 dX4_readRows_26 ?_
  refine g_topi (v := enV (ar 30) (nI 0) (nI 7) (exT (ar 30) tL 0 q)) rfl ?_
  refine g_bipush (pc := 29) (v := nI 7) hc dX4_readRows_29 (by decide) ?_
  refine g_callVi (pc := 31) (rest := [.ref (ad 9)]) (As := [.int (enV (ar 30) (nI 0) (nI 7) (exT (ar 30) tL 0 q)), .int (nI 7)]) hc (c_X4_expectNumber l E ad hA (va_up (va_up (va_up (va_up sc 11 (enV (ar 30) (nI 0) (nI 7) (exT (ar 30) tL 0 q))) 8 (nI (exT (ar 30) tL 1 (enT (ar 30) tL (nI 0) (nI 7) (exT (ar 30) tL 0 q))).1)) 9 (nI (exT (ar 30) tL 1 (enT (ar 30) tL (nI 0) (nI 7) (exT (ar 30) tL 0 q))).2.1)) 10 (exT (ar 30) tL 1 (enT (ar 30) tL (nI 0) (nI 7) (exT (ar 30) tL 0 q))).2.2) ar bl (exT (ar 30) tL 1 (enT (ar 30) tL (nI 0) (nI 7) (exT (ar 30) tL 0 q))) (enV (ar 30) (nI 0) (nI 7) (exT (ar 30) tL 0 q)) (nI 7) hT hT60 rfl rfl rfl (exT_ok (enT_ok (exT_ok hq)))) mi_X4_expectNumber tw_840 9 rfl rfl rfl rfl ⟨rfl, rfl, by decide, by decide⟩ (Nat.le_of_ble_eq_true rfl) ⟨Nat.le_refl _, Nat.le_refl _⟩ rfl dX4_readRows_31 ?_
  refine g_topi (v := enV (ar 30) (enV (ar 30) (nI 0) (nI 7) (exT (ar 30) tL 0 q)) (nI 7) (exT (ar 30) tL 1 (enT (ar 30) tL (nI 0) (nI 7) (exT (ar 30) tL 0 q)))) rfl ?_
  refine g_eq (ws' := cw E ad (va_up (va_up (va_up (va_up sc 11 (enV (ar 30) (nI 0) (nI 7) (exT (ar 30) tL 0 q))) 8 (nI (enT (ar 30) tL (enV (ar 30) (nI 0) (nI 7) (exT (ar 30) tL 0 q)) (nI 7) (exT (ar 30) tL 1 (enT (ar 30) tL (nI 0) (nI 7) (exT (ar 30) tL 0 q)))).1)) 9 (nI (enT (ar 30) tL (enV (ar 30) (nI 0) (nI 7) (exT (ar 30) tL 0 q)) (nI 7) (exT (ar 30) tL 1 (enT (ar 30) tL (nI 0) (nI 7) (exT (ar 30) tL 0 q)))).2.1)) 10 (enT (ar 30) tL (enV (ar 30) (nI 0) (nI 7) (exT (ar 30) tL 0 q)) (nI 7) (exT (ar 30) tL 1 (enT (ar 30) tL (nI 0) (nI 7) (exT (ar 30) tL 0 q)))).2.2) ar bl) (lv' := [(0, .ref (ad 9))]) (rfl) rfl rfl ?_
  refine pf_c9_lastRow (pc := 34) hc hA tw_232 dX4_readRows_34 ?_
  exact g_vret (pc := 37) hc dX4_readRows_37 rfl (rfl)

theorem dX4_readDays_0 : decode cX4_readDays 0 = .ok (.aload_n 0, 1) := by decide +kernel
theorem dX4_readDays_1 : decode cX4_readDays 1 = .ok (.iconst 0, 1) := by decide +kernel
theorem dX4_readDays_2 : decode cX4_readDays 2 = .ok (.putfield 52, 3) := by decide +kernel
theorem dX4_readDays_5 : decode cX4_readDays 5 = .ok (.aload_n 0, 1) := by decide +kernel
theorem dX4_readDays_6 : decode cX4_readDays 6 = .ok (.sipush 400, 3) := by decide +kernel
theorem dX4_readDays_9 : decode cX4_readDays 9 = .ok (.putfield 55, 3) := by decide +kernel
theorem dX4_readDays_12 : decode cX4_readDays 12 = .ok (.aload_n 0, 1) := by decide +kernel
theorem dX4_readDays_13 : decode cX4_readDays 13 = .ok (.invokevirtual 73, 3) := by decide +kernel
theorem dX4_readDays_16 : decode cX4_readDays 16 = .ok (.ifCond .eq 49, 3) := by decide +kernel
theorem dX4_readDays_19 : decode cX4_readDays 19 = .ok (.aload_n 0, 1) := by decide +kernel
theorem dX4_readDays_20 : decode cX4_readDays 20 = .ok (.ldc 77, 2) := by decide +kernel
theorem dX4_readDays_22 : decode cX4_readDays 22 = .ok (.invokevirtual 79, 3) := by decide +kernel
theorem dX4_readDays_25 : decode cX4_readDays 25 = .ok (.ifCond .eq 40, 3) := by decide +kernel
theorem dX4_readDays_28 : decode cX4_readDays 28 = .ok (.aload_n 0, 1) := by decide +kernel
theorem dX4_readDays_29 : decode cX4_readDays 29 = .ok (.invokevirtual 22, 3) := by decide +kernel
theorem dX4_readDays_32 : decode cX4_readDays 32 = .ok (.aload_n 0, 1) := by decide +kernel
theorem dX4_readDays_33 : decode cX4_readDays 33 = .ok (.aload_n 0, 1) := by decide +kernel
theorem dX4_readDays_34 : decode cX4_readDays 34 = .ok (.iconst 0, 1) := by decide +kernel
theorem dX4_readDays_35 : decode cX4_readDays 35 = .ok (.sipush 400, 3) := by decide +kernel
theorem dX4_readDays_38 : decode cX4_readDays 38 = .ok (.invokevirtual 67, 3) := by decide +kernel
theorem dX4_readDays_41 : decode cX4_readDays 41 = .ok (.putfield 52, 3) := by decide +kernel
theorem dX4_readDays_44 : decode cX4_readDays 44 = .ok (.aload_n 0, 1) := by decide +kernel
theorem dX4_readDays_45 : decode cX4_readDays 45 = .ok (.ldc 71, 2) := by decide +kernel
theorem dX4_readDays_47 : decode cX4_readDays 47 = .ok (.invokevirtual 63, 3) := by decide +kernel
theorem dX4_readDays_50 : decode cX4_readDays 50 = .ok (.aload_n 0, 1) := by decide +kernel
theorem dX4_readDays_51 : decode cX4_readDays 51 = .ok (.aload_n 0, 1) := by decide +kernel
theorem dX4_readDays_52 : decode cX4_readDays 52 = .ok (.aload_n 0, 1) := by decide +kernel
theorem dX4_readDays_53 : decode cX4_readDays 53 = .ok (.getfield 52, 3) := by decide +kernel
theorem dX4_readDays_56 : decode cX4_readDays 56 = .ok (.sipush 400, 3) := by decide +kernel
theorem dX4_readDays_59 : decode cX4_readDays 59 = .ok (.invokevirtual 67, 3) := by decide +kernel
theorem dX4_readDays_62 : decode cX4_readDays 62 = .ok (.putfield 55, 3) := by decide +kernel
theorem dX4_readDays_65 : decode cX4_readDays 65 = .ok (.return_, 1) := by decide +kernel

set_option maxHeartbeats 4000000 in
set_option maxRecDepth 100000 in
theorem c_X4_readDays (l : Launch) (E : Ev) {A : Nat → Prop} (ad : Nat → Nat) (hA : Oka 39 ad A) (sc : Nat → Int32) (ar : Nat → Nat → Int32) (bl : Int64) {tL : Nat} (q : Rq)  (hT : sc 7 = nI tL) (hT60 : tL ≤ 60) (h8 : sc 8 = nI q.1) (h9 : sc 9 = nI q.2.1) (h10 : sc 10 = q.2.2) (hq : rdok tL q) : Ct l E yX4_readDays (.code yX4_readDays cX4_readDays 1 none) ({ frames := 7, cells := 0, slots := 0, locals := 149 }) A (cw E ad sc ar bl) [.ref (ad 9)] (none) (cw E ad (va_up (va_up (va_up (va_up (va_up sc 13 (dyA (ar 30) tL q)) 14 (dyB (ar 30) tL q)) 8 (nI (dyT (ar 30) tL q).1)) 9 (nI (dyT (ar 30) tL q).2.1)) 10 (dyT (ar 30) tL q).2.2) ar bl) := by
  refine Ct.of (lv := [(0, .ref (ad 9))]) (by decide +kernel) (Nat.le_of_ble_eq_true rfl) rfl ?_
  intro zp ze zs zm za zb zh zc hc
  refine g_aload_n (pc := 0) hc 0 dX4_readDays_0 rfl rfl ?_
  refine g_iconst (pc := 1) (v := nI 0) hc dX4_readDays_1 (by decide) ?_
  refine pf_c9_firstDay (pc := 2) hc hA tw_233 dX4_readDays_2 ?_
  refine g_aload_n (pc := 5) hc 0 dX4_readDays_5 rfl rfl ?_
  refine g_sipush (pc := 6) (v := nI 400) hc dX4_readDays_6 (by decide) ?_
  refine pf_c9_lastDay (pc := 9) hc hA tw_234 dX4_readDays_9 ?_
  refine g_aload_n (pc := 12) hc 0 dX4_readDays_12 rfl rfl ?_
  refine g_callVi (pc := 13) (rest := []) (As := []) hc (c_X4_isSound l E ad hA (va_up (va_up sc 13 (nI 0)) 14 (nI 400)) ar bl q  hT hT60 h8 h9 h10 (hq)) mi_X4_isSound tw_780 9 rfl rfl rfl rfl ⟨rfl, rfl, by decide, by decide⟩ (Nat.le_of_ble_eq_true rfl) ⟨Nat.le_refl _, Nat.le_refl _⟩ rfl dX4_readDays_13 ?_
  refine g_topi (v := bI (snd q)) rfl ?_
  refine g_if_eq_b (pc := 16) hc 65 dX4_readDays_16 (by decide) (fun c1 => ?_) (fun c1 => ?_)
  · exact g_vret (pc := 65) hc dX4_readDays_65 rfl (by rw [dyT, if_neg (ne_true_of_eq_false (by rw [dyO, if_neg (ne_true_of_eq_false c1)])), dyA, if_neg (ne_true_of_eq_false (by rw [dyO, if_neg (ne_true_of_eq_false c1)])), dyB, if_neg (ne_true_of_eq_false (by rw [dyO, if_neg (ne_true_of_eq_false c1)])), ← h8, ← h9, ← h10]; rfl)
  · refine g_aload_n (pc := 19) hc 0 dX4_readDays_19 rfl rfl ?_
    refine g_ldcS (pc := 20) hc 2 rfl rfl dX4_readDays_20 ?_
    refine g_callVi (pc := 22) (rest := []) (As := [.ref (E.2.2.2 2)]) hc (c_X4_isAt l E ad hA (va_up (va_up sc 13 (nI 0)) 14 (nI 400)) ar bl q 2 hT hT60 h8 h9 h10 (hq) (by decide)) mi_X4_isAt tw_784 9 rfl rfl rfl rfl ⟨rfl, rfl, by decide, by decide⟩ (Nat.le_of_ble_eq_true rfl) ⟨Nat.le_refl _, Nat.le_refl _⟩ rfl dX4_readDays_22 ?_
    refine g_topi (v := bI (wat (ar 30) q 2)) rfl ?_
    refine g_if_eq_b (pc := 25) hc 65 dX4_readDays_25 (by decide) (fun c2 => ?_) (fun c2 => ?_)
    · exact g_vret (pc := 65) hc dX4_readDays_65 rfl (by rw [dyT, if_neg (ne_true_of_eq_false (by rw [dyO, if_pos c1]; exact c2)), dyA, if_neg (ne_true_of_eq_false (by rw [dyO, if_pos c1]; exact c2)), dyB, if_neg (ne_true_of_eq_false (by rw [dyO, if_pos c1]; exact c2)), ← h8, ← h9, ← h10]; rfl)
    · refine g_aload_n (pc := 28) hc 0 dX4_readDays_28 rfl rfl ?_
      refine g_callVv (pc := 29) (rest := []) (As := []) hc (c_X4_goOn l E ad hA (va_up (va_up sc 13 (nI 0)) 14 (nI 400)) ar bl q hT hT60 h9 h10 (hq.2)) mi_X4_goOn tw_762 9 rfl rfl rfl rfl ⟨rfl, rfl, by decide, by decide⟩ (Nat.le_of_ble_eq_true rfl) ⟨Nat.le_refl _, Nat.le_refl _⟩ rfl dX4_readDays_29 ?_
      refine g_eq (ws' := cw E ad (va_up (va_up (va_up (va_up (va_up sc 13 (nI 0)) 14 (nI 400)) 8 (nI (goT (ar 30) tL q).1)) 9 (nI (goT (ar 30) tL q).2.1)) 10 (goT (ar 30) tL q).2.2) ar bl) (lv' := [(0, .ref (ad 9))]) (rfl) rfl rfl ?_
      refine g_aload_n (pc := 32) hc 0 dX4_readDays_32 rfl rfl ?_
      refine g_aload_n (pc := 33) hc 0 dX4_readDays_33 rfl rfl ?_
      refine g_iconst (pc := 34) (v := nI 0) hc dX4_readDays_34 (by decide) ?_
      refine g_sipush (pc := 35) (v := nI 400) hc dX4_readDays_35 (by decide) ?_
      refine g_callVi (pc := 38) (rest := [.ref (ad 9)]) (As := [.int (nI 0), .int (nI 400)]) hc (c_X4_expectNumber l E ad hA (va_up (va_up (va_up (va_up (va_up sc 13 (nI 0)) 14 (nI 400)) 8 (nI (goT (ar 30) tL q).1)) 9 (nI (goT (ar 30) tL q).2.1)) 10 (goT (ar 30) tL q).2.2) ar bl (goT (ar 30) tL q) (nI 0) (nI 400) hT hT60 rfl rfl rfl (goT_ok hq)) mi_X4_expectNumber tw_840 9 rfl rfl rfl rfl ⟨rfl, rfl, by decide, by decide⟩ (Nat.le_of_ble_eq_true rfl) ⟨Nat.le_refl _, Nat.le_refl _⟩ rfl dX4_readDays_38 ?_
      refine g_topi (v := enV (ar 30) (nI 0) (nI 400) (goT (ar 30) tL q)) rfl ?_
      refine g_eq (ws' := cw E ad (va_up (va_up (va_up (va_up (va_up sc 13 (nI 0)) 14 (nI 400)) 8 (nI (enT (ar 30) tL (nI 0) (nI 400) (goT (ar 30) tL q)).1)) 9 (nI (enT (ar 30) tL (nI 0) (nI 400) (goT (ar 30) tL q)).2.1)) 10 (enT (ar 30) tL (nI 0) (nI 400) (goT (ar 30) tL q)).2.2) ar bl) (lv' := [(0, .ref (ad 9))]) (rfl) rfl rfl ?_
      refine pf_c9_firstDay (pc := 41) hc hA tw_233 dX4_readDays_41 ?_
      refine g_eq (ws' := cw E ad (va_up (va_up (va_up (va_up (va_up sc 14 (nI 400)) 8 (nI (enT (ar 30) tL (nI 0) (nI 400) (goT (ar 30) tL q)).1)) 9 (nI (enT (ar 30) tL (nI 0) (nI 400) (goT (ar 30) tL q)).2.1)) 10 (enT (ar 30) tL (nI 0) (nI 400) (goT (ar 30) tL q)).2.2) 13 (enV (ar 30) (nI 0) (nI 400) (goT (ar 30) tL q))) ar bl) (lv' := [(0, .ref (ad 9))]) rfl rfl rfl ?_
      refine g_aload_n (pc := 44) hc 0 dX4_readDays_44 rfl rfl ?_
      refine g_ldcS (pc := 45) hc 1 rfl rfl dX4_readDays_45 ?_
      refine g_callVv (pc := 47) (rest := []) (As := [.ref (E.2.2.2 1)]) hc (c_X4_expect l E ad hA (va_up (va_up (va_up (va_up (va_up sc 14 (nI 400)) 8 (nI (enT (ar 30) tL (nI 0) (nI 400) (goT (ar 30) tL q)).1)) 9 (nI (enT (ar 30) tL (nI 0) (nI 400) (goT (ar 30) tL q)).2.1)) 10 (enT (ar 30) tL (nI 0) (nI 400) (goT (ar 30) tL q)).2.2) 13 (enV (ar 30) (nI 0) (nI 400) (goT (ar 30) tL q))) ar bl (enT (ar 30) tL (nI 0) (nI 400) (goT (ar 30) tL q)) 1 hT hT60 rfl rfl rfl (enT_ok (goT_ok hq)) (by decide)) mi_X4_expect tw_776 9 rfl rfl rfl rfl ⟨rfl, rfl, by decide, by decide⟩ (Nat.le_of_ble_eq_true rfl) ⟨Nat.le_refl _, Nat.le_refl _⟩ rfl dX4_readDays_47 ?_
      refine g_eq (ws' := cw E ad (va_up (va_up (va_up (va_up (va_up sc 14 (nI 400)) 13 (enV (ar 30) (nI 0) (nI 400) (goT (ar 30) tL q))) 8 (nI (exT (ar 30) tL 1 (enT (ar 30) tL (nI 0) (nI 400) (goT (ar 30) tL q))).1)) 9 (nI (exT (ar 30) tL 1 (enT (ar 30) tL (nI 0) (nI 400) (goT (ar 30) tL q))).2.1)) 10 (exT (ar 30) tL 1 (enT (ar 30) tL (nI 0) (nI 400) (goT (ar 30) tL q))).2.2) ar bl) (lv' := [(0, .ref (ad 9))]) (rfl) rfl rfl ?_
      refine g_aload_n (pc := 50) hc 0 dX4_readDays_50 rfl rfl ?_
      refine g_aload_n (pc := 51) hc 0 dX4_readDays_51 rfl rfl ?_
      refine g_aload_n (pc := 52) hc 0 dX4_readDays_52 rfl rfl ?_
      refine gf_c9_firstDay (pc := 53) hc tw_233 dX4_readDays_53 ?_
      refine g_topi (v := enV (ar 30) (nI 0) (nI 400) (goT (ar 30) tL q)) rfl ?_
      refine g_sipush (pc := 56) (v := nI 400) hc dX4_readDays_56 (by decide) ?_
      refine g_callVi (pc := 59) (rest := [.ref (ad 9)]) (As := [.int (enV (ar 30) (nI 0) (nI 400) (goT (ar 30) tL q)), .int (nI 400)]) hc (c_X4_expectNumber l E ad hA (va_up (va_up (va_up (va_up (va_up sc 14 (nI 400)) 13 (enV (ar 30) (nI 0) (nI 400) (goT (ar 30) tL q))) 8 (nI (exT (ar 30) tL 1 (enT (ar 30) tL (nI 0) (nI 400) (goT (ar 30) tL q))).1)) 9 (nI (exT (ar 30) tL 1 (enT (ar 30) tL (nI 0) (nI 400) (goT (ar 30) tL q))).2.1)) 10 (exT (ar 30) tL 1 (enT (ar 30) tL (nI 0) (nI 400) (goT (ar 30) tL q))).2.2) ar bl (exT (ar 30) tL 1 (enT (ar 30) tL (nI 0) (nI 400) (goT (ar 30) tL q))) (enV (ar 30) (nI 0) (nI 400) (goT (ar 30) tL q)) (nI 400) hT hT60 rfl rfl rfl (exT_ok (enT_ok (goT_ok hq)))) mi_X4_expectNumber tw_840 9 rfl rfl rfl rfl ⟨rfl, rfl, by decide, by decide⟩ (Nat.le_of_ble_eq_true rfl) ⟨Nat.le_refl _, Nat.le_refl _⟩ rfl dX4_readDays_59 ?_
      refine g_topi (v := enV (ar 30) (enV (ar 30) (nI 0) (nI 400) (goT (ar 30) tL q)) (nI 400) (exT (ar 30) tL 1 (enT (ar 30) tL (nI 0) (nI 400) (goT (ar 30) tL q)))) rfl ?_
      refine g_eq (ws' := cw E ad (va_up (va_up (va_up (va_up (va_up sc 14 (nI 400)) 13 (enV (ar 30) (nI 0) (nI 400) (goT (ar 30) tL q))) 8 (nI (enT (ar 30) tL (enV (ar 30) (nI 0) (nI 400) (goT (ar 30) tL q)) (nI 400) (exT (ar 30) tL 1 (enT (ar 30) tL (nI 0) (nI 400) (goT (ar 30) tL q)))).1)) 9 (nI (enT (ar 30) tL (enV (ar 30) (nI 0) (nI 400) (goT (ar 30) tL q)) (nI 400) (exT (ar 30) tL 1 (enT (ar 30) tL (nI 0) (nI 400) (goT (ar 30) tL q)))).2.1)) 10 (enT (ar 30) tL (enV (ar 30) (nI 0) (nI 400) (goT (ar 30) tL q)) (nI 400) (exT (ar 30) tL 1 (enT (ar 30) tL (nI 0) (nI 400) (goT (ar 30) tL q)))).2.2) ar bl) (lv' := [(0, .ref (ad 9))]) (rfl) rfl rfl ?_
      refine pf_c9_lastDay (pc := 62) hc hA tw_234 dX4_readDays_62 ?_
      refine g_eq (ws' := cw E ad (va_up (va_up (va_up (va_up (va_up sc 13 (enV (ar 30) (nI 0) (nI 400) (goT (ar 30) tL q))) 8 (nI (enT (ar 30) tL (enV (ar 30) (nI 0) (nI 400) (goT (ar 30) tL q)) (nI 400) (exT (ar 30) tL 1 (enT (ar 30) tL (nI 0) (nI 400) (goT (ar 30) tL q)))).1)) 9 (nI (enT (ar 30) tL (enV (ar 30) (nI 0) (nI 400) (goT (ar 30) tL q)) (nI 400) (exT (ar 30) tL 1 (enT (ar 30) tL (nI 0) (nI 400) (goT (ar 30) tL q)))).2.1)) 10 (enT (ar 30) tL (enV (ar 30) (nI 0) (nI 400) (goT (ar 30) tL q)) (nI 400) (exT (ar 30) tL 1 (enT (ar 30) tL (nI 0) (nI 400) (goT (ar 30) tL q)))).2.2) 14 (enV (ar 30) (enV (ar 30) (nI 0) (nI 400) (goT (ar 30) tL q)) (nI 400) (exT (ar 30) tL 1 (enT (ar 30) tL (nI 0) (nI 400) (goT (ar 30) tL q))))) ar bl) (lv' := [(0, .ref (ad 9))]) rfl rfl rfl ?_
      exact g_vret (pc := 65) hc dX4_readDays_65 rfl (by rw [dyT, if_pos (by rw [dyO, if_pos c1]; exact c2), dyA, if_pos (by rw [dyO, if_pos c1]; exact c2), dyB, if_pos (by rw [dyO, if_pos c1]; exact c2)]; rfl)
