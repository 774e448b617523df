theorem dX4_readBarred_0 : decode cX4_readBarred 0 = .ok (.aload_n 0, 1) := by decide +kernel
theorem dX4_readBarred_1 : decode cX4_readBarred 1 = .ok (.iconst 0, 1) := by decide +kernel
theorem dX4_readBarred_2 : decode cX4_readBarred 2 = .ok (.putfield 58, 3) := by decide +kernel
theorem dX4_readBarred_5 : decode cX4_readBarred 5 = .ok (.aload_n 0, 1) := by decide +kernel
theorem dX4_readBarred_6 : decode cX4_readBarred 6 = .ok (.invokevirtual 73, 3) := by decide +kernel
theorem dX4_readBarred_9 : decode cX4_readBarred 9 = .ok (.ifCond .eq 90, 3) := by decide +kernel
theorem dX4_readBarred_12 : decode cX4_readBarred 12 = .ok (.aload_n 0, 1) := by decide +kernel
theorem dX4_readBarred_13 : decode cX4_readBarred 13 = .ok (.ldc 83, 2) := by decide +kernel
theorem dX4_readBarred_15 : decode cX4_readBarred 15 = .ok (.invokevirtual 79, 3) := by decide +kernel
theorem dX4_readBarred_18 : decode cX4_readBarred 18 = .ok (.ifCond .eq 81, 3) := by decide +kernel
theorem dX4_readBarred_21 : decode cX4_readBarred 21 = .ok (.aload_n 0, 1) := by decide +kernel
theorem dX4_readBarred_22 : decode cX4_readBarred 22 = .ok (.invokevirtual 22, 3) := by decide +kernel
theorem dX4_readBarred_25 : decode cX4_readBarred 25 = .ok (.aload_n 0, 1) := by decide +kernel
theorem dX4_readBarred_26 : decode cX4_readBarred 26 = .ok (.ldc 85, 2) := by decide +kernel
theorem dX4_readBarred_28 : decode cX4_readBarred 28 = .ok (.invokevirtual 63, 3) := by decide +kernel
theorem dX4_readBarred_31 : decode cX4_readBarred 31 = .ok (.aload_n 0, 1) := by decide +kernel
theorem dX4_readBarred_32 : decode cX4_readBarred 32 = .ok (.iconst 0, 1) := by decide +kernel
theorem dX4_readBarred_33 : decode cX4_readBarred 33 = .ok (.iconst 4, 1) := by decide +kernel
theorem dX4_readBarred_34 : decode cX4_readBarred 34 = .ok (.invokevirtual 67, 3) := by decide +kernel
theorem dX4_readBarred_37 : decode cX4_readBarred 37 = .ok (.istore_n 1, 1) := by decide +kernel
theorem dX4_readBarred_38 : decode cX4_readBarred 38 = .ok (.aload_n 0, 1) := by decide +kernel
theorem dX4_readBarred_39 : decode cX4_readBarred 39 = .ok (.iconst 1, 1) := by decide +kernel
theorem dX4_readBarred_40 : decode cX4_readBarred 40 = .ok (.iload_n 1, 1) := by decide +kernel
theorem dX4_readBarred_41 : decode cX4_readBarred 41 = .ok (.ishl, 1) := by decide +kernel
theorem dX4_readBarred_42 : decode cX4_readBarred 42 = .ok (.putfield 58, 3) := by decide +kernel
theorem dX4_readBarred_45 : decode cX4_readBarred 45 = .ok (.iconst 1, 1) := by decide +kernel
theorem dX4_readBarred_46 : decode cX4_readBarred 46 = .ok (.istore_n 2, 1) := by decide +kernel
theorem dX4_readBarred_47 : decode cX4_readBarred 47 = .ok (.iload_n 2, 1) := by decide +kernel
theorem dX4_readBarred_48 : decode cX4_readBarred 48 = .ok (.iconst 5, 1) := by decide +kernel
theorem dX4_readBarred_49 : decode cX4_readBarred 49 = .ok (.if_icmp .gt 50, 3) := by decide +kernel
theorem dX4_readBarred_52 : decode cX4_readBarred 52 = .ok (.aload_n 0, 1) := by decide +kernel
theorem dX4_readBarred_53 : decode cX4_readBarred 53 = .ok (.invokevirtual 73, 3) := by decide +kernel
theorem dX4_readBarred_56 : decode cX4_readBarred 56 = .ok (.ifCond .eq 43, 3) := by decide +kernel
theorem dX4_readBarred_59 : decode cX4_readBarred 59 = .ok (.aload_n 0, 1) := by decide +kernel
theorem dX4_readBarred_60 : decode cX4_readBarred 60 = .ok (.ldc 87, 2) := by decide +kernel
theorem dX4_readBarred_62 : decode cX4_readBarred 62 = .ok (.invokevirtual 79, 3) := by decide +kernel
theorem dX4_readBarred_65 : decode cX4_readBarred 65 = .ok (.ifCond .eq 34, 3) := by decide +kernel
theorem dX4_readBarred_68 : decode cX4_readBarred 68 = .ok (.aload_n 0, 1) := by decide +kernel
theorem dX4_readBarred_69 : decode cX4_readBarred 69 = .ok (.invokevirtual 22, 3) := by decide +kernel
theorem dX4_readBarred_72 : decode cX4_readBarred 72 = .ok (.aload_n 0, 1) := by decide +kernel
theorem dX4_readBarred_73 : decode cX4_readBarred 73 = .ok (.iload_n 1, 1) := by decide +kernel
theorem dX4_readBarred_74 : decode cX4_readBarred 74 = .ok (.iconst 1, 1) := by decide +kernel
theorem dX4_readBarred_75 : decode cX4_readBarred 75 = .ok (.iadd, 1) := by decide +kernel
theorem dX4_readBarred_76 : decode cX4_readBarred 76 = .ok (.iconst 4, 1) := by decide +kernel
theorem dX4_readBarred_77 : decode cX4_readBarred 77 = .ok (.invokevirtual 67, 3) := by decide +kernel
theorem dX4_readBarred_80 : decode cX4_readBarred 80 = .ok (.istore_n 1, 1) := by decide +kernel
theorem dX4_readBarred_81 : decode cX4_readBarred 81 = .ok (.aload_n 0, 1) := by decide +kernel
theorem dX4_readBarred_82 : decode cX4_readBarred 82 = .ok (.dup, 1) := by decide +kernel
theorem dX4_readBarred_83 : decode cX4_readBarred 83 = .ok (.getfield 58, 3) := by decide +kernel
theorem dX4_readBarred_86 : decode cX4_readBarred 86 = .ok (.iconst 1, 1) := by decide +kernel
theorem dX4_readBarred_87 : decode cX4_readBarred 87 = .ok (.iload_n 1, 1) := by decide +kernel
theorem dX4_readBarred_88 : decode cX4_readBarred 88 = .ok (.ishl, 1) := by decide +kernel
theorem dX4_readBarred_89 : decode cX4_readBarred 89 = .ok (.ior, 1) := by decide +kernel
theorem dX4_readBarred_90 : decode cX4_readBarred 90 = .ok (.putfield 58, 3) := by decide +kernel
theorem dX4_readBarred_93 : decode cX4_readBarred 93 = .ok (.iinc 2 1, 3) := by decide +kernel
theorem dX4_readBarred_96 : decode cX4_readBarred 96 = .ok (.goto (-49), 3) := by decide +kernel
theorem dX4_readBarred_99 : decode cX4_readBarred 99 = .ok (.return_, 1) := by decide +kernel

set_option maxHeartbeats 4000000 in
set_option maxRecDepth 100000 in
theorem c_X4_readBarred (l : Launch) (E : Ev) {A : Nat → Prop} (ad : Nat → Nat) (hA : Oka 39 ad A) (sc : Nat → Int32) (ar : Nat → Nat → Int32) (bl : Int64) {tL : Nat} (q : Rq)  (hT : sc 7 = nI tL) (hT60 : tL ≤ 60) (h8 : sc 8 = nI q.1) (h9 : sc 9 = nI q.2.1) (h10 : sc 10 = q.2.2) (hq : rdok tL q) : Ct l E yX4_readBarred (.code yX4_readBarred cX4_readBarred 3 none) ({ frames := 7, cells := 0, slots := 0, locals := 149 }) A (cw E ad sc ar bl) [.ref (ad 9)] (none) (cw E ad (va_up (va_up (va_up (va_up sc 15 (bwB (ar 30) tL q)) 8 (nI (bwT (ar 30) tL q).1)) 9 (nI (bwT (ar 30) tL q).2.1)) 10 (bwT (ar 30) tL q).2.2) ar bl) := by
  refine Ct.of (lv := [(0, .ref (ad 9))]) (by decide +kernel) (Nat.le_of_ble_eq_true rfl) rfl ?_
  intro zp ze zs zm za zb zh zc hc
  refine g_aload_n (pc := 0) hc 0 dX4_readBarred_0 rfl rfl ?_
  refine g_iconst (pc := 1) (v := nI 0) hc dX4_readBarred_1 (by decide) ?_
  refine pf_c9_barred (pc := 2) hc hA tw_235 dX4_readBarred_2 ?_
  refine g_aload_n (pc := 5) hc 0 dX4_readBarred_5 rfl rfl ?_
  refine g_callVi (pc := 6) (rest := []) (As := []) hc (c_X4_isSound l E ad hA (va_up sc 15 (nI 0)) ar bl q  hT hT60 h8 h9 h10 (hq)) mi_X4_isSound tw_780 9 rfl rfl rfl rfl ⟨rfl, rfl, by decide, by decide⟩ (Nat.le_of_ble_eq_true rfl) ⟨Nat.le_refl _, Nat.le_refl _⟩ rfl dX4_readBarred_6 ?_
  refine g_topi (v := bI (snd q)) rfl ?_
  refine g_if_eq_b (pc := 9) hc 99 dX4_readBarred_9 (by decide) (fun c1 => ?_) (fun c1 => ?_)
  · exact g_vret (pc := 99) hc dX4_readBarred_99 rfl (by rw [bwT, if_neg (ne_true_of_eq_false (by rw [dyO, if_neg (ne_true_of_eq_false c1)])), bwB, if_neg (ne_true_of_eq_false (by rw [dyO, if_neg (ne_true_of_eq_false c1)])), ← h8, ← h9, ← h10]; rfl)
  · refine g_aload_n (pc := 12) hc 0 dX4_readBarred_12 rfl rfl ?_
    refine g_ldcS (pc := 13) hc 3 rfl rfl dX4_readBarred_13 ?_
    refine g_callVi (pc := 15) (rest := []) (As := [.ref (E.2.2.2 3)]) hc (c_X4_isAt l E ad hA (va_up sc 15 (nI 0)) ar bl q 3 hT hT60 h8 h9 h10 (hq) (by decide)) mi_X4_isAt tw_784 9 rfl rfl rfl rfl ⟨rfl, rfl, by decide, by decide⟩ (Nat.le_of_ble_eq_true rfl) ⟨Nat.le_refl _, Nat.le_refl _⟩ rfl dX4_readBarred_15 ?_
    refine g_topi (v := bI (wat (ar 30) q 3)) rfl ?_
    refine g_if_eq_b (pc := 18) hc 99 dX4_readBarred_18 (by decide) (fun c2 => ?_) (fun c2 => ?_)
    · exact g_vret (pc := 99) hc dX4_readBarred_99 rfl (by rw [bwT, if_neg (ne_true_of_eq_false (by rw [dyO, if_pos c1]; exact c2)), bwB, if_neg (ne_true_of_eq_false (by rw [dyO, if_pos c1]; exact c2)), ← h8, ← h9, ← h10]; rfl)
    · have hO : dyO (ar 30) 3 q = true := by rw [dyO, if_pos c1]; exact c2
      refine g_aload_n (pc := 21) hc 0 dX4_readBarred_21 rfl rfl ?_
      refine g_callVv (pc := 22) (rest := []) (As := []) hc (c_X4_goOn l E ad hA (va_up sc 15 (nI 0)) ar bl q hT hT60 h9 h10 (hq.2)) mi_X4_goOn tw_762 9 rfl rfl rfl rfl ⟨rfl, rfl, by decide, by decide⟩ (Nat.le_of_ble_eq_true rfl) ⟨Nat.le_refl _, Nat.le_refl _⟩ rfl dX4_readBarred_22 ?_
      refine g_eq (ws' := cw E ad (va_up (va_up (va_up (va_up sc 15 (nI 0)) 8 (nI (goT (ar 30) tL q).1)) 9 (nI (goT (ar 30) tL q).2.1)) 10 (goT (ar 30) tL q).2.2) ar bl) (lv' := [(0, .ref (ad 9))]) (rfl) rfl rfl ?_
      refine g_aload_n (pc := 25) hc 0 dX4_readBarred_25 rfl rfl ?_
      refine g_ldcS (pc := 26) hc 4 rfl rfl dX4_readBarred_26 ?_
      refine g_callVv (pc := 28) (rest := []) (As := [.ref (E.2.2.2 4)]) hc (c_X4_expect l E ad hA (va_up (va_up (va_up (va_up sc 15 (nI 0)) 8 (nI (goT (ar 30) tL q).1)) 9 (nI (goT (ar 30) tL q).2.1)) 10 (goT (ar 30) tL q).2.2) ar bl (goT (ar 30) tL q) 4 hT hT60 rfl rfl rfl (goT_ok hq) (by decide)) mi_X4_expect tw_776 9 rfl rfl rfl rfl ⟨rfl, rfl, by decide, by decide⟩ (Nat.le_of_ble_eq_true rfl) ⟨Nat.le_refl _, Nat.le_refl _⟩ rfl dX4_readBarred_28 ?_
      refine g_eq (ws' := cw E ad (va_up (va_up (va_up (va_up sc 15 (nI 0)) 8 (nI (exT (ar 30) tL 4 (goT (ar 30) tL q)).1)) 9 (nI (exT (ar 30) tL 4 (goT (ar 30) tL q)).2.1)) 10 (exT (ar 30) tL 4 (goT (ar 30) tL q)).2.2) ar bl) (lv' := [(0, .ref (ad 9))]) (rfl) rfl rfl ?_
      refine g_aload_n (pc := 31) hc 0 dX4_readBarred_31 rfl rfl ?_
      refine g_iconst (pc := 32) (v := nI 0) hc dX4_readBarred_32 (by decide) ?_
      refine g_iconst (pc := 33) (v := nI 4) hc dX4_readBarred_33 (by decide) ?_
      refine g_callVi (pc := 34) (rest := []) (As := [.int (nI 0), .int (nI 4)]) hc (c_X4_expectNumber l E ad hA (va_up (va_up (va_up (va_up sc 15 (nI 0)) 8 (nI (exT (ar 30) tL 4 (goT (ar 30) tL q)).1)) 9 (nI (exT (ar 30) tL 4 (goT (ar 30) tL q)).2.1)) 10 (exT (ar 30) tL 4 (goT (ar 30) tL q)).2.2) ar bl (exT (ar 30) tL 4 (goT (ar 30) tL q)) (nI 0) (nI 4) hT hT60 rfl rfl rfl (exT_ok (goT_ok hq))) mi_X4_expectNumber tw_840 9 rfl rfl rfl rfl ⟨rfl, rfl, by decide, by decide⟩ (Nat.le_of_ble_eq_true rfl) ⟨Nat.le_refl _, Nat.le_refl _⟩ rfl dX4_readBarred_34 ?_
      refine g_topi (v := enV (ar 30) (nI 0) (nI 4) (exT (ar 30) tL 4 (goT (ar 30) tL q))) rfl ?_
      refine g_eq (ws' := cw E ad (va_up (va_up (va_up (va_up sc 15 (nI 0)) 8 (nI (enT (ar 30) tL (nI 0) (nI 4) (exT (ar 30) tL 4 (goT (ar 30) tL q))).1)) 9 (nI (enT (ar 30) tL (nI 0) (nI 4) (exT (ar 30) tL 4 (goT (ar 30) tL q))).2.1)) 10 (enT (ar 30) tL (nI 0) (nI 4) (exT (ar 30) tL 4 (goT (ar 30) tL q))).2.2) ar bl) (lv' := [(0, .ref (ad 9))]) (rfl) rfl rfl ?_
      refine g_istore_n (pc := 37) (lv' := [(0, .ref (ad 9)), (1, .int (enV (ar 30) (nI 0) (nI 4) (exT (ar 30) tL 4 (goT (ar 30) tL q))))]) hc dX4_readBarred_37 rfl (by decide) rfl ?_
      refine g_aload_n (pc := 38) hc 0 dX4_readBarred_38 rfl rfl ?_
      refine g_iconst (pc := 39) (v := nI 1) hc dX4_readBarred_39 (by decide) ?_
      refine g_iload_n (pc := 40) hc 1 dX4_readBarred_40 rfl rfl ?_
      refine g_ishl (pc := 41) hc dX4_readBarred_41 ?_
      refine pf_c9_barred (pc := 42) hc hA tw_235 dX4_readBarred_42 ?_
      refine g_eq (ws' := cw E ad (va_up (va_up (va_up (va_up sc 8 (nI (enT (ar 30) tL (nI 0) (nI 4) (exT (ar 30) tL 4 (goT (ar 30) tL q))).1)) 9 (nI (enT (ar 30) tL (nI 0) (nI 4) (exT (ar 30) tL 4 (goT (ar 30) tL q))).2.1)) 10 (enT (ar 30) tL (nI 0) (nI 4) (exT (ar 30) tL 4 (goT (ar 30) tL q))).2.2) 15 ((nI 1) <<< ((enV (ar 30) (nI 0) (nI 4) (exT (ar 30) tL 4 (goT (ar 30) tL q))) &&& 31))) ar bl) (lv' := [(0, .ref (ad 9)), (1, .int (enV (ar 30) (nI 0) (nI 4) (exT (ar 30) tL 4 (goT (ar 30) tL q))))]) rfl rfl rfl ?_
      refine g_iconst (pc := 45) (v := nI 1) hc dX4_readBarred_45 (by decide) ?_
      refine g_istore_n (pc := 46) (lv' := [(0, .ref (ad 9)), (1, .int (enV (ar 30) (nI 0) (nI 4) (exT (ar 30) tL 4 (goT (ar 30) tL q)))), (2, .int (nI 1))]) hc dX4_readBarred_46 rfl (by decide) rfl ?_
      have L47_3 : ∀ (kt t : Nat), t + kt = 5 → G zp l ze ({ frames := 7, cells := 0, slots := 0, locals := 149 }) zs zm za zb zh zc 0 0 (MQ zb (Qz E A (none) (cw E ad (va_up (va_up (va_up (va_up sc 15 (bwB (ar 30) tL q)) 8 (nI (bwT (ar 30) tL q).1)) 9 (nI (bwT (ar 30) tL q).2.1)) 10 (bwT (ar 30) tL q).2.2) ar bl)) za zs 0 0 A) E A 3 (cw E ad (va_up (va_up (va_up (va_up sc 15 (bS (ar 30) tL (b0 (ar 30) tL q) (t)).2.1) 8 (nI (bS (ar 30) tL (b0 (ar 30) tL q) (t)).2.2.1)) 9 (nI (bS (ar 30) tL (b0 (ar 30) tL q) (t)).2.2.2.1)) 10 (bS (ar 30) tL (b0 (ar 30) tL q) (t)).2.2.2.2) ar bl) (47) [(0, .ref (ad 9)), (1, .int (bS (ar 30) tL (b0 (ar 30) tL q) (t)).1), (2, .int (nI (t + 1)))] [] := by
        intro kt
        induction kt with
        | zero =>
          intro t lht
          have lhtn : 5 = t := by omega
          subst lhtn
          refine g_iload_n (pc := 47) hc 2 dX4_readBarred_47 rfl rfl ?_
          refine g_iconst (pc := 48) (v := nI 5) hc dX4_readBarred_48 (by decide) ?_
          refine g_icmp_gt_t (pc := 49) hc 99 dX4_readBarred_49 (by decide) (nI_lt (by omega) (by omega)) ?_
          exact g_vret (pc := 99) hc dX4_readBarred_99 rfl (by rw [bwT, if_pos hO, bwB, if_pos hO])
        | succ kt iht =>
          intro t lht
          have lhtn : t < 5 := by omega
          refine g_iload_n (pc := 47) hc 2 dX4_readBarred_47 rfl rfl ?_
          refine g_iconst (pc := 48) (v := nI 5) hc dX4_readBarred_48 (by decide) ?_
          refine g_icmp_gt_f (pc := 49) hc 99 dX4_readBarred_49 (by decide) (nI_nlt (by omega) (by omega)) ?_
          refine g_aload_n (pc := 52) hc 0 dX4_readBarred_52 rfl rfl ?_
          refine g_callVi (pc := 53) (rest := []) (As := []) hc (c_X4_isSound l E ad hA (va_up (va_up (va_up (va_up sc 15 (bS (ar 30) tL (b0 (ar 30) tL q) (t)).2.1) 8 (nI (bS (ar 30) tL (b0 (ar 30) tL q) (t)).2.2.1)) 9 (nI (bS (ar 30) tL (b0 (ar 30) tL q) (t)).2.2.2.1)) 10 (bS (ar 30) tL (b0 (ar 30) tL q) (t)).2.2.2.2) ar bl (bS (ar 30) tL (b0 (ar 30) tL q) (t)).2.2  hT hT60 rfl rfl rfl (bS_ok (b0_ok hq) (t))) mi_X4_isSound tw_780 9 rfl rfl rfl rfl ⟨rfl, rfl, by decide, by decide⟩ (Nat.le_of_ble_eq_true rfl) ⟨Nat.le_refl _, Nat.le_refl _⟩ rfl dX4_readBarred_53 ?_
          refine g_topi (v := bI (snd (bS (ar 30) tL (b0 (ar 30) tL q) (t)).2.2)) rfl ?_
          refine g_if_eq_b (pc := 56) hc 99 dX4_readBarred_56 (by decide) (fun c4 => ?_) (fun c4 => ?_)
          · exact g_vret (pc := 99) hc dX4_readBarred_99 rfl (by rw [bwT, if_pos hO, bwB, if_pos hO, show bS (ar 30) tL (b0 (ar 30) tL q) 5 = bS (ar 30) tL (b0 (ar 30) tL q) (t) from by have h := bS_stay (f := ar 30) (L := tL) (z := (b0 (ar 30) tL q)) (t := t) (by rw [dyO, if_neg (ne_true_of_eq_false c4)]) (5 - t); rwa [show t + (5 - t) = 5 by omega] at h])
          · refine g_aload_n (pc := 59) hc 0 dX4_readBarred_59 rfl rfl ?_
            refine g_ldcS (pc := 60) hc 5 rfl rfl dX4_readBarred_60 ?_
            refine g_callVi (pc := 62) (rest := []) (As := [.ref (E.2.2.2 5)]) hc (c_X4_isAt l E ad hA (va_up (va_up (va_up (va_up sc 15 (bS (ar 30) tL (b0 (ar 30) tL q) (t)).2.1) 8 (nI (bS (ar 30) tL (b0 (ar 30) tL q) (t)).2.2.1)) 9 (nI (bS (ar 30) tL (b0 (ar 30) tL q) (t)).2.2.2.1)) 10 (bS (ar 30) tL (b0 (ar 30) tL q) (t)).2.2.2.2) ar bl (bS (ar 30) tL (b0 (ar 30) tL q) (t)).2.2 5 hT hT60 rfl rfl rfl (bS_ok (b0_ok hq) (t)) (by decide)) mi_X4_isAt tw_784 9 rfl rfl rfl rfl ⟨rfl, rfl, by decide, by decide⟩ (Nat.le_of_ble_eq_true rfl) ⟨Nat.le_refl _, Nat.le_refl _⟩ rfl dX4_readBarred_62 ?_
            refine g_topi (v := bI (wat (ar 30) (bS (ar 30) tL (b0 (ar 30) tL q) (t)).2.2 5)) rfl ?_
            refine g_if_eq_b (pc := 65) hc 99 dX4_readBarred_65 (by decide) (fun c5 => ?_) (fun c5 => ?_)
            · exact g_vret (pc := 99) hc dX4_readBarred_99 rfl (by rw [bwT, if_pos hO, bwB, if_pos hO, show bS (ar 30) tL (b0 (ar 30) tL q) 5 = bS (ar 30) tL (b0 (ar 30) tL q) (t) from by have h := bS_stay (f := ar 30) (L := tL) (z := (b0 (ar 30) tL q)) (t := t) (by rw [dyO, if_pos c4]; exact c5) (5 - t); rwa [show t + (5 - t) = 5 by omega] at h])
            · refine g_aload_n (pc := 68) hc 0 dX4_readBarred_68 rfl rfl ?_
              refine g_callVv (pc := 69) (rest := []) (As := []) hc (c_X4_goOn l E ad hA (va_up (va_up (va_up (va_up sc 15 (bS (ar 30) tL (b0 (ar 30) tL q) (t)).2.1) 8 (nI (bS (ar 30) tL (b0 (ar 30) tL q) (t)).2.2.1)) 9 (nI (bS (ar 30) tL (b0 (ar 30) tL q) (t)).2.2.2.1)) 10 (bS (ar 30) tL (b0 (ar 30) tL q) (t)).2.2.2.2) ar bl (bS (ar 30) tL (b0 (ar 30) tL q) (t)).2.2 hT hT60 rfl rfl ((bS_ok (b0_ok hq) (t)).2)) mi_X4_goOn tw_762 9 rfl rfl rfl rfl ⟨rfl, rfl, by decide, by decide⟩ (Nat.le_of_ble_eq_true rfl) ⟨Nat.le_refl _, Nat.le_refl _⟩ rfl dX4_readBarred_69 ?_
              refine g_eq (ws' := cw E ad (va_up (va_up (va_up (va_up sc 15 (bS (ar 30) tL (b0 (ar 30) tL q) (t)).2.1) 8 (nI (goT (ar 30) tL (bS (ar 30) tL (b0 (ar 30) tL q) (t)).2.2).1)) 9 (nI (goT (ar 30) tL (bS (ar 30) tL (b0 (ar 30) tL q) (t)).2.2).2.1)) 10 (goT (ar 30) tL (bS (ar 30) tL (b0 (ar 30) tL q) (t)).2.2).2.2) ar bl) (lv' := [(0, .ref (ad 9)), (1, .int (bS (ar 30) tL (b0 (ar 30) tL q) (t)).1), (2, .int (nI (t + 1)))]) (rfl) rfl rfl ?_
              refine g_aload_n (pc := 72) hc 0 dX4_readBarred_72 rfl rfl ?_
              refine g_iload_n (pc := 73) hc 1 dX4_readBarred_73 rfl rfl ?_
              refine g_iconst (pc := 74) (v := nI 1) hc dX4_readBarred_74 (by decide) ?_
              refine g_iadd (pc := 75) hc dX4_readBarred_75 ?_
              refine g_iconst (pc := 76) (v := nI 4) hc dX4_readBarred_76 (by decide) ?_
              refine g_callVi (pc := 77) (rest := []) (As := [.int ((bS (ar 30) tL (b0 (ar 30) tL q) (t)).1 + (nI 1)), .int (nI 4)]) hc (c_X4_expectNumber l E ad hA (va_up (va_up (va_up (va_up sc 15 (bS (ar 30) tL (b0 (ar 30) tL q) (t)).2.1) 8 (nI (goT (ar 30) tL (bS (ar 30) tL (b0 (ar 30) tL q) (t)).2.2).1)) 9 (nI (goT (ar 30) tL (bS (ar 30) tL (b0 (ar 30) tL q) (t)).2.2).2.1)) 10 (goT (ar 30) tL (bS (ar 30) tL (b0 (ar 30) tL q) (t)).2.2).2.2) ar bl (goT (ar 30) tL (bS (ar 30) tL (b0 (ar 30) tL q) (t)).2.2) ((bS (ar 30) tL (b0 (ar 30) tL q) (t)).1 + (nI 1)) (nI 4) hT hT60 rfl rfl rfl (goT_ok (bS_ok (b0_ok hq) (t)))) mi_X4_expectNumber tw_840 9 rfl rfl rfl rfl ⟨rfl, rfl, by decide, by decide⟩ (Nat.le_of_ble_eq_true rfl) ⟨Nat.le_refl _, Nat.le_refl _⟩ rfl dX4_readBarred_77 ?_
              refine g_topi (v := enV (ar 30) ((bS (ar 30) tL (b0 (ar 30) tL q) (t)).1 + (nI 1)) (nI 4) (goT (ar 30) tL (bS (ar 30) tL (b0 (ar 30) tL q) (t)).2.2)) rfl ?_
              refine g_eq (ws' := cw E ad (va_up (va_up (va_up (va_up sc 15 (bS (ar 30) tL (b0 (ar 30) tL q) (t)).2.1) 8 (nI (enT (ar 30) tL ((bS (ar 30) tL (b0 (ar 30) tL q) (t)).1 + (nI 1)) (nI 4) (goT (ar 30) tL (bS (ar 30) tL (b0 (ar 30) tL q) (t)).2.2)).1)) 9 (nI (enT (ar 30) tL ((bS (ar 30) tL (b0 (ar 30) tL q) (t)).1 + (nI 1)) (nI 4) (goT (ar 30) tL (bS (ar 30) tL (b0 (ar 30) tL q) (t)).2.2)).2.1)) 10 (enT (ar 30) tL ((bS (ar 30) tL (b0 (ar 30) tL q) (t)).1 + (nI 1)) (nI 4) (goT (ar 30) tL (bS (ar 30) tL (b0 (ar 30) tL q) (t)).2.2)).2.2) ar bl) (lv' := [(0, .ref (ad 9)), (1, .int (bS (ar 30) tL (b0 (ar 30) tL q) (t)).1), (2, .int (nI (t + 1)))]) (rfl) rfl rfl ?_
              refine g_istore_n (pc := 80) (lv' := [(0, .ref (ad 9)), (1, .int (enV (ar 30) ((bS (ar 30) tL (b0 (ar 30) tL q) (t)).1 + (nI 1)) (nI 4) (goT (ar 30) tL (bS (ar 30) tL (b0 (ar 30) tL q) (t)).2.2))), (2, .int (nI (t + 1)))]) hc dX4_readBarred_80 rfl (by decide) rfl ?_
              refine g_aload_n (pc := 81) hc 0 dX4_readBarred_81 rfl rfl ?_
              refine g_dup (pc := 82) hc dX4_readBarred_82 rfl ?_
              refine gf_c9_barred (pc := 83) hc tw_235 dX4_readBarred_83 ?_
              refine g_topi (v := (bS (ar 30) tL (b0 (ar 30) tL q) (t)).2.1) rfl ?_
              refine g_iconst (pc := 86) (v := nI 1) hc dX4_readBarred_86 (by decide) ?_
              refine g_iload_n (pc := 87) hc 1 dX4_readBarred_87 rfl rfl ?_
              refine g_ishl (pc := 88) hc dX4_readBarred_88 ?_
              refine g_ior (pc := 89) hc dX4_readBarred_89 ?_
              refine pf_c9_barred (pc := 90) hc hA tw_235 dX4_readBarred_90 ?_
              refine g_eq (ws' := cw E ad (va_up (va_up (va_up (va_up sc 8 (nI (enT (ar 30) tL ((bS (ar 30) tL (b0 (ar 30) tL q) (t)).1 + (nI 1)) (nI 4) (goT (ar 30) tL (bS (ar 30) tL (b0 (ar 30) tL q) (t)).2.2)).1)) 9 (nI (enT (ar 30) tL ((bS (ar 30) tL (b0 (ar 30) tL q) (t)).1 + (nI 1)) (nI 4) (goT (ar 30) tL (bS (ar 30) tL (b0 (ar 30) tL q) (t)).2.2)).2.1)) 10 (enT (ar 30) tL ((bS (ar 30) tL (b0 (ar 30) tL q) (t)).1 + (nI 1)) (nI 4) (goT (ar 30) tL (bS (ar 30) tL (b0 (ar 30) tL q) (t)).2.2)).2.2) 15 ((bS (ar 30) tL (b0 (ar 30) tL q) (t)).2.1 ||| ((nI 1) <<< ((enV (ar 30) ((bS (ar 30) tL (b0 (ar 30) tL q) (t)).1 + (nI 1)) (nI 4) (goT (ar 30) tL (bS (ar 30) tL (b0 (ar 30) tL q) (t)).2.2)) &&& 31)))) ar bl) (lv' := [(0, .ref (ad 9)), (1, .int (enV (ar 30) ((bS (ar 30) tL (b0 (ar 30) tL q) (t)).1 + (nI 1)) (nI 4) (goT (ar 30) tL (bS (ar 30) tL (b0 (ar 30) tL q) (t)).2.2))), (2, .int (nI (t + 1)))]) rfl rfl rfl ?_
              refine g_iinc (pc := 93) (v := nI (t + 1 + 1)) (lv' := [(0, .ref (ad 9)), (1, .int (enV (ar 30) ((bS (ar 30) tL (b0 (ar 30) tL q) (t)).1 + (nI 1)) (nI 4) (goT (ar 30) tL (bS (ar 30) tL (b0 (ar 30) tL q) (t)).2.2))), (2, .int (nI (t + 1 + 1)))]) hc 2 dX4_readBarred_93 rfl (nI_ofi (t + 1) 1) (by decide) rfl ?_
              refine g_goto (pc := 96) hc 47 dX4_readBarred_96 (by decide) ?_
              exact g_eq (ws' := cw E ad (va_up (va_up (va_up (va_up sc 15 (bS (ar 30) tL (b0 (ar 30) tL q) (t + 1)).2.1) 8 (nI (bS (ar 30) tL (b0 (ar 30) tL q) (t + 1)).2.2.1)) 9 (nI (bS (ar 30) tL (b0 (ar 30) tL q) (t + 1)).2.2.2.1)) 10 (bS (ar 30) tL (b0 (ar 30) tL q) (t + 1)).2.2.2.2) ar bl) (lv' := [(0, .ref (ad 9)), (1, .int (bS (ar 30) tL (b0 (ar 30) tL q) (t + 1)).1), (2, .int (nI (t + 1 + 1)))]) (by rw [bS_succ, if_pos (by rw [dyO, if_pos c4]; exact c5)]; rfl) (by rw [bS_succ, if_pos (by rw [dyO, if_pos c4]; exact c5)]; rfl) rfl (iht (t + 1) (by omega))
      exact g_eq (ws' := cw E ad (va_up (va_up (va_up (va_up sc 15 (bS (ar 30) tL (b0 (ar 30) tL q) (0)).2.1) 8 (nI (bS (ar 30) tL (b0 (ar 30) tL q) (0)).2.2.1)) 9 (nI (bS (ar 30) tL (b0 (ar 30) tL q) (0)).2.2.2.1)) 10 (bS (ar 30) tL (b0 (ar 30) tL q) (0)).2.2.2.2) ar bl) (lv' := [(0, .ref (ad 9)), (1, .int (bS (ar 30) tL (b0 (ar 30) tL q) (0)).1), (2, .int (nI (0 + 1)))]) (rfl) (rfl) rfl (L47_3 (5 - 0) (0) (by omega))
