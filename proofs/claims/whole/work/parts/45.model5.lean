theorem dX12_correctedAt_0 : decode cX12_correctedAt 0 = .ok (.aload_n 0, 1) := by decide +kernel
theorem dX12_correctedAt_1 : decode cX12_correctedAt 1 = .ok (.getfield 84, 3) := by decide +kernel
theorem dX12_correctedAt_4 : decode cX12_correctedAt 4 = .ok (.iload_n 1, 1) := by decide +kernel
theorem dX12_correctedAt_5 : decode cX12_correctedAt 5 = .ok (.aload_n 0, 1) := by decide +kernel
theorem dX12_correctedAt_6 : decode cX12_correctedAt 6 = .ok (.getfield 7, 3) := by decide +kernel
theorem dX12_correctedAt_9 : decode cX12_correctedAt 9 = .ok (.idiv, 1) := by decide +kernel
theorem dX12_correctedAt_10 : decode cX12_correctedAt 10 = .ok (.iaload, 1) := by decide +kernel
theorem dX12_correctedAt_11 : decode cX12_correctedAt 11 = .ok (.istore_n 3, 1) := by decide +kernel
theorem dX12_correctedAt_12 : decode cX12_correctedAt 12 = .ok (.iload_n 3, 1) := by decide +kernel
theorem dX12_correctedAt_13 : decode cX12_correctedAt 13 = .ok (.ifCond .ge 7, 3) := by decide +kernel
theorem dX12_correctedAt_16 : decode cX12_correctedAt 16 = .ok (.iconst 0, 1) := by decide +kernel
theorem dX12_correctedAt_17 : decode cX12_correctedAt 17 = .ok (.goto 10, 3) := by decide +kernel
theorem dX12_correctedAt_20 : decode cX12_correctedAt 20 = .ok (.aload_n 0, 1) := by decide +kernel
theorem dX12_correctedAt_21 : decode cX12_correctedAt 21 = .ok (.iload_n 3, 1) := by decide +kernel
theorem dX12_correctedAt_22 : decode cX12_correctedAt 22 = .ok (.iload_n 1, 1) := by decide +kernel
theorem dX12_correctedAt_23 : decode cX12_correctedAt 23 = .ok (.iload_n 2, 1) := by decide +kernel
theorem dX12_correctedAt_24 : decode cX12_correctedAt 24 = .ok (.invokevirtual 165, 3) := by decide +kernel
theorem dX12_correctedAt_27 : decode cX12_correctedAt 27 = .ok (.istore 4, 2) := by decide +kernel
theorem dX12_correctedAt_29 : decode cX12_correctedAt 29 = .ok (.iload 4, 2) := by decide +kernel
theorem dX12_correctedAt_31 : decode cX12_correctedAt 31 = .ok (.ifCond .eq 13, 3) := by decide +kernel
theorem dX12_correctedAt_34 : decode cX12_correctedAt 34 = .ok (.aload_n 0, 1) := by decide +kernel
theorem dX12_correctedAt_35 : decode cX12_correctedAt 35 = .ok (.getfield 16, 3) := by decide +kernel
theorem dX12_correctedAt_38 : decode cX12_correctedAt 38 = .ok (.iload_n 2, 1) := by decide +kernel
theorem dX12_correctedAt_39 : decode cX12_correctedAt 39 = .ok (.iaload, 1) := by decide +kernel
theorem dX12_correctedAt_40 : decode cX12_correctedAt 40 = .ok (.iconst 1, 1) := by decide +kernel
theorem dX12_correctedAt_41 : decode cX12_correctedAt 41 = .ok (.if_icmp .ne 6, 3) := by decide +kernel
theorem dX12_correctedAt_44 : decode cX12_correctedAt 44 = .ok (.iload 4, 2) := by decide +kernel
theorem dX12_correctedAt_46 : decode cX12_correctedAt 46 = .ok (.ireturn, 1) := by decide +kernel
theorem dX12_correctedAt_47 : decode cX12_correctedAt 47 = .ok (.aload_n 0, 1) := by decide +kernel
theorem dX12_correctedAt_48 : decode cX12_correctedAt 48 = .ok (.getfield 81, 3) := by decide +kernel
theorem dX12_correctedAt_51 : decode cX12_correctedAt 51 = .ok (.aload_n 0, 1) := by decide +kernel
theorem dX12_correctedAt_52 : decode cX12_correctedAt 52 = .ok (.getfield 20, 3) := by decide +kernel
theorem dX12_correctedAt_55 : decode cX12_correctedAt 55 = .ok (.iload_n 3, 1) := by decide +kernel
theorem dX12_correctedAt_56 : decode cX12_correctedAt 56 = .ok (.iaload, 1) := by decide +kernel
theorem dX12_correctedAt_57 : decode cX12_correctedAt 57 = .ok (.iaload, 1) := by decide +kernel
theorem dX12_correctedAt_58 : decode cX12_correctedAt 58 = .ok (.istore 5, 2) := by decide +kernel
theorem dX12_correctedAt_60 : decode cX12_correctedAt 60 = .ok (.iload 5, 2) := by decide +kernel
theorem dX12_correctedAt_62 : decode cX12_correctedAt 62 = .ok (.ifCond .ne 9, 3) := by decide +kernel
theorem dX12_correctedAt_65 : decode cX12_correctedAt 65 = .ok (.sipush 9999, 3) := by decide +kernel
theorem dX12_correctedAt_68 : decode cX12_correctedAt 68 = .ok (.goto 11, 3) := by decide +kernel
theorem dX12_correctedAt_71 : decode cX12_correctedAt 71 = .ok (.iload 4, 2) := by decide +kernel
theorem dX12_correctedAt_73 : decode cX12_correctedAt 73 = .ok (.bipush 100, 2) := by decide +kernel
theorem dX12_correctedAt_75 : decode cX12_correctedAt 75 = .ok (.imul, 1) := by decide +kernel
theorem dX12_correctedAt_76 : decode cX12_correctedAt 76 = .ok (.iload 5, 2) := by decide +kernel
theorem dX12_correctedAt_78 : decode cX12_correctedAt 78 = .ok (.idiv, 1) := by decide +kernel
theorem dX12_correctedAt_79 : decode cX12_correctedAt 79 = .ok (.istore 6, 2) := by decide +kernel
theorem dX12_correctedAt_81 : decode cX12_correctedAt 81 = .ok (.iload 6, 2) := by decide +kernel
theorem dX12_correctedAt_83 : decode cX12_correctedAt 83 = .ok (.sipush 9999, 3) := by decide +kernel
theorem dX12_correctedAt_86 : decode cX12_correctedAt 86 = .ok (.if_icmp .le 9, 3) := by decide +kernel
theorem dX12_correctedAt_89 : decode cX12_correctedAt 89 = .ok (.sipush 9999, 3) := by decide +kernel
theorem dX12_correctedAt_92 : decode cX12_correctedAt 92 = .ok (.goto 5, 3) := by decide +kernel
theorem dX12_correctedAt_95 : decode cX12_correctedAt 95 = .ok (.iload 6, 2) := by decide +kernel
theorem dX12_correctedAt_97 : decode cX12_correctedAt 97 = .ok (.ireturn, 1) := by decide +kernel

set_option maxHeartbeats 4000000 in
set_option maxRecDepth 100000 in
theorem c_X12_correctedAt (l : Launch) (E : Ev) {A : Nat → Prop} (ad : Nat → Nat) (hA : Oka 30 ad A) (sc : Nat → Int32) (ar : Nat → Nat → Int32) (la : Nat → Int64) {nW nF wd hg : Nat} (p : Nat) (j : Nat) (hF : sc 4 = nI nF) (hF200 : nF ≤ 200) (hwd : sc 0 = nI wd) (hwd1 : 2 ≤ wd) (hwd2 : wd ≤ 8) (hhg : sc 1 = nI hg) (hhg1 : 2 ≤ hg) (hhg2 : hg ≤ 8) (hp : p < wd * hg) (hj : j < 4) (hC : ∀ r, r < hg → ar 22 r = -1 ∨ ∃ i, i < nW ∧ ar 22 r = nI i) (hW60 : nW ≤ 60) (hV : ∀ i, i < nW → ∃ v, v < 5 ∧ ar 2 i = nI v) : Ct l E yX12_correctedAt (.code yX12_correctedAt cX12_correctedAt 7 (some .int)) ({ frames := 1, cells := 0, slots := 0, locals := 25 }) A (mw E ad sc ar la) [.ref (ad 0), .int (nI p), .int (nI j)] (some (.int (mcc (ar 1) (ar 2) (ar 5) (ar 6) (ar 7) (ar 8) (ar 21) (ar 22) nF wd p j))) (mw E ad sc ar la) := by
  have hm := prod64 hwd2 hhg2
  have hrow := row_lt hp hwd1
  refine Ct.of (lv := [(0, .ref (ad 0)), (1, .int (nI p)), (2, .int (nI j))]) (by decide +kernel) (Nat.le_of_ble_eq_true rfl) rfl ?_
  intro zp ze zs zm za zb zh zc hc
  refine g_aload_n (pc := 0) hc 0 dX12_correctedAt_0 rfl rfl ?_
  refine gf_m0_chosen (pc := 1) hc tw_1031 dX12_correctedAt_1 ?_
  refine g_iload_n (pc := 4) hc 1 dX12_correctedAt_4 rfl rfl ?_
  refine g_aload_n (pc := 5) hc 0 dX12_correctedAt_5 rfl rfl ?_
  refine gf_m0_wide (pc := 6) hc tw_1001 dX12_correctedAt_6 ?_
  refine g_topi (v := nI wd) (hwd) ?_
  refine g_idiv (pc := 9) hc dX12_correctedAt_9 (nI_ne0 (by omega) (by omega)) ?_
  refine g_topi (v := nI (p / wd)) (ldiv_nI hwd1 hwd2 (by omega)) ?_
  refine la_m22 (pc := 10) hc (p / wd) (rfl) (by omega) dX12_correctedAt_10 ?_
  refine g_istore_n (pc := 11) (lv' := [(0, .ref (ad 0)), (1, .int (nI p)), (2, .int (nI j)), (3, .int ((ar 22) (p / wd)))]) hc dX12_correctedAt_11 rfl (by decide) rfl ?_
  refine g_iload_n (pc := 12) hc 3 dX12_correctedAt_12 rfl rfl ?_
  refine g_if_ge (pc := 13) hc 20 dX12_correctedAt_13 (by decide) (fun c1 => ?_) (fun c1 => ?_)
  · refine g_aload_n (pc := 20) hc 0 dX12_correctedAt_20 rfl rfl ?_
    refine g_iload_n (pc := 21) hc 3 dX12_correctedAt_21 rfl rfl ?_
    refine g_iload_n (pc := 22) hc 1 dX12_correctedAt_22 rfl rfl ?_
    refine g_iload_n (pc := 23) hc 2 dX12_correctedAt_23 rfl rfl ?_
    refine g_callVi (pc := 24) (rest := []) (As := [.int ((ar 22) (p / wd)), .int (nI p), .int (nI j)]) hc (c_X12_at l E ad hA sc ar la ((ar 22) (p / wd)) (nI p) (nI j) (hF) (hF200)) mi_X12_at tw_1209 0 rfl rfl rfl rfl ⟨rfl, rfl, by decide, by decide⟩ (Nat.le_of_ble_eq_true rfl) ⟨Nat.le_refl _, Nat.le_refl _⟩ rfl dX12_correctedAt_24 ?_
    refine g_istore (pc := 27) (lv' := [(0, .ref (ad 0)), (1, .int (nI p)), (2, .int (nI j)), (3, .int ((ar 22) (p / wd))), (4, .int (mat (ar 5) (ar 6) (ar 7) (ar 8) ((ar 22) (p / wd)) (nI p) (nI j) nF))]) hc dX12_correctedAt_27 (by decide) rfl ?_
    refine g_iload (pc := 29) hc 4 dX12_correctedAt_29 rfl ?_
    refine g_if_eq (pc := 31) hc 44 dX12_correctedAt_31 (by decide) (fun c2 => ?_) (fun c2 => ?_)
    · refine g_iload (pc := 44) hc 4 dX12_correctedAt_44 rfl ?_
      exact g_iret (pc := 46) hc dX12_correctedAt_46 (by unfold mcc mco mcn mcv; rw [if_neg (Int32.not_lt.mpr c1)]; (repeat (first | rw [if_pos c2] | rw [if_neg c2] | rw [if_neg (ne_true_of_eq_false c2)])); try (split <;> rfl)) (rfl)
    · refine g_aload_n (pc := 34) hc 0 dX12_correctedAt_34 rfl rfl ?_
      refine gf_m0_sorts (pc := 35) hc tw_1003 dX12_correctedAt_35 ?_
      refine g_iload_n (pc := 38) hc 2 dX12_correctedAt_38 rfl rfl ?_
      refine la_m1 (pc := 39) hc (j) (rfl) (by omega) dX12_correctedAt_39 ?_
      refine g_iconst (pc := 40) (v := nI 1) hc dX12_correctedAt_40 (by decide) ?_
      refine g_icmp_ne (pc := 41) hc 47 dX12_correctedAt_41 (by decide) (fun c3 => ?_) (fun c3 => ?_)
      · have hx := tn_ch (hC _ hrow) c1 (by omega)
        have hv := tn_lt (hV _ hx.2) (by decide)
        refine g_aload_n (pc := 47) hc 0 dX12_correctedAt_47 rfl rfl ?_
        refine gf_m0_eyes (pc := 48) hc tw_1030 dX12_correctedAt_48 ?_
        refine g_aload_n (pc := 51) hc 0 dX12_correctedAt_51 rfl rfl ?_
        refine gf_m0_walker (pc := 52) hc tw_1006 dX12_correctedAt_52 ?_
        refine g_iload_n (pc := 55) hc 3 dX12_correctedAt_55 rfl rfl ?_
        refine la_m2 (pc := 56) hc (tn (ar 22 (p / wd))) (hx.1) (by omega) dX12_correctedAt_56 ?_
        refine la_m21 (pc := 57) hc (tn (ar 2 (tn (ar 22 (p / wd))))) (hv.1) (hv.2) dX12_correctedAt_57 ?_
        refine g_istore (pc := 58) (lv' := [(0, .ref (ad 0)), (1, .int (nI p)), (2, .int (nI j)), (3, .int ((ar 22) (p / wd))), (4, .int (mat (ar 5) (ar 6) (ar 7) (ar 8) ((ar 22) (p / wd)) (nI p) (nI j) nF)), (5, .int ((ar 21) (tn (ar 2 (tn (ar 22 (p / wd)))))))]) hc dX12_correctedAt_58 (by decide) rfl ?_
        refine g_iload (pc := 60) hc 5 dX12_correctedAt_60 rfl ?_
        refine g_if_ne (pc := 62) hc 71 dX12_correctedAt_62 (by decide) (fun c4 => ?_) (fun c4 => ?_)
        · refine g_iload (pc := 71) hc 4 dX12_correctedAt_71 rfl ?_
          refine g_bipush (pc := 73) (v := nI 100) hc dX12_correctedAt_73 (by decide) ?_
          refine g_imul (pc := 75) hc dX12_correctedAt_75 ?_
          refine g_iload (pc := 76) hc 5 dX12_correctedAt_76 rfl ?_
          refine g_idiv (pc := 78) hc dX12_correctedAt_78 (c4) ?_
          refine g_istore (pc := 79) (lv' := [(0, .ref (ad 0)), (1, .int (nI p)), (2, .int (nI j)), (3, .int ((ar 22) (p / wd))), (4, .int (mat (ar 5) (ar 6) (ar 7) (ar 8) ((ar 22) (p / wd)) (nI p) (nI j) nF)), (5, .int ((ar 21) (tn (ar 2 (tn (ar 22 (p / wd))))))), (6, .int (((mat (ar 5) (ar 6) (ar 7) (ar 8) ((ar 22) (p / wd)) (nI p) (nI j) nF) * (nI 100)) / ((ar 21) (tn (ar 2 (tn (ar 22 (p / wd))))))))]) hc dX12_correctedAt_79 (by decide) rfl ?_
          refine g_iload (pc := 81) hc 6 dX12_correctedAt_81 rfl ?_
          refine g_sipush (pc := 83) (v := nI 9999) hc dX12_correctedAt_83 (by decide) ?_
          refine g_icmp_le (pc := 86) hc 95 dX12_correctedAt_86 (by decide) (fun c5 => ?_) (fun c5 => ?_)
          · refine g_iload (pc := 95) hc 6 dX12_correctedAt_95 rfl ?_
            exact g_iret (pc := 97) hc dX12_correctedAt_97 (by unfold mcc mco mcn mcv; rw [if_neg (Int32.not_lt.mpr c1)]; (repeat (first | rw [if_pos c2] | rw [if_neg c2] | rw [if_neg (ne_true_of_eq_false c2)] | rw [if_pos c3] | rw [if_neg c3] | rw [if_neg (ne_true_of_eq_false c3)] | rw [if_pos c4] | rw [if_neg c4] | rw [if_neg (ne_true_of_eq_false c4)] | rw [if_pos c5] | rw [if_neg c5] | rw [if_neg (ne_true_of_eq_false c5)])); try (split <;> rfl)) (rfl)
          · refine g_sipush (pc := 89) (v := nI 9999) hc dX12_correctedAt_89 (by decide) ?_
            refine g_goto (pc := 92) hc 97 dX12_correctedAt_92 (by decide) ?_
            exact g_iret (pc := 97) hc dX12_correctedAt_97 (by unfold mcc mco mcn mcv; rw [if_neg (Int32.not_lt.mpr c1)]; (repeat (first | rw [if_pos c2] | rw [if_neg c2] | rw [if_neg (ne_true_of_eq_false c2)] | rw [if_pos c3] | rw [if_neg c3] | rw [if_neg (ne_true_of_eq_false c3)] | rw [if_pos c4] | rw [if_neg c4] | rw [if_neg (ne_true_of_eq_false c4)] | rw [if_pos c5] | rw [if_neg c5] | rw [if_neg (ne_true_of_eq_false c5)])); try (split <;> rfl)) (rfl)
        · refine g_sipush (pc := 65) (v := nI 9999) hc dX12_correctedAt_65 (by decide) ?_
          refine g_goto (pc := 68) hc 79 dX12_correctedAt_68 (by decide) ?_
          refine g_istore (pc := 79) (lv' := [(0, .ref (ad 0)), (1, .int (nI p)), (2, .int (nI j)), (3, .int ((ar 22) (p / wd))), (4, .int (mat (ar 5) (ar 6) (ar 7) (ar 8) ((ar 22) (p / wd)) (nI p) (nI j) nF)), (5, .int ((ar 21) (tn (ar 2 (tn (ar 22 (p / wd))))))), (6, .int (nI 9999))]) hc dX12_correctedAt_79 (by decide) rfl ?_
          refine g_iload (pc := 81) hc 6 dX12_correctedAt_81 rfl ?_
          refine g_sipush (pc := 83) (v := nI 9999) hc dX12_correctedAt_83 (by decide) ?_
          refine g_icmp_le_t (pc := 86) hc 95 dX12_correctedAt_86 (by decide) (by decide) ?_
          refine g_iload (pc := 95) hc 6 dX12_correctedAt_95 rfl ?_
          exact g_iret (pc := 97) hc dX12_correctedAt_97 (by unfold mcc mco mcn mcv; rw [if_neg (Int32.not_lt.mpr c1)]; (repeat (first | rw [if_pos c2] | rw [if_neg c2] | rw [if_neg (ne_true_of_eq_false c2)] | rw [if_pos c3] | rw [if_neg c3] | rw [if_neg (ne_true_of_eq_false c3)] | rw [if_pos c4] | rw [if_neg c4] | rw [if_neg (ne_true_of_eq_false c4)])); try (split <;> rfl)) (rfl)
      · refine g_iload (pc := 44) hc 4 dX12_correctedAt_44 rfl ?_
        exact g_iret (pc := 46) hc dX12_correctedAt_46 (by unfold mcc mco mcn mcv; rw [if_neg (Int32.not_lt.mpr c1)]; (repeat (first | rw [if_pos c2] | rw [if_neg c2] | rw [if_neg (ne_true_of_eq_false c2)] | rw [if_pos c3] | rw [if_neg c3] | rw [if_neg (ne_true_of_eq_false c3)])); try (split <;> rfl)) (rfl)
  · refine g_iconst (pc := 16) (v := nI 0) hc dX12_correctedAt_16 (by decide) ?_
    refine g_goto (pc := 17) hc 27 dX12_correctedAt_17 (by decide) ?_
    refine g_istore (pc := 27) (lv' := [(0, .ref (ad 0)), (1, .int (nI p)), (2, .int (nI j)), (3, .int ((ar 22) (p / wd))), (4, .int (nI 0))]) hc dX12_correctedAt_27 (by decide) rfl ?_
    refine g_iload (pc := 29) hc 4 dX12_correctedAt_29 rfl ?_
    refine g_if_eq_t (pc := 31) hc 44 dX12_correctedAt_31 (by decide) (by decide) ?_
    refine g_iload (pc := 44) hc 4 dX12_correctedAt_44 rfl ?_
    exact g_iret (pc := 46) hc dX12_correctedAt_46 (by unfold mcc mco mcn; rw [if_pos (Int32.not_le.mp c1)]; rfl) (rfl)

theorem dX12_corrected_0 : decode cX12_corrected 0 = .ok (.aload_n 0, 1) := by decide +kernel
theorem dX12_corrected_1 : decode cX12_corrected 1 = .ok (.iload_n 1, 1) := by decide +kernel
theorem dX12_corrected_2 : decode cX12_corrected 2 = .ok (.invokevirtual 154, 3) := by decide +kernel
theorem dX12_corrected_5 : decode cX12_corrected 5 = .ok (.ifCond .eq 10, 3) := by decide +kernel
theorem dX12_corrected_8 : decode cX12_corrected 8 = .ok (.iload_n 2, 1) := by decide +kernel
theorem dX12_corrected_9 : decode cX12_corrected 9 = .ok (.invokestatic 124, 3) := by decide +kernel
theorem dX12_corrected_12 : decode cX12_corrected 12 = .ok (.ifCond .ne 6, 3) := by decide +kernel
theorem dX12_corrected_15 : decode cX12_corrected 15 = .ok (.ldc 120, 2) := by decide +kernel
theorem dX12_corrected_17 : decode cX12_corrected 17 = .ok (.ireturn, 1) := by decide +kernel
theorem dX12_corrected_18 : decode cX12_corrected 18 = .ok (.aload_n 0, 1) := by decide +kernel
theorem dX12_corrected_19 : decode cX12_corrected 19 = .ok (.invokevirtual 171, 3) := by decide +kernel
theorem dX12_corrected_22 : decode cX12_corrected 22 = .ok (.aload_n 0, 1) := by decide +kernel
theorem dX12_corrected_23 : decode cX12_corrected 23 = .ok (.iload_n 1, 1) := by decide +kernel
theorem dX12_corrected_24 : decode cX12_corrected 24 = .ok (.iload_n 2, 1) := by decide +kernel
theorem dX12_corrected_25 : decode cX12_corrected 25 = .ok (.invokevirtual 174, 3) := by decide +kernel
theorem dX12_corrected_28 : decode cX12_corrected 28 = .ok (.ireturn, 1) := by decide +kernel

set_option maxHeartbeats 4000000 in
set_option maxRecDepth 100000 in
theorem c_X12_corrected (l : Launch) (E : Ev) {A : Nat → Prop} (ad : Nat → Nat) (hA : Oka 30 ad A) (sc : Nat → Int32) (ar : Nat → Nat → Int32) (la : Nat → Int64) {nW nF wd hg : Nat} (x : Int32) (y : Int32) (hW : sc 3 = nI nW) (hW60 : nW ≤ 60) (hF : sc 4 = nI nF) (hF200 : nF ≤ 200) (hK4 : ∀ f, f < nF → ∃ k, k < 4 ∧ ar 7 f = nI k) (hwd : sc 0 = nI wd) (hwd1 : 2 ≤ wd) (hwd2 : wd ≤ 8) (hhg : sc 1 = nI hg) (hhg1 : 2 ≤ hg) (hhg2 : hg ≤ 8) (hV : ∀ i, i < nW → ∃ v, v < 5 ∧ ar 2 i = nI v) : Ct l E yX12_corrected (.code yX12_corrected cX12_corrected 3 (some .int)) ({ frames := 3, cells := 0, slots := 0, locals := 70 }) A (mw E ad sc ar la) [.ref (ad 0), .int x, .int y] (some (.int (if ok2 (inx x (nI (wd * hg))) (inr y (nI 0) (nI 3)) = true then mcc (ar 1) (ar 2) (ar 5) (ar 6) (ar 7) (ar 8) (cotI (fun v => mey (fun k => fns (ar 1) (ar 5) (ar 7) (ar 8) (nI k) nF) (ar 2) (ar 3) nW (nI v)) (ar 21) 5) (cotI (fun r => mtl nW nF (ar 3) (ar 5) (ar 8) (nI r)) (ar 22) hg) nF wd (tn x) (tn y) else (-1000000001)))) (if ok2 (inx x (nI (wd * hg))) (inr y (nI 0) (nI 3)) = true then mw E ad sc (va_up (va_up (va_up ar 20 (fiI (fun k => fns (ar 1) (ar 5) (ar 7) (ar 8) (nI k) nF) nW (ar 20) 5)) 21 (cotI (fun v => mey (fun k => fns (ar 1) (ar 5) (ar 7) (ar 8) (nI k) nF) (ar 2) (ar 3) nW (nI v)) (ar 21) 5)) 22 (cotI (fun r => mtl nW nF (ar 3) (ar 5) (ar 8) (nI r)) (ar 22) hg)) la else mw E ad sc ar la) := by
  have hm := prod64 hwd2 hhg2
  have hC := cho_in nW nF hg (ar 3) (ar 5) (ar 8) (ar 22)
  refine Ct.of (lv := [(0, .ref (ad 0)), (1, .int x), (2, .int y)]) (by decide +kernel) (Nat.le_of_ble_eq_true rfl) rfl ?_
  intro zp ze zs zm za zb zh zc hc
  refine g_aload_n (pc := 0) hc 0 dX12_corrected_0 rfl rfl ?_
  refine g_iload_n (pc := 1) hc 1 dX12_corrected_1 rfl rfl ?_
  refine g_callVi (pc := 2) (rest := []) (As := [.int x]) hc (c_X12_isPace l E ad hA sc ar la x (hwd) (hwd1) (hwd2) (hhg) (hhg1) (hhg2)) mi_X12_isPace tw_1185 0 rfl rfl rfl rfl ⟨rfl, rfl, by decide, by decide⟩ (Nat.le_of_ble_eq_true rfl) ⟨Nat.le_refl _, Nat.le_refl _⟩ rfl dX12_corrected_2 ?_
  refine g_if_eq_b (pc := 5) hc 15 dX12_corrected_5 (by decide) (fun c1 => ?_) (fun c1 => ?_)
  · refine g_ldc (pc := 15) (v := (-1000000001)) hc tw_1139 dX12_corrected_15 ?_
    exact g_iret (pc := 17) hc dX12_corrected_17 (by rw [if_neg (ne_true_of_eq_false (ok2_f1 c1))]) (by rw [if_neg (ne_true_of_eq_false (ok2_f1 c1))])
  · refine g_iload_n (pc := 8) hc 2 dX12_corrected_8 rfl rfl ?_
    refine g_callSi (pc := 9) (rest := []) (As := [.int y]) hc (c_X12_isKind l E ad hA sc ar la y) mi_X12_isKind tw_1148 rfl ⟨rfl, rfl, by decide, by decide⟩ (Nat.le_of_ble_eq_true rfl) ⟨Nat.le_refl _, Nat.le_refl _⟩ rfl dX12_corrected_9 ?_
    refine g_if_ne_b (pc := 12) hc 18 dX12_corrected_12 (by decide) (fun c2 => ?_) (fun c2 => ?_)
    · obtain ⟨p, hp, hx⟩ := inx_of (by omega) c1
      obtain ⟨j, hj1, hj2, hy⟩ := inr_of (by decide) c2 (by decide)
      refine g_eq (ws' := mw E ad sc ar la) (lv' := [(0, .ref (ad 0)), (1, .int (nI p)), (2, .int (nI j))]) rfl (by rw [hx, hy]) rfl ?_
      refine g_aload_n (pc := 18) hc 0 dX12_corrected_18 rfl rfl ?_
      refine g_callVv (pc := 19) (rest := []) (As := []) hc (c_X12_look l E ad hA sc ar la  (hW) (hW60) (hF) (hF200) (hK4) (hwd) (hwd1) (hwd2) (hhg) (hhg1) (hhg2)) mi_X12_look tw_1237 0 rfl rfl rfl rfl ⟨rfl, rfl, by decide, by decide⟩ (Nat.le_of_ble_eq_true rfl) ⟨Nat.le_refl _, Nat.le_refl _⟩ rfl dX12_corrected_19 ?_
      refine g_aload_n (pc := 22) hc 0 dX12_corrected_22 rfl rfl ?_
      refine g_iload_n (pc := 23) hc 1 dX12_corrected_23 rfl rfl ?_
      refine g_iload_n (pc := 24) hc 2 dX12_corrected_24 rfl rfl ?_
      refine g_callVi (pc := 25) (rest := []) (As := [.int (nI p), .int (nI j)]) hc (c_X12_correctedAt l E ad hA sc (va_up (va_up (va_up ar 20 (fiI (fun k => fns (ar 1) (ar 5) (ar 7) (ar 8) (nI k) nF) nW (ar 20) 5)) 21 (cotI (fun v => mey (fun k => fns (ar 1) (ar 5) (ar 7) (ar 8) (nI k) nF) (ar 2) (ar 3) nW (nI v)) (ar 21) 5)) 22 (cotI (fun r => mtl nW nF (ar 3) (ar 5) (ar 8) (nI r)) (ar 22) hg)) la p j (hF) (hF200) (hwd) (hwd1) (hwd2) (hhg) (hhg1) (hhg2) (by omega) (by omega) (hC) (hW60) (hV)) mi_X12_correctedAt tw_1241 0 rfl rfl rfl rfl ⟨rfl, rfl, by decide, by decide⟩ (Nat.le_of_ble_eq_true rfl) ⟨Nat.le_refl _, Nat.le_refl _⟩ rfl dX12_corrected_25 ?_
      refine g_topi (v := mcc (ar 1) (ar 2) (ar 5) (ar 6) (ar 7) (ar 8) (cotI (fun v => mey (fun k => fns (ar 1) (ar 5) (ar 7) (ar 8) (nI k) nF) (ar 2) (ar 3) nW (nI v)) (ar 21) 5) (cotI (fun r => mtl nW nF (ar 3) (ar 5) (ar 8) (nI r)) (ar 22) hg) nF wd p j) rfl ?_
      exact g_iret (pc := 28) hc dX12_corrected_28 (by rw [if_pos (ok2_t c1 c2), hx, hy, tn, tn, nI_clamp (by omega), nI_clamp (by omega)]) (by rw [if_pos (ok2_t c1 c2)])
    · refine g_ldc (pc := 15) (v := (-1000000001)) hc tw_1139 dX12_corrected_15 ?_
      exact g_iret (pc := 17) hc dX12_corrected_17 (by rw [if_neg (ne_true_of_eq_false (ok2_f2 c1 c2))]) (by rw [if_neg (ne_true_of_eq_false (ok2_f2 c1 c2))])

theorem dX12_weigh_0 : decode cX12_weigh 0 = .ok (.aload_n 0, 1) := by decide +kernel
theorem dX12_weigh_1 : decode cX12_weigh 1 = .ok (.invokevirtual 171, 3) := by decide +kernel
theorem dX12_weigh_4 : decode cX12_weigh 4 = .ok (.iconst 0, 1) := by decide +kernel
theorem dX12_weigh_5 : decode cX12_weigh 5 = .ok (.istore_n 1, 1) := by decide +kernel
theorem dX12_weigh_6 : decode cX12_weigh 6 = .ok (.iload_n 1, 1) := by decide +kernel
theorem dX12_weigh_7 : decode cX12_weigh 7 = .ok (.aload_n 0, 1) := by decide +kernel
theorem dX12_weigh_8 : decode cX12_weigh 8 = .ok (.invokevirtual 109, 3) := by decide +kernel
theorem dX12_weigh_11 : decode cX12_weigh 11 = .ok (.if_icmp .ge 83, 3) := by decide +kernel
theorem dX12_weigh_14 : decode cX12_weigh 14 = .ok (.aload_n 0, 1) := by decide +kernel
theorem dX12_weigh_15 : decode cX12_weigh 15 = .ok (.getfield 87, 3) := by decide +kernel
theorem dX12_weigh_18 : decode cX12_weigh 18 = .ok (.iload_n 1, 1) := by decide +kernel
theorem dX12_weigh_19 : decode cX12_weigh 19 = .ok (.iconst 0, 1) := by decide +kernel
theorem dX12_weigh_20 : decode cX12_weigh 20 = .ok (.iastore, 1) := by decide +kernel
theorem dX12_weigh_21 : decode cX12_weigh 21 = .ok (.iconst 0, 1) := by decide +kernel
theorem dX12_weigh_22 : decode cX12_weigh 22 = .ok (.istore_n 2, 1) := by decide +kernel
theorem dX12_weigh_23 : decode cX12_weigh 23 = .ok (.iload_n 2, 1) := by decide +kernel
theorem dX12_weigh_24 : decode cX12_weigh 24 = .ok (.iconst 4, 1) := by decide +kernel
theorem dX12_weigh_25 : decode cX12_weigh 25 = .ok (.if_icmp .ge 63, 3) := by decide +kernel
theorem dX12_weigh_28 : decode cX12_weigh 28 = .ok (.aload_n 0, 1) := by decide +kernel
theorem dX12_weigh_29 : decode cX12_weigh 29 = .ok (.getfield 41, 3) := by decide +kernel
theorem dX12_weigh_32 : decode cX12_weigh 32 = .ok (.iload_n 1, 1) := by decide +kernel
theorem dX12_weigh_33 : decode cX12_weigh 33 = .ok (.baload, 1) := by decide +kernel
theorem dX12_weigh_34 : decode cX12_weigh 34 = .ok (.ifCond .ne 54, 3) := by decide +kernel
theorem dX12_weigh_37 : decode cX12_weigh 37 = .ok (.aload_n 0, 1) := by decide +kernel
theorem dX12_weigh_38 : decode cX12_weigh 38 = .ok (.getfield 87, 3) := by decide +kernel
theorem dX12_weigh_41 : decode cX12_weigh 41 = .ok (.iload_n 1, 1) := by decide +kernel
theorem dX12_weigh_42 : decode cX12_weigh 42 = .ok (.dup2, 1) := by decide +kernel
theorem dX12_weigh_43 : decode cX12_weigh 43 = .ok (.iaload, 1) := by decide +kernel
theorem dX12_weigh_44 : decode cX12_weigh 44 = .ok (.aload_n 0, 1) := by decide +kernel
theorem dX12_weigh_45 : decode cX12_weigh 45 = .ok (.iload_n 1, 1) := by decide +kernel
theorem dX12_weigh_46 : decode cX12_weigh 46 = .ok (.iload_n 2, 1) := by decide +kernel
theorem dX12_weigh_47 : decode cX12_weigh 47 = .ok (.invokevirtual 174, 3) := by decide +kernel
theorem dX12_weigh_50 : decode cX12_weigh 50 = .ok (.aload_n 0, 1) := by decide +kernel
theorem dX12_weigh_51 : decode cX12_weigh 51 = .ok (.getfield 16, 3) := by decide +kernel
theorem dX12_weigh_54 : decode cX12_weigh 54 = .ok (.iload_n 2, 1) := by decide +kernel
theorem dX12_weigh_55 : decode cX12_weigh 55 = .ok (.iaload, 1) := by decide +kernel
theorem dX12_weigh_56 : decode cX12_weigh 56 = .ok (.iconst 2, 1) := by decide +kernel
theorem dX12_weigh_57 : decode cX12_weigh 57 = .ok (.if_icmp .ne 7, 3) := by decide +kernel
theorem dX12_weigh_60 : decode cX12_weigh 60 = .ok (.iconst 2, 1) := by decide +kernel
theorem dX12_weigh_61 : decode cX12_weigh 61 = .ok (.goto 18, 3) := by decide +kernel
theorem dX12_weigh_64 : decode cX12_weigh 64 = .ok (.aload_n 0, 1) := by decide +kernel
theorem dX12_weigh_65 : decode cX12_weigh 65 = .ok (.getfield 16, 3) := by decide +kernel
theorem dX12_weigh_68 : decode cX12_weigh 68 = .ok (.iload_n 2, 1) := by decide +kernel
theorem dX12_weigh_69 : decode cX12_weigh 69 = .ok (.iaload, 1) := by decide +kernel
theorem dX12_weigh_70 : decode cX12_weigh 70 = .ok (.iconst 3, 1) := by decide +kernel
theorem dX12_weigh_71 : decode cX12_weigh 71 = .ok (.if_icmp .ne 7, 3) := by decide +kernel
theorem dX12_weigh_74 : decode cX12_weigh 74 = .ok (.iconst 3, 1) := by decide +kernel
theorem dX12_weigh_75 : decode cX12_weigh 75 = .ok (.goto 4, 3) := by decide +kernel
theorem dX12_weigh_78 : decode cX12_weigh 78 = .ok (.iconst 1, 1) := by decide +kernel
theorem dX12_weigh_79 : decode cX12_weigh 79 = .ok (.imul, 1) := by decide +kernel
theorem dX12_weigh_80 : decode cX12_weigh 80 = .ok (.iadd, 1) := by decide +kernel
theorem dX12_weigh_81 : decode cX12_weigh 81 = .ok (.iastore, 1) := by decide +kernel
theorem dX12_weigh_82 : decode cX12_weigh 82 = .ok (.iinc 2 1, 3) := by decide +kernel
theorem dX12_weigh_85 : decode cX12_weigh 85 = .ok (.goto (-62), 3) := by decide +kernel
theorem dX12_weigh_88 : decode cX12_weigh 88 = .ok (.iinc 1 1, 3) := by decide +kernel
theorem dX12_weigh_91 : decode cX12_weigh 91 = .ok (.goto (-85), 3) := by decide +kernel
theorem dX12_weigh_94 : decode cX12_weigh 94 = .ok (.return_, 1) := by decide +kernel

set_option maxHeartbeats 4000000 in
set_option maxRecDepth 100000 in
theorem c_X12_weigh (l : Launch) (E : Ev) {A : Nat → Prop} (ad : Nat → Nat) (hA : Oka 30 ad A) (sc : Nat → Int32) (ar : Nat → Nat → Int32) (la : Nat → Int64) {nW nF wd hg : Nat}  (hW : sc 3 = nI nW) (hW60 : nW ≤ 60) (hF : sc 4 = nI nF) (hF200 : nF ≤ 200) (hK4 : ∀ f, f < nF → ∃ k, k < 4 ∧ ar 7 f = nI k) (hwd : sc 0 = nI wd) (hwd1 : 2 ≤ wd) (hwd2 : wd ≤ 8) (hhg : sc 1 = nI hg) (hhg1 : 2 ≤ hg) (hhg2 : hg ≤ 8) (hV : ∀ i, i < nW → ∃ v, v < 5 ∧ ar 2 i = nI v) : Ct l E yX12_weigh (.code yX12_weigh cX12_weigh 3 none) ({ frames := 3, cells := 0, slots := 0, locals := 70 }) A (mw E ad sc ar la) [.ref (ad 0)] (none) (mw E ad sc (va_up (va_up (va_up (va_up ar 20 (fiI (fun k => fns (ar 1) (ar 5) (ar 7) (ar 8) (nI k) nF) nW (ar 20) 5)) 21 (cotI (fun v => mey (fun k => fns (ar 1) (ar 5) (ar 7) (ar 8) (nI k) nF) (ar 2) (ar 3) nW (nI v)) (ar 21) 5)) 22 (cotI (fun r => mtl nW nF (ar 3) (ar 5) (ar 8) (nI r)) (ar 22) hg)) 23 (cotI (mwv (mcc (ar 1) (ar 2) (ar 5) (ar 6) (ar 7) (ar 8) (cotI (fun v => mey (fun k => fns (ar 1) (ar 5) (ar 7) (ar 8) (nI k) nF) (ar 2) (ar 3) nW (nI v)) (ar 21) 5) (cotI (fun r => mtl nW nF (ar 3) (ar 5) (ar 8) (nI r)) (ar 22) hg) nF wd) (ar 1) (ar 9)) (ar 23) (wd * hg))) la) := by
  have hm := prod64 hwd2 hhg2
  have hC := cho_in nW nF hg (ar 3) (ar 5) (ar 8) (ar 22)
  refine Ct.of (lv := [(0, .ref (ad 0))]) (by decide +kernel) (Nat.le_of_ble_eq_true rfl) rfl ?_
  intro zp ze zs zm za zb zh zc hc
  refine g_aload_n (pc := 0) hc 0 dX12_weigh_0 rfl rfl ?_
  refine g_callVv (pc := 1) (rest := []) (As := []) hc (c_X12_look l E ad hA sc ar la  (hW) (hW60) (hF) (hF200) (hK4) (hwd) (hwd1) (hwd2) (hhg) (hhg1) (hhg2)) mi_X12_look tw_1237 0 rfl rfl rfl rfl ⟨rfl, rfl, by decide, by decide⟩ (Nat.le_of_ble_eq_true rfl) ⟨Nat.le_refl _, Nat.le_refl _⟩ rfl dX12_weigh_1 ?_
  refine g_iconst (pc := 4) (v := nI 0) hc dX12_weigh_4 (by decide) ?_
  refine g_istore_n (pc := 5) (lv' := [(0, .ref (ad 0)), (1, .int (nI 0))]) hc dX12_weigh_5 rfl (by decide) rfl ?_
  have L6_1 : ∀ (kp p : Nat), p + kp = wd * hg → G zp l ze ({ frames := 3, cells := 0, slots := 0, locals := 70 }) zs zm za zb zh zc 0 0 (MQ zb (Qz E A (none) (mw E ad sc (va_up (va_up (va_up (va_up ar 20 (fiI (fun k => fns (ar 1) (ar 5) (ar 7) (ar 8) (nI k) nF) nW (ar 20) 5)) 21 (cotI (fun v => mey (fun k => fns (ar 1) (ar 5) (ar 7) (ar 8) (nI k) nF) (ar 2) (ar 3) nW (nI v)) (ar 21) 5)) 22 (cotI (fun r => mtl nW nF (ar 3) (ar 5) (ar 8) (nI r)) (ar 22) hg)) 23 (cotI (mwv (mcc (ar 1) (ar 2) (ar 5) (ar 6) (ar 7) (ar 8) (cotI (fun v => mey (fun k => fns (ar 1) (ar 5) (ar 7) (ar 8) (nI k) nF) (ar 2) (ar 3) nW (nI v)) (ar 21) 5) (cotI (fun r => mtl nW nF (ar 3) (ar 5) (ar 8) (nI r)) (ar 22) hg) nF wd) (ar 1) (ar 9)) (ar 23) (wd * hg))) la)) za zs 0 0 A) E A 3 (mw E ad sc (va_up (va_up (va_up (va_up ar 20 (fiI (fun k => fns (ar 1) (ar 5) (ar 7) (ar 8) (nI k) nF) nW (ar 20) 5)) 21 (cotI (fun v => mey (fun k => fns (ar 1) (ar 5) (ar 7) (ar 8) (nI k) nF) (ar 2) (ar 3) nW (nI v)) (ar 21) 5)) 22 (cotI (fun r => mtl nW nF (ar 3) (ar 5) (ar 8) (nI r)) (ar 22) hg)) 23 (cotI (mwv (mcc (ar 1) (ar 2) (ar 5) (ar 6) (ar 7) (ar 8) (cotI (fun v => mey (fun k => fns (ar 1) (ar 5) (ar 7) (ar 8) (nI k) nF) (ar 2) (ar 3) nW (nI v)) (ar 21) 5) (cotI (fun r => mtl nW nF (ar 3) (ar 5) (ar 8) (nI r)) (ar 22) hg) nF wd) (ar 1) (ar 9)) (ar 23) (p))) la) (6) [(0, .ref (ad 0)), (1, .int (nI (p)))] [] := by
    intro kp
    induction kp with
    | zero =>
      intro p lhp
      have lhpn : wd * hg = p := by omega
      subst lhpn
      refine g_iload_n (pc := 6) hc 1 dX12_weigh_6 rfl rfl ?_
      refine g_aload_n (pc := 7) hc 0 dX12_weigh_7 rfl rfl ?_
      refine g_callVi (pc := 8) (rest := [.int (nI (wd * hg))]) (As := []) hc (c_X12_paces l E ad hA sc (va_up (va_up (va_up (va_up ar 20 (fiI (fun k => fns (ar 1) (ar 5) (ar 7) (ar 8) (nI k) nF) nW (ar 20) 5)) 21 (cotI (fun v => mey (fun k => fns (ar 1) (ar 5) (ar 7) (ar 8) (nI k) nF) (ar 2) (ar 3) nW (nI v)) (ar 21) 5)) 22 (cotI (fun r => mtl nW nF (ar 3) (ar 5) (ar 8) (nI r)) (ar 22) hg)) 23 (cotI (mwv (mcc (ar 1) (ar 2) (ar 5) (ar 6) (ar 7) (ar 8) (cotI (fun v => mey (fun k => fns (ar 1) (ar 5) (ar 7) (ar 8) (nI k) nF) (ar 2) (ar 3) nW (nI v)) (ar 21) 5) (cotI (fun r => mtl nW nF (ar 3) (ar 5) (ar 8) (nI r)) (ar 22) hg) nF wd) (ar 1) (ar 9)) (ar 23) (wd * hg))) la  (hwd) (hwd1) (hwd2) (hhg) (hhg1) (hhg2)) mi_X12_paces tw_1140 0 rfl rfl rfl rfl ⟨rfl, rfl, by decide, by decide⟩ (Nat.le_of_ble_eq_true rfl) ⟨Nat.le_refl _, Nat.le_refl _⟩ rfl dX12_weigh_8 ?_
      refine g_topi (v := nI (wd * hg)) rfl ?_
      refine g_icmp_ge_t (pc := 11) hc 94 dX12_weigh_11 (by decide) (nI_le (by omega) (by omega)) ?_
      exact g_vret (pc := 94) hc dX12_weigh_94 rfl (rfl)
    | succ kp ihp =>
      intro p lhp
      have lhpn : p < wd * hg := by omega
      refine g_iload_n (pc := 6) hc 1 dX12_weigh_6 rfl rfl ?_
      refine g_aload_n (pc := 7) hc 0 dX12_weigh_7 rfl rfl ?_
      refine g_callVi (pc := 8) (rest := [.int (nI (p))]) (As := []) hc (c_X12_paces l E ad hA sc (va_up (va_up (va_up (va_up ar 20 (fiI (fun k => fns (ar 1) (ar 5) (ar 7) (ar 8) (nI k) nF) nW (ar 20) 5)) 21 (cotI (fun v => mey (fun k => fns (ar 1) (ar 5) (ar 7) (ar 8) (nI k) nF) (ar 2) (ar 3) nW (nI v)) (ar 21) 5)) 22 (cotI (fun r => mtl nW nF (ar 3) (ar 5) (ar 8) (nI r)) (ar 22) hg)) 23 (cotI (mwv (mcc (ar 1) (ar 2) (ar 5) (ar 6) (ar 7) (ar 8) (cotI (fun v => mey (fun k => fns (ar 1) (ar 5) (ar 7) (ar 8) (nI k) nF) (ar 2) (ar 3) nW (nI v)) (ar 21) 5) (cotI (fun r => mtl nW nF (ar 3) (ar 5) (ar 8) (nI r)) (ar 22) hg) nF wd) (ar 1) (ar 9)) (ar 23) (p))) la  (hwd) (hwd1) (hwd2) (hhg) (hhg1) (hhg2)) mi_X12_paces tw_1140 0 rfl rfl rfl rfl ⟨rfl, rfl, by decide, by decide⟩ (Nat.le_of_ble_eq_true rfl) ⟨Nat.le_refl _, Nat.le_refl _⟩ rfl dX12_weigh_8 ?_
      refine g_topi (v := nI (wd * hg)) rfl ?_
      refine g_icmp_ge_f (pc := 11) hc 94 dX12_weigh_11 (by decide) (nI_ge (by omega) (by omega)) ?_
      refine g_aload_n (pc := 14) hc 0 dX12_weigh_14 rfl rfl ?_
      refine gf_m0_worths (pc := 15) hc tw_1032 dX12_weigh_15 ?_
      refine g_iload_n (pc := 18) hc 1 dX12_weigh_18 rfl rfl ?_
      refine g_iconst (pc := 19) (v := nI 0) hc dX12_weigh_19 (by decide) ?_
      refine sa_m23 (pc := 20) hc hA (p) (rfl) (by omega) dX12_weigh_20 ?_
      refine g_eq (ws' := mw E ad sc (va_up (va_up (va_up (va_up ar 20 (fiI (fun k => fns (ar 1) (ar 5) (ar 7) (ar 8) (nI k) nF) nW (ar 20) 5)) 21 (cotI (fun v => mey (fun k => fns (ar 1) (ar 5) (ar 7) (ar 8) (nI k) nF) (ar 2) (ar 3) nW (nI v)) (ar 21) 5)) 22 (cotI (fun r => mtl nW nF (ar 3) (ar 5) (ar 8) (nI r)) (ar 22) hg)) 23 (upd (cotI (mwv (mcc (ar 1) (ar 2) (ar 5) (ar 6) (ar 7) (ar 8) (cotI (fun v => mey (fun k => fns (ar 1) (ar 5) (ar 7) (ar 8) (nI k) nF) (ar 2) (ar 3) nW (nI v)) (ar 21) 5) (cotI (fun r => mtl nW nF (ar 3) (ar 5) (ar 8) (nI r)) (ar 22) hg) nF wd) (ar 1) (ar 9)) (ar 23) (p)) p (nI 0))) la) (lv' := [(0, .ref (ad 0)), (1, .int (nI (p)))]) rfl rfl rfl ?_
      refine g_iconst (pc := 21) (v := nI 0) hc dX12_weigh_21 (by decide) ?_
      refine g_istore_n (pc := 22) (lv' := [(0, .ref (ad 0)), (1, .int (nI (p))), (2, .int (nI 0))]) hc dX12_weigh_22 rfl (by decide) rfl ?_
      have L23_2 : ∀ (kk k : Nat), k + kk = 4 → (hk : k = 0 ∨ ar 9 p = 0) → G zp l ze ({ frames := 3, cells := 0, slots := 0, locals := 70 }) zs zm za zb zh zc 0 0 (MQ zb (Qz E A (none) (mw E ad sc (va_up (va_up (va_up (va_up ar 20 (fiI (fun k => fns (ar 1) (ar 5) (ar 7) (ar 8) (nI k) nF) nW (ar 20) 5)) 21 (cotI (fun v => mey (fun k => fns (ar 1) (ar 5) (ar 7) (ar 8) (nI k) nF) (ar 2) (ar 3) nW (nI v)) (ar 21) 5)) 22 (cotI (fun r => mtl nW nF (ar 3) (ar 5) (ar 8) (nI r)) (ar 22) hg)) 23 (cotI (mwv (mcc (ar 1) (ar 2) (ar 5) (ar 6) (ar 7) (ar 8) (cotI (fun v => mey (fun k => fns (ar 1) (ar 5) (ar 7) (ar 8) (nI k) nF) (ar 2) (ar 3) nW (nI v)) (ar 21) 5) (cotI (fun r => mtl nW nF (ar 3) (ar 5) (ar 8) (nI r)) (ar 22) hg) nF wd) (ar 1) (ar 9)) (ar 23) (wd * hg))) la)) za zs 0 0 A) E A 3 (mw E ad sc (va_up (va_up (va_up (va_up ar 20 (fiI (fun k => fns (ar 1) (ar 5) (ar 7) (ar 8) (nI k) nF) nW (ar 20) 5)) 21 (cotI (fun v => mey (fun k => fns (ar 1) (ar 5) (ar 7) (ar 8) (nI k) nF) (ar 2) (ar 3) nW (nI v)) (ar 21) 5)) 22 (cotI (fun r => mtl nW nF (ar 3) (ar 5) (ar 8) (nI r)) (ar 22) hg)) 23 (upd (cotI (mwv (mcc (ar 1) (ar 2) (ar 5) (ar 6) (ar 7) (ar 8) (cotI (fun v => mey (fun k => fns (ar 1) (ar 5) (ar 7) (ar 8) (nI k) nF) (ar 2) (ar 3) nW (nI v)) (ar 21) 5) (cotI (fun r => mtl nW nF (ar 3) (ar 5) (ar 8) (nI r)) (ar 22) hg) nF wd) (ar 1) (ar 9)) (ar 23) p) p (mwa (mcc (ar 1) (ar 2) (ar 5) (ar 6) (ar 7) (ar 8) (cotI (fun v => mey (fun k => fns (ar 1) (ar 5) (ar 7) (ar 8) (nI k) nF) (ar 2) (ar 3) nW (nI v)) (ar 21) 5) (cotI (fun r => mtl nW nF (ar 3) (ar 5) (ar 8) (nI r)) (ar 22) hg) nF wd p) (ar 1) (k)))) la) (23) [(0, .ref (ad 0)), (1, .int (nI (p))), (2, .int (nI (k)))] [] := by
        intro kk
        induction kk with
        | zero =>
          intro k lhk hk
          have lhkn : 4 = k := by omega
          subst lhkn
          refine g_iload_n (pc := 23) hc 2 dX12_weigh_23 rfl rfl ?_
          refine g_iconst (pc := 24) (v := nI 4) hc dX12_weigh_24 (by decide) ?_
          refine g_icmp_ge_t (pc := 25) hc 88 dX12_weigh_25 (by decide) (nI_le (by omega) (by omega)) ?_
          refine g_iinc (pc := 88) (v := nI (p + 1)) (lv' := [(0, .ref (ad 0)), (1, .int (nI (p + 1))), (2, .int (nI (4)))]) hc 1 dX12_weigh_88 rfl (nI_ofi p 1) (by decide) rfl ?_
          refine g_goto (pc := 91) hc 6 dX12_weigh_91 (by decide) ?_
          refine g_lv [0, 1] (lv' := [(0, .ref (ad 0)), (1, .int (nI (p + 1)))]) rfl ?_
          exact g_eq (ws' := mw E ad sc (va_up (va_up (va_up (va_up ar 20 (fiI (fun k => fns (ar 1) (ar 5) (ar 7) (ar 8) (nI k) nF) nW (ar 20) 5)) 21 (cotI (fun v => mey (fun k => fns (ar 1) (ar 5) (ar 7) (ar 8) (nI k) nF) (ar 2) (ar 3) nW (nI v)) (ar 21) 5)) 22 (cotI (fun r => mtl nW nF (ar 3) (ar 5) (ar 8) (nI r)) (ar 22) hg)) 23 (cotI (mwv (mcc (ar 1) (ar 2) (ar 5) (ar 6) (ar 7) (ar 8) (cotI (fun v => mey (fun k => fns (ar 1) (ar 5) (ar 7) (ar 8) (nI k) nF) (ar 2) (ar 3) nW (nI v)) (ar 21) 5) (cotI (fun r => mtl nW nF (ar 3) (ar 5) (ar 8) (nI r)) (ar 22) hg) nF wd) (ar 1) (ar 9)) (ar 23) (p + 1))) la) (lv' := [(0, .ref (ad 0)), (1, .int (nI (p + 1)))]) (by rw [show cotI (mwv (mcc (ar 1) (ar 2) (ar 5) (ar 6) (ar 7) (ar 8) (cotI (fun v => mey (fun k => fns (ar 1) (ar 5) (ar 7) (ar 8) (nI k) nF) (ar 2) (ar 3) nW (nI v)) (ar 21) 5) (cotI (fun r => mtl nW nF (ar 3) (ar 5) (ar 8) (nI r)) (ar 22) hg) nF wd) (ar 1) (ar 9)) (ar 23) (p + 1) = upd (cotI (mwv (mcc (ar 1) (ar 2) (ar 5) (ar 6) (ar 7) (ar 8) (cotI (fun v => mey (fun k => fns (ar 1) (ar 5) (ar 7) (ar 8) (nI k) nF) (ar 2) (ar 3) nW (nI v)) (ar 21) 5) (cotI (fun r => mtl nW nF (ar 3) (ar 5) (ar 8) (nI r)) (ar 22) hg) nF wd) (ar 1) (ar 9)) (ar 23) p) p (mwv (mcc (ar 1) (ar 2) (ar 5) (ar 6) (ar 7) (ar 8) (cotI (fun v => mey (fun k => fns (ar 1) (ar 5) (ar 7) (ar 8) (nI k) nF) (ar 2) (ar 3) nW (nI v)) (ar 21) 5) (cotI (fun r => mtl nW nF (ar 3) (ar 5) (ar 8) (nI r)) (ar 22) hg) nF wd) (ar 1) (ar 9) p) from rfl, mwv, if_pos (hk.resolve_left (by decide))]) (rfl) rfl (ihp (p + 1) (by omega))
        | succ kk ihk =>
          intro k lhk hk
          have lhkn : k < 4 := by omega
          refine g_iload_n (pc := 23) hc 2 dX12_weigh_23 rfl rfl ?_
          refine g_iconst (pc := 24) (v := nI 4) hc dX12_weigh_24 (by decide) ?_
          refine g_icmp_ge_f (pc := 25) hc 88 dX12_weigh_25 (by decide) (nI_ge (by omega) (by omega)) ?_
          refine g_aload_n (pc := 28) hc 0 dX12_weigh_28 rfl rfl ?_
          refine gf_m0_isEmpty (pc := 29) hc tw_1014 dX12_weigh_29 ?_
          refine g_iload_n (pc := 32) hc 1 dX12_weigh_32 rfl rfl ?_
          refine la_m9 (pc := 33) hc (p) (rfl) (by omega) dX12_weigh_33 ?_
          refine g_topi (v := (ar 9) p) rfl ?_
          refine g_if_ne (pc := 34) hc 88 dX12_weigh_34 (by decide) (fun c3 => ?_) (fun c3 => ?_)
          · refine g_iinc (pc := 88) (v := nI (p + 1)) (lv' := [(0, .ref (ad 0)), (1, .int (nI (p + 1))), (2, .int (nI (k)))]) hc 1 dX12_weigh_88 rfl (nI_ofi p 1) (by decide) rfl ?_
            refine g_goto (pc := 91) hc 6 dX12_weigh_91 (by decide) ?_
            refine g_lv [0, 1] (lv' := [(0, .ref (ad 0)), (1, .int (nI (p + 1)))]) rfl ?_
            exact g_eq (ws' := mw E ad sc (va_up (va_up (va_up (va_up ar 20 (fiI (fun k => fns (ar 1) (ar 5) (ar 7) (ar 8) (nI k) nF) nW (ar 20) 5)) 21 (cotI (fun v => mey (fun k => fns (ar 1) (ar 5) (ar 7) (ar 8) (nI k) nF) (ar 2) (ar 3) nW (nI v)) (ar 21) 5)) 22 (cotI (fun r => mtl nW nF (ar 3) (ar 5) (ar 8) (nI r)) (ar 22) hg)) 23 (cotI (mwv (mcc (ar 1) (ar 2) (ar 5) (ar 6) (ar 7) (ar 8) (cotI (fun v => mey (fun k => fns (ar 1) (ar 5) (ar 7) (ar 8) (nI k) nF) (ar 2) (ar 3) nW (nI v)) (ar 21) 5) (cotI (fun r => mtl nW nF (ar 3) (ar 5) (ar 8) (nI r)) (ar 22) hg) nF wd) (ar 1) (ar 9)) (ar 23) (p + 1))) la) (lv' := [(0, .ref (ad 0)), (1, .int (nI (p + 1)))]) (by have hk0 : k = 0 := hk.resolve_right c3; subst hk0; rw [show cotI (mwv (mcc (ar 1) (ar 2) (ar 5) (ar 6) (ar 7) (ar 8) (cotI (fun v => mey (fun k => fns (ar 1) (ar 5) (ar 7) (ar 8) (nI k) nF) (ar 2) (ar 3) nW (nI v)) (ar 21) 5) (cotI (fun r => mtl nW nF (ar 3) (ar 5) (ar 8) (nI r)) (ar 22) hg) nF wd) (ar 1) (ar 9)) (ar 23) (p + 1) = upd (cotI (mwv (mcc (ar 1) (ar 2) (ar 5) (ar 6) (ar 7) (ar 8) (cotI (fun v => mey (fun k => fns (ar 1) (ar 5) (ar 7) (ar 8) (nI k) nF) (ar 2) (ar 3) nW (nI v)) (ar 21) 5) (cotI (fun r => mtl nW nF (ar 3) (ar 5) (ar 8) (nI r)) (ar 22) hg) nF wd) (ar 1) (ar 9)) (ar 23) p) p (mwv (mcc (ar 1) (ar 2) (ar 5) (ar 6) (ar 7) (ar 8) (cotI (fun v => mey (fun k => fns (ar 1) (ar 5) (ar 7) (ar 8) (nI k) nF) (ar 2) (ar 3) nW (nI v)) (ar 21) 5) (cotI (fun r => mtl nW nF (ar 3) (ar 5) (ar 8) (nI r)) (ar 22) hg) nF wd) (ar 1) (ar 9) p) from rfl, mwv, if_neg c3]; rfl) (rfl) rfl (ihp (p + 1) (by omega))
          · refine g_aload_n (pc := 37) hc 0 dX12_weigh_37 rfl rfl ?_
            refine gf_m0_worths (pc := 38) hc tw_1032 dX12_weigh_38 ?_
            refine g_iload_n (pc := 41) hc 1 dX12_weigh_41 rfl rfl ?_
            refine g_dup2 (pc := 42) hc dX12_weigh_42 rfl rfl ?_
            refine la_m23 (pc := 43) hc (p) (rfl) (by omega) dX12_weigh_43 ?_
            refine g_topi (v := (upd (cotI (mwv (mcc (ar 1) (ar 2) (ar 5) (ar 6) (ar 7) (ar 8) (cotI (fun v => mey (fun k => fns (ar 1) (ar 5) (ar 7) (ar 8) (nI k) nF) (ar 2) (ar 3) nW (nI v)) (ar 21) 5) (cotI (fun r => mtl nW nF (ar 3) (ar 5) (ar 8) (nI r)) (ar 22) hg) nF wd) (ar 1) (ar 9)) (ar 23) p) p (mwa (mcc (ar 1) (ar 2) (ar 5) (ar 6) (ar 7) (ar 8) (cotI (fun v => mey (fun k => fns (ar 1) (ar 5) (ar 7) (ar 8) (nI k) nF) (ar 2) (ar 3) nW (nI v)) (ar 21) 5) (cotI (fun r => mtl nW nF (ar 3) (ar 5) (ar 8) (nI r)) (ar 22) hg) nF wd p) (ar 1) (k))) p) rfl ?_
            refine g_topi (v := mwa (mcc (ar 1) (ar 2) (ar 5) (ar 6) (ar 7) (ar 8) (cotI (fun v => mey (fun k => fns (ar 1) (ar 5) (ar 7) (ar 8) (nI k) nF) (ar 2) (ar 3) nW (nI v)) (ar 21) 5) (cotI (fun r => mtl nW nF (ar 3) (ar 5) (ar 8) (nI r)) (ar 22) hg) nF wd p) (ar 1) k) (pk_us) ?_
            refine g_aload_n (pc := 44) hc 0 dX12_weigh_44 rfl rfl ?_
            refine g_iload_n (pc := 45) hc 1 dX12_weigh_45 rfl rfl ?_
            refine g_iload_n (pc := 46) hc 2 dX12_weigh_46 rfl rfl ?_
            refine g_callVi (pc := 47) (rest := [.int (mwa (mcc (ar 1) (ar 2) (ar 5) (ar 6) (ar 7) (ar 8) (cotI (fun v => mey (fun k => fns (ar 1) (ar 5) (ar 7) (ar 8) (nI k) nF) (ar 2) (ar 3) nW (nI v)) (ar 21) 5) (cotI (fun r => mtl nW nF (ar 3) (ar 5) (ar 8) (nI r)) (ar 22) hg) nF wd p) (ar 1) k), .int (nI (p)), .ref (ad 23)]) (As := [.int (nI (p)), .int (nI (k))]) hc (c_X12_correctedAt l E ad hA sc (va_up (va_up (va_up (va_up ar 20 (fiI (fun k => fns (ar 1) (ar 5) (ar 7) (ar 8) (nI k) nF) nW (ar 20) 5)) 21 (cotI (fun v => mey (fun k => fns (ar 1) (ar 5) (ar 7) (ar 8) (nI k) nF) (ar 2) (ar 3) nW (nI v)) (ar 21) 5)) 22 (cotI (fun r => mtl nW nF (ar 3) (ar 5) (ar 8) (nI r)) (ar 22) hg)) 23 (upd (cotI (mwv (mcc (ar 1) (ar 2) (ar 5) (ar 6) (ar 7) (ar 8) (cotI (fun v => mey (fun k => fns (ar 1) (ar 5) (ar 7) (ar 8) (nI k) nF) (ar 2) (ar 3) nW (nI v)) (ar 21) 5) (cotI (fun r => mtl nW nF (ar 3) (ar 5) (ar 8) (nI r)) (ar 22) hg) nF wd) (ar 1) (ar 9)) (ar 23) p) p (mwa (mcc (ar 1) (ar 2) (ar 5) (ar 6) (ar 7) (ar 8) (cotI (fun v => mey (fun k => fns (ar 1) (ar 5) (ar 7) (ar 8) (nI k) nF) (ar 2) (ar 3) nW (nI v)) (ar 21) 5) (cotI (fun r => mtl nW nF (ar 3) (ar 5) (ar 8) (nI r)) (ar 22) hg) nF wd p) (ar 1) (k)))) la p k (hF) (hF200) (hwd) (hwd1) (hwd2) (hhg) (hhg1) (hhg2) (by omega) (by omega) (hC) (hW60) (hV)) mi_X12_correctedAt tw_1241 0 rfl rfl rfl rfl ⟨rfl, rfl, by decide, by decide⟩ (Nat.le_of_ble_eq_true rfl) ⟨Nat.le_refl _, Nat.le_refl _⟩ rfl dX12_weigh_47 ?_
            refine g_topi (v := mcc (ar 1) (ar 2) (ar 5) (ar 6) (ar 7) (ar 8) (cotI (fun v => mey (fun k => fns (ar 1) (ar 5) (ar 7) (ar 8) (nI k) nF) (ar 2) (ar 3) nW (nI v)) (ar 21) 5) (cotI (fun r => mtl nW nF (ar 3) (ar 5) (ar 8) (nI r)) (ar 22) hg) nF wd p k) rfl ?_
            refine g_aload_n (pc := 50) hc 0 dX12_weigh_50 rfl rfl ?_
            refine gf_m0_sorts (pc := 51) hc tw_1003 dX12_weigh_51 ?_
            refine g_iload_n (pc := 54) hc 2 dX12_weigh_54 rfl rfl ?_
            refine la_m1 (pc := 55) hc (k) (rfl) (by omega) dX12_weigh_55 ?_
            refine g_topi (v := (ar 1) k) rfl ?_
            refine g_iconst (pc := 56) (v := nI 2) hc dX12_weigh_56 (by decide) ?_
            refine g_icmp_ne (pc := 57) hc 64 dX12_weigh_57 (by decide) (fun c4 => ?_) (fun c4 => ?_)
            · refine g_aload_n (pc := 64) hc 0 dX12_weigh_64 rfl rfl ?_
              refine gf_m0_sorts (pc := 65) hc tw_1003 dX12_weigh_65 ?_
              refine g_iload_n (pc := 68) hc 2 dX12_weigh_68 rfl rfl ?_
              refine la_m1 (pc := 69) hc (k) (rfl) (by omega) dX12_weigh_69 ?_
              refine g_topi (v := (ar 1) k) rfl ?_
              refine g_iconst (pc := 70) (v := nI 3) hc dX12_weigh_70 (by decide) ?_
              refine g_icmp_ne (pc := 71) hc 78 dX12_weigh_71 (by decide) (fun c5 => ?_) (fun c5 => ?_)
              · refine g_iconst (pc := 78) (v := nI 1) hc dX12_weigh_78 (by decide) ?_
                refine g_topi (v := mwt (ar 1) k) (by unfold mwt; (repeat (first | rw [if_pos c3] | rw [if_neg c3] | rw [if_neg (ne_true_of_eq_false c3)] | rw [if_pos c4] | rw [if_neg c4] | rw [if_neg (ne_true_of_eq_false c4)] | rw [if_pos c5] | rw [if_neg c5] | rw [if_neg (ne_true_of_eq_false c5)]))) ?_
                refine g_imul (pc := 79) hc dX12_weigh_79 ?_
                refine g_iadd (pc := 80) hc dX12_weigh_80 ?_
                refine sa_m23 (pc := 81) hc hA (p) (rfl) (by omega) dX12_weigh_81 ?_
                refine g_eq (ws' := mw E ad sc (va_up (va_up (va_up (va_up ar 20 (fiI (fun k => fns (ar 1) (ar 5) (ar 7) (ar 8) (nI k) nF) nW (ar 20) 5)) 21 (cotI (fun v => mey (fun k => fns (ar 1) (ar 5) (ar 7) (ar 8) (nI k) nF) (ar 2) (ar 3) nW (nI v)) (ar 21) 5)) 22 (cotI (fun r => mtl nW nF (ar 3) (ar 5) (ar 8) (nI r)) (ar 22) hg)) 23 (upd (upd (cotI (mwv (mcc (ar 1) (ar 2) (ar 5) (ar 6) (ar 7) (ar 8) (cotI (fun v => mey (fun k => fns (ar 1) (ar 5) (ar 7) (ar 8) (nI k) nF) (ar 2) (ar 3) nW (nI v)) (ar 21) 5) (cotI (fun r => mtl nW nF (ar 3) (ar 5) (ar 8) (nI r)) (ar 22) hg) nF wd) (ar 1) (ar 9)) (ar 23) p) p (mwa (mcc (ar 1) (ar 2) (ar 5) (ar 6) (ar 7) (ar 8) (cotI (fun v => mey (fun k => fns (ar 1) (ar 5) (ar 7) (ar 8) (nI k) nF) (ar 2) (ar 3) nW (nI v)) (ar 21) 5) (cotI (fun r => mtl nW nF (ar 3) (ar 5) (ar 8) (nI r)) (ar 22) hg) nF wd p) (ar 1) (k))) p ((mwa (mcc (ar 1) (ar 2) (ar 5) (ar 6) (ar 7) (ar 8) (cotI (fun v => mey (fun k => fns (ar 1) (ar 5) (ar 7) (ar 8) (nI k) nF) (ar 2) (ar 3) nW (nI v)) (ar 21) 5) (cotI (fun r => mtl nW nF (ar 3) (ar 5) (ar 8) (nI r)) (ar 22) hg) nF wd p) (ar 1) k) + ((mcc (ar 1) (ar 2) (ar 5) (ar 6) (ar 7) (ar 8) (cotI (fun v => mey (fun k => fns (ar 1) (ar 5) (ar 7) (ar 8) (nI k) nF) (ar 2) (ar 3) nW (nI v)) (ar 21) 5) (cotI (fun r => mtl nW nF (ar 3) (ar 5) (ar 8) (nI r)) (ar 22) hg) nF wd p k) * (mwt (ar 1) k))))) la) (lv' := [(0, .ref (ad 0)), (1, .int (nI (p))), (2, .int (nI (k)))]) rfl rfl rfl ?_
                refine g_iinc (pc := 82) (v := nI (k + 1)) (lv' := [(0, .ref (ad 0)), (1, .int (nI (p))), (2, .int (nI (k + 1)))]) hc 2 dX12_weigh_82 rfl (nI_ofi k 1) (by decide) rfl ?_
                refine g_goto (pc := 85) hc 23 dX12_weigh_85 (by decide) ?_
                exact g_eq (ws' := mw E ad sc (va_up (va_up (va_up (va_up ar 20 (fiI (fun k => fns (ar 1) (ar 5) (ar 7) (ar 8) (nI k) nF) nW (ar 20) 5)) 21 (cotI (fun v => mey (fun k => fns (ar 1) (ar 5) (ar 7) (ar 8) (nI k) nF) (ar 2) (ar 3) nW (nI v)) (ar 21) 5)) 22 (cotI (fun r => mtl nW nF (ar 3) (ar 5) (ar 8) (nI r)) (ar 22) hg)) 23 (upd (cotI (mwv (mcc (ar 1) (ar 2) (ar 5) (ar 6) (ar 7) (ar 8) (cotI (fun v => mey (fun k => fns (ar 1) (ar 5) (ar 7) (ar 8) (nI k) nF) (ar 2) (ar 3) nW (nI v)) (ar 21) 5) (cotI (fun r => mtl nW nF (ar 3) (ar 5) (ar 8) (nI r)) (ar 22) hg) nF wd) (ar 1) (ar 9)) (ar 23) p) p (mwa (mcc (ar 1) (ar 2) (ar 5) (ar 6) (ar 7) (ar 8) (cotI (fun v => mey (fun k => fns (ar 1) (ar 5) (ar 7) (ar 8) (nI k) nF) (ar 2) (ar 3) nW (nI v)) (ar 21) 5) (cotI (fun r => mtl nW nF (ar 3) (ar 5) (ar 8) (nI r)) (ar 22) hg) nF wd p) (ar 1) (k + 1)))) la) (lv' := [(0, .ref (ad 0)), (1, .int (nI (p))), (2, .int (nI (k + 1)))]) (by rw [upd2]; rfl) (rfl) rfl (ihk (k + 1) (by omega) (Or.inr c3))
              · refine g_iconst (pc := 74) (v := nI 3) hc dX12_weigh_74 (by decide) ?_
                refine g_goto (pc := 75) hc 79 dX12_weigh_75 (by decide) ?_
                refine g_topi (v := mwt (ar 1) k) (by unfold mwt; (repeat (first | rw [if_pos c3] | rw [if_neg c3] | rw [if_neg (ne_true_of_eq_false c3)] | rw [if_pos c4] | rw [if_neg c4] | rw [if_neg (ne_true_of_eq_false c4)] | rw [if_pos c5] | rw [if_neg c5] | rw [if_neg (ne_true_of_eq_false c5)]))) ?_
                refine g_imul (pc := 79) hc dX12_weigh_79 ?_
                refine g_iadd (pc := 80) hc dX12_weigh_80 ?_
                refine sa_m23 (pc := 81) hc hA (p) (rfl) (by omega) dX12_weigh_81 ?_
                refine g_eq (ws' := mw E ad sc (va_up (va_up (va_up (va_up ar 20 (fiI (fun k => fns (ar 1) (ar 5) (ar 7) (ar 8) (nI k) nF) nW (ar 20) 5)) 21 (cotI (fun v => mey (fun k => fns (ar 1) (ar 5) (ar 7) (ar 8) (nI k) nF) (ar 2) (ar 3) nW (nI v)) (ar 21) 5)) 22 (cotI (fun r => mtl nW nF (ar 3) (ar 5) (ar 8) (nI r)) (ar 22) hg)) 23 (upd (upd (cotI (mwv (mcc (ar 1) (ar 2) (ar 5) (ar 6) (ar 7) (ar 8) (cotI (fun v => mey (fun k => fns (ar 1) (ar 5) (ar 7) (ar 8) (nI k) nF) (ar 2) (ar 3) nW (nI v)) (ar 21) 5) (cotI (fun r => mtl nW nF (ar 3) (ar 5) (ar 8) (nI r)) (ar 22) hg) nF wd) (ar 1) (ar 9)) (ar 23) p) p (mwa (mcc (ar 1) (ar 2) (ar 5) (ar 6) (ar 7) (ar 8) (cotI (fun v => mey (fun k => fns (ar 1) (ar 5) (ar 7) (ar 8) (nI k) nF) (ar 2) (ar 3) nW (nI v)) (ar 21) 5) (cotI (fun r => mtl nW nF (ar 3) (ar 5) (ar 8) (nI r)) (ar 22) hg) nF wd p) (ar 1) (k))) p ((mwa (mcc (ar 1) (ar 2) (ar 5) (ar 6) (ar 7) (ar 8) (cotI (fun v => mey (fun k => fns (ar 1) (ar 5) (ar 7) (ar 8) (nI k) nF) (ar 2) (ar 3) nW (nI v)) (ar 21) 5) (cotI (fun r => mtl nW nF (ar 3) (ar 5) (ar 8) (nI r)) (ar 22) hg) nF wd p) (ar 1) k) + ((mcc (ar 1) (ar 2) (ar 5) (ar 6) (ar 7) (ar 8) (cotI (fun v => mey (fun k => fns (ar 1) (ar 5) (ar 7) (ar 8) (nI k) nF) (ar 2) (ar 3) nW (nI v)) (ar 21) 5) (cotI (fun r => mtl nW nF (ar 3) (ar 5) (ar 8) (nI r)) (ar 22) hg) nF wd p k) * (mwt (ar 1) k))))) la) (lv' := [(0, .ref (ad 0)), (1, .int (nI (p))), (2, .int (nI (k)))]) rfl rfl rfl ?_
                refine g_iinc (pc := 82) (v := nI (k + 1)) (lv' := [(0, .ref (ad 0)), (1, .int (nI (p))), (2, .int (nI (k + 1)))]) hc 2 dX12_weigh_82 rfl (nI_ofi k 1) (by decide) rfl ?_
                refine g_goto (pc := 85) hc 23 dX12_weigh_85 (by decide) ?_
                exact g_eq (ws' := mw E ad sc (va_up (va_up (va_up (va_up ar 20 (fiI (fun k => fns (ar 1) (ar 5) (ar 7) (ar 8) (nI k) nF) nW (ar 20) 5)) 21 (cotI (fun v => mey (fun k => fns (ar 1) (ar 5) (ar 7) (ar 8) (nI k) nF) (ar 2) (ar 3) nW (nI v)) (ar 21) 5)) 22 (cotI (fun r => mtl nW nF (ar 3) (ar 5) (ar 8) (nI r)) (ar 22) hg)) 23 (upd (cotI (mwv (mcc (ar 1) (ar 2) (ar 5) (ar 6) (ar 7) (ar 8) (cotI (fun v => mey (fun k => fns (ar 1) (ar 5) (ar 7) (ar 8) (nI k) nF) (ar 2) (ar 3) nW (nI v)) (ar 21) 5) (cotI (fun r => mtl nW nF (ar 3) (ar 5) (ar 8) (nI r)) (ar 22) hg) nF wd) (ar 1) (ar 9)) (ar 23) p) p (mwa (mcc (ar 1) (ar 2) (ar 5) (ar 6) (ar 7) (ar 8) (cotI (fun v => mey (fun k => fns (ar 1) (ar 5) (ar 7) (ar 8) (nI k) nF) (ar 2) (ar 3) nW (nI v)) (ar 21) 5) (cotI (fun r => mtl nW nF (ar 3) (ar 5) (ar 8) (nI r)) (ar 22) hg) nF wd p) (ar 1) (k + 1)))) la) (lv' := [(0, .ref (ad 0)), (1, .int (nI (p))), (2, .int (nI (k + 1)))]) (by rw [upd2]; rfl) (rfl) rfl (ihk (k + 1) (by omega) (Or.inr c3))
            · refine g_iconst (pc := 60) (v := nI 2) hc dX12_weigh_60 (by decide) ?_
              refine g_goto (pc := 61) hc 79 dX12_weigh_61 (by decide) ?_
              refine g_topi (v := mwt (ar 1) k) (by unfold mwt; (repeat (first | rw [if_pos c3] | rw [if_neg c3] | rw [if_neg (ne_true_of_eq_false c3)] | rw [if_pos c4] | rw [if_neg c4] | rw [if_neg (ne_true_of_eq_false c4)]))) ?_
              refine g_imul (pc := 79) hc dX12_weigh_79 ?_
              refine g_iadd (pc := 80) hc dX12_weigh_80 ?_
              refine sa_m23 (pc := 81) hc hA (p) (rfl) (by omega) dX12_weigh_81 ?_
              refine g_eq (ws' := mw E ad sc (va_up (va_up (va_up (va_up ar 20 (fiI (fun k => fns (ar 1) (ar 5) (ar 7) (ar 8) (nI k) nF) nW (ar 20) 5)) 21 (cotI (fun v => mey (fun k => fns (ar 1) (ar 5) (ar 7) (ar 8) (nI k) nF) (ar 2) (ar 3) nW (nI v)) (ar 21) 5)) 22 (cotI (fun r => mtl nW nF (ar 3) (ar 5) (ar 8) (nI r)) (ar 22) hg)) 23 (upd (upd (cotI (mwv (mcc (ar 1) (ar 2) (ar 5) (ar 6) (ar 7) (ar 8) (cotI (fun v => mey (fun k => fns (ar 1) (ar 5) (ar 7) (ar 8) (nI k) nF) (ar 2) (ar 3) nW (nI v)) (ar 21) 5) (cotI (fun r => mtl nW nF (ar 3) (ar 5) (ar 8) (nI r)) (ar 22) hg) nF wd) (ar 1) (ar 9)) (ar 23) p) p (mwa (mcc (ar 1) (ar 2) (ar 5) (ar 6) (ar 7) (ar 8) (cotI (fun v => mey (fun k => fns (ar 1) (ar 5) (ar 7) (ar 8) (nI k) nF) (ar 2) (ar 3) nW (nI v)) (ar 21) 5) (cotI (fun r => mtl nW nF (ar 3) (ar 5) (ar 8) (nI r)) (ar 22) hg) nF wd p) (ar 1) (k))) p ((mwa (mcc (ar 1) (ar 2) (ar 5) (ar 6) (ar 7) (ar 8) (cotI (fun v => mey (fun k => fns (ar 1) (ar 5) (ar 7) (ar 8) (nI k) nF) (ar 2) (ar 3) nW (nI v)) (ar 21) 5) (cotI (fun r => mtl nW nF (ar 3) (ar 5) (ar 8) (nI r)) (ar 22) hg) nF wd p) (ar 1) k) + ((mcc (ar 1) (ar 2) (ar 5) (ar 6) (ar 7) (ar 8) (cotI (fun v => mey (fun k => fns (ar 1) (ar 5) (ar 7) (ar 8) (nI k) nF) (ar 2) (ar 3) nW (nI v)) (ar 21) 5) (cotI (fun r => mtl nW nF (ar 3) (ar 5) (ar 8) (nI r)) (ar 22) hg) nF wd p k) * (mwt (ar 1) k))))) la) (lv' := [(0, .ref (ad 0)), (1, .int (nI (p))), (2, .int (nI (k)))]) rfl rfl rfl ?_
              refine g_iinc (pc := 82) (v := nI (k + 1)) (lv' := [(0, .ref (ad 0)), (1, .int (nI (p))), (2, .int (nI (k + 1)))]) hc 2 dX12_weigh_82 rfl (nI_ofi k 1) (by decide) rfl ?_
              refine g_goto (pc := 85) hc 23 dX12_weigh_85 (by decide) ?_
              exact g_eq (ws' := mw E ad sc (va_up (va_up (va_up (va_up ar 20 (fiI (fun k => fns (ar 1) (ar 5) (ar 7) (ar 8) (nI k) nF) nW (ar 20) 5)) 21 (cotI (fun v => mey (fun k => fns (ar 1) (ar 5) (ar 7) (ar 8) (nI k) nF) (ar 2) (ar 3) nW (nI v)) (ar 21) 5)) 22 (cotI (fun r => mtl nW nF (ar 3) (ar 5) (ar 8) (nI r)) (ar 22) hg)) 23 (upd (cotI (mwv (mcc (ar 1) (ar 2) (ar 5) (ar 6) (ar 7) (ar 8) (cotI (fun v => mey (fun k => fns (ar 1) (ar 5) (ar 7) (ar 8) (nI k) nF) (ar 2) (ar 3) nW (nI v)) (ar 21) 5) (cotI (fun r => mtl nW nF (ar 3) (ar 5) (ar 8) (nI r)) (ar 22) hg) nF wd) (ar 1) (ar 9)) (ar 23) p) p (mwa (mcc (ar 1) (ar 2) (ar 5) (ar 6) (ar 7) (ar 8) (cotI (fun v => mey (fun k => fns (ar 1) (ar 5) (ar 7) (ar 8) (nI k) nF) (ar 2) (ar 3) nW (nI v)) (ar 21) 5) (cotI (fun r => mtl nW nF (ar 3) (ar 5) (ar 8) (nI r)) (ar 22) hg) nF wd p) (ar 1) (k + 1)))) la) (lv' := [(0, .ref (ad 0)), (1, .int (nI (p))), (2, .int (nI (k + 1)))]) (by rw [upd2]; rfl) (rfl) rfl (ihk (k + 1) (by omega) (Or.inr c3))
      exact g_eq (ws' := mw E ad sc (va_up (va_up (va_up (va_up ar 20 (fiI (fun k => fns (ar 1) (ar 5) (ar 7) (ar 8) (nI k) nF) nW (ar 20) 5)) 21 (cotI (fun v => mey (fun k => fns (ar 1) (ar 5) (ar 7) (ar 8) (nI k) nF) (ar 2) (ar 3) nW (nI v)) (ar 21) 5)) 22 (cotI (fun r => mtl nW nF (ar 3) (ar 5) (ar 8) (nI r)) (ar 22) hg)) 23 (upd (cotI (mwv (mcc (ar 1) (ar 2) (ar 5) (ar 6) (ar 7) (ar 8) (cotI (fun v => mey (fun k => fns (ar 1) (ar 5) (ar 7) (ar 8) (nI k) nF) (ar 2) (ar 3) nW (nI v)) (ar 21) 5) (cotI (fun r => mtl nW nF (ar 3) (ar 5) (ar 8) (nI r)) (ar 22) hg) nF wd) (ar 1) (ar 9)) (ar 23) p) p (mwa (mcc (ar 1) (ar 2) (ar 5) (ar 6) (ar 7) (ar 8) (cotI (fun v => mey (fun k => fns (ar 1) (ar 5) (ar 7) (ar 8) (nI k) nF) (ar 2) (ar 3) nW (nI v)) (ar 21) 5) (cotI (fun r => mtl nW nF (ar 3) (ar 5) (ar 8) (nI r)) (ar 22) hg) nF wd p) (ar 1) (0)))) la) (lv' := [(0, .ref (ad 0)), (1, .int (nI (p))), (2, .int (nI (0)))]) (rfl) (rfl) rfl (L23_2 (4 - 0) (0) (by omega) (Or.inl rfl))
  exact g_eq (ws' := mw E ad sc (va_up (va_up (va_up (va_up ar 20 (fiI (fun k => fns (ar 1) (ar 5) (ar 7) (ar 8) (nI k) nF) nW (ar 20) 5)) 21 (cotI (fun v => mey (fun k => fns (ar 1) (ar 5) (ar 7) (ar 8) (nI k) nF) (ar 2) (ar 3) nW (nI v)) (ar 21) 5)) 22 (cotI (fun r => mtl nW nF (ar 3) (ar 5) (ar 8) (nI r)) (ar 22) hg)) 23 (cotI (mwv (mcc (ar 1) (ar 2) (ar 5) (ar 6) (ar 7) (ar 8) (cotI (fun v => mey (fun k => fns (ar 1) (ar 5) (ar 7) (ar 8) (nI k) nF) (ar 2) (ar 3) nW (nI v)) (ar 21) 5) (cotI (fun r => mtl nW nF (ar 3) (ar 5) (ar 8) (nI r)) (ar 22) hg) nF wd) (ar 1) (ar 9)) (ar 23) (0))) la) (lv' := [(0, .ref (ad 0)), (1, .int (nI (0)))]) (rfl) (rfl) rfl (L6_1 (wd * hg - 0) (0) (by omega))

theorem dX12_ring_0 : decode cX12_ring 0 = .ok (.iconst 0, 1) := by decide +kernel
theorem dX12_ring_1 : decode cX12_ring 1 = .ok (.istore_n 2, 1) := by decide +kernel
theorem dX12_ring_2 : decode cX12_ring 2 = .ok (.iload_n 1, 1) := by decide +kernel
theorem dX12_ring_3 : decode cX12_ring 3 = .ok (.aload_n 0, 1) := by decide +kernel
theorem dX12_ring_4 : decode cX12_ring 4 = .ok (.getfield 7, 3) := by decide +kernel
theorem dX12_ring_7 : decode cX12_ring 7 = .ok (.idiv, 1) := by decide +kernel
theorem dX12_ring_8 : decode cX12_ring 8 = .ok (.iconst 1, 1) := by decide +kernel
theorem dX12_ring_9 : decode cX12_ring 9 = .ok (.isub, 1) := by decide +kernel
theorem dX12_ring_10 : decode cX12_ring 10 = .ok (.istore_n 3, 1) := by decide +kernel
theorem dX12_ring_11 : decode cX12_ring 11 = .ok (.iload_n 3, 1) := by decide +kernel
theorem dX12_ring_12 : decode cX12_ring 12 = .ok (.iload_n 1, 1) := by decide +kernel
theorem dX12_ring_13 : decode cX12_ring 13 = .ok (.aload_n 0, 1) := by decide +kernel
theorem dX12_ring_14 : decode cX12_ring 14 = .ok (.getfield 7, 3) := by decide +kernel
theorem dX12_ring_17 : decode cX12_ring 17 = .ok (.idiv, 1) := by decide +kernel
theorem dX12_ring_18 : decode cX12_ring 18 = .ok (.iconst 1, 1) := by decide +kernel
theorem dX12_ring_19 : decode cX12_ring 19 = .ok (.iadd, 1) := by decide +kernel
theorem dX12_ring_20 : decode cX12_ring 20 = .ok (.if_icmp .gt 88, 3) := by decide +kernel
theorem dX12_ring_23 : decode cX12_ring 23 = .ok (.iload_n 1, 1) := by decide +kernel
theorem dX12_ring_24 : decode cX12_ring 24 = .ok (.aload_n 0, 1) := by decide +kernel
theorem dX12_ring_25 : decode cX12_ring 25 = .ok (.getfield 7, 3) := by decide +kernel
theorem dX12_ring_28 : decode cX12_ring 28 = .ok (.irem, 1) := by decide +kernel
theorem dX12_ring_29 : decode cX12_ring 29 = .ok (.iconst 1, 1) := by decide +kernel
theorem dX12_ring_30 : decode cX12_ring 30 = .ok (.isub, 1) := by decide +kernel
theorem dX12_ring_31 : decode cX12_ring 31 = .ok (.istore 4, 2) := by decide +kernel
theorem dX12_ring_33 : decode cX12_ring 33 = .ok (.iload 4, 2) := by decide +kernel
theorem dX12_ring_35 : decode cX12_ring 35 = .ok (.iload_n 1, 1) := by decide +kernel
theorem dX12_ring_36 : decode cX12_ring 36 = .ok (.aload_n 0, 1) := by decide +kernel
theorem dX12_ring_37 : decode cX12_ring 37 = .ok (.getfield 7, 3) := by decide +kernel
theorem dX12_ring_40 : decode cX12_ring 40 = .ok (.irem, 1) := by decide +kernel
theorem dX12_ring_41 : decode cX12_ring 41 = .ok (.iconst 1, 1) := by decide +kernel
theorem dX12_ring_42 : decode cX12_ring 42 = .ok (.iadd, 1) := by decide +kernel
theorem dX12_ring_43 : decode cX12_ring 43 = .ok (.if_icmp .gt 59, 3) := by decide +kernel
theorem dX12_ring_46 : decode cX12_ring 46 = .ok (.iload_n 2, 1) := by decide +kernel
theorem dX12_ring_47 : decode cX12_ring 47 = .ok (.iload_n 3, 1) := by decide +kernel
theorem dX12_ring_48 : decode cX12_ring 48 = .ok (.iconst 0, 1) := by decide +kernel
theorem dX12_ring_49 : decode cX12_ring 49 = .ok (.aload_n 0, 1) := by decide +kernel
theorem dX12_ring_50 : decode cX12_ring 50 = .ok (.getfield 13, 3) := by decide +kernel
theorem dX12_ring_53 : decode cX12_ring 53 = .ok (.iconst 1, 1) := by decide +kernel
theorem dX12_ring_54 : decode cX12_ring 54 = .ok (.isub, 1) := by decide +kernel
theorem dX12_ring_55 : decode cX12_ring 55 = .ok (.invokestatic 113, 3) := by decide +kernel
theorem dX12_ring_58 : decode cX12_ring 58 = .ok (.ifCond .eq 35, 3) := by decide +kernel
theorem dX12_ring_61 : decode cX12_ring 61 = .ok (.iload 4, 2) := by decide +kernel
theorem dX12_ring_63 : decode cX12_ring 63 = .ok (.iconst 0, 1) := by decide +kernel
theorem dX12_ring_64 : decode cX12_ring 64 = .ok (.aload_n 0, 1) := by decide +kernel
theorem dX12_ring_65 : decode cX12_ring 65 = .ok (.getfield 7, 3) := by decide +kernel
theorem dX12_ring_68 : decode cX12_ring 68 = .ok (.iconst 1, 1) := by decide +kernel
theorem dX12_ring_69 : decode cX12_ring 69 = .ok (.isub, 1) := by decide +kernel
theorem dX12_ring_70 : decode cX12_ring 70 = .ok (.invokestatic 113, 3) := by decide +kernel
theorem dX12_ring_73 : decode cX12_ring 73 = .ok (.ifCond .eq 20, 3) := by decide +kernel
theorem dX12_ring_76 : decode cX12_ring 76 = .ok (.aload_n 0, 1) := by decide +kernel
theorem dX12_ring_77 : decode cX12_ring 77 = .ok (.getfield 87, 3) := by decide +kernel
theorem dX12_ring_80 : decode cX12_ring 80 = .ok (.aload_n 0, 1) := by decide +kernel
theorem dX12_ring_81 : decode cX12_ring 81 = .ok (.getfield 7, 3) := by decide +kernel
theorem dX12_ring_84 : decode cX12_ring 84 = .ok (.iload_n 3, 1) := by decide +kernel
theorem dX12_ring_85 : decode cX12_ring 85 = .ok (.imul, 1) := by decide +kernel
theorem dX12_ring_86 : decode cX12_ring 86 = .ok (.iload 4, 2) := by decide +kernel
theorem dX12_ring_88 : decode cX12_ring 88 = .ok (.iadd, 1) := by decide +kernel
theorem dX12_ring_89 : decode cX12_ring 89 = .ok (.iaload, 1) := by decide +kernel
theorem dX12_ring_90 : decode cX12_ring 90 = .ok (.goto 4, 3) := by decide +kernel
theorem dX12_ring_93 : decode cX12_ring 93 = .ok (.iconst 0, 1) := by decide +kernel
theorem dX12_ring_94 : decode cX12_ring 94 = .ok (.iadd, 1) := by decide +kernel
theorem dX12_ring_95 : decode cX12_ring 95 = .ok (.istore_n 2, 1) := by decide +kernel
theorem dX12_ring_96 : decode cX12_ring 96 = .ok (.iinc 4 1, 3) := by decide +kernel
theorem dX12_ring_99 : decode cX12_ring 99 = .ok (.goto (-66), 3) := by decide +kernel
theorem dX12_ring_102 : decode cX12_ring 102 = .ok (.iinc 3 1, 3) := by decide +kernel
theorem dX12_ring_105 : decode cX12_ring 105 = .ok (.goto (-94), 3) := by decide +kernel
theorem dX12_ring_108 : decode cX12_ring 108 = .ok (.iload_n 2, 1) := by decide +kernel
theorem dX12_ring_109 : decode cX12_ring 109 = .ok (.ireturn, 1) := by decide +kernel

set_option maxHeartbeats 4000000 in
set_option maxRecDepth 100000 in
theorem c_X12_ring (l : Launch) (E : Ev) {A : Nat → Prop} (ad : Nat → Nat) (hA : Oka 30 ad A) (sc : Nat → Int32) (ar : Nat → Nat → Int32) (la : Nat → Int64) {wd hg : Nat} (p : Nat) (hwd : sc 0 = nI wd) (hwd1 : 2 ≤ wd) (hwd2 : wd ≤ 8) (hhg : sc 1 = nI hg) (hhg1 : 2 ≤ hg) (hhg2 : hg ≤ 8) (hp : p < wd * hg) : Ct l E yX12_ring (.code yX12_ring cX12_ring 5 (some .int)) ({ frames := 1, cells := 0, slots := 0, locals := 22 }) A (mw E ad sc ar la) [.ref (ad 0), .int (nI p)] (some (.int (rm (ar 23) wd hg p))) (mw E ad sc ar la) := by
  have hm := prod64 hwd2 hhg2
  have hrow := row_lt hp hwd1
  have hcol : p % wd < wd := Nat.mod_lt _ (by omega)
  refine Ct.of (lv := [(0, .ref (ad 0)), (1, .int (nI p))]) (by decide +kernel) (Nat.le_of_ble_eq_true rfl) rfl ?_
  intro zp ze zs zm za zb zh zc hc
  refine g_iconst (pc := 0) (v := nI 0) hc dX12_ring_0 (by decide) ?_
  refine g_istore_n (pc := 1) (lv' := [(0, .ref (ad 0)), (1, .int (nI p)), (2, .int (nI 0))]) hc dX12_ring_1 rfl (by decide) rfl ?_
  refine g_iload_n (pc := 2) hc 1 dX12_ring_2 rfl rfl ?_
  refine g_aload_n (pc := 3) hc 0 dX12_ring_3 rfl rfl ?_
  refine gf_m0_wide (pc := 4) hc tw_1001 dX12_ring_4 ?_
  refine g_topi (v := nI wd) (hwd) ?_
  refine g_idiv (pc := 7) hc dX12_ring_7 (nI_ne0 (by omega) (by omega)) ?_
  refine g_topi (v := nI (p / wd)) (ldiv_nI hwd1 hwd2 (by omega)) ?_
  refine g_iconst (pc := 8) (v := nI 1) hc dX12_ring_8 (by decide) ?_
  refine g_isub (pc := 9) hc dX12_ring_9 ?_
  refine g_istore_n (pc := 10) (lv' := [(0, .ref (ad 0)), (1, .int (nI p)), (2, .int (nI 0)), (3, .int ((nI (p / wd)) - (nI 1)))]) hc dX12_ring_10 rfl (by decide) rfl ?_
  have L11_1 : ∀ (ka a : Nat), a + ka = 3 → G zp l ze ({ frames := 1, cells := 0, slots := 0, locals := 22 }) zs zm za zb zh zc 0 0 (MQ zb (Qz E A (some (.int (rm (ar 23) wd hg p))) (mw E ad sc ar la)) za zs 0 0 A) E A 5 (mw E ad sc ar la) (11) [(0, .ref (ad 0)), (1, .int (nI p)), (2, .int (rmO (ar 23) wd hg (p / wd) (p % wd) (a))), (3, .int (yv (p / wd) (a)))] [] := by
    intro ka
    induction ka with
    | zero =>
      intro a lha
      have lhan : 3 = a := by omega
      subst lhan
      refine g_iload_n (pc := 11) hc 3 dX12_ring_11 rfl rfl ?_
      refine g_iload_n (pc := 12) hc 1 dX12_ring_12 rfl rfl ?_
      refine g_aload_n (pc := 13) hc 0 dX12_ring_13 rfl rfl ?_
      refine gf_m0_wide (pc := 14) hc tw_1001 dX12_ring_14 ?_
      refine g_topi (v := nI wd) (hwd) ?_
      refine g_idiv (pc := 17) hc dX12_ring_17 (nI_ne0 (by omega) (by omega)) ?_
      refine g_topi (v := nI (p / wd)) (ldiv_nI hwd1 hwd2 (by omega)) ?_
      refine g_iconst (pc := 18) (v := nI 1) hc dX12_ring_18 (by decide) ?_
      refine g_iadd (pc := 19) hc dX12_ring_19 ?_
      refine g_topi (v := nI ((p / wd) + 1)) (nI_add (p / wd) 1) ?_
      refine g_icmp_gt_t (pc := 20) hc 108 dX12_ring_20 (by decide) (yv_x (by omega)) ?_
      refine g_iload_n (pc := 108) hc 2 dX12_ring_108 rfl rfl ?_
      exact g_iret (pc := 109) hc dX12_ring_109 (rfl) (rfl)
    | succ ka iha =>
      intro a lha
      have lhan : a < 3 := by omega
      refine g_iload_n (pc := 11) hc 3 dX12_ring_11 rfl rfl ?_
      refine g_iload_n (pc := 12) hc 1 dX12_ring_12 rfl rfl ?_
      refine g_aload_n (pc := 13) hc 0 dX12_ring_13 rfl rfl ?_
      refine gf_m0_wide (pc := 14) hc tw_1001 dX12_ring_14 ?_
      refine g_topi (v := nI wd) (hwd) ?_
      refine g_idiv (pc := 17) hc dX12_ring_17 (nI_ne0 (by omega) (by omega)) ?_
      refine g_topi (v := nI (p / wd)) (ldiv_nI hwd1 hwd2 (by omega)) ?_
      refine g_iconst (pc := 18) (v := nI 1) hc dX12_ring_18 (by decide) ?_
      refine g_iadd (pc := 19) hc dX12_ring_19 ?_
      refine g_topi (v := nI ((p / wd) + 1)) (nI_add (p / wd) 1) ?_
      refine g_icmp_gt_f (pc := 20) hc 108 dX12_ring_20 (by decide) (yv_b (by omega) (by omega)) ?_
      refine g_iload_n (pc := 23) hc 1 dX12_ring_23 rfl rfl ?_
      refine g_aload_n (pc := 24) hc 0 dX12_ring_24 rfl rfl ?_
      refine gf_m0_wide (pc := 25) hc tw_1001 dX12_ring_25 ?_
      refine g_topi (v := nI wd) (hwd) ?_
      refine g_irem (pc := 28) hc dX12_ring_28 (nI_ne0 (by omega) (by omega)) ?_
      refine g_topi (v := nI (p % wd)) (pk_rem (by omega) (by omega) (by omega)) ?_
      refine g_iconst (pc := 29) (v := nI 1) hc dX12_ring_29 (by decide) ?_
      refine g_isub (pc := 30) hc dX12_ring_30 ?_
      refine g_istore (pc := 31) (lv' := [(0, .ref (ad 0)), (1, .int (nI p)), (2, .int (rmO (ar 23) wd hg (p / wd) (p % wd) (a))), (3, .int (yv (p / wd) (a))), (4, .int ((nI (p % wd)) - (nI 1)))]) hc dX12_ring_31 (by decide) rfl ?_
      have L33_2 : ∀ (kb b : Nat), b + kb = 3 → G zp l ze ({ frames := 1, cells := 0, slots := 0, locals := 22 }) zs zm za zb zh zc 0 0 (MQ zb (Qz E A (some (.int (rm (ar 23) wd hg p))) (mw E ad sc ar la)) za zs 0 0 A) E A 5 (mw E ad sc ar la) (33) [(0, .ref (ad 0)), (1, .int (nI p)), (2, .int (rmI (ar 23) wd hg (p / wd) (p % wd) a (rmO (ar 23) wd hg (p / wd) (p % wd) a) (b))), (3, .int (yv (p / wd) (a))), (4, .int (yv (p % wd) (b)))] [] := by
        intro kb
        induction kb with
        | zero =>
          intro b lhb
          have lhbn : 3 = b := by omega
          subst lhbn
          refine g_iload (pc := 33) hc 4 dX12_ring_33 rfl ?_
          refine g_iload_n (pc := 35) hc 1 dX12_ring_35 rfl rfl ?_
          refine g_aload_n (pc := 36) hc 0 dX12_ring_36 rfl rfl ?_
          refine gf_m0_wide (pc := 37) hc tw_1001 dX12_ring_37 ?_
          refine g_topi (v := nI wd) (hwd) ?_
          refine g_irem (pc := 40) hc dX12_ring_40 (nI_ne0 (by omega) (by omega)) ?_
          refine g_topi (v := nI (p % wd)) (pk_rem (by omega) (by omega) (by omega)) ?_
          refine g_iconst (pc := 41) (v := nI 1) hc dX12_ring_41 (by decide) ?_
          refine g_iadd (pc := 42) hc dX12_ring_42 ?_
          refine g_topi (v := nI ((p % wd) + 1)) (nI_add (p % wd) 1) ?_
          refine g_icmp_gt_t (pc := 43) hc 102 dX12_ring_43 (by decide) (yv_x (by omega)) ?_
          refine g_iinc (pc := 102) (v := (yv (p / wd) (a)) + 1) (lv' := [(0, .ref (ad 0)), (1, .int (nI p)), (2, .int (rmI (ar 23) wd hg (p / wd) (p % wd) a (rmO (ar 23) wd hg (p / wd) (p % wd) a) (3))), (3, .int ((yv (p / wd) (a)) + 1)), (4, .int (yv (p % wd) (3)))]) hc 3 dX12_ring_102 rfl (rfl) (by decide) rfl ?_
          refine g_goto (pc := 105) hc 11 dX12_ring_105 (by decide) ?_
          refine g_lv [0, 1, 2, 3] (lv' := [(0, .ref (ad 0)), (1, .int (nI p)), (2, .int (rmI (ar 23) wd hg (p / wd) (p % wd) a (rmO (ar 23) wd hg (p / wd) (p % wd) a) (3))), (3, .int ((yv (p / wd) (a)) + 1))]) rfl ?_
          exact g_eq (ws' := mw E ad sc ar la) (lv' := [(0, .ref (ad 0)), (1, .int (nI p)), (2, .int (rmO (ar 23) wd hg (p / wd) (p % wd) (a + 1))), (3, .int (yv (p / wd) (a + 1)))]) (rfl) (by rw [yv_succ]; rfl) rfl (iha (a + 1) (by omega))
        | succ kb ihb =>
          intro b lhb
          have lhbn : b < 3 := by omega
          refine g_iload (pc := 33) hc 4 dX12_ring_33 rfl ?_
          refine g_iload_n (pc := 35) hc 1 dX12_ring_35 rfl rfl ?_
          refine g_aload_n (pc := 36) hc 0 dX12_ring_36 rfl rfl ?_
          refine gf_m0_wide (pc := 37) hc tw_1001 dX12_ring_37 ?_
          refine g_topi (v := nI wd) (hwd) ?_
          refine g_irem (pc := 40) hc dX12_ring_40 (nI_ne0 (by omega) (by omega)) ?_
          refine g_topi (v := nI (p % wd)) (pk_rem (by omega) (by omega) (by omega)) ?_
          refine g_iconst (pc := 41) (v := nI 1) hc dX12_ring_41 (by decide) ?_
          refine g_iadd (pc := 42) hc dX12_ring_42 ?_
          refine g_topi (v := nI ((p % wd) + 1)) (nI_add (p % wd) 1) ?_
          refine g_icmp_gt_f (pc := 43) hc 102 dX12_ring_43 (by decide) (yv_b (by omega) (by omega)) ?_
          refine g_iload_n (pc := 46) hc 2 dX12_ring_46 rfl rfl ?_
          refine g_iload_n (pc := 47) hc 3 dX12_ring_47 rfl rfl ?_
          refine g_iconst (pc := 48) (v := nI 0) hc dX12_ring_48 (by decide) ?_
          refine g_aload_n (pc := 49) hc 0 dX12_ring_49 rfl rfl ?_
          refine gf_m0_high (pc := 50) hc tw_1002 dX12_ring_50 ?_
          refine g_topi (v := nI hg) (hhg) ?_
          refine g_iconst (pc := 53) (v := nI 1) hc dX12_ring_53 (by decide) ?_
          refine g_isub (pc := 54) hc dX12_ring_54 ?_
          refine g_callSi (pc := 55) (rest := [.int (rmI (ar 23) wd hg (p / wd) (p % wd) a (rmO (ar 23) wd hg (p / wd) (p % wd) a) (b))]) (As := [.int (yv (p / wd) (a)), .int (nI 0), .int ((nI hg) - (nI 1))]) hc (c_X12_isIn l E ad hA sc ar la (yv (p / wd) (a)) (nI 0) ((nI hg) - (nI 1))) mi_X12_isIn tw_1136 rfl ⟨rfl, rfl, by decide, by decide⟩ (Nat.le_of_ble_eq_true rfl) ⟨Nat.le_refl _, Nat.le_refl _⟩ rfl dX12_ring_55 ?_
          refine g_topi (v := bI (inx (yv (p / wd) a) (nI hg))) (by rw [inr_pred _ (by omega)]) ?_
          refine g_if_eq_b (pc := 58) hc 93 dX12_ring_58 (by decide) (fun c3 => ?_) (fun c3 => ?_)
          · refine g_iconst (pc := 93) (v := nI 0) hc dX12_ring_93 (by decide) ?_
            refine g_topi (v := cellv (ar 23) wd hg (p / wd) (p % wd) a b) (by unfold cellv; (repeat (first | rw [if_pos c3] | rw [if_neg c3] | rw [if_neg (ne_true_of_eq_false c3)]))) ?_
            refine g_iadd (pc := 94) hc dX12_ring_94 ?_
            refine g_istore_n (pc := 95) (lv' := [(0, .ref (ad 0)), (1, .int (nI p)), (2, .int ((rmI (ar 23) wd hg (p / wd) (p % wd) a (rmO (ar 23) wd hg (p / wd) (p % wd) a) (b)) + (cellv (ar 23) wd hg (p / wd) (p % wd) a b))), (3, .int (yv (p / wd) (a))), (4, .int (yv (p % wd) (b)))]) hc dX12_ring_95 rfl (by decide) rfl ?_
            refine g_iinc (pc := 96) (v := (yv (p % wd) (b)) + 1) (lv' := [(0, .ref (ad 0)), (1, .int (nI p)), (2, .int ((rmI (ar 23) wd hg (p / wd) (p % wd) a (rmO (ar 23) wd hg (p / wd) (p % wd) a) (b)) + (cellv (ar 23) wd hg (p / wd) (p % wd) a b))), (3, .int (yv (p / wd) (a))), (4, .int ((yv (p % wd) (b)) + 1))]) hc 4 dX12_ring_96 rfl (rfl) (by decide) rfl ?_
            refine g_goto (pc := 99) hc 33 dX12_ring_99 (by decide) ?_
            exact g_eq (ws' := mw E ad sc ar la) (lv' := [(0, .ref (ad 0)), (1, .int (nI p)), (2, .int (rmI (ar 23) wd hg (p / wd) (p % wd) a (rmO (ar 23) wd hg (p / wd) (p % wd) a) (b + 1))), (3, .int (yv (p / wd) (a))), (4, .int (yv (p % wd) (b + 1)))]) (rfl) (by rw [yv_succ]; rfl) rfl (ihb (b + 1) (by omega))
          · refine g_iload (pc := 61) hc 4 dX12_ring_61 rfl ?_
            refine g_iconst (pc := 63) (v := nI 0) hc dX12_ring_63 (by decide) ?_
            refine g_aload_n (pc := 64) hc 0 dX12_ring_64 rfl rfl ?_
            refine gf_m0_wide (pc := 65) hc tw_1001 dX12_ring_65 ?_
            refine g_topi (v := nI wd) (hwd) ?_
            refine g_iconst (pc := 68) (v := nI 1) hc dX12_ring_68 (by decide) ?_
            refine g_isub (pc := 69) hc dX12_ring_69 ?_
            refine g_callSi (pc := 70) (rest := [.int (rmI (ar 23) wd hg (p / wd) (p % wd) a (rmO (ar 23) wd hg (p / wd) (p % wd) a) (b))]) (As := [.int (yv (p % wd) (b)), .int (nI 0), .int ((nI wd) - (nI 1))]) hc (c_X12_isIn l E ad hA sc ar la (yv (p % wd) (b)) (nI 0) ((nI wd) - (nI 1))) mi_X12_isIn tw_1136 rfl ⟨rfl, rfl, by decide, by decide⟩ (Nat.le_of_ble_eq_true rfl) ⟨Nat.le_refl _, Nat.le_refl _⟩ rfl dX12_ring_70 ?_
            refine g_topi (v := bI (inx (yv (p % wd) b) (nI wd))) (by rw [inr_pred _ (by omega)]) ?_
            refine g_if_eq_b (pc := 73) hc 93 dX12_ring_73 (by decide) (fun c4 => ?_) (fun c4 => ?_)
            · refine g_iconst (pc := 93) (v := nI 0) hc dX12_ring_93 (by decide) ?_
              refine g_topi (v := cellv (ar 23) wd hg (p / wd) (p % wd) a b) (by unfold cellv; (repeat (first | rw [if_pos c3] | rw [if_neg c3] | rw [if_neg (ne_true_of_eq_false c3)] | rw [if_pos c4] | rw [if_neg c4] | rw [if_neg (ne_true_of_eq_false c4)]))) ?_
              refine g_iadd (pc := 94) hc dX12_ring_94 ?_
              refine g_istore_n (pc := 95) (lv' := [(0, .ref (ad 0)), (1, .int (nI p)), (2, .int ((rmI (ar 23) wd hg (p / wd) (p % wd) a (rmO (ar 23) wd hg (p / wd) (p % wd) a) (b)) + (cellv (ar 23) wd hg (p / wd) (p % wd) a b))), (3, .int (yv (p / wd) (a))), (4, .int (yv (p % wd) (b)))]) hc dX12_ring_95 rfl (by decide) rfl ?_
              refine g_iinc (pc := 96) (v := (yv (p % wd) (b)) + 1) (lv' := [(0, .ref (ad 0)), (1, .int (nI p)), (2, .int ((rmI (ar 23) wd hg (p / wd) (p % wd) a (rmO (ar 23) wd hg (p / wd) (p % wd) a) (b)) + (cellv (ar 23) wd hg (p / wd) (p % wd) a b))), (3, .int (yv (p / wd) (a))), (4, .int ((yv (p % wd) (b)) + 1))]) hc 4 dX12_ring_96 rfl (rfl) (by decide) rfl ?_
              refine g_goto (pc := 99) hc 33 dX12_ring_99 (by decide) ?_
              exact g_eq (ws' := mw E ad sc ar la) (lv' := [(0, .ref (ad 0)), (1, .int (nI p)), (2, .int (rmI (ar 23) wd hg (p / wd) (p % wd) a (rmO (ar 23) wd hg (p / wd) (p % wd) a) (b + 1))), (3, .int (yv (p / wd) (a))), (4, .int (yv (p % wd) (b + 1)))]) (rfl) (by rw [yv_succ]; rfl) rfl (ihb (b + 1) (by omega))
            · have hy := tn_lt (inx_of (by omega) c3) (by omega)
              have hx := tn_lt (inx_of (by omega) c4) (by omega)
              refine g_aload_n (pc := 76) hc 0 dX12_ring_76 rfl rfl ?_
              refine gf_m0_worths (pc := 77) hc tw_1032 dX12_ring_77 ?_
              refine g_aload_n (pc := 80) hc 0 dX12_ring_80 rfl rfl ?_
              refine gf_m0_wide (pc := 81) hc tw_1001 dX12_ring_81 ?_
              refine g_topi (v := nI wd) (hwd) ?_
              refine g_iload_n (pc := 84) hc 3 dX12_ring_84 rfl rfl ?_
              refine g_topi (v := nI (tn (yv (p / wd) a))) (hy.1) ?_
              refine g_imul (pc := 85) hc dX12_ring_85 ?_
              refine g_topi (v := nI (wd * (tn (yv (p / wd) a)))) (pk_mul wd (tn (yv (p / wd) a))) ?_
              refine g_iload (pc := 86) hc 4 dX12_ring_86 rfl ?_
              refine g_topi (v := nI (tn (yv (p % wd) b))) (hx.1) ?_
              refine g_iadd (pc := 88) hc dX12_ring_88 ?_
              refine g_topi (v := nI ((wd * (tn (yv (p / wd) a))) + (tn (yv (p % wd) b)))) (nI_add (wd * (tn (yv (p / wd) a))) (tn (yv (p % wd) b))) ?_
              refine la_m23 (pc := 89) hc (wd * tn (yv (p / wd) a) + tn (yv (p % wd) b)) (rfl) (by rw [Nat.mul_comm]; exact idx64 hy.2 hx.2 hwd2 hhg2) dX12_ring_89 ?_
              refine g_goto (pc := 90) hc 94 dX12_ring_90 (by decide) ?_
              refine g_topi (v := cellv (ar 23) wd hg (p / wd) (p % wd) a b) (by unfold cellv; (repeat (first | rw [if_pos c3] | rw [if_neg c3] | rw [if_neg (ne_true_of_eq_false c3)] | rw [if_pos c4] | rw [if_neg c4] | rw [if_neg (ne_true_of_eq_false c4)]))) ?_
              refine g_iadd (pc := 94) hc dX12_ring_94 ?_
              refine g_istore_n (pc := 95) (lv' := [(0, .ref (ad 0)), (1, .int (nI p)), (2, .int ((rmI (ar 23) wd hg (p / wd) (p % wd) a (rmO (ar 23) wd hg (p / wd) (p % wd) a) (b)) + (cellv (ar 23) wd hg (p / wd) (p % wd) a b))), (3, .int (yv (p / wd) (a))), (4, .int (yv (p % wd) (b)))]) hc dX12_ring_95 rfl (by decide) rfl ?_
              refine g_iinc (pc := 96) (v := (yv (p % wd) (b)) + 1) (lv' := [(0, .ref (ad 0)), (1, .int (nI p)), (2, .int ((rmI (ar 23) wd hg (p / wd) (p % wd) a (rmO (ar 23) wd hg (p / wd) (p % wd) a) (b)) + (cellv (ar 23) wd hg (p / wd) (p % wd) a b))), (3, .int (yv (p / wd) (a))), (4, .int ((yv (p % wd) (b)) + 1))]) hc 4 dX12_ring_96 rfl (rfl) (by decide) rfl ?_
              refine g_goto (pc := 99) hc 33 dX12_ring_99 (by decide) ?_
              exact g_eq (ws' := mw E ad sc ar la) (lv' := [(0, .ref (ad 0)), (1, .int (nI p)), (2, .int (rmI (ar 23) wd hg (p / wd) (p % wd) a (rmO (ar 23) wd hg (p / wd) (p % wd) a) (b + 1))), (3, .int (yv (p / wd) (a))), (4, .int (yv (p % wd) (b + 1)))]) (rfl) (by rw [yv_succ]; rfl) rfl (ihb (b + 1) (by omega))
      exact g_eq (ws' := mw E ad sc ar la) (lv' := [(0, .ref (ad 0)), (1, .int (nI p)), (2, .int (rmI (ar 23) wd hg (p / wd) (p % wd) a (rmO (ar 23) wd hg (p / wd) (p % wd) a) (0))), (3, .int (yv (p / wd) (a))), (4, .int (yv (p % wd) (0)))]) (rfl) (rfl) rfl (L33_2 (3 - 0) (0) (by omega))
  exact g_eq (ws' := mw E ad sc ar la) (lv' := [(0, .ref (ad 0)), (1, .int (nI p)), (2, .int (rmO (ar 23) wd hg (p / wd) (p % wd) (0))), (3, .int (yv (p / wd) (0)))]) (rfl) (rfl) rfl (L11_1 (3 - 0) (0) (by omega))

theorem dX12_worth_0 : decode cX12_worth 0 = .ok (.aload_n 0, 1) := by decide +kernel
theorem dX12_worth_1 : decode cX12_worth 1 = .ok (.iload_n 1, 1) := by decide +kernel
theorem dX12_worth_2 : decode cX12_worth 2 = .ok (.invokevirtual 154, 3) := by decide +kernel
theorem dX12_worth_5 : decode cX12_worth 5 = .ok (.ifCond .eq 12, 3) := by decide +kernel
theorem dX12_worth_8 : decode cX12_worth 8 = .ok (.iload_n 2, 1) := by decide +kernel
theorem dX12_worth_9 : decode cX12_worth 9 = .ok (.iconst 0, 1) := by decide +kernel
theorem dX12_worth_10 : decode cX12_worth 10 = .ok (.iconst 1, 1) := by decide +kernel
theorem dX12_worth_11 : decode cX12_worth 11 = .ok (.invokestatic 113, 3) := by decide +kernel
theorem dX12_worth_14 : decode cX12_worth 14 = .ok (.ifCond .ne 6, 3) := by decide +kernel
theorem dX12_worth_17 : decode cX12_worth 17 = .ok (.ldc 120, 2) := by decide +kernel
theorem dX12_worth_19 : decode cX12_worth 19 = .ok (.ireturn, 1) := by decide +kernel
theorem dX12_worth_20 : decode cX12_worth 20 = .ok (.aload_n 0, 1) := by decide +kernel
theorem dX12_worth_21 : decode cX12_worth 21 = .ok (.invokevirtual 178, 3) := by decide +kernel
theorem dX12_worth_24 : decode cX12_worth 24 = .ok (.iload_n 2, 1) := by decide +kernel
theorem dX12_worth_25 : decode cX12_worth 25 = .ok (.ifCond .ne 12, 3) := by decide +kernel
theorem dX12_worth_28 : decode cX12_worth 28 = .ok (.aload_n 0, 1) := by decide +kernel
theorem dX12_worth_29 : decode cX12_worth 29 = .ok (.getfield 87, 3) := by decide +kernel
theorem dX12_worth_32 : decode cX12_worth 32 = .ok (.iload_n 1, 1) := by decide +kernel
theorem dX12_worth_33 : decode cX12_worth 33 = .ok (.iaload, 1) := by decide +kernel
theorem dX12_worth_34 : decode cX12_worth 34 = .ok (.goto 8, 3) := by decide +kernel
theorem dX12_worth_37 : decode cX12_worth 37 = .ok (.aload_n 0, 1) := by decide +kernel
theorem dX12_worth_38 : decode cX12_worth 38 = .ok (.iload_n 1, 1) := by decide +kernel
theorem dX12_worth_39 : decode cX12_worth 39 = .ok (.invokevirtual 181, 3) := by decide +kernel
theorem dX12_worth_42 : decode cX12_worth 42 = .ok (.ireturn, 1) := by decide +kernel

set_option maxHeartbeats 4000000 in
set_option maxRecDepth 100000 in
theorem c_X12_worth (l : Launch) (E : Ev) {A : Nat → Prop} (ad : Nat → Nat) (hA : Oka 30 ad A) (sc : Nat → Int32) (ar : Nat → Nat → Int32) (la : Nat → Int64) {nW nF wd hg : Nat} (x : Int32) (y : Int32) (hW : sc 3 = nI nW) (hW60 : nW ≤ 60) (hF : sc 4 = nI nF) (hF200 : nF ≤ 200) (hK4 : ∀ f, f < nF → ∃ k, k < 4 ∧ ar 7 f = nI k) (hwd : sc 0 = nI wd) (hwd1 : 2 ≤ wd) (hwd2 : wd ≤ 8) (hhg : sc 1 = nI hg) (hhg1 : 2 ≤ hg) (hhg2 : hg ≤ 8) (hV : ∀ i, i < nW → ∃ v, v < 5 ∧ ar 2 i = nI v) : Ct l E yX12_worth (.code yX12_worth cX12_worth 3 (some .int)) ({ frames := 4, cells := 0, slots := 0, locals := 92 }) A (mw E ad sc ar la) [.ref (ad 0), .int x, .int y] (some (.int (if ok2 (inx x (nI (wd * hg))) (inr y (nI 0) (nI 1)) = true then (if y = 0 then cotI (mwv (mcc (ar 1) (ar 2) (ar 5) (ar 6) (ar 7) (ar 8) (cotI (fun v => mey (fun k => fns (ar 1) (ar 5) (ar 7) (ar 8) (nI k) nF) (ar 2) (ar 3) nW (nI v)) (ar 21) 5) (cotI (fun r => mtl nW nF (ar 3) (ar 5) (ar 8) (nI r)) (ar 22) hg) nF wd) (ar 1) (ar 9)) (ar 23) (wd * hg) (tn x) else rm (cotI (mwv (mcc (ar 1) (ar 2) (ar 5) (ar 6) (ar 7) (ar 8) (cotI (fun v => mey (fun k => fns (ar 1) (ar 5) (ar 7) (ar 8) (nI k) nF) (ar 2) (ar 3) nW (nI v)) (ar 21) 5) (cotI (fun r => mtl nW nF (ar 3) (ar 5) (ar 8) (nI r)) (ar 22) hg) nF wd) (ar 1) (ar 9)) (ar 23) (wd * hg)) wd hg (tn x)) else (-1000000001)))) (if ok2 (inx x (nI (wd * hg))) (inr y (nI 0) (nI 1)) = true then mw E ad sc (va_up (va_up (va_up (va_up ar 20 (fiI (fun k => fns (ar 1) (ar 5) (ar 7) (ar 8) (nI k) nF) nW (ar 20) 5)) 21 (cotI (fun v => mey (fun k => fns (ar 1) (ar 5) (ar 7) (ar 8) (nI k) nF) (ar 2) (ar 3) nW (nI v)) (ar 21) 5)) 22 (cotI (fun r => mtl nW nF (ar 3) (ar 5) (ar 8) (nI r)) (ar 22) hg)) 23 (cotI (mwv (mcc (ar 1) (ar 2) (ar 5) (ar 6) (ar 7) (ar 8) (cotI (fun v => mey (fun k => fns (ar 1) (ar 5) (ar 7) (ar 8) (nI k) nF) (ar 2) (ar 3) nW (nI v)) (ar 21) 5) (cotI (fun r => mtl nW nF (ar 3) (ar 5) (ar 8) (nI r)) (ar 22) hg) nF wd) (ar 1) (ar 9)) (ar 23) (wd * hg))) la else mw E ad sc ar la) := by
  have hm := prod64 hwd2 hhg2
  have hm4 := prod4 hwd1 hhg1
  refine Ct.of (lv := [(0, .ref (ad 0)), (1, .int x), (2, .int y)]) (by decide +kernel) (Nat.le_of_ble_eq_true rfl) rfl ?_
  intro zp ze zs zm za zb zh zc hc
  refine g_aload_n (pc := 0) hc 0 dX12_worth_0 rfl rfl ?_
  refine g_iload_n (pc := 1) hc 1 dX12_worth_1 rfl rfl ?_
  refine g_callVi (pc := 2) (rest := []) (As := [.int x]) hc (c_X12_isPace l E ad hA sc ar la x (hwd) (hwd1) (hwd2) (hhg) (hhg1) (hhg2)) mi_X12_isPace tw_1185 0 rfl rfl rfl rfl ⟨rfl, rfl, by decide, by decide⟩ (Nat.le_of_ble_eq_true rfl) ⟨Nat.le_refl _, Nat.le_refl _⟩ rfl dX12_worth_2 ?_
  refine g_if_eq_b (pc := 5) hc 17 dX12_worth_5 (by decide) (fun c1 => ?_) (fun c1 => ?_)
  · refine g_ldc (pc := 17) (v := (-1000000001)) hc tw_1139 dX12_worth_17 ?_
    exact g_iret (pc := 19) hc dX12_worth_19 (by rw [if_neg (ne_true_of_eq_false (ok2_f1 c1))]) (by rw [if_neg (ne_true_of_eq_false (ok2_f1 c1))])
  · refine g_iload_n (pc := 8) hc 2 dX12_worth_8 rfl rfl ?_
    refine g_iconst (pc := 9) (v := nI 0) hc dX12_worth_9 (by decide) ?_
    refine g_iconst (pc := 10) (v := nI 1) hc dX12_worth_10 (by decide) ?_
    refine g_callSi (pc := 11) (rest := []) (As := [.int y, .int (nI 0), .int (nI 1)]) hc (c_X12_isIn l E ad hA sc ar la y (nI 0) (nI 1)) mi_X12_isIn tw_1136 rfl ⟨rfl, rfl, by decide, by decide⟩ (Nat.le_of_ble_eq_true rfl) ⟨Nat.le_refl _, Nat.le_refl _⟩ rfl dX12_worth_11 ?_
    refine g_if_ne_b (pc := 14) hc 20 dX12_worth_14 (by decide) (fun c2 => ?_) (fun c2 => ?_)
    · obtain ⟨p, hp, hx⟩ := inx_of (by omega) c1
      refine g_eq (ws' := mw E ad sc ar la) (lv' := [(0, .ref (ad 0)), (1, .int (nI p)), (2, .int y)]) rfl (by rw [hx]) rfl ?_
      refine g_aload_n (pc := 20) hc 0 dX12_worth_20 rfl rfl ?_
      refine g_callVv (pc := 21) (rest := []) (As := []) hc (c_X12_weigh l E ad hA sc ar la  (hW) (hW60) (hF) (hF200) (hK4) (hwd) (hwd1) (hwd2) (hhg) (hhg1) (hhg2) (hV)) mi_X12_weigh tw_1249 0 rfl rfl rfl rfl ⟨rfl, rfl, by decide, by decide⟩ (Nat.le_of_ble_eq_true rfl) ⟨Nat.le_refl _, Nat.le_refl _⟩ rfl dX12_worth_21 ?_
      refine g_iload_n (pc := 24) hc 2 dX12_worth_24 rfl rfl ?_
      refine g_if_ne (pc := 25) hc 37 dX12_worth_25 (by decide) (fun c3 => ?_) (fun c3 => ?_)
      · refine g_aload_n (pc := 37) hc 0 dX12_worth_37 rfl rfl ?_
        refine g_iload_n (pc := 38) hc 1 dX12_worth_38 rfl rfl ?_
        refine g_callVi (pc := 39) (rest := []) (As := [.int (nI p)]) hc (c_X12_ring l E ad hA sc (va_up (va_up (va_up (va_up ar 20 (fiI (fun k => fns (ar 1) (ar 5) (ar 7) (ar 8) (nI k) nF) nW (ar 20) 5)) 21 (cotI (fun v => mey (fun k => fns (ar 1) (ar 5) (ar 7) (ar 8) (nI k) nF) (ar 2) (ar 3) nW (nI v)) (ar 21) 5)) 22 (cotI (fun r => mtl nW nF (ar 3) (ar 5) (ar 8) (nI r)) (ar 22) hg)) 23 (cotI (mwv (mcc (ar 1) (ar 2) (ar 5) (ar 6) (ar 7) (ar 8) (cotI (fun v => mey (fun k => fns (ar 1) (ar 5) (ar 7) (ar 8) (nI k) nF) (ar 2) (ar 3) nW (nI v)) (ar 21) 5) (cotI (fun r => mtl nW nF (ar 3) (ar 5) (ar 8) (nI r)) (ar 22) hg) nF wd) (ar 1) (ar 9)) (ar 23) (wd * hg))) la p (hwd) (hwd1) (hwd2) (hhg) (hhg1) (hhg2) (by omega)) mi_X12_ring tw_1253 0 rfl rfl rfl rfl ⟨rfl, rfl, by decide, by decide⟩ (Nat.le_of_ble_eq_true rfl) ⟨Nat.le_refl _, Nat.le_refl _⟩ rfl dX12_worth_39 ?_
        refine g_topi (v := rm (cotI (mwv (mcc (ar 1) (ar 2) (ar 5) (ar 6) (ar 7) (ar 8) (cotI (fun v => mey (fun k => fns (ar 1) (ar 5) (ar 7) (ar 8) (nI k) nF) (ar 2) (ar 3) nW (nI v)) (ar 21) 5) (cotI (fun r => mtl nW nF (ar 3) (ar 5) (ar 8) (nI r)) (ar 22) hg) nF wd) (ar 1) (ar 9)) (ar 23) (wd * hg)) wd hg p) rfl ?_
        exact g_iret (pc := 42) hc dX12_worth_42 (by rw [if_pos (ok2_t c1 c2), hx, tn, nI_clamp (by omega)]; (repeat (first | rw [if_pos c3] | rw [if_neg c3] | rw [if_neg (ne_true_of_eq_false c3)]))) (by rw [if_pos (ok2_t c1 c2)])
      · refine g_aload_n (pc := 28) hc 0 dX12_worth_28 rfl rfl ?_
        refine gf_m0_worths (pc := 29) hc tw_1032 dX12_worth_29 ?_
        refine g_iload_n (pc := 32) hc 1 dX12_worth_32 rfl rfl ?_
        refine la_m23 (pc := 33) hc (p) (rfl) (by omega) dX12_worth_33 ?_
        refine g_topi (v := (cotI (mwv (mcc (ar 1) (ar 2) (ar 5) (ar 6) (ar 7) (ar 8) (cotI (fun v => mey (fun k => fns (ar 1) (ar 5) (ar 7) (ar 8) (nI k) nF) (ar 2) (ar 3) nW (nI v)) (ar 21) 5) (cotI (fun r => mtl nW nF (ar 3) (ar 5) (ar 8) (nI r)) (ar 22) hg) nF wd) (ar 1) (ar 9)) (ar 23) (wd * hg)) p) rfl ?_
        refine g_goto (pc := 34) hc 42 dX12_worth_34 (by decide) ?_
        exact g_iret (pc := 42) hc dX12_worth_42 (by rw [if_pos (ok2_t c1 c2), hx, tn, nI_clamp (by omega)]; (repeat (first | rw [if_pos c3] | rw [if_neg c3] | rw [if_neg (ne_true_of_eq_false c3)]))) (by rw [if_pos (ok2_t c1 c2)])
    · refine g_ldc (pc := 17) (v := (-1000000001)) hc tw_1139 dX12_worth_17 ?_
      exact g_iret (pc := 19) hc dX12_worth_19 (by rw [if_neg (ne_true_of_eq_false (ok2_f2 c1 c2))]) (by rw [if_neg (ne_true_of_eq_false (ok2_f2 c1 c2))])

theorem dX12_best_0 : decode cX12_best 0 = .ok (.iconst 0, 1) := by decide +kernel
theorem dX12_best_1 : decode cX12_best 1 = .ok (.istore_n 1, 1) := by decide +kernel
theorem dX12_best_2 : decode cX12_best 2 = .ok (.iconst 1, 1) := by decide +kernel
theorem dX12_best_3 : decode cX12_best 3 = .ok (.istore_n 2, 1) := by decide +kernel
theorem dX12_best_4 : decode cX12_best 4 = .ok (.iload_n 2, 1) := by decide +kernel
theorem dX12_best_5 : decode cX12_best 5 = .ok (.aload_n 0, 1) := by decide +kernel
theorem dX12_best_6 : decode cX12_best 6 = .ok (.invokevirtual 109, 3) := by decide +kernel
theorem dX12_best_9 : decode cX12_best 9 = .ok (.if_icmp .ge 28, 3) := by decide +kernel
theorem dX12_best_12 : decode cX12_best 12 = .ok (.aload_n 0, 1) := by decide +kernel
theorem dX12_best_13 : decode cX12_best 13 = .ok (.iload_n 2, 1) := by decide +kernel
theorem dX12_best_14 : decode cX12_best 14 = .ok (.invokevirtual 181, 3) := by decide +kernel
theorem dX12_best_17 : decode cX12_best 17 = .ok (.aload_n 0, 1) := by decide +kernel
theorem dX12_best_18 : decode cX12_best 18 = .ok (.iload_n 1, 1) := by decide +kernel
theorem dX12_best_19 : decode cX12_best 19 = .ok (.invokevirtual 181, 3) := by decide +kernel
theorem dX12_best_22 : decode cX12_best 22 = .ok (.if_icmp .le 7, 3) := by decide +kernel
theorem dX12_best_25 : decode cX12_best 25 = .ok (.iload_n 2, 1) := by decide +kernel
theorem dX12_best_26 : decode cX12_best 26 = .ok (.goto 4, 3) := by decide +kernel
theorem dX12_best_29 : decode cX12_best 29 = .ok (.iload_n 1, 1) := by decide +kernel
theorem dX12_best_30 : decode cX12_best 30 = .ok (.istore_n 1, 1) := by decide +kernel
theorem dX12_best_31 : decode cX12_best 31 = .ok (.iinc 2 1, 3) := by decide +kernel
theorem dX12_best_34 : decode cX12_best 34 = .ok (.goto (-30), 3) := by decide +kernel
theorem dX12_best_37 : decode cX12_best 37 = .ok (.iload_n 1, 1) := by decide +kernel
theorem dX12_best_38 : decode cX12_best 38 = .ok (.ireturn, 1) := by decide +kernel

set_option maxHeartbeats 4000000 in
set_option maxRecDepth 100000 in
theorem c_X12_best (l : Launch) (E : Ev) {A : Nat → Prop} (ad : Nat → Nat) (hA : Oka 30 ad A) (sc : Nat → Int32) (ar : Nat → Nat → Int32) (la : Nat → Int64) {wd hg : Nat}  (hwd : sc 0 = nI wd) (hwd1 : 2 ≤ wd) (hwd2 : wd ≤ 8) (hhg : sc 1 = nI hg) (hhg1 : 2 ≤ hg) (hhg2 : hg ≤ 8) : Ct l E yX12_best (.code yX12_best cX12_best 3 (some .int)) ({ frames := 2, cells := 0, slots := 0, locals := 46 }) A (mw E ad sc ar la) [.ref (ad 0)] (some (.int (nI (mbb (ar 23) wd hg)))) (mw E ad sc ar la) := by
  have hm := prod64 hwd2 hhg2
  have hm4 := prod4 hwd1 hhg1
  refine Ct.of (lv := [(0, .ref (ad 0))]) (by decide +kernel) (Nat.le_of_ble_eq_true rfl) rfl ?_
  intro zp ze zs zm za zb zh zc hc
  refine g_iconst (pc := 0) (v := nI 0) hc dX12_best_0 (by decide) ?_
  refine g_istore_n (pc := 1) (lv' := [(0, .ref (ad 0)), (1, .int (nI 0))]) hc dX12_best_1 rfl (by decide) rfl ?_
  refine g_iconst (pc := 2) (v := nI 1) hc dX12_best_2 (by decide) ?_
  refine g_istore_n (pc := 3) (lv' := [(0, .ref (ad 0)), (1, .int (nI 0)), (2, .int (nI 1))]) hc dX12_best_3 rfl (by decide) rfl ?_
  have L4_1 : ∀ (kt t : Nat), t + kt = wd * hg - 1 → G zp l ze ({ frames := 2, cells := 0, slots := 0, locals := 46 }) zs zm za zb zh zc 0 0 (MQ zb (Qz E A (some (.int (nI (mbb (ar 23) wd hg)))) (mw E ad sc ar la)) za zs 0 0 A) E A 3 (mw E ad sc ar la) (4) [(0, .ref (ad 0)), (1, .int (nI (mbs (ar 23) wd hg (t)))), (2, .int (nI (t + 1)))] [] := by
    intro kt
    induction kt with
    | zero =>
      intro t lht
      have lhtn : wd * hg - 1 = t := by omega
      subst lhtn
      refine g_iload_n (pc := 4) hc 2 dX12_best_4 rfl rfl ?_
      refine g_aload_n (pc := 5) hc 0 dX12_best_5 rfl rfl ?_
      refine g_callVi (pc := 6) (rest := [.int (nI (wd * hg - 1 + 1))]) (As := []) hc (c_X12_paces l E ad hA sc ar la  (hwd) (hwd1) (hwd2) (hhg) (hhg1) (hhg2)) mi_X12_paces tw_1140 0 rfl rfl rfl rfl ⟨rfl, rfl, by decide, by decide⟩ (Nat.le_of_ble_eq_true rfl) ⟨Nat.le_refl _, Nat.le_refl _⟩ rfl dX12_best_6 ?_
      refine g_icmp_ge_t (pc := 9) hc 37 dX12_best_9 (by decide) (nI_le (by omega) (by omega)) ?_
      refine g_iload_n (pc := 37) hc 1 dX12_best_37 rfl rfl ?_
      exact g_iret (pc := 38) hc dX12_best_38 (rfl) (rfl)
    | succ kt iht =>
      intro t lht
      have lhtn : t < wd * hg - 1 := by omega
      refine g_iload_n (pc := 4) hc 2 dX12_best_4 rfl rfl ?_
      refine g_aload_n (pc := 5) hc 0 dX12_best_5 rfl rfl ?_
      refine g_callVi (pc := 6) (rest := [.int (nI (t + 1))]) (As := []) hc (c_X12_paces l E ad hA sc ar la  (hwd) (hwd1) (hwd2) (hhg) (hhg1) (hhg2)) mi_X12_paces tw_1140 0 rfl rfl rfl rfl ⟨rfl, rfl, by decide, by decide⟩ (Nat.le_of_ble_eq_true rfl) ⟨Nat.le_refl _, Nat.le_refl _⟩ rfl dX12_best_6 ?_
      refine g_icmp_ge_f (pc := 9) hc 37 dX12_best_9 (by decide) (nI_ge (by omega) (by omega)) ?_
      refine g_aload_n (pc := 12) hc 0 dX12_best_12 rfl rfl ?_
      refine g_iload_n (pc := 13) hc 2 dX12_best_13 rfl rfl ?_
      refine g_callVi (pc := 14) (rest := []) (As := [.int (nI (t + 1))]) hc (c_X12_ring l E ad hA sc ar la (t + 1) (hwd) (hwd1) (hwd2) (hhg) (hhg1) (hhg2) (by omega)) mi_X12_ring tw_1253 0 rfl rfl rfl rfl ⟨rfl, rfl, by decide, by decide⟩ (Nat.le_of_ble_eq_true rfl) ⟨Nat.le_refl _, Nat.le_refl _⟩ rfl dX12_best_14 ?_
      refine g_aload_n (pc := 17) hc 0 dX12_best_17 rfl rfl ?_
      refine g_iload_n (pc := 18) hc 1 dX12_best_18 rfl rfl ?_
      refine g_callVi (pc := 19) (rest := [.int (rm (ar 23) wd hg (t + 1))]) (As := [.int (nI (mbs (ar 23) wd hg (t)))]) hc (c_X12_ring l E ad hA sc ar la (mbs (ar 23) wd hg (t)) (hwd) (hwd1) (hwd2) (hhg) (hhg1) (hhg2) (Nat.lt_of_le_of_lt (mbs_le _ _ _ _) (by omega))) mi_X12_ring tw_1253 0 rfl rfl rfl rfl ⟨rfl, rfl, by decide, by decide⟩ (Nat.le_of_ble_eq_true rfl) ⟨Nat.le_refl _, Nat.le_refl _⟩ rfl dX12_best_19 ?_
      refine g_icmp_le (pc := 22) hc 29 dX12_best_22 (by decide) (fun c2 => ?_) (fun c2 => ?_)
      · refine g_iload_n (pc := 29) hc 1 dX12_best_29 rfl rfl ?_
        refine g_istore_n (pc := 30) (lv' := [(0, .ref (ad 0)), (1, .int (nI (mbs (ar 23) wd hg (t)))), (2, .int (nI (t + 1)))]) hc dX12_best_30 rfl (by decide) rfl ?_
        refine g_iinc (pc := 31) (v := nI (t + 1 + 1)) (lv' := [(0, .ref (ad 0)), (1, .int (nI (mbs (ar 23) wd hg (t)))), (2, .int (nI (t + 1 + 1)))]) hc 2 dX12_best_31 rfl (nI_ofi (t + 1) 1) (by decide) rfl ?_
        refine g_goto (pc := 34) hc 4 dX12_best_34 (by decide) ?_
        exact g_eq (ws' := mw E ad sc ar la) (lv' := [(0, .ref (ad 0)), (1, .int (nI (mbs (ar 23) wd hg (t + 1)))), (2, .int (nI (t + 1 + 1)))]) (rfl) (by rw [mbs_succ]; repeat (first | rw [if_pos c2] | rw [if_neg c2] | rw [if_neg (ne_true_of_eq_false c2)])) rfl (iht (t + 1) (by omega))
      · refine g_iload_n (pc := 25) hc 2 dX12_best_25 rfl rfl ?_
        refine g_goto (pc := 26) hc 30 dX12_best_26 (by decide) ?_
        refine g_istore_n (pc := 30) (lv' := [(0, .ref (ad 0)), (1, .int (nI (t + 1))), (2, .int (nI (t + 1)))]) hc dX12_best_30 rfl (by decide) rfl ?_
        refine g_iinc (pc := 31) (v := nI (t + 1 + 1)) (lv' := [(0, .ref (ad 0)), (1, .int (nI (t + 1))), (2, .int (nI (t + 1 + 1)))]) hc 2 dX12_best_31 rfl (nI_ofi (t + 1) 1) (by decide) rfl ?_
        refine g_goto (pc := 34) hc 4 dX12_best_34 (by decide) ?_
        exact g_eq (ws' := mw E ad sc ar la) (lv' := [(0, .ref (ad 0)), (1, .int (nI (mbs (ar 23) wd hg (t + 1)))), (2, .int (nI (t + 1 + 1)))]) (rfl) (by rw [mbs_succ]; repeat (first | rw [if_pos c2] | rw [if_neg c2] | rw [if_neg (ne_true_of_eq_false c2)])) rfl (iht (t + 1) (by omega))
  exact g_eq (ws' := mw E ad sc ar la) (lv' := [(0, .ref (ad 0)), (1, .int (nI (mbs (ar 23) wd hg (0)))), (2, .int (nI (0 + 1)))]) (rfl) (rfl) rfl (L4_1 (wd * hg - 1 - 0) (0) (by omega))

theorem dX12_greatest_0 : decode cX12_greatest 0 = .ok (.aload_n 0, 1) := by decide +kernel
theorem dX12_greatest_1 : decode cX12_greatest 1 = .ok (.invokevirtual 178, 3) := by decide +kernel
theorem dX12_greatest_4 : decode cX12_greatest 4 = .ok (.aload_n 0, 1) := by decide +kernel
theorem dX12_greatest_5 : decode cX12_greatest 5 = .ok (.invokevirtual 184, 3) := by decide +kernel
theorem dX12_greatest_8 : decode cX12_greatest 8 = .ok (.ireturn, 1) := by decide +kernel

set_option maxHeartbeats 4000000 in
set_option maxRecDepth 100000 in
theorem c_X12_greatest (l : Launch) (E : Ev) {A : Nat → Prop} (ad : Nat → Nat) (hA : Oka 30 ad A) (sc : Nat → Int32) (ar : Nat → Nat → Int32) (la : Nat → Int64) {nW nF wd hg : Nat}  (hW : sc 3 = nI nW) (hW60 : nW ≤ 60) (hF : sc 4 = nI nF) (hF200 : nF ≤ 200) (hK4 : ∀ f, f < nF → ∃ k, k < 4 ∧ ar 7 f = nI k) (hwd : sc 0 = nI wd) (hwd1 : 2 ≤ wd) (hwd2 : wd ≤ 8) (hhg : sc 1 = nI hg) (hhg1 : 2 ≤ hg) (hhg2 : hg ≤ 8) (hV : ∀ i, i < nW → ∃ v, v < 5 ∧ ar 2 i = nI v) : Ct l E yX12_greatest (.code yX12_greatest cX12_greatest 1 (some .int)) ({ frames := 4, cells := 0, slots := 0, locals := 92 }) A (mw E ad sc ar la) [.ref (ad 0)] (some (.int (nI (mbb (cotI (mwv (mcc (ar 1) (ar 2) (ar 5) (ar 6) (ar 7) (ar 8) (cotI (fun v => mey (fun k => fns (ar 1) (ar 5) (ar 7) (ar 8) (nI k) nF) (ar 2) (ar 3) nW (nI v)) (ar 21) 5) (cotI (fun r => mtl nW nF (ar 3) (ar 5) (ar 8) (nI r)) (ar 22) hg) nF wd) (ar 1) (ar 9)) (ar 23) (wd * hg)) wd hg)))) (mw E ad sc (va_up (va_up (va_up (va_up ar 20 (fiI (fun k => fns (ar 1) (ar 5) (ar 7) (ar 8) (nI k) nF) nW (ar 20) 5)) 21 (cotI (fun v => mey (fun k => fns (ar 1) (ar 5) (ar 7) (ar 8) (nI k) nF) (ar 2) (ar 3) nW (nI v)) (ar 21) 5)) 22 (cotI (fun r => mtl nW nF (ar 3) (ar 5) (ar 8) (nI r)) (ar 22) hg)) 23 (cotI (mwv (mcc (ar 1) (ar 2) (ar 5) (ar 6) (ar 7) (ar 8) (cotI (fun v => mey (fun k => fns (ar 1) (ar 5) (ar 7) (ar 8) (nI k) nF) (ar 2) (ar 3) nW (nI v)) (ar 21) 5) (cotI (fun r => mtl nW nF (ar 3) (ar 5) (ar 8) (nI r)) (ar 22) hg) nF wd) (ar 1) (ar 9)) (ar 23) (wd * hg))) la) := by
  refine Ct.of (lv := [(0, .ref (ad 0))]) (by decide +kernel) (Nat.le_of_ble_eq_true rfl) rfl ?_
  intro zp ze zs zm za zb zh zc hc
  refine g_aload_n (pc := 0) hc 0 dX12_greatest_0 rfl rfl ?_
  refine g_callVv (pc := 1) (rest := []) (As := []) hc (c_X12_weigh l E ad hA sc ar la  (hW) (hW60) (hF) (hF200) (hK4) (hwd) (hwd1) (hwd2) (hhg) (hhg1) (hhg2) (hV)) mi_X12_weigh tw_1249 0 rfl rfl rfl rfl ⟨rfl, rfl, by decide, by decide⟩ (Nat.le_of_ble_eq_true rfl) ⟨Nat.le_refl _, Nat.le_refl _⟩ rfl dX12_greatest_1 ?_
  refine g_aload_n (pc := 4) hc 0 dX12_greatest_4 rfl rfl ?_
  refine g_callVi (pc := 5) (rest := []) (As := []) hc (c_X12_best l E ad hA sc (va_up (va_up (va_up (va_up ar 20 (fiI (fun k => fns (ar 1) (ar 5) (ar 7) (ar 8) (nI k) nF) nW (ar 20) 5)) 21 (cotI (fun v => mey (fun k => fns (ar 1) (ar 5) (ar 7) (ar 8) (nI k) nF) (ar 2) (ar 3) nW (nI v)) (ar 21) 5)) 22 (cotI (fun r => mtl nW nF (ar 3) (ar 5) (ar 8) (nI r)) (ar 22) hg)) 23 (cotI (mwv (mcc (ar 1) (ar 2) (ar 5) (ar 6) (ar 7) (ar 8) (cotI (fun v => mey (fun k => fns (ar 1) (ar 5) (ar 7) (ar 8) (nI k) nF) (ar 2) (ar 3) nW (nI v)) (ar 21) 5) (cotI (fun r => mtl nW nF (ar 3) (ar 5) (ar 8) (nI r)) (ar 22) hg) nF wd) (ar 1) (ar 9)) (ar 23) (wd * hg))) la  (hwd) (hwd1) (hwd2) (hhg) (hhg1) (hhg2)) mi_X12_best tw_1261 0 rfl rfl rfl rfl ⟨rfl, rfl, by decide, by decide⟩ (Nat.le_of_ble_eq_true rfl) ⟨Nat.le_refl _, Nat.le_refl _⟩ rfl dX12_greatest_5 ?_
  refine g_topi (v := nI (mbb (cotI (mwv (mcc (ar 1) (ar 2) (ar 5) (ar 6) (ar 7) (ar 8) (cotI (fun v => mey (fun k => fns (ar 1) (ar 5) (ar 7) (ar 8) (nI k) nF) (ar 2) (ar 3) nW (nI v)) (ar 21) 5) (cotI (fun r => mtl nW nF (ar 3) (ar 5) (ar 8) (nI r)) (ar 22) hg) nF wd) (ar 1) (ar 9)) (ar 23) (wd * hg)) wd hg)) rfl ?_
  exact g_iret (pc := 8) hc dX12_greatest_8 (rfl) (rfl)
