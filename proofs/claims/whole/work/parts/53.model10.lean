theorem dX12_next_0 : decode cX12_next 0 = .ok (.aload_n 0, 1) := by decide +kernel
theorem dX12_next_1 : decode cX12_next 1 = .ok (.getfield 211, 3) := by decide +kernel
theorem dX12_next_4 : decode cX12_next 4 = .ok (.aload_n 0, 1) := by decide +kernel
theorem dX12_next_5 : decode cX12_next 5 = .ok (.getfield 204, 3) := by decide +kernel
theorem dX12_next_8 : decode cX12_next 8 = .ok (.if_icmp .ge 30, 3) := by decide +kernel
theorem dX12_next_11 : decode cX12_next 11 = .ok (.aload_n 0, 1) := by decide +kernel
theorem dX12_next_12 : decode cX12_next 12 = .ok (.getfield 51, 3) := by decide +kernel
theorem dX12_next_15 : decode cX12_next 15 = .ok (.aload_n 0, 1) := by decide +kernel
theorem dX12_next_16 : decode cX12_next 16 = .ok (.getfield 211, 3) := by decide +kernel
theorem dX12_next_19 : decode cX12_next 19 = .ok (.iaload, 1) := by decide +kernel
theorem dX12_next_20 : decode cX12_next 20 = .ok (.bipush 32, 2) := by decide +kernel
theorem dX12_next_22 : decode cX12_next 22 = .ok (.if_icmp .ne 16, 3) := by decide +kernel
theorem dX12_next_25 : decode cX12_next 25 = .ok (.aload_n 0, 1) := by decide +kernel
theorem dX12_next_26 : decode cX12_next 26 = .ok (.dup, 1) := by decide +kernel
theorem dX12_next_27 : decode cX12_next 27 = .ok (.getfield 211, 3) := by decide +kernel
theorem dX12_next_30 : decode cX12_next 30 = .ok (.iconst 1, 1) := by decide +kernel
theorem dX12_next_31 : decode cX12_next 31 = .ok (.iadd, 1) := by decide +kernel
theorem dX12_next_32 : decode cX12_next 32 = .ok (.putfield 211, 3) := by decide +kernel
theorem dX12_next_35 : decode cX12_next 35 = .ok (.goto (-35), 3) := by decide +kernel
theorem dX12_next_38 : decode cX12_next 38 = .ok (.aload_n 0, 1) := by decide +kernel
theorem dX12_next_39 : decode cX12_next 39 = .ok (.aload_n 0, 1) := by decide +kernel
theorem dX12_next_40 : decode cX12_next 40 = .ok (.getfield 211, 3) := by decide +kernel
theorem dX12_next_43 : decode cX12_next 43 = .ok (.putfield 214, 3) := by decide +kernel
theorem dX12_next_46 : decode cX12_next 46 = .ok (.aload_n 0, 1) := by decide +kernel
theorem dX12_next_47 : decode cX12_next 47 = .ok (.getfield 211, 3) := by decide +kernel
theorem dX12_next_50 : decode cX12_next 50 = .ok (.aload_n 0, 1) := by decide +kernel
theorem dX12_next_51 : decode cX12_next 51 = .ok (.getfield 204, 3) := by decide +kernel
theorem dX12_next_54 : decode cX12_next 54 = .ok (.if_icmp .ge 30, 3) := by decide +kernel
theorem dX12_next_57 : decode cX12_next 57 = .ok (.aload_n 0, 1) := by decide +kernel
theorem dX12_next_58 : decode cX12_next 58 = .ok (.getfield 51, 3) := by decide +kernel
theorem dX12_next_61 : decode cX12_next 61 = .ok (.aload_n 0, 1) := by decide +kernel
theorem dX12_next_62 : decode cX12_next 62 = .ok (.getfield 211, 3) := by decide +kernel
theorem dX12_next_65 : decode cX12_next 65 = .ok (.iaload, 1) := by decide +kernel
theorem dX12_next_66 : decode cX12_next 66 = .ok (.bipush 32, 2) := by decide +kernel
theorem dX12_next_68 : decode cX12_next 68 = .ok (.if_icmp .eq 16, 3) := by decide +kernel
theorem dX12_next_71 : decode cX12_next 71 = .ok (.aload_n 0, 1) := by decide +kernel
theorem dX12_next_72 : decode cX12_next 72 = .ok (.dup, 1) := by decide +kernel
theorem dX12_next_73 : decode cX12_next 73 = .ok (.getfield 211, 3) := by decide +kernel
theorem dX12_next_76 : decode cX12_next 76 = .ok (.iconst 1, 1) := by decide +kernel
theorem dX12_next_77 : decode cX12_next 77 = .ok (.iadd, 1) := by decide +kernel
theorem dX12_next_78 : decode cX12_next 78 = .ok (.putfield 211, 3) := by decide +kernel
theorem dX12_next_81 : decode cX12_next 81 = .ok (.goto (-35), 3) := by decide +kernel
theorem dX12_next_84 : decode cX12_next 84 = .ok (.aload_n 0, 1) := by decide +kernel
theorem dX12_next_85 : decode cX12_next 85 = .ok (.aload_n 0, 1) := by decide +kernel
theorem dX12_next_86 : decode cX12_next 86 = .ok (.getfield 211, 3) := by decide +kernel
theorem dX12_next_89 : decode cX12_next 89 = .ok (.aload_n 0, 1) := by decide +kernel
theorem dX12_next_90 : decode cX12_next 90 = .ok (.getfield 214, 3) := by decide +kernel
theorem dX12_next_93 : decode cX12_next 93 = .ok (.isub, 1) := by decide +kernel
theorem dX12_next_94 : decode cX12_next 94 = .ok (.putfield 217, 3) := by decide +kernel
theorem dX12_next_97 : decode cX12_next 97 = .ok (.return_, 1) := by decide +kernel

set_option maxHeartbeats 4000000 in
set_option maxRecDepth 100000 in
theorem c_X12_next (l : Launch) (E : Ev) {A : Nat → Prop} (ad : Nat → Nat) (hA : Oka 30 ad A) (sc : Nat → Int32) (ar : Nat → Nat → Int32) (la : Nat → Int64) {tL : Nat} (q : Rq) (hT : sc 7 = nI tL) (hT60 : tL ≤ 60) (h9 : sc 9 = nI q.2.1) (hq : rdok tL q) (hB : ∀ i, ar 11 i &&& nI 255 = ar 11 i) : Ct l E yX12_next (.code yX12_next cX12_next 1 none) ({ frames := 0, cells := 0, slots := 0, locals := 0 }) A (mw E ad sc ar la) [.ref (ad 0)] (none) (mw E ad (va_up (va_up (va_up sc 9 (nI (goT (ar 11) tL q).2.1)) 10 (nI (goT (ar 11) tL q).1)) 11 (nI ((goT (ar 11) tL q).2.1 - (goT (ar 11) tL q).1))) ar la) := by
  have hq1 : q.1 ≤ q.2.1 := hq.1
  have hq2 : q.2.1 ≤ tL := hq.2
  have hg := g_in (ar 11) hq2
  refine Ct.of (lv := [(0, .ref (ad 0))]) (by decide +kernel) (Nat.le_of_ble_eq_true rfl) rfl ?_
  intro zp ze zs zm za zb zh zc hc
  have L0_1 : ∀ (ki i : Nat), i + ki = tL → (hnb : nb (ar 11) (tL - (i)) (i) = gS (ar 11) tL q.2.1) → G zp l ze ({ frames := 0, cells := 0, slots := 0, locals := 0 }) zs zm za zb zh zc 0 0 (MQ zb (Qz E A (none) (mw E ad (va_up (va_up (va_up sc 9 (nI (goT (ar 11) tL q).2.1)) 10 (nI (goT (ar 11) tL q).1)) 11 (nI ((goT (ar 11) tL q).2.1 - (goT (ar 11) tL q).1))) ar la)) za zs 0 0 A) E A 1 (mw E ad (va_up sc 9 (nI (i))) ar la) (0) [(0, .ref (ad 0))] [] := by
    intro ki
    induction ki with
    | zero =>
      intro i lhi hnb
      have lhin : tL = i := by omega
      subst lhin
      refine g_aload_n (pc := 0) hc 0 dX12_next_0 rfl rfl ?_
      refine gf_m0_read (pc := 1) hc tw_1037 dX12_next_1 ?_
      refine g_topi (v := nI (tL)) rfl ?_
      refine g_aload_n (pc := 4) hc 0 dX12_next_4 rfl rfl ?_
      refine gf_m0_taped (pc := 5) hc tw_1019 dX12_next_5 ?_
      refine g_topi (v := sc 7) rfl ?_
      refine g_topi (v := nI tL) (hT) ?_
      refine g_icmp_ge_t (pc := 8) hc 38 dX12_next_8 (by decide) (nI_le (by omega) (by omega)) ?_
      refine g_eq (ws' := mw E ad (va_up sc 9 (nI (gS (ar 11) tL q.2.1))) ar la) (lv' := [(0, .ref (ad 0))]) (by rw [← hnb, nb_e]) rfl rfl ?_
      refine g_aload_n (pc := 38) hc 0 dX12_next_38 rfl rfl ?_
      refine g_aload_n (pc := 39) hc 0 dX12_next_39 rfl rfl ?_
      refine gf_m0_read (pc := 40) hc tw_1037 dX12_next_40 ?_
      refine g_topi (v := nI (gS (ar 11) tL q.2.1)) rfl ?_
      refine pf_m0_from (pc := 43) hc hA tw_1038 dX12_next_43 ?_
      have L46_2 : ∀ (kj j : Nat), j + kj = tL → (hnw : nw (ar 11) (tL - (j)) (j) = gE (ar 11) tL q.2.1) → G zp l ze ({ frames := 0, cells := 0, slots := 0, locals := 0 }) zs zm za zb zh zc 0 0 (MQ zb (Qz E A (none) (mw E ad (va_up (va_up (va_up sc 9 (nI (goT (ar 11) tL q).2.1)) 10 (nI (goT (ar 11) tL q).1)) 11 (nI ((goT (ar 11) tL q).2.1 - (goT (ar 11) tL q).1))) ar la)) za zs 0 0 A) E A 1 (mw E ad (va_up (va_up sc 10 (nI (gS (ar 11) tL q.2.1))) 9 (nI (j))) ar la) (46) [(0, .ref (ad 0))] [] := by
        intro kj
        induction kj with
        | zero =>
          intro j lhj hnw
          have lhjn : tL = j := by omega
          subst lhjn
          refine g_aload_n (pc := 46) hc 0 dX12_next_46 rfl rfl ?_
          refine gf_m0_read (pc := 47) hc tw_1037 dX12_next_47 ?_
          refine g_topi (v := nI (tL)) rfl ?_
          refine g_aload_n (pc := 50) hc 0 dX12_next_50 rfl rfl ?_
          refine gf_m0_taped (pc := 51) hc tw_1019 dX12_next_51 ?_
          refine g_topi (v := sc 7) rfl ?_
          refine g_topi (v := nI tL) (hT) ?_
          refine g_icmp_ge_t (pc := 54) hc 84 dX12_next_54 (by decide) (nI_le (by omega) (by omega)) ?_
          refine g_eq (ws' := mw E ad (va_up (va_up sc 10 (nI (gS (ar 11) tL q.2.1))) 9 (nI (gE (ar 11) tL q.2.1))) ar la) (lv' := [(0, .ref (ad 0))]) (by rw [← hnw, nw_e]) rfl rfl ?_
          refine g_aload_n (pc := 84) hc 0 dX12_next_84 rfl rfl ?_
          refine g_aload_n (pc := 85) hc 0 dX12_next_85 rfl rfl ?_
          refine gf_m0_read (pc := 86) hc tw_1037 dX12_next_86 ?_
          refine g_topi (v := nI (gE (ar 11) tL q.2.1)) rfl ?_
          refine g_aload_n (pc := 89) hc 0 dX12_next_89 rfl rfl ?_
          refine gf_m0_from (pc := 90) hc tw_1038 dX12_next_90 ?_
          refine g_topi (v := nI (gS (ar 11) tL q.2.1)) rfl ?_
          refine g_isub (pc := 93) hc dX12_next_93 ?_
          refine g_topi (v := nI (gE (ar 11) tL q.2.1 - gS (ar 11) tL q.2.1)) (pk_sub hg.2.1) ?_
          refine pf_m0_long1 (pc := 94) hc hA tw_1039 dX12_next_94 ?_
          exact g_vret (pc := 97) hc dX12_next_97 rfl (rfl)
        | succ kj ihj =>
          intro j lhj hnw
          have lhjn : j < tL := by omega
          refine g_aload_n (pc := 46) hc 0 dX12_next_46 rfl rfl ?_
          refine gf_m0_read (pc := 47) hc tw_1037 dX12_next_47 ?_
          refine g_topi (v := nI (j)) rfl ?_
          refine g_aload_n (pc := 50) hc 0 dX12_next_50 rfl rfl ?_
          refine gf_m0_taped (pc := 51) hc tw_1019 dX12_next_51 ?_
          refine g_topi (v := sc 7) rfl ?_
          refine g_topi (v := nI tL) (hT) ?_
          refine g_icmp_ge_f (pc := 54) hc 84 dX12_next_54 (by decide) (nI_ge (by omega) (by omega)) ?_
          refine g_aload_n (pc := 57) hc 0 dX12_next_57 rfl rfl ?_
          refine gf_m0_tape (pc := 58) hc tw_1018 dX12_next_58 ?_
          refine g_aload_n (pc := 61) hc 0 dX12_next_61 rfl rfl ?_
          refine gf_m0_read (pc := 62) hc tw_1037 dX12_next_62 ?_
          refine g_topi (v := nI (j)) rfl ?_
          refine la_m11 (pc := 65) hc (j) (rfl) (by omega) dX12_next_65 ?_
          refine g_topi (v := ar 11 j &&& nI 255) ((hB _).symm) ?_
          refine g_bipush (pc := 66) (v := nI 32) hc dX12_next_66 (by decide) ?_
          refine g_icmp_eq (pc := 68) hc 84 dX12_next_68 (by decide) (fun c3 => ?_) (fun c3 => ?_)
          · refine g_eq (ws' := mw E ad (va_up (va_up sc 10 (nI (gS (ar 11) tL q.2.1))) 9 (nI (gE (ar 11) tL q.2.1))) ar la) (lv' := [(0, .ref (ad 0))]) (by rw [← hnw, nw_x lhjn c3]) rfl rfl ?_
            refine g_aload_n (pc := 84) hc 0 dX12_next_84 rfl rfl ?_
            refine g_aload_n (pc := 85) hc 0 dX12_next_85 rfl rfl ?_
            refine gf_m0_read (pc := 86) hc tw_1037 dX12_next_86 ?_
            refine g_topi (v := nI (gE (ar 11) tL q.2.1)) rfl ?_
            refine g_aload_n (pc := 89) hc 0 dX12_next_89 rfl rfl ?_
            refine gf_m0_from (pc := 90) hc tw_1038 dX12_next_90 ?_
            refine g_topi (v := nI (gS (ar 11) tL q.2.1)) rfl ?_
            refine g_isub (pc := 93) hc dX12_next_93 ?_
            refine g_topi (v := nI (gE (ar 11) tL q.2.1 - gS (ar 11) tL q.2.1)) (pk_sub hg.2.1) ?_
            refine pf_m0_long1 (pc := 94) hc hA tw_1039 dX12_next_94 ?_
            exact g_vret (pc := 97) hc dX12_next_97 rfl (rfl)
          · refine g_aload_n (pc := 71) hc 0 dX12_next_71 rfl rfl ?_
            refine g_dup (pc := 72) hc dX12_next_72 rfl ?_
            refine gf_m0_read (pc := 73) hc tw_1037 dX12_next_73 ?_
            refine g_topi (v := nI (j)) rfl ?_
            refine g_iconst (pc := 76) (v := nI 1) hc dX12_next_76 (by decide) ?_
            refine g_iadd (pc := 77) hc dX12_next_77 ?_
            refine g_topi (v := nI (j + 1)) (nI_add j 1) ?_
            refine pf_m0_read (pc := 78) hc hA tw_1037 dX12_next_78 ?_
            refine g_eq (ws' := mw E ad (va_up (va_up sc 10 (nI (gS (ar 11) tL q.2.1))) 9 (nI (j + 1))) ar la) (lv' := [(0, .ref (ad 0))]) rfl rfl rfl ?_
            refine g_goto (pc := 81) hc 46 dX12_next_81 (by decide) ?_
            exact g_eq (ws' := mw E ad (va_up (va_up sc 10 (nI (gS (ar 11) tL q.2.1))) 9 (nI (j + 1))) ar la) (lv' := [(0, .ref (ad 0))]) (rfl) (rfl) rfl (ihj (j + 1) (by omega) ((nw_b lhjn c3).symm.trans hnw))
      exact g_eq (ws' := mw E ad (va_up (va_up sc 10 (nI (gS (ar 11) tL q.2.1))) 9 (nI ((gS (ar 11) tL q.2.1)))) ar la) (lv' := [(0, .ref (ad 0))]) (rfl) (rfl) rfl (L46_2 (tL - (gS (ar 11) tL q.2.1)) ((gS (ar 11) tL q.2.1)) (by omega) (rfl))
    | succ ki ihi =>
      intro i lhi hnb
      have lhin : i < tL := by omega
      refine g_aload_n (pc := 0) hc 0 dX12_next_0 rfl rfl ?_
      refine gf_m0_read (pc := 1) hc tw_1037 dX12_next_1 ?_
      refine g_topi (v := nI (i)) rfl ?_
      refine g_aload_n (pc := 4) hc 0 dX12_next_4 rfl rfl ?_
      refine gf_m0_taped (pc := 5) hc tw_1019 dX12_next_5 ?_
      refine g_topi (v := sc 7) rfl ?_
      refine g_topi (v := nI tL) (hT) ?_
      refine g_icmp_ge_f (pc := 8) hc 38 dX12_next_8 (by decide) (nI_ge (by omega) (by omega)) ?_
      refine g_aload_n (pc := 11) hc 0 dX12_next_11 rfl rfl ?_
      refine gf_m0_tape (pc := 12) hc tw_1018 dX12_next_12 ?_
      refine g_aload_n (pc := 15) hc 0 dX12_next_15 rfl rfl ?_
      refine gf_m0_read (pc := 16) hc tw_1037 dX12_next_16 ?_
      refine g_topi (v := nI (i)) rfl ?_
      refine la_m11 (pc := 19) hc (i) (rfl) (by omega) dX12_next_19 ?_
      refine g_topi (v := ar 11 i &&& nI 255) ((hB _).symm) ?_
      refine g_bipush (pc := 20) (v := nI 32) hc dX12_next_20 (by decide) ?_
      refine g_icmp_ne (pc := 22) hc 38 dX12_next_22 (by decide) (fun c4 => ?_) (fun c4 => ?_)
      · refine g_eq (ws' := mw E ad (va_up sc 9 (nI (gS (ar 11) tL q.2.1))) ar la) (lv' := [(0, .ref (ad 0))]) (by rw [← hnb, nb_x lhin c4]) rfl rfl ?_
        refine g_aload_n (pc := 38) hc 0 dX12_next_38 rfl rfl ?_
        refine g_aload_n (pc := 39) hc 0 dX12_next_39 rfl rfl ?_
        refine gf_m0_read (pc := 40) hc tw_1037 dX12_next_40 ?_
        refine g_topi (v := nI (gS (ar 11) tL q.2.1)) rfl ?_
        refine pf_m0_from (pc := 43) hc hA tw_1038 dX12_next_43 ?_
        have L46_5 : ∀ (kj j : Nat), j + kj = tL → (hnw : nw (ar 11) (tL - (j)) (j) = gE (ar 11) tL q.2.1) → G zp l ze ({ frames := 0, cells := 0, slots := 0, locals := 0 }) zs zm za zb zh zc 0 0 (MQ zb (Qz E A (none) (mw E ad (va_up (va_up (va_up sc 9 (nI (goT (ar 11) tL q).2.1)) 10 (nI (goT (ar 11) tL q).1)) 11 (nI ((goT (ar 11) tL q).2.1 - (goT (ar 11) tL q).1))) ar la)) za zs 0 0 A) E A 1 (mw E ad (va_up (va_up sc 10 (nI (gS (ar 11) tL q.2.1))) 9 (nI (j))) ar la) (46) [(0, .ref (ad 0))] [] := by
          intro kj
          induction kj with
          | zero =>
            intro j lhj hnw
            have lhjn : tL = j := by omega
            subst lhjn
            refine g_aload_n (pc := 46) hc 0 dX12_next_46 rfl rfl ?_
            refine gf_m0_read (pc := 47) hc tw_1037 dX12_next_47 ?_
            refine g_topi (v := nI (tL)) rfl ?_
            refine g_aload_n (pc := 50) hc 0 dX12_next_50 rfl rfl ?_
            refine gf_m0_taped (pc := 51) hc tw_1019 dX12_next_51 ?_
            refine g_topi (v := sc 7) rfl ?_
            refine g_topi (v := nI tL) (hT) ?_
            refine g_icmp_ge_t (pc := 54) hc 84 dX12_next_54 (by decide) (nI_le (by omega) (by omega)) ?_
            refine g_eq (ws' := mw E ad (va_up (va_up sc 10 (nI (gS (ar 11) tL q.2.1))) 9 (nI (gE (ar 11) tL q.2.1))) ar la) (lv' := [(0, .ref (ad 0))]) (by rw [← hnw, nw_e]) rfl rfl ?_
            refine g_aload_n (pc := 84) hc 0 dX12_next_84 rfl rfl ?_
            refine g_aload_n (pc := 85) hc 0 dX12_next_85 rfl rfl ?_
            refine gf_m0_read (pc := 86) hc tw_1037 dX12_next_86 ?_
            refine g_topi (v := nI (gE (ar 11) tL q.2.1)) rfl ?_
            refine g_aload_n (pc := 89) hc 0 dX12_next_89 rfl rfl ?_
            refine gf_m0_from (pc := 90) hc tw_1038 dX12_next_90 ?_
            refine g_topi (v := nI (gS (ar 11) tL q.2.1)) rfl ?_
            refine g_isub (pc := 93) hc dX12_next_93 ?_
            refine g_topi (v := nI (gE (ar 11) tL q.2.1 - gS (ar 11) tL q.2.1)) (pk_sub hg.2.1) ?_
            refine pf_m0_long1 (pc := 94) hc hA tw_1039 dX12_next_94 ?_
            exact g_vret (pc := 97) hc dX12_next_97 rfl (rfl)
          | succ kj ihj =>
            intro j lhj hnw
            have lhjn : j < tL := by omega
            refine g_aload_n (pc := 46) hc 0 dX12_next_46 rfl rfl ?_
            refine gf_m0_read (pc := 47) hc tw_1037 dX12_next_47 ?_
            refine g_topi (v := nI (j)) rfl ?_
            refine g_aload_n (pc := 50) hc 0 dX12_next_50 rfl rfl ?_
            refine gf_m0_taped (pc := 51) hc tw_1019 dX12_next_51 ?_
            refine g_topi (v := sc 7) rfl ?_
            refine g_topi (v := nI tL) (hT) ?_
            refine g_icmp_ge_f (pc := 54) hc 84 dX12_next_54 (by decide) (nI_ge (by omega) (by omega)) ?_
            refine g_aload_n (pc := 57) hc 0 dX12_next_57 rfl rfl ?_
            refine gf_m0_tape (pc := 58) hc tw_1018 dX12_next_58 ?_
            refine g_aload_n (pc := 61) hc 0 dX12_next_61 rfl rfl ?_
            refine gf_m0_read (pc := 62) hc tw_1037 dX12_next_62 ?_
            refine g_topi (v := nI (j)) rfl ?_
            refine la_m11 (pc := 65) hc (j) (rfl) (by omega) dX12_next_65 ?_
            refine g_topi (v := ar 11 j &&& nI 255) ((hB _).symm) ?_
            refine g_bipush (pc := 66) (v := nI 32) hc dX12_next_66 (by decide) ?_
            refine g_icmp_eq (pc := 68) hc 84 dX12_next_68 (by decide) (fun c6 => ?_) (fun c6 => ?_)
            · refine g_eq (ws' := mw E ad (va_up (va_up sc 10 (nI (gS (ar 11) tL q.2.1))) 9 (nI (gE (ar 11) tL q.2.1))) ar la) (lv' := [(0, .ref (ad 0))]) (by rw [← hnw, nw_x lhjn c6]) rfl rfl ?_
              refine g_aload_n (pc := 84) hc 0 dX12_next_84 rfl rfl ?_
              refine g_aload_n (pc := 85) hc 0 dX12_next_85 rfl rfl ?_
              refine gf_m0_read (pc := 86) hc tw_1037 dX12_next_86 ?_
              refine g_topi (v := nI (gE (ar 11) tL q.2.1)) rfl ?_
              refine g_aload_n (pc := 89) hc 0 dX12_next_89 rfl rfl ?_
              refine gf_m0_from (pc := 90) hc tw_1038 dX12_next_90 ?_
              refine g_topi (v := nI (gS (ar 11) tL q.2.1)) rfl ?_
              refine g_isub (pc := 93) hc dX12_next_93 ?_
              refine g_topi (v := nI (gE (ar 11) tL q.2.1 - gS (ar 11) tL q.2.1)) (pk_sub hg.2.1) ?_
              refine pf_m0_long1 (pc := 94) hc hA tw_1039 dX12_next_94 ?_
              exact g_vret (pc := 97) hc dX12_next_97 rfl (rfl)
            · refine g_aload_n (pc := 71) hc 0 dX12_next_71 rfl rfl ?_
              refine g_dup (pc := 72) hc dX12_next_72 rfl ?_
              refine gf_m0_read (pc := 73) hc tw_1037 dX12_next_73 ?_
              refine g_topi (v := nI (j)) rfl ?_
              refine g_iconst (pc := 76) (v := nI 1) hc dX12_next_76 (by decide) ?_
              refine g_iadd (pc := 77) hc dX12_next_77 ?_
              refine g_topi (v := nI (j + 1)) (nI_add j 1) ?_
              refine pf_m0_read (pc := 78) hc hA tw_1037 dX12_next_78 ?_
              refine g_eq (ws' := mw E ad (va_up (va_up sc 10 (nI (gS (ar 11) tL q.2.1))) 9 (nI (j + 1))) ar la) (lv' := [(0, .ref (ad 0))]) rfl rfl rfl ?_
              refine g_goto (pc := 81) hc 46 dX12_next_81 (by decide) ?_
              exact g_eq (ws' := mw E ad (va_up (va_up sc 10 (nI (gS (ar 11) tL q.2.1))) 9 (nI (j + 1))) ar la) (lv' := [(0, .ref (ad 0))]) (rfl) (rfl) rfl (ihj (j + 1) (by omega) ((nw_b lhjn c6).symm.trans hnw))
        exact g_eq (ws' := mw E ad (va_up (va_up sc 10 (nI (gS (ar 11) tL q.2.1))) 9 (nI ((gS (ar 11) tL q.2.1)))) ar la) (lv' := [(0, .ref (ad 0))]) (rfl) (rfl) rfl (L46_5 (tL - (gS (ar 11) tL q.2.1)) ((gS (ar 11) tL q.2.1)) (by omega) (rfl))
      · refine g_aload_n (pc := 25) hc 0 dX12_next_25 rfl rfl ?_
        refine g_dup (pc := 26) hc dX12_next_26 rfl ?_
        refine gf_m0_read (pc := 27) hc tw_1037 dX12_next_27 ?_
        refine g_topi (v := nI (i)) rfl ?_
        refine g_iconst (pc := 30) (v := nI 1) hc dX12_next_30 (by decide) ?_
        refine g_iadd (pc := 31) hc dX12_next_31 ?_
        refine g_topi (v := nI (i + 1)) (nI_add i 1) ?_
        refine pf_m0_read (pc := 32) hc hA tw_1037 dX12_next_32 ?_
        refine g_eq (ws' := mw E ad (va_up sc 9 (nI (i + 1))) ar la) (lv' := [(0, .ref (ad 0))]) rfl rfl rfl ?_
        refine g_goto (pc := 35) hc 0 dX12_next_35 (by decide) ?_
        exact g_eq (ws' := mw E ad (va_up sc 9 (nI (i + 1))) ar la) (lv' := [(0, .ref (ad 0))]) (rfl) (rfl) rfl (ihi (i + 1) (by omega) ((nb_b lhin c4).symm.trans hnb))
  exact g_eq (ws' := mw E ad (va_up sc 9 (nI (q.2.1))) ar la) (lv' := [(0, .ref (ad 0))]) (by rw [← h9, va_upS]) (rfl) rfl (L0_1 (tL - q.2.1) (q.2.1) (by omega) (rfl))

theorem dX12_here_0 : decode cX12_here 0 = .ok (.aload_n 0, 1) := by decide +kernel
theorem dX12_here_1 : decode cX12_here 1 = .ok (.getfield 217, 3) := by decide +kernel
theorem dX12_here_4 : decode cX12_here 4 = .ok (.ifCond .ne 10, 3) := by decide +kernel
theorem dX12_here_7 : decode cX12_here 7 = .ok (.aload_n 0, 1) := by decide +kernel
theorem dX12_here_8 : decode cX12_here 8 = .ok (.getfield 204, 3) := by decide +kernel
theorem dX12_here_11 : decode cX12_here 11 = .ok (.goto 7, 3) := by decide +kernel
theorem dX12_here_14 : decode cX12_here 14 = .ok (.aload_n 0, 1) := by decide +kernel
theorem dX12_here_15 : decode cX12_here 15 = .ok (.getfield 214, 3) := by decide +kernel
theorem dX12_here_18 : decode cX12_here 18 = .ok (.ireturn, 1) := by decide +kernel

set_option maxHeartbeats 4000000 in
set_option maxRecDepth 100000 in
theorem c_X12_here (l : Launch) (E : Ev) {A : Nat → Prop} (ad : Nat → Nat) (hA : Oka 30 ad A) (sc : Nat → Int32) (ar : Nat → Nat → Int32) (la : Nat → Int64) {tL : Nat} (q : Rq) (hT : sc 7 = nI tL) (hT60 : tL ≤ 60) (h10 : sc 10 = nI q.1) (h11 : sc 11 = nI (q.2.1 - q.1)) (hq : rdok tL q) (hB : ∀ i, ar 11 i &&& nI 255 = ar 11 i) : Ct l E yX12_here (.code yX12_here cX12_here 1 (some .int)) ({ frames := 0, cells := 0, slots := 0, locals := 0 }) A (mw E ad sc ar la) [.ref (ad 0)] (some (.int (mhr tL q))) (mw E ad sc ar la) := by
  refine Ct.of (lv := [(0, .ref (ad 0))]) (by decide +kernel) (Nat.le_of_ble_eq_true rfl) rfl ?_
  intro zp ze zs zm za zb zh zc hc
  refine g_aload_n (pc := 0) hc 0 dX12_here_0 rfl rfl ?_
  refine gf_m0_long1 (pc := 1) hc tw_1039 dX12_here_1 ?_
  refine g_topi (v := nI (q.2.1 - q.1)) (h11) ?_
  refine g_if_ne (pc := 4) hc 14 dX12_here_4 (by decide) (fun c1 => ?_) (fun c1 => ?_)
  · refine g_aload_n (pc := 14) hc 0 dX12_here_14 rfl rfl ?_
    refine gf_m0_from (pc := 15) hc tw_1038 dX12_here_15 ?_
    refine g_topi (v := nI q.1) (h10) ?_
    exact g_iret (pc := 18) hc dX12_here_18 (by unfold mhr; (repeat (first | rw [if_pos c1] | rw [if_neg c1] | rw [if_neg (ne_true_of_eq_false c1)]))) (rfl)
  · refine g_aload_n (pc := 7) hc 0 dX12_here_7 rfl rfl ?_
    refine gf_m0_taped (pc := 8) hc tw_1019 dX12_here_8 ?_
    refine g_topi (v := nI tL) (hT) ?_
    refine g_goto (pc := 11) hc 18 dX12_here_11 (by decide) ?_
    exact g_iret (pc := 18) hc dX12_here_18 (by unfold mhr; (repeat (first | rw [if_pos c1] | rw [if_neg c1] | rw [if_neg (ne_true_of_eq_false c1)]))) (rfl)

theorem dX12_isWord_0 : decode cX12_isWord 0 = .ok (.iload_n 3, 1) := by decide +kernel
theorem dX12_isWord_1 : decode cX12_isWord 1 = .ok (.ifCond .ne 7, 3) := by decide +kernel
theorem dX12_isWord_4 : decode cX12_isWord 4 = .ok (.iconst 2, 1) := by decide +kernel
theorem dX12_isWord_5 : decode cX12_isWord 5 = .ok (.goto 13, 3) := by decide +kernel
theorem dX12_isWord_8 : decode cX12_isWord 8 = .ok (.iload 4, 2) := by decide +kernel
theorem dX12_isWord_10 : decode cX12_isWord 10 = .ok (.ifCond .ne 7, 3) := by decide +kernel
theorem dX12_isWord_13 : decode cX12_isWord 13 = .ok (.iconst 3, 1) := by decide +kernel
theorem dX12_isWord_14 : decode cX12_isWord 14 = .ok (.goto 4, 3) := by decide +kernel
theorem dX12_isWord_17 : decode cX12_isWord 17 = .ok (.iconst 4, 1) := by decide +kernel
theorem dX12_isWord_18 : decode cX12_isWord 18 = .ok (.istore 5, 2) := by decide +kernel
theorem dX12_isWord_20 : decode cX12_isWord 20 = .ok (.aload_n 0, 1) := by decide +kernel
theorem dX12_isWord_21 : decode cX12_isWord 21 = .ok (.getfield 217, 3) := by decide +kernel
theorem dX12_isWord_24 : decode cX12_isWord 24 = .ok (.iload 5, 2) := by decide +kernel
theorem dX12_isWord_26 : decode cX12_isWord 26 = .ok (.if_icmp .ne 75, 3) := by decide +kernel
theorem dX12_isWord_29 : decode cX12_isWord 29 = .ok (.aload_n 0, 1) := by decide +kernel
theorem dX12_isWord_30 : decode cX12_isWord 30 = .ok (.getfield 51, 3) := by decide +kernel
theorem dX12_isWord_33 : decode cX12_isWord 33 = .ok (.aload_n 0, 1) := by decide +kernel
theorem dX12_isWord_34 : decode cX12_isWord 34 = .ok (.getfield 214, 3) := by decide +kernel
theorem dX12_isWord_37 : decode cX12_isWord 37 = .ok (.iaload, 1) := by decide +kernel
theorem dX12_isWord_38 : decode cX12_isWord 38 = .ok (.iload_n 1, 1) := by decide +kernel
theorem dX12_isWord_39 : decode cX12_isWord 39 = .ok (.if_icmp .ne 62, 3) := by decide +kernel
theorem dX12_isWord_42 : decode cX12_isWord 42 = .ok (.aload_n 0, 1) := by decide +kernel
theorem dX12_isWord_43 : decode cX12_isWord 43 = .ok (.getfield 51, 3) := by decide +kernel
theorem dX12_isWord_46 : decode cX12_isWord 46 = .ok (.aload_n 0, 1) := by decide +kernel
theorem dX12_isWord_47 : decode cX12_isWord 47 = .ok (.getfield 214, 3) := by decide +kernel
theorem dX12_isWord_50 : decode cX12_isWord 50 = .ok (.iconst 1, 1) := by decide +kernel
theorem dX12_isWord_51 : decode cX12_isWord 51 = .ok (.iadd, 1) := by decide +kernel
theorem dX12_isWord_52 : decode cX12_isWord 52 = .ok (.iaload, 1) := by decide +kernel
theorem dX12_isWord_53 : decode cX12_isWord 53 = .ok (.iload_n 2, 1) := by decide +kernel
theorem dX12_isWord_54 : decode cX12_isWord 54 = .ok (.if_icmp .ne 47, 3) := by decide +kernel
theorem dX12_isWord_57 : decode cX12_isWord 57 = .ok (.iload_n 3, 1) := by decide +kernel
theorem dX12_isWord_58 : decode cX12_isWord 58 = .ok (.ifCond .eq 18, 3) := by decide +kernel
theorem dX12_isWord_61 : decode cX12_isWord 61 = .ok (.aload_n 0, 1) := by decide +kernel
theorem dX12_isWord_62 : decode cX12_isWord 62 = .ok (.getfield 51, 3) := by decide +kernel
theorem dX12_isWord_65 : decode cX12_isWord 65 = .ok (.aload_n 0, 1) := by decide +kernel
theorem dX12_isWord_66 : decode cX12_isWord 66 = .ok (.getfield 214, 3) := by decide +kernel
theorem dX12_isWord_69 : decode cX12_isWord 69 = .ok (.iconst 2, 1) := by decide +kernel
theorem dX12_isWord_70 : decode cX12_isWord 70 = .ok (.iadd, 1) := by decide +kernel
theorem dX12_isWord_71 : decode cX12_isWord 71 = .ok (.iaload, 1) := by decide +kernel
theorem dX12_isWord_72 : decode cX12_isWord 72 = .ok (.iload_n 3, 1) := by decide +kernel
theorem dX12_isWord_73 : decode cX12_isWord 73 = .ok (.if_icmp .ne 28, 3) := by decide +kernel
theorem dX12_isWord_76 : decode cX12_isWord 76 = .ok (.iload 4, 2) := by decide +kernel
theorem dX12_isWord_78 : decode cX12_isWord 78 = .ok (.ifCond .eq 19, 3) := by decide +kernel
theorem dX12_isWord_81 : decode cX12_isWord 81 = .ok (.aload_n 0, 1) := by decide +kernel
theorem dX12_isWord_82 : decode cX12_isWord 82 = .ok (.getfield 51, 3) := by decide +kernel
theorem dX12_isWord_85 : decode cX12_isWord 85 = .ok (.aload_n 0, 1) := by decide +kernel
theorem dX12_isWord_86 : decode cX12_isWord 86 = .ok (.getfield 214, 3) := by decide +kernel
theorem dX12_isWord_89 : decode cX12_isWord 89 = .ok (.iconst 3, 1) := by decide +kernel
theorem dX12_isWord_90 : decode cX12_isWord 90 = .ok (.iadd, 1) := by decide +kernel
theorem dX12_isWord_91 : decode cX12_isWord 91 = .ok (.iaload, 1) := by decide +kernel
theorem dX12_isWord_92 : decode cX12_isWord 92 = .ok (.iload 4, 2) := by decide +kernel
theorem dX12_isWord_94 : decode cX12_isWord 94 = .ok (.if_icmp .ne 7, 3) := by decide +kernel
theorem dX12_isWord_97 : decode cX12_isWord 97 = .ok (.iconst 1, 1) := by decide +kernel
theorem dX12_isWord_98 : decode cX12_isWord 98 = .ok (.goto 4, 3) := by decide +kernel
theorem dX12_isWord_101 : decode cX12_isWord 101 = .ok (.iconst 0, 1) := by decide +kernel
theorem dX12_isWord_102 : decode cX12_isWord 102 = .ok (.ireturn, 1) := by decide +kernel

set_option maxHeartbeats 4000000 in
set_option maxRecDepth 100000 in
theorem c_X12_isWord_0 (l : Launch) (E : Ev) {A : Nat → Prop} (ad : Nat → Nat) (hA : Oka 30 ad A) (sc : Nat → Int32) (ar : Nat → Nat → Int32) (la : Nat → Int64) {tL : Nat} (q : Rq) (hT : sc 7 = nI tL) (hT60 : tL ≤ 60) (h10 : sc 10 = nI q.1) (h11 : sc 11 = nI (q.2.1 - q.1)) (hq : rdok tL q) (hB : ∀ i, ar 11 i &&& nI 255 = ar 11 i) : Ct l E yX12_isWord (.code yX12_isWord cX12_isWord 6 (some .boolean)) ({ frames := 0, cells := 0, slots := 0, locals := 0 }) A (mw E ad sc ar la) [.ref (ad 0), .int (nI 114), .int (nI 111), .int (nI 119), .int (nI 115)] (some (.int (bI (wat (ar 11) q 0)))) (mw E ad sc ar la) := by
  have hq1 : q.1 ≤ q.2.1 := hq.1
  have hq2 : q.2.1 ≤ tL := hq.2
  refine Ct.of (lv := [(0, .ref (ad 0)), (1, .int (nI 114)), (2, .int (nI 111)), (3, .int (nI 119)), (4, .int (nI 115))]) (by decide +kernel) (Nat.le_of_ble_eq_true rfl) rfl ?_
  intro zp ze zs zm za zb zh zc hc
  refine g_iload_n (pc := 0) hc 3 dX12_isWord_0 rfl rfl ?_
  refine g_if_ne_t (pc := 1) hc 8 dX12_isWord_1 (by decide) (by decide) ?_
  refine g_iload (pc := 8) hc 4 dX12_isWord_8 rfl ?_
  refine g_if_ne_t (pc := 10) hc 17 dX12_isWord_10 (by decide) (by decide) ?_
  refine g_iconst (pc := 17) (v := nI 4) hc dX12_isWord_17 (by decide) ?_
  refine g_istore (pc := 18) (lv' := [(0, .ref (ad 0)), (1, .int (nI 114)), (2, .int (nI 111)), (3, .int (nI 119)), (4, .int (nI 115)), (5, .int (nI 4))]) hc dX12_isWord_18 (by decide) rfl ?_
  refine g_aload_n (pc := 20) hc 0 dX12_isWord_20 rfl rfl ?_
  refine gf_m0_long1 (pc := 21) hc tw_1039 dX12_isWord_21 ?_
  refine g_topi (v := nI (q.2.1 - q.1)) (h11) ?_
  refine g_iload (pc := 24) hc 5 dX12_isWord_24 rfl ?_
  refine g_icmp_ne (pc := 26) hc 101 dX12_isWord_26 (by decide) (fun c1 => ?_) (fun c1 => ?_)
  · refine g_iconst (pc := 101) (v := nI 0) hc dX12_isWord_101 (by decide) ?_
    exact g_zret (pc := 102) hc dX12_isWord_102 (by decide) (by rw [wat_0 hB]; (repeat (first | rw [if_pos c1] | rw [if_neg c1] | rw [if_neg (ne_true_of_eq_false c1)])); try rfl) (rfl)
  · have hlen : q.2.1 - q.1 = 4 := (nI_eq (by omega) (by decide)).mp c1
    refine g_aload_n (pc := 29) hc 0 dX12_isWord_29 rfl rfl ?_
    refine gf_m0_tape (pc := 30) hc tw_1018 dX12_isWord_30 ?_
    refine g_aload_n (pc := 33) hc 0 dX12_isWord_33 rfl rfl ?_
    refine gf_m0_from (pc := 34) hc tw_1038 dX12_isWord_34 ?_
    refine g_topi (v := nI q.1) (h10) ?_
    refine la_m11 (pc := 37) hc (q.1) (rfl) (by omega) dX12_isWord_37 ?_
    refine g_iload_n (pc := 38) hc 1 dX12_isWord_38 rfl rfl ?_
    refine g_icmp_ne (pc := 39) hc 101 dX12_isWord_39 (by decide) (fun c2 => ?_) (fun c2 => ?_)
    · refine g_iconst (pc := 101) (v := nI 0) hc dX12_isWord_101 (by decide) ?_
      exact g_zret (pc := 102) hc dX12_isWord_102 (by decide) (by rw [wat_0 hB]; (repeat (first | rw [if_pos c1] | rw [if_neg c1] | rw [if_neg (ne_true_of_eq_false c1)] | rw [if_pos c2] | rw [if_neg c2] | rw [if_neg (ne_true_of_eq_false c2)])); try rfl) (rfl)
    · refine g_aload_n (pc := 42) hc 0 dX12_isWord_42 rfl rfl ?_
      refine gf_m0_tape (pc := 43) hc tw_1018 dX12_isWord_43 ?_
      refine g_aload_n (pc := 46) hc 0 dX12_isWord_46 rfl rfl ?_
      refine gf_m0_from (pc := 47) hc tw_1038 dX12_isWord_47 ?_
      refine g_topi (v := nI q.1) (h10) ?_
      refine g_iconst (pc := 50) (v := nI 1) hc dX12_isWord_50 (by decide) ?_
      refine g_iadd (pc := 51) hc dX12_isWord_51 ?_
      refine g_topi (v := nI (q.1 + 1)) (nI_add q.1 1) ?_
      refine la_m11 (pc := 52) hc (q.1 + 1) (rfl) (by omega) dX12_isWord_52 ?_
      refine g_iload_n (pc := 53) hc 2 dX12_isWord_53 rfl rfl ?_
      refine g_icmp_ne (pc := 54) hc 101 dX12_isWord_54 (by decide) (fun c3 => ?_) (fun c3 => ?_)
      · refine g_iconst (pc := 101) (v := nI 0) hc dX12_isWord_101 (by decide) ?_
        exact g_zret (pc := 102) hc dX12_isWord_102 (by decide) (by rw [wat_0 hB]; (repeat (first | rw [if_pos c1] | rw [if_neg c1] | rw [if_neg (ne_true_of_eq_false c1)] | rw [if_pos c2] | rw [if_neg c2] | rw [if_neg (ne_true_of_eq_false c2)] | rw [if_pos c3] | rw [if_neg c3] | rw [if_neg (ne_true_of_eq_false c3)])); try rfl) (rfl)
      · refine g_iload_n (pc := 57) hc 3 dX12_isWord_57 rfl rfl ?_
        refine g_if_eq_f (pc := 58) hc 76 dX12_isWord_58 (by decide) (by decide) ?_
        refine g_aload_n (pc := 61) hc 0 dX12_isWord_61 rfl rfl ?_
        refine gf_m0_tape (pc := 62) hc tw_1018 dX12_isWord_62 ?_
        refine g_aload_n (pc := 65) hc 0 dX12_isWord_65 rfl rfl ?_
        refine gf_m0_from (pc := 66) hc tw_1038 dX12_isWord_66 ?_
        refine g_topi (v := nI q.1) (h10) ?_
        refine g_iconst (pc := 69) (v := nI 2) hc dX12_isWord_69 (by decide) ?_
        refine g_iadd (pc := 70) hc dX12_isWord_70 ?_
        refine g_topi (v := nI (q.1 + 2)) (nI_add q.1 2) ?_
        refine la_m11 (pc := 71) hc (q.1 + 2) (rfl) (by omega) dX12_isWord_71 ?_
        refine g_iload_n (pc := 72) hc 3 dX12_isWord_72 rfl rfl ?_
        refine g_icmp_ne (pc := 73) hc 101 dX12_isWord_73 (by decide) (fun c4 => ?_) (fun c4 => ?_)
        · refine g_iconst (pc := 101) (v := nI 0) hc dX12_isWord_101 (by decide) ?_
          exact g_zret (pc := 102) hc dX12_isWord_102 (by decide) (by rw [wat_0 hB]; (repeat (first | rw [if_pos c1] | rw [if_neg c1] | rw [if_neg (ne_true_of_eq_false c1)] | rw [if_pos c2] | rw [if_neg c2] | rw [if_neg (ne_true_of_eq_false c2)] | rw [if_pos c3] | rw [if_neg c3] | rw [if_neg (ne_true_of_eq_false c3)] | rw [if_pos c4] | rw [if_neg c4] | rw [if_neg (ne_true_of_eq_false c4)])); try rfl) (rfl)
        · refine g_iload (pc := 76) hc 4 dX12_isWord_76 rfl ?_
          refine g_if_eq_f (pc := 78) hc 97 dX12_isWord_78 (by decide) (by decide) ?_
          refine g_aload_n (pc := 81) hc 0 dX12_isWord_81 rfl rfl ?_
          refine gf_m0_tape (pc := 82) hc tw_1018 dX12_isWord_82 ?_
          refine g_aload_n (pc := 85) hc 0 dX12_isWord_85 rfl rfl ?_
          refine gf_m0_from (pc := 86) hc tw_1038 dX12_isWord_86 ?_
          refine g_topi (v := nI q.1) (h10) ?_
          refine g_iconst (pc := 89) (v := nI 3) hc dX12_isWord_89 (by decide) ?_
          refine g_iadd (pc := 90) hc dX12_isWord_90 ?_
          refine g_topi (v := nI (q.1 + 3)) (nI_add q.1 3) ?_
          refine la_m11 (pc := 91) hc (q.1 + 3) (rfl) (by omega) dX12_isWord_91 ?_
          refine g_iload (pc := 92) hc 4 dX12_isWord_92 rfl ?_
          refine g_icmp_ne (pc := 94) hc 101 dX12_isWord_94 (by decide) (fun c5 => ?_) (fun c5 => ?_)
          · refine g_iconst (pc := 101) (v := nI 0) hc dX12_isWord_101 (by decide) ?_
            exact g_zret (pc := 102) hc dX12_isWord_102 (by decide) (by rw [wat_0 hB]; (repeat (first | rw [if_pos c1] | rw [if_neg c1] | rw [if_neg (ne_true_of_eq_false c1)] | rw [if_pos c2] | rw [if_neg c2] | rw [if_neg (ne_true_of_eq_false c2)] | rw [if_pos c3] | rw [if_neg c3] | rw [if_neg (ne_true_of_eq_false c3)] | rw [if_pos c4] | rw [if_neg c4] | rw [if_neg (ne_true_of_eq_false c4)] | rw [if_pos c5] | rw [if_neg c5] | rw [if_neg (ne_true_of_eq_false c5)])); try rfl) (rfl)
          · refine g_iconst (pc := 97) (v := nI 1) hc dX12_isWord_97 (by decide) ?_
            refine g_goto (pc := 98) hc 102 dX12_isWord_98 (by decide) ?_
            exact g_zret (pc := 102) hc dX12_isWord_102 (by decide) (by rw [wat_0 hB]; (repeat (first | rw [if_pos c1] | rw [if_neg c1] | rw [if_neg (ne_true_of_eq_false c1)] | rw [if_pos c2] | rw [if_neg c2] | rw [if_neg (ne_true_of_eq_false c2)] | rw [if_pos c3] | rw [if_neg c3] | rw [if_neg (ne_true_of_eq_false c3)] | rw [if_pos c4] | rw [if_neg c4] | rw [if_neg (ne_true_of_eq_false c4)] | rw [if_pos c5] | rw [if_neg c5] | rw [if_neg (ne_true_of_eq_false c5)])); try rfl) (rfl)

set_option maxHeartbeats 4000000 in
set_option maxRecDepth 100000 in
theorem c_X12_isWord_1 (l : Launch) (E : Ev) {A : Nat → Prop} (ad : Nat → Nat) (hA : Oka 30 ad A) (sc : Nat → Int32) (ar : Nat → Nat → Int32) (la : Nat → Int64) {tL : Nat} (q : Rq) (hT : sc 7 = nI tL) (hT60 : tL ≤ 60) (h10 : sc 10 = nI q.1) (h11 : sc 11 = nI (q.2.1 - q.1)) (hq : rdok tL q) (hB : ∀ i, ar 11 i &&& nI 255 = ar 11 i) : Ct l E yX12_isWord (.code yX12_isWord cX12_isWord 6 (some .boolean)) ({ frames := 0, cells := 0, slots := 0, locals := 0 }) A (mw E ad sc ar la) [.ref (ad 0), .int (nI 116), .int (nI 111), .int (nI 0), .int (nI 0)] (some (.int (bI (wat (ar 11) q 1)))) (mw E ad sc ar la) := by
  have hq1 : q.1 ≤ q.2.1 := hq.1
  have hq2 : q.2.1 ≤ tL := hq.2
  refine Ct.of (lv := [(0, .ref (ad 0)), (1, .int (nI 116)), (2, .int (nI 111)), (3, .int (nI 0)), (4, .int (nI 0))]) (by decide +kernel) (Nat.le_of_ble_eq_true rfl) rfl ?_
  intro zp ze zs zm za zb zh zc hc
  refine g_iload_n (pc := 0) hc 3 dX12_isWord_0 rfl rfl ?_
  refine g_if_ne_f (pc := 1) hc 8 dX12_isWord_1 (by decide) (by decide) ?_
  refine g_iconst (pc := 4) (v := nI 2) hc dX12_isWord_4 (by decide) ?_
  refine g_goto (pc := 5) hc 18 dX12_isWord_5 (by decide) ?_
  refine g_istore (pc := 18) (lv' := [(0, .ref (ad 0)), (1, .int (nI 116)), (2, .int (nI 111)), (3, .int (nI 0)), (4, .int (nI 0)), (5, .int (nI 2))]) hc dX12_isWord_18 (by decide) rfl ?_
  refine g_aload_n (pc := 20) hc 0 dX12_isWord_20 rfl rfl ?_
  refine gf_m0_long1 (pc := 21) hc tw_1039 dX12_isWord_21 ?_
  refine g_topi (v := nI (q.2.1 - q.1)) (h11) ?_
  refine g_iload (pc := 24) hc 5 dX12_isWord_24 rfl ?_
  refine g_icmp_ne (pc := 26) hc 101 dX12_isWord_26 (by decide) (fun c1 => ?_) (fun c1 => ?_)
  · refine g_iconst (pc := 101) (v := nI 0) hc dX12_isWord_101 (by decide) ?_
    exact g_zret (pc := 102) hc dX12_isWord_102 (by decide) (by rw [wat_1 hB]; (repeat (first | rw [if_pos c1] | rw [if_neg c1] | rw [if_neg (ne_true_of_eq_false c1)])); try rfl) (rfl)
  · have hlen : q.2.1 - q.1 = 2 := (nI_eq (by omega) (by decide)).mp c1
    refine g_aload_n (pc := 29) hc 0 dX12_isWord_29 rfl rfl ?_
    refine gf_m0_tape (pc := 30) hc tw_1018 dX12_isWord_30 ?_
    refine g_aload_n (pc := 33) hc 0 dX12_isWord_33 rfl rfl ?_
    refine gf_m0_from (pc := 34) hc tw_1038 dX12_isWord_34 ?_
    refine g_topi (v := nI q.1) (h10) ?_
    refine la_m11 (pc := 37) hc (q.1) (rfl) (by omega) dX12_isWord_37 ?_
    refine g_iload_n (pc := 38) hc 1 dX12_isWord_38 rfl rfl ?_
    refine g_icmp_ne (pc := 39) hc 101 dX12_isWord_39 (by decide) (fun c2 => ?_) (fun c2 => ?_)
    · refine g_iconst (pc := 101) (v := nI 0) hc dX12_isWord_101 (by decide) ?_
      exact g_zret (pc := 102) hc dX12_isWord_102 (by decide) (by rw [wat_1 hB]; (repeat (first | rw [if_pos c1] | rw [if_neg c1] | rw [if_neg (ne_true_of_eq_false c1)] | rw [if_pos c2] | rw [if_neg c2] | rw [if_neg (ne_true_of_eq_false c2)])); try rfl) (rfl)
    · refine g_aload_n (pc := 42) hc 0 dX12_isWord_42 rfl rfl ?_
      refine gf_m0_tape (pc := 43) hc tw_1018 dX12_isWord_43 ?_
      refine g_aload_n (pc := 46) hc 0 dX12_isWord_46 rfl rfl ?_
      refine gf_m0_from (pc := 47) hc tw_1038 dX12_isWord_47 ?_
      refine g_topi (v := nI q.1) (h10) ?_
      refine g_iconst (pc := 50) (v := nI 1) hc dX12_isWord_50 (by decide) ?_
      refine g_iadd (pc := 51) hc dX12_isWord_51 ?_
      refine g_topi (v := nI (q.1 + 1)) (nI_add q.1 1) ?_
      refine la_m11 (pc := 52) hc (q.1 + 1) (rfl) (by omega) dX12_isWord_52 ?_
      refine g_iload_n (pc := 53) hc 2 dX12_isWord_53 rfl rfl ?_
      refine g_icmp_ne (pc := 54) hc 101 dX12_isWord_54 (by decide) (fun c3 => ?_) (fun c3 => ?_)
      · refine g_iconst (pc := 101) (v := nI 0) hc dX12_isWord_101 (by decide) ?_
        exact g_zret (pc := 102) hc dX12_isWord_102 (by decide) (by rw [wat_1 hB]; (repeat (first | rw [if_pos c1] | rw [if_neg c1] | rw [if_neg (ne_true_of_eq_false c1)] | rw [if_pos c2] | rw [if_neg c2] | rw [if_neg (ne_true_of_eq_false c2)] | rw [if_pos c3] | rw [if_neg c3] | rw [if_neg (ne_true_of_eq_false c3)])); try rfl) (rfl)
      · refine g_iload_n (pc := 57) hc 3 dX12_isWord_57 rfl rfl ?_
        refine g_if_eq_t (pc := 58) hc 76 dX12_isWord_58 (by decide) (by decide) ?_
        refine g_iload (pc := 76) hc 4 dX12_isWord_76 rfl ?_
        refine g_if_eq_t (pc := 78) hc 97 dX12_isWord_78 (by decide) (by decide) ?_
        refine g_iconst (pc := 97) (v := nI 1) hc dX12_isWord_97 (by decide) ?_
        refine g_goto (pc := 98) hc 102 dX12_isWord_98 (by decide) ?_
        exact g_zret (pc := 102) hc dX12_isWord_102 (by decide) (by rw [wat_1 hB]; (repeat (first | rw [if_pos c1] | rw [if_neg c1] | rw [if_neg (ne_true_of_eq_false c1)] | rw [if_pos c2] | rw [if_neg c2] | rw [if_neg (ne_true_of_eq_false c2)] | rw [if_pos c3] | rw [if_neg c3] | rw [if_neg (ne_true_of_eq_false c3)])); try rfl) (rfl)

set_option maxHeartbeats 4000000 in
set_option maxRecDepth 100000 in
theorem c_X12_isWord_2 (l : Launch) (E : Ev) {A : Nat → Prop} (ad : Nat → Nat) (hA : Oka 30 ad A) (sc : Nat → Int32) (ar : Nat → Nat → Int32) (la : Nat → Int64) {tL : Nat} (q : Rq) (hT : sc 7 = nI tL) (hT60 : tL ≤ 60) (h10 : sc 10 = nI q.1) (h11 : sc 11 = nI (q.2.1 - q.1)) (hq : rdok tL q) (hB : ∀ i, ar 11 i &&& nI 255 = ar 11 i) : Ct l E yX12_isWord (.code yX12_isWord cX12_isWord 6 (some .boolean)) ({ frames := 0, cells := 0, slots := 0, locals := 0 }) A (mw E ad sc ar la) [.ref (ad 0), .int (nI 100), .int (nI 97), .int (nI 121), .int (nI 115)] (some (.int (bI (wat (ar 11) q 2)))) (mw E ad sc ar la) := by
  have hq1 : q.1 ≤ q.2.1 := hq.1
  have hq2 : q.2.1 ≤ tL := hq.2
  refine Ct.of (lv := [(0, .ref (ad 0)), (1, .int (nI 100)), (2, .int (nI 97)), (3, .int (nI 121)), (4, .int (nI 115))]) (by decide +kernel) (Nat.le_of_ble_eq_true rfl) rfl ?_
  intro zp ze zs zm za zb zh zc hc
  refine g_iload_n (pc := 0) hc 3 dX12_isWord_0 rfl rfl ?_
  refine g_if_ne_t (pc := 1) hc 8 dX12_isWord_1 (by decide) (by decide) ?_
  refine g_iload (pc := 8) hc 4 dX12_isWord_8 rfl ?_
  refine g_if_ne_t (pc := 10) hc 17 dX12_isWord_10 (by decide) (by decide) ?_
  refine g_iconst (pc := 17) (v := nI 4) hc dX12_isWord_17 (by decide) ?_
  refine g_istore (pc := 18) (lv' := [(0, .ref (ad 0)), (1, .int (nI 100)), (2, .int (nI 97)), (3, .int (nI 121)), (4, .int (nI 115)), (5, .int (nI 4))]) hc dX12_isWord_18 (by decide) rfl ?_
  refine g_aload_n (pc := 20) hc 0 dX12_isWord_20 rfl rfl ?_
  refine gf_m0_long1 (pc := 21) hc tw_1039 dX12_isWord_21 ?_
  refine g_topi (v := nI (q.2.1 - q.1)) (h11) ?_
  refine g_iload (pc := 24) hc 5 dX12_isWord_24 rfl ?_
  refine g_icmp_ne (pc := 26) hc 101 dX12_isWord_26 (by decide) (fun c1 => ?_) (fun c1 => ?_)
  · refine g_iconst (pc := 101) (v := nI 0) hc dX12_isWord_101 (by decide) ?_
    exact g_zret (pc := 102) hc dX12_isWord_102 (by decide) (by rw [wat_2 hB]; (repeat (first | rw [if_pos c1] | rw [if_neg c1] | rw [if_neg (ne_true_of_eq_false c1)])); try rfl) (rfl)
  · have hlen : q.2.1 - q.1 = 4 := (nI_eq (by omega) (by decide)).mp c1
    refine g_aload_n (pc := 29) hc 0 dX12_isWord_29 rfl rfl ?_
    refine gf_m0_tape (pc := 30) hc tw_1018 dX12_isWord_30 ?_
    refine g_aload_n (pc := 33) hc 0 dX12_isWord_33 rfl rfl ?_
    refine gf_m0_from (pc := 34) hc tw_1038 dX12_isWord_34 ?_
    refine g_topi (v := nI q.1) (h10) ?_
    refine la_m11 (pc := 37) hc (q.1) (rfl) (by omega) dX12_isWord_37 ?_
    refine g_iload_n (pc := 38) hc 1 dX12_isWord_38 rfl rfl ?_
    refine g_icmp_ne (pc := 39) hc 101 dX12_isWord_39 (by decide) (fun c2 => ?_) (fun c2 => ?_)
    · refine g_iconst (pc := 101) (v := nI 0) hc dX12_isWord_101 (by decide) ?_
      exact g_zret (pc := 102) hc dX12_isWord_102 (by decide) (by rw [wat_2 hB]; (repeat (first | rw [if_pos c1] | rw [if_neg c1] | rw [if_neg (ne_true_of_eq_false c1)] | rw [if_pos c2] | rw [if_neg c2] | rw [if_neg (ne_true_of_eq_false c2)])); try rfl) (rfl)
    · refine g_aload_n (pc := 42) hc 0 dX12_isWord_42 rfl rfl ?_
      refine gf_m0_tape (pc := 43) hc tw_1018 dX12_isWord_43 ?_
      refine g_aload_n (pc := 46) hc 0 dX12_isWord_46 rfl rfl ?_
      refine gf_m0_from (pc := 47) hc tw_1038 dX12_isWord_47 ?_
      refine g_topi (v := nI q.1) (h10) ?_
      refine g_iconst (pc := 50) (v := nI 1) hc dX12_isWord_50 (by decide) ?_
      refine g_iadd (pc := 51) hc dX12_isWord_51 ?_
      refine g_topi (v := nI (q.1 + 1)) (nI_add q.1 1) ?_
      refine la_m11 (pc := 52) hc (q.1 + 1) (rfl) (by omega) dX12_isWord_52 ?_
      refine g_iload_n (pc := 53) hc 2 dX12_isWord_53 rfl rfl ?_
      refine g_icmp_ne (pc := 54) hc 101 dX12_isWord_54 (by decide) (fun c3 => ?_) (fun c3 => ?_)
      · refine g_iconst (pc := 101) (v := nI 0) hc dX12_isWord_101 (by decide) ?_
        exact g_zret (pc := 102) hc dX12_isWord_102 (by decide) (by rw [wat_2 hB]; (repeat (first | rw [if_pos c1] | rw [if_neg c1] | rw [if_neg (ne_true_of_eq_false c1)] | rw [if_pos c2] | rw [if_neg c2] | rw [if_neg (ne_true_of_eq_false c2)] | rw [if_pos c3] | rw [if_neg c3] | rw [if_neg (ne_true_of_eq_false c3)])); try rfl) (rfl)
      · refine g_iload_n (pc := 57) hc 3 dX12_isWord_57 rfl rfl ?_
        refine g_if_eq_f (pc := 58) hc 76 dX12_isWord_58 (by decide) (by decide) ?_
        refine g_aload_n (pc := 61) hc 0 dX12_isWord_61 rfl rfl ?_
        refine gf_m0_tape (pc := 62) hc tw_1018 dX12_isWord_62 ?_
        refine g_aload_n (pc := 65) hc 0 dX12_isWord_65 rfl rfl ?_
        refine gf_m0_from (pc := 66) hc tw_1038 dX12_isWord_66 ?_
        refine g_topi (v := nI q.1) (h10) ?_
        refine g_iconst (pc := 69) (v := nI 2) hc dX12_isWord_69 (by decide) ?_
        refine g_iadd (pc := 70) hc dX12_isWord_70 ?_
        refine g_topi (v := nI (q.1 + 2)) (nI_add q.1 2) ?_
        refine la_m11 (pc := 71) hc (q.1 + 2) (rfl) (by omega) dX12_isWord_71 ?_
        refine g_iload_n (pc := 72) hc 3 dX12_isWord_72 rfl rfl ?_
        refine g_icmp_ne (pc := 73) hc 101 dX12_isWord_73 (by decide) (fun c4 => ?_) (fun c4 => ?_)
        · refine g_iconst (pc := 101) (v := nI 0) hc dX12_isWord_101 (by decide) ?_
          exact g_zret (pc := 102) hc dX12_isWord_102 (by decide) (by rw [wat_2 hB]; (repeat (first | rw [if_pos c1] | rw [if_neg c1] | rw [if_neg (ne_true_of_eq_false c1)] | rw [if_pos c2] | rw [if_neg c2] | rw [if_neg (ne_true_of_eq_false c2)] | rw [if_pos c3] | rw [if_neg c3] | rw [if_neg (ne_true_of_eq_false c3)] | rw [if_pos c4] | rw [if_neg c4] | rw [if_neg (ne_true_of_eq_false c4)])); try rfl) (rfl)
        · refine g_iload (pc := 76) hc 4 dX12_isWord_76 rfl ?_
          refine g_if_eq_f (pc := 78) hc 97 dX12_isWord_78 (by decide) (by decide) ?_
          refine g_aload_n (pc := 81) hc 0 dX12_isWord_81 rfl rfl ?_
          refine gf_m0_tape (pc := 82) hc tw_1018 dX12_isWord_82 ?_
          refine g_aload_n (pc := 85) hc 0 dX12_isWord_85 rfl rfl ?_
          refine gf_m0_from (pc := 86) hc tw_1038 dX12_isWord_86 ?_
          refine g_topi (v := nI q.1) (h10) ?_
          refine g_iconst (pc := 89) (v := nI 3) hc dX12_isWord_89 (by decide) ?_
          refine g_iadd (pc := 90) hc dX12_isWord_90 ?_
          refine g_topi (v := nI (q.1 + 3)) (nI_add q.1 3) ?_
          refine la_m11 (pc := 91) hc (q.1 + 3) (rfl) (by omega) dX12_isWord_91 ?_
          refine g_iload (pc := 92) hc 4 dX12_isWord_92 rfl ?_
          refine g_icmp_ne (pc := 94) hc 101 dX12_isWord_94 (by decide) (fun c5 => ?_) (fun c5 => ?_)
          · refine g_iconst (pc := 101) (v := nI 0) hc dX12_isWord_101 (by decide) ?_
            exact g_zret (pc := 102) hc dX12_isWord_102 (by decide) (by rw [wat_2 hB]; (repeat (first | rw [if_pos c1] | rw [if_neg c1] | rw [if_neg (ne_true_of_eq_false c1)] | rw [if_pos c2] | rw [if_neg c2] | rw [if_neg (ne_true_of_eq_false c2)] | rw [if_pos c3] | rw [if_neg c3] | rw [if_neg (ne_true_of_eq_false c3)] | rw [if_pos c4] | rw [if_neg c4] | rw [if_neg (ne_true_of_eq_false c4)] | rw [if_pos c5] | rw [if_neg c5] | rw [if_neg (ne_true_of_eq_false c5)])); try rfl) (rfl)
          · refine g_iconst (pc := 97) (v := nI 1) hc dX12_isWord_97 (by decide) ?_
            refine g_goto (pc := 98) hc 102 dX12_isWord_98 (by decide) ?_
            exact g_zret (pc := 102) hc dX12_isWord_102 (by decide) (by rw [wat_2 hB]; (repeat (first | rw [if_pos c1] | rw [if_neg c1] | rw [if_neg (ne_true_of_eq_false c1)] | rw [if_pos c2] | rw [if_neg c2] | rw [if_neg (ne_true_of_eq_false c2)] | rw [if_pos c3] | rw [if_neg c3] | rw [if_neg (ne_true_of_eq_false c3)] | rw [if_pos c4] | rw [if_neg c4] | rw [if_neg (ne_true_of_eq_false c4)] | rw [if_pos c5] | rw [if_neg c5] | rw [if_neg (ne_true_of_eq_false c5)])); try rfl) (rfl)

set_option maxHeartbeats 4000000 in
set_option maxRecDepth 100000 in
theorem c_X12_isWord_3 (l : Launch) (E : Ev) {A : Nat → Prop} (ad : Nat → Nat) (hA : Oka 30 ad A) (sc : Nat → Int32) (ar : Nat → Nat → Int32) (la : Nat → Int64) {tL : Nat} (q : Rq) (hT : sc 7 = nI tL) (hT60 : tL ≤ 60) (h10 : sc 10 = nI q.1) (h11 : sc 11 = nI (q.2.1 - q.1)) (hq : rdok tL q) (hB : ∀ i, ar 11 i &&& nI 255 = ar 11 i) : Ct l E yX12_isWord (.code yX12_isWord cX12_isWord 6 (some .boolean)) ({ frames := 0, cells := 0, slots := 0, locals := 0 }) A (mw E ad sc ar la) [.ref (ad 0), .int (nI 98), .int (nI 117), .int (nI 116), .int (nI 0)] (some (.int (bI (wat (ar 11) q 3)))) (mw E ad sc ar la) := by
  have hq1 : q.1 ≤ q.2.1 := hq.1
  have hq2 : q.2.1 ≤ tL := hq.2
  refine Ct.of (lv := [(0, .ref (ad 0)), (1, .int (nI 98)), (2, .int (nI 117)), (3, .int (nI 116)), (4, .int (nI 0))]) (by decide +kernel) (Nat.le_of_ble_eq_true rfl) rfl ?_
  intro zp ze zs zm za zb zh zc hc
  refine g_iload_n (pc := 0) hc 3 dX12_isWord_0 rfl rfl ?_
  refine g_if_ne_t (pc := 1) hc 8 dX12_isWord_1 (by decide) (by decide) ?_
  refine g_iload (pc := 8) hc 4 dX12_isWord_8 rfl ?_
  refine g_if_ne_f (pc := 10) hc 17 dX12_isWord_10 (by decide) (by decide) ?_
  refine g_iconst (pc := 13) (v := nI 3) hc dX12_isWord_13 (by decide) ?_
  refine g_goto (pc := 14) hc 18 dX12_isWord_14 (by decide) ?_
  refine g_istore (pc := 18) (lv' := [(0, .ref (ad 0)), (1, .int (nI 98)), (2, .int (nI 117)), (3, .int (nI 116)), (4, .int (nI 0)), (5, .int (nI 3))]) hc dX12_isWord_18 (by decide) rfl ?_
  refine g_aload_n (pc := 20) hc 0 dX12_isWord_20 rfl rfl ?_
  refine gf_m0_long1 (pc := 21) hc tw_1039 dX12_isWord_21 ?_
  refine g_topi (v := nI (q.2.1 - q.1)) (h11) ?_
  refine g_iload (pc := 24) hc 5 dX12_isWord_24 rfl ?_
  refine g_icmp_ne (pc := 26) hc 101 dX12_isWord_26 (by decide) (fun c1 => ?_) (fun c1 => ?_)
  · refine g_iconst (pc := 101) (v := nI 0) hc dX12_isWord_101 (by decide) ?_
    exact g_zret (pc := 102) hc dX12_isWord_102 (by decide) (by rw [wat_3 hB]; (repeat (first | rw [if_pos c1] | rw [if_neg c1] | rw [if_neg (ne_true_of_eq_false c1)])); try rfl) (rfl)
  · have hlen : q.2.1 - q.1 = 3 := (nI_eq (by omega) (by decide)).mp c1
    refine g_aload_n (pc := 29) hc 0 dX12_isWord_29 rfl rfl ?_
    refine gf_m0_tape (pc := 30) hc tw_1018 dX12_isWord_30 ?_
    refine g_aload_n (pc := 33) hc 0 dX12_isWord_33 rfl rfl ?_
    refine gf_m0_from (pc := 34) hc tw_1038 dX12_isWord_34 ?_
    refine g_topi (v := nI q.1) (h10) ?_
    refine la_m11 (pc := 37) hc (q.1) (rfl) (by omega) dX12_isWord_37 ?_
    refine g_iload_n (pc := 38) hc 1 dX12_isWord_38 rfl rfl ?_
    refine g_icmp_ne (pc := 39) hc 101 dX12_isWord_39 (by decide) (fun c2 => ?_) (fun c2 => ?_)
    · refine g_iconst (pc := 101) (v := nI 0) hc dX12_isWord_101 (by decide) ?_
      exact g_zret (pc := 102) hc dX12_isWord_102 (by decide) (by rw [wat_3 hB]; (repeat (first | rw [if_pos c1] | rw [if_neg c1] | rw [if_neg (ne_true_of_eq_false c1)] | rw [if_pos c2] | rw [if_neg c2] | rw [if_neg (ne_true_of_eq_false c2)])); try rfl) (rfl)
    · refine g_aload_n (pc := 42) hc 0 dX12_isWord_42 rfl rfl ?_
      refine gf_m0_tape (pc := 43) hc tw_1018 dX12_isWord_43 ?_
      refine g_aload_n (pc := 46) hc 0 dX12_isWord_46 rfl rfl ?_
      refine gf_m0_from (pc := 47) hc tw_1038 dX12_isWord_47 ?_
      refine g_topi (v := nI q.1) (h10) ?_
      refine g_iconst (pc := 50) (v := nI 1) hc dX12_isWord_50 (by decide) ?_
      refine g_iadd (pc := 51) hc dX12_isWord_51 ?_
      refine g_topi (v := nI (q.1 + 1)) (nI_add q.1 1) ?_
      refine la_m11 (pc := 52) hc (q.1 + 1) (rfl) (by omega) dX12_isWord_52 ?_
      refine g_iload_n (pc := 53) hc 2 dX12_isWord_53 rfl rfl ?_
      refine g_icmp_ne (pc := 54) hc 101 dX12_isWord_54 (by decide) (fun c3 => ?_) (fun c3 => ?_)
      · refine g_iconst (pc := 101) (v := nI 0) hc dX12_isWord_101 (by decide) ?_
        exact g_zret (pc := 102) hc dX12_isWord_102 (by decide) (by rw [wat_3 hB]; (repeat (first | rw [if_pos c1] | rw [if_neg c1] | rw [if_neg (ne_true_of_eq_false c1)] | rw [if_pos c2] | rw [if_neg c2] | rw [if_neg (ne_true_of_eq_false c2)] | rw [if_pos c3] | rw [if_neg c3] | rw [if_neg (ne_true_of_eq_false c3)])); try rfl) (rfl)
      · refine g_iload_n (pc := 57) hc 3 dX12_isWord_57 rfl rfl ?_
        refine g_if_eq_f (pc := 58) hc 76 dX12_isWord_58 (by decide) (by decide) ?_
        refine g_aload_n (pc := 61) hc 0 dX12_isWord_61 rfl rfl ?_
        refine gf_m0_tape (pc := 62) hc tw_1018 dX12_isWord_62 ?_
        refine g_aload_n (pc := 65) hc 0 dX12_isWord_65 rfl rfl ?_
        refine gf_m0_from (pc := 66) hc tw_1038 dX12_isWord_66 ?_
        refine g_topi (v := nI q.1) (h10) ?_
        refine g_iconst (pc := 69) (v := nI 2) hc dX12_isWord_69 (by decide) ?_
        refine g_iadd (pc := 70) hc dX12_isWord_70 ?_
        refine g_topi (v := nI (q.1 + 2)) (nI_add q.1 2) ?_
        refine la_m11 (pc := 71) hc (q.1 + 2) (rfl) (by omega) dX12_isWord_71 ?_
        refine g_iload_n (pc := 72) hc 3 dX12_isWord_72 rfl rfl ?_
        refine g_icmp_ne (pc := 73) hc 101 dX12_isWord_73 (by decide) (fun c4 => ?_) (fun c4 => ?_)
        · refine g_iconst (pc := 101) (v := nI 0) hc dX12_isWord_101 (by decide) ?_
          exact g_zret (pc := 102) hc dX12_isWord_102 (by decide) (by rw [wat_3 hB]; (repeat (first | rw [if_pos c1] | rw [if_neg c1] | rw [if_neg (ne_true_of_eq_false c1)] | rw [if_pos c2] | rw [if_neg c2] | rw [if_neg (ne_true_of_eq_false c2)] | rw [if_pos c3] | rw [if_neg c3] | rw [if_neg (ne_true_of_eq_false c3)] | rw [if_pos c4] | rw [if_neg c4] | rw [if_neg (ne_true_of_eq_false c4)])); try rfl) (rfl)
        · refine g_iload (pc := 76) hc 4 dX12_isWord_76 rfl ?_
          refine g_if_eq_t (pc := 78) hc 97 dX12_isWord_78 (by decide) (by decide) ?_
          refine g_iconst (pc := 97) (v := nI 1) hc dX12_isWord_97 (by decide) ?_
          refine g_goto (pc := 98) hc 102 dX12_isWord_98 (by decide) ?_
          exact g_zret (pc := 102) hc dX12_isWord_102 (by decide) (by rw [wat_3 hB]; (repeat (first | rw [if_pos c1] | rw [if_neg c1] | rw [if_neg (ne_true_of_eq_false c1)] | rw [if_pos c2] | rw [if_neg c2] | rw [if_neg (ne_true_of_eq_false c2)] | rw [if_pos c3] | rw [if_neg c3] | rw [if_neg (ne_true_of_eq_false c3)] | rw [if_pos c4] | rw [if_neg c4] | rw [if_neg (ne_true_of_eq_false c4)])); try rfl) (rfl)

set_option maxHeartbeats 4000000 in
set_option maxRecDepth 100000 in
theorem c_X12_isWord_4 (l : Launch) (E : Ev) {A : Nat → Prop} (ad : Nat → Nat) (hA : Oka 30 ad A) (sc : Nat → Int32) (ar : Nat → Nat → Int32) (la : Nat → Int64) {tL : Nat} (q : Rq) (hT : sc 7 = nI tL) (hT60 : tL ≤ 60) (h10 : sc 10 = nI q.1) (h11 : sc 11 = nI (q.2.1 - q.1)) (hq : rdok tL q) (hB : ∀ i, ar 11 i &&& nI 255 = ar 11 i) : Ct l E yX12_isWord (.code yX12_isWord cX12_isWord 6 (some .boolean)) ({ frames := 0, cells := 0, slots := 0, locals := 0 }) A (mw E ad sc ar la) [.ref (ad 0), .int (nI 119), .int (nI 104), .int (nI 111), .int (nI 0)] (some (.int (bI (wat (ar 11) q 4)))) (mw E ad sc ar la) := by
  have hq1 : q.1 ≤ q.2.1 := hq.1
  have hq2 : q.2.1 ≤ tL := hq.2
  refine Ct.of (lv := [(0, .ref (ad 0)), (1, .int (nI 119)), (2, .int (nI 104)), (3, .int (nI 111)), (4, .int (nI 0))]) (by decide +kernel) (Nat.le_of_ble_eq_true rfl) rfl ?_
  intro zp ze zs zm za zb zh zc hc
  refine g_iload_n (pc := 0) hc 3 dX12_isWord_0 rfl rfl ?_
  refine g_if_ne_t (pc := 1) hc 8 dX12_isWord_1 (by decide) (by decide) ?_
  refine g_iload (pc := 8) hc 4 dX12_isWord_8 rfl ?_
  refine g_if_ne_f (pc := 10) hc 17 dX12_isWord_10 (by decide) (by decide) ?_
  refine g_iconst (pc := 13) (v := nI 3) hc dX12_isWord_13 (by decide) ?_
  refine g_goto (pc := 14) hc 18 dX12_isWord_14 (by decide) ?_
  refine g_istore (pc := 18) (lv' := [(0, .ref (ad 0)), (1, .int (nI 119)), (2, .int (nI 104)), (3, .int (nI 111)), (4, .int (nI 0)), (5, .int (nI 3))]) hc dX12_isWord_18 (by decide) rfl ?_
  refine g_aload_n (pc := 20) hc 0 dX12_isWord_20 rfl rfl ?_
  refine gf_m0_long1 (pc := 21) hc tw_1039 dX12_isWord_21 ?_
  refine g_topi (v := nI (q.2.1 - q.1)) (h11) ?_
  refine g_iload (pc := 24) hc 5 dX12_isWord_24 rfl ?_
  refine g_icmp_ne (pc := 26) hc 101 dX12_isWord_26 (by decide) (fun c1 => ?_) (fun c1 => ?_)
  · refine g_iconst (pc := 101) (v := nI 0) hc dX12_isWord_101 (by decide) ?_
    exact g_zret (pc := 102) hc dX12_isWord_102 (by decide) (by rw [wat_4 hB]; (repeat (first | rw [if_pos c1] | rw [if_neg c1] | rw [if_neg (ne_true_of_eq_false c1)])); try rfl) (rfl)
  · have hlen : q.2.1 - q.1 = 3 := (nI_eq (by omega) (by decide)).mp c1
    refine g_aload_n (pc := 29) hc 0 dX12_isWord_29 rfl rfl ?_
    refine gf_m0_tape (pc := 30) hc tw_1018 dX12_isWord_30 ?_
    refine g_aload_n (pc := 33) hc 0 dX12_isWord_33 rfl rfl ?_
    refine gf_m0_from (pc := 34) hc tw_1038 dX12_isWord_34 ?_
    refine g_topi (v := nI q.1) (h10) ?_
    refine la_m11 (pc := 37) hc (q.1) (rfl) (by omega) dX12_isWord_37 ?_
    refine g_iload_n (pc := 38) hc 1 dX12_isWord_38 rfl rfl ?_
    refine g_icmp_ne (pc := 39) hc 101 dX12_isWord_39 (by decide) (fun c2 => ?_) (fun c2 => ?_)
    · refine g_iconst (pc := 101) (v := nI 0) hc dX12_isWord_101 (by decide) ?_
      exact g_zret (pc := 102) hc dX12_isWord_102 (by decide) (by rw [wat_4 hB]; (repeat (first | rw [if_pos c1] | rw [if_neg c1] | rw [if_neg (ne_true_of_eq_false c1)] | rw [if_pos c2] | rw [if_neg c2] | rw [if_neg (ne_true_of_eq_false c2)])); try rfl) (rfl)
    · refine g_aload_n (pc := 42) hc 0 dX12_isWord_42 rfl rfl ?_
      refine gf_m0_tape (pc := 43) hc tw_1018 dX12_isWord_43 ?_
      refine g_aload_n (pc := 46) hc 0 dX12_isWord_46 rfl rfl ?_
      refine gf_m0_from (pc := 47) hc tw_1038 dX12_isWord_47 ?_
      refine g_topi (v := nI q.1) (h10) ?_
      refine g_iconst (pc := 50) (v := nI 1) hc dX12_isWord_50 (by decide) ?_
      refine g_iadd (pc := 51) hc dX12_isWord_51 ?_
      refine g_topi (v := nI (q.1 + 1)) (nI_add q.1 1) ?_
      refine la_m11 (pc := 52) hc (q.1 + 1) (rfl) (by omega) dX12_isWord_52 ?_
      refine g_iload_n (pc := 53) hc 2 dX12_isWord_53 rfl rfl ?_
      refine g_icmp_ne (pc := 54) hc 101 dX12_isWord_54 (by decide) (fun c3 => ?_) (fun c3 => ?_)
      · refine g_iconst (pc := 101) (v := nI 0) hc dX12_isWord_101 (by decide) ?_
        exact g_zret (pc := 102) hc dX12_isWord_102 (by decide) (by rw [wat_4 hB]; (repeat (first | rw [if_pos c1] | rw [if_neg c1] | rw [if_neg (ne_true_of_eq_false c1)] | rw [if_pos c2] | rw [if_neg c2] | rw [if_neg (ne_true_of_eq_false c2)] | rw [if_pos c3] | rw [if_neg c3] | rw [if_neg (ne_true_of_eq_false c3)])); try rfl) (rfl)
      · refine g_iload_n (pc := 57) hc 3 dX12_isWord_57 rfl rfl ?_
        refine g_if_eq_f (pc := 58) hc 76 dX12_isWord_58 (by decide) (by decide) ?_
        refine g_aload_n (pc := 61) hc 0 dX12_isWord_61 rfl rfl ?_
        refine gf_m0_tape (pc := 62) hc tw_1018 dX12_isWord_62 ?_
        refine g_aload_n (pc := 65) hc 0 dX12_isWord_65 rfl rfl ?_
        refine gf_m0_from (pc := 66) hc tw_1038 dX12_isWord_66 ?_
        refine g_topi (v := nI q.1) (h10) ?_
        refine g_iconst (pc := 69) (v := nI 2) hc dX12_isWord_69 (by decide) ?_
        refine g_iadd (pc := 70) hc dX12_isWord_70 ?_
        refine g_topi (v := nI (q.1 + 2)) (nI_add q.1 2) ?_
        refine la_m11 (pc := 71) hc (q.1 + 2) (rfl) (by omega) dX12_isWord_71 ?_
        refine g_iload_n (pc := 72) hc 3 dX12_isWord_72 rfl rfl ?_
        refine g_icmp_ne (pc := 73) hc 101 dX12_isWord_73 (by decide) (fun c4 => ?_) (fun c4 => ?_)
        · refine g_iconst (pc := 101) (v := nI 0) hc dX12_isWord_101 (by decide) ?_
          exact g_zret (pc := 102) hc dX12_isWord_102 (by decide) (by rw [wat_4 hB]; (repeat (first | rw [if_pos c1] | rw [if_neg c1] | rw [if_neg (ne_true_of_eq_false c1)] | rw [if_pos c2] | rw [if_neg c2] | rw [if_neg (ne_true_of_eq_false c2)] | rw [if_pos c3] | rw [if_neg c3] | rw [if_neg (ne_true_of_eq_false c3)] | rw [if_pos c4] | rw [if_neg c4] | rw [if_neg (ne_true_of_eq_false c4)])); try rfl) (rfl)
        · refine g_iload (pc := 76) hc 4 dX12_isWord_76 rfl ?_
          refine g_if_eq_t (pc := 78) hc 97 dX12_isWord_78 (by decide) (by decide) ?_
          refine g_iconst (pc := 97) (v := nI 1) hc dX12_isWord_97 (by decide) ?_
          refine g_goto (pc := 98) hc 102 dX12_isWord_98 (by decide) ?_
          exact g_zret (pc := 102) hc dX12_isWord_102 (by decide) (by rw [wat_4 hB]; (repeat (first | rw [if_pos c1] | rw [if_neg c1] | rw [if_neg (ne_true_of_eq_false c1)] | rw [if_pos c2] | rw [if_neg c2] | rw [if_neg (ne_true_of_eq_false c2)] | rw [if_pos c3] | rw [if_neg c3] | rw [if_neg (ne_true_of_eq_false c3)] | rw [if_pos c4] | rw [if_neg c4] | rw [if_neg (ne_true_of_eq_false c4)])); try rfl) (rfl)

set_option maxHeartbeats 4000000 in
set_option maxRecDepth 100000 in
theorem c_X12_isWord_5 (l : Launch) (E : Ev) {A : Nat → Prop} (ad : Nat → Nat) (hA : Oka 30 ad A) (sc : Nat → Int32) (ar : Nat → Nat → Int32) (la : Nat → Int64) {tL : Nat} (q : Rq) (hT : sc 7 = nI tL) (hT60 : tL ≤ 60) (h10 : sc 10 = nI q.1) (h11 : sc 11 = nI (q.2.1 - q.1)) (hq : rdok tL q) (hB : ∀ i, ar 11 i &&& nI 255 = ar 11 i) : Ct l E yX12_isWord (.code yX12_isWord cX12_isWord 6 (some .boolean)) ({ frames := 0, cells := 0, slots := 0, locals := 0 }) A (mw E ad sc ar la) [.ref (ad 0), .int (nI 111), .int (nI 114), .int (nI 0), .int (nI 0)] (some (.int (bI (wat (ar 11) q 5)))) (mw E ad sc ar la) := by
  have hq1 : q.1 ≤ q.2.1 := hq.1
  have hq2 : q.2.1 ≤ tL := hq.2
  refine Ct.of (lv := [(0, .ref (ad 0)), (1, .int (nI 111)), (2, .int (nI 114)), (3, .int (nI 0)), (4, .int (nI 0))]) (by decide +kernel) (Nat.le_of_ble_eq_true rfl) rfl ?_
  intro zp ze zs zm za zb zh zc hc
  refine g_iload_n (pc := 0) hc 3 dX12_isWord_0 rfl rfl ?_
  refine g_if_ne_f (pc := 1) hc 8 dX12_isWord_1 (by decide) (by decide) ?_
  refine g_iconst (pc := 4) (v := nI 2) hc dX12_isWord_4 (by decide) ?_
  refine g_goto (pc := 5) hc 18 dX12_isWord_5 (by decide) ?_
  refine g_istore (pc := 18) (lv' := [(0, .ref (ad 0)), (1, .int (nI 111)), (2, .int (nI 114)), (3, .int (nI 0)), (4, .int (nI 0)), (5, .int (nI 2))]) hc dX12_isWord_18 (by decide) rfl ?_
  refine g_aload_n (pc := 20) hc 0 dX12_isWord_20 rfl rfl ?_
  refine gf_m0_long1 (pc := 21) hc tw_1039 dX12_isWord_21 ?_
  refine g_topi (v := nI (q.2.1 - q.1)) (h11) ?_
  refine g_iload (pc := 24) hc 5 dX12_isWord_24 rfl ?_
  refine g_icmp_ne (pc := 26) hc 101 dX12_isWord_26 (by decide) (fun c1 => ?_) (fun c1 => ?_)
  · refine g_iconst (pc := 101) (v := nI 0) hc dX12_isWord_101 (by decide) ?_
    exact g_zret (pc := 102) hc dX12_isWord_102 (by decide) (by rw [wat_5 hB]; (repeat (first | rw [if_pos c1] | rw [if_neg c1] | rw [if_neg (ne_true_of_eq_false c1)])); try rfl) (rfl)
  · have hlen : q.2.1 - q.1 = 2 := (nI_eq (by omega) (by decide)).mp c1
    refine g_aload_n (pc := 29) hc 0 dX12_isWord_29 rfl rfl ?_
    refine gf_m0_tape (pc := 30) hc tw_1018 dX12_isWord_30 ?_
    refine g_aload_n (pc := 33) hc 0 dX12_isWord_33 rfl rfl ?_
    refine gf_m0_from (pc := 34) hc tw_1038 dX12_isWord_34 ?_
    refine g_topi (v := nI q.1) (h10) ?_
    refine la_m11 (pc := 37) hc (q.1) (rfl) (by omega) dX12_isWord_37 ?_
    refine g_iload_n (pc := 38) hc 1 dX12_isWord_38 rfl rfl ?_
    refine g_icmp_ne (pc := 39) hc 101 dX12_isWord_39 (by decide) (fun c2 => ?_) (fun c2 => ?_)
    · refine g_iconst (pc := 101) (v := nI 0) hc dX12_isWord_101 (by decide) ?_
      exact g_zret (pc := 102) hc dX12_isWord_102 (by decide) (by rw [wat_5 hB]; (repeat (first | rw [if_pos c1] | rw [if_neg c1] | rw [if_neg (ne_true_of_eq_false c1)] | rw [if_pos c2] | rw [if_neg c2] | rw [if_neg (ne_true_of_eq_false c2)])); try rfl) (rfl)
    · refine g_aload_n (pc := 42) hc 0 dX12_isWord_42 rfl rfl ?_
      refine gf_m0_tape (pc := 43) hc tw_1018 dX12_isWord_43 ?_
      refine g_aload_n (pc := 46) hc 0 dX12_isWord_46 rfl rfl ?_
      refine gf_m0_from (pc := 47) hc tw_1038 dX12_isWord_47 ?_
      refine g_topi (v := nI q.1) (h10) ?_
      refine g_iconst (pc := 50) (v := nI 1) hc dX12_isWord_50 (by decide) ?_
      refine g_iadd (pc := 51) hc dX12_isWord_51 ?_
      refine g_topi (v := nI (q.1 + 1)) (nI_add q.1 1) ?_
      refine la_m11 (pc := 52) hc (q.1 + 1) (rfl) (by omega) dX12_isWord_52 ?_
      refine g_iload_n (pc := 53) hc 2 dX12_isWord_53 rfl rfl ?_
      refine g_icmp_ne (pc := 54) hc 101 dX12_isWord_54 (by decide) (fun c3 => ?_) (fun c3 => ?_)
      · refine g_iconst (pc := 101) (v := nI 0) hc dX12_isWord_101 (by decide) ?_
        exact g_zret (pc := 102) hc dX12_isWord_102 (by decide) (by rw [wat_5 hB]; (repeat (first | rw [if_pos c1] | rw [if_neg c1] | rw [if_neg (ne_true_of_eq_false c1)] | rw [if_pos c2] | rw [if_neg c2] | rw [if_neg (ne_true_of_eq_false c2)] | rw [if_pos c3] | rw [if_neg c3] | rw [if_neg (ne_true_of_eq_false c3)])); try rfl) (rfl)
      · refine g_iload_n (pc := 57) hc 3 dX12_isWord_57 rfl rfl ?_
        refine g_if_eq_t (pc := 58) hc 76 dX12_isWord_58 (by decide) (by decide) ?_
        refine g_iload (pc := 76) hc 4 dX12_isWord_76 rfl ?_
        refine g_if_eq_t (pc := 78) hc 97 dX12_isWord_78 (by decide) (by decide) ?_
        refine g_iconst (pc := 97) (v := nI 1) hc dX12_isWord_97 (by decide) ?_
        refine g_goto (pc := 98) hc 102 dX12_isWord_98 (by decide) ?_
        exact g_zret (pc := 102) hc dX12_isWord_102 (by decide) (by rw [wat_5 hB]; (repeat (first | rw [if_pos c1] | rw [if_neg c1] | rw [if_neg (ne_true_of_eq_false c1)] | rw [if_pos c2] | rw [if_neg c2] | rw [if_neg (ne_true_of_eq_false c2)] | rw [if_pos c3] | rw [if_neg c3] | rw [if_neg (ne_true_of_eq_false c3)])); try rfl) (rfl)

theorem dX12_number_0 : decode cX12_number 0 = .ok (.iconst 0, 1) := by decide +kernel
theorem dX12_number_1 : decode cX12_number 1 = .ok (.istore_n 1, 1) := by decide +kernel
theorem dX12_number_2 : decode cX12_number 2 = .ok (.aload_n 0, 1) := by decide +kernel
theorem dX12_number_3 : decode cX12_number 3 = .ok (.getfield 214, 3) := by decide +kernel
theorem dX12_number_6 : decode cX12_number 6 = .ok (.istore_n 2, 1) := by decide +kernel
theorem dX12_number_7 : decode cX12_number 7 = .ok (.iload_n 2, 1) := by decide +kernel
theorem dX12_number_8 : decode cX12_number 8 = .ok (.aload_n 0, 1) := by decide +kernel
theorem dX12_number_9 : decode cX12_number 9 = .ok (.getfield 214, 3) := by decide +kernel
theorem dX12_number_12 : decode cX12_number 12 = .ok (.aload_n 0, 1) := by decide +kernel
theorem dX12_number_13 : decode cX12_number 13 = .ok (.getfield 217, 3) := by decide +kernel
theorem dX12_number_16 : decode cX12_number 16 = .ok (.iadd, 1) := by decide +kernel
theorem dX12_number_17 : decode cX12_number 17 = .ok (.if_icmp .ge 57, 3) := by decide +kernel
theorem dX12_number_20 : decode cX12_number 20 = .ok (.aload_n 0, 1) := by decide +kernel
theorem dX12_number_21 : decode cX12_number 21 = .ok (.getfield 51, 3) := by decide +kernel
theorem dX12_number_24 : decode cX12_number 24 = .ok (.iload_n 2, 1) := by decide +kernel
theorem dX12_number_25 : decode cX12_number 25 = .ok (.iaload, 1) := by decide +kernel
theorem dX12_number_26 : decode cX12_number 26 = .ok (.bipush 48, 2) := by decide +kernel
theorem dX12_number_28 : decode cX12_number 28 = .ok (.bipush 57, 2) := by decide +kernel
theorem dX12_number_30 : decode cX12_number 30 = .ok (.invokestatic 113, 3) := by decide +kernel
theorem dX12_number_33 : decode cX12_number 33 = .ok (.ifCond .ne 5, 3) := by decide +kernel
theorem dX12_number_36 : decode cX12_number 36 = .ok (.iconst (-1), 1) := by decide +kernel
theorem dX12_number_37 : decode cX12_number 37 = .ok (.ireturn, 1) := by decide +kernel
theorem dX12_number_38 : decode cX12_number 38 = .ok (.bipush 10, 2) := by decide +kernel
theorem dX12_number_40 : decode cX12_number 40 = .ok (.iload_n 1, 1) := by decide +kernel
theorem dX12_number_41 : decode cX12_number 41 = .ok (.imul, 1) := by decide +kernel
theorem dX12_number_42 : decode cX12_number 42 = .ok (.aload_n 0, 1) := by decide +kernel
theorem dX12_number_43 : decode cX12_number 43 = .ok (.getfield 51, 3) := by decide +kernel
theorem dX12_number_46 : decode cX12_number 46 = .ok (.iload_n 2, 1) := by decide +kernel
theorem dX12_number_47 : decode cX12_number 47 = .ok (.iaload, 1) := by decide +kernel
theorem dX12_number_48 : decode cX12_number 48 = .ok (.iadd, 1) := by decide +kernel
theorem dX12_number_49 : decode cX12_number 49 = .ok (.bipush 48, 2) := by decide +kernel
theorem dX12_number_51 : decode cX12_number 51 = .ok (.isub, 1) := by decide +kernel
theorem dX12_number_52 : decode cX12_number 52 = .ok (.istore_n 1, 1) := by decide +kernel
theorem dX12_number_53 : decode cX12_number 53 = .ok (.iload_n 1, 1) := by decide +kernel
theorem dX12_number_54 : decode cX12_number 54 = .ok (.sipush 1000, 3) := by decide +kernel
theorem dX12_number_57 : decode cX12_number 57 = .ok (.if_icmp .le 9, 3) := by decide +kernel
theorem dX12_number_60 : decode cX12_number 60 = .ok (.sipush 1000, 3) := by decide +kernel
theorem dX12_number_63 : decode cX12_number 63 = .ok (.goto 4, 3) := by decide +kernel
theorem dX12_number_66 : decode cX12_number 66 = .ok (.iload_n 1, 1) := by decide +kernel
theorem dX12_number_67 : decode cX12_number 67 = .ok (.istore_n 1, 1) := by decide +kernel
theorem dX12_number_68 : decode cX12_number 68 = .ok (.iinc 2 1, 3) := by decide +kernel
theorem dX12_number_71 : decode cX12_number 71 = .ok (.goto (-64), 3) := by decide +kernel
theorem dX12_number_74 : decode cX12_number 74 = .ok (.aload_n 0, 1) := by decide +kernel
theorem dX12_number_75 : decode cX12_number 75 = .ok (.getfield 217, 3) := by decide +kernel
theorem dX12_number_78 : decode cX12_number 78 = .ok (.ifCond .ne 7, 3) := by decide +kernel
theorem dX12_number_81 : decode cX12_number 81 = .ok (.iconst (-1), 1) := by decide +kernel
theorem dX12_number_82 : decode cX12_number 82 = .ok (.goto 4, 3) := by decide +kernel
theorem dX12_number_85 : decode cX12_number 85 = .ok (.iload_n 1, 1) := by decide +kernel
theorem dX12_number_86 : decode cX12_number 86 = .ok (.ireturn, 1) := by decide +kernel

set_option maxHeartbeats 4000000 in
set_option maxRecDepth 100000 in
theorem c_X12_number (l : Launch) (E : Ev) {A : Nat → Prop} (ad : Nat → Nat) (hA : Oka 30 ad A) (sc : Nat → Int32) (ar : Nat → Nat → Int32) (la : Nat → Int64) {tL : Nat} (q : Rq) (hT : sc 7 = nI tL) (hT60 : tL ≤ 60) (h10 : sc 10 = nI q.1) (h11 : sc 11 = nI (q.2.1 - q.1)) (hq : rdok tL q) (hB : ∀ i, ar 11 i &&& nI 255 = ar 11 i) : Ct l E yX12_number (.code yX12_number cX12_number 3 (some .int)) ({ frames := 1, cells := 0, slots := 0, locals := 22 }) A (mw E ad sc ar la) [.ref (ad 0)] (some (.int (mvh (ar 11) q))) (mw E ad sc ar la) := by
  have hq1 : q.1 ≤ q.2.1 := hq.1
  have hq2 : q.2.1 ≤ tL := hq.2
  refine Ct.of (lv := [(0, .ref (ad 0))]) (by decide +kernel) (Nat.le_of_ble_eq_true rfl) rfl ?_
  intro zp ze zs zm za zb zh zc hc
  refine g_iconst (pc := 0) (v := nI 0) hc dX12_number_0 (by decide) ?_
  refine g_istore_n (pc := 1) (lv' := [(0, .ref (ad 0)), (1, .int (nI 0))]) hc dX12_number_1 rfl (by decide) rfl ?_
  refine g_aload_n (pc := 2) hc 0 dX12_number_2 rfl rfl ?_
  refine gf_m0_from (pc := 3) hc tw_1038 dX12_number_3 ?_
  refine g_topi (v := nI q.1) (h10) ?_
  refine g_istore_n (pc := 6) (lv' := [(0, .ref (ad 0)), (1, .int (nI 0)), (2, .int (nI q.1))]) hc dX12_number_6 rfl (by decide) rfl ?_
  have L7_1 : ∀ (kk k : Nat), k + kk = (q.2.1 - q.1) → (hok : ∀ m, m < k → inr (ar 11 (q.1 + m)) (nI 48) (nI 57) = true) → G zp l ze ({ frames := 1, cells := 0, slots := 0, locals := 22 }) zs zm za zb zh zc 0 0 (MQ zb (Qz E A (some (.int (mvh (ar 11) q))) (mw E ad sc ar la)) za zs 0 0 A) E A 3 (mw E ad sc ar la) (7) [(0, .ref (ad 0)), (1, .int (mva (ar 11) q.1 (k))), (2, .int (nI (q.1 + (k))))] [] := by
    intro kk
    induction kk with
    | zero =>
      intro k lhk hok
      have lhkn : (q.2.1 - q.1) = k := by omega
      subst lhkn
      refine g_iload_n (pc := 7) hc 2 dX12_number_7 rfl rfl ?_
      refine g_aload_n (pc := 8) hc 0 dX12_number_8 rfl rfl ?_
      refine gf_m0_from (pc := 9) hc tw_1038 dX12_number_9 ?_
      refine g_topi (v := nI q.1) (h10) ?_
      refine g_aload_n (pc := 12) hc 0 dX12_number_12 rfl rfl ?_
      refine gf_m0_long1 (pc := 13) hc tw_1039 dX12_number_13 ?_
      refine g_topi (v := nI (q.2.1 - q.1)) (h11) ?_
      refine g_iadd (pc := 16) hc dX12_number_16 ?_
      refine g_topi (v := nI (q.1 + (q.2.1 - q.1))) (nI_add q.1 (q.2.1 - q.1)) ?_
      refine g_icmp_ge_t (pc := 17) hc 74 dX12_number_17 (by decide) (nI_le (by omega) (by omega)) ?_
      refine g_aload_n (pc := 74) hc 0 dX12_number_74 rfl rfl ?_
      refine gf_m0_long1 (pc := 75) hc tw_1039 dX12_number_75 ?_
      refine g_topi (v := nI (q.2.1 - q.1)) (h11) ?_
      refine g_if_ne (pc := 78) hc 85 dX12_number_78 (by decide) (fun c2 => ?_) (fun c2 => ?_)
      · refine g_iload_n (pc := 85) hc 1 dX12_number_85 rfl rfl ?_
        exact g_iret (pc := 86) hc dX12_number_86 (by rw [mvh, if_pos (len1 c2), if_pos (allB_t hok)]) (rfl)
      · refine g_iconst (pc := 81) (v := (-1)) hc dX12_number_81 (by decide) ?_
        refine g_goto (pc := 82) hc 86 dX12_number_82 (by decide) ?_
        exact g_iret (pc := 86) hc dX12_number_86 (by rw [mvh, if_neg (len0 c2 (by omega))]) (rfl)
    | succ kk ihk =>
      intro k lhk hok
      have lhkn : k < (q.2.1 - q.1) := by omega
      refine g_iload_n (pc := 7) hc 2 dX12_number_7 rfl rfl ?_
      refine g_aload_n (pc := 8) hc 0 dX12_number_8 rfl rfl ?_
      refine gf_m0_from (pc := 9) hc tw_1038 dX12_number_9 ?_
      refine g_topi (v := nI q.1) (h10) ?_
      refine g_aload_n (pc := 12) hc 0 dX12_number_12 rfl rfl ?_
      refine gf_m0_long1 (pc := 13) hc tw_1039 dX12_number_13 ?_
      refine g_topi (v := nI (q.2.1 - q.1)) (h11) ?_
      refine g_iadd (pc := 16) hc dX12_number_16 ?_
      refine g_topi (v := nI (q.1 + (q.2.1 - q.1))) (nI_add q.1 (q.2.1 - q.1)) ?_
      refine g_icmp_ge_f (pc := 17) hc 74 dX12_number_17 (by decide) (nI_ge (by omega) (by omega)) ?_
      refine g_aload_n (pc := 20) hc 0 dX12_number_20 rfl rfl ?_
      refine gf_m0_tape (pc := 21) hc tw_1018 dX12_number_21 ?_
      refine g_iload_n (pc := 24) hc 2 dX12_number_24 rfl rfl ?_
      refine la_m11 (pc := 25) hc (q.1 + (k)) (rfl) (by omega) dX12_number_25 ?_
      refine g_bipush (pc := 26) (v := nI 48) hc dX12_number_26 (by decide) ?_
      refine g_bipush (pc := 28) (v := nI 57) hc dX12_number_28 (by decide) ?_
      refine g_callSi (pc := 30) (rest := []) (As := [.int ((ar 11) (q.1 + (k))), .int (nI 48), .int (nI 57)]) hc (c_X12_isIn l E ad hA sc ar la ((ar 11) (q.1 + (k))) (nI 48) (nI 57)) mi_X12_isIn tw_1136 rfl ⟨rfl, rfl, by decide, by decide⟩ (Nat.le_of_ble_eq_true rfl) ⟨Nat.le_refl _, Nat.le_refl _⟩ rfl dX12_number_30 ?_
      refine g_if_ne_b (pc := 33) hc 38 dX12_number_33 (by decide) (fun c3 => ?_) (fun c3 => ?_)
      · refine g_bipush (pc := 38) (v := nI 10) hc dX12_number_38 (by decide) ?_
        refine g_iload_n (pc := 40) hc 1 dX12_number_40 rfl rfl ?_
        refine g_imul (pc := 41) hc dX12_number_41 ?_
        refine g_aload_n (pc := 42) hc 0 dX12_number_42 rfl rfl ?_
        refine gf_m0_tape (pc := 43) hc tw_1018 dX12_number_43 ?_
        refine g_iload_n (pc := 46) hc 2 dX12_number_46 rfl rfl ?_
        refine la_m11 (pc := 47) hc (q.1 + (k)) (rfl) (by omega) dX12_number_47 ?_
        refine g_iadd (pc := 48) hc dX12_number_48 ?_
        refine g_bipush (pc := 49) (v := nI 48) hc dX12_number_49 (by decide) ?_
        refine g_isub (pc := 51) hc dX12_number_51 ?_
        refine g_istore_n (pc := 52) (lv' := [(0, .ref (ad 0)), (1, .int ((((nI 10) * (mva (ar 11) q.1 (k))) + ((ar 11) (q.1 + (k)))) - (nI 48))), (2, .int (nI (q.1 + (k))))]) hc dX12_number_52 rfl (by decide) rfl ?_
        refine g_iload_n (pc := 53) hc 1 dX12_number_53 rfl rfl ?_
        refine g_sipush (pc := 54) (v := nI 1000) hc dX12_number_54 (by decide) ?_
        refine g_icmp_le (pc := 57) hc 66 dX12_number_57 (by decide) (fun c4 => ?_) (fun c4 => ?_)
        · refine g_iload_n (pc := 66) hc 1 dX12_number_66 rfl rfl ?_
          refine g_istore_n (pc := 67) (lv' := [(0, .ref (ad 0)), (1, .int ((((nI 10) * (mva (ar 11) q.1 (k))) + ((ar 11) (q.1 + (k)))) - (nI 48))), (2, .int (nI (q.1 + (k))))]) hc dX12_number_67 rfl (by decide) rfl ?_
          refine g_iinc (pc := 68) (v := nI (q.1 + (k) + 1)) (lv' := [(0, .ref (ad 0)), (1, .int ((((nI 10) * (mva (ar 11) q.1 (k))) + ((ar 11) (q.1 + (k)))) - (nI 48))), (2, .int (nI (q.1 + (k) + 1)))]) hc 2 dX12_number_68 rfl (nI_ofi (q.1 + (k)) 1) (by decide) rfl ?_
          refine g_goto (pc := 71) hc 7 dX12_number_71 (by decide) ?_
          exact g_eq (ws' := mw E ad sc ar la) (lv' := [(0, .ref (ad 0)), (1, .int (mva (ar 11) q.1 (k + 1))), (2, .int (nI (q.1 + (k + 1))))]) (rfl) (by rw [mva_succ]; (repeat (first | rw [if_pos c3] | rw [if_neg c3] | rw [if_neg (ne_true_of_eq_false c3)] | rw [if_pos c4] | rw [if_neg c4] | rw [if_neg (ne_true_of_eq_false c4)])); try rfl) rfl (ihk (k + 1) (by omega) (lt_s hok c3))
        · refine g_sipush (pc := 60) (v := nI 1000) hc dX12_number_60 (by decide) ?_
          refine g_goto (pc := 63) hc 67 dX12_number_63 (by decide) ?_
          refine g_istore_n (pc := 67) (lv' := [(0, .ref (ad 0)), (1, .int (nI 1000)), (2, .int (nI (q.1 + (k))))]) hc dX12_number_67 rfl (by decide) rfl ?_
          refine g_iinc (pc := 68) (v := nI (q.1 + (k) + 1)) (lv' := [(0, .ref (ad 0)), (1, .int (nI 1000)), (2, .int (nI (q.1 + (k) + 1)))]) hc 2 dX12_number_68 rfl (nI_ofi (q.1 + (k)) 1) (by decide) rfl ?_
          refine g_goto (pc := 71) hc 7 dX12_number_71 (by decide) ?_
          exact g_eq (ws' := mw E ad sc ar la) (lv' := [(0, .ref (ad 0)), (1, .int (mva (ar 11) q.1 (k + 1))), (2, .int (nI (q.1 + (k + 1))))]) (rfl) (by rw [mva_succ]; (repeat (first | rw [if_pos c3] | rw [if_neg c3] | rw [if_neg (ne_true_of_eq_false c3)] | rw [if_pos c4] | rw [if_neg c4] | rw [if_neg (ne_true_of_eq_false c4)])); try rfl) rfl (ihk (k + 1) (by omega) (lt_s hok c3))
      · refine g_iconst (pc := 36) (v := (-1)) hc dX12_number_36 (by decide) ?_
        exact g_iret (pc := 37) hc dX12_number_37 (by rw [mvh, if_pos (show q.1 < q.2.1 by omega), if_neg (by rw [allB_f (i := k) c3 lhkn]; decide)]) (rfl)
  exact g_eq (ws' := mw E ad sc ar la) (lv' := [(0, .ref (ad 0)), (1, .int (mva (ar 11) q.1 (0))), (2, .int (nI (q.1 + (0))))]) (rfl) (rfl) rfl (L7_1 ((q.2.1 - q.1) - 0) (0) (by omega) (fun k hk => absurd hk (Nat.not_lt_zero k)))
