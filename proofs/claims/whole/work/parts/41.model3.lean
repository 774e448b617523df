theorem dX12_found_0 : decode cX12_found 0 = .ok (.iconst 0, 1) := by decide +kernel
theorem dX12_found_1 : decode cX12_found 1 = .ok (.istore_n 3, 1) := by decide +kernel
theorem dX12_found_2 : decode cX12_found 2 = .ok (.iconst 0, 1) := by decide +kernel
theorem dX12_found_3 : decode cX12_found 3 = .ok (.istore 4, 2) := by decide +kernel
theorem dX12_found_5 : decode cX12_found 5 = .ok (.iload 4, 2) := by decide +kernel
theorem dX12_found_7 : decode cX12_found 7 = .ok (.aload_n 0, 1) := by decide +kernel
theorem dX12_found_8 : decode cX12_found 8 = .ok (.getfield 121, 3) := by decide +kernel
theorem dX12_found_11 : decode cX12_found 11 = .ok (.if_icmp .ge 54, 3) := by decide +kernel
theorem dX12_found_14 : decode cX12_found 14 = .ok (.iload_n 3, 1) := by decide +kernel
theorem dX12_found_15 : decode cX12_found 15 = .ok (.aload_n 0, 1) := by decide +kernel
theorem dX12_found_16 : decode cX12_found 16 = .ok (.getfield 29, 3) := by decide +kernel
theorem dX12_found_19 : decode cX12_found 19 = .ok (.iload 4, 2) := by decide +kernel
theorem dX12_found_21 : decode cX12_found 21 = .ok (.iaload, 1) := by decide +kernel
theorem dX12_found_22 : decode cX12_found 22 = .ok (.iload_n 1, 1) := by decide +kernel
theorem dX12_found_23 : decode cX12_found 23 = .ok (.if_icmp .ne 33, 3) := by decide +kernel
theorem dX12_found_26 : decode cX12_found 26 = .ok (.iload_n 2, 1) := by decide +kernel
theorem dX12_found_27 : decode cX12_found 27 = .ok (.ifCond .ne 19, 3) := by decide +kernel
theorem dX12_found_30 : decode cX12_found 30 = .ok (.aload_n 0, 1) := by decide +kernel
theorem dX12_found_31 : decode cX12_found 31 = .ok (.getfield 16, 3) := by decide +kernel
theorem dX12_found_34 : decode cX12_found 34 = .ok (.aload_n 0, 1) := by decide +kernel
theorem dX12_found_35 : decode cX12_found 35 = .ok (.getfield 35, 3) := by decide +kernel
theorem dX12_found_38 : decode cX12_found 38 = .ok (.iload 4, 2) := by decide +kernel
theorem dX12_found_40 : decode cX12_found 40 = .ok (.iaload, 1) := by decide +kernel
theorem dX12_found_41 : decode cX12_found 41 = .ok (.iaload, 1) := by decide +kernel
theorem dX12_found_42 : decode cX12_found 42 = .ok (.iconst 1, 1) := by decide +kernel
theorem dX12_found_43 : decode cX12_found 43 = .ok (.if_icmp .eq 13, 3) := by decide +kernel
theorem dX12_found_46 : decode cX12_found 46 = .ok (.aload_n 0, 1) := by decide +kernel
theorem dX12_found_47 : decode cX12_found 47 = .ok (.getfield 38, 3) := by decide +kernel
theorem dX12_found_50 : decode cX12_found 50 = .ok (.iload 4, 2) := by decide +kernel
theorem dX12_found_52 : decode cX12_found 52 = .ok (.iaload, 1) := by decide +kernel
theorem dX12_found_53 : decode cX12_found 53 = .ok (.goto 4, 3) := by decide +kernel
theorem dX12_found_56 : decode cX12_found 56 = .ok (.iconst 0, 1) := by decide +kernel
theorem dX12_found_57 : decode cX12_found 57 = .ok (.iadd, 1) := by decide +kernel
theorem dX12_found_58 : decode cX12_found 58 = .ok (.istore_n 3, 1) := by decide +kernel
theorem dX12_found_59 : decode cX12_found 59 = .ok (.iinc 4 1, 3) := by decide +kernel
theorem dX12_found_62 : decode cX12_found 62 = .ok (.goto (-57), 3) := by decide +kernel
theorem dX12_found_65 : decode cX12_found 65 = .ok (.iload_n 3, 1) := by decide +kernel
theorem dX12_found_66 : decode cX12_found 66 = .ok (.ireturn, 1) := by decide +kernel

set_option maxHeartbeats 4000000 in
set_option maxRecDepth 100000 in
theorem c_X12_found1 (l : Launch) (E : Ev) {A : Nat → Prop} (ad : Nat → Nat) (hA : Oka 30 ad A) (sc : Nat → Int32) (ar : Nat → Nat → Int32) (la : Nat → Int64) {nF : Nat} (x : Int32) (hF : sc 4 = nI nF) (hF200 : nF ≤ 200) : Ct l E yX12_found (.code yX12_found cX12_found 5 (some .int)) ({ frames := 0, cells := 0, slots := 0, locals := 0 }) A (mw E ad sc ar la) [.ref (ad 0), .int x, .int (nI 1)] (some (.int (fnd (ar 5) (ar 8) x nF))) (mw E ad sc ar la) := by
  refine Ct.of (lv := [(0, .ref (ad 0)), (1, .int x), (2, .int (nI 1))]) (by decide +kernel) (Nat.le_of_ble_eq_true rfl) rfl ?_
  intro zp ze zs zm za zb zh zc hc
  refine g_iconst (pc := 0) (v := nI 0) hc dX12_found_0 (by decide) ?_
  refine g_istore_n (pc := 1) (lv' := [(0, .ref (ad 0)), (1, .int x), (2, .int (nI 1)), (3, .int (nI 0))]) hc dX12_found_1 rfl (by decide) rfl ?_
  refine g_iconst (pc := 2) (v := nI 0) hc dX12_found_2 (by decide) ?_
  refine g_istore (pc := 3) (lv' := [(0, .ref (ad 0)), (1, .int x), (2, .int (nI 1)), (3, .int (nI 0)), (4, .int (nI 0))]) hc dX12_found_3 (by decide) rfl ?_
  have L5_1 : ∀ (ki i : Nat), i + ki = nF → G zp l ze ({ frames := 0, cells := 0, slots := 0, locals := 0 }) zs zm za zb zh zc 0 0 (MQ zb (Qz E A (some (.int (fnd (ar 5) (ar 8) x nF))) (mw E ad sc ar la)) za zs 0 0 A) E A 5 (mw E ad sc ar la) (5) [(0, .ref (ad 0)), (1, .int x), (2, .int (nI 1)), (3, .int (fnd (ar 5) (ar 8) x (i))), (4, .int (nI (i)))] [] := by
    intro ki
    induction ki with
    | zero =>
      intro i lhi
      have lhin : nF = i := by omega
      subst lhin
      refine g_iload (pc := 5) hc 4 dX12_found_5 rfl ?_
      refine g_aload_n (pc := 7) hc 0 dX12_found_7 rfl rfl ?_
      refine gf_m0_finds (pc := 8) hc tw_1009 dX12_found_8 ?_
      refine g_topi (v := nI nF) (hF) ?_
      refine g_icmp_ge_t (pc := 11) hc 65 dX12_found_11 (by decide) (nI_le (by omega) (by omega)) ?_
      refine g_iload_n (pc := 65) hc 3 dX12_found_65 rfl rfl ?_
      exact g_iret (pc := 66) hc dX12_found_66 (rfl) (rfl)
    | succ ki ihi =>
      intro i lhi
      have lhin : i < nF := by omega
      refine g_iload (pc := 5) hc 4 dX12_found_5 rfl ?_
      refine g_aload_n (pc := 7) hc 0 dX12_found_7 rfl rfl ?_
      refine gf_m0_finds (pc := 8) hc tw_1009 dX12_found_8 ?_
      refine g_topi (v := nI nF) (hF) ?_
      refine g_icmp_ge_f (pc := 11) hc 65 dX12_found_11 (by decide) (nI_ge (by omega) (by omega)) ?_
      refine g_iload_n (pc := 14) hc 3 dX12_found_14 rfl rfl ?_
      refine g_aload_n (pc := 15) hc 0 dX12_found_15 rfl rfl ?_
      refine gf_m0_fWalk (pc := 16) hc tw_1010 dX12_found_16 ?_
      refine g_iload (pc := 19) hc 4 dX12_found_19 rfl ?_
      refine la_m5 (pc := 21) hc (i) (rfl) (by omega) dX12_found_21 ?_
      refine g_iload_n (pc := 22) hc 1 dX12_found_22 rfl rfl ?_
      refine g_icmp_ne (pc := 23) hc 56 dX12_found_23 (by decide) (fun c2 => ?_) (fun c2 => ?_)
      · refine g_iconst (pc := 56) (v := nI 0) hc dX12_found_56 (by decide) ?_
        refine g_iadd (pc := 57) hc dX12_found_57 ?_
        refine g_istore_n (pc := 58) (lv' := [(0, .ref (ad 0)), (1, .int x), (2, .int (nI 1)), (3, .int ((fnd (ar 5) (ar 8) x (i)) + (nI 0))), (4, .int (nI (i)))]) hc dX12_found_58 rfl (by decide) rfl ?_
        refine g_iinc (pc := 59) (v := nI (i + 1)) (lv' := [(0, .ref (ad 0)), (1, .int x), (2, .int (nI 1)), (3, .int ((fnd (ar 5) (ar 8) x (i)) + (nI 0))), (4, .int (nI (i + 1)))]) hc 4 dX12_found_59 rfl (nI_ofi i 1) (by decide) rfl ?_
        refine g_goto (pc := 62) hc 5 dX12_found_62 (by decide) ?_
        exact g_eq (ws' := mw E ad sc ar la) (lv' := [(0, .ref (ad 0)), (1, .int x), (2, .int (nI 1)), (3, .int (fnd (ar 5) (ar 8) x (i + 1))), (4, .int (nI (i + 1)))]) (rfl) (by rw [fnd_succ]; repeat (first | rw [if_pos c2] | rw [if_neg c2] | rw [if_neg (ne_true_of_eq_false c2)])) rfl (ihi (i + 1) (by omega))
      · refine g_iload_n (pc := 26) hc 2 dX12_found_26 rfl rfl ?_
        refine g_if_ne_t (pc := 27) hc 46 dX12_found_27 (by decide) (by decide) ?_
        refine g_aload_n (pc := 46) hc 0 dX12_found_46 rfl rfl ?_
        refine gf_m0_fMany (pc := 47) hc tw_1013 dX12_found_47 ?_
        refine g_iload (pc := 50) hc 4 dX12_found_50 rfl ?_
        refine la_m8 (pc := 52) hc (i) (rfl) (by omega) dX12_found_52 ?_
        refine g_goto (pc := 53) hc 57 dX12_found_53 (by decide) ?_
        refine g_iadd (pc := 57) hc dX12_found_57 ?_
        refine g_istore_n (pc := 58) (lv' := [(0, .ref (ad 0)), (1, .int x), (2, .int (nI 1)), (3, .int ((fnd (ar 5) (ar 8) x (i)) + ((ar 8) i))), (4, .int (nI (i)))]) hc dX12_found_58 rfl (by decide) rfl ?_
        refine g_iinc (pc := 59) (v := nI (i + 1)) (lv' := [(0, .ref (ad 0)), (1, .int x), (2, .int (nI 1)), (3, .int ((fnd (ar 5) (ar 8) x (i)) + ((ar 8) i))), (4, .int (nI (i + 1)))]) hc 4 dX12_found_59 rfl (nI_ofi i 1) (by decide) rfl ?_
        refine g_goto (pc := 62) hc 5 dX12_found_62 (by decide) ?_
        exact g_eq (ws' := mw E ad sc ar la) (lv' := [(0, .ref (ad 0)), (1, .int x), (2, .int (nI 1)), (3, .int (fnd (ar 5) (ar 8) x (i + 1))), (4, .int (nI (i + 1)))]) (rfl) (by rw [fnd_succ]; repeat (first | rw [if_pos c2] | rw [if_neg c2] | rw [if_neg (ne_true_of_eq_false c2)])) rfl (ihi (i + 1) (by omega))
  exact g_eq (ws' := mw E ad sc ar la) (lv' := [(0, .ref (ad 0)), (1, .int x), (2, .int (nI 1)), (3, .int (fnd (ar 5) (ar 8) x (0))), (4, .int (nI (0)))]) (rfl) (rfl) rfl (L5_1 (nF - 0) (0) (by omega))

set_option maxHeartbeats 4000000 in
set_option maxRecDepth 100000 in
theorem c_X12_found0 (l : Launch) (E : Ev) {A : Nat → Prop} (ad : Nat → Nat) (hA : Oka 30 ad A) (sc : Nat → Int32) (ar : Nat → Nat → Int32) (la : Nat → Int64) {nF : Nat} (x : Int32) (hF : sc 4 = nI nF) (hF200 : nF ≤ 200) (hK4 : ∀ f, f < nF → ∃ k, k < 4 ∧ ar 7 f = nI k) : Ct l E yX12_found (.code yX12_found cX12_found 5 (some .int)) ({ frames := 0, cells := 0, slots := 0, locals := 0 }) A (mw E ad sc ar la) [.ref (ad 0), .int x, .int (nI 0)] (some (.int (fns (ar 1) (ar 5) (ar 7) (ar 8) x nF))) (mw E ad sc ar la) := by
  refine Ct.of (lv := [(0, .ref (ad 0)), (1, .int x), (2, .int (nI 0))]) (by decide +kernel) (Nat.le_of_ble_eq_true rfl) rfl ?_
  intro zp ze zs zm za zb zh zc hc
  refine g_iconst (pc := 0) (v := nI 0) hc dX12_found_0 (by decide) ?_
  refine g_istore_n (pc := 1) (lv' := [(0, .ref (ad 0)), (1, .int x), (2, .int (nI 0)), (3, .int (nI 0))]) hc dX12_found_1 rfl (by decide) rfl ?_
  refine g_iconst (pc := 2) (v := nI 0) hc dX12_found_2 (by decide) ?_
  refine g_istore (pc := 3) (lv' := [(0, .ref (ad 0)), (1, .int x), (2, .int (nI 0)), (3, .int (nI 0)), (4, .int (nI 0))]) hc dX12_found_3 (by decide) rfl ?_
  have L5_1 : ∀ (ki i : Nat), i + ki = nF → G zp l ze ({ frames := 0, cells := 0, slots := 0, locals := 0 }) zs zm za zb zh zc 0 0 (MQ zb (Qz E A (some (.int (fns (ar 1) (ar 5) (ar 7) (ar 8) x nF))) (mw E ad sc ar la)) za zs 0 0 A) E A 5 (mw E ad sc ar la) (5) [(0, .ref (ad 0)), (1, .int x), (2, .int (nI 0)), (3, .int (fns (ar 1) (ar 5) (ar 7) (ar 8) x (i))), (4, .int (nI (i)))] [] := by
    intro ki
    induction ki with
    | zero =>
      intro i lhi
      have lhin : nF = i := by omega
      subst lhin
      refine g_iload (pc := 5) hc 4 dX12_found_5 rfl ?_
      refine g_aload_n (pc := 7) hc 0 dX12_found_7 rfl rfl ?_
      refine gf_m0_finds (pc := 8) hc tw_1009 dX12_found_8 ?_
      refine g_topi (v := nI nF) (hF) ?_
      refine g_icmp_ge_t (pc := 11) hc 65 dX12_found_11 (by decide) (nI_le (by omega) (by omega)) ?_
      refine g_iload_n (pc := 65) hc 3 dX12_found_65 rfl rfl ?_
      exact g_iret (pc := 66) hc dX12_found_66 (rfl) (rfl)
    | succ ki ihi =>
      intro i lhi
      have lhin : i < nF := by omega
      refine g_iload (pc := 5) hc 4 dX12_found_5 rfl ?_
      refine g_aload_n (pc := 7) hc 0 dX12_found_7 rfl rfl ?_
      refine gf_m0_finds (pc := 8) hc tw_1009 dX12_found_8 ?_
      refine g_topi (v := nI nF) (hF) ?_
      refine g_icmp_ge_f (pc := 11) hc 65 dX12_found_11 (by decide) (nI_ge (by omega) (by omega)) ?_
      refine g_iload_n (pc := 14) hc 3 dX12_found_14 rfl rfl ?_
      refine g_aload_n (pc := 15) hc 0 dX12_found_15 rfl rfl ?_
      refine gf_m0_fWalk (pc := 16) hc tw_1010 dX12_found_16 ?_
      refine g_iload (pc := 19) hc 4 dX12_found_19 rfl ?_
      refine la_m5 (pc := 21) hc (i) (rfl) (by omega) dX12_found_21 ?_
      refine g_iload_n (pc := 22) hc 1 dX12_found_22 rfl rfl ?_
      refine g_icmp_ne (pc := 23) hc 56 dX12_found_23 (by decide) (fun c2 => ?_) (fun c2 => ?_)
      · refine g_iconst (pc := 56) (v := nI 0) hc dX12_found_56 (by decide) ?_
        refine g_iadd (pc := 57) hc dX12_found_57 ?_
        refine g_istore_n (pc := 58) (lv' := [(0, .ref (ad 0)), (1, .int x), (2, .int (nI 0)), (3, .int ((fns (ar 1) (ar 5) (ar 7) (ar 8) x (i)) + (nI 0))), (4, .int (nI (i)))]) hc dX12_found_58 rfl (by decide) rfl ?_
        refine g_iinc (pc := 59) (v := nI (i + 1)) (lv' := [(0, .ref (ad 0)), (1, .int x), (2, .int (nI 0)), (3, .int ((fns (ar 1) (ar 5) (ar 7) (ar 8) x (i)) + (nI 0))), (4, .int (nI (i + 1)))]) hc 4 dX12_found_59 rfl (nI_ofi i 1) (by decide) rfl ?_
        refine g_goto (pc := 62) hc 5 dX12_found_62 (by decide) ?_
        exact g_eq (ws' := mw E ad sc ar la) (lv' := [(0, .ref (ad 0)), (1, .int x), (2, .int (nI 0)), (3, .int (fns (ar 1) (ar 5) (ar 7) (ar 8) x (i + 1))), (4, .int (nI (i + 1)))]) (rfl) (by rw [fns_succ]; repeat (first | rw [if_pos c2] | rw [if_neg c2] | rw [if_neg (ne_true_of_eq_false c2)])) rfl (ihi (i + 1) (by omega))
      · refine g_iload_n (pc := 26) hc 2 dX12_found_26 rfl rfl ?_
        refine g_if_ne_f (pc := 27) hc 46 dX12_found_27 (by decide) (by decide) ?_
        refine g_aload_n (pc := 30) hc 0 dX12_found_30 rfl rfl ?_
        refine gf_m0_sorts (pc := 31) hc tw_1003 dX12_found_31 ?_
        refine g_aload_n (pc := 34) hc 0 dX12_found_34 rfl rfl ?_
        refine gf_m0_fKind (pc := 35) hc tw_1012 dX12_found_35 ?_
        refine g_iload (pc := 38) hc 4 dX12_found_38 rfl ?_
        refine la_m7 (pc := 40) hc (i) (rfl) (by omega) dX12_found_40 ?_
        refine g_topi (v := nI (tn (ar 7 i))) ((tn_lt (hK4 i (by omega)) (by decide)).1) ?_
        refine la_m1 (pc := 41) hc (tn (ar 7 i)) (rfl) ((tn_lt (hK4 i (by omega)) (by decide)).2) dX12_found_41 ?_
        refine g_iconst (pc := 42) (v := nI 1) hc dX12_found_42 (by decide) ?_
        refine g_icmp_eq (pc := 43) hc 56 dX12_found_43 (by decide) (fun c3 => ?_) (fun c3 => ?_)
        · refine g_iconst (pc := 56) (v := nI 0) hc dX12_found_56 (by decide) ?_
          refine g_iadd (pc := 57) hc dX12_found_57 ?_
          refine g_istore_n (pc := 58) (lv' := [(0, .ref (ad 0)), (1, .int x), (2, .int (nI 0)), (3, .int ((fns (ar 1) (ar 5) (ar 7) (ar 8) x (i)) + (nI 0))), (4, .int (nI (i)))]) hc dX12_found_58 rfl (by decide) rfl ?_
          refine g_iinc (pc := 59) (v := nI (i + 1)) (lv' := [(0, .ref (ad 0)), (1, .int x), (2, .int (nI 0)), (3, .int ((fns (ar 1) (ar 5) (ar 7) (ar 8) x (i)) + (nI 0))), (4, .int (nI (i + 1)))]) hc 4 dX12_found_59 rfl (nI_ofi i 1) (by decide) rfl ?_
          refine g_goto (pc := 62) hc 5 dX12_found_62 (by decide) ?_
          exact g_eq (ws' := mw E ad sc ar la) (lv' := [(0, .ref (ad 0)), (1, .int x), (2, .int (nI 0)), (3, .int (fns (ar 1) (ar 5) (ar 7) (ar 8) x (i + 1))), (4, .int (nI (i + 1)))]) (rfl) (by rw [fns_succ]; repeat (first | rw [if_pos c2] | rw [if_neg c2] | rw [if_neg (ne_true_of_eq_false c2)] | rw [if_pos c3] | rw [if_neg c3] | rw [if_neg (ne_true_of_eq_false c3)])) rfl (ihi (i + 1) (by omega))
        · refine g_aload_n (pc := 46) hc 0 dX12_found_46 rfl rfl ?_
          refine gf_m0_fMany (pc := 47) hc tw_1013 dX12_found_47 ?_
          refine g_iload (pc := 50) hc 4 dX12_found_50 rfl ?_
          refine la_m8 (pc := 52) hc (i) (rfl) (by omega) dX12_found_52 ?_
          refine g_goto (pc := 53) hc 57 dX12_found_53 (by decide) ?_
          refine g_iadd (pc := 57) hc dX12_found_57 ?_
          refine g_istore_n (pc := 58) (lv' := [(0, .ref (ad 0)), (1, .int x), (2, .int (nI 0)), (3, .int ((fns (ar 1) (ar 5) (ar 7) (ar 8) x (i)) + ((ar 8) i))), (4, .int (nI (i)))]) hc dX12_found_58 rfl (by decide) rfl ?_
          refine g_iinc (pc := 59) (v := nI (i + 1)) (lv' := [(0, .ref (ad 0)), (1, .int x), (2, .int (nI 0)), (3, .int ((fns (ar 1) (ar 5) (ar 7) (ar 8) x (i)) + ((ar 8) i))), (4, .int (nI (i + 1)))]) hc 4 dX12_found_59 rfl (nI_ofi i 1) (by decide) rfl ?_
          refine g_goto (pc := 62) hc 5 dX12_found_62 (by decide) ?_
          exact g_eq (ws' := mw E ad sc ar la) (lv' := [(0, .ref (ad 0)), (1, .int x), (2, .int (nI 0)), (3, .int (fns (ar 1) (ar 5) (ar 7) (ar 8) x (i + 1))), (4, .int (nI (i + 1)))]) (rfl) (by rw [fns_succ]; repeat (first | rw [if_pos c2] | rw [if_neg c2] | rw [if_neg (ne_true_of_eq_false c2)] | rw [if_pos c3] | rw [if_neg c3] | rw [if_neg (ne_true_of_eq_false c3)])) rfl (ihi (i + 1) (by omega))
  exact g_eq (ws' := mw E ad sc ar la) (lv' := [(0, .ref (ad 0)), (1, .int x), (2, .int (nI 0)), (3, .int (fns (ar 1) (ar 5) (ar 7) (ar 8) x (0))), (4, .int (nI (0)))]) (rfl) (rfl) rfl (L5_1 (nF - 0) (0) (by omega))

theorem dX12_walkOf_0 : decode cX12_walkOf 0 = .ok (.iconst (-1), 1) := by decide +kernel
theorem dX12_walkOf_1 : decode cX12_walkOf 1 = .ok (.istore_n 2, 1) := by decide +kernel
theorem dX12_walkOf_2 : decode cX12_walkOf 2 = .ok (.iconst (-1), 1) := by decide +kernel
theorem dX12_walkOf_3 : decode cX12_walkOf 3 = .ok (.istore_n 3, 1) := by decide +kernel
theorem dX12_walkOf_4 : decode cX12_walkOf 4 = .ok (.iconst 0, 1) := by decide +kernel
theorem dX12_walkOf_5 : decode cX12_walkOf 5 = .ok (.istore 4, 2) := by decide +kernel
theorem dX12_walkOf_7 : decode cX12_walkOf 7 = .ok (.iload 4, 2) := by decide +kernel
theorem dX12_walkOf_9 : decode cX12_walkOf 9 = .ok (.aload_n 0, 1) := by decide +kernel
theorem dX12_walkOf_10 : decode cX12_walkOf 10 = .ok (.getfield 117, 3) := by decide +kernel
theorem dX12_walkOf_13 : decode cX12_walkOf 13 = .ok (.if_icmp .ge 41, 3) := by decide +kernel
theorem dX12_walkOf_16 : decode cX12_walkOf 16 = .ok (.aload_n 0, 1) := by decide +kernel
theorem dX12_walkOf_17 : decode cX12_walkOf 17 = .ok (.getfield 23, 3) := by decide +kernel
theorem dX12_walkOf_20 : decode cX12_walkOf 20 = .ok (.iload 4, 2) := by decide +kernel
theorem dX12_walkOf_22 : decode cX12_walkOf 22 = .ok (.iaload, 1) := by decide +kernel
theorem dX12_walkOf_23 : decode cX12_walkOf 23 = .ok (.iload_n 1, 1) := by decide +kernel
theorem dX12_walkOf_24 : decode cX12_walkOf 24 = .ok (.if_icmp .ne 24, 3) := by decide +kernel
theorem dX12_walkOf_27 : decode cX12_walkOf 27 = .ok (.aload_n 0, 1) := by decide +kernel
theorem dX12_walkOf_28 : decode cX12_walkOf 28 = .ok (.iload 4, 2) := by decide +kernel
theorem dX12_walkOf_30 : decode cX12_walkOf 30 = .ok (.iconst 1, 1) := by decide +kernel
theorem dX12_walkOf_31 : decode cX12_walkOf 31 = .ok (.invokevirtual 157, 3) := by decide +kernel
theorem dX12_walkOf_34 : decode cX12_walkOf 34 = .ok (.istore 5, 2) := by decide +kernel
theorem dX12_walkOf_36 : decode cX12_walkOf 36 = .ok (.iload 5, 2) := by decide +kernel
theorem dX12_walkOf_38 : decode cX12_walkOf 38 = .ok (.iload_n 3, 1) := by decide +kernel
theorem dX12_walkOf_39 : decode cX12_walkOf 39 = .ok (.if_icmp .le 9, 3) := by decide +kernel
theorem dX12_walkOf_42 : decode cX12_walkOf 42 = .ok (.iload 5, 2) := by decide +kernel
theorem dX12_walkOf_44 : decode cX12_walkOf 44 = .ok (.istore_n 3, 1) := by decide +kernel
theorem dX12_walkOf_45 : decode cX12_walkOf 45 = .ok (.iload 4, 2) := by decide +kernel
theorem dX12_walkOf_47 : decode cX12_walkOf 47 = .ok (.istore_n 2, 1) := by decide +kernel
theorem dX12_walkOf_48 : decode cX12_walkOf 48 = .ok (.iinc 4 1, 3) := by decide +kernel
theorem dX12_walkOf_51 : decode cX12_walkOf 51 = .ok (.goto (-44), 3) := by decide +kernel
theorem dX12_walkOf_54 : decode cX12_walkOf 54 = .ok (.iload_n 2, 1) := by decide +kernel
theorem dX12_walkOf_55 : decode cX12_walkOf 55 = .ok (.ireturn, 1) := by decide +kernel

set_option maxHeartbeats 4000000 in
set_option maxRecDepth 100000 in
theorem c_X12_walkOf (l : Launch) (E : Ev) {A : Nat → Prop} (ad : Nat → Nat) (hA : Oka 30 ad A) (sc : Nat → Int32) (ar : Nat → Nat → Int32) (la : Nat → Int64) {nW nF : Nat} (r : Int32) (hW : sc 3 = nI nW) (hW60 : nW ≤ 60) (hF : sc 4 = nI nF) (hF200 : nF ≤ 200) : Ct l E yX12_walkOf (.code yX12_walkOf cX12_walkOf 6 (some .int)) ({ frames := 1, cells := 0, slots := 0, locals := 24 }) A (mw E ad sc ar la) [.ref (ad 0), .int r] (some (.int (mtl nW nF (ar 3) (ar 5) (ar 8) r))) (mw E ad sc ar la) := by
  refine Ct.of (lv := [(0, .ref (ad 0)), (1, .int r)]) (by decide +kernel) (Nat.le_of_ble_eq_true rfl) rfl ?_
  intro zp ze zs zm za zb zh zc hc
  refine g_iconst (pc := 0) (v := (-1)) hc dX12_walkOf_0 (by decide) ?_
  refine g_istore_n (pc := 1) (lv' := [(0, .ref (ad 0)), (1, .int r), (2, .int (-1))]) hc dX12_walkOf_1 rfl (by decide) rfl ?_
  refine g_iconst (pc := 2) (v := (-1)) hc dX12_walkOf_2 (by decide) ?_
  refine g_istore_n (pc := 3) (lv' := [(0, .ref (ad 0)), (1, .int r), (2, .int (-1)), (3, .int (-1))]) hc dX12_walkOf_3 rfl (by decide) rfl ?_
  refine g_iconst (pc := 4) (v := nI 0) hc dX12_walkOf_4 (by decide) ?_
  refine g_istore (pc := 5) (lv' := [(0, .ref (ad 0)), (1, .int r), (2, .int (-1)), (3, .int (-1)), (4, .int (nI 0))]) hc dX12_walkOf_5 (by decide) rfl ?_
  have L7_1 : ∀ (ki i : Nat), i + ki = nW → G zp l ze ({ frames := 1, cells := 0, slots := 0, locals := 24 }) zs zm za zb zh zc 0 0 (MQ zb (Qz E A (some (.int (mtl nW nF (ar 3) (ar 5) (ar 8) r))) (mw E ad sc ar la)) za zs 0 0 A) E A 6 (mw E ad sc ar la) (7) [(0, .ref (ad 0)), (1, .int r), (2, .int (tel (i) (ar 3) (fun i => fnd (ar 5) (ar 8) (nI i) nF) r).1), (3, .int (tel (i) (ar 3) (fun i => fnd (ar 5) (ar 8) (nI i) nF) r).2), (4, .int (nI (i)))] [] := by
    intro ki
    induction ki with
    | zero =>
      intro i lhi
      have lhin : nW = i := by omega
      subst lhin
      refine g_iload (pc := 7) hc 4 dX12_walkOf_7 rfl ?_
      refine g_aload_n (pc := 9) hc 0 dX12_walkOf_9 rfl rfl ?_
      refine gf_m0_walks (pc := 10) hc tw_1005 dX12_walkOf_10 ?_
      refine g_topi (v := nI nW) (hW) ?_
      refine g_icmp_ge_t (pc := 13) hc 54 dX12_walkOf_13 (by decide) (nI_le (by omega) (by omega)) ?_
      refine g_iload_n (pc := 54) hc 2 dX12_walkOf_54 rfl rfl ?_
      exact g_iret (pc := 55) hc dX12_walkOf_55 (rfl) (rfl)
    | succ ki ihi =>
      intro i lhi
      have lhin : i < nW := by omega
      refine g_iload (pc := 7) hc 4 dX12_walkOf_7 rfl ?_
      refine g_aload_n (pc := 9) hc 0 dX12_walkOf_9 rfl rfl ?_
      refine gf_m0_walks (pc := 10) hc tw_1005 dX12_walkOf_10 ?_
      refine g_topi (v := nI nW) (hW) ?_
      refine g_icmp_ge_f (pc := 13) hc 54 dX12_walkOf_13 (by decide) (nI_ge (by omega) (by omega)) ?_
      refine g_aload_n (pc := 16) hc 0 dX12_walkOf_16 rfl rfl ?_
      refine gf_m0_rowOf (pc := 17) hc tw_1007 dX12_walkOf_17 ?_
      refine g_iload (pc := 20) hc 4 dX12_walkOf_20 rfl ?_
      refine la_m3 (pc := 22) hc (i) (rfl) (by omega) dX12_walkOf_22 ?_
      refine g_iload_n (pc := 23) hc 1 dX12_walkOf_23 rfl rfl ?_
      refine g_icmp_ne (pc := 24) hc 48 dX12_walkOf_24 (by decide) (fun c2 => ?_) (fun c2 => ?_)
      · refine g_iinc (pc := 48) (v := nI (i + 1)) (lv' := [(0, .ref (ad 0)), (1, .int r), (2, .int (tel (i) (ar 3) (fun i => fnd (ar 5) (ar 8) (nI i) nF) r).1), (3, .int (tel (i) (ar 3) (fun i => fnd (ar 5) (ar 8) (nI i) nF) r).2), (4, .int (nI (i + 1)))]) hc 4 dX12_walkOf_48 rfl (nI_ofi i 1) (by decide) rfl ?_
        refine g_goto (pc := 51) hc 7 dX12_walkOf_51 (by decide) ?_
        exact g_eq (ws' := mw E ad sc ar la) (lv' := [(0, .ref (ad 0)), (1, .int r), (2, .int (tel (i + 1) (ar 3) (fun i => fnd (ar 5) (ar 8) (nI i) nF) r).1), (3, .int (tel (i + 1) (ar 3) (fun i => fnd (ar 5) (ar 8) (nI i) nF) r).2), (4, .int (nI (i + 1)))]) (rfl) (by rw [tel_succ]; repeat (first | rw [if_pos c2] | rw [if_neg c2] | rw [if_neg (ne_true_of_eq_false c2)])) rfl (ihi (i + 1) (by omega))
      · refine g_aload_n (pc := 27) hc 0 dX12_walkOf_27 rfl rfl ?_
        refine g_iload (pc := 28) hc 4 dX12_walkOf_28 rfl ?_
        refine g_iconst (pc := 30) (v := nI 1) hc dX12_walkOf_30 (by decide) ?_
        refine g_callVi (pc := 31) (rest := []) (As := [.int (nI (i)), .int (nI 1)]) hc (c_X12_found1 l E ad hA sc ar la (nI (i)) hF hF200) mi_X12_found tw_1193 0 rfl rfl rfl rfl ⟨rfl, rfl, by decide, by decide⟩ (Nat.le_of_ble_eq_true rfl) ⟨Nat.le_refl _, Nat.le_refl _⟩ rfl dX12_walkOf_31 ?_
        refine g_istore (pc := 34) (lv' := [(0, .ref (ad 0)), (1, .int r), (2, .int (tel (i) (ar 3) (fun i => fnd (ar 5) (ar 8) (nI i) nF) r).1), (3, .int (tel (i) (ar 3) (fun i => fnd (ar 5) (ar 8) (nI i) nF) r).2), (4, .int (nI (i))), (5, .int (fnd (ar 5) (ar 8) (nI (i)) nF))]) hc dX12_walkOf_34 (by decide) rfl ?_
        refine g_iload (pc := 36) hc 5 dX12_walkOf_36 rfl ?_
        refine g_iload_n (pc := 38) hc 3 dX12_walkOf_38 rfl rfl ?_
        refine g_icmp_le (pc := 39) hc 48 dX12_walkOf_39 (by decide) (fun c3 => ?_) (fun c3 => ?_)
        · refine g_iinc (pc := 48) (v := nI (i + 1)) (lv' := [(0, .ref (ad 0)), (1, .int r), (2, .int (tel (i) (ar 3) (fun i => fnd (ar 5) (ar 8) (nI i) nF) r).1), (3, .int (tel (i) (ar 3) (fun i => fnd (ar 5) (ar 8) (nI i) nF) r).2), (4, .int (nI (i + 1))), (5, .int (fnd (ar 5) (ar 8) (nI (i)) nF))]) hc 4 dX12_walkOf_48 rfl (nI_ofi i 1) (by decide) rfl ?_
          refine g_goto (pc := 51) hc 7 dX12_walkOf_51 (by decide) ?_
          refine g_lv [0, 1, 2, 3, 4] (lv' := [(0, .ref (ad 0)), (1, .int r), (2, .int (tel (i) (ar 3) (fun i => fnd (ar 5) (ar 8) (nI i) nF) r).1), (3, .int (tel (i) (ar 3) (fun i => fnd (ar 5) (ar 8) (nI i) nF) r).2), (4, .int (nI (i + 1)))]) rfl ?_
          exact g_eq (ws' := mw E ad sc ar la) (lv' := [(0, .ref (ad 0)), (1, .int r), (2, .int (tel (i + 1) (ar 3) (fun i => fnd (ar 5) (ar 8) (nI i) nF) r).1), (3, .int (tel (i + 1) (ar 3) (fun i => fnd (ar 5) (ar 8) (nI i) nF) r).2), (4, .int (nI (i + 1)))]) (rfl) (by rw [tel_succ]; repeat (first | rw [if_pos c2] | rw [if_neg c2] | rw [if_neg (ne_true_of_eq_false c2)] | rw [if_pos c3] | rw [if_neg c3] | rw [if_neg (ne_true_of_eq_false c3)])) rfl (ihi (i + 1) (by omega))
        · refine g_iload (pc := 42) hc 5 dX12_walkOf_42 rfl ?_
          refine g_istore_n (pc := 44) (lv' := [(0, .ref (ad 0)), (1, .int r), (2, .int (tel (i) (ar 3) (fun i => fnd (ar 5) (ar 8) (nI i) nF) r).1), (3, .int (fnd (ar 5) (ar 8) (nI (i)) nF)), (4, .int (nI (i))), (5, .int (fnd (ar 5) (ar 8) (nI (i)) nF))]) hc dX12_walkOf_44 rfl (by decide) rfl ?_
          refine g_iload (pc := 45) hc 4 dX12_walkOf_45 rfl ?_
          refine g_istore_n (pc := 47) (lv' := [(0, .ref (ad 0)), (1, .int r), (2, .int (nI (i))), (3, .int (fnd (ar 5) (ar 8) (nI (i)) nF)), (4, .int (nI (i))), (5, .int (fnd (ar 5) (ar 8) (nI (i)) nF))]) hc dX12_walkOf_47 rfl (by decide) rfl ?_
          refine g_iinc (pc := 48) (v := nI (i + 1)) (lv' := [(0, .ref (ad 0)), (1, .int r), (2, .int (nI (i))), (3, .int (fnd (ar 5) (ar 8) (nI (i)) nF)), (4, .int (nI (i + 1))), (5, .int (fnd (ar 5) (ar 8) (nI (i)) nF))]) hc 4 dX12_walkOf_48 rfl (nI_ofi i 1) (by decide) rfl ?_
          refine g_goto (pc := 51) hc 7 dX12_walkOf_51 (by decide) ?_
          refine g_lv [0, 1, 2, 3, 4] (lv' := [(0, .ref (ad 0)), (1, .int r), (2, .int (nI (i))), (3, .int (fnd (ar 5) (ar 8) (nI (i)) nF)), (4, .int (nI (i + 1)))]) rfl ?_
          exact g_eq (ws' := mw E ad sc ar la) (lv' := [(0, .ref (ad 0)), (1, .int r), (2, .int (tel (i + 1) (ar 3) (fun i => fnd (ar 5) (ar 8) (nI i) nF) r).1), (3, .int (tel (i + 1) (ar 3) (fun i => fnd (ar 5) (ar 8) (nI i) nF) r).2), (4, .int (nI (i + 1)))]) (rfl) (by rw [tel_succ]; repeat (first | rw [if_pos c2] | rw [if_neg c2] | rw [if_neg (ne_true_of_eq_false c2)] | rw [if_pos c3] | rw [if_neg c3] | rw [if_neg (ne_true_of_eq_false c3)])) rfl (ihi (i + 1) (by omega))
  exact g_eq (ws' := mw E ad sc ar la) (lv' := [(0, .ref (ad 0)), (1, .int r), (2, .int (tel (0) (ar 3) (fun i => fnd (ar 5) (ar 8) (nI i) nF) r).1), (3, .int (tel (0) (ar 3) (fun i => fnd (ar 5) (ar 8) (nI i) nF) r).2), (4, .int (nI (0)))]) (rfl) (rfl) rfl (L7_1 (nW - 0) (0) (by omega))

theorem dX12_at_0 : decode cX12_at 0 = .ok (.iconst 0, 1) := by decide +kernel
theorem dX12_at_1 : decode cX12_at 1 = .ok (.istore 4, 2) := by decide +kernel
theorem dX12_at_3 : decode cX12_at 3 = .ok (.iconst 0, 1) := by decide +kernel
theorem dX12_at_4 : decode cX12_at 4 = .ok (.istore 5, 2) := by decide +kernel
theorem dX12_at_6 : decode cX12_at 6 = .ok (.iload 5, 2) := by decide +kernel
theorem dX12_at_8 : decode cX12_at 8 = .ok (.aload_n 0, 1) := by decide +kernel
theorem dX12_at_9 : decode cX12_at 9 = .ok (.getfield 121, 3) := by decide +kernel
theorem dX12_at_12 : decode cX12_at 12 = .ok (.if_icmp .ge 58, 3) := by decide +kernel
theorem dX12_at_15 : decode cX12_at 15 = .ok (.iload 4, 2) := by decide +kernel
theorem dX12_at_17 : decode cX12_at 17 = .ok (.aload_n 0, 1) := by decide +kernel
theorem dX12_at_18 : decode cX12_at 18 = .ok (.getfield 29, 3) := by decide +kernel
theorem dX12_at_21 : decode cX12_at 21 = .ok (.iload 5, 2) := by decide +kernel
theorem dX12_at_23 : decode cX12_at 23 = .ok (.iaload, 1) := by decide +kernel
theorem dX12_at_24 : decode cX12_at 24 = .ok (.iload_n 1, 1) := by decide +kernel
theorem dX12_at_25 : decode cX12_at 25 = .ok (.if_icmp .ne 35, 3) := by decide +kernel
theorem dX12_at_28 : decode cX12_at 28 = .ok (.aload_n 0, 1) := by decide +kernel
theorem dX12_at_29 : decode cX12_at 29 = .ok (.getfield 32, 3) := by decide +kernel
theorem dX12_at_32 : decode cX12_at 32 = .ok (.iload 5, 2) := by decide +kernel
theorem dX12_at_34 : decode cX12_at 34 = .ok (.iaload, 1) := by decide +kernel
theorem dX12_at_35 : decode cX12_at 35 = .ok (.iload_n 2, 1) := by decide +kernel
theorem dX12_at_36 : decode cX12_at 36 = .ok (.if_icmp .ne 24, 3) := by decide +kernel
theorem dX12_at_39 : decode cX12_at 39 = .ok (.aload_n 0, 1) := by decide +kernel
theorem dX12_at_40 : decode cX12_at 40 = .ok (.getfield 35, 3) := by decide +kernel
theorem dX12_at_43 : decode cX12_at 43 = .ok (.iload 5, 2) := by decide +kernel
theorem dX12_at_45 : decode cX12_at 45 = .ok (.iaload, 1) := by decide +kernel
theorem dX12_at_46 : decode cX12_at 46 = .ok (.iload_n 3, 1) := by decide +kernel
theorem dX12_at_47 : decode cX12_at 47 = .ok (.if_icmp .ne 13, 3) := by decide +kernel
theorem dX12_at_50 : decode cX12_at 50 = .ok (.aload_n 0, 1) := by decide +kernel
theorem dX12_at_51 : decode cX12_at 51 = .ok (.getfield 38, 3) := by decide +kernel
theorem dX12_at_54 : decode cX12_at 54 = .ok (.iload 5, 2) := by decide +kernel
theorem dX12_at_56 : decode cX12_at 56 = .ok (.iaload, 1) := by decide +kernel
theorem dX12_at_57 : decode cX12_at 57 = .ok (.goto 4, 3) := by decide +kernel
theorem dX12_at_60 : decode cX12_at 60 = .ok (.iconst 0, 1) := by decide +kernel
theorem dX12_at_61 : decode cX12_at 61 = .ok (.iadd, 1) := by decide +kernel
theorem dX12_at_62 : decode cX12_at 62 = .ok (.istore 4, 2) := by decide +kernel
theorem dX12_at_64 : decode cX12_at 64 = .ok (.iinc 5 1, 3) := by decide +kernel
theorem dX12_at_67 : decode cX12_at 67 = .ok (.goto (-61), 3) := by decide +kernel
theorem dX12_at_70 : decode cX12_at 70 = .ok (.iload 4, 2) := by decide +kernel
theorem dX12_at_72 : decode cX12_at 72 = .ok (.ireturn, 1) := by decide +kernel

set_option maxHeartbeats 4000000 in
set_option maxRecDepth 100000 in
theorem c_X12_at (l : Launch) (E : Ev) {A : Nat → Prop} (ad : Nat → Nat) (hA : Oka 30 ad A) (sc : Nat → Int32) (ar : Nat → Nat → Int32) (la : Nat → Int64) {nF : Nat} (x : Int32) (y : Int32) (z : Int32) (hF : sc 4 = nI nF) (hF200 : nF ≤ 200) : Ct l E yX12_at (.code yX12_at cX12_at 6 (some .int)) ({ frames := 0, cells := 0, slots := 0, locals := 0 }) A (mw E ad sc ar la) [.ref (ad 0), .int x, .int y, .int z] (some (.int (mat (ar 5) (ar 6) (ar 7) (ar 8) x y z nF))) (mw E ad sc ar la) := by
  refine Ct.of (lv := [(0, .ref (ad 0)), (1, .int x), (2, .int y), (3, .int z)]) (by decide +kernel) (Nat.le_of_ble_eq_true rfl) rfl ?_
  intro zp ze zs zm za zb zh zc hc
  refine g_iconst (pc := 0) (v := nI 0) hc dX12_at_0 (by decide) ?_
  refine g_istore (pc := 1) (lv' := [(0, .ref (ad 0)), (1, .int x), (2, .int y), (3, .int z), (4, .int (nI 0))]) hc dX12_at_1 (by decide) rfl ?_
  refine g_iconst (pc := 3) (v := nI 0) hc dX12_at_3 (by decide) ?_
  refine g_istore (pc := 4) (lv' := [(0, .ref (ad 0)), (1, .int x), (2, .int y), (3, .int z), (4, .int (nI 0)), (5, .int (nI 0))]) hc dX12_at_4 (by decide) rfl ?_
  have L6_1 : ∀ (ki i : Nat), i + ki = nF → G zp l ze ({ frames := 0, cells := 0, slots := 0, locals := 0 }) zs zm za zb zh zc 0 0 (MQ zb (Qz E A (some (.int (mat (ar 5) (ar 6) (ar 7) (ar 8) x y z nF))) (mw E ad sc ar la)) za zs 0 0 A) E A 6 (mw E ad sc ar la) (6) [(0, .ref (ad 0)), (1, .int x), (2, .int y), (3, .int z), (4, .int (mat (ar 5) (ar 6) (ar 7) (ar 8) x y z (i))), (5, .int (nI (i)))] [] := by
    intro ki
    induction ki with
    | zero =>
      intro i lhi
      have lhin : nF = i := by omega
      subst lhin
      refine g_iload (pc := 6) hc 5 dX12_at_6 rfl ?_
      refine g_aload_n (pc := 8) hc 0 dX12_at_8 rfl rfl ?_
      refine gf_m0_finds (pc := 9) hc tw_1009 dX12_at_9 ?_
      refine g_topi (v := nI nF) (hF) ?_
      refine g_icmp_ge_t (pc := 12) hc 70 dX12_at_12 (by decide) (nI_le (by omega) (by omega)) ?_
      refine g_iload (pc := 70) hc 4 dX12_at_70 rfl ?_
      exact g_iret (pc := 72) hc dX12_at_72 (rfl) (rfl)
    | succ ki ihi =>
      intro i lhi
      have lhin : i < nF := by omega
      refine g_iload (pc := 6) hc 5 dX12_at_6 rfl ?_
      refine g_aload_n (pc := 8) hc 0 dX12_at_8 rfl rfl ?_
      refine gf_m0_finds (pc := 9) hc tw_1009 dX12_at_9 ?_
      refine g_topi (v := nI nF) (hF) ?_
      refine g_icmp_ge_f (pc := 12) hc 70 dX12_at_12 (by decide) (nI_ge (by omega) (by omega)) ?_
      refine g_iload (pc := 15) hc 4 dX12_at_15 rfl ?_
      refine g_aload_n (pc := 17) hc 0 dX12_at_17 rfl rfl ?_
      refine gf_m0_fWalk (pc := 18) hc tw_1010 dX12_at_18 ?_
      refine g_iload (pc := 21) hc 5 dX12_at_21 rfl ?_
      refine la_m5 (pc := 23) hc (i) (rfl) (by omega) dX12_at_23 ?_
      refine g_iload_n (pc := 24) hc 1 dX12_at_24 rfl rfl ?_
      refine g_icmp_ne (pc := 25) hc 60 dX12_at_25 (by decide) (fun c2 => ?_) (fun c2 => ?_)
      · refine g_iconst (pc := 60) (v := nI 0) hc dX12_at_60 (by decide) ?_
        refine g_iadd (pc := 61) hc dX12_at_61 ?_
        refine g_istore (pc := 62) (lv' := [(0, .ref (ad 0)), (1, .int x), (2, .int y), (3, .int z), (4, .int ((mat (ar 5) (ar 6) (ar 7) (ar 8) x y z (i)) + (nI 0))), (5, .int (nI (i)))]) hc dX12_at_62 (by decide) rfl ?_
        refine g_iinc (pc := 64) (v := nI (i + 1)) (lv' := [(0, .ref (ad 0)), (1, .int x), (2, .int y), (3, .int z), (4, .int ((mat (ar 5) (ar 6) (ar 7) (ar 8) x y z (i)) + (nI 0))), (5, .int (nI (i + 1)))]) hc 5 dX12_at_64 rfl (nI_ofi i 1) (by decide) rfl ?_
        refine g_goto (pc := 67) hc 6 dX12_at_67 (by decide) ?_
        exact g_eq (ws' := mw E ad sc ar la) (lv' := [(0, .ref (ad 0)), (1, .int x), (2, .int y), (3, .int z), (4, .int (mat (ar 5) (ar 6) (ar 7) (ar 8) x y z (i + 1))), (5, .int (nI (i + 1)))]) (rfl) (by rw [mat_succ]; repeat (first | rw [if_pos c2] | rw [if_neg c2] | rw [if_neg (ne_true_of_eq_false c2)])) rfl (ihi (i + 1) (by omega))
      · refine g_aload_n (pc := 28) hc 0 dX12_at_28 rfl rfl ?_
        refine gf_m0_fPace (pc := 29) hc tw_1011 dX12_at_29 ?_
        refine g_iload (pc := 32) hc 5 dX12_at_32 rfl ?_
        refine la_m6 (pc := 34) hc (i) (rfl) (by omega) dX12_at_34 ?_
        refine g_iload_n (pc := 35) hc 2 dX12_at_35 rfl rfl ?_
        refine g_icmp_ne (pc := 36) hc 60 dX12_at_36 (by decide) (fun c3 => ?_) (fun c3 => ?_)
        · refine g_iconst (pc := 60) (v := nI 0) hc dX12_at_60 (by decide) ?_
          refine g_iadd (pc := 61) hc dX12_at_61 ?_
          refine g_istore (pc := 62) (lv' := [(0, .ref (ad 0)), (1, .int x), (2, .int y), (3, .int z), (4, .int ((mat (ar 5) (ar 6) (ar 7) (ar 8) x y z (i)) + (nI 0))), (5, .int (nI (i)))]) hc dX12_at_62 (by decide) rfl ?_
          refine g_iinc (pc := 64) (v := nI (i + 1)) (lv' := [(0, .ref (ad 0)), (1, .int x), (2, .int y), (3, .int z), (4, .int ((mat (ar 5) (ar 6) (ar 7) (ar 8) x y z (i)) + (nI 0))), (5, .int (nI (i + 1)))]) hc 5 dX12_at_64 rfl (nI_ofi i 1) (by decide) rfl ?_
          refine g_goto (pc := 67) hc 6 dX12_at_67 (by decide) ?_
          exact g_eq (ws' := mw E ad sc ar la) (lv' := [(0, .ref (ad 0)), (1, .int x), (2, .int y), (3, .int z), (4, .int (mat (ar 5) (ar 6) (ar 7) (ar 8) x y z (i + 1))), (5, .int (nI (i + 1)))]) (rfl) (by rw [mat_succ]; repeat (first | rw [if_pos c2] | rw [if_neg c2] | rw [if_neg (ne_true_of_eq_false c2)] | rw [if_pos c3] | rw [if_neg c3] | rw [if_neg (ne_true_of_eq_false c3)])) rfl (ihi (i + 1) (by omega))
        · refine g_aload_n (pc := 39) hc 0 dX12_at_39 rfl rfl ?_
          refine gf_m0_fKind (pc := 40) hc tw_1012 dX12_at_40 ?_
          refine g_iload (pc := 43) hc 5 dX12_at_43 rfl ?_
          refine la_m7 (pc := 45) hc (i) (rfl) (by omega) dX12_at_45 ?_
          refine g_iload_n (pc := 46) hc 3 dX12_at_46 rfl rfl ?_
          refine g_icmp_ne (pc := 47) hc 60 dX12_at_47 (by decide) (fun c4 => ?_) (fun c4 => ?_)
          · refine g_iconst (pc := 60) (v := nI 0) hc dX12_at_60 (by decide) ?_
            refine g_iadd (pc := 61) hc dX12_at_61 ?_
            refine g_istore (pc := 62) (lv' := [(0, .ref (ad 0)), (1, .int x), (2, .int y), (3, .int z), (4, .int ((mat (ar 5) (ar 6) (ar 7) (ar 8) x y z (i)) + (nI 0))), (5, .int (nI (i)))]) hc dX12_at_62 (by decide) rfl ?_
            refine g_iinc (pc := 64) (v := nI (i + 1)) (lv' := [(0, .ref (ad 0)), (1, .int x), (2, .int y), (3, .int z), (4, .int ((mat (ar 5) (ar 6) (ar 7) (ar 8) x y z (i)) + (nI 0))), (5, .int (nI (i + 1)))]) hc 5 dX12_at_64 rfl (nI_ofi i 1) (by decide) rfl ?_
            refine g_goto (pc := 67) hc 6 dX12_at_67 (by decide) ?_
            exact g_eq (ws' := mw E ad sc ar la) (lv' := [(0, .ref (ad 0)), (1, .int x), (2, .int y), (3, .int z), (4, .int (mat (ar 5) (ar 6) (ar 7) (ar 8) x y z (i + 1))), (5, .int (nI (i + 1)))]) (rfl) (by rw [mat_succ]; repeat (first | rw [if_pos c2] | rw [if_neg c2] | rw [if_neg (ne_true_of_eq_false c2)] | rw [if_pos c3] | rw [if_neg c3] | rw [if_neg (ne_true_of_eq_false c3)] | rw [if_pos c4] | rw [if_neg c4] | rw [if_neg (ne_true_of_eq_false c4)])) rfl (ihi (i + 1) (by omega))
          · refine g_aload_n (pc := 50) hc 0 dX12_at_50 rfl rfl ?_
            refine gf_m0_fMany (pc := 51) hc tw_1013 dX12_at_51 ?_
            refine g_iload (pc := 54) hc 5 dX12_at_54 rfl ?_
            refine la_m8 (pc := 56) hc (i) (rfl) (by omega) dX12_at_56 ?_
            refine g_goto (pc := 57) hc 61 dX12_at_57 (by decide) ?_
            refine g_iadd (pc := 61) hc dX12_at_61 ?_
            refine g_istore (pc := 62) (lv' := [(0, .ref (ad 0)), (1, .int x), (2, .int y), (3, .int z), (4, .int ((mat (ar 5) (ar 6) (ar 7) (ar 8) x y z (i)) + ((ar 8) i))), (5, .int (nI (i)))]) hc dX12_at_62 (by decide) rfl ?_
            refine g_iinc (pc := 64) (v := nI (i + 1)) (lv' := [(0, .ref (ad 0)), (1, .int x), (2, .int y), (3, .int z), (4, .int ((mat (ar 5) (ar 6) (ar 7) (ar 8) x y z (i)) + ((ar 8) i))), (5, .int (nI (i + 1)))]) hc 5 dX12_at_64 rfl (nI_ofi i 1) (by decide) rfl ?_
            refine g_goto (pc := 67) hc 6 dX12_at_67 (by decide) ?_
            exact g_eq (ws' := mw E ad sc ar la) (lv' := [(0, .ref (ad 0)), (1, .int x), (2, .int y), (3, .int z), (4, .int (mat (ar 5) (ar 6) (ar 7) (ar 8) x y z (i + 1))), (5, .int (nI (i + 1)))]) (rfl) (by rw [mat_succ]; repeat (first | rw [if_pos c2] | rw [if_neg c2] | rw [if_neg (ne_true_of_eq_false c2)] | rw [if_pos c3] | rw [if_neg c3] | rw [if_neg (ne_true_of_eq_false c3)] | rw [if_pos c4] | rw [if_neg c4] | rw [if_neg (ne_true_of_eq_false c4)])) rfl (ihi (i + 1) (by omega))
  exact g_eq (ws' := mw E ad sc ar la) (lv' := [(0, .ref (ad 0)), (1, .int x), (2, .int y), (3, .int z), (4, .int (mat (ar 5) (ar 6) (ar 7) (ar 8) x y z (0))), (5, .int (nI (0)))]) (rfl) (rfl) rfl (L6_1 (nF - 0) (0) (by omega))

theorem dX12_told_0 : decode cX12_told 0 = .ok (.aload_n 0, 1) := by decide +kernel
theorem dX12_told_1 : decode cX12_told 1 = .ok (.iload_n 1, 1) := by decide +kernel
theorem dX12_told_2 : decode cX12_told 2 = .ok (.invokevirtual 151, 3) := by decide +kernel
theorem dX12_told_5 : decode cX12_told 5 = .ok (.ifCond .eq 12, 3) := by decide +kernel
theorem dX12_told_8 : decode cX12_told 8 = .ok (.iload_n 2, 1) := by decide +kernel
theorem dX12_told_9 : decode cX12_told 9 = .ok (.iconst 0, 1) := by decide +kernel
theorem dX12_told_10 : decode cX12_told 10 = .ok (.iconst 4, 1) := by decide +kernel
theorem dX12_told_11 : decode cX12_told 11 = .ok (.invokestatic 113, 3) := by decide +kernel
theorem dX12_told_14 : decode cX12_told 14 = .ok (.ifCond .ne 6, 3) := by decide +kernel
theorem dX12_told_17 : decode cX12_told 17 = .ok (.ldc 120, 2) := by decide +kernel
theorem dX12_told_19 : decode cX12_told 19 = .ok (.ireturn, 1) := by decide +kernel
theorem dX12_told_20 : decode cX12_told 20 = .ok (.iload_n 2, 1) := by decide +kernel
theorem dX12_told_21 : decode cX12_told 21 = .ok (.tableswitch 59 0 3 #[31, 38, 45, 52], 31) := by decide +kernel
theorem dX12_told_52 : decode cX12_told 52 = .ok (.aload_n 0, 1) := by decide +kernel
theorem dX12_told_53 : decode cX12_told 53 = .ok (.getfield 20, 3) := by decide +kernel
theorem dX12_told_56 : decode cX12_told 56 = .ok (.iload_n 1, 1) := by decide +kernel
theorem dX12_told_57 : decode cX12_told 57 = .ok (.iaload, 1) := by decide +kernel
theorem dX12_told_58 : decode cX12_told 58 = .ok (.ireturn, 1) := by decide +kernel
theorem dX12_told_59 : decode cX12_told 59 = .ok (.aload_n 0, 1) := by decide +kernel
theorem dX12_told_60 : decode cX12_told 60 = .ok (.getfield 23, 3) := by decide +kernel
theorem dX12_told_63 : decode cX12_told 63 = .ok (.iload_n 1, 1) := by decide +kernel
theorem dX12_told_64 : decode cX12_told 64 = .ok (.iaload, 1) := by decide +kernel
theorem dX12_told_65 : decode cX12_told 65 = .ok (.ireturn, 1) := by decide +kernel
theorem dX12_told_66 : decode cX12_told 66 = .ok (.aload_n 0, 1) := by decide +kernel
theorem dX12_told_67 : decode cX12_told 67 = .ok (.getfield 26, 3) := by decide +kernel
theorem dX12_told_70 : decode cX12_told 70 = .ok (.iload_n 1, 1) := by decide +kernel
theorem dX12_told_71 : decode cX12_told 71 = .ok (.iaload, 1) := by decide +kernel
theorem dX12_told_72 : decode cX12_told 72 = .ok (.ireturn, 1) := by decide +kernel
theorem dX12_told_73 : decode cX12_told 73 = .ok (.aload_n 0, 1) := by decide +kernel
theorem dX12_told_74 : decode cX12_told 74 = .ok (.iload_n 1, 1) := by decide +kernel
theorem dX12_told_75 : decode cX12_told 75 = .ok (.iconst 1, 1) := by decide +kernel
theorem dX12_told_76 : decode cX12_told 76 = .ok (.invokevirtual 157, 3) := by decide +kernel
theorem dX12_told_79 : decode cX12_told 79 = .ok (.ireturn, 1) := by decide +kernel
theorem dX12_told_80 : decode cX12_told 80 = .ok (.aload_n 0, 1) := by decide +kernel
theorem dX12_told_81 : decode cX12_told 81 = .ok (.aload_n 0, 1) := by decide +kernel
theorem dX12_told_82 : decode cX12_told 82 = .ok (.getfield 23, 3) := by decide +kernel
theorem dX12_told_85 : decode cX12_told 85 = .ok (.iload_n 1, 1) := by decide +kernel
theorem dX12_told_86 : decode cX12_told 86 = .ok (.iaload, 1) := by decide +kernel
theorem dX12_told_87 : decode cX12_told 87 = .ok (.invokevirtual 161, 3) := by decide +kernel
theorem dX12_told_90 : decode cX12_told 90 = .ok (.iload_n 1, 1) := by decide +kernel
theorem dX12_told_91 : decode cX12_told 91 = .ok (.if_icmp .ne 7, 3) := by decide +kernel
theorem dX12_told_94 : decode cX12_told 94 = .ok (.iconst 1, 1) := by decide +kernel
theorem dX12_told_95 : decode cX12_told 95 = .ok (.goto 4, 3) := by decide +kernel
theorem dX12_told_98 : decode cX12_told 98 = .ok (.iconst 0, 1) := by decide +kernel
theorem dX12_told_99 : decode cX12_told 99 = .ok (.ireturn, 1) := by decide +kernel

set_option maxHeartbeats 4000000 in
set_option maxRecDepth 100000 in
theorem c_X12_told (l : Launch) (E : Ev) {A : Nat → Prop} (ad : Nat → Nat) (hA : Oka 30 ad A) (sc : Nat → Int32) (ar : Nat → Nat → Int32) (la : Nat → Int64) {nW nF : Nat} (x : Int32) (y : Int32) (hW : sc 3 = nI nW) (hW60 : nW ≤ 60) (hF : sc 4 = nI nF) (hF200 : nF ≤ 200) : Ct l E yX12_told (.code yX12_told cX12_told 3 (some .int)) ({ frames := 2, cells := 0, slots := 0, locals := 49 }) A (mw E ad sc ar la) [.ref (ad 0), .int x, .int y] (some (.int (if ok2 (inx x (nI nW)) (inr y (nI 0) (nI 4)) = true then if y = nI 0 then ar 2 (tn x) else (if y = nI 1 then ar 3 (tn x) else (if y = nI 2 then ar 4 (tn x) else (if y = nI 3 then fnd (ar 5) (ar 8) x nF else (if mtl nW nF (ar 3) (ar 5) (ar 8) (ar 3 (tn x)) = x then nI 1 else nI 0)))) else ((-1000000001))))) (mw E ad sc ar la) := by
  refine Ct.of (lv := [(0, .ref (ad 0)), (1, .int x), (2, .int y)]) (by decide +kernel) (Nat.le_of_ble_eq_true rfl) rfl ?_
  intro zp ze zs zm za zb zh zc hc
  refine g_aload_n (pc := 0) hc 0 dX12_told_0 rfl rfl ?_
  refine g_iload_n (pc := 1) hc 1 dX12_told_1 rfl rfl ?_
  refine g_callVi (pc := 2) (rest := []) (As := [.int x]) hc (c_X12_isWalk l E ad hA sc ar la x (hW) (hW60)) mi_X12_isWalk tw_1181 0 rfl rfl rfl rfl ⟨rfl, rfl, by decide, by decide⟩ (Nat.le_of_ble_eq_true rfl) ⟨Nat.le_refl _, Nat.le_refl _⟩ rfl dX12_told_2 ?_
  refine g_if_eq_b (pc := 5) hc 17 dX12_told_5 (by decide) (fun c1 => ?_) (fun c1 => ?_)
  · refine g_ldc (pc := 17) (v := (-1000000001)) hc tw_1139 dX12_told_17 ?_
    exact g_iret (pc := 19) hc dX12_told_19 (by rw [if_neg (ne_true_of_eq_false (ok2_f1 c1))]) (rfl)
  · refine g_iload_n (pc := 8) hc 2 dX12_told_8 rfl rfl ?_
    refine g_iconst (pc := 9) (v := nI 0) hc dX12_told_9 (by decide) ?_
    refine g_iconst (pc := 10) (v := nI 4) hc dX12_told_10 (by decide) ?_
    refine g_callSi (pc := 11) (rest := []) (As := [.int y, .int (nI 0), .int (nI 4)]) hc (c_X12_isIn l E ad hA sc ar la y (nI 0) (nI 4)) mi_X12_isIn tw_1136 rfl ⟨rfl, rfl, by decide, by decide⟩ (Nat.le_of_ble_eq_true rfl) ⟨Nat.le_refl _, Nat.le_refl _⟩ rfl dX12_told_11 ?_
    refine g_if_ne_b (pc := 14) hc 20 dX12_told_14 (by decide) (fun c2 => ?_) (fun c2 => ?_)
    · obtain ⟨i, hi, hx⟩ := inx_of (by omega) c1
      refine g_eq (ws' := mw E ad sc ar la) (lv' := [(0, .ref (ad 0)), (1, .int (nI i)), (2, .int y)]) rfl (by rw [hx]) rfl ?_
      refine g_iload_n (pc := 20) hc 2 dX12_told_20 rfl rfl ?_
      by_cases c3 : y = nI 0
      · refine g_tableIn (pc := 21) hc 52 dX12_told_21 (by rw [c3]; decide) (by rw [c3]; decide) (off := 31) (by rw [c3]; rfl) (by decide) ?_
        refine g_aload_n (pc := 52) hc 0 dX12_told_52 rfl rfl ?_
        refine gf_m0_walker (pc := 53) hc tw_1006 dX12_told_53 ?_
        refine g_iload_n (pc := 56) hc 1 dX12_told_56 rfl rfl ?_
        refine la_m2 (pc := 57) hc (i) (rfl) (by omega) dX12_told_57 ?_
        exact g_iret (pc := 58) hc dX12_told_58 (by rw [if_pos (ok2_t c1 c2)]; (repeat (first | rw [if_pos c3] | rw [if_neg c3] | rw [if_neg (ne_true_of_eq_false c3)])); rw [hx, tn, nI_clamp (by omega)]) (rfl)
      by_cases c4 : y = nI 1
      · refine g_tableIn (pc := 21) hc 59 dX12_told_21 (by rw [c4]; decide) (by rw [c4]; decide) (off := 38) (by rw [c4]; rfl) (by decide) ?_
        refine g_aload_n (pc := 59) hc 0 dX12_told_59 rfl rfl ?_
        refine gf_m0_rowOf (pc := 60) hc tw_1007 dX12_told_60 ?_
        refine g_iload_n (pc := 63) hc 1 dX12_told_63 rfl rfl ?_
        refine la_m3 (pc := 64) hc (i) (rfl) (by omega) dX12_told_64 ?_
        exact g_iret (pc := 65) hc dX12_told_65 (by rw [if_pos (ok2_t c1 c2)]; (repeat (first | rw [if_pos c3] | rw [if_neg c3] | rw [if_neg (ne_true_of_eq_false c3)] | rw [if_pos c4] | rw [if_neg c4] | rw [if_neg (ne_true_of_eq_false c4)])); rw [hx, tn, nI_clamp (by omega)]) (rfl)
      by_cases c5 : y = nI 2
      · refine g_tableIn (pc := 21) hc 66 dX12_told_21 (by rw [c5]; decide) (by rw [c5]; decide) (off := 45) (by rw [c5]; rfl) (by decide) ?_
        refine g_aload_n (pc := 66) hc 0 dX12_told_66 rfl rfl ?_
        refine gf_m0_dayOf (pc := 67) hc tw_1008 dX12_told_67 ?_
        refine g_iload_n (pc := 70) hc 1 dX12_told_70 rfl rfl ?_
        refine la_m4 (pc := 71) hc (i) (rfl) (by omega) dX12_told_71 ?_
        exact g_iret (pc := 72) hc dX12_told_72 (by rw [if_pos (ok2_t c1 c2)]; (repeat (first | rw [if_pos c3] | rw [if_neg c3] | rw [if_neg (ne_true_of_eq_false c3)] | rw [if_pos c4] | rw [if_neg c4] | rw [if_neg (ne_true_of_eq_false c4)] | rw [if_pos c5] | rw [if_neg c5] | rw [if_neg (ne_true_of_eq_false c5)])); rw [hx, tn, nI_clamp (by omega)]) (rfl)
      by_cases c6 : y = nI 3
      · refine g_tableIn (pc := 21) hc 73 dX12_told_21 (by rw [c6]; decide) (by rw [c6]; decide) (off := 52) (by rw [c6]; rfl) (by decide) ?_
        refine g_aload_n (pc := 73) hc 0 dX12_told_73 rfl rfl ?_
        refine g_iload_n (pc := 74) hc 1 dX12_told_74 rfl rfl ?_
        refine g_iconst (pc := 75) (v := nI 1) hc dX12_told_75 (by decide) ?_
        refine g_callVi (pc := 76) (rest := []) (As := [.int (nI i), .int (nI 1)]) hc (c_X12_found1 l E ad hA sc ar la (nI i) hF hF200) mi_X12_found tw_1193 0 rfl rfl rfl rfl ⟨rfl, rfl, by decide, by decide⟩ (Nat.le_of_ble_eq_true rfl) ⟨Nat.le_refl _, Nat.le_refl _⟩ rfl dX12_told_76 ?_
        exact g_iret (pc := 79) hc dX12_told_79 (by rw [if_pos (ok2_t c1 c2)]; (repeat (first | rw [if_pos c3] | rw [if_neg c3] | rw [if_neg (ne_true_of_eq_false c3)] | rw [if_pos c4] | rw [if_neg c4] | rw [if_neg (ne_true_of_eq_false c4)] | rw [if_pos c5] | rw [if_neg c5] | rw [if_neg (ne_true_of_eq_false c5)] | rw [if_pos c6] | rw [if_neg c6] | rw [if_neg (ne_true_of_eq_false c6)])); rw [hx]) (rfl)
      refine g_tableOut (pc := 21) hc 80 dX12_told_21 (tsw_out4 c3 c4 c5 c6) (by decide) ?_
      refine g_aload_n (pc := 80) hc 0 dX12_told_80 rfl rfl ?_
      refine g_aload_n (pc := 81) hc 0 dX12_told_81 rfl rfl ?_
      refine gf_m0_rowOf (pc := 82) hc tw_1007 dX12_told_82 ?_
      refine g_iload_n (pc := 85) hc 1 dX12_told_85 rfl rfl ?_
      refine la_m3 (pc := 86) hc (i) (rfl) (by omega) dX12_told_86 ?_
      refine g_callVi (pc := 87) (rest := []) (As := [.int ((ar 3) i)]) hc (c_X12_walkOf l E ad hA sc ar la ((ar 3) i) (hW) (hW60) (hF) (hF200)) mi_X12_walkOf tw_1197 0 rfl rfl rfl rfl ⟨rfl, rfl, by decide, by decide⟩ (Nat.le_of_ble_eq_true rfl) ⟨Nat.le_refl _, Nat.le_refl _⟩ rfl dX12_told_87 ?_
      refine g_iload_n (pc := 90) hc 1 dX12_told_90 rfl rfl ?_
      refine g_icmp_ne (pc := 91) hc 98 dX12_told_91 (by decide) (fun c7 => ?_) (fun c7 => ?_)
      · refine g_iconst (pc := 98) (v := nI 0) hc dX12_told_98 (by decide) ?_
        exact g_iret (pc := 99) hc dX12_told_99 (by rw [if_pos (ok2_t c1 c2)]; (repeat (first | rw [if_pos c3] | rw [if_neg c3] | rw [if_neg (ne_true_of_eq_false c3)] | rw [if_pos c4] | rw [if_neg c4] | rw [if_neg (ne_true_of_eq_false c4)] | rw [if_pos c5] | rw [if_neg c5] | rw [if_neg (ne_true_of_eq_false c5)] | rw [if_pos c6] | rw [if_neg c6] | rw [if_neg (ne_true_of_eq_false c6)])); rw [hx, tn, nI_clamp (by omega)]; (repeat (first | rw [if_pos c7] | rw [if_neg c7] | rw [if_neg (ne_true_of_eq_false c7)]))) (rfl)
      · refine g_iconst (pc := 94) (v := nI 1) hc dX12_told_94 (by decide) ?_
        refine g_goto (pc := 95) hc 99 dX12_told_95 (by decide) ?_
        exact g_iret (pc := 99) hc dX12_told_99 (by rw [if_pos (ok2_t c1 c2)]; (repeat (first | rw [if_pos c3] | rw [if_neg c3] | rw [if_neg (ne_true_of_eq_false c3)] | rw [if_pos c4] | rw [if_neg c4] | rw [if_neg (ne_true_of_eq_false c4)] | rw [if_pos c5] | rw [if_neg c5] | rw [if_neg (ne_true_of_eq_false c5)] | rw [if_pos c6] | rw [if_neg c6] | rw [if_neg (ne_true_of_eq_false c6)])); rw [hx, tn, nI_clamp (by omega)]; (repeat (first | rw [if_pos c7] | rw [if_neg c7] | rw [if_neg (ne_true_of_eq_false c7)]))) (rfl)
    · refine g_ldc (pc := 17) (v := (-1000000001)) hc tw_1139 dX12_told_17 ?_
      exact g_iret (pc := 19) hc dX12_told_19 (by rw [if_neg (ne_true_of_eq_false (ok2_f2 c1 c2))]) (rfl)

theorem dX12_of_0 : decode cX12_of 0 = .ok (.iload_n 1, 1) := by decide +kernel
theorem dX12_of_1 : decode cX12_of 1 = .ok (.iconst 0, 1) := by decide +kernel
theorem dX12_of_2 : decode cX12_of 2 = .ok (.aload_n 0, 1) := by decide +kernel
theorem dX12_of_3 : decode cX12_of 3 = .ok (.getfield 121, 3) := by decide +kernel
theorem dX12_of_6 : decode cX12_of 6 = .ok (.iconst 1, 1) := by decide +kernel
theorem dX12_of_7 : decode cX12_of 7 = .ok (.isub, 1) := by decide +kernel
theorem dX12_of_8 : decode cX12_of 8 = .ok (.invokestatic 113, 3) := by decide +kernel
theorem dX12_of_11 : decode cX12_of 11 = .ok (.ifCond .eq 12, 3) := by decide +kernel
theorem dX12_of_14 : decode cX12_of 14 = .ok (.iload_n 2, 1) := by decide +kernel
theorem dX12_of_15 : decode cX12_of 15 = .ok (.iconst 0, 1) := by decide +kernel
theorem dX12_of_16 : decode cX12_of 16 = .ok (.iconst 3, 1) := by decide +kernel
theorem dX12_of_17 : decode cX12_of 17 = .ok (.invokestatic 113, 3) := by decide +kernel
theorem dX12_of_20 : decode cX12_of 20 = .ok (.ifCond .ne 6, 3) := by decide +kernel
theorem dX12_of_23 : decode cX12_of 23 = .ok (.ldc 120, 2) := by decide +kernel
theorem dX12_of_25 : decode cX12_of 25 = .ok (.ireturn, 1) := by decide +kernel
theorem dX12_of_26 : decode cX12_of 26 = .ok (.iload_n 2, 1) := by decide +kernel
theorem dX12_of_27 : decode cX12_of 27 = .ok (.ifCond .ne 12, 3) := by decide +kernel
theorem dX12_of_30 : decode cX12_of 30 = .ok (.aload_n 0, 1) := by decide +kernel
theorem dX12_of_31 : decode cX12_of 31 = .ok (.getfield 29, 3) := by decide +kernel
theorem dX12_of_34 : decode cX12_of 34 = .ok (.iload_n 1, 1) := by decide +kernel
theorem dX12_of_35 : decode cX12_of 35 = .ok (.iaload, 1) := by decide +kernel
theorem dX12_of_36 : decode cX12_of 36 = .ok (.goto 37, 3) := by decide +kernel
theorem dX12_of_39 : decode cX12_of 39 = .ok (.iload_n 2, 1) := by decide +kernel
theorem dX12_of_40 : decode cX12_of 40 = .ok (.iconst 1, 1) := by decide +kernel
theorem dX12_of_41 : decode cX12_of 41 = .ok (.if_icmp .ne 12, 3) := by decide +kernel
theorem dX12_of_44 : decode cX12_of 44 = .ok (.aload_n 0, 1) := by decide +kernel
theorem dX12_of_45 : decode cX12_of 45 = .ok (.getfield 32, 3) := by decide +kernel
theorem dX12_of_48 : decode cX12_of 48 = .ok (.iload_n 1, 1) := by decide +kernel
theorem dX12_of_49 : decode cX12_of 49 = .ok (.iaload, 1) := by decide +kernel
theorem dX12_of_50 : decode cX12_of 50 = .ok (.goto 23, 3) := by decide +kernel
theorem dX12_of_53 : decode cX12_of 53 = .ok (.iload_n 2, 1) := by decide +kernel
theorem dX12_of_54 : decode cX12_of 54 = .ok (.iconst 2, 1) := by decide +kernel
theorem dX12_of_55 : decode cX12_of 55 = .ok (.if_icmp .ne 12, 3) := by decide +kernel
theorem dX12_of_58 : decode cX12_of 58 = .ok (.aload_n 0, 1) := by decide +kernel
theorem dX12_of_59 : decode cX12_of 59 = .ok (.getfield 35, 3) := by decide +kernel
theorem dX12_of_62 : decode cX12_of 62 = .ok (.iload_n 1, 1) := by decide +kernel
theorem dX12_of_63 : decode cX12_of 63 = .ok (.iaload, 1) := by decide +kernel
theorem dX12_of_64 : decode cX12_of 64 = .ok (.goto 9, 3) := by decide +kernel
theorem dX12_of_67 : decode cX12_of 67 = .ok (.aload_n 0, 1) := by decide +kernel
theorem dX12_of_68 : decode cX12_of 68 = .ok (.getfield 38, 3) := by decide +kernel
theorem dX12_of_71 : decode cX12_of 71 = .ok (.iload_n 1, 1) := by decide +kernel
theorem dX12_of_72 : decode cX12_of 72 = .ok (.iaload, 1) := by decide +kernel
theorem dX12_of_73 : decode cX12_of 73 = .ok (.ireturn, 1) := by decide +kernel

set_option maxHeartbeats 4000000 in
set_option maxRecDepth 100000 in
theorem c_X12_of (l : Launch) (E : Ev) {A : Nat → Prop} (ad : Nat → Nat) (hA : Oka 30 ad A) (sc : Nat → Int32) (ar : Nat → Nat → Int32) (la : Nat → Int64) {nF : Nat} (x : Int32) (y : Int32) (hF : sc 4 = nI nF) (hF200 : nF ≤ 200) : Ct l E yX12_of (.code yX12_of cX12_of 3 (some .int)) ({ frames := 1, cells := 0, slots := 0, locals := 22 }) A (mw E ad sc ar la) [.ref (ad 0), .int x, .int y] (some (.int (if ok2 (inx x (nI nF)) (inr y (nI 0) (nI 3)) = true then if y = 0 then ar 5 (tn x) else (if y = nI 1 then ar 6 (tn x) else (if y = nI 2 then ar 7 (tn x) else (ar 8 (tn x)))) else ((-1000000001))))) (mw E ad sc ar la) := by
  refine Ct.of (lv := [(0, .ref (ad 0)), (1, .int x), (2, .int y)]) (by decide +kernel) (Nat.le_of_ble_eq_true rfl) rfl ?_
  intro zp ze zs zm za zb zh zc hc
  refine g_iload_n (pc := 0) hc 1 dX12_of_0 rfl rfl ?_
  refine g_iconst (pc := 1) (v := nI 0) hc dX12_of_1 (by decide) ?_
  refine g_aload_n (pc := 2) hc 0 dX12_of_2 rfl rfl ?_
  refine gf_m0_finds (pc := 3) hc tw_1009 dX12_of_3 ?_
  refine g_topi (v := nI nF) (hF) ?_
  refine g_iconst (pc := 6) (v := nI 1) hc dX12_of_6 (by decide) ?_
  refine g_isub (pc := 7) hc dX12_of_7 ?_
  refine g_callSi (pc := 8) (rest := []) (As := [.int x, .int (nI 0), .int ((nI nF) - (nI 1))]) hc (c_X12_isIn l E ad hA sc ar la x (nI 0) ((nI nF) - (nI 1))) mi_X12_isIn tw_1136 rfl ⟨rfl, rfl, by decide, by decide⟩ (Nat.le_of_ble_eq_true rfl) ⟨Nat.le_refl _, Nat.le_refl _⟩ rfl dX12_of_8 ?_
  refine g_topi (v := bI (inx x (nI nF))) (by rw [inr_pred _ (by omega)]) ?_
  refine g_if_eq_b (pc := 11) hc 23 dX12_of_11 (by decide) (fun c1 => ?_) (fun c1 => ?_)
  · refine g_ldc (pc := 23) (v := (-1000000001)) hc tw_1139 dX12_of_23 ?_
    exact g_iret (pc := 25) hc dX12_of_25 (by rw [if_neg (ne_true_of_eq_false (ok2_f1 c1))]) (rfl)
  · refine g_iload_n (pc := 14) hc 2 dX12_of_14 rfl rfl ?_
    refine g_iconst (pc := 15) (v := nI 0) hc dX12_of_15 (by decide) ?_
    refine g_iconst (pc := 16) (v := nI 3) hc dX12_of_16 (by decide) ?_
    refine g_callSi (pc := 17) (rest := []) (As := [.int y, .int (nI 0), .int (nI 3)]) hc (c_X12_isIn l E ad hA sc ar la y (nI 0) (nI 3)) mi_X12_isIn tw_1136 rfl ⟨rfl, rfl, by decide, by decide⟩ (Nat.le_of_ble_eq_true rfl) ⟨Nat.le_refl _, Nat.le_refl _⟩ rfl dX12_of_17 ?_
    refine g_if_ne_b (pc := 20) hc 26 dX12_of_20 (by decide) (fun c2 => ?_) (fun c2 => ?_)
    · obtain ⟨i, hi, hx⟩ := inx_of (by omega) c1
      refine g_eq (ws' := mw E ad sc ar la) (lv' := [(0, .ref (ad 0)), (1, .int (nI i)), (2, .int y)]) rfl (by rw [hx]) rfl ?_
      refine g_iload_n (pc := 26) hc 2 dX12_of_26 rfl rfl ?_
      refine g_if_ne (pc := 27) hc 39 dX12_of_27 (by decide) (fun c3 => ?_) (fun c3 => ?_)
      · refine g_iload_n (pc := 39) hc 2 dX12_of_39 rfl rfl ?_
        refine g_iconst (pc := 40) (v := nI 1) hc dX12_of_40 (by decide) ?_
        refine g_icmp_ne (pc := 41) hc 53 dX12_of_41 (by decide) (fun c4 => ?_) (fun c4 => ?_)
        · refine g_iload_n (pc := 53) hc 2 dX12_of_53 rfl rfl ?_
          refine g_iconst (pc := 54) (v := nI 2) hc dX12_of_54 (by decide) ?_
          refine g_icmp_ne (pc := 55) hc 67 dX12_of_55 (by decide) (fun c5 => ?_) (fun c5 => ?_)
          · refine g_aload_n (pc := 67) hc 0 dX12_of_67 rfl rfl ?_
            refine gf_m0_fMany (pc := 68) hc tw_1013 dX12_of_68 ?_
            refine g_iload_n (pc := 71) hc 1 dX12_of_71 rfl rfl ?_
            refine la_m8 (pc := 72) hc (i) (rfl) (by omega) dX12_of_72 ?_
            exact g_iret (pc := 73) hc dX12_of_73 (by rw [if_pos (ok2_t c1 c2)]; (repeat (first | rw [if_pos c3] | rw [if_neg c3] | rw [if_neg (ne_true_of_eq_false c3)] | rw [if_pos c4] | rw [if_neg c4] | rw [if_neg (ne_true_of_eq_false c4)] | rw [if_pos c5] | rw [if_neg c5] | rw [if_neg (ne_true_of_eq_false c5)])); rw [hx, tn, nI_clamp (by omega)]) (rfl)
          · refine g_aload_n (pc := 58) hc 0 dX12_of_58 rfl rfl ?_
            refine gf_m0_fKind (pc := 59) hc tw_1012 dX12_of_59 ?_
            refine g_iload_n (pc := 62) hc 1 dX12_of_62 rfl rfl ?_
            refine la_m7 (pc := 63) hc (i) (rfl) (by omega) dX12_of_63 ?_
            refine g_goto (pc := 64) hc 73 dX12_of_64 (by decide) ?_
            exact g_iret (pc := 73) hc dX12_of_73 (by rw [if_pos (ok2_t c1 c2)]; (repeat (first | rw [if_pos c3] | rw [if_neg c3] | rw [if_neg (ne_true_of_eq_false c3)] | rw [if_pos c4] | rw [if_neg c4] | rw [if_neg (ne_true_of_eq_false c4)] | rw [if_pos c5] | rw [if_neg c5] | rw [if_neg (ne_true_of_eq_false c5)])); rw [hx, tn, nI_clamp (by omega)]) (rfl)
        · refine g_aload_n (pc := 44) hc 0 dX12_of_44 rfl rfl ?_
          refine gf_m0_fPace (pc := 45) hc tw_1011 dX12_of_45 ?_
          refine g_iload_n (pc := 48) hc 1 dX12_of_48 rfl rfl ?_
          refine la_m6 (pc := 49) hc (i) (rfl) (by omega) dX12_of_49 ?_
          refine g_goto (pc := 50) hc 73 dX12_of_50 (by decide) ?_
          exact g_iret (pc := 73) hc dX12_of_73 (by rw [if_pos (ok2_t c1 c2)]; (repeat (first | rw [if_pos c3] | rw [if_neg c3] | rw [if_neg (ne_true_of_eq_false c3)] | rw [if_pos c4] | rw [if_neg c4] | rw [if_neg (ne_true_of_eq_false c4)])); rw [hx, tn, nI_clamp (by omega)]) (rfl)
      · refine g_aload_n (pc := 30) hc 0 dX12_of_30 rfl rfl ?_
        refine gf_m0_fWalk (pc := 31) hc tw_1010 dX12_of_31 ?_
        refine g_iload_n (pc := 34) hc 1 dX12_of_34 rfl rfl ?_
        refine la_m5 (pc := 35) hc (i) (rfl) (by omega) dX12_of_35 ?_
        refine g_goto (pc := 36) hc 73 dX12_of_36 (by decide) ?_
        exact g_iret (pc := 73) hc dX12_of_73 (by rw [if_pos (ok2_t c1 c2)]; (repeat (first | rw [if_pos c3] | rw [if_neg c3] | rw [if_neg (ne_true_of_eq_false c3)])); rw [hx, tn, nI_clamp (by omega)]) (rfl)
    · refine g_ldc (pc := 23) (v := (-1000000001)) hc tw_1139 dX12_of_23 ?_
      exact g_iret (pc := 25) hc dX12_of_25 (by rw [if_neg (ne_true_of_eq_false (ok2_f2 c1 c2))]) (rfl)

theorem dX12_count_0 : decode cX12_count 0 = .ok (.aload_n 0, 1) := by decide +kernel
theorem dX12_count_1 : decode cX12_count 1 = .ok (.iload_n 1, 1) := by decide +kernel
theorem dX12_count_2 : decode cX12_count 2 = .ok (.invokevirtual 154, 3) := by decide +kernel
theorem dX12_count_5 : decode cX12_count 5 = .ok (.ifCond .eq 29, 3) := by decide +kernel
theorem dX12_count_8 : decode cX12_count 8 = .ok (.iload_n 2, 1) := by decide +kernel
theorem dX12_count_9 : decode cX12_count 9 = .ok (.invokestatic 124, 3) := by decide +kernel
theorem dX12_count_12 : decode cX12_count 12 = .ok (.ifCond .eq 22, 3) := by decide +kernel
theorem dX12_count_15 : decode cX12_count 15 = .ok (.aload_n 0, 1) := by decide +kernel
theorem dX12_count_16 : decode cX12_count 16 = .ok (.aload_n 0, 1) := by decide +kernel
theorem dX12_count_17 : decode cX12_count 17 = .ok (.iload_n 1, 1) := by decide +kernel
theorem dX12_count_18 : decode cX12_count 18 = .ok (.aload_n 0, 1) := by decide +kernel
theorem dX12_count_19 : decode cX12_count 19 = .ok (.getfield 7, 3) := by decide +kernel
theorem dX12_count_22 : decode cX12_count 22 = .ok (.idiv, 1) := by decide +kernel
theorem dX12_count_23 : decode cX12_count 23 = .ok (.invokevirtual 161, 3) := by decide +kernel
theorem dX12_count_26 : decode cX12_count 26 = .ok (.iload_n 1, 1) := by decide +kernel
theorem dX12_count_27 : decode cX12_count 27 = .ok (.iload_n 2, 1) := by decide +kernel
theorem dX12_count_28 : decode cX12_count 28 = .ok (.invokevirtual 165, 3) := by decide +kernel
theorem dX12_count_31 : decode cX12_count 31 = .ok (.goto 5, 3) := by decide +kernel
theorem dX12_count_34 : decode cX12_count 34 = .ok (.ldc 120, 2) := by decide +kernel
theorem dX12_count_36 : decode cX12_count 36 = .ok (.ireturn, 1) := by decide +kernel

set_option maxHeartbeats 4000000 in
set_option maxRecDepth 100000 in
theorem c_X12_count (l : Launch) (E : Ev) {A : Nat → Prop} (ad : Nat → Nat) (hA : Oka 30 ad A) (sc : Nat → Int32) (ar : Nat → Nat → Int32) (la : Nat → Int64) {nW nF wd hg : Nat} (x : Int32) (y : Int32) (hW : sc 3 = nI nW) (hW60 : nW ≤ 60) (hF : sc 4 = nI nF) (hF200 : nF ≤ 200) (hwd : sc 0 = nI wd) (hwd1 : 2 ≤ wd) (hwd2 : wd ≤ 8) (hhg : sc 1 = nI hg) (hhg1 : 2 ≤ hg) (hhg2 : hg ≤ 8) : Ct l E yX12_count (.code yX12_count cX12_count 3 (some .int)) ({ frames := 2, cells := 0, slots := 0, locals := 49 }) A (mw E ad sc ar la) [.ref (ad 0), .int x, .int y] (some (.int (if ok2 (inx x (nI (wd * hg))) (inr y (nI 0) (nI 3)) = true then mat (ar 5) (ar 6) (ar 7) (ar 8) (mtl nW nF (ar 3) (ar 5) (ar 8) (nI (tn x / wd))) x y nF else (-1000000001)))) (mw E ad sc ar la) := by
  have hm := prod64 hwd2 hhg2
  refine Ct.of (lv := [(0, .ref (ad 0)), (1, .int x), (2, .int y)]) (by decide +kernel) (Nat.le_of_ble_eq_true rfl) rfl ?_
  intro zp ze zs zm za zb zh zc hc
  refine g_aload_n (pc := 0) hc 0 dX12_count_0 rfl rfl ?_
  refine g_iload_n (pc := 1) hc 1 dX12_count_1 rfl rfl ?_
  refine g_callVi (pc := 2) (rest := []) (As := [.int x]) hc (c_X12_isPace l E ad hA sc ar la x (hwd) (hwd1) (hwd2) (hhg) (hhg1) (hhg2)) mi_X12_isPace tw_1185 0 rfl rfl rfl rfl ⟨rfl, rfl, by decide, by decide⟩ (Nat.le_of_ble_eq_true rfl) ⟨Nat.le_refl _, Nat.le_refl _⟩ rfl dX12_count_2 ?_
  refine g_if_eq_b (pc := 5) hc 34 dX12_count_5 (by decide) (fun c1 => ?_) (fun c1 => ?_)
  · refine g_ldc (pc := 34) (v := (-1000000001)) hc tw_1139 dX12_count_34 ?_
    exact g_iret (pc := 36) hc dX12_count_36 (by rw [if_neg (ne_true_of_eq_false (ok2_f1 c1))]) (rfl)
  · refine g_iload_n (pc := 8) hc 2 dX12_count_8 rfl rfl ?_
    refine g_callSi (pc := 9) (rest := []) (As := [.int y]) hc (c_X12_isKind l E ad hA sc ar la y) mi_X12_isKind tw_1148 rfl ⟨rfl, rfl, by decide, by decide⟩ (Nat.le_of_ble_eq_true rfl) ⟨Nat.le_refl _, Nat.le_refl _⟩ rfl dX12_count_9 ?_
    refine g_if_eq_b (pc := 12) hc 34 dX12_count_12 (by decide) (fun c2 => ?_) (fun c2 => ?_)
    · refine g_ldc (pc := 34) (v := (-1000000001)) hc tw_1139 dX12_count_34 ?_
      exact g_iret (pc := 36) hc dX12_count_36 (by rw [if_neg (ne_true_of_eq_false (ok2_f2 c1 c2))]) (rfl)
    · obtain ⟨p, hp, hx⟩ := inx_of (by omega) c1
      refine g_eq (ws' := mw E ad sc ar la) (lv' := [(0, .ref (ad 0)), (1, .int (nI p)), (2, .int y)]) rfl (by rw [hx]) rfl ?_
      refine g_aload_n (pc := 15) hc 0 dX12_count_15 rfl rfl ?_
      refine g_aload_n (pc := 16) hc 0 dX12_count_16 rfl rfl ?_
      refine g_iload_n (pc := 17) hc 1 dX12_count_17 rfl rfl ?_
      refine g_aload_n (pc := 18) hc 0 dX12_count_18 rfl rfl ?_
      refine gf_m0_wide (pc := 19) hc tw_1001 dX12_count_19 ?_
      refine g_topi (v := nI wd) (hwd) ?_
      refine g_idiv (pc := 22) hc dX12_count_22 (nI_ne0 (by omega) (by omega)) ?_
      refine g_topi (v := nI (p / wd)) (ldiv_nI hwd1 hwd2 (by omega)) ?_
      refine g_callVi (pc := 23) (rest := [.ref (ad 0)]) (As := [.int (nI (p / wd))]) hc (c_X12_walkOf l E ad hA sc ar la (nI (p / wd)) (hW) (hW60) (hF) (hF200)) mi_X12_walkOf tw_1197 0 rfl rfl rfl rfl ⟨rfl, rfl, by decide, by decide⟩ (Nat.le_of_ble_eq_true rfl) ⟨Nat.le_refl _, Nat.le_refl _⟩ rfl dX12_count_23 ?_
      refine g_iload_n (pc := 26) hc 1 dX12_count_26 rfl rfl ?_
      refine g_iload_n (pc := 27) hc 2 dX12_count_27 rfl rfl ?_
      refine g_callVi (pc := 28) (rest := []) (As := [.int (mtl nW nF (ar 3) (ar 5) (ar 8) (nI (p / wd))), .int (nI p), .int y]) hc (c_X12_at l E ad hA sc ar la (mtl nW nF (ar 3) (ar 5) (ar 8) (nI (p / wd))) (nI p) y (hF) (hF200)) mi_X12_at tw_1209 0 rfl rfl rfl rfl ⟨rfl, rfl, by decide, by decide⟩ (Nat.le_of_ble_eq_true rfl) ⟨Nat.le_refl _, Nat.le_refl _⟩ rfl dX12_count_28 ?_
      refine g_goto (pc := 31) hc 36 dX12_count_31 (by decide) ?_
      exact g_iret (pc := 36) hc dX12_count_36 (by rw [if_pos (ok2_t c1 c2), hx, tn, nI_clamp (by omega)]) (rfl)

theorem dX12_gap_0 : decode cX12_gap 0 = .ok (.iconst 0, 1) := by decide +kernel
theorem dX12_gap_1 : decode cX12_gap 1 = .ok (.istore_n 1, 1) := by decide +kernel
theorem dX12_gap_2 : decode cX12_gap 2 = .ok (.iload_n 1, 1) := by decide +kernel
theorem dX12_gap_3 : decode cX12_gap 3 = .ok (.aload_n 0, 1) := by decide +kernel
theorem dX12_gap_4 : decode cX12_gap 4 = .ok (.getfield 13, 3) := by decide +kernel
theorem dX12_gap_7 : decode cX12_gap 7 = .ok (.if_icmp .ge 19, 3) := by decide +kernel
theorem dX12_gap_10 : decode cX12_gap 10 = .ok (.aload_n 0, 1) := by decide +kernel
theorem dX12_gap_11 : decode cX12_gap 11 = .ok (.iload_n 1, 1) := by decide +kernel
theorem dX12_gap_12 : decode cX12_gap 12 = .ok (.invokevirtual 161, 3) := by decide +kernel
theorem dX12_gap_15 : decode cX12_gap 15 = .ok (.ifCond .ge 5, 3) := by decide +kernel
theorem dX12_gap_18 : decode cX12_gap 18 = .ok (.iload_n 1, 1) := by decide +kernel
theorem dX12_gap_19 : decode cX12_gap 19 = .ok (.ireturn, 1) := by decide +kernel
theorem dX12_gap_20 : decode cX12_gap 20 = .ok (.iinc 1 1, 3) := by decide +kernel
theorem dX12_gap_23 : decode cX12_gap 23 = .ok (.goto (-21), 3) := by decide +kernel
theorem dX12_gap_26 : decode cX12_gap 26 = .ok (.ldc 135, 2) := by decide +kernel
theorem dX12_gap_28 : decode cX12_gap 28 = .ok (.ireturn, 1) := by decide +kernel

set_option maxHeartbeats 4000000 in
set_option maxRecDepth 100000 in
theorem c_X12_gap (l : Launch) (E : Ev) {A : Nat → Prop} (ad : Nat → Nat) (hA : Oka 30 ad A) (sc : Nat → Int32) (ar : Nat → Nat → Int32) (la : Nat → Int64) {nW nF wd hg : Nat}  (hW : sc 3 = nI nW) (hW60 : nW ≤ 60) (hF : sc 4 = nI nF) (hF200 : nF ≤ 200) (hwd : sc 0 = nI wd) (hwd1 : 2 ≤ wd) (hwd2 : wd ≤ 8) (hhg : sc 1 = nI hg) (hhg1 : 2 ≤ hg) (hhg2 : hg ≤ 8) : Ct l E yX12_gap (.code yX12_gap cX12_gap 2 (some .int)) ({ frames := 2, cells := 0, slots := 0, locals := 49 }) A (mw E ad sc ar la) [.ref (ad 0)] (some (.int (if fstL (fun r => decide (mtl nW nF (ar 3) (ar 5) (ar 8) (nI r) < 0)) hg = (-1) then (-1000000005) else fstL (fun r => decide (mtl nW nF (ar 3) (ar 5) (ar 8) (nI r) < 0)) hg))) (mw E ad sc ar la) := by
  refine Ct.of (lv := [(0, .ref (ad 0))]) (by decide +kernel) (Nat.le_of_ble_eq_true rfl) rfl ?_
  intro zp ze zs zm za zb zh zc hc
  refine g_iconst (pc := 0) (v := nI 0) hc dX12_gap_0 (by decide) ?_
  refine g_istore_n (pc := 1) (lv' := [(0, .ref (ad 0)), (1, .int (nI 0))]) hc dX12_gap_1 rfl (by decide) rfl ?_
  have L2_1 : ∀ (ki i : Nat), i + ki = hg → (hno : ∀ k, k < i → (fun r => decide (mtl nW nF (ar 3) (ar 5) (ar 8) (nI r) < 0)) k = false) → G zp l ze ({ frames := 2, cells := 0, slots := 0, locals := 49 }) zs zm za zb zh zc 0 0 (MQ zb (Qz E A (some (.int (if fstL (fun r => decide (mtl nW nF (ar 3) (ar 5) (ar 8) (nI r) < 0)) hg = (-1) then (-1000000005) else fstL (fun r => decide (mtl nW nF (ar 3) (ar 5) (ar 8) (nI r) < 0)) hg))) (mw E ad sc ar la)) za zs 0 0 A) E A 2 (mw E ad sc ar la) (2) [(0, .ref (ad 0)), (1, .int (nI (i)))] [] := by
    intro ki
    induction ki with
    | zero =>
      intro i lhi hno
      have lhin : hg = i := by omega
      subst lhin
      refine g_iload_n (pc := 2) hc 1 dX12_gap_2 rfl rfl ?_
      refine g_aload_n (pc := 3) hc 0 dX12_gap_3 rfl rfl ?_
      refine gf_m0_high (pc := 4) hc tw_1002 dX12_gap_4 ?_
      refine g_topi (v := nI hg) (hhg) ?_
      refine g_icmp_ge_t (pc := 7) hc 26 dX12_gap_7 (by decide) (nI_le (by omega) (by omega)) ?_
      refine g_ldc (pc := 26) (v := (-1000000005)) hc tw_1174 dX12_gap_26 ?_
      exact g_iret (pc := 28) hc dX12_gap_28 (by rw [fstL_none hno, if_pos rfl]) (rfl)
    | succ ki ihi =>
      intro i lhi hno
      have lhin : i < hg := by omega
      refine g_iload_n (pc := 2) hc 1 dX12_gap_2 rfl rfl ?_
      refine g_aload_n (pc := 3) hc 0 dX12_gap_3 rfl rfl ?_
      refine gf_m0_high (pc := 4) hc tw_1002 dX12_gap_4 ?_
      refine g_topi (v := nI hg) (hhg) ?_
      refine g_icmp_ge_f (pc := 7) hc 26 dX12_gap_7 (by decide) (nI_ge (by omega) (by omega)) ?_
      refine g_aload_n (pc := 10) hc 0 dX12_gap_10 rfl rfl ?_
      refine g_iload_n (pc := 11) hc 1 dX12_gap_11 rfl rfl ?_
      refine g_callVi (pc := 12) (rest := []) (As := [.int (nI (i))]) hc (c_X12_walkOf l E ad hA sc ar la (nI (i)) (hW) (hW60) (hF) (hF200)) mi_X12_walkOf tw_1197 0 rfl rfl rfl rfl ⟨rfl, rfl, by decide, by decide⟩ (Nat.le_of_ble_eq_true rfl) ⟨Nat.le_refl _, Nat.le_refl _⟩ rfl dX12_gap_12 ?_
      refine g_if_ge (pc := 15) hc 20 dX12_gap_15 (by decide) (fun c2 => ?_) (fun c2 => ?_)
      · refine g_iinc (pc := 20) (v := nI (i + 1)) (lv' := [(0, .ref (ad 0)), (1, .int (nI (i + 1)))]) hc 1 dX12_gap_20 rfl (nI_ofi i 1) (by decide) rfl ?_
        refine g_goto (pc := 23) hc 2 dX12_gap_23 (by decide) ?_
        exact g_eq (ws' := mw E ad sc ar la) (lv' := [(0, .ref (ad 0)), (1, .int (nI (i + 1)))]) (rfl) (rfl) rfl (ihi (i + 1) (by omega) (lt_s hno (decide_eq_false (Int32.not_lt.mpr c2))))
      · refine g_iload_n (pc := 18) hc 1 dX12_gap_18 rfl rfl ?_
        exact g_iret (pc := 19) hc dX12_gap_19 (by rw [fstL_some hno (decide_eq_true (Int32.not_le.mp c2)) (by omega) lhin, if_neg (nI_ne_m1 (by omega))]) (rfl)
  exact g_eq (ws' := mw E ad sc ar la) (lv' := [(0, .ref (ad 0)), (1, .int (nI (0)))]) (rfl) (rfl) rfl (L2_1 (hg - 0) (0) (by omega) (fun k hk => absurd hk (Nat.not_lt_zero k)))

def iwl (wk pa : Nat → Int32) (x y z : Int32) : Nat → Int32
  | 0 => z
  | f + 1 => if wk f = x then (if pa f = y then iwl wk pa x y z f + Int32.ofInt (-1) else iwl wk pa x y z f) else iwl wk pa x y z f
theorem iwl_succ (wk pa : Nat → Int32) (x y z : Int32) (f : Nat) : iwl wk pa x y z (f + 1) = if wk f = x then (if pa f = y then iwl wk pa x y z f + Int32.ofInt (-1) else iwl wk pa x y z f) else iwl wk pa x y z f := rfl
def htl (wk pa : Nat → Int32) (x y z : Int32) (f : Nat) : Bool := if wk f = x then (if pa f = y then (if iwl wk pa x y z f = 0 then true else false) else false) else false

theorem dX12_led_0 : decode cX12_led 0 = .ok (.aload_n 0, 1) := by decide +kernel
theorem dX12_led_1 : decode cX12_led 1 = .ok (.iload_n 1, 1) := by decide +kernel
theorem dX12_led_2 : decode cX12_led 2 = .ok (.invokevirtual 154, 3) := by decide +kernel
theorem dX12_led_5 : decode cX12_led 5 = .ok (.ifCond .eq 7, 3) := by decide +kernel
theorem dX12_led_8 : decode cX12_led 8 = .ok (.iload_n 2, 1) := by decide +kernel
theorem dX12_led_9 : decode cX12_led 9 = .ok (.ifCond .ge 6, 3) := by decide +kernel
theorem dX12_led_12 : decode cX12_led 12 = .ok (.ldc 120, 2) := by decide +kernel
theorem dX12_led_14 : decode cX12_led 14 = .ok (.ireturn, 1) := by decide +kernel
theorem dX12_led_15 : decode cX12_led 15 = .ok (.aload_n 0, 1) := by decide +kernel
theorem dX12_led_16 : decode cX12_led 16 = .ok (.iload_n 1, 1) := by decide +kernel
theorem dX12_led_17 : decode cX12_led 17 = .ok (.aload_n 0, 1) := by decide +kernel
theorem dX12_led_18 : decode cX12_led 18 = .ok (.getfield 7, 3) := by decide +kernel
theorem dX12_led_21 : decode cX12_led 21 = .ok (.idiv, 1) := by decide +kernel
theorem dX12_led_22 : decode cX12_led 22 = .ok (.invokevirtual 161, 3) := by decide +kernel
theorem dX12_led_25 : decode cX12_led 25 = .ok (.istore_n 3, 1) := by decide +kernel
theorem dX12_led_26 : decode cX12_led 26 = .ok (.iload_n 2, 1) := by decide +kernel
theorem dX12_led_27 : decode cX12_led 27 = .ok (.istore 4, 2) := by decide +kernel
theorem dX12_led_29 : decode cX12_led 29 = .ok (.iconst 0, 1) := by decide +kernel
theorem dX12_led_30 : decode cX12_led 30 = .ok (.istore 5, 2) := by decide +kernel
theorem dX12_led_32 : decode cX12_led 32 = .ok (.iload 5, 2) := by decide +kernel
theorem dX12_led_34 : decode cX12_led 34 = .ok (.aload_n 0, 1) := by decide +kernel
theorem dX12_led_35 : decode cX12_led 35 = .ok (.getfield 121, 3) := by decide +kernel
theorem dX12_led_38 : decode cX12_led 38 = .ok (.if_icmp .ge 42, 3) := by decide +kernel
theorem dX12_led_41 : decode cX12_led 41 = .ok (.aload_n 0, 1) := by decide +kernel
theorem dX12_led_42 : decode cX12_led 42 = .ok (.getfield 29, 3) := by decide +kernel
theorem dX12_led_45 : decode cX12_led 45 = .ok (.iload 5, 2) := by decide +kernel
theorem dX12_led_47 : decode cX12_led 47 = .ok (.iaload, 1) := by decide +kernel
theorem dX12_led_48 : decode cX12_led 48 = .ok (.iload_n 3, 1) := by decide +kernel
theorem dX12_led_49 : decode cX12_led 49 = .ok (.if_icmp .ne 25, 3) := by decide +kernel
theorem dX12_led_52 : decode cX12_led 52 = .ok (.aload_n 0, 1) := by decide +kernel
theorem dX12_led_53 : decode cX12_led 53 = .ok (.getfield 32, 3) := by decide +kernel
theorem dX12_led_56 : decode cX12_led 56 = .ok (.iload 5, 2) := by decide +kernel
theorem dX12_led_58 : decode cX12_led 58 = .ok (.iaload, 1) := by decide +kernel
theorem dX12_led_59 : decode cX12_led 59 = .ok (.iload_n 1, 1) := by decide +kernel
theorem dX12_led_60 : decode cX12_led 60 = .ok (.if_icmp .ne 14, 3) := by decide +kernel
theorem dX12_led_63 : decode cX12_led 63 = .ok (.iload 4, 2) := by decide +kernel
theorem dX12_led_65 : decode cX12_led 65 = .ok (.ifCond .ne 6, 3) := by decide +kernel
theorem dX12_led_68 : decode cX12_led 68 = .ok (.iload 5, 2) := by decide +kernel
theorem dX12_led_70 : decode cX12_led 70 = .ok (.ireturn, 1) := by decide +kernel
theorem dX12_led_71 : decode cX12_led 71 = .ok (.iinc 4 (-1), 3) := by decide +kernel
theorem dX12_led_74 : decode cX12_led 74 = .ok (.iinc 5 1, 3) := by decide +kernel
theorem dX12_led_77 : decode cX12_led 77 = .ok (.goto (-45), 3) := by decide +kernel
theorem dX12_led_80 : decode cX12_led 80 = .ok (.ldc 135, 2) := by decide +kernel
theorem dX12_led_82 : decode cX12_led 82 = .ok (.ireturn, 1) := by decide +kernel

set_option maxHeartbeats 4000000 in
set_option maxRecDepth 100000 in
theorem c_X12_led (l : Launch) (E : Ev) {A : Nat → Prop} (ad : Nat → Nat) (hA : Oka 30 ad A) (sc : Nat → Int32) (ar : Nat → Nat → Int32) (la : Nat → Int64) {nW nF wd hg : Nat} (x : Int32) (y : Int32) (hW : sc 3 = nI nW) (hW60 : nW ≤ 60) (hF : sc 4 = nI nF) (hF200 : nF ≤ 200) (hwd : sc 0 = nI wd) (hwd1 : 2 ≤ wd) (hwd2 : wd ≤ 8) (hhg : sc 1 = nI hg) (hhg1 : 2 ≤ hg) (hhg2 : hg ≤ 8) : Ct l E yX12_led (.code yX12_led cX12_led 6 (some .int)) ({ frames := 2, cells := 0, slots := 0, locals := 49 }) A (mw E ad sc ar la) [.ref (ad 0), .int x, .int y] (some (.int (if inx x (nI (wd * hg)) = true then (if 0 ≤ y then (if fstL (htl (ar 5) (ar 6) (mtl nW nF (ar 3) (ar 5) (ar 8) (nI (tn x / wd))) x y) nF = (-1) then (-1000000005) else fstL (htl (ar 5) (ar 6) (mtl nW nF (ar 3) (ar 5) (ar 8) (nI (tn x / wd))) x y) nF) else (-1000000001)) else (-1000000001)))) (mw E ad sc ar la) := by
  have hm := prod64 hwd2 hhg2
  refine Ct.of (lv := [(0, .ref (ad 0)), (1, .int x), (2, .int y)]) (by decide +kernel) (Nat.le_of_ble_eq_true rfl) rfl ?_
  intro zp ze zs zm za zb zh zc hc
  refine g_aload_n (pc := 0) hc 0 dX12_led_0 rfl rfl ?_
  refine g_iload_n (pc := 1) hc 1 dX12_led_1 rfl rfl ?_
  refine g_callVi (pc := 2) (rest := []) (As := [.int x]) hc (c_X12_isPace l E ad hA sc ar la x (hwd) (hwd1) (hwd2) (hhg) (hhg1) (hhg2)) mi_X12_isPace tw_1185 0 rfl rfl rfl rfl ⟨rfl, rfl, by decide, by decide⟩ (Nat.le_of_ble_eq_true rfl) ⟨Nat.le_refl _, Nat.le_refl _⟩ rfl dX12_led_2 ?_
  refine g_if_eq_b (pc := 5) hc 12 dX12_led_5 (by decide) (fun c1 => ?_) (fun c1 => ?_)
  · refine g_ldc (pc := 12) (v := (-1000000001)) hc tw_1139 dX12_led_12 ?_
    exact g_iret (pc := 14) hc dX12_led_14 (by (repeat (first | rw [if_pos c1] | rw [if_neg c1] | rw [if_neg (ne_true_of_eq_false c1)]))) (rfl)
  · refine g_iload_n (pc := 8) hc 2 dX12_led_8 rfl rfl ?_
    refine g_if_ge (pc := 9) hc 15 dX12_led_9 (by decide) (fun c2 => ?_) (fun c2 => ?_)
    · obtain ⟨p, hp, hx⟩ := inx_of (by omega) c1
      refine g_eq (ws' := mw E ad sc ar la) (lv' := [(0, .ref (ad 0)), (1, .int (nI p)), (2, .int y)]) rfl (by rw [hx]) rfl ?_
      refine g_aload_n (pc := 15) hc 0 dX12_led_15 rfl rfl ?_
      refine g_iload_n (pc := 16) hc 1 dX12_led_16 rfl rfl ?_
      refine g_aload_n (pc := 17) hc 0 dX12_led_17 rfl rfl ?_
      refine gf_m0_wide (pc := 18) hc tw_1001 dX12_led_18 ?_
      refine g_topi (v := nI wd) (hwd) ?_
      refine g_idiv (pc := 21) hc dX12_led_21 (nI_ne0 (by omega) (by omega)) ?_
      refine g_topi (v := nI (p / wd)) (ldiv_nI hwd1 hwd2 (by omega)) ?_
      refine g_callVi (pc := 22) (rest := []) (As := [.int (nI (p / wd))]) hc (c_X12_walkOf l E ad hA sc ar la (nI (p / wd)) (hW) (hW60) (hF) (hF200)) mi_X12_walkOf tw_1197 0 rfl rfl rfl rfl ⟨rfl, rfl, by decide, by decide⟩ (Nat.le_of_ble_eq_true rfl) ⟨Nat.le_refl _, Nat.le_refl _⟩ rfl dX12_led_22 ?_
      refine g_istore_n (pc := 25) (lv' := [(0, .ref (ad 0)), (1, .int (nI p)), (2, .int y), (3, .int (mtl nW nF (ar 3) (ar 5) (ar 8) (nI (p / wd))))]) hc dX12_led_25 rfl (by decide) rfl ?_
      refine g_iload_n (pc := 26) hc 2 dX12_led_26 rfl rfl ?_
      refine g_istore (pc := 27) (lv' := [(0, .ref (ad 0)), (1, .int (nI p)), (2, .int y), (3, .int (mtl nW nF (ar 3) (ar 5) (ar 8) (nI (p / wd)))), (4, .int y)]) hc dX12_led_27 (by decide) rfl ?_
      refine g_iconst (pc := 29) (v := nI 0) hc dX12_led_29 (by decide) ?_
      refine g_istore (pc := 30) (lv' := [(0, .ref (ad 0)), (1, .int (nI p)), (2, .int y), (3, .int (mtl nW nF (ar 3) (ar 5) (ar 8) (nI (p / wd)))), (4, .int y), (5, .int (nI 0))]) hc dX12_led_30 (by decide) rfl ?_
      have L32_3 : ∀ (ki i : Nat), i + ki = nF → (hno : ∀ k, k < i → htl (ar 5) (ar 6) (mtl nW nF (ar 3) (ar 5) (ar 8) (nI (p / wd))) (nI p) y k = false) → G zp l ze ({ frames := 2, cells := 0, slots := 0, locals := 49 }) zs zm za zb zh zc 0 0 (MQ zb (Qz E A (some (.int (if inx x (nI (wd * hg)) = true then (if 0 ≤ y then (if fstL (htl (ar 5) (ar 6) (mtl nW nF (ar 3) (ar 5) (ar 8) (nI (tn x / wd))) x y) nF = (-1) then (-1000000005) else fstL (htl (ar 5) (ar 6) (mtl nW nF (ar 3) (ar 5) (ar 8) (nI (tn x / wd))) x y) nF) else (-1000000001)) else (-1000000001)))) (mw E ad sc ar la)) za zs 0 0 A) E A 6 (mw E ad sc ar la) (32) [(0, .ref (ad 0)), (1, .int (nI p)), (2, .int y), (3, .int (mtl nW nF (ar 3) (ar 5) (ar 8) (nI (p / wd)))), (4, .int (iwl (ar 5) (ar 6) (mtl nW nF (ar 3) (ar 5) (ar 8) (nI (p / wd))) (nI p) y (i))), (5, .int (nI (i)))] [] := by
        intro ki
        induction ki with
        | zero =>
          intro i lhi hno
          have lhin : nF = i := by omega
          subst lhin
          refine g_iload (pc := 32) hc 5 dX12_led_32 rfl ?_
          refine g_aload_n (pc := 34) hc 0 dX12_led_34 rfl rfl ?_
          refine gf_m0_finds (pc := 35) hc tw_1009 dX12_led_35 ?_
          refine g_topi (v := nI nF) (hF) ?_
          refine g_icmp_ge_t (pc := 38) hc 80 dX12_led_38 (by decide) (nI_le (by omega) (by omega)) ?_
          refine g_ldc (pc := 80) (v := (-1000000005)) hc tw_1174 dX12_led_80 ?_
          exact g_iret (pc := 82) hc dX12_led_82 (by (repeat (first | rw [if_pos c1] | rw [if_neg c1] | rw [if_neg (ne_true_of_eq_false c1)] | rw [if_pos c2] | rw [if_neg c2] | rw [if_neg (ne_true_of_eq_false c2)])); rw [hx, tn, nI_clamp (by omega), fstL_none hno, if_pos rfl]) (rfl)
        | succ ki ihi =>
          intro i lhi hno
          have lhin : i < nF := by omega
          refine g_iload (pc := 32) hc 5 dX12_led_32 rfl ?_
          refine g_aload_n (pc := 34) hc 0 dX12_led_34 rfl rfl ?_
          refine gf_m0_finds (pc := 35) hc tw_1009 dX12_led_35 ?_
          refine g_topi (v := nI nF) (hF) ?_
          refine g_icmp_ge_f (pc := 38) hc 80 dX12_led_38 (by decide) (nI_ge (by omega) (by omega)) ?_
          refine g_aload_n (pc := 41) hc 0 dX12_led_41 rfl rfl ?_
          refine gf_m0_fWalk (pc := 42) hc tw_1010 dX12_led_42 ?_
          refine g_iload (pc := 45) hc 5 dX12_led_45 rfl ?_
          refine la_m5 (pc := 47) hc (i) (rfl) (by omega) dX12_led_47 ?_
          refine g_iload_n (pc := 48) hc 3 dX12_led_48 rfl rfl ?_
          refine g_icmp_ne (pc := 49) hc 74 dX12_led_49 (by decide) (fun c4 => ?_) (fun c4 => ?_)
          · refine g_iinc (pc := 74) (v := nI (i + 1)) (lv' := [(0, .ref (ad 0)), (1, .int (nI p)), (2, .int y), (3, .int (mtl nW nF (ar 3) (ar 5) (ar 8) (nI (p / wd)))), (4, .int (iwl (ar 5) (ar 6) (mtl nW nF (ar 3) (ar 5) (ar 8) (nI (p / wd))) (nI p) y (i))), (5, .int (nI (i + 1)))]) hc 5 dX12_led_74 rfl (nI_ofi i 1) (by decide) rfl ?_
            refine g_goto (pc := 77) hc 32 dX12_led_77 (by decide) ?_
            exact g_eq (ws' := mw E ad sc ar la) (lv' := [(0, .ref (ad 0)), (1, .int (nI p)), (2, .int y), (3, .int (mtl nW nF (ar 3) (ar 5) (ar 8) (nI (p / wd)))), (4, .int (iwl (ar 5) (ar 6) (mtl nW nF (ar 3) (ar 5) (ar 8) (nI (p / wd))) (nI p) y (i + 1))), (5, .int (nI (i + 1)))]) (rfl) (by rw [iwl_succ]; repeat (first | rw [if_pos c4] | rw [if_neg c4] | rw [if_neg (ne_true_of_eq_false c4)])) rfl (ihi (i + 1) (by omega) (lt_s hno (by unfold htl; (repeat (first | rw [if_pos c4] | rw [if_neg c4] | rw [if_neg (ne_true_of_eq_false c4)])))))
          · refine g_aload_n (pc := 52) hc 0 dX12_led_52 rfl rfl ?_
            refine gf_m0_fPace (pc := 53) hc tw_1011 dX12_led_53 ?_
            refine g_iload (pc := 56) hc 5 dX12_led_56 rfl ?_
            refine la_m6 (pc := 58) hc (i) (rfl) (by omega) dX12_led_58 ?_
            refine g_iload_n (pc := 59) hc 1 dX12_led_59 rfl rfl ?_
            refine g_icmp_ne (pc := 60) hc 74 dX12_led_60 (by decide) (fun c5 => ?_) (fun c5 => ?_)
            · refine g_iinc (pc := 74) (v := nI (i + 1)) (lv' := [(0, .ref (ad 0)), (1, .int (nI p)), (2, .int y), (3, .int (mtl nW nF (ar 3) (ar 5) (ar 8) (nI (p / wd)))), (4, .int (iwl (ar 5) (ar 6) (mtl nW nF (ar 3) (ar 5) (ar 8) (nI (p / wd))) (nI p) y (i))), (5, .int (nI (i + 1)))]) hc 5 dX12_led_74 rfl (nI_ofi i 1) (by decide) rfl ?_
              refine g_goto (pc := 77) hc 32 dX12_led_77 (by decide) ?_
              exact g_eq (ws' := mw E ad sc ar la) (lv' := [(0, .ref (ad 0)), (1, .int (nI p)), (2, .int y), (3, .int (mtl nW nF (ar 3) (ar 5) (ar 8) (nI (p / wd)))), (4, .int (iwl (ar 5) (ar 6) (mtl nW nF (ar 3) (ar 5) (ar 8) (nI (p / wd))) (nI p) y (i + 1))), (5, .int (nI (i + 1)))]) (rfl) (by rw [iwl_succ]; repeat (first | rw [if_pos c4] | rw [if_neg c4] | rw [if_neg (ne_true_of_eq_false c4)] | rw [if_pos c5] | rw [if_neg c5] | rw [if_neg (ne_true_of_eq_false c5)])) rfl (ihi (i + 1) (by omega) (lt_s hno (by unfold htl; (repeat (first | rw [if_pos c4] | rw [if_neg c4] | rw [if_neg (ne_true_of_eq_false c4)] | rw [if_pos c5] | rw [if_neg c5] | rw [if_neg (ne_true_of_eq_false c5)])))))
            · refine g_iload (pc := 63) hc 4 dX12_led_63 rfl ?_
              refine g_if_ne (pc := 65) hc 71 dX12_led_65 (by decide) (fun c6 => ?_) (fun c6 => ?_)
              · refine g_iinc (pc := 71) (v := (iwl (ar 5) (ar 6) (mtl nW nF (ar 3) (ar 5) (ar 8) (nI (p / wd))) (nI p) y (i)) + Int32.ofInt (-1)) (lv' := [(0, .ref (ad 0)), (1, .int (nI p)), (2, .int y), (3, .int (mtl nW nF (ar 3) (ar 5) (ar 8) (nI (p / wd)))), (4, .int ((iwl (ar 5) (ar 6) (mtl nW nF (ar 3) (ar 5) (ar 8) (nI (p / wd))) (nI p) y (i)) + Int32.ofInt (-1))), (5, .int (nI (i)))]) hc 4 dX12_led_71 rfl (rfl) (by decide) rfl ?_
                refine g_iinc (pc := 74) (v := nI (i + 1)) (lv' := [(0, .ref (ad 0)), (1, .int (nI p)), (2, .int y), (3, .int (mtl nW nF (ar 3) (ar 5) (ar 8) (nI (p / wd)))), (4, .int ((iwl (ar 5) (ar 6) (mtl nW nF (ar 3) (ar 5) (ar 8) (nI (p / wd))) (nI p) y (i)) + Int32.ofInt (-1))), (5, .int (nI (i + 1)))]) hc 5 dX12_led_74 rfl (nI_ofi i 1) (by decide) rfl ?_
                refine g_goto (pc := 77) hc 32 dX12_led_77 (by decide) ?_
                exact g_eq (ws' := mw E ad sc ar la) (lv' := [(0, .ref (ad 0)), (1, .int (nI p)), (2, .int y), (3, .int (mtl nW nF (ar 3) (ar 5) (ar 8) (nI (p / wd)))), (4, .int (iwl (ar 5) (ar 6) (mtl nW nF (ar 3) (ar 5) (ar 8) (nI (p / wd))) (nI p) y (i + 1))), (5, .int (nI (i + 1)))]) (rfl) (by rw [iwl_succ]; repeat (first | rw [if_pos c4] | rw [if_neg c4] | rw [if_neg (ne_true_of_eq_false c4)] | rw [if_pos c5] | rw [if_neg c5] | rw [if_neg (ne_true_of_eq_false c5)] | rw [if_pos c6] | rw [if_neg c6] | rw [if_neg (ne_true_of_eq_false c6)])) rfl (ihi (i + 1) (by omega) (lt_s hno (by unfold htl; (repeat (first | rw [if_pos c4] | rw [if_neg c4] | rw [if_neg (ne_true_of_eq_false c4)] | rw [if_pos c5] | rw [if_neg c5] | rw [if_neg (ne_true_of_eq_false c5)] | rw [if_pos c6] | rw [if_neg c6] | rw [if_neg (ne_true_of_eq_false c6)])))))
              · refine g_iload (pc := 68) hc 5 dX12_led_68 rfl ?_
                exact g_iret (pc := 70) hc dX12_led_70 (by (repeat (first | rw [if_pos c1] | rw [if_neg c1] | rw [if_neg (ne_true_of_eq_false c1)] | rw [if_pos c2] | rw [if_neg c2] | rw [if_neg (ne_true_of_eq_false c2)])); rw [hx, tn, nI_clamp (by omega), fstL_some hno (by unfold htl; (repeat (first | rw [if_pos c4] | rw [if_neg c4] | rw [if_neg (ne_true_of_eq_false c4)] | rw [if_pos c5] | rw [if_neg c5] | rw [if_neg (ne_true_of_eq_false c5)] | rw [if_pos c6] | rw [if_neg c6] | rw [if_neg (ne_true_of_eq_false c6)]))) (by omega) lhin, if_neg (nI_ne_m1 (by omega))]) (rfl)
      exact g_eq (ws' := mw E ad sc ar la) (lv' := [(0, .ref (ad 0)), (1, .int (nI p)), (2, .int y), (3, .int (mtl nW nF (ar 3) (ar 5) (ar 8) (nI (p / wd)))), (4, .int (iwl (ar 5) (ar 6) (mtl nW nF (ar 3) (ar 5) (ar 8) (nI (p / wd))) (nI p) y (0))), (5, .int (nI (0)))]) (rfl) (rfl) rfl (L32_3 (nF - 0) (0) (by omega) (fun k hk => absurd hk (Nat.not_lt_zero k)))
    · refine g_ldc (pc := 12) (v := (-1000000001)) hc tw_1139 dX12_led_12 ?_
      exact g_iret (pc := 14) hc dX12_led_14 (by (repeat (first | rw [if_pos c1] | rw [if_neg c1] | rw [if_neg (ne_true_of_eq_false c1)] | rw [if_pos c2] | rw [if_neg c2] | rw [if_neg (ne_true_of_eq_false c2)]))) (rfl)
