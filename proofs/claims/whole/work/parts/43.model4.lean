theorem dX12_pair_0 : decode cX12_pair 0 = .ok (.iload_n 1, 1) := by decide +kernel
theorem dX12_pair_1 : decode cX12_pair 1 = .ok (.invokestatic 136, 3) := by decide +kernel
theorem dX12_pair_4 : decode cX12_pair 4 = .ok (.ifCond .eq 24, 3) := by decide +kernel
theorem dX12_pair_7 : decode cX12_pair 7 = .ok (.iload_n 2, 1) := by decide +kernel
theorem dX12_pair_8 : decode cX12_pair 8 = .ok (.invokestatic 136, 3) := by decide +kernel
theorem dX12_pair_11 : decode cX12_pair 11 = .ok (.ifCond .eq 17, 3) := by decide +kernel
theorem dX12_pair_14 : decode cX12_pair 14 = .ok (.iload_n 1, 1) := by decide +kernel
theorem dX12_pair_15 : decode cX12_pair 15 = .ok (.iload_n 2, 1) := by decide +kernel
theorem dX12_pair_16 : decode cX12_pair 16 = .ok (.if_icmp .eq 12, 3) := by decide +kernel
theorem dX12_pair_19 : decode cX12_pair 19 = .ok (.iload_n 3, 1) := by decide +kernel
theorem dX12_pair_20 : decode cX12_pair 20 = .ok (.iconst 0, 1) := by decide +kernel
theorem dX12_pair_21 : decode cX12_pair 21 = .ok (.iconst 2, 1) := by decide +kernel
theorem dX12_pair_22 : decode cX12_pair 22 = .ok (.invokestatic 113, 3) := by decide +kernel
theorem dX12_pair_25 : decode cX12_pair 25 = .ok (.ifCond .ne 6, 3) := by decide +kernel
theorem dX12_pair_28 : decode cX12_pair 28 = .ok (.ldc 120, 2) := by decide +kernel
theorem dX12_pair_30 : decode cX12_pair 30 = .ok (.ireturn, 1) := by decide +kernel
theorem dX12_pair_31 : decode cX12_pair 31 = .ok (.iconst 0, 1) := by decide +kernel
theorem dX12_pair_32 : decode cX12_pair 32 = .ok (.istore 4, 2) := by decide +kernel
theorem dX12_pair_34 : decode cX12_pair 34 = .ok (.iconst 0, 1) := by decide +kernel
theorem dX12_pair_35 : decode cX12_pair 35 = .ok (.istore 5, 2) := by decide +kernel
theorem dX12_pair_37 : decode cX12_pair 37 = .ok (.iload 5, 2) := by decide +kernel
theorem dX12_pair_39 : decode cX12_pair 39 = .ok (.aload_n 0, 1) := by decide +kernel
theorem dX12_pair_40 : decode cX12_pair 40 = .ok (.getfield 117, 3) := by decide +kernel
theorem dX12_pair_43 : decode cX12_pair 43 = .ok (.if_icmp .ge 96, 3) := by decide +kernel
theorem dX12_pair_46 : decode cX12_pair 46 = .ok (.iconst 0, 1) := by decide +kernel
theorem dX12_pair_47 : decode cX12_pair 47 = .ok (.istore 6, 2) := by decide +kernel
theorem dX12_pair_49 : decode cX12_pair 49 = .ok (.iload 6, 2) := by decide +kernel
theorem dX12_pair_51 : decode cX12_pair 51 = .ok (.aload_n 0, 1) := by decide +kernel
theorem dX12_pair_52 : decode cX12_pair 52 = .ok (.getfield 117, 3) := by decide +kernel
theorem dX12_pair_55 : decode cX12_pair 55 = .ok (.if_icmp .ge 78, 3) := by decide +kernel
theorem dX12_pair_58 : decode cX12_pair 58 = .ok (.aload_n 0, 1) := by decide +kernel
theorem dX12_pair_59 : decode cX12_pair 59 = .ok (.getfield 20, 3) := by decide +kernel
theorem dX12_pair_62 : decode cX12_pair 62 = .ok (.iload 5, 2) := by decide +kernel
theorem dX12_pair_64 : decode cX12_pair 64 = .ok (.iaload, 1) := by decide +kernel
theorem dX12_pair_65 : decode cX12_pair 65 = .ok (.iload_n 1, 1) := by decide +kernel
theorem dX12_pair_66 : decode cX12_pair 66 = .ok (.if_icmp .ne 67, 3) := by decide +kernel
theorem dX12_pair_69 : decode cX12_pair 69 = .ok (.aload_n 0, 1) := by decide +kernel
theorem dX12_pair_70 : decode cX12_pair 70 = .ok (.getfield 20, 3) := by decide +kernel
theorem dX12_pair_73 : decode cX12_pair 73 = .ok (.iload 6, 2) := by decide +kernel
theorem dX12_pair_75 : decode cX12_pair 75 = .ok (.iaload, 1) := by decide +kernel
theorem dX12_pair_76 : decode cX12_pair 76 = .ok (.iload_n 2, 1) := by decide +kernel
theorem dX12_pair_77 : decode cX12_pair 77 = .ok (.if_icmp .ne 50, 3) := by decide +kernel
theorem dX12_pair_80 : decode cX12_pair 80 = .ok (.aload_n 0, 1) := by decide +kernel
theorem dX12_pair_81 : decode cX12_pair 81 = .ok (.getfield 23, 3) := by decide +kernel
theorem dX12_pair_84 : decode cX12_pair 84 = .ok (.iload 5, 2) := by decide +kernel
theorem dX12_pair_86 : decode cX12_pair 86 = .ok (.iaload, 1) := by decide +kernel
theorem dX12_pair_87 : decode cX12_pair 87 = .ok (.aload_n 0, 1) := by decide +kernel
theorem dX12_pair_88 : decode cX12_pair 88 = .ok (.getfield 23, 3) := by decide +kernel
theorem dX12_pair_91 : decode cX12_pair 91 = .ok (.iload 6, 2) := by decide +kernel
theorem dX12_pair_93 : decode cX12_pair 93 = .ok (.iaload, 1) := by decide +kernel
theorem dX12_pair_94 : decode cX12_pair 94 = .ok (.if_icmp .ne 33, 3) := by decide +kernel
theorem dX12_pair_97 : decode cX12_pair 97 = .ok (.iload 4, 2) := by decide +kernel
theorem dX12_pair_99 : decode cX12_pair 99 = .ok (.iload_n 3, 1) := by decide +kernel
theorem dX12_pair_100 : decode cX12_pair 100 = .ok (.ifCond .ne 7, 3) := by decide +kernel
theorem dX12_pair_103 : decode cX12_pair 103 = .ok (.iconst 1, 1) := by decide +kernel
theorem dX12_pair_104 : decode cX12_pair 104 = .ok (.goto 20, 3) := by decide +kernel
theorem dX12_pair_107 : decode cX12_pair 107 = .ok (.aload_n 0, 1) := by decide +kernel
theorem dX12_pair_108 : decode cX12_pair 108 = .ok (.iload_n 3, 1) := by decide +kernel
theorem dX12_pair_109 : decode cX12_pair 109 = .ok (.iconst 1, 1) := by decide +kernel
theorem dX12_pair_110 : decode cX12_pair 110 = .ok (.if_icmp .ne 8, 3) := by decide +kernel
theorem dX12_pair_113 : decode cX12_pair 113 = .ok (.iload 5, 2) := by decide +kernel
theorem dX12_pair_115 : decode cX12_pair 115 = .ok (.goto 5, 3) := by decide +kernel
theorem dX12_pair_118 : decode cX12_pair 118 = .ok (.iload 6, 2) := by decide +kernel
theorem dX12_pair_120 : decode cX12_pair 120 = .ok (.iconst 0, 1) := by decide +kernel
theorem dX12_pair_121 : decode cX12_pair 121 = .ok (.invokevirtual 157, 3) := by decide +kernel
theorem dX12_pair_124 : decode cX12_pair 124 = .ok (.iadd, 1) := by decide +kernel
theorem dX12_pair_125 : decode cX12_pair 125 = .ok (.istore 4, 2) := by decide +kernel
theorem dX12_pair_127 : decode cX12_pair 127 = .ok (.iinc 6 1, 3) := by decide +kernel
theorem dX12_pair_130 : decode cX12_pair 130 = .ok (.goto (-81), 3) := by decide +kernel
theorem dX12_pair_133 : decode cX12_pair 133 = .ok (.iinc 5 1, 3) := by decide +kernel
theorem dX12_pair_136 : decode cX12_pair 136 = .ok (.goto (-99), 3) := by decide +kernel
theorem dX12_pair_139 : decode cX12_pair 139 = .ok (.iload 4, 2) := by decide +kernel
theorem dX12_pair_141 : decode cX12_pair 141 = .ok (.ireturn, 1) := by decide +kernel

set_option maxHeartbeats 4000000 in
set_option maxRecDepth 100000 in
theorem c_X12_pair (l : Launch) (E : Ev) {A : Nat → Prop} (ad : Nat → Nat) (hA : Oka 30 ad A) (sc : Nat → Int32) (ar : Nat → Nat → Int32) (la : Nat → Int64) {nW nF : Nat} (x : Int32) (y : Int32) (z : Int32) (hW : sc 3 = nI nW) (hW60 : nW ≤ 60) (hF : sc 4 = nI nF) (hF200 : nF ≤ 200) (hK4 : ∀ f, f < nF → ∃ k, k < 4 ∧ ar 7 f = nI k) : Ct l E yX12_pair (.code yX12_pair cX12_pair 7 (some .int)) ({ frames := 2, cells := 0, slots := 0, locals := 42 }) A (mw E ad sc ar la) [.ref (ad 0), .int x, .int y, .int z] (some (.int (if ok2 (ok2 (inr x (nI 0) (nI 4)) (ok2 (inr y (nI 0) (nI 4)) (!decide (x = y)))) (inr z (nI 0) (nI 2)) = true then mp0 (ar 1) (ar 2) (ar 3) (ar 5) (ar 7) (ar 8) nW nF x y z nW else (-1000000001)))) (mw E ad sc ar la) := by
  refine Ct.of (lv := [(0, .ref (ad 0)), (1, .int x), (2, .int y), (3, .int z)]) (by decide +kernel) (Nat.le_of_ble_eq_true rfl) rfl ?_
  intro zp ze zs zm za zb zh zc hc
  refine g_iload_n (pc := 0) hc 1 dX12_pair_0 rfl rfl ?_
  refine g_callSi (pc := 1) (rest := []) (As := [.int x]) hc (c_X12_isWalker l E ad hA sc ar la x) mi_X12_isWalker tw_1159 rfl ⟨rfl, rfl, by decide, by decide⟩ (Nat.le_of_ble_eq_true rfl) ⟨Nat.le_refl _, Nat.le_refl _⟩ rfl dX12_pair_1 ?_
  refine g_if_eq_b (pc := 4) hc 28 dX12_pair_4 (by decide) (fun c1 => ?_) (fun c1 => ?_)
  · refine g_ldc (pc := 28) (v := (-1000000001)) hc tw_1139 dX12_pair_28 ?_
    exact g_iret (pc := 30) hc dX12_pair_30 (by rw [if_neg (ne_true_of_eq_false (ok2_f1 (ok2_f1 c1)))]) (rfl)
  · refine g_iload_n (pc := 7) hc 2 dX12_pair_7 rfl rfl ?_
    refine g_callSi (pc := 8) (rest := []) (As := [.int y]) hc (c_X12_isWalker l E ad hA sc ar la y) mi_X12_isWalker tw_1159 rfl ⟨rfl, rfl, by decide, by decide⟩ (Nat.le_of_ble_eq_true rfl) ⟨Nat.le_refl _, Nat.le_refl _⟩ rfl dX12_pair_8 ?_
    refine g_if_eq_b (pc := 11) hc 28 dX12_pair_11 (by decide) (fun c2 => ?_) (fun c2 => ?_)
    · refine g_ldc (pc := 28) (v := (-1000000001)) hc tw_1139 dX12_pair_28 ?_
      exact g_iret (pc := 30) hc dX12_pair_30 (by rw [if_neg (ne_true_of_eq_false (ok2_f1 (ok2_f2 c1 (ok2_f1 c2))))]) (rfl)
    · refine g_iload_n (pc := 14) hc 1 dX12_pair_14 rfl rfl ?_
      refine g_iload_n (pc := 15) hc 2 dX12_pair_15 rfl rfl ?_
      refine g_icmp_eq (pc := 16) hc 28 dX12_pair_16 (by decide) (fun c3 => ?_) (fun c3 => ?_)
      · refine g_ldc (pc := 28) (v := (-1000000001)) hc tw_1139 dX12_pair_28 ?_
        exact g_iret (pc := 30) hc dX12_pair_30 (by rw [if_neg (ne_true_of_eq_false (ok2_f1 (ok2_f2 c1 (ok2_f2 c2 (by simp [c3])))))]) (rfl)
      · refine g_iload_n (pc := 19) hc 3 dX12_pair_19 rfl rfl ?_
        refine g_iconst (pc := 20) (v := nI 0) hc dX12_pair_20 (by decide) ?_
        refine g_iconst (pc := 21) (v := nI 2) hc dX12_pair_21 (by decide) ?_
        refine g_callSi (pc := 22) (rest := []) (As := [.int z, .int (nI 0), .int (nI 2)]) hc (c_X12_isIn l E ad hA sc ar la z (nI 0) (nI 2)) mi_X12_isIn tw_1136 rfl ⟨rfl, rfl, by decide, by decide⟩ (Nat.le_of_ble_eq_true rfl) ⟨Nat.le_refl _, Nat.le_refl _⟩ rfl dX12_pair_22 ?_
        refine g_if_ne_b (pc := 25) hc 31 dX12_pair_25 (by decide) (fun c4 => ?_) (fun c4 => ?_)
        · refine g_iconst (pc := 31) (v := nI 0) hc dX12_pair_31 (by decide) ?_
          refine g_istore (pc := 32) (lv' := [(0, .ref (ad 0)), (1, .int x), (2, .int y), (3, .int z), (4, .int (nI 0))]) hc dX12_pair_32 (by decide) rfl ?_
          refine g_iconst (pc := 34) (v := nI 0) hc dX12_pair_34 (by decide) ?_
          refine g_istore (pc := 35) (lv' := [(0, .ref (ad 0)), (1, .int x), (2, .int y), (3, .int z), (4, .int (nI 0)), (5, .int (nI 0))]) hc dX12_pair_35 (by decide) rfl ?_
          have L37_5 : ∀ (ka a : Nat), a + ka = nW → G zp l ze ({ frames := 2, cells := 0, slots := 0, locals := 42 }) zs zm za zb zh zc 0 0 (MQ zb (Qz E A (some (.int (if ok2 (ok2 (inr x (nI 0) (nI 4)) (ok2 (inr y (nI 0) (nI 4)) (!decide (x = y)))) (inr z (nI 0) (nI 2)) = true then mp0 (ar 1) (ar 2) (ar 3) (ar 5) (ar 7) (ar 8) nW nF x y z nW else (-1000000001)))) (mw E ad sc ar la)) za zs 0 0 A) E A 7 (mw E ad sc ar la) (37) [(0, .ref (ad 0)), (1, .int x), (2, .int y), (3, .int z), (4, .int (mp0 (ar 1) (ar 2) (ar 3) (ar 5) (ar 7) (ar 8) nW nF x y z (a))), (5, .int (nI (a)))] [] := by
            intro ka
            induction ka with
            | zero =>
              intro a lha
              have lhan : nW = a := by omega
              subst lhan
              refine g_iload (pc := 37) hc 5 dX12_pair_37 rfl ?_
              refine g_aload_n (pc := 39) hc 0 dX12_pair_39 rfl rfl ?_
              refine gf_m0_walks (pc := 40) hc tw_1005 dX12_pair_40 ?_
              refine g_topi (v := nI nW) (hW) ?_
              refine g_icmp_ge_t (pc := 43) hc 139 dX12_pair_43 (by decide) (nI_le (by omega) (by omega)) ?_
              refine g_iload (pc := 139) hc 4 dX12_pair_139 rfl ?_
              exact g_iret (pc := 141) hc dX12_pair_141 (by rw [if_pos (ok2_t (ok2_t c1 (ok2_t c2 (by simp [c3]))) c4)]) (rfl)
            | succ ka iha =>
              intro a lha
              have lhan : a < nW := by omega
              refine g_iload (pc := 37) hc 5 dX12_pair_37 rfl ?_
              refine g_aload_n (pc := 39) hc 0 dX12_pair_39 rfl rfl ?_
              refine gf_m0_walks (pc := 40) hc tw_1005 dX12_pair_40 ?_
              refine g_topi (v := nI nW) (hW) ?_
              refine g_icmp_ge_f (pc := 43) hc 139 dX12_pair_43 (by decide) (nI_ge (by omega) (by omega)) ?_
              refine g_iconst (pc := 46) (v := nI 0) hc dX12_pair_46 (by decide) ?_
              refine g_istore (pc := 47) (lv' := [(0, .ref (ad 0)), (1, .int x), (2, .int y), (3, .int z), (4, .int (mp0 (ar 1) (ar 2) (ar 3) (ar 5) (ar 7) (ar 8) nW nF x y z (a))), (5, .int (nI (a))), (6, .int (nI 0))]) hc dX12_pair_47 (by decide) rfl ?_
              have L49_6 : ∀ (kb b : Nat), b + kb = nW → (hb : b = 0 ∨ ar 2 a = x) → G zp l ze ({ frames := 2, cells := 0, slots := 0, locals := 42 }) zs zm za zb zh zc 0 0 (MQ zb (Qz E A (some (.int (if ok2 (ok2 (inr x (nI 0) (nI 4)) (ok2 (inr y (nI 0) (nI 4)) (!decide (x = y)))) (inr z (nI 0) (nI 2)) = true then mp0 (ar 1) (ar 2) (ar 3) (ar 5) (ar 7) (ar 8) nW nF x y z nW else (-1000000001)))) (mw E ad sc ar la)) za zs 0 0 A) E A 7 (mw E ad sc ar la) (49) [(0, .ref (ad 0)), (1, .int x), (2, .int y), (3, .int z), (4, .int (mp1 (ar 1) (ar 2) (ar 3) (ar 5) (ar 7) (ar 8) nF y z a (mp0 (ar 1) (ar 2) (ar 3) (ar 5) (ar 7) (ar 8) nW nF x y z a) (b))), (5, .int (nI (a))), (6, .int (nI (b)))] [] := by
                intro kb
                induction kb with
                | zero =>
                  intro b lhb hb
                  have lhbn : nW = b := by omega
                  subst lhbn
                  refine g_iload (pc := 49) hc 6 dX12_pair_49 rfl ?_
                  refine g_aload_n (pc := 51) hc 0 dX12_pair_51 rfl rfl ?_
                  refine gf_m0_walks (pc := 52) hc tw_1005 dX12_pair_52 ?_
                  refine g_topi (v := nI nW) (hW) ?_
                  refine g_icmp_ge_t (pc := 55) hc 133 dX12_pair_55 (by decide) (nI_le (by omega) (by omega)) ?_
                  refine g_iinc (pc := 133) (v := nI (a + 1)) (lv' := [(0, .ref (ad 0)), (1, .int x), (2, .int y), (3, .int z), (4, .int (mp1 (ar 1) (ar 2) (ar 3) (ar 5) (ar 7) (ar 8) nF y z a (mp0 (ar 1) (ar 2) (ar 3) (ar 5) (ar 7) (ar 8) nW nF x y z a) (nW))), (5, .int (nI (a + 1))), (6, .int (nI (nW)))]) hc 5 dX12_pair_133 rfl (nI_ofi a 1) (by decide) rfl ?_
                  refine g_goto (pc := 136) hc 37 dX12_pair_136 (by decide) ?_
                  refine g_lv [0, 1, 2, 3, 4, 5] (lv' := [(0, .ref (ad 0)), (1, .int x), (2, .int y), (3, .int z), (4, .int (mp1 (ar 1) (ar 2) (ar 3) (ar 5) (ar 7) (ar 8) nF y z a (mp0 (ar 1) (ar 2) (ar 3) (ar 5) (ar 7) (ar 8) nW nF x y z a) (nW))), (5, .int (nI (a + 1)))]) rfl ?_
                  exact g_eq (ws' := mw E ad sc ar la) (lv' := [(0, .ref (ad 0)), (1, .int x), (2, .int y), (3, .int z), (4, .int (mp0 (ar 1) (ar 2) (ar 3) (ar 5) (ar 7) (ar 8) nW nF x y z (a + 1))), (5, .int (nI (a + 1)))]) (rfl) (by rw [mp0_succ, if_pos (hb.resolve_left (by omega))]) rfl (iha (a + 1) (by omega))
                | succ kb ihb =>
                  intro b lhb hb
                  have lhbn : b < nW := by omega
                  refine g_iload (pc := 49) hc 6 dX12_pair_49 rfl ?_
                  refine g_aload_n (pc := 51) hc 0 dX12_pair_51 rfl rfl ?_
                  refine gf_m0_walks (pc := 52) hc tw_1005 dX12_pair_52 ?_
                  refine g_topi (v := nI nW) (hW) ?_
                  refine g_icmp_ge_f (pc := 55) hc 133 dX12_pair_55 (by decide) (nI_ge (by omega) (by omega)) ?_
                  refine g_aload_n (pc := 58) hc 0 dX12_pair_58 rfl rfl ?_
                  refine gf_m0_walker (pc := 59) hc tw_1006 dX12_pair_59 ?_
                  refine g_iload (pc := 62) hc 5 dX12_pair_62 rfl ?_
                  refine la_m2 (pc := 64) hc (a) (rfl) (by omega) dX12_pair_64 ?_
                  refine g_iload_n (pc := 65) hc 1 dX12_pair_65 rfl rfl ?_
                  refine g_icmp_ne (pc := 66) hc 133 dX12_pair_66 (by decide) (fun c7 => ?_) (fun c7 => ?_)
                  · refine g_iinc (pc := 133) (v := nI (a + 1)) (lv' := [(0, .ref (ad 0)), (1, .int x), (2, .int y), (3, .int z), (4, .int (mp1 (ar 1) (ar 2) (ar 3) (ar 5) (ar 7) (ar 8) nF y z a (mp0 (ar 1) (ar 2) (ar 3) (ar 5) (ar 7) (ar 8) nW nF x y z a) (b))), (5, .int (nI (a + 1))), (6, .int (nI (b)))]) hc 5 dX12_pair_133 rfl (nI_ofi a 1) (by decide) rfl ?_
                    refine g_goto (pc := 136) hc 37 dX12_pair_136 (by decide) ?_
                    refine g_lv [0, 1, 2, 3, 4, 5] (lv' := [(0, .ref (ad 0)), (1, .int x), (2, .int y), (3, .int z), (4, .int (mp1 (ar 1) (ar 2) (ar 3) (ar 5) (ar 7) (ar 8) nF y z a (mp0 (ar 1) (ar 2) (ar 3) (ar 5) (ar 7) (ar 8) nW nF x y z a) (b))), (5, .int (nI (a + 1)))]) rfl ?_
                    exact g_eq (ws' := mw E ad sc ar la) (lv' := [(0, .ref (ad 0)), (1, .int x), (2, .int y), (3, .int z), (4, .int (mp0 (ar 1) (ar 2) (ar 3) (ar 5) (ar 7) (ar 8) nW nF x y z (a + 1))), (5, .int (nI (a + 1)))]) (rfl) (by have hb0 : b = 0 := hb.resolve_right c7; subst hb0; rw [mp0_succ, if_neg c7]; rfl) rfl (iha (a + 1) (by omega))
                  · refine g_aload_n (pc := 69) hc 0 dX12_pair_69 rfl rfl ?_
                    refine gf_m0_walker (pc := 70) hc tw_1006 dX12_pair_70 ?_
                    refine g_iload (pc := 73) hc 6 dX12_pair_73 rfl ?_
                    refine la_m2 (pc := 75) hc (b) (rfl) (by omega) dX12_pair_75 ?_
                    refine g_iload_n (pc := 76) hc 2 dX12_pair_76 rfl rfl ?_
                    refine g_icmp_ne (pc := 77) hc 127 dX12_pair_77 (by decide) (fun c8 => ?_) (fun c8 => ?_)
                    · refine g_iinc (pc := 127) (v := nI (b + 1)) (lv' := [(0, .ref (ad 0)), (1, .int x), (2, .int y), (3, .int z), (4, .int (mp1 (ar 1) (ar 2) (ar 3) (ar 5) (ar 7) (ar 8) nF y z a (mp0 (ar 1) (ar 2) (ar 3) (ar 5) (ar 7) (ar 8) nW nF x y z a) (b))), (5, .int (nI (a))), (6, .int (nI (b + 1)))]) hc 6 dX12_pair_127 rfl (nI_ofi b 1) (by decide) rfl ?_
                      refine g_goto (pc := 130) hc 49 dX12_pair_130 (by decide) ?_
                      exact g_eq (ws' := mw E ad sc ar la) (lv' := [(0, .ref (ad 0)), (1, .int x), (2, .int y), (3, .int z), (4, .int (mp1 (ar 1) (ar 2) (ar 3) (ar 5) (ar 7) (ar 8) nF y z a (mp0 (ar 1) (ar 2) (ar 3) (ar 5) (ar 7) (ar 8) nW nF x y z a) (b + 1))), (5, .int (nI (a))), (6, .int (nI (b + 1)))]) (rfl) (by rw [mp1_succ]; repeat (first | rw [if_pos c7] | rw [if_neg c7] | rw [if_neg (ne_true_of_eq_false c7)] | rw [if_pos c8] | rw [if_neg c8] | rw [if_neg (ne_true_of_eq_false c8)])) rfl (ihb (b + 1) (by omega) (Or.inr c7))
                    · refine g_aload_n (pc := 80) hc 0 dX12_pair_80 rfl rfl ?_
                      refine gf_m0_rowOf (pc := 81) hc tw_1007 dX12_pair_81 ?_
                      refine g_iload (pc := 84) hc 5 dX12_pair_84 rfl ?_
                      refine la_m3 (pc := 86) hc (a) (rfl) (by omega) dX12_pair_86 ?_
                      refine g_aload_n (pc := 87) hc 0 dX12_pair_87 rfl rfl ?_
                      refine gf_m0_rowOf (pc := 88) hc tw_1007 dX12_pair_88 ?_
                      refine g_iload (pc := 91) hc 6 dX12_pair_91 rfl ?_
                      refine la_m3 (pc := 93) hc (b) (rfl) (by omega) dX12_pair_93 ?_
                      refine g_icmp_ne (pc := 94) hc 127 dX12_pair_94 (by decide) (fun c9 => ?_) (fun c9 => ?_)
                      · refine g_iinc (pc := 127) (v := nI (b + 1)) (lv' := [(0, .ref (ad 0)), (1, .int x), (2, .int y), (3, .int z), (4, .int (mp1 (ar 1) (ar 2) (ar 3) (ar 5) (ar 7) (ar 8) nF y z a (mp0 (ar 1) (ar 2) (ar 3) (ar 5) (ar 7) (ar 8) nW nF x y z a) (b))), (5, .int (nI (a))), (6, .int (nI (b + 1)))]) hc 6 dX12_pair_127 rfl (nI_ofi b 1) (by decide) rfl ?_
                        refine g_goto (pc := 130) hc 49 dX12_pair_130 (by decide) ?_
                        exact g_eq (ws' := mw E ad sc ar la) (lv' := [(0, .ref (ad 0)), (1, .int x), (2, .int y), (3, .int z), (4, .int (mp1 (ar 1) (ar 2) (ar 3) (ar 5) (ar 7) (ar 8) nF y z a (mp0 (ar 1) (ar 2) (ar 3) (ar 5) (ar 7) (ar 8) nW nF x y z a) (b + 1))), (5, .int (nI (a))), (6, .int (nI (b + 1)))]) (rfl) (by rw [mp1_succ]; repeat (first | rw [if_pos c7] | rw [if_neg c7] | rw [if_neg (ne_true_of_eq_false c7)] | rw [if_pos c8] | rw [if_neg c8] | rw [if_neg (ne_true_of_eq_false c8)] | rw [if_pos c9] | rw [if_neg c9] | rw [if_neg (ne_true_of_eq_false c9)])) rfl (ihb (b + 1) (by omega) (Or.inr c7))
                      · refine g_iload (pc := 97) hc 4 dX12_pair_97 rfl ?_
                        refine g_iload_n (pc := 99) hc 3 dX12_pair_99 rfl rfl ?_
                        refine g_if_ne (pc := 100) hc 107 dX12_pair_100 (by decide) (fun c10 => ?_) (fun c10 => ?_)
                        · refine g_aload_n (pc := 107) hc 0 dX12_pair_107 rfl rfl ?_
                          refine g_iload_n (pc := 108) hc 3 dX12_pair_108 rfl rfl ?_
                          refine g_iconst (pc := 109) (v := nI 1) hc dX12_pair_109 (by decide) ?_
                          refine g_icmp_ne (pc := 110) hc 118 dX12_pair_110 (by decide) (fun c11 => ?_) (fun c11 => ?_)
                          · refine g_iload (pc := 118) hc 6 dX12_pair_118 rfl ?_
                            refine g_iconst (pc := 120) (v := nI 0) hc dX12_pair_120 (by decide) ?_
                            refine g_callVi (pc := 121) (rest := [.int (mp1 (ar 1) (ar 2) (ar 3) (ar 5) (ar 7) (ar 8) nF y z a (mp0 (ar 1) (ar 2) (ar 3) (ar 5) (ar 7) (ar 8) nW nF x y z a) (b))]) (As := [.int (nI (b)), .int (nI 0)]) hc (c_X12_found0 l E ad hA sc ar la (nI (b)) hF hF200 hK4) mi_X12_found tw_1193 0 rfl rfl rfl rfl ⟨rfl, rfl, by decide, by decide⟩ (Nat.le_of_ble_eq_true rfl) ⟨Nat.le_refl _, Nat.le_refl _⟩ rfl dX12_pair_121 ?_
                            refine g_iadd (pc := 124) hc dX12_pair_124 ?_
                            refine g_istore (pc := 125) (lv' := [(0, .ref (ad 0)), (1, .int x), (2, .int y), (3, .int z), (4, .int ((mp1 (ar 1) (ar 2) (ar 3) (ar 5) (ar 7) (ar 8) nF y z a (mp0 (ar 1) (ar 2) (ar 3) (ar 5) (ar 7) (ar 8) nW nF x y z a) (b)) + (fns (ar 1) (ar 5) (ar 7) (ar 8) (nI (b)) nF))), (5, .int (nI (a))), (6, .int (nI (b)))]) hc dX12_pair_125 (by decide) rfl ?_
                            refine g_iinc (pc := 127) (v := nI (b + 1)) (lv' := [(0, .ref (ad 0)), (1, .int x), (2, .int y), (3, .int z), (4, .int ((mp1 (ar 1) (ar 2) (ar 3) (ar 5) (ar 7) (ar 8) nF y z a (mp0 (ar 1) (ar 2) (ar 3) (ar 5) (ar 7) (ar 8) nW nF x y z a) (b)) + (fns (ar 1) (ar 5) (ar 7) (ar 8) (nI (b)) nF))), (5, .int (nI (a))), (6, .int (nI (b + 1)))]) hc 6 dX12_pair_127 rfl (nI_ofi b 1) (by decide) rfl ?_
                            refine g_goto (pc := 130) hc 49 dX12_pair_130 (by decide) ?_
                            exact g_eq (ws' := mw E ad sc ar la) (lv' := [(0, .ref (ad 0)), (1, .int x), (2, .int y), (3, .int z), (4, .int (mp1 (ar 1) (ar 2) (ar 3) (ar 5) (ar 7) (ar 8) nF y z a (mp0 (ar 1) (ar 2) (ar 3) (ar 5) (ar 7) (ar 8) nW nF x y z a) (b + 1))), (5, .int (nI (a))), (6, .int (nI (b + 1)))]) (rfl) (by rw [mp1_succ]; repeat (first | rw [if_pos c7] | rw [if_neg c7] | rw [if_neg (ne_true_of_eq_false c7)] | rw [if_pos c8] | rw [if_neg c8] | rw [if_neg (ne_true_of_eq_false c8)] | rw [if_pos c9] | rw [if_neg c9] | rw [if_neg (ne_true_of_eq_false c9)] | rw [if_pos c10] | rw [if_neg c10] | rw [if_neg (ne_true_of_eq_false c10)] | rw [if_pos c11] | rw [if_neg c11] | rw [if_neg (ne_true_of_eq_false c11)])) rfl (ihb (b + 1) (by omega) (Or.inr c7))
                          · refine g_iload (pc := 113) hc 5 dX12_pair_113 rfl ?_
                            refine g_goto (pc := 115) hc 120 dX12_pair_115 (by decide) ?_
                            refine g_iconst (pc := 120) (v := nI 0) hc dX12_pair_120 (by decide) ?_
                            refine g_callVi (pc := 121) (rest := [.int (mp1 (ar 1) (ar 2) (ar 3) (ar 5) (ar 7) (ar 8) nF y z a (mp0 (ar 1) (ar 2) (ar 3) (ar 5) (ar 7) (ar 8) nW nF x y z a) (b))]) (As := [.int (nI (a)), .int (nI 0)]) hc (c_X12_found0 l E ad hA sc ar la (nI (a)) hF hF200 hK4) mi_X12_found tw_1193 0 rfl rfl rfl rfl ⟨rfl, rfl, by decide, by decide⟩ (Nat.le_of_ble_eq_true rfl) ⟨Nat.le_refl _, Nat.le_refl _⟩ rfl dX12_pair_121 ?_
                            refine g_iadd (pc := 124) hc dX12_pair_124 ?_
                            refine g_istore (pc := 125) (lv' := [(0, .ref (ad 0)), (1, .int x), (2, .int y), (3, .int z), (4, .int ((mp1 (ar 1) (ar 2) (ar 3) (ar 5) (ar 7) (ar 8) nF y z a (mp0 (ar 1) (ar 2) (ar 3) (ar 5) (ar 7) (ar 8) nW nF x y z a) (b)) + (fns (ar 1) (ar 5) (ar 7) (ar 8) (nI (a)) nF))), (5, .int (nI (a))), (6, .int (nI (b)))]) hc dX12_pair_125 (by decide) rfl ?_
                            refine g_iinc (pc := 127) (v := nI (b + 1)) (lv' := [(0, .ref (ad 0)), (1, .int x), (2, .int y), (3, .int z), (4, .int ((mp1 (ar 1) (ar 2) (ar 3) (ar 5) (ar 7) (ar 8) nF y z a (mp0 (ar 1) (ar 2) (ar 3) (ar 5) (ar 7) (ar 8) nW nF x y z a) (b)) + (fns (ar 1) (ar 5) (ar 7) (ar 8) (nI (a)) nF))), (5, .int (nI (a))), (6, .int (nI (b + 1)))]) hc 6 dX12_pair_127 rfl (nI_ofi b 1) (by decide) rfl ?_
                            refine g_goto (pc := 130) hc 49 dX12_pair_130 (by decide) ?_
                            exact g_eq (ws' := mw E ad sc ar la) (lv' := [(0, .ref (ad 0)), (1, .int x), (2, .int y), (3, .int z), (4, .int (mp1 (ar 1) (ar 2) (ar 3) (ar 5) (ar 7) (ar 8) nF y z a (mp0 (ar 1) (ar 2) (ar 3) (ar 5) (ar 7) (ar 8) nW nF x y z a) (b + 1))), (5, .int (nI (a))), (6, .int (nI (b + 1)))]) (rfl) (by rw [mp1_succ]; repeat (first | rw [if_pos c7] | rw [if_neg c7] | rw [if_neg (ne_true_of_eq_false c7)] | rw [if_pos c8] | rw [if_neg c8] | rw [if_neg (ne_true_of_eq_false c8)] | rw [if_pos c9] | rw [if_neg c9] | rw [if_neg (ne_true_of_eq_false c9)] | rw [if_pos c10] | rw [if_neg c10] | rw [if_neg (ne_true_of_eq_false c10)] | rw [if_pos c11] | rw [if_neg c11] | rw [if_neg (ne_true_of_eq_false c11)])) rfl (ihb (b + 1) (by omega) (Or.inr c7))
                        · refine g_iconst (pc := 103) (v := nI 1) hc dX12_pair_103 (by decide) ?_
                          refine g_goto (pc := 104) hc 124 dX12_pair_104 (by decide) ?_
                          refine g_iadd (pc := 124) hc dX12_pair_124 ?_
                          refine g_istore (pc := 125) (lv' := [(0, .ref (ad 0)), (1, .int x), (2, .int y), (3, .int z), (4, .int ((mp1 (ar 1) (ar 2) (ar 3) (ar 5) (ar 7) (ar 8) nF y z a (mp0 (ar 1) (ar 2) (ar 3) (ar 5) (ar 7) (ar 8) nW nF x y z a) (b)) + (nI 1))), (5, .int (nI (a))), (6, .int (nI (b)))]) hc dX12_pair_125 (by decide) rfl ?_
                          refine g_iinc (pc := 127) (v := nI (b + 1)) (lv' := [(0, .ref (ad 0)), (1, .int x), (2, .int y), (3, .int z), (4, .int ((mp1 (ar 1) (ar 2) (ar 3) (ar 5) (ar 7) (ar 8) nF y z a (mp0 (ar 1) (ar 2) (ar 3) (ar 5) (ar 7) (ar 8) nW nF x y z a) (b)) + (nI 1))), (5, .int (nI (a))), (6, .int (nI (b + 1)))]) hc 6 dX12_pair_127 rfl (nI_ofi b 1) (by decide) rfl ?_
                          refine g_goto (pc := 130) hc 49 dX12_pair_130 (by decide) ?_
                          exact g_eq (ws' := mw E ad sc ar la) (lv' := [(0, .ref (ad 0)), (1, .int x), (2, .int y), (3, .int z), (4, .int (mp1 (ar 1) (ar 2) (ar 3) (ar 5) (ar 7) (ar 8) nF y z a (mp0 (ar 1) (ar 2) (ar 3) (ar 5) (ar 7) (ar 8) nW nF x y z a) (b + 1))), (5, .int (nI (a))), (6, .int (nI (b + 1)))]) (rfl) (by rw [mp1_succ]; repeat (first | rw [if_pos c7] | rw [if_neg c7] | rw [if_neg (ne_true_of_eq_false c7)] | rw [if_pos c8] | rw [if_neg c8] | rw [if_neg (ne_true_of_eq_false c8)] | rw [if_pos c9] | rw [if_neg c9] | rw [if_neg (ne_true_of_eq_false c9)] | rw [if_pos c10] | rw [if_neg c10] | rw [if_neg (ne_true_of_eq_false c10)])) rfl (ihb (b + 1) (by omega) (Or.inr c7))
              exact g_eq (ws' := mw E ad sc ar la) (lv' := [(0, .ref (ad 0)), (1, .int x), (2, .int y), (3, .int z), (4, .int (mp1 (ar 1) (ar 2) (ar 3) (ar 5) (ar 7) (ar 8) nF y z a (mp0 (ar 1) (ar 2) (ar 3) (ar 5) (ar 7) (ar 8) nW nF x y z a) (0))), (5, .int (nI (a))), (6, .int (nI (0)))]) (rfl) (rfl) rfl (L49_6 (nW - 0) (0) (by omega) (Or.inl rfl))
          exact g_eq (ws' := mw E ad sc ar la) (lv' := [(0, .ref (ad 0)), (1, .int x), (2, .int y), (3, .int z), (4, .int (mp0 (ar 1) (ar 2) (ar 3) (ar 5) (ar 7) (ar 8) nW nF x y z (0))), (5, .int (nI (0)))]) (rfl) (rfl) rfl (L37_5 (nW - 0) (0) (by omega))
        · refine g_ldc (pc := 28) (v := (-1000000001)) hc tw_1139 dX12_pair_28 ?_
          exact g_iret (pc := 30) hc dX12_pair_30 (by rw [if_neg (ne_true_of_eq_false (ok2_f2 (ok2_t c1 (ok2_t c2 (by simp [c3]))) c4))]) (rfl)

theorem dX12_eyeOf_0 : decode cX12_eyeOf 0 = .ok (.iconst 0, 1) := by decide +kernel
theorem dX12_eyeOf_1 : decode cX12_eyeOf 1 = .ok (.istore_n 2, 1) := by decide +kernel
theorem dX12_eyeOf_2 : decode cX12_eyeOf 2 = .ok (.iload_n 2, 1) := by decide +kernel
theorem dX12_eyeOf_3 : decode cX12_eyeOf 3 = .ok (.aload_n 0, 1) := by decide +kernel
theorem dX12_eyeOf_4 : decode cX12_eyeOf 4 = .ok (.getfield 117, 3) := by decide +kernel
theorem dX12_eyeOf_7 : decode cX12_eyeOf 7 = .ok (.if_icmp .ge 21, 3) := by decide +kernel
theorem dX12_eyeOf_10 : decode cX12_eyeOf 10 = .ok (.aload_n 0, 1) := by decide +kernel
theorem dX12_eyeOf_11 : decode cX12_eyeOf 11 = .ok (.getfield 78, 3) := by decide +kernel
theorem dX12_eyeOf_14 : decode cX12_eyeOf 14 = .ok (.iload_n 2, 1) := by decide +kernel
theorem dX12_eyeOf_15 : decode cX12_eyeOf 15 = .ok (.aload_n 0, 1) := by decide +kernel
theorem dX12_eyeOf_16 : decode cX12_eyeOf 16 = .ok (.iload_n 2, 1) := by decide +kernel
theorem dX12_eyeOf_17 : decode cX12_eyeOf 17 = .ok (.iconst 0, 1) := by decide +kernel
theorem dX12_eyeOf_18 : decode cX12_eyeOf 18 = .ok (.invokevirtual 157, 3) := by decide +kernel
theorem dX12_eyeOf_21 : decode cX12_eyeOf 21 = .ok (.iastore, 1) := by decide +kernel
theorem dX12_eyeOf_22 : decode cX12_eyeOf 22 = .ok (.iinc 2 1, 3) := by decide +kernel
theorem dX12_eyeOf_25 : decode cX12_eyeOf 25 = .ok (.goto (-23), 3) := by decide +kernel
theorem dX12_eyeOf_28 : decode cX12_eyeOf 28 = .ok (.iconst 0, 1) := by decide +kernel
theorem dX12_eyeOf_29 : decode cX12_eyeOf 29 = .ok (.istore_n 2, 1) := by decide +kernel
theorem dX12_eyeOf_30 : decode cX12_eyeOf 30 = .ok (.iconst 0, 1) := by decide +kernel
theorem dX12_eyeOf_31 : decode cX12_eyeOf 31 = .ok (.istore_n 3, 1) := by decide +kernel
theorem dX12_eyeOf_32 : decode cX12_eyeOf 32 = .ok (.iconst 0, 1) := by decide +kernel
theorem dX12_eyeOf_33 : decode cX12_eyeOf 33 = .ok (.istore 4, 2) := by decide +kernel
theorem dX12_eyeOf_35 : decode cX12_eyeOf 35 = .ok (.iload 4, 2) := by decide +kernel
theorem dX12_eyeOf_37 : decode cX12_eyeOf 37 = .ok (.aload_n 0, 1) := by decide +kernel
theorem dX12_eyeOf_38 : decode cX12_eyeOf 38 = .ok (.getfield 117, 3) := by decide +kernel
theorem dX12_eyeOf_41 : decode cX12_eyeOf 41 = .ok (.if_icmp .ge 113, 3) := by decide +kernel
theorem dX12_eyeOf_44 : decode cX12_eyeOf 44 = .ok (.iconst 0, 1) := by decide +kernel
theorem dX12_eyeOf_45 : decode cX12_eyeOf 45 = .ok (.istore 5, 2) := by decide +kernel
theorem dX12_eyeOf_47 : decode cX12_eyeOf 47 = .ok (.iload 5, 2) := by decide +kernel
theorem dX12_eyeOf_49 : decode cX12_eyeOf 49 = .ok (.aload_n 0, 1) := by decide +kernel
theorem dX12_eyeOf_50 : decode cX12_eyeOf 50 = .ok (.getfield 117, 3) := by decide +kernel
theorem dX12_eyeOf_53 : decode cX12_eyeOf 53 = .ok (.if_icmp .ge 95, 3) := by decide +kernel
theorem dX12_eyeOf_56 : decode cX12_eyeOf 56 = .ok (.aload_n 0, 1) := by decide +kernel
theorem dX12_eyeOf_57 : decode cX12_eyeOf 57 = .ok (.getfield 20, 3) := by decide +kernel
theorem dX12_eyeOf_60 : decode cX12_eyeOf 60 = .ok (.iload 4, 2) := by decide +kernel
theorem dX12_eyeOf_62 : decode cX12_eyeOf 62 = .ok (.iaload, 1) := by decide +kernel
theorem dX12_eyeOf_63 : decode cX12_eyeOf 63 = .ok (.iload_n 1, 1) := by decide +kernel
theorem dX12_eyeOf_64 : decode cX12_eyeOf 64 = .ok (.if_icmp .ne 84, 3) := by decide +kernel
theorem dX12_eyeOf_67 : decode cX12_eyeOf 67 = .ok (.aload_n 0, 1) := by decide +kernel
theorem dX12_eyeOf_68 : decode cX12_eyeOf 68 = .ok (.getfield 20, 3) := by decide +kernel
theorem dX12_eyeOf_71 : decode cX12_eyeOf 71 = .ok (.iload 5, 2) := by decide +kernel
theorem dX12_eyeOf_73 : decode cX12_eyeOf 73 = .ok (.iaload, 1) := by decide +kernel
theorem dX12_eyeOf_74 : decode cX12_eyeOf 74 = .ok (.iload_n 1, 1) := by decide +kernel
theorem dX12_eyeOf_75 : decode cX12_eyeOf 75 = .ok (.if_icmp .eq 67, 3) := by decide +kernel
theorem dX12_eyeOf_78 : decode cX12_eyeOf 78 = .ok (.aload_n 0, 1) := by decide +kernel
theorem dX12_eyeOf_79 : decode cX12_eyeOf 79 = .ok (.getfield 23, 3) := by decide +kernel
theorem dX12_eyeOf_82 : decode cX12_eyeOf 82 = .ok (.iload 4, 2) := by decide +kernel
theorem dX12_eyeOf_84 : decode cX12_eyeOf 84 = .ok (.iaload, 1) := by decide +kernel
theorem dX12_eyeOf_85 : decode cX12_eyeOf 85 = .ok (.aload_n 0, 1) := by decide +kernel
theorem dX12_eyeOf_86 : decode cX12_eyeOf 86 = .ok (.getfield 23, 3) := by decide +kernel
theorem dX12_eyeOf_89 : decode cX12_eyeOf 89 = .ok (.iload 5, 2) := by decide +kernel
theorem dX12_eyeOf_91 : decode cX12_eyeOf 91 = .ok (.iaload, 1) := by decide +kernel
theorem dX12_eyeOf_92 : decode cX12_eyeOf 92 = .ok (.if_icmp .ne 50, 3) := by decide +kernel
theorem dX12_eyeOf_95 : decode cX12_eyeOf 95 = .ok (.iload_n 2, 1) := by decide +kernel
theorem dX12_eyeOf_96 : decode cX12_eyeOf 96 = .ok (.aload_n 0, 1) := by decide +kernel
theorem dX12_eyeOf_97 : decode cX12_eyeOf 97 = .ok (.getfield 78, 3) := by decide +kernel
theorem dX12_eyeOf_100 : decode cX12_eyeOf 100 = .ok (.iload 4, 2) := by decide +kernel
theorem dX12_eyeOf_102 : decode cX12_eyeOf 102 = .ok (.iaload, 1) := by decide +kernel
theorem dX12_eyeOf_103 : decode cX12_eyeOf 103 = .ok (.iadd, 1) := by decide +kernel
theorem dX12_eyeOf_104 : decode cX12_eyeOf 104 = .ok (.istore_n 2, 1) := by decide +kernel
theorem dX12_eyeOf_105 : decode cX12_eyeOf 105 = .ok (.iload_n 3, 1) := by decide +kernel
theorem dX12_eyeOf_106 : decode cX12_eyeOf 106 = .ok (.aload_n 0, 1) := by decide +kernel
theorem dX12_eyeOf_107 : decode cX12_eyeOf 107 = .ok (.getfield 78, 3) := by decide +kernel
theorem dX12_eyeOf_110 : decode cX12_eyeOf 110 = .ok (.iload 4, 2) := by decide +kernel
theorem dX12_eyeOf_112 : decode cX12_eyeOf 112 = .ok (.iaload, 1) := by decide +kernel
theorem dX12_eyeOf_113 : decode cX12_eyeOf 113 = .ok (.aload_n 0, 1) := by decide +kernel
theorem dX12_eyeOf_114 : decode cX12_eyeOf 114 = .ok (.getfield 78, 3) := by decide +kernel
theorem dX12_eyeOf_117 : decode cX12_eyeOf 117 = .ok (.iload 5, 2) := by decide +kernel
theorem dX12_eyeOf_119 : decode cX12_eyeOf 119 = .ok (.iaload, 1) := by decide +kernel
theorem dX12_eyeOf_120 : decode cX12_eyeOf 120 = .ok (.if_icmp .le 13, 3) := by decide +kernel
theorem dX12_eyeOf_123 : decode cX12_eyeOf 123 = .ok (.aload_n 0, 1) := by decide +kernel
theorem dX12_eyeOf_124 : decode cX12_eyeOf 124 = .ok (.getfield 78, 3) := by decide +kernel
theorem dX12_eyeOf_127 : decode cX12_eyeOf 127 = .ok (.iload 4, 2) := by decide +kernel
theorem dX12_eyeOf_129 : decode cX12_eyeOf 129 = .ok (.iaload, 1) := by decide +kernel
theorem dX12_eyeOf_130 : decode cX12_eyeOf 130 = .ok (.goto 10, 3) := by decide +kernel
theorem dX12_eyeOf_133 : decode cX12_eyeOf 133 = .ok (.aload_n 0, 1) := by decide +kernel
theorem dX12_eyeOf_134 : decode cX12_eyeOf 134 = .ok (.getfield 78, 3) := by decide +kernel
theorem dX12_eyeOf_137 : decode cX12_eyeOf 137 = .ok (.iload 5, 2) := by decide +kernel
theorem dX12_eyeOf_139 : decode cX12_eyeOf 139 = .ok (.iaload, 1) := by decide +kernel
theorem dX12_eyeOf_140 : decode cX12_eyeOf 140 = .ok (.iadd, 1) := by decide +kernel
theorem dX12_eyeOf_141 : decode cX12_eyeOf 141 = .ok (.istore_n 3, 1) := by decide +kernel
theorem dX12_eyeOf_142 : decode cX12_eyeOf 142 = .ok (.iinc 5 1, 3) := by decide +kernel
theorem dX12_eyeOf_145 : decode cX12_eyeOf 145 = .ok (.goto (-98), 3) := by decide +kernel
theorem dX12_eyeOf_148 : decode cX12_eyeOf 148 = .ok (.iinc 4 1, 3) := by decide +kernel
theorem dX12_eyeOf_151 : decode cX12_eyeOf 151 = .ok (.goto (-116), 3) := by decide +kernel
theorem dX12_eyeOf_154 : decode cX12_eyeOf 154 = .ok (.iload_n 3, 1) := by decide +kernel
theorem dX12_eyeOf_155 : decode cX12_eyeOf 155 = .ok (.ifCond .ne 8, 3) := by decide +kernel
theorem dX12_eyeOf_158 : decode cX12_eyeOf 158 = .ok (.bipush 100, 2) := by decide +kernel
theorem dX12_eyeOf_160 : decode cX12_eyeOf 160 = .ok (.goto 9, 3) := by decide +kernel
theorem dX12_eyeOf_163 : decode cX12_eyeOf 163 = .ok (.bipush 100, 2) := by decide +kernel
theorem dX12_eyeOf_165 : decode cX12_eyeOf 165 = .ok (.iload_n 2, 1) := by decide +kernel
theorem dX12_eyeOf_166 : decode cX12_eyeOf 166 = .ok (.imul, 1) := by decide +kernel
theorem dX12_eyeOf_167 : decode cX12_eyeOf 167 = .ok (.iload_n 3, 1) := by decide +kernel
theorem dX12_eyeOf_168 : decode cX12_eyeOf 168 = .ok (.idiv, 1) := by decide +kernel
theorem dX12_eyeOf_169 : decode cX12_eyeOf 169 = .ok (.ireturn, 1) := by decide +kernel

set_option maxHeartbeats 4000000 in
set_option maxRecDepth 100000 in
theorem c_X12_eyeOf (l : Launch) (E : Ev) {A : Nat → Prop} (ad : Nat → Nat) (hA : Oka 30 ad A) (sc : Nat → Int32) (ar : Nat → Nat → Int32) (la : Nat → Int64) {nW nF : Nat} (x : Int32) (hW : sc 3 = nI nW) (hW60 : nW ≤ 60) (hF : sc 4 = nI nF) (hF200 : nF ≤ 200) (hK4 : ∀ f, f < nF → ∃ k, k < 4 ∧ ar 7 f = nI k) : Ct l E yX12_eyeOf (.code yX12_eyeOf cX12_eyeOf 6 (some .int)) ({ frames := 1, cells := 0, slots := 0, locals := 24 }) A (mw E ad sc ar la) [.ref (ad 0), .int x] (some (.int (mey (fun k => fns (ar 1) (ar 5) (ar 7) (ar 8) (nI k) nF) (ar 2) (ar 3) nW x))) (mw E ad sc (va_up ar 20 (cotI (fun k => fns (ar 1) (ar 5) (ar 7) (ar 8) (nI k) nF) (ar 20) nW)) la) := by
  refine Ct.of (lv := [(0, .ref (ad 0)), (1, .int x)]) (by decide +kernel) (Nat.le_of_ble_eq_true rfl) rfl ?_
  intro zp ze zs zm za zb zh zc hc
  refine g_iconst (pc := 0) (v := nI 0) hc dX12_eyeOf_0 (by decide) ?_
  refine g_istore_n (pc := 1) (lv' := [(0, .ref (ad 0)), (1, .int x), (2, .int (nI 0))]) hc dX12_eyeOf_1 rfl (by decide) rfl ?_
  have L2_1 : ∀ (ki i : Nat), i + ki = nW → G zp l ze ({ frames := 1, cells := 0, slots := 0, locals := 24 }) zs zm za zb zh zc 0 0 (MQ zb (Qz E A (some (.int (mey (fun k => fns (ar 1) (ar 5) (ar 7) (ar 8) (nI k) nF) (ar 2) (ar 3) nW x))) (mw E ad sc (va_up ar 20 (cotI (fun k => fns (ar 1) (ar 5) (ar 7) (ar 8) (nI k) nF) (ar 20) nW)) la)) za zs 0 0 A) E A 6 (mw E ad sc (va_up ar 20 (cotI (fun k => fns (ar 1) (ar 5) (ar 7) (ar 8) (nI k) nF) (ar 20) (i))) la) (2) [(0, .ref (ad 0)), (1, .int x), (2, .int (nI (i)))] [] := by
    intro ki
    induction ki with
    | zero =>
      intro i lhi
      have lhin : nW = i := by omega
      subst lhin
      refine g_iload_n (pc := 2) hc 2 dX12_eyeOf_2 rfl rfl ?_
      refine g_aload_n (pc := 3) hc 0 dX12_eyeOf_3 rfl rfl ?_
      refine gf_m0_walks (pc := 4) hc tw_1005 dX12_eyeOf_4 ?_
      refine g_topi (v := nI nW) (hW) ?_
      refine g_icmp_ge_t (pc := 7) hc 28 dX12_eyeOf_7 (by decide) (nI_le (by omega) (by omega)) ?_
      refine g_iconst (pc := 28) (v := nI 0) hc dX12_eyeOf_28 (by decide) ?_
      refine g_istore_n (pc := 29) (lv' := [(0, .ref (ad 0)), (1, .int x), (2, .int (nI 0))]) hc dX12_eyeOf_29 rfl (by decide) rfl ?_
      refine g_iconst (pc := 30) (v := nI 0) hc dX12_eyeOf_30 (by decide) ?_
      refine g_istore_n (pc := 31) (lv' := [(0, .ref (ad 0)), (1, .int x), (2, .int (nI 0)), (3, .int (nI 0))]) hc dX12_eyeOf_31 rfl (by decide) rfl ?_
      refine g_iconst (pc := 32) (v := nI 0) hc dX12_eyeOf_32 (by decide) ?_
      refine g_istore (pc := 33) (lv' := [(0, .ref (ad 0)), (1, .int x), (2, .int (nI 0)), (3, .int (nI 0)), (4, .int (nI 0))]) hc dX12_eyeOf_33 (by decide) rfl ?_
      have L35_2 : ∀ (ka a : Nat), a + ka = nW → G zp l ze ({ frames := 1, cells := 0, slots := 0, locals := 24 }) zs zm za zb zh zc 0 0 (MQ zb (Qz E A (some (.int (mey (fun k => fns (ar 1) (ar 5) (ar 7) (ar 8) (nI k) nF) (ar 2) (ar 3) nW x))) (mw E ad sc (va_up ar 20 (cotI (fun k => fns (ar 1) (ar 5) (ar 7) (ar 8) (nI k) nF) (ar 20) nW)) la)) za zs 0 0 A) E A 6 (mw E ad sc (va_up ar 20 (cotI (fun k => fns (ar 1) (ar 5) (ar 7) (ar 8) (nI k) nF) (ar 20) nW)) la) (35) [(0, .ref (ad 0)), (1, .int x), (2, .int (m0s (fun k => fns (ar 1) (ar 5) (ar 7) (ar 8) (nI k) nF) (ar 2) (ar 3) x nW (a))), (3, .int (m0b (fun k => fns (ar 1) (ar 5) (ar 7) (ar 8) (nI k) nF) (ar 2) (ar 3) x nW (a))), (4, .int (nI (a)))] [] := by
        intro ka
        induction ka with
        | zero =>
          intro a lha
          have lhan : nW = a := by omega
          subst lhan
          refine g_iload (pc := 35) hc 4 dX12_eyeOf_35 rfl ?_
          refine g_aload_n (pc := 37) hc 0 dX12_eyeOf_37 rfl rfl ?_
          refine gf_m0_walks (pc := 38) hc tw_1005 dX12_eyeOf_38 ?_
          refine g_topi (v := nI nW) (hW) ?_
          refine g_icmp_ge_t (pc := 41) hc 154 dX12_eyeOf_41 (by decide) (nI_le (by omega) (by omega)) ?_
          refine g_iload_n (pc := 154) hc 3 dX12_eyeOf_154 rfl rfl ?_
          refine g_if_ne (pc := 155) hc 163 dX12_eyeOf_155 (by decide) (fun c3 => ?_) (fun c3 => ?_)
          · refine g_bipush (pc := 163) (v := nI 100) hc dX12_eyeOf_163 (by decide) ?_
            refine g_iload_n (pc := 165) hc 2 dX12_eyeOf_165 rfl rfl ?_
            refine g_imul (pc := 166) hc dX12_eyeOf_166 ?_
            refine g_iload_n (pc := 167) hc 3 dX12_eyeOf_167 rfl rfl ?_
            refine g_idiv (pc := 168) hc dX12_eyeOf_168 (c3) ?_
            exact g_iret (pc := 169) hc dX12_eyeOf_169 (by unfold mey; (repeat (first | rw [if_pos c3] | rw [if_neg c3] | rw [if_neg (ne_true_of_eq_false c3)]))) (rfl)
          · refine g_bipush (pc := 158) (v := nI 100) hc dX12_eyeOf_158 (by decide) ?_
            refine g_goto (pc := 160) hc 169 dX12_eyeOf_160 (by decide) ?_
            exact g_iret (pc := 169) hc dX12_eyeOf_169 (by unfold mey; (repeat (first | rw [if_pos c3] | rw [if_neg c3] | rw [if_neg (ne_true_of_eq_false c3)]))) (rfl)
        | succ ka iha =>
          intro a lha
          have lhan : a < nW := by omega
          refine g_iload (pc := 35) hc 4 dX12_eyeOf_35 rfl ?_
          refine g_aload_n (pc := 37) hc 0 dX12_eyeOf_37 rfl rfl ?_
          refine gf_m0_walks (pc := 38) hc tw_1005 dX12_eyeOf_38 ?_
          refine g_topi (v := nI nW) (hW) ?_
          refine g_icmp_ge_f (pc := 41) hc 154 dX12_eyeOf_41 (by decide) (nI_ge (by omega) (by omega)) ?_
          refine g_iconst (pc := 44) (v := nI 0) hc dX12_eyeOf_44 (by decide) ?_
          refine g_istore (pc := 45) (lv' := [(0, .ref (ad 0)), (1, .int x), (2, .int (m0s (fun k => fns (ar 1) (ar 5) (ar 7) (ar 8) (nI k) nF) (ar 2) (ar 3) x nW (a))), (3, .int (m0b (fun k => fns (ar 1) (ar 5) (ar 7) (ar 8) (nI k) nF) (ar 2) (ar 3) x nW (a))), (4, .int (nI (a))), (5, .int (nI 0))]) hc dX12_eyeOf_45 (by decide) rfl ?_
          have L47_4 : ∀ (kb b : Nat), b + kb = nW → (hb : b = 0 ∨ ar 2 a = x) → G zp l ze ({ frames := 1, cells := 0, slots := 0, locals := 24 }) zs zm za zb zh zc 0 0 (MQ zb (Qz E A (some (.int (mey (fun k => fns (ar 1) (ar 5) (ar 7) (ar 8) (nI k) nF) (ar 2) (ar 3) nW x))) (mw E ad sc (va_up ar 20 (cotI (fun k => fns (ar 1) (ar 5) (ar 7) (ar 8) (nI k) nF) (ar 20) nW)) la)) za zs 0 0 A) E A 6 (mw E ad sc (va_up ar 20 (cotI (fun k => fns (ar 1) (ar 5) (ar 7) (ar 8) (nI k) nF) (ar 20) nW)) la) (47) [(0, .ref (ad 0)), (1, .int x), (2, .int (m1s (fun k => fns (ar 1) (ar 5) (ar 7) (ar 8) (nI k) nF) (ar 2) (ar 3) x a (m0s (fun k => fns (ar 1) (ar 5) (ar 7) (ar 8) (nI k) nF) (ar 2) (ar 3) x nW a) (b))), (3, .int (m1b (fun k => fns (ar 1) (ar 5) (ar 7) (ar 8) (nI k) nF) (ar 2) (ar 3) x a (m0b (fun k => fns (ar 1) (ar 5) (ar 7) (ar 8) (nI k) nF) (ar 2) (ar 3) x nW a) (b))), (4, .int (nI (a))), (5, .int (nI (b)))] [] := by
            intro kb
            induction kb with
            | zero =>
              intro b lhb hb
              have lhbn : nW = b := by omega
              subst lhbn
              refine g_iload (pc := 47) hc 5 dX12_eyeOf_47 rfl ?_
              refine g_aload_n (pc := 49) hc 0 dX12_eyeOf_49 rfl rfl ?_
              refine gf_m0_walks (pc := 50) hc tw_1005 dX12_eyeOf_50 ?_
              refine g_topi (v := nI nW) (hW) ?_
              refine g_icmp_ge_t (pc := 53) hc 148 dX12_eyeOf_53 (by decide) (nI_le (by omega) (by omega)) ?_
              refine g_iinc (pc := 148) (v := nI (a + 1)) (lv' := [(0, .ref (ad 0)), (1, .int x), (2, .int (m1s (fun k => fns (ar 1) (ar 5) (ar 7) (ar 8) (nI k) nF) (ar 2) (ar 3) x a (m0s (fun k => fns (ar 1) (ar 5) (ar 7) (ar 8) (nI k) nF) (ar 2) (ar 3) x nW a) (nW))), (3, .int (m1b (fun k => fns (ar 1) (ar 5) (ar 7) (ar 8) (nI k) nF) (ar 2) (ar 3) x a (m0b (fun k => fns (ar 1) (ar 5) (ar 7) (ar 8) (nI k) nF) (ar 2) (ar 3) x nW a) (nW))), (4, .int (nI (a + 1))), (5, .int (nI (nW)))]) hc 4 dX12_eyeOf_148 rfl (nI_ofi a 1) (by decide) rfl ?_
              refine g_goto (pc := 151) hc 35 dX12_eyeOf_151 (by decide) ?_
              refine g_lv [0, 1, 2, 3, 4] (lv' := [(0, .ref (ad 0)), (1, .int x), (2, .int (m1s (fun k => fns (ar 1) (ar 5) (ar 7) (ar 8) (nI k) nF) (ar 2) (ar 3) x a (m0s (fun k => fns (ar 1) (ar 5) (ar 7) (ar 8) (nI k) nF) (ar 2) (ar 3) x nW a) (nW))), (3, .int (m1b (fun k => fns (ar 1) (ar 5) (ar 7) (ar 8) (nI k) nF) (ar 2) (ar 3) x a (m0b (fun k => fns (ar 1) (ar 5) (ar 7) (ar 8) (nI k) nF) (ar 2) (ar 3) x nW a) (nW))), (4, .int (nI (a + 1)))]) rfl ?_
              exact g_eq (ws' := mw E ad sc (va_up ar 20 (cotI (fun k => fns (ar 1) (ar 5) (ar 7) (ar 8) (nI k) nF) (ar 20) nW)) la) (lv' := [(0, .ref (ad 0)), (1, .int x), (2, .int (m0s (fun k => fns (ar 1) (ar 5) (ar 7) (ar 8) (nI k) nF) (ar 2) (ar 3) x nW (a + 1))), (3, .int (m0b (fun k => fns (ar 1) (ar 5) (ar 7) (ar 8) (nI k) nF) (ar 2) (ar 3) x nW (a + 1))), (4, .int (nI (a + 1)))]) (rfl) (by rw [m0s_succ, if_pos (hb.resolve_left (by omega)), m0b_succ, if_pos (hb.resolve_left (by omega))]) rfl (iha (a + 1) (by omega))
            | succ kb ihb =>
              intro b lhb hb
              have lhbn : b < nW := by omega
              refine g_iload (pc := 47) hc 5 dX12_eyeOf_47 rfl ?_
              refine g_aload_n (pc := 49) hc 0 dX12_eyeOf_49 rfl rfl ?_
              refine gf_m0_walks (pc := 50) hc tw_1005 dX12_eyeOf_50 ?_
              refine g_topi (v := nI nW) (hW) ?_
              refine g_icmp_ge_f (pc := 53) hc 148 dX12_eyeOf_53 (by decide) (nI_ge (by omega) (by omega)) ?_
              refine g_aload_n (pc := 56) hc 0 dX12_eyeOf_56 rfl rfl ?_
              refine gf_m0_walker (pc := 57) hc tw_1006 dX12_eyeOf_57 ?_
              refine g_iload (pc := 60) hc 4 dX12_eyeOf_60 rfl ?_
              refine la_m2 (pc := 62) hc (a) (rfl) (by omega) dX12_eyeOf_62 ?_
              refine g_topi (v := (ar 2) a) rfl ?_
              refine g_iload_n (pc := 63) hc 1 dX12_eyeOf_63 rfl rfl ?_
              refine g_icmp_ne (pc := 64) hc 148 dX12_eyeOf_64 (by decide) (fun c5 => ?_) (fun c5 => ?_)
              · refine g_iinc (pc := 148) (v := nI (a + 1)) (lv' := [(0, .ref (ad 0)), (1, .int x), (2, .int (m1s (fun k => fns (ar 1) (ar 5) (ar 7) (ar 8) (nI k) nF) (ar 2) (ar 3) x a (m0s (fun k => fns (ar 1) (ar 5) (ar 7) (ar 8) (nI k) nF) (ar 2) (ar 3) x nW a) (b))), (3, .int (m1b (fun k => fns (ar 1) (ar 5) (ar 7) (ar 8) (nI k) nF) (ar 2) (ar 3) x a (m0b (fun k => fns (ar 1) (ar 5) (ar 7) (ar 8) (nI k) nF) (ar 2) (ar 3) x nW a) (b))), (4, .int (nI (a + 1))), (5, .int (nI (b)))]) hc 4 dX12_eyeOf_148 rfl (nI_ofi a 1) (by decide) rfl ?_
                refine g_goto (pc := 151) hc 35 dX12_eyeOf_151 (by decide) ?_
                refine g_lv [0, 1, 2, 3, 4] (lv' := [(0, .ref (ad 0)), (1, .int x), (2, .int (m1s (fun k => fns (ar 1) (ar 5) (ar 7) (ar 8) (nI k) nF) (ar 2) (ar 3) x a (m0s (fun k => fns (ar 1) (ar 5) (ar 7) (ar 8) (nI k) nF) (ar 2) (ar 3) x nW a) (b))), (3, .int (m1b (fun k => fns (ar 1) (ar 5) (ar 7) (ar 8) (nI k) nF) (ar 2) (ar 3) x a (m0b (fun k => fns (ar 1) (ar 5) (ar 7) (ar 8) (nI k) nF) (ar 2) (ar 3) x nW a) (b))), (4, .int (nI (a + 1)))]) rfl ?_
                exact g_eq (ws' := mw E ad sc (va_up ar 20 (cotI (fun k => fns (ar 1) (ar 5) (ar 7) (ar 8) (nI k) nF) (ar 20) nW)) la) (lv' := [(0, .ref (ad 0)), (1, .int x), (2, .int (m0s (fun k => fns (ar 1) (ar 5) (ar 7) (ar 8) (nI k) nF) (ar 2) (ar 3) x nW (a + 1))), (3, .int (m0b (fun k => fns (ar 1) (ar 5) (ar 7) (ar 8) (nI k) nF) (ar 2) (ar 3) x nW (a + 1))), (4, .int (nI (a + 1)))]) (rfl) (by have hb0 : b = 0 := hb.resolve_right c5; subst hb0; rw [m0s_succ, if_neg c5, m0b_succ, if_neg c5]; rfl) rfl (iha (a + 1) (by omega))
              · refine g_aload_n (pc := 67) hc 0 dX12_eyeOf_67 rfl rfl ?_
                refine gf_m0_walker (pc := 68) hc tw_1006 dX12_eyeOf_68 ?_
                refine g_iload (pc := 71) hc 5 dX12_eyeOf_71 rfl ?_
                refine la_m2 (pc := 73) hc (b) (rfl) (by omega) dX12_eyeOf_73 ?_
                refine g_topi (v := (ar 2) b) rfl ?_
                refine g_iload_n (pc := 74) hc 1 dX12_eyeOf_74 rfl rfl ?_
                refine g_icmp_eq (pc := 75) hc 142 dX12_eyeOf_75 (by decide) (fun c6 => ?_) (fun c6 => ?_)
                · refine g_iinc (pc := 142) (v := nI (b + 1)) (lv' := [(0, .ref (ad 0)), (1, .int x), (2, .int (m1s (fun k => fns (ar 1) (ar 5) (ar 7) (ar 8) (nI k) nF) (ar 2) (ar 3) x a (m0s (fun k => fns (ar 1) (ar 5) (ar 7) (ar 8) (nI k) nF) (ar 2) (ar 3) x nW a) (b))), (3, .int (m1b (fun k => fns (ar 1) (ar 5) (ar 7) (ar 8) (nI k) nF) (ar 2) (ar 3) x a (m0b (fun k => fns (ar 1) (ar 5) (ar 7) (ar 8) (nI k) nF) (ar 2) (ar 3) x nW a) (b))), (4, .int (nI (a))), (5, .int (nI (b + 1)))]) hc 5 dX12_eyeOf_142 rfl (nI_ofi b 1) (by decide) rfl ?_
                  refine g_goto (pc := 145) hc 47 dX12_eyeOf_145 (by decide) ?_
                  exact g_eq (ws' := mw E ad sc (va_up ar 20 (cotI (fun k => fns (ar 1) (ar 5) (ar 7) (ar 8) (nI k) nF) (ar 20) nW)) la) (lv' := [(0, .ref (ad 0)), (1, .int x), (2, .int (m1s (fun k => fns (ar 1) (ar 5) (ar 7) (ar 8) (nI k) nF) (ar 2) (ar 3) x a (m0s (fun k => fns (ar 1) (ar 5) (ar 7) (ar 8) (nI k) nF) (ar 2) (ar 3) x nW a) (b + 1))), (3, .int (m1b (fun k => fns (ar 1) (ar 5) (ar 7) (ar 8) (nI k) nF) (ar 2) (ar 3) x a (m0b (fun k => fns (ar 1) (ar 5) (ar 7) (ar 8) (nI k) nF) (ar 2) (ar 3) x nW a) (b + 1))), (4, .int (nI (a))), (5, .int (nI (b + 1)))]) (rfl) (by rw [m1s_succ, m1b_succ]; repeat (first | rw [if_pos c5] | rw [if_neg c5] | rw [if_neg (ne_true_of_eq_false c5)] | rw [if_pos c6] | rw [if_neg c6] | rw [if_neg (ne_true_of_eq_false c6)])) rfl (ihb (b + 1) (by omega) (Or.inr c5))
                · refine g_aload_n (pc := 78) hc 0 dX12_eyeOf_78 rfl rfl ?_
                  refine gf_m0_rowOf (pc := 79) hc tw_1007 dX12_eyeOf_79 ?_
                  refine g_iload (pc := 82) hc 4 dX12_eyeOf_82 rfl ?_
                  refine la_m3 (pc := 84) hc (a) (rfl) (by omega) dX12_eyeOf_84 ?_
                  refine g_topi (v := (ar 3) a) rfl ?_
                  refine g_aload_n (pc := 85) hc 0 dX12_eyeOf_85 rfl rfl ?_
                  refine gf_m0_rowOf (pc := 86) hc tw_1007 dX12_eyeOf_86 ?_
                  refine g_iload (pc := 89) hc 5 dX12_eyeOf_89 rfl ?_
                  refine la_m3 (pc := 91) hc (b) (rfl) (by omega) dX12_eyeOf_91 ?_
                  refine g_topi (v := (ar 3) b) rfl ?_
                  refine g_icmp_ne (pc := 92) hc 142 dX12_eyeOf_92 (by decide) (fun c7 => ?_) (fun c7 => ?_)
                  · refine g_iinc (pc := 142) (v := nI (b + 1)) (lv' := [(0, .ref (ad 0)), (1, .int x), (2, .int (m1s (fun k => fns (ar 1) (ar 5) (ar 7) (ar 8) (nI k) nF) (ar 2) (ar 3) x a (m0s (fun k => fns (ar 1) (ar 5) (ar 7) (ar 8) (nI k) nF) (ar 2) (ar 3) x nW a) (b))), (3, .int (m1b (fun k => fns (ar 1) (ar 5) (ar 7) (ar 8) (nI k) nF) (ar 2) (ar 3) x a (m0b (fun k => fns (ar 1) (ar 5) (ar 7) (ar 8) (nI k) nF) (ar 2) (ar 3) x nW a) (b))), (4, .int (nI (a))), (5, .int (nI (b + 1)))]) hc 5 dX12_eyeOf_142 rfl (nI_ofi b 1) (by decide) rfl ?_
                    refine g_goto (pc := 145) hc 47 dX12_eyeOf_145 (by decide) ?_
                    exact g_eq (ws' := mw E ad sc (va_up ar 20 (cotI (fun k => fns (ar 1) (ar 5) (ar 7) (ar 8) (nI k) nF) (ar 20) nW)) la) (lv' := [(0, .ref (ad 0)), (1, .int x), (2, .int (m1s (fun k => fns (ar 1) (ar 5) (ar 7) (ar 8) (nI k) nF) (ar 2) (ar 3) x a (m0s (fun k => fns (ar 1) (ar 5) (ar 7) (ar 8) (nI k) nF) (ar 2) (ar 3) x nW a) (b + 1))), (3, .int (m1b (fun k => fns (ar 1) (ar 5) (ar 7) (ar 8) (nI k) nF) (ar 2) (ar 3) x a (m0b (fun k => fns (ar 1) (ar 5) (ar 7) (ar 8) (nI k) nF) (ar 2) (ar 3) x nW a) (b + 1))), (4, .int (nI (a))), (5, .int (nI (b + 1)))]) (rfl) (by rw [m1s_succ, m1b_succ]; repeat (first | rw [if_pos c5] | rw [if_neg c5] | rw [if_neg (ne_true_of_eq_false c5)] | rw [if_pos c6] | rw [if_neg c6] | rw [if_neg (ne_true_of_eq_false c6)] | rw [if_pos c7] | rw [if_neg c7] | rw [if_neg (ne_true_of_eq_false c7)])) rfl (ihb (b + 1) (by omega) (Or.inr c5))
                  · refine g_iload_n (pc := 95) hc 2 dX12_eyeOf_95 rfl rfl ?_
                    refine g_aload_n (pc := 96) hc 0 dX12_eyeOf_96 rfl rfl ?_
                    refine gf_m0_fines (pc := 97) hc tw_1029 dX12_eyeOf_97 ?_
                    refine g_iload (pc := 100) hc 4 dX12_eyeOf_100 rfl ?_
                    refine la_m20 (pc := 102) hc (a) (rfl) (by omega) dX12_eyeOf_102 ?_
                    refine g_topi (v := (cotI (fun k => fns (ar 1) (ar 5) (ar 7) (ar 8) (nI k) nF) (ar 20) nW) a) rfl ?_
                    refine g_topi (v := fns (ar 1) (ar 5) (ar 7) (ar 8) (nI a) nF) (cotI_in _ _ (by omega)) ?_
                    refine g_iadd (pc := 103) hc dX12_eyeOf_103 ?_
                    refine g_istore_n (pc := 104) (lv' := [(0, .ref (ad 0)), (1, .int x), (2, .int ((m1s (fun k => fns (ar 1) (ar 5) (ar 7) (ar 8) (nI k) nF) (ar 2) (ar 3) x a (m0s (fun k => fns (ar 1) (ar 5) (ar 7) (ar 8) (nI k) nF) (ar 2) (ar 3) x nW a) (b)) + (fns (ar 1) (ar 5) (ar 7) (ar 8) (nI a) nF))), (3, .int (m1b (fun k => fns (ar 1) (ar 5) (ar 7) (ar 8) (nI k) nF) (ar 2) (ar 3) x a (m0b (fun k => fns (ar 1) (ar 5) (ar 7) (ar 8) (nI k) nF) (ar 2) (ar 3) x nW a) (b))), (4, .int (nI (a))), (5, .int (nI (b)))]) hc dX12_eyeOf_104 rfl (by decide) rfl ?_
                    refine g_iload_n (pc := 105) hc 3 dX12_eyeOf_105 rfl rfl ?_
                    refine g_aload_n (pc := 106) hc 0 dX12_eyeOf_106 rfl rfl ?_
                    refine gf_m0_fines (pc := 107) hc tw_1029 dX12_eyeOf_107 ?_
                    refine g_iload (pc := 110) hc 4 dX12_eyeOf_110 rfl ?_
                    refine la_m20 (pc := 112) hc (a) (rfl) (by omega) dX12_eyeOf_112 ?_
                    refine g_topi (v := (cotI (fun k => fns (ar 1) (ar 5) (ar 7) (ar 8) (nI k) nF) (ar 20) nW) a) rfl ?_
                    refine g_topi (v := fns (ar 1) (ar 5) (ar 7) (ar 8) (nI a) nF) (cotI_in _ _ (by omega)) ?_
                    refine g_aload_n (pc := 113) hc 0 dX12_eyeOf_113 rfl rfl ?_
                    refine gf_m0_fines (pc := 114) hc tw_1029 dX12_eyeOf_114 ?_
                    refine g_iload (pc := 117) hc 5 dX12_eyeOf_117 rfl ?_
                    refine la_m20 (pc := 119) hc (b) (rfl) (by omega) dX12_eyeOf_119 ?_
                    refine g_topi (v := (cotI (fun k => fns (ar 1) (ar 5) (ar 7) (ar 8) (nI k) nF) (ar 20) nW) b) rfl ?_
                    refine g_topi (v := fns (ar 1) (ar 5) (ar 7) (ar 8) (nI b) nF) (cotI_in _ _ (by omega)) ?_
                    refine g_icmp_le (pc := 120) hc 133 dX12_eyeOf_120 (by decide) (fun c8 => ?_) (fun c8 => ?_)
                    · refine g_aload_n (pc := 133) hc 0 dX12_eyeOf_133 rfl rfl ?_
                      refine gf_m0_fines (pc := 134) hc tw_1029 dX12_eyeOf_134 ?_
                      refine g_iload (pc := 137) hc 5 dX12_eyeOf_137 rfl ?_
                      refine la_m20 (pc := 139) hc (b) (rfl) (by omega) dX12_eyeOf_139 ?_
                      refine g_topi (v := (cotI (fun k => fns (ar 1) (ar 5) (ar 7) (ar 8) (nI k) nF) (ar 20) nW) b) rfl ?_
                      refine g_topi (v := fns (ar 1) (ar 5) (ar 7) (ar 8) (nI b) nF) (cotI_in _ _ (by omega)) ?_
                      refine g_iadd (pc := 140) hc dX12_eyeOf_140 ?_
                      refine g_istore_n (pc := 141) (lv' := [(0, .ref (ad 0)), (1, .int x), (2, .int ((m1s (fun k => fns (ar 1) (ar 5) (ar 7) (ar 8) (nI k) nF) (ar 2) (ar 3) x a (m0s (fun k => fns (ar 1) (ar 5) (ar 7) (ar 8) (nI k) nF) (ar 2) (ar 3) x nW a) (b)) + (fns (ar 1) (ar 5) (ar 7) (ar 8) (nI a) nF))), (3, .int ((m1b (fun k => fns (ar 1) (ar 5) (ar 7) (ar 8) (nI k) nF) (ar 2) (ar 3) x a (m0b (fun k => fns (ar 1) (ar 5) (ar 7) (ar 8) (nI k) nF) (ar 2) (ar 3) x nW a) (b)) + (fns (ar 1) (ar 5) (ar 7) (ar 8) (nI b) nF))), (4, .int (nI (a))), (5, .int (nI (b)))]) hc dX12_eyeOf_141 rfl (by decide) rfl ?_
                      refine g_iinc (pc := 142) (v := nI (b + 1)) (lv' := [(0, .ref (ad 0)), (1, .int x), (2, .int ((m1s (fun k => fns (ar 1) (ar 5) (ar 7) (ar 8) (nI k) nF) (ar 2) (ar 3) x a (m0s (fun k => fns (ar 1) (ar 5) (ar 7) (ar 8) (nI k) nF) (ar 2) (ar 3) x nW a) (b)) + (fns (ar 1) (ar 5) (ar 7) (ar 8) (nI a) nF))), (3, .int ((m1b (fun k => fns (ar 1) (ar 5) (ar 7) (ar 8) (nI k) nF) (ar 2) (ar 3) x a (m0b (fun k => fns (ar 1) (ar 5) (ar 7) (ar 8) (nI k) nF) (ar 2) (ar 3) x nW a) (b)) + (fns (ar 1) (ar 5) (ar 7) (ar 8) (nI b) nF))), (4, .int (nI (a))), (5, .int (nI (b + 1)))]) hc 5 dX12_eyeOf_142 rfl (nI_ofi b 1) (by decide) rfl ?_
                      refine g_goto (pc := 145) hc 47 dX12_eyeOf_145 (by decide) ?_
                      exact g_eq (ws' := mw E ad sc (va_up ar 20 (cotI (fun k => fns (ar 1) (ar 5) (ar 7) (ar 8) (nI k) nF) (ar 20) nW)) la) (lv' := [(0, .ref (ad 0)), (1, .int x), (2, .int (m1s (fun k => fns (ar 1) (ar 5) (ar 7) (ar 8) (nI k) nF) (ar 2) (ar 3) x a (m0s (fun k => fns (ar 1) (ar 5) (ar 7) (ar 8) (nI k) nF) (ar 2) (ar 3) x nW a) (b + 1))), (3, .int (m1b (fun k => fns (ar 1) (ar 5) (ar 7) (ar 8) (nI k) nF) (ar 2) (ar 3) x a (m0b (fun k => fns (ar 1) (ar 5) (ar 7) (ar 8) (nI k) nF) (ar 2) (ar 3) x nW a) (b + 1))), (4, .int (nI (a))), (5, .int (nI (b + 1)))]) (rfl) (by rw [m1s_succ, m1b_succ]; repeat (first | rw [if_pos c5] | rw [if_neg c5] | rw [if_neg (ne_true_of_eq_false c5)] | rw [if_pos c6] | rw [if_neg c6] | rw [if_neg (ne_true_of_eq_false c6)] | rw [if_pos c7] | rw [if_neg c7] | rw [if_neg (ne_true_of_eq_false c7)] | rw [if_pos c8] | rw [if_neg c8] | rw [if_neg (ne_true_of_eq_false c8)])) rfl (ihb (b + 1) (by omega) (Or.inr c5))
                    · refine g_aload_n (pc := 123) hc 0 dX12_eyeOf_123 rfl rfl ?_
                      refine gf_m0_fines (pc := 124) hc tw_1029 dX12_eyeOf_124 ?_
                      refine g_iload (pc := 127) hc 4 dX12_eyeOf_127 rfl ?_
                      refine la_m20 (pc := 129) hc (a) (rfl) (by omega) dX12_eyeOf_129 ?_
                      refine g_topi (v := (cotI (fun k => fns (ar 1) (ar 5) (ar 7) (ar 8) (nI k) nF) (ar 20) nW) a) rfl ?_
                      refine g_topi (v := fns (ar 1) (ar 5) (ar 7) (ar 8) (nI a) nF) (cotI_in _ _ (by omega)) ?_
                      refine g_goto (pc := 130) hc 140 dX12_eyeOf_130 (by decide) ?_
                      refine g_iadd (pc := 140) hc dX12_eyeOf_140 ?_
                      refine g_istore_n (pc := 141) (lv' := [(0, .ref (ad 0)), (1, .int x), (2, .int ((m1s (fun k => fns (ar 1) (ar 5) (ar 7) (ar 8) (nI k) nF) (ar 2) (ar 3) x a (m0s (fun k => fns (ar 1) (ar 5) (ar 7) (ar 8) (nI k) nF) (ar 2) (ar 3) x nW a) (b)) + (fns (ar 1) (ar 5) (ar 7) (ar 8) (nI a) nF))), (3, .int ((m1b (fun k => fns (ar 1) (ar 5) (ar 7) (ar 8) (nI k) nF) (ar 2) (ar 3) x a (m0b (fun k => fns (ar 1) (ar 5) (ar 7) (ar 8) (nI k) nF) (ar 2) (ar 3) x nW a) (b)) + (fns (ar 1) (ar 5) (ar 7) (ar 8) (nI a) nF))), (4, .int (nI (a))), (5, .int (nI (b)))]) hc dX12_eyeOf_141 rfl (by decide) rfl ?_
                      refine g_iinc (pc := 142) (v := nI (b + 1)) (lv' := [(0, .ref (ad 0)), (1, .int x), (2, .int ((m1s (fun k => fns (ar 1) (ar 5) (ar 7) (ar 8) (nI k) nF) (ar 2) (ar 3) x a (m0s (fun k => fns (ar 1) (ar 5) (ar 7) (ar 8) (nI k) nF) (ar 2) (ar 3) x nW a) (b)) + (fns (ar 1) (ar 5) (ar 7) (ar 8) (nI a) nF))), (3, .int ((m1b (fun k => fns (ar 1) (ar 5) (ar 7) (ar 8) (nI k) nF) (ar 2) (ar 3) x a (m0b (fun k => fns (ar 1) (ar 5) (ar 7) (ar 8) (nI k) nF) (ar 2) (ar 3) x nW a) (b)) + (fns (ar 1) (ar 5) (ar 7) (ar 8) (nI a) nF))), (4, .int (nI (a))), (5, .int (nI (b + 1)))]) hc 5 dX12_eyeOf_142 rfl (nI_ofi b 1) (by decide) rfl ?_
                      refine g_goto (pc := 145) hc 47 dX12_eyeOf_145 (by decide) ?_
                      exact g_eq (ws' := mw E ad sc (va_up ar 20 (cotI (fun k => fns (ar 1) (ar 5) (ar 7) (ar 8) (nI k) nF) (ar 20) nW)) la) (lv' := [(0, .ref (ad 0)), (1, .int x), (2, .int (m1s (fun k => fns (ar 1) (ar 5) (ar 7) (ar 8) (nI k) nF) (ar 2) (ar 3) x a (m0s (fun k => fns (ar 1) (ar 5) (ar 7) (ar 8) (nI k) nF) (ar 2) (ar 3) x nW a) (b + 1))), (3, .int (m1b (fun k => fns (ar 1) (ar 5) (ar 7) (ar 8) (nI k) nF) (ar 2) (ar 3) x a (m0b (fun k => fns (ar 1) (ar 5) (ar 7) (ar 8) (nI k) nF) (ar 2) (ar 3) x nW a) (b + 1))), (4, .int (nI (a))), (5, .int (nI (b + 1)))]) (rfl) (by rw [m1s_succ, m1b_succ]; repeat (first | rw [if_pos c5] | rw [if_neg c5] | rw [if_neg (ne_true_of_eq_false c5)] | rw [if_pos c6] | rw [if_neg c6] | rw [if_neg (ne_true_of_eq_false c6)] | rw [if_pos c7] | rw [if_neg c7] | rw [if_neg (ne_true_of_eq_false c7)] | rw [if_pos c8] | rw [if_neg c8] | rw [if_neg (ne_true_of_eq_false c8)])) rfl (ihb (b + 1) (by omega) (Or.inr c5))
          exact g_eq (ws' := mw E ad sc (va_up ar 20 (cotI (fun k => fns (ar 1) (ar 5) (ar 7) (ar 8) (nI k) nF) (ar 20) nW)) la) (lv' := [(0, .ref (ad 0)), (1, .int x), (2, .int (m1s (fun k => fns (ar 1) (ar 5) (ar 7) (ar 8) (nI k) nF) (ar 2) (ar 3) x a (m0s (fun k => fns (ar 1) (ar 5) (ar 7) (ar 8) (nI k) nF) (ar 2) (ar 3) x nW a) (0))), (3, .int (m1b (fun k => fns (ar 1) (ar 5) (ar 7) (ar 8) (nI k) nF) (ar 2) (ar 3) x a (m0b (fun k => fns (ar 1) (ar 5) (ar 7) (ar 8) (nI k) nF) (ar 2) (ar 3) x nW a) (0))), (4, .int (nI (a))), (5, .int (nI (0)))]) (rfl) (rfl) rfl (L47_4 (nW - 0) (0) (by omega) (Or.inl rfl))
      exact g_eq (ws' := mw E ad sc (va_up ar 20 (cotI (fun k => fns (ar 1) (ar 5) (ar 7) (ar 8) (nI k) nF) (ar 20) nW)) la) (lv' := [(0, .ref (ad 0)), (1, .int x), (2, .int (m0s (fun k => fns (ar 1) (ar 5) (ar 7) (ar 8) (nI k) nF) (ar 2) (ar 3) x nW (0))), (3, .int (m0b (fun k => fns (ar 1) (ar 5) (ar 7) (ar 8) (nI k) nF) (ar 2) (ar 3) x nW (0))), (4, .int (nI (0)))]) (rfl) (rfl) rfl (L35_2 (nW - 0) (0) (by omega))
    | succ ki ihi =>
      intro i lhi
      have lhin : i < nW := by omega
      refine g_iload_n (pc := 2) hc 2 dX12_eyeOf_2 rfl rfl ?_
      refine g_aload_n (pc := 3) hc 0 dX12_eyeOf_3 rfl rfl ?_
      refine gf_m0_walks (pc := 4) hc tw_1005 dX12_eyeOf_4 ?_
      refine g_topi (v := nI nW) (hW) ?_
      refine g_icmp_ge_f (pc := 7) hc 28 dX12_eyeOf_7 (by decide) (nI_ge (by omega) (by omega)) ?_
      refine g_aload_n (pc := 10) hc 0 dX12_eyeOf_10 rfl rfl ?_
      refine gf_m0_fines (pc := 11) hc tw_1029 dX12_eyeOf_11 ?_
      refine g_iload_n (pc := 14) hc 2 dX12_eyeOf_14 rfl rfl ?_
      refine g_aload_n (pc := 15) hc 0 dX12_eyeOf_15 rfl rfl ?_
      refine g_iload_n (pc := 16) hc 2 dX12_eyeOf_16 rfl rfl ?_
      refine g_iconst (pc := 17) (v := nI 0) hc dX12_eyeOf_17 (by decide) ?_
      refine g_callVi (pc := 18) (rest := [.int (nI (i)), .ref (ad 20)]) (As := [.int (nI (i)), .int (nI 0)]) hc (c_X12_found0 l E ad hA sc (va_up ar 20 (cotI (fun k => fns (ar 1) (ar 5) (ar 7) (ar 8) (nI k) nF) (ar 20) (i))) la (nI (i)) hF hF200 hK4) mi_X12_found tw_1193 0 rfl rfl rfl rfl ⟨rfl, rfl, by decide, by decide⟩ (Nat.le_of_ble_eq_true rfl) ⟨Nat.le_refl _, Nat.le_refl _⟩ rfl dX12_eyeOf_18 ?_
      refine g_topi (v := fns (ar 1) (ar 5) (ar 7) (ar 8) (nI (i)) nF) rfl ?_
      refine sa_m20 (pc := 21) hc hA (i) (rfl) (by omega) dX12_eyeOf_21 ?_
      refine g_eq (ws' := mw E ad sc (va_up ar 20 (upd (cotI (fun k => fns (ar 1) (ar 5) (ar 7) (ar 8) (nI k) nF) (ar 20) (i)) i (fns (ar 1) (ar 5) (ar 7) (ar 8) (nI (i)) nF))) la) (lv' := [(0, .ref (ad 0)), (1, .int x), (2, .int (nI (i)))]) rfl rfl rfl ?_
      refine g_iinc (pc := 22) (v := nI (i + 1)) (lv' := [(0, .ref (ad 0)), (1, .int x), (2, .int (nI (i + 1)))]) hc 2 dX12_eyeOf_22 rfl (nI_ofi i 1) (by decide) rfl ?_
      refine g_goto (pc := 25) hc 2 dX12_eyeOf_25 (by decide) ?_
      exact g_eq (ws' := mw E ad sc (va_up ar 20 (cotI (fun k => fns (ar 1) (ar 5) (ar 7) (ar 8) (nI k) nF) (ar 20) (i + 1))) la) (lv' := [(0, .ref (ad 0)), (1, .int x), (2, .int (nI (i + 1)))]) (rfl) (rfl) rfl (ihi (i + 1) (by omega))
  exact g_eq (ws' := mw E ad sc (va_up ar 20 (cotI (fun k => fns (ar 1) (ar 5) (ar 7) (ar 8) (nI k) nF) (ar 20) (0))) la) (lv' := [(0, .ref (ad 0)), (1, .int x), (2, .int (nI (0)))]) (rfl) (rfl) rfl (L2_1 (nW - 0) (0) (by omega))

theorem dX12_eye_0 : decode cX12_eye 0 = .ok (.iload_n 1, 1) := by decide +kernel
theorem dX12_eye_1 : decode cX12_eye 1 = .ok (.invokestatic 136, 3) := by decide +kernel
theorem dX12_eye_4 : decode cX12_eye 4 = .ok (.ifCond .eq 11, 3) := by decide +kernel
theorem dX12_eye_7 : decode cX12_eye 7 = .ok (.aload_n 0, 1) := by decide +kernel
theorem dX12_eye_8 : decode cX12_eye 8 = .ok (.iload_n 1, 1) := by decide +kernel
theorem dX12_eye_9 : decode cX12_eye 9 = .ok (.invokevirtual 168, 3) := by decide +kernel
theorem dX12_eye_12 : decode cX12_eye 12 = .ok (.goto 5, 3) := by decide +kernel
theorem dX12_eye_15 : decode cX12_eye 15 = .ok (.ldc 120, 2) := by decide +kernel
theorem dX12_eye_17 : decode cX12_eye 17 = .ok (.ireturn, 1) := by decide +kernel

set_option maxHeartbeats 4000000 in
set_option maxRecDepth 100000 in
theorem c_X12_eye (l : Launch) (E : Ev) {A : Nat → Prop} (ad : Nat → Nat) (hA : Oka 30 ad A) (sc : Nat → Int32) (ar : Nat → Nat → Int32) (la : Nat → Int64) {nW nF : Nat} (x : Int32) (hW : sc 3 = nI nW) (hW60 : nW ≤ 60) (hF : sc 4 = nI nF) (hF200 : nF ≤ 200) (hK4 : ∀ f, f < nF → ∃ k, k < 4 ∧ ar 7 f = nI k) : Ct l E yX12_eye (.code yX12_eye cX12_eye 2 (some .int)) ({ frames := 2, cells := 0, slots := 0, locals := 49 }) A (mw E ad sc ar la) [.ref (ad 0), .int x] (some (.int (if inr x (nI 0) (nI 4) = true then mey (fun k => fns (ar 1) (ar 5) (ar 7) (ar 8) (nI k) nF) (ar 2) (ar 3) nW x else (-1000000001)))) (if inr x (nI 0) (nI 4) = true then mw E ad sc (va_up ar 20 (cotI (fun k => fns (ar 1) (ar 5) (ar 7) (ar 8) (nI k) nF) (ar 20) nW)) la else mw E ad sc ar la) := by
  refine Ct.of (lv := [(0, .ref (ad 0)), (1, .int x)]) (by decide +kernel) (Nat.le_of_ble_eq_true rfl) rfl ?_
  intro zp ze zs zm za zb zh zc hc
  refine g_iload_n (pc := 0) hc 1 dX12_eye_0 rfl rfl ?_
  refine g_callSi (pc := 1) (rest := []) (As := [.int x]) hc (c_X12_isWalker l E ad hA sc ar la x) mi_X12_isWalker tw_1159 rfl ⟨rfl, rfl, by decide, by decide⟩ (Nat.le_of_ble_eq_true rfl) ⟨Nat.le_refl _, Nat.le_refl _⟩ rfl dX12_eye_1 ?_
  refine g_if_eq_b (pc := 4) hc 15 dX12_eye_4 (by decide) (fun c1 => ?_) (fun c1 => ?_)
  · refine g_ldc (pc := 15) (v := (-1000000001)) hc tw_1139 dX12_eye_15 ?_
    exact g_iret (pc := 17) hc dX12_eye_17 (by (repeat (first | rw [if_pos c1] | rw [if_neg c1] | rw [if_neg (ne_true_of_eq_false c1)]))) (by (repeat (first | rw [if_pos c1] | rw [if_neg c1] | rw [if_neg (ne_true_of_eq_false c1)])))
  · refine g_aload_n (pc := 7) hc 0 dX12_eye_7 rfl rfl ?_
    refine g_iload_n (pc := 8) hc 1 dX12_eye_8 rfl rfl ?_
    refine g_callVi (pc := 9) (rest := []) (As := [.int x]) hc (c_X12_eyeOf l E ad hA sc ar la x (hW) (hW60) (hF) (hF200) (hK4)) mi_X12_eyeOf tw_1229 0 rfl rfl rfl rfl ⟨rfl, rfl, by decide, by decide⟩ (Nat.le_of_ble_eq_true rfl) ⟨Nat.le_refl _, Nat.le_refl _⟩ rfl dX12_eye_9 ?_
    refine g_goto (pc := 12) hc 17 dX12_eye_12 (by decide) ?_
    exact g_iret (pc := 17) hc dX12_eye_17 (by (repeat (first | rw [if_pos c1] | rw [if_neg c1] | rw [if_neg (ne_true_of_eq_false c1)]))) (by (repeat (first | rw [if_pos c1] | rw [if_neg c1] | rw [if_neg (ne_true_of_eq_false c1)])))

theorem dX12_look_0 : decode cX12_look 0 = .ok (.iconst 0, 1) := by decide +kernel
theorem dX12_look_1 : decode cX12_look 1 = .ok (.istore_n 1, 1) := by decide +kernel
theorem dX12_look_2 : decode cX12_look 2 = .ok (.iload_n 1, 1) := by decide +kernel
theorem dX12_look_3 : decode cX12_look 3 = .ok (.iconst 5, 1) := by decide +kernel
theorem dX12_look_4 : decode cX12_look 4 = .ok (.if_icmp .ge 20, 3) := by decide +kernel
theorem dX12_look_7 : decode cX12_look 7 = .ok (.aload_n 0, 1) := by decide +kernel
theorem dX12_look_8 : decode cX12_look 8 = .ok (.getfield 81, 3) := by decide +kernel
theorem dX12_look_11 : decode cX12_look 11 = .ok (.iload_n 1, 1) := by decide +kernel
theorem dX12_look_12 : decode cX12_look 12 = .ok (.aload_n 0, 1) := by decide +kernel
theorem dX12_look_13 : decode cX12_look 13 = .ok (.iload_n 1, 1) := by decide +kernel
theorem dX12_look_14 : decode cX12_look 14 = .ok (.invokevirtual 168, 3) := by decide +kernel
theorem dX12_look_17 : decode cX12_look 17 = .ok (.iastore, 1) := by decide +kernel
theorem dX12_look_18 : decode cX12_look 18 = .ok (.iinc 1 1, 3) := by decide +kernel
theorem dX12_look_21 : decode cX12_look 21 = .ok (.goto (-19), 3) := by decide +kernel
theorem dX12_look_24 : decode cX12_look 24 = .ok (.iconst 0, 1) := by decide +kernel
theorem dX12_look_25 : decode cX12_look 25 = .ok (.istore_n 1, 1) := by decide +kernel
theorem dX12_look_26 : decode cX12_look 26 = .ok (.iload_n 1, 1) := by decide +kernel
theorem dX12_look_27 : decode cX12_look 27 = .ok (.aload_n 0, 1) := by decide +kernel
theorem dX12_look_28 : decode cX12_look 28 = .ok (.getfield 13, 3) := by decide +kernel
theorem dX12_look_31 : decode cX12_look 31 = .ok (.if_icmp .ge 20, 3) := by decide +kernel
theorem dX12_look_34 : decode cX12_look 34 = .ok (.aload_n 0, 1) := by decide +kernel
theorem dX12_look_35 : decode cX12_look 35 = .ok (.getfield 84, 3) := by decide +kernel
theorem dX12_look_38 : decode cX12_look 38 = .ok (.iload_n 1, 1) := by decide +kernel
theorem dX12_look_39 : decode cX12_look 39 = .ok (.aload_n 0, 1) := by decide +kernel
theorem dX12_look_40 : decode cX12_look 40 = .ok (.iload_n 1, 1) := by decide +kernel
theorem dX12_look_41 : decode cX12_look 41 = .ok (.invokevirtual 161, 3) := by decide +kernel
theorem dX12_look_44 : decode cX12_look 44 = .ok (.iastore, 1) := by decide +kernel
theorem dX12_look_45 : decode cX12_look 45 = .ok (.iinc 1 1, 3) := by decide +kernel
theorem dX12_look_48 : decode cX12_look 48 = .ok (.goto (-22), 3) := by decide +kernel
theorem dX12_look_51 : decode cX12_look 51 = .ok (.return_, 1) := by decide +kernel

set_option maxHeartbeats 4000000 in
set_option maxRecDepth 100000 in
theorem c_X12_look (l : Launch) (E : Ev) {A : Nat → Prop} (ad : Nat → Nat) (hA : Oka 30 ad A) (sc : Nat → Int32) (ar : Nat → Nat → Int32) (la : Nat → Int64) {nW nF wd hg : Nat}  (hW : sc 3 = nI nW) (hW60 : nW ≤ 60) (hF : sc 4 = nI nF) (hF200 : nF ≤ 200) (hK4 : ∀ f, f < nF → ∃ k, k < 4 ∧ ar 7 f = nI k) (hwd : sc 0 = nI wd) (hwd1 : 2 ≤ wd) (hwd2 : wd ≤ 8) (hhg : sc 1 = nI hg) (hhg1 : 2 ≤ hg) (hhg2 : hg ≤ 8) : Ct l E yX12_look (.code yX12_look cX12_look 2 none) ({ frames := 2, cells := 0, slots := 0, locals := 49 }) A (mw E ad sc ar la) [.ref (ad 0)] (none) (mw E ad sc (va_up (va_up (va_up ar 20 (fiI (fun k => fns (ar 1) (ar 5) (ar 7) (ar 8) (nI k) nF) nW (ar 20) 5)) 21 (cotI (fun v => mey (fun k => fns (ar 1) (ar 5) (ar 7) (ar 8) (nI k) nF) (ar 2) (ar 3) nW (nI v)) (ar 21) 5)) 22 (cotI (fun r => mtl nW nF (ar 3) (ar 5) (ar 8) (nI r)) (ar 22) hg)) la) := by
  refine Ct.of (lv := [(0, .ref (ad 0))]) (by decide +kernel) (Nat.le_of_ble_eq_true rfl) rfl ?_
  intro zp ze zs zm za zb zh zc hc
  refine g_iconst (pc := 0) (v := nI 0) hc dX12_look_0 (by decide) ?_
  refine g_istore_n (pc := 1) (lv' := [(0, .ref (ad 0)), (1, .int (nI 0))]) hc dX12_look_1 rfl (by decide) rfl ?_
  have L2_1 : ∀ (kv v : Nat), v + kv = 5 → G zp l ze ({ frames := 2, cells := 0, slots := 0, locals := 49 }) zs zm za zb zh zc 0 0 (MQ zb (Qz E A (none) (mw E ad sc (va_up (va_up (va_up ar 20 (fiI (fun k => fns (ar 1) (ar 5) (ar 7) (ar 8) (nI k) nF) nW (ar 20) 5)) 21 (cotI (fun v => mey (fun k => fns (ar 1) (ar 5) (ar 7) (ar 8) (nI k) nF) (ar 2) (ar 3) nW (nI v)) (ar 21) 5)) 22 (cotI (fun r => mtl nW nF (ar 3) (ar 5) (ar 8) (nI r)) (ar 22) hg)) la)) za zs 0 0 A) E A 2 (mw E ad sc (va_up (va_up ar 20 (fiI (fun k => fns (ar 1) (ar 5) (ar 7) (ar 8) (nI k) nF) nW (ar 20) (v))) 21 (cotI (fun v => mey (fun k => fns (ar 1) (ar 5) (ar 7) (ar 8) (nI k) nF) (ar 2) (ar 3) nW (nI v)) (ar 21) (v))) la) (2) [(0, .ref (ad 0)), (1, .int (nI (v)))] [] := by
    intro kv
    induction kv with
    | zero =>
      intro v lhv
      have lhvn : 5 = v := by omega
      subst lhvn
      refine g_iload_n (pc := 2) hc 1 dX12_look_2 rfl rfl ?_
      refine g_iconst (pc := 3) (v := nI 5) hc dX12_look_3 (by decide) ?_
      refine g_icmp_ge_t (pc := 4) hc 24 dX12_look_4 (by decide) (nI_le (by omega) (by omega)) ?_
      refine g_iconst (pc := 24) (v := nI 0) hc dX12_look_24 (by decide) ?_
      refine g_istore_n (pc := 25) (lv' := [(0, .ref (ad 0)), (1, .int (nI 0))]) hc dX12_look_25 rfl (by decide) rfl ?_
      have L26_2 : ∀ (kr r : Nat), r + kr = hg → G zp l ze ({ frames := 2, cells := 0, slots := 0, locals := 49 }) zs zm za zb zh zc 0 0 (MQ zb (Qz E A (none) (mw E ad sc (va_up (va_up (va_up ar 20 (fiI (fun k => fns (ar 1) (ar 5) (ar 7) (ar 8) (nI k) nF) nW (ar 20) 5)) 21 (cotI (fun v => mey (fun k => fns (ar 1) (ar 5) (ar 7) (ar 8) (nI k) nF) (ar 2) (ar 3) nW (nI v)) (ar 21) 5)) 22 (cotI (fun r => mtl nW nF (ar 3) (ar 5) (ar 8) (nI r)) (ar 22) hg)) la)) za zs 0 0 A) E A 2 (mw E ad sc (va_up (va_up (va_up ar 20 (fiI (fun k => fns (ar 1) (ar 5) (ar 7) (ar 8) (nI k) nF) nW (ar 20) 5)) 21 (cotI (fun v => mey (fun k => fns (ar 1) (ar 5) (ar 7) (ar 8) (nI k) nF) (ar 2) (ar 3) nW (nI v)) (ar 21) 5)) 22 (cotI (fun r => mtl nW nF (ar 3) (ar 5) (ar 8) (nI r)) (ar 22) (r))) la) (26) [(0, .ref (ad 0)), (1, .int (nI (r)))] [] := by
        intro kr
        induction kr with
        | zero =>
          intro r lhr
          have lhrn : hg = r := by omega
          subst lhrn
          refine g_iload_n (pc := 26) hc 1 dX12_look_26 rfl rfl ?_
          refine g_aload_n (pc := 27) hc 0 dX12_look_27 rfl rfl ?_
          refine gf_m0_high (pc := 28) hc tw_1002 dX12_look_28 ?_
          refine g_topi (v := nI hg) (hhg) ?_
          refine g_icmp_ge_t (pc := 31) hc 51 dX12_look_31 (by decide) (nI_le (by omega) (by omega)) ?_
          exact g_vret (pc := 51) hc dX12_look_51 rfl (rfl)
        | succ kr ihr =>
          intro r lhr
          have lhrn : r < hg := by omega
          refine g_iload_n (pc := 26) hc 1 dX12_look_26 rfl rfl ?_
          refine g_aload_n (pc := 27) hc 0 dX12_look_27 rfl rfl ?_
          refine gf_m0_high (pc := 28) hc tw_1002 dX12_look_28 ?_
          refine g_topi (v := nI hg) (hhg) ?_
          refine g_icmp_ge_f (pc := 31) hc 51 dX12_look_31 (by decide) (nI_ge (by omega) (by omega)) ?_
          refine g_aload_n (pc := 34) hc 0 dX12_look_34 rfl rfl ?_
          refine gf_m0_chosen (pc := 35) hc tw_1031 dX12_look_35 ?_
          refine g_iload_n (pc := 38) hc 1 dX12_look_38 rfl rfl ?_
          refine g_aload_n (pc := 39) hc 0 dX12_look_39 rfl rfl ?_
          refine g_iload_n (pc := 40) hc 1 dX12_look_40 rfl rfl ?_
          refine g_callVi (pc := 41) (rest := [.int (nI (r)), .ref (ad 22)]) (As := [.int (nI (r))]) hc (c_X12_walkOf l E ad hA sc (va_up (va_up (va_up ar 20 (fiI (fun k => fns (ar 1) (ar 5) (ar 7) (ar 8) (nI k) nF) nW (ar 20) 5)) 21 (cotI (fun v => mey (fun k => fns (ar 1) (ar 5) (ar 7) (ar 8) (nI k) nF) (ar 2) (ar 3) nW (nI v)) (ar 21) 5)) 22 (cotI (fun r => mtl nW nF (ar 3) (ar 5) (ar 8) (nI r)) (ar 22) (r))) la (nI (r)) (hW) (hW60) (hF) (hF200)) mi_X12_walkOf tw_1197 0 rfl rfl rfl rfl ⟨rfl, rfl, by decide, by decide⟩ (Nat.le_of_ble_eq_true rfl) ⟨Nat.le_refl _, Nat.le_refl _⟩ rfl dX12_look_41 ?_
          refine g_topi (v := mtl nW nF (ar 3) (ar 5) (ar 8) (nI (r))) rfl ?_
          refine sa_m22 (pc := 44) hc hA (r) (rfl) (by omega) dX12_look_44 ?_
          refine g_eq (ws' := mw E ad sc (va_up (va_up (va_up ar 20 (fiI (fun k => fns (ar 1) (ar 5) (ar 7) (ar 8) (nI k) nF) nW (ar 20) 5)) 21 (cotI (fun v => mey (fun k => fns (ar 1) (ar 5) (ar 7) (ar 8) (nI k) nF) (ar 2) (ar 3) nW (nI v)) (ar 21) 5)) 22 (upd (cotI (fun r => mtl nW nF (ar 3) (ar 5) (ar 8) (nI r)) (ar 22) (r)) r (mtl nW nF (ar 3) (ar 5) (ar 8) (nI (r))))) la) (lv' := [(0, .ref (ad 0)), (1, .int (nI (r)))]) rfl rfl rfl ?_
          refine g_iinc (pc := 45) (v := nI (r + 1)) (lv' := [(0, .ref (ad 0)), (1, .int (nI (r + 1)))]) hc 1 dX12_look_45 rfl (nI_ofi r 1) (by decide) rfl ?_
          refine g_goto (pc := 48) hc 26 dX12_look_48 (by decide) ?_
          exact g_eq (ws' := mw E ad sc (va_up (va_up (va_up ar 20 (fiI (fun k => fns (ar 1) (ar 5) (ar 7) (ar 8) (nI k) nF) nW (ar 20) 5)) 21 (cotI (fun v => mey (fun k => fns (ar 1) (ar 5) (ar 7) (ar 8) (nI k) nF) (ar 2) (ar 3) nW (nI v)) (ar 21) 5)) 22 (cotI (fun r => mtl nW nF (ar 3) (ar 5) (ar 8) (nI r)) (ar 22) (r + 1))) la) (lv' := [(0, .ref (ad 0)), (1, .int (nI (r + 1)))]) (rfl) (rfl) rfl (ihr (r + 1) (by omega))
      exact g_eq (ws' := mw E ad sc (va_up (va_up (va_up ar 20 (fiI (fun k => fns (ar 1) (ar 5) (ar 7) (ar 8) (nI k) nF) nW (ar 20) 5)) 21 (cotI (fun v => mey (fun k => fns (ar 1) (ar 5) (ar 7) (ar 8) (nI k) nF) (ar 2) (ar 3) nW (nI v)) (ar 21) 5)) 22 (cotI (fun r => mtl nW nF (ar 3) (ar 5) (ar 8) (nI r)) (ar 22) (0))) la) (lv' := [(0, .ref (ad 0)), (1, .int (nI (0)))]) (rfl) (rfl) rfl (L26_2 (hg - 0) (0) (by omega))
    | succ kv ihv =>
      intro v lhv
      have lhvn : v < 5 := by omega
      refine g_iload_n (pc := 2) hc 1 dX12_look_2 rfl rfl ?_
      refine g_iconst (pc := 3) (v := nI 5) hc dX12_look_3 (by decide) ?_
      refine g_icmp_ge_f (pc := 4) hc 24 dX12_look_4 (by decide) (nI_ge (by omega) (by omega)) ?_
      refine g_aload_n (pc := 7) hc 0 dX12_look_7 rfl rfl ?_
      refine gf_m0_eyes (pc := 8) hc tw_1030 dX12_look_8 ?_
      refine g_iload_n (pc := 11) hc 1 dX12_look_11 rfl rfl ?_
      refine g_aload_n (pc := 12) hc 0 dX12_look_12 rfl rfl ?_
      refine g_iload_n (pc := 13) hc 1 dX12_look_13 rfl rfl ?_
      refine g_callVi (pc := 14) (rest := [.int (nI (v)), .ref (ad 21)]) (As := [.int (nI (v))]) hc (c_X12_eyeOf l E ad hA sc (va_up (va_up ar 20 (fiI (fun k => fns (ar 1) (ar 5) (ar 7) (ar 8) (nI k) nF) nW (ar 20) (v))) 21 (cotI (fun v => mey (fun k => fns (ar 1) (ar 5) (ar 7) (ar 8) (nI k) nF) (ar 2) (ar 3) nW (nI v)) (ar 21) (v))) la (nI (v)) (hW) (hW60) (hF) (hF200) (hK4)) mi_X12_eyeOf tw_1229 0 rfl rfl rfl rfl ⟨rfl, rfl, by decide, by decide⟩ (Nat.le_of_ble_eq_true rfl) ⟨Nat.le_refl _, Nat.le_refl _⟩ rfl dX12_look_14 ?_
      refine g_topi (v := mey (fun k => fns (ar 1) (ar 5) (ar 7) (ar 8) (nI k) nF) (ar 2) (ar 3) nW (nI (v))) rfl ?_
      refine g_eq (ws' := mw E ad sc (va_up (va_up ar 21 (cotI (fun v => mey (fun k => fns (ar 1) (ar 5) (ar 7) (ar 8) (nI k) nF) (ar 2) (ar 3) nW (nI v)) (ar 21) (v))) 20 (cotI (fun k => fns (ar 1) (ar 5) (ar 7) (ar 8) (nI k) nF) (fiI (fun k => fns (ar 1) (ar 5) (ar 7) (ar 8) (nI k) nF) nW (ar 20) (v)) nW)) la) (lv' := [(0, .ref (ad 0)), (1, .int (nI (v)))]) (rfl) rfl rfl ?_
      refine sa_m21 (pc := 17) hc hA (v) (rfl) (by omega) dX12_look_17 ?_
      refine g_eq (ws' := mw E ad sc (va_up (va_up ar 20 (cotI (fun k => fns (ar 1) (ar 5) (ar 7) (ar 8) (nI k) nF) (fiI (fun k => fns (ar 1) (ar 5) (ar 7) (ar 8) (nI k) nF) nW (ar 20) (v)) nW)) 21 (upd (cotI (fun v => mey (fun k => fns (ar 1) (ar 5) (ar 7) (ar 8) (nI k) nF) (ar 2) (ar 3) nW (nI v)) (ar 21) (v)) v (mey (fun k => fns (ar 1) (ar 5) (ar 7) (ar 8) (nI k) nF) (ar 2) (ar 3) nW (nI (v))))) la) (lv' := [(0, .ref (ad 0)), (1, .int (nI (v)))]) rfl rfl rfl ?_
      refine g_iinc (pc := 18) (v := nI (v + 1)) (lv' := [(0, .ref (ad 0)), (1, .int (nI (v + 1)))]) hc 1 dX12_look_18 rfl (nI_ofi v 1) (by decide) rfl ?_
      refine g_goto (pc := 21) hc 2 dX12_look_21 (by decide) ?_
      exact g_eq (ws' := mw E ad sc (va_up (va_up ar 20 (fiI (fun k => fns (ar 1) (ar 5) (ar 7) (ar 8) (nI k) nF) nW (ar 20) (v + 1))) 21 (cotI (fun v => mey (fun k => fns (ar 1) (ar 5) (ar 7) (ar 8) (nI k) nF) (ar 2) (ar 3) nW (nI v)) (ar 21) (v + 1))) la) (lv' := [(0, .ref (ad 0)), (1, .int (nI (v + 1)))]) (rfl) (rfl) rfl (ihv (v + 1) (by omega))
  exact g_eq (ws' := mw E ad sc (va_up (va_up ar 20 (fiI (fun k => fns (ar 1) (ar 5) (ar 7) (ar 8) (nI k) nF) nW (ar 20) (0))) 21 (cotI (fun v => mey (fun k => fns (ar 1) (ar 5) (ar 7) (ar 8) (nI k) nF) (ar 2) (ar 3) nW (nI v)) (ar 21) (0))) la) (lv' := [(0, .ref (ad 0)), (1, .int (nI (0)))]) (rfl) (rfl) rfl (L2_1 (5 - 0) (0) (by omega))
