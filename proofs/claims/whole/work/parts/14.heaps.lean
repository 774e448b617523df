theorem dX2_ringSum_0 : decode cX2_ringSum 0 = .ok (.aload_n 0, 1) := by decide +kernel
theorem dX2_ringSum_1 : decode cX2_ringSum 1 = .ok (.iload_n 2, 1) := by decide +kernel
theorem dX2_ringSum_2 : decode cX2_ringSum 2 = .ok (.invokevirtual 33, 3) := by decide +kernel
theorem dX2_ringSum_5 : decode cX2_ringSum 5 = .ok (.istore_n 3, 1) := by decide +kernel
theorem dX2_ringSum_6 : decode cX2_ringSum 6 = .ok (.aload_n 0, 1) := by decide +kernel
theorem dX2_ringSum_7 : decode cX2_ringSum 7 = .ok (.iload_n 2, 1) := by decide +kernel
theorem dX2_ringSum_8 : decode cX2_ringSum 8 = .ok (.invokevirtual 45, 3) := by decide +kernel
theorem dX2_ringSum_11 : decode cX2_ringSum 11 = .ok (.istore 4, 2) := by decide +kernel
theorem dX2_ringSum_13 : decode cX2_ringSum 13 = .ok (.iload_n 3, 1) := by decide +kernel
theorem dX2_ringSum_14 : decode cX2_ringSum 14 = .ok (.iconst 1, 1) := by decide +kernel
theorem dX2_ringSum_15 : decode cX2_ringSum 15 = .ok (.isub, 1) := by decide +kernel
theorem dX2_ringSum_16 : decode cX2_ringSum 16 = .ok (.iconst 0, 1) := by decide +kernel
theorem dX2_ringSum_17 : decode cX2_ringSum 17 = .ok (.invokestatic 48, 3) := by decide +kernel
theorem dX2_ringSum_20 : decode cX2_ringSum 20 = .ok (.istore 5, 2) := by decide +kernel
theorem dX2_ringSum_22 : decode cX2_ringSum 22 = .ok (.iload_n 3, 1) := by decide +kernel
theorem dX2_ringSum_23 : decode cX2_ringSum 23 = .ok (.iconst 1, 1) := by decide +kernel
theorem dX2_ringSum_24 : decode cX2_ringSum 24 = .ok (.iadd, 1) := by decide +kernel
theorem dX2_ringSum_25 : decode cX2_ringSum 25 = .ok (.aload_n 0, 1) := by decide +kernel
theorem dX2_ringSum_26 : decode cX2_ringSum 26 = .ok (.getfield 15, 3) := by decide +kernel
theorem dX2_ringSum_29 : decode cX2_ringSum 29 = .ok (.iconst 1, 1) := by decide +kernel
theorem dX2_ringSum_30 : decode cX2_ringSum 30 = .ok (.isub, 1) := by decide +kernel
theorem dX2_ringSum_31 : decode cX2_ringSum 31 = .ok (.invokestatic 54, 3) := by decide +kernel
theorem dX2_ringSum_34 : decode cX2_ringSum 34 = .ok (.istore 6, 2) := by decide +kernel
theorem dX2_ringSum_36 : decode cX2_ringSum 36 = .ok (.iload 4, 2) := by decide +kernel
theorem dX2_ringSum_38 : decode cX2_ringSum 38 = .ok (.iconst 1, 1) := by decide +kernel
theorem dX2_ringSum_39 : decode cX2_ringSum 39 = .ok (.isub, 1) := by decide +kernel
theorem dX2_ringSum_40 : decode cX2_ringSum 40 = .ok (.iconst 0, 1) := by decide +kernel
theorem dX2_ringSum_41 : decode cX2_ringSum 41 = .ok (.invokestatic 48, 3) := by decide +kernel
theorem dX2_ringSum_44 : decode cX2_ringSum 44 = .ok (.istore 7, 2) := by decide +kernel
theorem dX2_ringSum_46 : decode cX2_ringSum 46 = .ok (.iload 4, 2) := by decide +kernel
theorem dX2_ringSum_48 : decode cX2_ringSum 48 = .ok (.iconst 1, 1) := by decide +kernel
theorem dX2_ringSum_49 : decode cX2_ringSum 49 = .ok (.iadd, 1) := by decide +kernel
theorem dX2_ringSum_50 : decode cX2_ringSum 50 = .ok (.aload_n 0, 1) := by decide +kernel
theorem dX2_ringSum_51 : decode cX2_ringSum 51 = .ok (.getfield 9, 3) := by decide +kernel
theorem dX2_ringSum_54 : decode cX2_ringSum 54 = .ok (.iconst 1, 1) := by decide +kernel
theorem dX2_ringSum_55 : decode cX2_ringSum 55 = .ok (.isub, 1) := by decide +kernel
theorem dX2_ringSum_56 : decode cX2_ringSum 56 = .ok (.invokestatic 54, 3) := by decide +kernel
theorem dX2_ringSum_59 : decode cX2_ringSum 59 = .ok (.istore 8, 2) := by decide +kernel
theorem dX2_ringSum_61 : decode cX2_ringSum 61 = .ok (.iconst 0, 1) := by decide +kernel
theorem dX2_ringSum_62 : decode cX2_ringSum 62 = .ok (.istore 9, 2) := by decide +kernel
theorem dX2_ringSum_64 : decode cX2_ringSum 64 = .ok (.iload 5, 2) := by decide +kernel
theorem dX2_ringSum_66 : decode cX2_ringSum 66 = .ok (.istore 10, 2) := by decide +kernel
theorem dX2_ringSum_68 : decode cX2_ringSum 68 = .ok (.iload 10, 2) := by decide +kernel
theorem dX2_ringSum_70 : decode cX2_ringSum 70 = .ok (.iload 6, 2) := by decide +kernel
theorem dX2_ringSum_72 : decode cX2_ringSum 72 = .ok (.if_icmp .gt 43, 3) := by decide +kernel
theorem dX2_ringSum_75 : decode cX2_ringSum 75 = .ok (.iload 7, 2) := by decide +kernel
theorem dX2_ringSum_77 : decode cX2_ringSum 77 = .ok (.istore 11, 2) := by decide +kernel
theorem dX2_ringSum_79 : decode cX2_ringSum 79 = .ok (.iload 11, 2) := by decide +kernel
theorem dX2_ringSum_81 : decode cX2_ringSum 81 = .ok (.iload 8, 2) := by decide +kernel
theorem dX2_ringSum_83 : decode cX2_ringSum 83 = .ok (.if_icmp .gt 26, 3) := by decide +kernel
theorem dX2_ringSum_86 : decode cX2_ringSum 86 = .ok (.iload 9, 2) := by decide +kernel
theorem dX2_ringSum_88 : decode cX2_ringSum 88 = .ok (.aload_n 1, 1) := by decide +kernel
theorem dX2_ringSum_89 : decode cX2_ringSum 89 = .ok (.iload 10, 2) := by decide +kernel
theorem dX2_ringSum_91 : decode cX2_ringSum 91 = .ok (.aload_n 0, 1) := by decide +kernel
theorem dX2_ringSum_92 : decode cX2_ringSum 92 = .ok (.getfield 9, 3) := by decide +kernel
theorem dX2_ringSum_95 : decode cX2_ringSum 95 = .ok (.imul, 1) := by decide +kernel
theorem dX2_ringSum_96 : decode cX2_ringSum 96 = .ok (.iload 11, 2) := by decide +kernel
theorem dX2_ringSum_98 : decode cX2_ringSum 98 = .ok (.iadd, 1) := by decide +kernel
theorem dX2_ringSum_99 : decode cX2_ringSum 99 = .ok (.iaload, 1) := by decide +kernel
theorem dX2_ringSum_100 : decode cX2_ringSum 100 = .ok (.iadd, 1) := by decide +kernel
theorem dX2_ringSum_101 : decode cX2_ringSum 101 = .ok (.istore 9, 2) := by decide +kernel
theorem dX2_ringSum_103 : decode cX2_ringSum 103 = .ok (.iinc 11 1, 3) := by decide +kernel
theorem dX2_ringSum_106 : decode cX2_ringSum 106 = .ok (.goto (-27), 3) := by decide +kernel
theorem dX2_ringSum_109 : decode cX2_ringSum 109 = .ok (.iinc 10 1, 3) := by decide +kernel
theorem dX2_ringSum_112 : decode cX2_ringSum 112 = .ok (.goto (-44), 3) := by decide +kernel
theorem dX2_ringSum_115 : decode cX2_ringSum 115 = .ok (.iload 9, 2) := by decide +kernel
theorem dX2_ringSum_117 : decode cX2_ringSum 117 = .ok (.ireturn, 1) := by decide +kernel

set_option maxHeartbeats 4000000 in
set_option maxRecDepth 100000 in
theorem c_X2_ringSum (l : Launch) (E : Ev) {A : Nat → Prop} (ad : Nat → Nat) (hA : Oka 39 ad A) (sc : Nat → Int32) (ar : Nat → Nat → Int32) (bl : Int64) {wd hg : Nat} (p : Nat) (hwd : sc 3 = nI wd) (hwd1 : 2 ≤ wd) (hwd2 : wd ≤ 8) (hhg : sc 4 = nI hg) (hhg1 : 2 ≤ hg) (hhg2 : hg ≤ 8) (hp : p < wd * hg) : Ct l E yX2_ringSum (.code yX2_ringSum cX2_ringSum 12 (some .int)) ({ frames := 2, cells := 0, slots := 0, locals := 42 }) A (cw E ad sc ar bl) [.ref (ad 1), .ref (ad 25), .int (nI p)] (some (.int (rgs (ar 25) wd hg p))) (cw E ad sc ar bl) := by
  have hrow : p / wd < hg := row_lt hp hwd1
  have hcol : p % wd < wd := Nat.mod_lt _ (by omega)
  have hm := prod64 hwd2 hhg2
  refine Ct.of (lv := [(0, .ref (ad 1)), (1, .ref (ad 25)), (2, .int (nI p))]) (by decide +kernel) (Nat.le_of_ble_eq_true rfl) rfl ?_
  intro zp ze zs zm za zb zh zc hc
  refine g_aload_n (pc := 0) hc 0 dX2_ringSum_0 rfl rfl ?_
  refine g_iload_n (pc := 1) hc 2 dX2_ringSum_1 rfl rfl ?_
  refine g_callVi (pc := 2) (rest := []) (As := [.int (nI p)]) hc (c_X2_rowOf l E ad hA sc ar bl p (hwd) (hwd1) (hwd2) (hhg) (hhg1) (hhg2) (by omega)) mi_X2_rowOf tw_417 1 rfl rfl rfl rfl ⟨rfl, rfl, by decide, by decide⟩ (Nat.le_of_ble_eq_true rfl) ⟨Nat.le_refl _, Nat.le_refl _⟩ rfl dX2_ringSum_2 ?_
  refine g_istore_n (pc := 5) (lv' := [(0, .ref (ad 1)), (1, .ref (ad 25)), (2, .int (nI p)), (3, .int (nI (p / wd)))]) hc dX2_ringSum_5 rfl (by decide) rfl ?_
  refine g_aload_n (pc := 6) hc 0 dX2_ringSum_6 rfl rfl ?_
  refine g_iload_n (pc := 7) hc 2 dX2_ringSum_7 rfl rfl ?_
  refine g_callVi (pc := 8) (rest := []) (As := [.int (nI p)]) hc (c_X2_columnOf l E ad hA sc ar bl p (hwd) (hwd1) (hwd2) (hhg) (hhg1) (hhg2) (by omega)) mi_X2_columnOf tw_612 1 rfl rfl rfl rfl ⟨rfl, rfl, by decide, by decide⟩ (Nat.le_of_ble_eq_true rfl) ⟨Nat.le_refl _, Nat.le_refl _⟩ rfl dX2_ringSum_8 ?_
  refine g_istore (pc := 11) (lv' := [(0, .ref (ad 1)), (1, .ref (ad 25)), (2, .int (nI p)), (3, .int (nI (p / wd))), (4, .int (nI (p % wd)))]) hc dX2_ringSum_11 (by decide) rfl ?_
  refine g_iload_n (pc := 13) hc 3 dX2_ringSum_13 rfl rfl ?_
  refine g_iconst (pc := 14) (v := nI 1) hc dX2_ringSum_14 (by decide) ?_
  refine g_isub (pc := 15) hc dX2_ringSum_15 ?_
  refine g_iconst (pc := 16) (v := nI 0) hc dX2_ringSum_16 (by decide) ?_
  refine g_mmax (pc := 17) (v := mxI ((nI (p / wd)) - (nI 1)) (nI 0)) hc tw_613 rfl ⟨by decide, Nat.le_of_ble_eq_true rfl⟩ ⟨Nat.le_refl _, Nat.le_refl _⟩ dX2_ringSum_17 ?_
  refine g_topi (v := nI (p / wd - 1)) (mx_pred _ (by omega)) ?_
  refine g_istore (pc := 20) (lv' := [(0, .ref (ad 1)), (1, .ref (ad 25)), (2, .int (nI p)), (3, .int (nI (p / wd))), (4, .int (nI (p % wd))), (5, .int (nI (p / wd - 1)))]) hc dX2_ringSum_20 (by decide) rfl ?_
  refine g_iload_n (pc := 22) hc 3 dX2_ringSum_22 rfl rfl ?_
  refine g_iconst (pc := 23) (v := nI 1) hc dX2_ringSum_23 (by decide) ?_
  refine g_iadd (pc := 24) hc dX2_ringSum_24 ?_
  refine g_topi (v := nI ((p / wd) + 1)) (nI_add (p / wd) 1) ?_
  refine g_aload_n (pc := 25) hc 0 dX2_ringSum_25 rfl rfl ?_
  refine gf_c1_high (pc := 26) hc tw_37 dX2_ringSum_26 ?_
  refine g_topi (v := nI hg) (hhg) ?_
  refine g_iconst (pc := 29) (v := nI 1) hc dX2_ringSum_29 (by decide) ?_
  refine g_isub (pc := 30) hc dX2_ringSum_30 ?_
  refine g_topi (v := nI (hg - 1)) (pk_sub (by omega)) ?_
  refine g_mmin (pc := 31) (v := mnI (nI ((p / wd) + 1)) (nI (hg - 1))) hc tw_614 rfl ⟨by decide, Nat.le_of_ble_eq_true rfl⟩ ⟨Nat.le_refl _, Nat.le_refl _⟩ dX2_ringSum_31 ?_
  refine g_topi (v := nI (min (p / wd + 1) (hg - 1))) (mn_nI (by omega) (by omega)) ?_
  refine g_istore (pc := 34) (lv' := [(0, .ref (ad 1)), (1, .ref (ad 25)), (2, .int (nI p)), (3, .int (nI (p / wd))), (4, .int (nI (p % wd))), (5, .int (nI (p / wd - 1))), (6, .int (nI (min (p / wd + 1) (hg - 1))))]) hc dX2_ringSum_34 (by decide) rfl ?_
  refine g_iload (pc := 36) hc 4 dX2_ringSum_36 rfl ?_
  refine g_iconst (pc := 38) (v := nI 1) hc dX2_ringSum_38 (by decide) ?_
  refine g_isub (pc := 39) hc dX2_ringSum_39 ?_
  refine g_iconst (pc := 40) (v := nI 0) hc dX2_ringSum_40 (by decide) ?_
  refine g_mmax (pc := 41) (v := mxI ((nI (p % wd)) - (nI 1)) (nI 0)) hc tw_613 rfl ⟨by decide, Nat.le_of_ble_eq_true rfl⟩ ⟨Nat.le_refl _, Nat.le_refl _⟩ dX2_ringSum_41 ?_
  refine g_topi (v := nI (p % wd - 1)) (mx_pred _ (by omega)) ?_
  refine g_istore (pc := 44) (lv' := [(0, .ref (ad 1)), (1, .ref (ad 25)), (2, .int (nI p)), (3, .int (nI (p / wd))), (4, .int (nI (p % wd))), (5, .int (nI (p / wd - 1))), (6, .int (nI (min (p / wd + 1) (hg - 1)))), (7, .int (nI (p % wd - 1)))]) hc dX2_ringSum_44 (by decide) rfl ?_
  refine g_iload (pc := 46) hc 4 dX2_ringSum_46 rfl ?_
  refine g_iconst (pc := 48) (v := nI 1) hc dX2_ringSum_48 (by decide) ?_
  refine g_iadd (pc := 49) hc dX2_ringSum_49 ?_
  refine g_topi (v := nI ((p % wd) + 1)) (nI_add (p % wd) 1) ?_
  refine g_aload_n (pc := 50) hc 0 dX2_ringSum_50 rfl rfl ?_
  refine gf_c1_wide (pc := 51) hc tw_36 dX2_ringSum_51 ?_
  refine g_topi (v := nI wd) (hwd) ?_
  refine g_iconst (pc := 54) (v := nI 1) hc dX2_ringSum_54 (by decide) ?_
  refine g_isub (pc := 55) hc dX2_ringSum_55 ?_
  refine g_topi (v := nI (wd - 1)) (pk_sub (by omega)) ?_
  refine g_mmin (pc := 56) (v := mnI (nI ((p % wd) + 1)) (nI (wd - 1))) hc tw_614 rfl ⟨by decide, Nat.le_of_ble_eq_true rfl⟩ ⟨Nat.le_refl _, Nat.le_refl _⟩ dX2_ringSum_56 ?_
  refine g_topi (v := nI (min (p % wd + 1) (wd - 1))) (mn_nI (by omega) (by omega)) ?_
  refine g_istore (pc := 59) (lv' := [(0, .ref (ad 1)), (1, .ref (ad 25)), (2, .int (nI p)), (3, .int (nI (p / wd))), (4, .int (nI (p % wd))), (5, .int (nI (p / wd - 1))), (6, .int (nI (min (p / wd + 1) (hg - 1)))), (7, .int (nI (p % wd - 1))), (8, .int (nI (min (p % wd + 1) (wd - 1))))]) hc dX2_ringSum_59 (by decide) rfl ?_
  refine g_iconst (pc := 61) (v := nI 0) hc dX2_ringSum_61 (by decide) ?_
  refine g_istore (pc := 62) (lv' := [(0, .ref (ad 1)), (1, .ref (ad 25)), (2, .int (nI p)), (3, .int (nI (p / wd))), (4, .int (nI (p % wd))), (5, .int (nI (p / wd - 1))), (6, .int (nI (min (p / wd + 1) (hg - 1)))), (7, .int (nI (p % wd - 1))), (8, .int (nI (min (p % wd + 1) (wd - 1)))), (9, .int (nI 0))]) hc dX2_ringSum_62 (by decide) rfl ?_
  refine g_iload (pc := 64) hc 5 dX2_ringSum_64 rfl ?_
  refine g_istore (pc := 66) (lv' := [(0, .ref (ad 1)), (1, .ref (ad 25)), (2, .int (nI p)), (3, .int (nI (p / wd))), (4, .int (nI (p % wd))), (5, .int (nI (p / wd - 1))), (6, .int (nI (min (p / wd + 1) (hg - 1)))), (7, .int (nI (p % wd - 1))), (8, .int (nI (min (p % wd + 1) (wd - 1)))), (9, .int (nI 0)), (10, .int (nI (p / wd - 1)))]) hc dX2_ringSum_66 (by decide) rfl ?_
  have L68_1 : ∀ (ka a : Nat), a + ka = min (p / wd + 1) (hg - 1) + 1 - (p / wd - 1) → G zp l ze ({ frames := 2, cells := 0, slots := 0, locals := 42 }) zs zm za zb zh zc 0 0 (MQ zb (Qz E A (some (.int (rgs (ar 25) wd hg p))) (cw E ad sc ar bl)) za zs 0 0 A) E A 12 (cw E ad sc ar bl) (68) [(0, .ref (ad 1)), (1, .ref (ad 25)), (2, .int (nI p)), (3, .int (nI (p / wd))), (4, .int (nI (p % wd))), (5, .int (nI (p / wd - 1))), (6, .int (nI (min (p / wd + 1) (hg - 1)))), (7, .int (nI (p % wd - 1))), (8, .int (nI (min (p % wd + 1) (wd - 1)))), (9, .int (rgo (ar 25) wd (p / wd - 1) (p % wd - 1) (min (p % wd + 1) (wd - 1) + 1 - (p % wd - 1)) (a))), (10, .int (nI (p / wd - 1 + (a))))] [] := by
    intro ka
    induction ka with
    | zero =>
      intro a lha
      have lhan : min (p / wd + 1) (hg - 1) + 1 - (p / wd - 1) = a := by omega
      subst lhan
      refine g_iload (pc := 68) hc 10 dX2_ringSum_68 rfl ?_
      refine g_iload (pc := 70) hc 6 dX2_ringSum_70 rfl ?_
      refine g_icmp_gt_t (pc := 72) hc 115 dX2_ringSum_72 (by decide) (nI_lt (by omega) (by omega)) ?_
      refine g_iload (pc := 115) hc 9 dX2_ringSum_115 rfl ?_
      exact g_iret (pc := 117) hc dX2_ringSum_117 (rfl) (rfl)
    | succ ka iha =>
      intro a lha
      have lhan : a < min (p / wd + 1) (hg - 1) + 1 - (p / wd - 1) := by omega
      refine g_iload (pc := 68) hc 10 dX2_ringSum_68 rfl ?_
      refine g_iload (pc := 70) hc 6 dX2_ringSum_70 rfl ?_
      refine g_icmp_gt_f (pc := 72) hc 115 dX2_ringSum_72 (by decide) (nI_nlt (by omega) (by omega)) ?_
      refine g_iload (pc := 75) hc 7 dX2_ringSum_75 rfl ?_
      refine g_istore (pc := 77) (lv' := [(0, .ref (ad 1)), (1, .ref (ad 25)), (2, .int (nI p)), (3, .int (nI (p / wd))), (4, .int (nI (p % wd))), (5, .int (nI (p / wd - 1))), (6, .int (nI (min (p / wd + 1) (hg - 1)))), (7, .int (nI (p % wd - 1))), (8, .int (nI (min (p % wd + 1) (wd - 1)))), (9, .int (rgo (ar 25) wd (p / wd - 1) (p % wd - 1) (min (p % wd + 1) (wd - 1) + 1 - (p % wd - 1)) (a))), (10, .int (nI (p / wd - 1 + (a)))), (11, .int (nI (p % wd - 1)))]) hc dX2_ringSum_77 (by decide) rfl ?_
      have L79_2 : ∀ (kb b : Nat), b + kb = min (p % wd + 1) (wd - 1) + 1 - (p % wd - 1) → G zp l ze ({ frames := 2, cells := 0, slots := 0, locals := 42 }) zs zm za zb zh zc 0 0 (MQ zb (Qz E A (some (.int (rgs (ar 25) wd hg p))) (cw E ad sc ar bl)) za zs 0 0 A) E A 12 (cw E ad sc ar bl) (79) [(0, .ref (ad 1)), (1, .ref (ad 25)), (2, .int (nI p)), (3, .int (nI (p / wd))), (4, .int (nI (p % wd))), (5, .int (nI (p / wd - 1))), (6, .int (nI (min (p / wd + 1) (hg - 1)))), (7, .int (nI (p % wd - 1))), (8, .int (nI (min (p % wd + 1) (wd - 1)))), (9, .int (rgi (ar 25) wd (p / wd - 1) (p % wd - 1) a (rgo (ar 25) wd (p / wd - 1) (p % wd - 1) (min (p % wd + 1) (wd - 1) + 1 - (p % wd - 1)) a) (b))), (10, .int (nI (p / wd - 1 + (a)))), (11, .int (nI (p % wd - 1 + (b))))] [] := by
        intro kb
        induction kb with
        | zero =>
          intro b lhb
          have lhbn : min (p % wd + 1) (wd - 1) + 1 - (p % wd - 1) = b := by omega
          subst lhbn
          refine g_iload (pc := 79) hc 11 dX2_ringSum_79 rfl ?_
          refine g_iload (pc := 81) hc 8 dX2_ringSum_81 rfl ?_
          refine g_icmp_gt_t (pc := 83) hc 109 dX2_ringSum_83 (by decide) (nI_lt (by omega) (by omega)) ?_
          refine g_iinc (pc := 109) (v := nI (p / wd - 1 + (a) + 1)) (lv' := [(0, .ref (ad 1)), (1, .ref (ad 25)), (2, .int (nI p)), (3, .int (nI (p / wd))), (4, .int (nI (p % wd))), (5, .int (nI (p / wd - 1))), (6, .int (nI (min (p / wd + 1) (hg - 1)))), (7, .int (nI (p % wd - 1))), (8, .int (nI (min (p % wd + 1) (wd - 1)))), (9, .int (rgi (ar 25) wd (p / wd - 1) (p % wd - 1) a (rgo (ar 25) wd (p / wd - 1) (p % wd - 1) (min (p % wd + 1) (wd - 1) + 1 - (p % wd - 1)) a) (min (p % wd + 1) (wd - 1) + 1 - (p % wd - 1)))), (10, .int (nI (p / wd - 1 + (a) + 1))), (11, .int (nI (p % wd - 1 + (min (p % wd + 1) (wd - 1) + 1 - (p % wd - 1)))))]) hc 10 dX2_ringSum_109 rfl (nI_ofi (p / wd - 1 + (a)) 1) (by decide) rfl ?_
          refine g_goto (pc := 112) hc 68 dX2_ringSum_112 (by decide) ?_
          refine g_lv [0, 1, 2, 3, 4, 5, 6, 7, 8, 9, 10] (lv' := [(0, .ref (ad 1)), (1, .ref (ad 25)), (2, .int (nI p)), (3, .int (nI (p / wd))), (4, .int (nI (p % wd))), (5, .int (nI (p / wd - 1))), (6, .int (nI (min (p / wd + 1) (hg - 1)))), (7, .int (nI (p % wd - 1))), (8, .int (nI (min (p % wd + 1) (wd - 1)))), (9, .int (rgi (ar 25) wd (p / wd - 1) (p % wd - 1) a (rgo (ar 25) wd (p / wd - 1) (p % wd - 1) (min (p % wd + 1) (wd - 1) + 1 - (p % wd - 1)) a) (min (p % wd + 1) (wd - 1) + 1 - (p % wd - 1)))), (10, .int (nI (p / wd - 1 + (a) + 1)))]) rfl ?_
          exact g_eq (ws' := cw E ad sc ar bl) (lv' := [(0, .ref (ad 1)), (1, .ref (ad 25)), (2, .int (nI p)), (3, .int (nI (p / wd))), (4, .int (nI (p % wd))), (5, .int (nI (p / wd - 1))), (6, .int (nI (min (p / wd + 1) (hg - 1)))), (7, .int (nI (p % wd - 1))), (8, .int (nI (min (p % wd + 1) (wd - 1)))), (9, .int (rgo (ar 25) wd (p / wd - 1) (p % wd - 1) (min (p % wd + 1) (wd - 1) + 1 - (p % wd - 1)) (a + 1))), (10, .int (nI (p / wd - 1 + (a + 1))))]) (rfl) (rfl) rfl (iha (a + 1) (by omega))
        | succ kb ihb =>
          intro b lhb
          have lhbn : b < min (p % wd + 1) (wd - 1) + 1 - (p % wd - 1) := by omega
          refine g_iload (pc := 79) hc 11 dX2_ringSum_79 rfl ?_
          refine g_iload (pc := 81) hc 8 dX2_ringSum_81 rfl ?_
          refine g_icmp_gt_f (pc := 83) hc 109 dX2_ringSum_83 (by decide) (nI_nlt (by omega) (by omega)) ?_
          refine g_iload (pc := 86) hc 9 dX2_ringSum_86 rfl ?_
          refine g_aload_n (pc := 88) hc 1 dX2_ringSum_88 rfl rfl ?_
          refine g_iload (pc := 89) hc 10 dX2_ringSum_89 rfl ?_
          refine g_aload_n (pc := 91) hc 0 dX2_ringSum_91 rfl rfl ?_
          refine gf_c1_wide (pc := 92) hc tw_36 dX2_ringSum_92 ?_
          refine g_topi (v := nI wd) (hwd) ?_
          refine g_imul (pc := 95) hc dX2_ringSum_95 ?_
          refine g_topi (v := nI ((p / wd - 1 + (a)) * wd)) (pk_mul (p / wd - 1 + (a)) wd) ?_
          refine g_iload (pc := 96) hc 11 dX2_ringSum_96 rfl ?_
          refine g_iadd (pc := 98) hc dX2_ringSum_98 ?_
          refine g_topi (v := nI (((p / wd - 1 + (a)) * wd) + (p % wd - 1 + (b)))) (nI_add ((p / wd - 1 + (a)) * wd) (p % wd - 1 + (b))) ?_
          refine la_c25 (pc := 99) hc ((p / wd - 1 + a) * wd + (p % wd - 1 + b)) (rfl) (idx64 (by omega) (by omega) hwd2 hhg2) dX2_ringSum_99 ?_
          refine g_iadd (pc := 100) hc dX2_ringSum_100 ?_
          refine g_istore (pc := 101) (lv' := [(0, .ref (ad 1)), (1, .ref (ad 25)), (2, .int (nI p)), (3, .int (nI (p / wd))), (4, .int (nI (p % wd))), (5, .int (nI (p / wd - 1))), (6, .int (nI (min (p / wd + 1) (hg - 1)))), (7, .int (nI (p % wd - 1))), (8, .int (nI (min (p % wd + 1) (wd - 1)))), (9, .int ((rgi (ar 25) wd (p / wd - 1) (p % wd - 1) a (rgo (ar 25) wd (p / wd - 1) (p % wd - 1) (min (p % wd + 1) (wd - 1) + 1 - (p % wd - 1)) a) (b)) + ((ar 25) ((p / wd - 1 + a) * wd + (p % wd - 1 + b))))), (10, .int (nI (p / wd - 1 + (a)))), (11, .int (nI (p % wd - 1 + (b))))]) hc dX2_ringSum_101 (by decide) rfl ?_
          refine g_iinc (pc := 103) (v := nI (p % wd - 1 + (b) + 1)) (lv' := [(0, .ref (ad 1)), (1, .ref (ad 25)), (2, .int (nI p)), (3, .int (nI (p / wd))), (4, .int (nI (p % wd))), (5, .int (nI (p / wd - 1))), (6, .int (nI (min (p / wd + 1) (hg - 1)))), (7, .int (nI (p % wd - 1))), (8, .int (nI (min (p % wd + 1) (wd - 1)))), (9, .int ((rgi (ar 25) wd (p / wd - 1) (p % wd - 1) a (rgo (ar 25) wd (p / wd - 1) (p % wd - 1) (min (p % wd + 1) (wd - 1) + 1 - (p % wd - 1)) a) (b)) + ((ar 25) ((p / wd - 1 + a) * wd + (p % wd - 1 + b))))), (10, .int (nI (p / wd - 1 + (a)))), (11, .int (nI (p % wd - 1 + (b) + 1)))]) hc 11 dX2_ringSum_103 rfl (nI_ofi (p % wd - 1 + (b)) 1) (by decide) rfl ?_
          refine g_goto (pc := 106) hc 79 dX2_ringSum_106 (by decide) ?_
          exact g_eq (ws' := cw E ad sc ar bl) (lv' := [(0, .ref (ad 1)), (1, .ref (ad 25)), (2, .int (nI p)), (3, .int (nI (p / wd))), (4, .int (nI (p % wd))), (5, .int (nI (p / wd - 1))), (6, .int (nI (min (p / wd + 1) (hg - 1)))), (7, .int (nI (p % wd - 1))), (8, .int (nI (min (p % wd + 1) (wd - 1)))), (9, .int (rgi (ar 25) wd (p / wd - 1) (p % wd - 1) a (rgo (ar 25) wd (p / wd - 1) (p % wd - 1) (min (p % wd + 1) (wd - 1) + 1 - (p % wd - 1)) a) (b + 1))), (10, .int (nI (p / wd - 1 + (a)))), (11, .int (nI (p % wd - 1 + (b + 1))))]) (rfl) (rfl) rfl (ihb (b + 1) (by omega))
      exact g_eq (ws' := cw E ad sc ar bl) (lv' := [(0, .ref (ad 1)), (1, .ref (ad 25)), (2, .int (nI p)), (3, .int (nI (p / wd))), (4, .int (nI (p % wd))), (5, .int (nI (p / wd - 1))), (6, .int (nI (min (p / wd + 1) (hg - 1)))), (7, .int (nI (p % wd - 1))), (8, .int (nI (min (p % wd + 1) (wd - 1)))), (9, .int (rgi (ar 25) wd (p / wd - 1) (p % wd - 1) a (rgo (ar 25) wd (p / wd - 1) (p % wd - 1) (min (p % wd + 1) (wd - 1) + 1 - (p % wd - 1)) a) (0))), (10, .int (nI (p / wd - 1 + (a)))), (11, .int (nI (p % wd - 1 + (0))))]) (rfl) (rfl) rfl (L79_2 (min (p % wd + 1) (wd - 1) + 1 - (p % wd - 1) - 0) (0) (by omega))
  exact g_eq (ws' := cw E ad sc ar bl) (lv' := [(0, .ref (ad 1)), (1, .ref (ad 25)), (2, .int (nI p)), (3, .int (nI (p / wd))), (4, .int (nI (p % wd))), (5, .int (nI (p / wd - 1))), (6, .int (nI (min (p / wd + 1) (hg - 1)))), (7, .int (nI (p % wd - 1))), (8, .int (nI (min (p % wd + 1) (wd - 1)))), (9, .int (rgo (ar 25) wd (p / wd - 1) (p % wd - 1) (min (p % wd + 1) (wd - 1) + 1 - (p % wd - 1)) (0))), (10, .int (nI (p / wd - 1 + (0))))]) (rfl) (rfl) rfl (L68_1 (min (p / wd + 1) (hg - 1) + 1 - (p / wd - 1) - 0) (0) (by omega))

theorem dX2_greatestRing_0 : decode cX2_greatestRing 0 = .ok (.iconst 0, 1) := by decide +kernel
theorem dX2_greatestRing_1 : decode cX2_greatestRing 1 = .ok (.istore_n 2, 1) := by decide +kernel
theorem dX2_greatestRing_2 : decode cX2_greatestRing 2 = .ok (.aload_n 0, 1) := by decide +kernel
theorem dX2_greatestRing_3 : decode cX2_greatestRing 3 = .ok (.aload_n 1, 1) := by decide +kernel
theorem dX2_greatestRing_4 : decode cX2_greatestRing 4 = .ok (.iconst 0, 1) := by decide +kernel
theorem dX2_greatestRing_5 : decode cX2_greatestRing 5 = .ok (.invokevirtual 57, 3) := by decide +kernel
theorem dX2_greatestRing_8 : decode cX2_greatestRing 8 = .ok (.istore_n 3, 1) := by decide +kernel
theorem dX2_greatestRing_9 : decode cX2_greatestRing 9 = .ok (.iconst 1, 1) := by decide +kernel
theorem dX2_greatestRing_10 : decode cX2_greatestRing 10 = .ok (.istore 4, 2) := by decide +kernel
theorem dX2_greatestRing_12 : decode cX2_greatestRing 12 = .ok (.iload 4, 2) := by decide +kernel
theorem dX2_greatestRing_14 : decode cX2_greatestRing 14 = .ok (.aload_n 0, 1) := by decide +kernel
theorem dX2_greatestRing_15 : decode cX2_greatestRing 15 = .ok (.invokevirtual 29, 3) := by decide +kernel
theorem dX2_greatestRing_18 : decode cX2_greatestRing 18 = .ok (.if_icmp .ge 30, 3) := by decide +kernel
theorem dX2_greatestRing_21 : decode cX2_greatestRing 21 = .ok (.aload_n 0, 1) := by decide +kernel
theorem dX2_greatestRing_22 : decode cX2_greatestRing 22 = .ok (.aload_n 1, 1) := by decide +kernel
theorem dX2_greatestRing_23 : decode cX2_greatestRing 23 = .ok (.iload 4, 2) := by decide +kernel
theorem dX2_greatestRing_25 : decode cX2_greatestRing 25 = .ok (.invokevirtual 57, 3) := by decide +kernel
theorem dX2_greatestRing_28 : decode cX2_greatestRing 28 = .ok (.istore 5, 2) := by decide +kernel
theorem dX2_greatestRing_30 : decode cX2_greatestRing 30 = .ok (.iload 5, 2) := by decide +kernel
theorem dX2_greatestRing_32 : decode cX2_greatestRing 32 = .ok (.iload_n 3, 1) := by decide +kernel
theorem dX2_greatestRing_33 : decode cX2_greatestRing 33 = .ok (.if_icmp .le 9, 3) := by decide +kernel
theorem dX2_greatestRing_36 : decode cX2_greatestRing 36 = .ok (.iload 4, 2) := by decide +kernel
theorem dX2_greatestRing_38 : decode cX2_greatestRing 38 = .ok (.istore_n 2, 1) := by decide +kernel
theorem dX2_greatestRing_39 : decode cX2_greatestRing 39 = .ok (.iload 5, 2) := by decide +kernel
theorem dX2_greatestRing_41 : decode cX2_greatestRing 41 = .ok (.istore_n 3, 1) := by decide +kernel
theorem dX2_greatestRing_42 : decode cX2_greatestRing 42 = .ok (.iinc 4 1, 3) := by decide +kernel
theorem dX2_greatestRing_45 : decode cX2_greatestRing 45 = .ok (.goto (-33), 3) := by decide +kernel
theorem dX2_greatestRing_48 : decode cX2_greatestRing 48 = .ok (.iload_n 2, 1) := by decide +kernel
theorem dX2_greatestRing_49 : decode cX2_greatestRing 49 = .ok (.ireturn, 1) := by decide +kernel

set_option maxHeartbeats 4000000 in
set_option maxRecDepth 100000 in
theorem c_X2_greatestRing (l : Launch) (E : Ev) {A : Nat → Prop} (ad : Nat → Nat) (hA : Oka 39 ad A) (sc : Nat → Int32) (ar : Nat → Nat → Int32) (bl : Int64) {wd hg : Nat}  (hwd : sc 3 = nI wd) (hwd1 : 2 ≤ wd) (hwd2 : wd ≤ 8) (hhg : sc 4 = nI hg) (hhg1 : 2 ≤ hg) (hhg2 : hg ≤ 8) : Ct l E yX2_greatestRing (.code yX2_greatestRing cX2_greatestRing 6 (some .int)) ({ frames := 3, cells := 0, slots := 0, locals := 73 }) A (cw E ad sc ar bl) [.ref (ad 1), .ref (ad 25)] (some (.int (nI (grb (ar 25) wd hg)))) (cw E ad sc ar bl) := by
  have hm := prod64 hwd2 hhg2
  have hm4 := prod4 hwd1 hhg1
  refine Ct.of (lv := [(0, .ref (ad 1)), (1, .ref (ad 25))]) (by decide +kernel) (Nat.le_of_ble_eq_true rfl) rfl ?_
  intro zp ze zs zm za zb zh zc hc
  refine g_iconst (pc := 0) (v := nI 0) hc dX2_greatestRing_0 (by decide) ?_
  refine g_istore_n (pc := 1) (lv' := [(0, .ref (ad 1)), (1, .ref (ad 25)), (2, .int (nI 0))]) hc dX2_greatestRing_1 rfl (by decide) rfl ?_
  refine g_aload_n (pc := 2) hc 0 dX2_greatestRing_2 rfl rfl ?_
  refine g_aload_n (pc := 3) hc 1 dX2_greatestRing_3 rfl rfl ?_
  refine g_iconst (pc := 4) (v := nI 0) hc dX2_greatestRing_4 (by decide) ?_
  refine g_callVi (pc := 5) (rest := []) (As := [.ref (ad 25), .int (nI 0)]) hc (c_X2_ringSum l E ad hA sc ar bl 0 (hwd) (hwd1) (hwd2) (hhg) (hhg1) (hhg2) (by omega)) mi_X2_ringSum tw_627 1 rfl rfl rfl rfl ⟨rfl, rfl, by decide, by decide⟩ (Nat.le_of_ble_eq_true rfl) ⟨Nat.le_refl _, Nat.le_refl _⟩ rfl dX2_greatestRing_5 ?_
  refine g_istore_n (pc := 8) (lv' := [(0, .ref (ad 1)), (1, .ref (ad 25)), (2, .int (nI 0)), (3, .int (rgs (ar 25) wd hg 0))]) hc dX2_greatestRing_8 rfl (by decide) rfl ?_
  refine g_iconst (pc := 9) (v := nI 1) hc dX2_greatestRing_9 (by decide) ?_
  refine g_istore (pc := 10) (lv' := [(0, .ref (ad 1)), (1, .ref (ad 25)), (2, .int (nI 0)), (3, .int (rgs (ar 25) wd hg 0)), (4, .int (nI 1))]) hc dX2_greatestRing_10 (by decide) rfl ?_
  have L12_1 : ∀ (kt t : Nat), t + kt = wd * hg - 1 → G zp l ze ({ frames := 3, cells := 0, slots := 0, locals := 73 }) zs zm za zb zh zc 0 0 (MQ zb (Qz E A (some (.int (nI (grb (ar 25) wd hg)))) (cw E ad sc ar bl)) za zs 0 0 A) E A 6 (cw E ad sc ar bl) (12) [(0, .ref (ad 1)), (1, .ref (ad 25)), (2, .int (nI (gr (ar 25) wd hg (t)).1)), (3, .int (gr (ar 25) wd hg (t)).2), (4, .int (nI (t + 1)))] [] := by
    intro kt
    induction kt with
    | zero =>
      intro t lht
      have lhtn : wd * hg - 1 = t := by omega
      subst lhtn
      refine g_iload (pc := 12) hc 4 dX2_greatestRing_12 rfl ?_
      refine g_aload_n (pc := 14) hc 0 dX2_greatestRing_14 rfl rfl ?_
      refine g_callVi (pc := 15) (rest := [.int (nI (wd * hg - 1 + 1))]) (As := []) hc (c_X2_paces l E ad hA sc ar bl  (hwd) (hwd1) (hwd2) (hhg) (hhg1) (hhg2)) mi_X2_paces tw_400 1 rfl rfl rfl rfl ⟨rfl, rfl, by decide, by decide⟩ (Nat.le_of_ble_eq_true rfl) ⟨Nat.le_refl _, Nat.le_refl _⟩ rfl dX2_greatestRing_15 ?_
      refine g_icmp_ge_t (pc := 18) hc 48 dX2_greatestRing_18 (by decide) (nI_le (by omega) (by omega)) ?_
      refine g_iload_n (pc := 48) hc 2 dX2_greatestRing_48 rfl rfl ?_
      exact g_iret (pc := 49) hc dX2_greatestRing_49 (rfl) (rfl)
    | succ kt iht =>
      intro t lht
      have lhtn : t < wd * hg - 1 := by omega
      refine g_iload (pc := 12) hc 4 dX2_greatestRing_12 rfl ?_
      refine g_aload_n (pc := 14) hc 0 dX2_greatestRing_14 rfl rfl ?_
      refine g_callVi (pc := 15) (rest := [.int (nI (t + 1))]) (As := []) hc (c_X2_paces l E ad hA sc ar bl  (hwd) (hwd1) (hwd2) (hhg) (hhg1) (hhg2)) mi_X2_paces tw_400 1 rfl rfl rfl rfl ⟨rfl, rfl, by decide, by decide⟩ (Nat.le_of_ble_eq_true rfl) ⟨Nat.le_refl _, Nat.le_refl _⟩ rfl dX2_greatestRing_15 ?_
      refine g_icmp_ge_f (pc := 18) hc 48 dX2_greatestRing_18 (by decide) (nI_ge (by omega) (by omega)) ?_
      refine g_aload_n (pc := 21) hc 0 dX2_greatestRing_21 rfl rfl ?_
      refine g_aload_n (pc := 22) hc 1 dX2_greatestRing_22 rfl rfl ?_
      refine g_iload (pc := 23) hc 4 dX2_greatestRing_23 rfl ?_
      refine g_callVi (pc := 25) (rest := []) (As := [.ref (ad 25), .int (nI (t + 1))]) hc (c_X2_ringSum l E ad hA sc ar bl (t + 1) (hwd) (hwd1) (hwd2) (hhg) (hhg1) (hhg2) (by omega)) mi_X2_ringSum tw_627 1 rfl rfl rfl rfl ⟨rfl, rfl, by decide, by decide⟩ (Nat.le_of_ble_eq_true rfl) ⟨Nat.le_refl _, Nat.le_refl _⟩ rfl dX2_greatestRing_25 ?_
      refine g_istore (pc := 28) (lv' := [(0, .ref (ad 1)), (1, .ref (ad 25)), (2, .int (nI (gr (ar 25) wd hg (t)).1)), (3, .int (gr (ar 25) wd hg (t)).2), (4, .int (nI (t + 1))), (5, .int (rgs (ar 25) wd hg (t + 1)))]) hc dX2_greatestRing_28 (by decide) rfl ?_
      refine g_iload (pc := 30) hc 5 dX2_greatestRing_30 rfl ?_
      refine g_iload_n (pc := 32) hc 3 dX2_greatestRing_32 rfl rfl ?_
      refine g_icmp_le (pc := 33) hc 42 dX2_greatestRing_33 (by decide) (fun c2 => ?_) (fun c2 => ?_)
      · refine g_iinc (pc := 42) (v := nI (t + 1 + 1)) (lv' := [(0, .ref (ad 1)), (1, .ref (ad 25)), (2, .int (nI (gr (ar 25) wd hg (t)).1)), (3, .int (gr (ar 25) wd hg (t)).2), (4, .int (nI (t + 1 + 1))), (5, .int (rgs (ar 25) wd hg (t + 1)))]) hc 4 dX2_greatestRing_42 rfl (nI_ofi (t + 1) 1) (by decide) rfl ?_
        refine g_goto (pc := 45) hc 12 dX2_greatestRing_45 (by decide) ?_
        refine g_lv [0, 1, 2, 3, 4] (lv' := [(0, .ref (ad 1)), (1, .ref (ad 25)), (2, .int (nI (gr (ar 25) wd hg (t)).1)), (3, .int (gr (ar 25) wd hg (t)).2), (4, .int (nI (t + 1 + 1)))]) rfl ?_
        exact g_eq (ws' := cw E ad sc ar bl) (lv' := [(0, .ref (ad 1)), (1, .ref (ad 25)), (2, .int (nI (gr (ar 25) wd hg (t + 1)).1)), (3, .int (gr (ar 25) wd hg (t + 1)).2), (4, .int (nI (t + 1 + 1)))]) (rfl) (by rw [gr_succ]; repeat (first | rw [if_pos c2] | rw [if_neg c2] | rw [if_neg (ne_true_of_eq_false c2)])) rfl (iht (t + 1) (by omega))
      · refine g_iload (pc := 36) hc 4 dX2_greatestRing_36 rfl ?_
        refine g_istore_n (pc := 38) (lv' := [(0, .ref (ad 1)), (1, .ref (ad 25)), (2, .int (nI (t + 1))), (3, .int (gr (ar 25) wd hg (t)).2), (4, .int (nI (t + 1))), (5, .int (rgs (ar 25) wd hg (t + 1)))]) hc dX2_greatestRing_38 rfl (by decide) rfl ?_
        refine g_iload (pc := 39) hc 5 dX2_greatestRing_39 rfl ?_
        refine g_istore_n (pc := 41) (lv' := [(0, .ref (ad 1)), (1, .ref (ad 25)), (2, .int (nI (t + 1))), (3, .int (rgs (ar 25) wd hg (t + 1))), (4, .int (nI (t + 1))), (5, .int (rgs (ar 25) wd hg (t + 1)))]) hc dX2_greatestRing_41 rfl (by decide) rfl ?_
        refine g_iinc (pc := 42) (v := nI (t + 1 + 1)) (lv' := [(0, .ref (ad 1)), (1, .ref (ad 25)), (2, .int (nI (t + 1))), (3, .int (rgs (ar 25) wd hg (t + 1))), (4, .int (nI (t + 1 + 1))), (5, .int (rgs (ar 25) wd hg (t + 1)))]) hc 4 dX2_greatestRing_42 rfl (nI_ofi (t + 1) 1) (by decide) rfl ?_
        refine g_goto (pc := 45) hc 12 dX2_greatestRing_45 (by decide) ?_
        refine g_lv [0, 1, 2, 3, 4] (lv' := [(0, .ref (ad 1)), (1, .ref (ad 25)), (2, .int (nI (t + 1))), (3, .int (rgs (ar 25) wd hg (t + 1))), (4, .int (nI (t + 1 + 1)))]) rfl ?_
        exact g_eq (ws' := cw E ad sc ar bl) (lv' := [(0, .ref (ad 1)), (1, .ref (ad 25)), (2, .int (nI (gr (ar 25) wd hg (t + 1)).1)), (3, .int (gr (ar 25) wd hg (t + 1)).2), (4, .int (nI (t + 1 + 1)))]) (rfl) (by rw [gr_succ]; repeat (first | rw [if_pos c2] | rw [if_neg c2] | rw [if_neg (ne_true_of_eq_false c2)])) rfl (iht (t + 1) (by omega))
  exact g_eq (ws' := cw E ad sc ar bl) (lv' := [(0, .ref (ad 1)), (1, .ref (ad 25)), (2, .int (nI (gr (ar 25) wd hg (0)).1)), (3, .int (gr (ar 25) wd hg (0)).2), (4, .int (nI (0 + 1)))]) (rfl) (rfl) rfl (L12_1 (wd * hg - 1 - 0) (0) (by omega))

theorem dX3_worthAt_0 : decode cX3_worthAt 0 = .ok (.aload_n 0, 1) := by decide +kernel
theorem dX3_worthAt_1 : decode cX3_worthAt 1 = .ok (.getfield 9, 3) := by decide +kernel
theorem dX3_worthAt_4 : decode cX3_worthAt 4 = .ok (.iload_n 1, 1) := by decide +kernel
theorem dX3_worthAt_5 : decode cX3_worthAt 5 = .ok (.iaload, 1) := by decide +kernel
theorem dX3_worthAt_6 : decode cX3_worthAt 6 = .ok (.ireturn, 1) := by decide +kernel

set_option maxHeartbeats 4000000 in
set_option maxRecDepth 100000 in
theorem c_X3_worthAt (l : Launch) (E : Ev) {A : Nat → Prop} (ad : Nat → Nat) (hA : Oka 39 ad A) (sc : Nat → Int32) (ar : Nat → Nat → Int32) (bl : Int64) (j : Nat) (hj : j < 64) : Ct l E yX3_worthAt (.code yX3_worthAt cX3_worthAt 2 (some .int)) ({ frames := 0, cells := 0, slots := 0, locals := 0 }) A (cw E ad sc ar bl) [.ref (ad 6), .int (nI j)] (some (.int ((ar 25) j))) (cw E ad sc ar bl) := by
  refine Ct.of (lv := [(0, .ref (ad 6)), (1, .int (nI j))]) (by decide +kernel) (Nat.le_of_ble_eq_true rfl) rfl ?_
  intro zp ze zs zm za zb zh zc hc
  refine g_aload_n (pc := 0) hc 0 dX3_worthAt_0 rfl rfl ?_
  refine gf_c6_worths (pc := 1) hc tw_206 dX3_worthAt_1 ?_
  refine g_iload_n (pc := 4) hc 1 dX3_worthAt_4 rfl rfl ?_
  refine la_c25 (pc := 5) hc (j) (rfl) (by omega) dX3_worthAt_5 ?_
  exact g_iret (pc := 6) hc dX3_worthAt_6 (rfl) (rfl)

theorem dX3_sumAround_0 : decode cX3_sumAround 0 = .ok (.aload_n 0, 1) := by decide +kernel
theorem dX3_sumAround_1 : decode cX3_sumAround 1 = .ok (.getfield 18, 3) := by decide +kernel
theorem dX3_sumAround_4 : decode cX3_sumAround 4 = .ok (.aload_n 0, 1) := by decide +kernel
theorem dX3_sumAround_5 : decode cX3_sumAround 5 = .ok (.getfield 9, 3) := by decide +kernel
theorem dX3_sumAround_8 : decode cX3_sumAround 8 = .ok (.iload_n 1, 1) := by decide +kernel
theorem dX3_sumAround_9 : decode cX3_sumAround 9 = .ok (.invokevirtual 62, 3) := by decide +kernel
theorem dX3_sumAround_12 : decode cX3_sumAround 12 = .ok (.ireturn, 1) := by decide +kernel

set_option maxHeartbeats 4000000 in
set_option maxRecDepth 100000 in
theorem c_X3_sumAround (l : Launch) (E : Ev) {A : Nat → Prop} (ad : Nat → Nat) (hA : Oka 39 ad A) (sc : Nat → Int32) (ar : Nat → Nat → Int32) (bl : Int64) {wd hg : Nat} (p : Nat) (hwd : sc 3 = nI wd) (hwd1 : 2 ≤ wd) (hwd2 : wd ≤ 8) (hhg : sc 4 = nI hg) (hhg1 : 2 ≤ hg) (hhg2 : hg ≤ 8) (hp : p < wd * hg) : Ct l E yX3_sumAround (.code yX3_sumAround cX3_sumAround 2 (some .int)) ({ frames := 3, cells := 0, slots := 0, locals := 73 }) A (cw E ad sc ar bl) [.ref (ad 6), .int (nI p)] (some (.int (rgs (ar 25) wd hg p))) (cw E ad sc ar bl) := by
  refine Ct.of (lv := [(0, .ref (ad 6)), (1, .int (nI p))]) (by decide +kernel) (Nat.le_of_ble_eq_true rfl) rfl ?_
  intro zp ze zs zm za zb zh zc hc
  refine g_aload_n (pc := 0) hc 0 dX3_sumAround_0 rfl rfl ?_
  refine gf_c6_ground (pc := 1) hc tw_202 dX3_sumAround_1 ?_
  refine g_aload_n (pc := 4) hc 0 dX3_sumAround_4 rfl rfl ?_
  refine gf_c6_worths (pc := 5) hc tw_206 dX3_sumAround_5 ?_
  refine g_iload_n (pc := 8) hc 1 dX3_sumAround_8 rfl rfl ?_
  refine g_callVi (pc := 9) (rest := []) (As := [.ref (ad 25), .int (nI p)]) hc (c_X2_ringSum l E ad hA sc ar bl p (hwd) (hwd1) (hwd2) (hhg) (hhg1) (hhg2) (by omega)) mi_X2_ringSum tw_608 1 rfl rfl rfl rfl ⟨rfl, rfl, by decide, by decide⟩ (Nat.le_of_ble_eq_true rfl) ⟨Nat.le_refl _, Nat.le_refl _⟩ rfl dX3_sumAround_9 ?_
  exact g_iret (pc := 12) hc dX3_sumAround_12 (rfl) (rfl)

theorem dX3_richest_0 : decode cX3_richest 0 = .ok (.aload_n 0, 1) := by decide +kernel
theorem dX3_richest_1 : decode cX3_richest 1 = .ok (.getfield 18, 3) := by decide +kernel
theorem dX3_richest_4 : decode cX3_richest 4 = .ok (.aload_n 0, 1) := by decide +kernel
theorem dX3_richest_5 : decode cX3_richest 5 = .ok (.getfield 9, 3) := by decide +kernel
theorem dX3_richest_8 : decode cX3_richest 8 = .ok (.invokevirtual 66, 3) := by decide +kernel
theorem dX3_richest_11 : decode cX3_richest 11 = .ok (.ireturn, 1) := by decide +kernel

set_option maxHeartbeats 4000000 in
set_option maxRecDepth 100000 in
theorem c_X3_richest (l : Launch) (E : Ev) {A : Nat → Prop} (ad : Nat → Nat) (hA : Oka 39 ad A) (sc : Nat → Int32) (ar : Nat → Nat → Int32) (bl : Int64) {wd hg : Nat}  (hwd : sc 3 = nI wd) (hwd1 : 2 ≤ wd) (hwd2 : wd ≤ 8) (hhg : sc 4 = nI hg) (hhg1 : 2 ≤ hg) (hhg2 : hg ≤ 8) : Ct l E yX3_richest (.code yX3_richest cX3_richest 1 (some .int)) ({ frames := 4, cells := 0, slots := 0, locals := 98 }) A (cw E ad sc ar bl) [.ref (ad 6)] (some (.int (nI (grb (ar 25) wd hg)))) (cw E ad sc ar bl) := by
  refine Ct.of (lv := [(0, .ref (ad 6))]) (by decide +kernel) (Nat.le_of_ble_eq_true rfl) rfl ?_
  intro zp ze zs zm za zb zh zc hc
  refine g_aload_n (pc := 0) hc 0 dX3_richest_0 rfl rfl ?_
  refine gf_c6_ground (pc := 1) hc tw_202 dX3_richest_1 ?_
  refine g_aload_n (pc := 4) hc 0 dX3_richest_4 rfl rfl ?_
  refine gf_c6_worths (pc := 5) hc tw_206 dX3_richest_5 ?_
  refine g_callVi (pc := 8) (rest := []) (As := [.ref (ad 25)]) hc (c_X2_greatestRing l E ad hA sc ar bl  (hwd) (hwd1) (hwd2) (hhg) (hhg1) (hhg2)) mi_X2_greatestRing tw_623 1 rfl rfl rfl rfl ⟨rfl, rfl, by decide, by decide⟩ (Nat.le_of_ble_eq_true rfl) ⟨Nat.le_refl _, Nat.le_refl _⟩ rfl dX3_richest_8 ?_
  exact g_iret (pc := 11) hc dX3_richest_11 (rfl) (rfl)

theorem dX3_weighed_0 : decode cX3_weighed 0 = .ok (.iconst 0, 1) := by decide +kernel
theorem dX3_weighed_1 : decode cX3_weighed 1 = .ok (.istore 4, 2) := by decide +kernel
theorem dX3_weighed_3 : decode cX3_weighed 3 = .ok (.iconst 0, 1) := by decide +kernel
theorem dX3_weighed_4 : decode cX3_weighed 4 = .ok (.istore 5, 2) := by decide +kernel
theorem dX3_weighed_6 : decode cX3_weighed 6 = .ok (.iload 5, 2) := by decide +kernel
theorem dX3_weighed_8 : decode cX3_weighed 8 = .ok (.iconst 4, 1) := by decide +kernel
theorem dX3_weighed_9 : decode cX3_weighed 9 = .ok (.if_icmp .ge 49, 3) := by decide +kernel
theorem dX3_weighed_12 : decode cX3_weighed 12 = .ok (.aload_n 0, 1) := by decide +kernel
theorem dX3_weighed_13 : decode cX3_weighed 13 = .ok (.getfield 22, 3) := by decide +kernel
theorem dX3_weighed_16 : decode cX3_weighed 16 = .ok (.iload_n 1, 1) := by decide +kernel
theorem dX3_weighed_17 : decode cX3_weighed 17 = .ok (.iload_n 2, 1) := by decide +kernel
theorem dX3_weighed_18 : decode cX3_weighed 18 = .ok (.iload 5, 2) := by decide +kernel
theorem dX3_weighed_20 : decode cX3_weighed 20 = .ok (.invokevirtual 83, 3) := by decide +kernel
theorem dX3_weighed_23 : decode cX3_weighed 23 = .ok (.istore 6, 2) := by decide +kernel
theorem dX3_weighed_25 : decode cX3_weighed 25 = .ok (.iload 4, 2) := by decide +kernel
theorem dX3_weighed_27 : decode cX3_weighed 27 = .ok (.aload_n 0, 1) := by decide +kernel
theorem dX3_weighed_28 : decode cX3_weighed 28 = .ok (.getfield 30, 3) := by decide +kernel
theorem dX3_weighed_31 : decode cX3_weighed 31 = .ok (.iload 5, 2) := by decide +kernel
theorem dX3_weighed_33 : decode cX3_weighed 33 = .ok (.invokevirtual 86, 3) := by decide +kernel
theorem dX3_weighed_36 : decode cX3_weighed 36 = .ok (.aload_n 0, 1) := by decide +kernel
theorem dX3_weighed_37 : decode cX3_weighed 37 = .ok (.getfield 26, 3) := by decide +kernel
theorem dX3_weighed_40 : decode cX3_weighed 40 = .ok (.iload 5, 2) := by decide +kernel
theorem dX3_weighed_42 : decode cX3_weighed 42 = .ok (.iload 6, 2) := by decide +kernel
theorem dX3_weighed_44 : decode cX3_weighed 44 = .ok (.iload_n 3, 1) := by decide +kernel
theorem dX3_weighed_45 : decode cX3_weighed 45 = .ok (.invokevirtual 91, 3) := by decide +kernel
theorem dX3_weighed_48 : decode cX3_weighed 48 = .ok (.imul, 1) := by decide +kernel
theorem dX3_weighed_49 : decode cX3_weighed 49 = .ok (.iadd, 1) := by decide +kernel
theorem dX3_weighed_50 : decode cX3_weighed 50 = .ok (.istore 4, 2) := by decide +kernel
theorem dX3_weighed_52 : decode cX3_weighed 52 = .ok (.iinc 5 1, 3) := by decide +kernel
theorem dX3_weighed_55 : decode cX3_weighed 55 = .ok (.goto (-49), 3) := by decide +kernel
theorem dX3_weighed_58 : decode cX3_weighed 58 = .ok (.iload 4, 2) := by decide +kernel
theorem dX3_weighed_60 : decode cX3_weighed 60 = .ok (.ireturn, 1) := by decide +kernel

set_option maxHeartbeats 4000000 in
set_option maxRecDepth 100000 in
theorem c_X3_weighed (l : Launch) (E : Ev) {A : Nat → Prop} (ad : Nat → Nat) (hA : Oka 39 ad A) (sc : Nat → Int32) (ar : Nat → Nat → Int32) (bl : Int64) {nW : Nat} (x : Int32) (c : Nat) (y : Int32) (hW : sc 5 = nI nW) (hW60 : nW ≤ 60) (hcc : c < 8) : Ct l E yX3_weighed (.code yX3_weighed cX3_weighed 7 (some .int)) ({ frames := 2, cells := 0, slots := 0, locals := 45 }) A (cw E ad sc ar bl) [.ref (ad 6), .int x, .int (nI c), .int y] (some (.int (wz (sc 5) (ar 15) (ar 20) x c y 4))) (cw E ad sc ar bl) := by
  refine Ct.of (lv := [(0, .ref (ad 6)), (1, .int x), (2, .int (nI c)), (3, .int y)]) (by decide +kernel) (Nat.le_of_ble_eq_true rfl) rfl ?_
  intro zp ze zs zm za zb zh zc hc
  refine g_iconst (pc := 0) (v := nI 0) hc dX3_weighed_0 (by decide) ?_
  refine g_istore (pc := 1) (lv' := [(0, .ref (ad 6)), (1, .int x), (2, .int (nI c)), (3, .int y), (4, .int (nI 0))]) hc dX3_weighed_1 (by decide) rfl ?_
  refine g_iconst (pc := 3) (v := nI 0) hc dX3_weighed_3 (by decide) ?_
  refine g_istore (pc := 4) (lv' := [(0, .ref (ad 6)), (1, .int x), (2, .int (nI c)), (3, .int y), (4, .int (nI 0)), (5, .int (nI 0))]) hc dX3_weighed_4 (by decide) rfl ?_
  have L6_1 : ∀ (kk k : Nat), k + kk = 4 → G zp l ze ({ frames := 2, cells := 0, slots := 0, locals := 45 }) zs zm za zb zh zc 0 0 (MQ zb (Qz E A (some (.int (wz (sc 5) (ar 15) (ar 20) x c y 4))) (cw E ad sc ar bl)) za zs 0 0 A) E A 7 (cw E ad sc ar bl) (6) [(0, .ref (ad 6)), (1, .int x), (2, .int (nI c)), (3, .int y), (4, .int (wz (sc 5) (ar 15) (ar 20) x c y (k))), (5, .int (nI (k)))] [] := by
    intro kk
    induction kk with
    | zero =>
      intro k lhk
      have lhkn : 4 = k := by omega
      subst lhkn
      refine g_iload (pc := 6) hc 5 dX3_weighed_6 rfl ?_
      refine g_iconst (pc := 8) (v := nI 4) hc dX3_weighed_8 (by decide) ?_
      refine g_icmp_ge_t (pc := 9) hc 58 dX3_weighed_9 (by decide) (nI_le (by omega) (by omega)) ?_
      refine g_iload (pc := 58) hc 4 dX3_weighed_58 rfl ?_
      exact g_iret (pc := 60) hc dX3_weighed_60 (rfl) (rfl)
    | succ kk ihk =>
      intro k lhk
      have lhkn : k < 4 := by omega
      refine g_iload (pc := 6) hc 5 dX3_weighed_6 rfl ?_
      refine g_iconst (pc := 8) (v := nI 4) hc dX3_weighed_8 (by decide) ?_
      refine g_icmp_ge_f (pc := 9) hc 58 dX3_weighed_9 (by decide) (nI_ge (by omega) (by omega)) ?_
      refine g_aload_n (pc := 12) hc 0 dX3_weighed_12 rfl rfl ?_
      refine gf_c6_walks (pc := 13) hc tw_203 dX3_weighed_13 ?_
      refine g_iload_n (pc := 16) hc 1 dX3_weighed_16 rfl rfl ?_
      refine g_iload_n (pc := 17) hc 2 dX3_weighed_17 rfl rfl ?_
      refine g_iload (pc := 18) hc 5 dX3_weighed_18 rfl ?_
      refine g_callVi (pc := 20) (rest := []) (As := [.int x, .int (nI c), .int (nI (k))]) hc (c_X10_borne l E ad hA sc ar bl x c k (hW) (hW60) (by omega) (by omega)) mi_X10_borne tw_594 3 rfl rfl rfl rfl ⟨rfl, rfl, by decide, by decide⟩ (Nat.le_of_ble_eq_true rfl) ⟨Nat.le_refl _, Nat.le_refl _⟩ rfl dX3_weighed_20 ?_
      refine g_istore (pc := 23) (lv' := [(0, .ref (ad 6)), (1, .int x), (2, .int (nI c)), (3, .int y), (4, .int (wz (sc 5) (ar 15) (ar 20) x c y (k))), (5, .int (nI (k))), (6, .int (brn (sc 5) (ar 20) x c k))]) hc dX3_weighed_23 (by decide) rfl ?_
      refine g_iload (pc := 25) hc 4 dX3_weighed_25 rfl ?_
      refine g_aload_n (pc := 27) hc 0 dX3_weighed_27 rfl rfl ?_
      refine gf_c6_sorts (pc := 28) hc tw_205 dX3_weighed_28 ?_
      refine g_iload (pc := 31) hc 5 dX3_weighed_31 rfl ?_
      refine g_callVi (pc := 33) (rest := [.int (wz (sc 5) (ar 15) (ar 20) x c y (k))]) (As := [.int (nI (k))]) hc (c_X8_weight l E ad hA sc ar bl k (by omega)) mi_X8_weight tw_595 2 rfl rfl rfl rfl ⟨rfl, rfl, by decide, by decide⟩ (Nat.le_of_ble_eq_true rfl) ⟨Nat.le_refl _, Nat.le_refl _⟩ rfl dX3_weighed_33 ?_
      refine g_aload_n (pc := 36) hc 0 dX3_weighed_36 rfl rfl ?_
      refine gf_c6_eyes (pc := 37) hc tw_204 dX3_weighed_37 ?_
      refine g_iload (pc := 40) hc 5 dX3_weighed_40 rfl ?_
      refine g_iload (pc := 42) hc 6 dX3_weighed_42 rfl ?_
      refine g_iload_n (pc := 44) hc 3 dX3_weighed_44 rfl rfl ?_
      refine g_callVi (pc := 45) (rest := [.int (wgt (ar 15) k), .int (wz (sc 5) (ar 15) (ar 20) x c y (k))]) (As := [.int (nI (k)), .int (brn (sc 5) (ar 20) x c k), .int y]) hc (c_X0_amend l E ad hA sc ar bl k (brn (sc 5) (ar 20) x c k) y (by omega)) mi_X0_amend tw_599 5 rfl rfl rfl rfl ⟨rfl, rfl, by decide, by decide⟩ (Nat.le_of_ble_eq_true rfl) ⟨Nat.le_refl _, Nat.le_refl _⟩ rfl dX3_weighed_45 ?_
      refine g_imul (pc := 48) hc dX3_weighed_48 ?_
      refine g_iadd (pc := 49) hc dX3_weighed_49 ?_
      refine g_istore (pc := 50) (lv' := [(0, .ref (ad 6)), (1, .int x), (2, .int (nI c)), (3, .int y), (4, .int ((wz (sc 5) (ar 15) (ar 20) x c y (k)) + ((wgt (ar 15) k) * (amd (ar 15) k (brn (sc 5) (ar 20) x c k) y)))), (5, .int (nI (k))), (6, .int (brn (sc 5) (ar 20) x c k))]) hc dX3_weighed_50 (by decide) rfl ?_
      refine g_iinc (pc := 52) (v := nI (k + 1)) (lv' := [(0, .ref (ad 6)), (1, .int x), (2, .int (nI c)), (3, .int y), (4, .int ((wz (sc 5) (ar 15) (ar 20) x c y (k)) + ((wgt (ar 15) k) * (amd (ar 15) k (brn (sc 5) (ar 20) x c k) y)))), (5, .int (nI (k + 1))), (6, .int (brn (sc 5) (ar 20) x c k))]) hc 5 dX3_weighed_52 rfl (nI_ofi k 1) (by decide) rfl ?_
      refine g_goto (pc := 55) hc 6 dX3_weighed_55 (by decide) ?_
      refine g_lv [0, 1, 2, 3, 4, 5] (lv' := [(0, .ref (ad 6)), (1, .int x), (2, .int (nI c)), (3, .int y), (4, .int ((wz (sc 5) (ar 15) (ar 20) x c y (k)) + ((wgt (ar 15) k) * (amd (ar 15) k (brn (sc 5) (ar 20) x c k) y)))), (5, .int (nI (k + 1)))]) rfl ?_
      exact g_eq (ws' := cw E ad sc ar bl) (lv' := [(0, .ref (ad 6)), (1, .int x), (2, .int (nI c)), (3, .int y), (4, .int (wz (sc 5) (ar 15) (ar 20) x c y (k + 1))), (5, .int (nI (k + 1)))]) (rfl) (rfl) rfl (ihk (k + 1) (by omega))
  exact g_eq (ws' := cw E ad sc ar bl) (lv' := [(0, .ref (ad 6)), (1, .int x), (2, .int (nI c)), (3, .int y), (4, .int (wz (sc 5) (ar 15) (ar 20) x c y (0))), (5, .int (nI (0)))]) (rfl) (rfl) rfl (L6_1 (4 - 0) (0) (by omega))

theorem dX3_lay_0 : decode cX3_lay 0 = .ok (.iconst 0, 1) := by decide +kernel
theorem dX3_lay_1 : decode cX3_lay 1 = .ok (.istore_n 1, 1) := by decide +kernel
theorem dX3_lay_2 : decode cX3_lay 2 = .ok (.iload_n 1, 1) := by decide +kernel
theorem dX3_lay_3 : decode cX3_lay 3 = .ok (.aload_n 0, 1) := by decide +kernel
theorem dX3_lay_4 : decode cX3_lay 4 = .ok (.getfield 18, 3) := by decide +kernel
theorem dX3_lay_7 : decode cX3_lay 7 = .ok (.invokevirtual 34, 3) := by decide +kernel
theorem dX3_lay_10 : decode cX3_lay 10 = .ok (.if_icmp .ge 93, 3) := by decide +kernel
theorem dX3_lay_13 : decode cX3_lay 13 = .ok (.aload_n 0, 1) := by decide +kernel
theorem dX3_lay_14 : decode cX3_lay 14 = .ok (.getfield 22, 3) := by decide +kernel
theorem dX3_lay_17 : decode cX3_lay 17 = .ok (.iload_n 1, 1) := by decide +kernel
theorem dX3_lay_18 : decode cX3_lay 18 = .ok (.invokevirtual 40, 3) := by decide +kernel
theorem dX3_lay_21 : decode cX3_lay 21 = .ok (.istore_n 2, 1) := by decide +kernel
theorem dX3_lay_22 : decode cX3_lay 22 = .ok (.aload_n 0, 1) := by decide +kernel
theorem dX3_lay_23 : decode cX3_lay 23 = .ok (.getfield 26, 3) := by decide +kernel
theorem dX3_lay_26 : decode cX3_lay 26 = .ok (.iload_n 2, 1) := by decide +kernel
theorem dX3_lay_27 : decode cX3_lay 27 = .ok (.invokevirtual 46, 3) := by decide +kernel
theorem dX3_lay_30 : decode cX3_lay 30 = .ok (.istore_n 3, 1) := by decide +kernel
theorem dX3_lay_31 : decode cX3_lay 31 = .ok (.iconst 0, 1) := by decide +kernel
theorem dX3_lay_32 : decode cX3_lay 32 = .ok (.istore 4, 2) := by decide +kernel
theorem dX3_lay_34 : decode cX3_lay 34 = .ok (.iload 4, 2) := by decide +kernel
theorem dX3_lay_36 : decode cX3_lay 36 = .ok (.aload_n 0, 1) := by decide +kernel
theorem dX3_lay_37 : decode cX3_lay 37 = .ok (.getfield 18, 3) := by decide +kernel
theorem dX3_lay_40 : decode cX3_lay 40 = .ok (.invokevirtual 51, 3) := by decide +kernel
theorem dX3_lay_43 : decode cX3_lay 43 = .ok (.if_icmp .ge 54, 3) := by decide +kernel
theorem dX3_lay_46 : decode cX3_lay 46 = .ok (.iload_n 1, 1) := by decide +kernel
theorem dX3_lay_47 : decode cX3_lay 47 = .ok (.aload_n 0, 1) := by decide +kernel
theorem dX3_lay_48 : decode cX3_lay 48 = .ok (.getfield 18, 3) := by decide +kernel
theorem dX3_lay_51 : decode cX3_lay 51 = .ok (.invokevirtual 51, 3) := by decide +kernel
theorem dX3_lay_54 : decode cX3_lay 54 = .ok (.imul, 1) := by decide +kernel
theorem dX3_lay_55 : decode cX3_lay 55 = .ok (.iload 4, 2) := by decide +kernel
theorem dX3_lay_57 : decode cX3_lay 57 = .ok (.iadd, 1) := by decide +kernel
theorem dX3_lay_58 : decode cX3_lay 58 = .ok (.istore 5, 2) := by decide +kernel
theorem dX3_lay_60 : decode cX3_lay 60 = .ok (.aload_n 0, 1) := by decide +kernel
theorem dX3_lay_61 : decode cX3_lay 61 = .ok (.getfield 9, 3) := by decide +kernel
theorem dX3_lay_64 : decode cX3_lay 64 = .ok (.iload 5, 2) := by decide +kernel
theorem dX3_lay_66 : decode cX3_lay 66 = .ok (.aload_n 0, 1) := by decide +kernel
theorem dX3_lay_67 : decode cX3_lay 67 = .ok (.getfield 18, 3) := by decide +kernel
theorem dX3_lay_70 : decode cX3_lay 70 = .ok (.iload 5, 2) := by decide +kernel
theorem dX3_lay_72 : decode cX3_lay 72 = .ok (.invokevirtual 54, 3) := by decide +kernel
theorem dX3_lay_75 : decode cX3_lay 75 = .ok (.ifCond .eq 7, 3) := by decide +kernel
theorem dX3_lay_78 : decode cX3_lay 78 = .ok (.iconst 0, 1) := by decide +kernel
theorem dX3_lay_79 : decode cX3_lay 79 = .ok (.goto 11, 3) := by decide +kernel
theorem dX3_lay_82 : decode cX3_lay 82 = .ok (.aload_n 0, 1) := by decide +kernel
theorem dX3_lay_83 : decode cX3_lay 83 = .ok (.iload_n 2, 1) := by decide +kernel
theorem dX3_lay_84 : decode cX3_lay 84 = .ok (.iload 4, 2) := by decide +kernel
theorem dX3_lay_86 : decode cX3_lay 86 = .ok (.iload_n 3, 1) := by decide +kernel
theorem dX3_lay_87 : decode cX3_lay 87 = .ok (.invokevirtual 58, 3) := by decide +kernel
theorem dX3_lay_90 : decode cX3_lay 90 = .ok (.iastore, 1) := by decide +kernel
theorem dX3_lay_91 : decode cX3_lay 91 = .ok (.iinc 4 1, 3) := by decide +kernel
theorem dX3_lay_94 : decode cX3_lay 94 = .ok (.goto (-60), 3) := by decide +kernel
theorem dX3_lay_97 : decode cX3_lay 97 = .ok (.iinc 1 1, 3) := by decide +kernel
theorem dX3_lay_100 : decode cX3_lay 100 = .ok (.goto (-98), 3) := by decide +kernel
theorem dX3_lay_103 : decode cX3_lay 103 = .ok (.return_, 1) := by decide +kernel

set_option maxHeartbeats 4000000 in
set_option maxRecDepth 100000 in
theorem c_X3_lay (l : Launch) (E : Ev) {A : Nat → Prop} (ad : Nat → Nat) (hA : Oka 39 ad A) (sc : Nat → Int32) (ar : Nat → Nat → Int32) (bl : Int64) {nW wd hg : Nat}  (hW : sc 5 = nI nW) (hW60 : nW ≤ 60) (hwd : sc 3 = nI wd) (hwd1 : 2 ≤ wd) (hwd2 : wd ≤ 8) (hhg : sc 4 = nI hg) (hhg1 : 2 ≤ hg) (hhg2 : hg ≤ 8) : Ct l E yX3_lay (.code yX3_lay cX3_lay 6 none) ({ frames := 5, cells := 0, slots := 0, locals := 113 }) A (cw E ad sc ar bl) [.ref (ad 6)] (none) (cw E ad sc (va_up ar 25 (layO (cel (sc 5) nW (ar 15) (ar 16) (ar 17) (ar 19) (ar 20) bl wd) wd (ar 25) hg)) bl) := by
  refine Ct.of (lv := [(0, .ref (ad 6))]) (by decide +kernel) (Nat.le_of_ble_eq_true rfl) rfl ?_
  intro zp ze zs zm za zb zh zc hc
  refine g_iconst (pc := 0) (v := nI 0) hc dX3_lay_0 (by decide) ?_
  refine g_istore_n (pc := 1) (lv' := [(0, .ref (ad 6)), (1, .int (nI 0))]) hc dX3_lay_1 rfl (by decide) rfl ?_
  have L2_1 : ∀ (ki i : Nat), i + ki = hg → G zp l ze ({ frames := 5, cells := 0, slots := 0, locals := 113 }) zs zm za zb zh zc 0 0 (MQ zb (Qz E A (none) (cw E ad sc (va_up ar 25 (layO (cel (sc 5) nW (ar 15) (ar 16) (ar 17) (ar 19) (ar 20) bl wd) wd (ar 25) hg)) bl)) za zs 0 0 A) E A 6 (cw E ad sc (va_up ar 25 (layO (cel (sc 5) nW (ar 15) (ar 16) (ar 17) (ar 19) (ar 20) bl wd) wd (ar 25) (i))) bl) (2) [(0, .ref (ad 6)), (1, .int (nI (i)))] [] := by
    intro ki
    induction ki with
    | zero =>
      intro i lhi
      have lhin : hg = i := by omega
      subst lhin
      refine g_iload_n (pc := 2) hc 1 dX3_lay_2 rfl rfl ?_
      refine g_aload_n (pc := 3) hc 0 dX3_lay_3 rfl rfl ?_
      refine gf_c6_ground (pc := 4) hc tw_202 dX3_lay_4 ?_
      refine g_callVi (pc := 7) (rest := [.int (nI (hg))]) (As := []) hc (c_X2_rows l E ad hA sc (va_up ar 25 (layO (cel (sc 5) nW (ar 15) (ar 16) (ar 17) (ar 19) (ar 20) bl wd) wd (ar 25) (hg))) bl  (hwd) (hwd1) (hwd2) (hhg) (hhg1) (hhg2)) mi_X2_rows tw_579 1 rfl rfl rfl rfl ⟨rfl, rfl, by decide, by decide⟩ (Nat.le_of_ble_eq_true rfl) ⟨Nat.le_refl _, Nat.le_refl _⟩ rfl dX3_lay_7 ?_
      refine g_topi (v := nI hg) rfl ?_
      refine g_icmp_ge_t (pc := 10) hc 103 dX3_lay_10 (by decide) (nI_le (by omega) (by omega)) ?_
      exact g_vret (pc := 103) hc dX3_lay_103 rfl (rfl)
    | succ ki ihi =>
      intro i lhi
      have lhin : i < hg := by omega
      refine g_iload_n (pc := 2) hc 1 dX3_lay_2 rfl rfl ?_
      refine g_aload_n (pc := 3) hc 0 dX3_lay_3 rfl rfl ?_
      refine gf_c6_ground (pc := 4) hc tw_202 dX3_lay_4 ?_
      refine g_callVi (pc := 7) (rest := [.int (nI (i))]) (As := []) hc (c_X2_rows l E ad hA sc (va_up ar 25 (layO (cel (sc 5) nW (ar 15) (ar 16) (ar 17) (ar 19) (ar 20) bl wd) wd (ar 25) (i))) bl  (hwd) (hwd1) (hwd2) (hhg) (hhg1) (hhg2)) mi_X2_rows tw_579 1 rfl rfl rfl rfl ⟨rfl, rfl, by decide, by decide⟩ (Nat.le_of_ble_eq_true rfl) ⟨Nat.le_refl _, Nat.le_refl _⟩ rfl dX3_lay_7 ?_
      refine g_topi (v := nI hg) rfl ?_
      refine g_icmp_ge_f (pc := 10) hc 103 dX3_lay_10 (by decide) (nI_ge (by omega) (by omega)) ?_
      refine g_aload_n (pc := 13) hc 0 dX3_lay_13 rfl rfl ?_
      refine gf_c6_walks (pc := 14) hc tw_203 dX3_lay_14 ?_
      refine g_iload_n (pc := 17) hc 1 dX3_lay_17 rfl rfl ?_
      refine g_callVi (pc := 18) (rest := []) (As := [.int (nI (i))]) hc (c_X10_teller l E ad hA sc (va_up ar 25 (layO (cel (sc 5) nW (ar 15) (ar 16) (ar 17) (ar 19) (ar 20) bl wd) wd (ar 25) (i))) bl (nI (i)) (hW) (hW60)) mi_X10_teller tw_580 3 rfl rfl rfl rfl ⟨rfl, rfl, by decide, by decide⟩ (Nat.le_of_ble_eq_true rfl) ⟨Nat.le_refl _, Nat.le_refl _⟩ rfl dX3_lay_18 ?_
      refine g_topi (v := ctel nW (ar 17) (ar 19) (nI (i))) rfl ?_
      refine g_istore_n (pc := 21) (lv' := [(0, .ref (ad 6)), (1, .int (nI (i))), (2, .int (ctel nW (ar 17) (ar 19) (nI (i))))]) hc dX3_lay_21 rfl (by decide) rfl ?_
      refine g_aload_n (pc := 22) hc 0 dX3_lay_22 rfl rfl ?_
      refine gf_c6_eyes (pc := 23) hc tw_204 dX3_lay_23 ?_
      refine g_iload_n (pc := 26) hc 2 dX3_lay_26 rfl rfl ?_
      refine g_callVi (pc := 27) (rest := []) (As := [.int (ctel nW (ar 17) (ar 19) (nI (i)))]) hc (c_X0_ofTeller l E ad hA sc (va_up ar 25 (layO (cel (sc 5) nW (ar 15) (ar 16) (ar 17) (ar 19) (ar 20) bl wd) wd (ar 25) (i))) bl (ctel nW (ar 17) (ar 19) (nI (i))) (hW) (hW60)) mi_X0_ofTeller tw_581 5 rfl rfl rfl rfl ⟨rfl, rfl, by decide, by decide⟩ (Nat.le_of_ble_eq_true rfl) ⟨Nat.le_refl _, Nat.le_refl _⟩ rfl dX3_lay_27 ?_
      refine g_topi (v := oft (ar 15) (ar 16) (ar 17) (ar 19) nW (ctel nW (ar 17) (ar 19) (nI (i)))) rfl ?_
      refine g_istore_n (pc := 30) (lv' := [(0, .ref (ad 6)), (1, .int (nI (i))), (2, .int (ctel nW (ar 17) (ar 19) (nI (i)))), (3, .int (oft (ar 15) (ar 16) (ar 17) (ar 19) nW (ctel nW (ar 17) (ar 19) (nI (i)))))]) hc dX3_lay_30 rfl (by decide) rfl ?_
      refine g_iconst (pc := 31) (v := nI 0) hc dX3_lay_31 (by decide) ?_
      refine g_istore (pc := 32) (lv' := [(0, .ref (ad 6)), (1, .int (nI (i))), (2, .int (ctel nW (ar 17) (ar 19) (nI (i)))), (3, .int (oft (ar 15) (ar 16) (ar 17) (ar 19) nW (ctel nW (ar 17) (ar 19) (nI (i))))), (4, .int (nI 0))]) hc dX3_lay_32 (by decide) rfl ?_
      have L34_2 : ∀ (kc c : Nat), c + kc = wd → G zp l ze ({ frames := 5, cells := 0, slots := 0, locals := 113 }) zs zm za zb zh zc 0 0 (MQ zb (Qz E A (none) (cw E ad sc (va_up ar 25 (layO (cel (sc 5) nW (ar 15) (ar 16) (ar 17) (ar 19) (ar 20) bl wd) wd (ar 25) hg)) bl)) za zs 0 0 A) E A 6 (cw E ad sc (va_up ar 25 (layI (cel (sc 5) nW (ar 15) (ar 16) (ar 17) (ar 19) (ar 20) bl wd) wd i (layO (cel (sc 5) nW (ar 15) (ar 16) (ar 17) (ar 19) (ar 20) bl wd) wd (ar 25) i) (c))) bl) (34) [(0, .ref (ad 6)), (1, .int (nI (i))), (2, .int (ctel nW (ar 17) (ar 19) (nI (i)))), (3, .int (oft (ar 15) (ar 16) (ar 17) (ar 19) nW (ctel nW (ar 17) (ar 19) (nI (i))))), (4, .int (nI (c)))] [] := by
        intro kc
        induction kc with
        | zero =>
          intro c lhc
          have lhcn : wd = c := by omega
          subst lhcn
          refine g_iload (pc := 34) hc 4 dX3_lay_34 rfl ?_
          refine g_aload_n (pc := 36) hc 0 dX3_lay_36 rfl rfl ?_
          refine gf_c6_ground (pc := 37) hc tw_202 dX3_lay_37 ?_
          refine g_callVi (pc := 40) (rest := [.int (nI (wd))]) (As := []) hc (c_X2_columns l E ad hA sc (va_up ar 25 (layI (cel (sc 5) nW (ar 15) (ar 16) (ar 17) (ar 19) (ar 20) bl wd) wd i (layO (cel (sc 5) nW (ar 15) (ar 16) (ar 17) (ar 19) (ar 20) bl wd) wd (ar 25) i) (wd))) bl  (hwd) (hwd1) (hwd2) (hhg) (hhg1) (hhg2)) mi_X2_columns tw_582 1 rfl rfl rfl rfl ⟨rfl, rfl, by decide, by decide⟩ (Nat.le_of_ble_eq_true rfl) ⟨Nat.le_refl _, Nat.le_refl _⟩ rfl dX3_lay_40 ?_
          refine g_topi (v := nI wd) rfl ?_
          refine g_icmp_ge_t (pc := 43) hc 97 dX3_lay_43 (by decide) (nI_le (by omega) (by omega)) ?_
          refine g_iinc (pc := 97) (v := nI (i + 1)) (lv' := [(0, .ref (ad 6)), (1, .int (nI (i + 1))), (2, .int (ctel nW (ar 17) (ar 19) (nI (i)))), (3, .int (oft (ar 15) (ar 16) (ar 17) (ar 19) nW (ctel nW (ar 17) (ar 19) (nI (i))))), (4, .int (nI (wd)))]) hc 1 dX3_lay_97 rfl (nI_ofi i 1) (by decide) rfl ?_
          refine g_goto (pc := 100) hc 2 dX3_lay_100 (by decide) ?_
          refine g_lv [0, 1] (lv' := [(0, .ref (ad 6)), (1, .int (nI (i + 1)))]) rfl ?_
          exact g_eq (ws' := cw E ad sc (va_up ar 25 (layO (cel (sc 5) nW (ar 15) (ar 16) (ar 17) (ar 19) (ar 20) bl wd) wd (ar 25) (i + 1))) bl) (lv' := [(0, .ref (ad 6)), (1, .int (nI (i + 1)))]) (rfl) (rfl) rfl (ihi (i + 1) (by omega))
        | succ kc ihc =>
          intro c lhc
          have lhcn : c < wd := by omega
          refine g_iload (pc := 34) hc 4 dX3_lay_34 rfl ?_
          refine g_aload_n (pc := 36) hc 0 dX3_lay_36 rfl rfl ?_
          refine gf_c6_ground (pc := 37) hc tw_202 dX3_lay_37 ?_
          refine g_callVi (pc := 40) (rest := [.int (nI (c))]) (As := []) hc (c_X2_columns l E ad hA sc (va_up ar 25 (layI (cel (sc 5) nW (ar 15) (ar 16) (ar 17) (ar 19) (ar 20) bl wd) wd i (layO (cel (sc 5) nW (ar 15) (ar 16) (ar 17) (ar 19) (ar 20) bl wd) wd (ar 25) i) (c))) bl  (hwd) (hwd1) (hwd2) (hhg) (hhg1) (hhg2)) mi_X2_columns tw_582 1 rfl rfl rfl rfl ⟨rfl, rfl, by decide, by decide⟩ (Nat.le_of_ble_eq_true rfl) ⟨Nat.le_refl _, Nat.le_refl _⟩ rfl dX3_lay_40 ?_
          refine g_topi (v := nI wd) rfl ?_
          refine g_icmp_ge_f (pc := 43) hc 97 dX3_lay_43 (by decide) (nI_ge (by omega) (by omega)) ?_
          refine g_iload_n (pc := 46) hc 1 dX3_lay_46 rfl rfl ?_
          refine g_aload_n (pc := 47) hc 0 dX3_lay_47 rfl rfl ?_
          refine gf_c6_ground (pc := 48) hc tw_202 dX3_lay_48 ?_
          refine g_callVi (pc := 51) (rest := [.int (nI (i))]) (As := []) hc (c_X2_columns l E ad hA sc (va_up ar 25 (layI (cel (sc 5) nW (ar 15) (ar 16) (ar 17) (ar 19) (ar 20) bl wd) wd i (layO (cel (sc 5) nW (ar 15) (ar 16) (ar 17) (ar 19) (ar 20) bl wd) wd (ar 25) i) (c))) bl  (hwd) (hwd1) (hwd2) (hhg) (hhg1) (hhg2)) mi_X2_columns tw_582 1 rfl rfl rfl rfl ⟨rfl, rfl, by decide, by decide⟩ (Nat.le_of_ble_eq_true rfl) ⟨Nat.le_refl _, Nat.le_refl _⟩ rfl dX3_lay_51 ?_
          refine g_topi (v := nI wd) rfl ?_
          refine g_imul (pc := 54) hc dX3_lay_54 ?_
          refine g_topi (v := nI (i * wd)) (pk_mul i wd) ?_
          refine g_iload (pc := 55) hc 4 dX3_lay_55 rfl ?_
          refine g_iadd (pc := 57) hc dX3_lay_57 ?_
          refine g_topi (v := nI ((i * wd) + c)) (nI_add (i * wd) c) ?_
          refine g_istore (pc := 58) (lv' := [(0, .ref (ad 6)), (1, .int (nI (i))), (2, .int (ctel nW (ar 17) (ar 19) (nI (i)))), (3, .int (oft (ar 15) (ar 16) (ar 17) (ar 19) nW (ctel nW (ar 17) (ar 19) (nI (i))))), (4, .int (nI (c))), (5, .int (nI ((i * wd) + c)))]) hc dX3_lay_58 (by decide) rfl ?_
          refine g_aload_n (pc := 60) hc 0 dX3_lay_60 rfl rfl ?_
          refine gf_c6_worths (pc := 61) hc tw_206 dX3_lay_61 ?_
          refine g_iload (pc := 64) hc 5 dX3_lay_64 rfl ?_
          refine g_aload_n (pc := 66) hc 0 dX3_lay_66 rfl rfl ?_
          refine gf_c6_ground (pc := 67) hc tw_202 dX3_lay_67 ?_
          refine g_iload (pc := 70) hc 5 dX3_lay_70 rfl ?_
          refine g_callVi (pc := 72) (rest := [.int (nI ((i * wd) + c)), .ref (ad 25)]) (As := [.int (nI ((i * wd) + c))]) hc (c_X2_isBarren l E ad hA sc (va_up ar 25 (layI (cel (sc 5) nW (ar 15) (ar 16) (ar 17) (ar 19) (ar 20) bl wd) wd i (layO (cel (sc 5) nW (ar 15) (ar 16) (ar 17) (ar 19) (ar 20) bl wd) wd (ar 25) i) (c))) bl (nI ((i * wd) + c))) mi_X2_isBarren tw_586 1 rfl rfl rfl rfl ⟨rfl, rfl, by decide, by decide⟩ (Nat.le_of_ble_eq_true rfl) ⟨Nat.le_refl _, Nat.le_refl _⟩ rfl dX3_lay_72 ?_
          refine g_topi (v := bI (brb bl (nI ((i * wd) + c)))) rfl ?_
          refine g_if_eq_b (pc := 75) hc 82 dX3_lay_75 (by decide) (fun c3 => ?_) (fun c3 => ?_)
          · refine g_aload_n (pc := 82) hc 0 dX3_lay_82 rfl rfl ?_
            refine g_iload_n (pc := 83) hc 2 dX3_lay_83 rfl rfl ?_
            refine g_iload (pc := 84) hc 4 dX3_lay_84 rfl ?_
            refine g_iload_n (pc := 86) hc 3 dX3_lay_86 rfl rfl ?_
            refine g_callVi (pc := 87) (rest := [.int (nI ((i * wd) + c)), .ref (ad 25)]) (As := [.int (ctel nW (ar 17) (ar 19) (nI (i))), .int (nI (c)), .int (oft (ar 15) (ar 16) (ar 17) (ar 19) nW (ctel nW (ar 17) (ar 19) (nI (i))))]) hc (c_X3_weighed l E ad hA sc (va_up ar 25 (layI (cel (sc 5) nW (ar 15) (ar 16) (ar 17) (ar 19) (ar 20) bl wd) wd i (layO (cel (sc 5) nW (ar 15) (ar 16) (ar 17) (ar 19) (ar 20) bl wd) wd (ar 25) i) (c))) bl (ctel nW (ar 17) (ar 19) (nI (i))) c (oft (ar 15) (ar 16) (ar 17) (ar 19) nW (ctel nW (ar 17) (ar 19) (nI (i)))) (hW) (hW60) (by omega)) mi_X3_weighed tw_590 6 rfl rfl rfl rfl ⟨rfl, rfl, by decide, by decide⟩ (Nat.le_of_ble_eq_true rfl) ⟨Nat.le_refl _, Nat.le_refl _⟩ rfl dX3_lay_87 ?_
            refine g_topi (v := wz (sc 5) (ar 15) (ar 20) (ctel nW (ar 17) (ar 19) (nI (i))) c (oft (ar 15) (ar 16) (ar 17) (ar 19) nW (ctel nW (ar 17) (ar 19) (nI (i)))) 4) rfl ?_
            refine sa_c25 (pc := 90) hc hA (i * wd + c) (rfl) (idx64 (by omega) (by omega) hwd2 hhg2) dX3_lay_90 ?_
            refine g_eq (ws' := cw E ad sc (va_up ar 25 (upd (layI (cel (sc 5) nW (ar 15) (ar 16) (ar 17) (ar 19) (ar 20) bl wd) wd i (layO (cel (sc 5) nW (ar 15) (ar 16) (ar 17) (ar 19) (ar 20) bl wd) wd (ar 25) i) (c)) (i * wd + c) (wz (sc 5) (ar 15) (ar 20) (ctel nW (ar 17) (ar 19) (nI (i))) c (oft (ar 15) (ar 16) (ar 17) (ar 19) nW (ctel nW (ar 17) (ar 19) (nI (i)))) 4))) bl) (lv' := [(0, .ref (ad 6)), (1, .int (nI (i))), (2, .int (ctel nW (ar 17) (ar 19) (nI (i)))), (3, .int (oft (ar 15) (ar 16) (ar 17) (ar 19) nW (ctel nW (ar 17) (ar 19) (nI (i))))), (4, .int (nI (c))), (5, .int (nI ((i * wd) + c)))]) rfl rfl rfl ?_
            refine g_iinc (pc := 91) (v := nI (c + 1)) (lv' := [(0, .ref (ad 6)), (1, .int (nI (i))), (2, .int (ctel nW (ar 17) (ar 19) (nI (i)))), (3, .int (oft (ar 15) (ar 16) (ar 17) (ar 19) nW (ctel nW (ar 17) (ar 19) (nI (i))))), (4, .int (nI (c + 1))), (5, .int (nI ((i * wd) + c)))]) hc 4 dX3_lay_91 rfl (nI_ofi c 1) (by decide) rfl ?_
            refine g_goto (pc := 94) hc 34 dX3_lay_94 (by decide) ?_
            refine g_lv [0, 1, 2, 3, 4] (lv' := [(0, .ref (ad 6)), (1, .int (nI (i))), (2, .int (ctel nW (ar 17) (ar 19) (nI (i)))), (3, .int (oft (ar 15) (ar 16) (ar 17) (ar 19) nW (ctel nW (ar 17) (ar 19) (nI (i))))), (4, .int (nI (c + 1)))]) rfl ?_
            exact g_eq (ws' := cw E ad sc (va_up ar 25 (layI (cel (sc 5) nW (ar 15) (ar 16) (ar 17) (ar 19) (ar 20) bl wd) wd i (layO (cel (sc 5) nW (ar 15) (ar 16) (ar 17) (ar 19) (ar 20) bl wd) wd (ar 25) i) (c + 1))) bl) (lv' := [(0, .ref (ad 6)), (1, .int (nI (i))), (2, .int (ctel nW (ar 17) (ar 19) (nI (i)))), (3, .int (oft (ar 15) (ar 16) (ar 17) (ar 19) nW (ctel nW (ar 17) (ar 19) (nI (i))))), (4, .int (nI (c + 1)))]) (by show _ = cw E ad sc (va_up ar 25 (upd _ _ (cel _ _ _ _ _ _ _ _ _ _ _))) bl; unfold cel; first | rw [if_pos c3] | rw [if_neg (ne_true_of_eq_false c3)]) (rfl) rfl (ihc (c + 1) (by omega))
          · refine g_iconst (pc := 78) (v := nI 0) hc dX3_lay_78 (by decide) ?_
            refine g_goto (pc := 79) hc 90 dX3_lay_79 (by decide) ?_
            refine sa_c25 (pc := 90) hc hA (i * wd + c) (rfl) (idx64 (by omega) (by omega) hwd2 hhg2) dX3_lay_90 ?_
            refine g_eq (ws' := cw E ad sc (va_up ar 25 (upd (layI (cel (sc 5) nW (ar 15) (ar 16) (ar 17) (ar 19) (ar 20) bl wd) wd i (layO (cel (sc 5) nW (ar 15) (ar 16) (ar 17) (ar 19) (ar 20) bl wd) wd (ar 25) i) (c)) (i * wd + c) (nI 0))) bl) (lv' := [(0, .ref (ad 6)), (1, .int (nI (i))), (2, .int (ctel nW (ar 17) (ar 19) (nI (i)))), (3, .int (oft (ar 15) (ar 16) (ar 17) (ar 19) nW (ctel nW (ar 17) (ar 19) (nI (i))))), (4, .int (nI (c))), (5, .int (nI ((i * wd) + c)))]) rfl rfl rfl ?_
            refine g_iinc (pc := 91) (v := nI (c + 1)) (lv' := [(0, .ref (ad 6)), (1, .int (nI (i))), (2, .int (ctel nW (ar 17) (ar 19) (nI (i)))), (3, .int (oft (ar 15) (ar 16) (ar 17) (ar 19) nW (ctel nW (ar 17) (ar 19) (nI (i))))), (4, .int (nI (c + 1))), (5, .int (nI ((i * wd) + c)))]) hc 4 dX3_lay_91 rfl (nI_ofi c 1) (by decide) rfl ?_
            refine g_goto (pc := 94) hc 34 dX3_lay_94 (by decide) ?_
            refine g_lv [0, 1, 2, 3, 4] (lv' := [(0, .ref (ad 6)), (1, .int (nI (i))), (2, .int (ctel nW (ar 17) (ar 19) (nI (i)))), (3, .int (oft (ar 15) (ar 16) (ar 17) (ar 19) nW (ctel nW (ar 17) (ar 19) (nI (i))))), (4, .int (nI (c + 1)))]) rfl ?_
            exact g_eq (ws' := cw E ad sc (va_up ar 25 (layI (cel (sc 5) nW (ar 15) (ar 16) (ar 17) (ar 19) (ar 20) bl wd) wd i (layO (cel (sc 5) nW (ar 15) (ar 16) (ar 17) (ar 19) (ar 20) bl wd) wd (ar 25) i) (c + 1))) bl) (lv' := [(0, .ref (ad 6)), (1, .int (nI (i))), (2, .int (ctel nW (ar 17) (ar 19) (nI (i)))), (3, .int (oft (ar 15) (ar 16) (ar 17) (ar 19) nW (ctel nW (ar 17) (ar 19) (nI (i))))), (4, .int (nI (c + 1)))]) (by show _ = cw E ad sc (va_up ar 25 (upd _ _ (cel _ _ _ _ _ _ _ _ _ _ _))) bl; unfold cel; first | rw [if_pos c3] | rw [if_neg (ne_true_of_eq_false c3)]) (rfl) rfl (ihc (c + 1) (by omega))
      exact g_eq (ws' := cw E ad sc (va_up ar 25 (layI (cel (sc 5) nW (ar 15) (ar 16) (ar 17) (ar 19) (ar 20) bl wd) wd i (layO (cel (sc 5) nW (ar 15) (ar 16) (ar 17) (ar 19) (ar 20) bl wd) wd (ar 25) i) (0))) bl) (lv' := [(0, .ref (ad 6)), (1, .int (nI (i))), (2, .int (ctel nW (ar 17) (ar 19) (nI (i)))), (3, .int (oft (ar 15) (ar 16) (ar 17) (ar 19) nW (ctel nW (ar 17) (ar 19) (nI (i))))), (4, .int (nI (0)))]) (rfl) (rfl) rfl (L34_2 (wd - 0) (0) (by omega))
  exact g_eq (ws' := cw E ad sc (va_up ar 25 (layO (cel (sc 5) nW (ar 15) (ar 16) (ar 17) (ar 19) (ar 20) bl wd) wd (ar 25) (0))) bl) (lv' := [(0, .ref (ad 6)), (1, .int (nI (0)))]) (rfl) (rfl) rfl (L2_1 (hg - 0) (0) (by omega))

theorem dX3_gatherWalked_0 : decode cX3_gatherWalked 0 = .ok (.iconst 0, 1) := by decide +kernel
theorem dX3_gatherWalked_1 : decode cX3_gatherWalked 1 = .ok (.istore_n 1, 1) := by decide +kernel
theorem dX3_gatherWalked_2 : decode cX3_gatherWalked 2 = .ok (.iconst 0, 1) := by decide +kernel
theorem dX3_gatherWalked_3 : decode cX3_gatherWalked 3 = .ok (.istore_n 2, 1) := by decide +kernel
theorem dX3_gatherWalked_4 : decode cX3_gatherWalked 4 = .ok (.iload_n 2, 1) := by decide +kernel
theorem dX3_gatherWalked_5 : decode cX3_gatherWalked 5 = .ok (.aload_n 0, 1) := by decide +kernel
theorem dX3_gatherWalked_6 : decode cX3_gatherWalked 6 = .ok (.getfield 18, 3) := by decide +kernel
theorem dX3_gatherWalked_9 : decode cX3_gatherWalked 9 = .ok (.invokevirtual 34, 3) := by decide +kernel
theorem dX3_gatherWalked_12 : decode cX3_gatherWalked 12 = .ok (.if_icmp .ge 60, 3) := by decide +kernel
theorem dX3_gatherWalked_15 : decode cX3_gatherWalked 15 = .ok (.aload_n 0, 1) := by decide +kernel
theorem dX3_gatherWalked_16 : decode cX3_gatherWalked 16 = .ok (.getfield 22, 3) := by decide +kernel
theorem dX3_gatherWalked_19 : decode cX3_gatherWalked 19 = .ok (.iload_n 2, 1) := by decide +kernel
theorem dX3_gatherWalked_20 : decode cX3_gatherWalked 20 = .ok (.invokevirtual 40, 3) := by decide +kernel
theorem dX3_gatherWalked_23 : decode cX3_gatherWalked 23 = .ok (.iconst (-1), 1) := by decide +kernel
theorem dX3_gatherWalked_24 : decode cX3_gatherWalked 24 = .ok (.if_icmp .eq 42, 3) := by decide +kernel
theorem dX3_gatherWalked_27 : decode cX3_gatherWalked 27 = .ok (.iconst 0, 1) := by decide +kernel
theorem dX3_gatherWalked_28 : decode cX3_gatherWalked 28 = .ok (.istore_n 3, 1) := by decide +kernel
theorem dX3_gatherWalked_29 : decode cX3_gatherWalked 29 = .ok (.iload_n 3, 1) := by decide +kernel
theorem dX3_gatherWalked_30 : decode cX3_gatherWalked 30 = .ok (.aload_n 0, 1) := by decide +kernel
theorem dX3_gatherWalked_31 : decode cX3_gatherWalked 31 = .ok (.getfield 18, 3) := by decide +kernel
theorem dX3_gatherWalked_34 : decode cX3_gatherWalked 34 = .ok (.invokevirtual 51, 3) := by decide +kernel
theorem dX3_gatherWalked_37 : decode cX3_gatherWalked 37 = .ok (.if_icmp .ge 29, 3) := by decide +kernel
theorem dX3_gatherWalked_40 : decode cX3_gatherWalked 40 = .ok (.aload_n 0, 1) := by decide +kernel
theorem dX3_gatherWalked_41 : decode cX3_gatherWalked 41 = .ok (.getfield 15, 3) := by decide +kernel
theorem dX3_gatherWalked_44 : decode cX3_gatherWalked 44 = .ok (.iload_n 1, 1) := by decide +kernel
theorem dX3_gatherWalked_45 : decode cX3_gatherWalked 45 = .ok (.iload_n 2, 1) := by decide +kernel
theorem dX3_gatherWalked_46 : decode cX3_gatherWalked 46 = .ok (.aload_n 0, 1) := by decide +kernel
theorem dX3_gatherWalked_47 : decode cX3_gatherWalked 47 = .ok (.getfield 18, 3) := by decide +kernel
theorem dX3_gatherWalked_50 : decode cX3_gatherWalked 50 = .ok (.invokevirtual 51, 3) := by decide +kernel
theorem dX3_gatherWalked_53 : decode cX3_gatherWalked 53 = .ok (.imul, 1) := by decide +kernel
theorem dX3_gatherWalked_54 : decode cX3_gatherWalked 54 = .ok (.iload_n 3, 1) := by decide +kernel
theorem dX3_gatherWalked_55 : decode cX3_gatherWalked 55 = .ok (.iadd, 1) := by decide +kernel
theorem dX3_gatherWalked_56 : decode cX3_gatherWalked 56 = .ok (.iastore, 1) := by decide +kernel
theorem dX3_gatherWalked_57 : decode cX3_gatherWalked 57 = .ok (.iinc 1 1, 3) := by decide +kernel
theorem dX3_gatherWalked_60 : decode cX3_gatherWalked 60 = .ok (.iinc 3 1, 3) := by decide +kernel
theorem dX3_gatherWalked_63 : decode cX3_gatherWalked 63 = .ok (.goto (-34), 3) := by decide +kernel
theorem dX3_gatherWalked_66 : decode cX3_gatherWalked 66 = .ok (.iinc 2 1, 3) := by decide +kernel
theorem dX3_gatherWalked_69 : decode cX3_gatherWalked 69 = .ok (.goto (-65), 3) := by decide +kernel
theorem dX3_gatherWalked_72 : decode cX3_gatherWalked 72 = .ok (.iload_n 1, 1) := by decide +kernel
theorem dX3_gatherWalked_73 : decode cX3_gatherWalked 73 = .ok (.ireturn, 1) := by decide +kernel

set_option maxHeartbeats 4000000 in
set_option maxRecDepth 100000 in
theorem c_X3_gatherWalked (l : Launch) (E : Ev) {A : Nat → Prop} (ad : Nat → Nat) (hA : Oka 39 ad A) (sc : Nat → Int32) (ar : Nat → Nat → Int32) (bl : Int64) {nW wd hg : Nat}  (hW : sc 5 = nI nW) (hW60 : nW ≤ 60) (hwd : sc 3 = nI wd) (hwd1 : 2 ≤ wd) (hwd2 : wd ≤ 8) (hhg : sc 4 = nI hg) (hhg1 : 2 ≤ hg) (hhg2 : hg ≤ 8) : Ct l E yX3_gatherWalked (.code yX3_gatherWalked cX3_gatherWalked 4 (some .int)) ({ frames := 4, cells := 0, slots := 0, locals := 90 }) A (cw E ad sc ar bl) [.ref (ad 6)] (some (.int (nI (gwO nW (ar 17) (ar 19) wd (ar 26) hg).1))) (cw E ad sc (va_up ar 26 (gwO nW (ar 17) (ar 19) wd (ar 26) hg).2) bl) := by
  refine Ct.of (lv := [(0, .ref (ad 6))]) (by decide +kernel) (Nat.le_of_ble_eq_true rfl) rfl ?_
  intro zp ze zs zm za zb zh zc hc
  refine g_iconst (pc := 0) (v := nI 0) hc dX3_gatherWalked_0 (by decide) ?_
  refine g_istore_n (pc := 1) (lv' := [(0, .ref (ad 6)), (1, .int (nI 0))]) hc dX3_gatherWalked_1 rfl (by decide) rfl ?_
  refine g_iconst (pc := 2) (v := nI 0) hc dX3_gatherWalked_2 (by decide) ?_
  refine g_istore_n (pc := 3) (lv' := [(0, .ref (ad 6)), (1, .int (nI 0)), (2, .int (nI 0))]) hc dX3_gatherWalked_3 rfl (by decide) rfl ?_
  have L4_1 : ∀ (ki i : Nat), i + ki = hg → G zp l ze ({ frames := 4, cells := 0, slots := 0, locals := 90 }) zs zm za zb zh zc 0 0 (MQ zb (Qz E A (some (.int (nI (gwO nW (ar 17) (ar 19) wd (ar 26) hg).1))) (cw E ad sc (va_up ar 26 (gwO nW (ar 17) (ar 19) wd (ar 26) hg).2) bl)) za zs 0 0 A) E A 4 (cw E ad sc (va_up ar 26 (gwO nW (ar 17) (ar 19) wd (ar 26) (i)).2) bl) (4) [(0, .ref (ad 6)), (1, .int (nI (gwO nW (ar 17) (ar 19) wd (ar 26) (i)).1)), (2, .int (nI (i)))] [] := by
    intro ki
    induction ki with
    | zero =>
      intro i lhi
      have lhin : hg = i := by omega
      subst lhin
      refine g_iload_n (pc := 4) hc 2 dX3_gatherWalked_4 rfl rfl ?_
      refine g_aload_n (pc := 5) hc 0 dX3_gatherWalked_5 rfl rfl ?_
      refine gf_c6_ground (pc := 6) hc tw_202 dX3_gatherWalked_6 ?_
      refine g_callVi (pc := 9) (rest := [.int (nI (hg))]) (As := []) hc (c_X2_rows l E ad hA sc (va_up ar 26 (gwO nW (ar 17) (ar 19) wd (ar 26) (hg)).2) bl  (hwd) (hwd1) (hwd2) (hhg) (hhg1) (hhg2)) mi_X2_rows tw_579 1 rfl rfl rfl rfl ⟨rfl, rfl, by decide, by decide⟩ (Nat.le_of_ble_eq_true rfl) ⟨Nat.le_refl _, Nat.le_refl _⟩ rfl dX3_gatherWalked_9 ?_
      refine g_topi (v := nI hg) rfl ?_
      refine g_icmp_ge_t (pc := 12) hc 72 dX3_gatherWalked_12 (by decide) (nI_le (by omega) (by omega)) ?_
      refine g_iload_n (pc := 72) hc 1 dX3_gatherWalked_72 rfl rfl ?_
      exact g_iret (pc := 73) hc dX3_gatherWalked_73 (rfl) (rfl)
    | succ ki ihi =>
      intro i lhi
      have lhin : i < hg := by omega
      refine g_iload_n (pc := 4) hc 2 dX3_gatherWalked_4 rfl rfl ?_
      refine g_aload_n (pc := 5) hc 0 dX3_gatherWalked_5 rfl rfl ?_
      refine gf_c6_ground (pc := 6) hc tw_202 dX3_gatherWalked_6 ?_
      refine g_callVi (pc := 9) (rest := [.int (nI (i))]) (As := []) hc (c_X2_rows l E ad hA sc (va_up ar 26 (gwO nW (ar 17) (ar 19) wd (ar 26) (i)).2) bl  (hwd) (hwd1) (hwd2) (hhg) (hhg1) (hhg2)) mi_X2_rows tw_579 1 rfl rfl rfl rfl ⟨rfl, rfl, by decide, by decide⟩ (Nat.le_of_ble_eq_true rfl) ⟨Nat.le_refl _, Nat.le_refl _⟩ rfl dX3_gatherWalked_9 ?_
      refine g_topi (v := nI hg) rfl ?_
      refine g_icmp_ge_f (pc := 12) hc 72 dX3_gatherWalked_12 (by decide) (nI_ge (by omega) (by omega)) ?_
      refine g_aload_n (pc := 15) hc 0 dX3_gatherWalked_15 rfl rfl ?_
      refine gf_c6_walks (pc := 16) hc tw_203 dX3_gatherWalked_16 ?_
      refine g_iload_n (pc := 19) hc 2 dX3_gatherWalked_19 rfl rfl ?_
      refine g_callVi (pc := 20) (rest := []) (As := [.int (nI (i))]) hc (c_X10_teller l E ad hA sc (va_up ar 26 (gwO nW (ar 17) (ar 19) wd (ar 26) (i)).2) bl (nI (i)) (hW) (hW60)) mi_X10_teller tw_580 3 rfl rfl rfl rfl ⟨rfl, rfl, by decide, by decide⟩ (Nat.le_of_ble_eq_true rfl) ⟨Nat.le_refl _, Nat.le_refl _⟩ rfl dX3_gatherWalked_20 ?_
      refine g_topi (v := ctel nW (ar 17) (ar 19) (nI (i))) rfl ?_
      refine g_iconst (pc := 23) (v := (-1)) hc dX3_gatherWalked_23 (by decide) ?_
      refine g_icmp_eq (pc := 24) hc 66 dX3_gatherWalked_24 (by decide) (fun c2 => ?_) (fun c2 => ?_)
      · refine g_iinc (pc := 66) (v := nI (i + 1)) (lv' := [(0, .ref (ad 6)), (1, .int (nI (gwO nW (ar 17) (ar 19) wd (ar 26) (i)).1)), (2, .int (nI (i + 1)))]) hc 2 dX3_gatherWalked_66 rfl (nI_ofi i 1) (by decide) rfl ?_
        refine g_goto (pc := 69) hc 4 dX3_gatherWalked_69 (by decide) ?_
        exact g_eq (ws' := cw E ad sc (va_up ar 26 (gwO nW (ar 17) (ar 19) wd (ar 26) (i + 1)).2) bl) (lv' := [(0, .ref (ad 6)), (1, .int (nI (gwO nW (ar 17) (ar 19) wd (ar 26) (i + 1)).1)), (2, .int (nI (i + 1)))]) (by rw [gwO_succ]; first | rw [if_pos c2] | rw [if_neg c2]) (by rw [gwO_succ]; first | rw [if_pos c2] | rw [if_neg c2]) rfl (ihi (i + 1) (by omega))
      · refine g_iconst (pc := 27) (v := nI 0) hc dX3_gatherWalked_27 (by decide) ?_
        refine g_istore_n (pc := 28) (lv' := [(0, .ref (ad 6)), (1, .int (nI (gwO nW (ar 17) (ar 19) wd (ar 26) (i)).1)), (2, .int (nI (i))), (3, .int (nI 0))]) hc dX3_gatherWalked_28 rfl (by decide) rfl ?_
        have L29_3 : ∀ (kc c : Nat), c + kc = wd → G zp l ze ({ frames := 4, cells := 0, slots := 0, locals := 90 }) zs zm za zb zh zc 0 0 (MQ zb (Qz E A (some (.int (nI (gwO nW (ar 17) (ar 19) wd (ar 26) hg).1))) (cw E ad sc (va_up ar 26 (gwO nW (ar 17) (ar 19) wd (ar 26) hg).2) bl)) za zs 0 0 A) E A 4 (cw E ad sc (va_up ar 26 (gwI wd i (gwO nW (ar 17) (ar 19) wd (ar 26) i) (c)).2) bl) (29) [(0, .ref (ad 6)), (1, .int (nI (gwI wd i (gwO nW (ar 17) (ar 19) wd (ar 26) i) (c)).1)), (2, .int (nI (i))), (3, .int (nI (c)))] [] := by
          intro kc
          induction kc with
          | zero =>
            intro c lhc
            have lhcn : wd = c := by omega
            subst lhcn
            refine g_iload_n (pc := 29) hc 3 dX3_gatherWalked_29 rfl rfl ?_
            refine g_aload_n (pc := 30) hc 0 dX3_gatherWalked_30 rfl rfl ?_
            refine gf_c6_ground (pc := 31) hc tw_202 dX3_gatherWalked_31 ?_
            refine g_callVi (pc := 34) (rest := [.int (nI (wd))]) (As := []) hc (c_X2_columns l E ad hA sc (va_up ar 26 (gwI wd i (gwO nW (ar 17) (ar 19) wd (ar 26) i) (wd)).2) bl  (hwd) (hwd1) (hwd2) (hhg) (hhg1) (hhg2)) mi_X2_columns tw_582 1 rfl rfl rfl rfl ⟨rfl, rfl, by decide, by decide⟩ (Nat.le_of_ble_eq_true rfl) ⟨Nat.le_refl _, Nat.le_refl _⟩ rfl dX3_gatherWalked_34 ?_
            refine g_topi (v := nI wd) rfl ?_
            refine g_icmp_ge_t (pc := 37) hc 66 dX3_gatherWalked_37 (by decide) (nI_le (by omega) (by omega)) ?_
            refine g_iinc (pc := 66) (v := nI (i + 1)) (lv' := [(0, .ref (ad 6)), (1, .int (nI (gwI wd i (gwO nW (ar 17) (ar 19) wd (ar 26) i) (wd)).1)), (2, .int (nI (i + 1))), (3, .int (nI (wd)))]) hc 2 dX3_gatherWalked_66 rfl (nI_ofi i 1) (by decide) rfl ?_
            refine g_goto (pc := 69) hc 4 dX3_gatherWalked_69 (by decide) ?_
            refine g_lv [0, 1, 2] (lv' := [(0, .ref (ad 6)), (1, .int (nI (gwI wd i (gwO nW (ar 17) (ar 19) wd (ar 26) i) (wd)).1)), (2, .int (nI (i + 1)))]) rfl ?_
            exact g_eq (ws' := cw E ad sc (va_up ar 26 (gwO nW (ar 17) (ar 19) wd (ar 26) (i + 1)).2) bl) (lv' := [(0, .ref (ad 6)), (1, .int (nI (gwO nW (ar 17) (ar 19) wd (ar 26) (i + 1)).1)), (2, .int (nI (i + 1)))]) (by rw [gwO_succ]; first | rw [if_pos c2] | rw [if_neg c2]) (by rw [gwO_succ]; first | rw [if_pos c2] | rw [if_neg c2]) rfl (ihi (i + 1) (by omega))
          | succ kc ihc =>
            intro c lhc
            have lhcn : c < wd := by omega
            refine g_iload_n (pc := 29) hc 3 dX3_gatherWalked_29 rfl rfl ?_
            refine g_aload_n (pc := 30) hc 0 dX3_gatherWalked_30 rfl rfl ?_
            refine gf_c6_ground (pc := 31) hc tw_202 dX3_gatherWalked_31 ?_
            refine g_callVi (pc := 34) (rest := [.int (nI (c))]) (As := []) hc (c_X2_columns l E ad hA sc (va_up ar 26 (gwI wd i (gwO nW (ar 17) (ar 19) wd (ar 26) i) (c)).2) bl  (hwd) (hwd1) (hwd2) (hhg) (hhg1) (hhg2)) mi_X2_columns tw_582 1 rfl rfl rfl rfl ⟨rfl, rfl, by decide, by decide⟩ (Nat.le_of_ble_eq_true rfl) ⟨Nat.le_refl _, Nat.le_refl _⟩ rfl dX3_gatherWalked_34 ?_
            refine g_topi (v := nI wd) rfl ?_
            refine g_icmp_ge_f (pc := 37) hc 66 dX3_gatherWalked_37 (by decide) (nI_ge (by omega) (by omega)) ?_
            refine g_aload_n (pc := 40) hc 0 dX3_gatherWalked_40 rfl rfl ?_
            refine gf_c6_walked (pc := 41) hc tw_207 dX3_gatherWalked_41 ?_
            refine g_iload_n (pc := 44) hc 1 dX3_gatherWalked_44 rfl rfl ?_
            refine g_iload_n (pc := 45) hc 2 dX3_gatherWalked_45 rfl rfl ?_
            refine g_aload_n (pc := 46) hc 0 dX3_gatherWalked_46 rfl rfl ?_
            refine gf_c6_ground (pc := 47) hc tw_202 dX3_gatherWalked_47 ?_
            refine g_callVi (pc := 50) (rest := [.int (nI (i)), .int (nI (gwI wd i (gwO nW (ar 17) (ar 19) wd (ar 26) i) (c)).1), .ref (ad 26)]) (As := []) hc (c_X2_columns l E ad hA sc (va_up ar 26 (gwI wd i (gwO nW (ar 17) (ar 19) wd (ar 26) i) (c)).2) bl  (hwd) (hwd1) (hwd2) (hhg) (hhg1) (hhg2)) mi_X2_columns tw_582 1 rfl rfl rfl rfl ⟨rfl, rfl, by decide, by decide⟩ (Nat.le_of_ble_eq_true rfl) ⟨Nat.le_refl _, Nat.le_refl _⟩ rfl dX3_gatherWalked_50 ?_
            refine g_topi (v := nI wd) rfl ?_
            refine g_imul (pc := 53) hc dX3_gatherWalked_53 ?_
            refine g_topi (v := nI (i * wd)) (pk_mul i wd) ?_
            refine g_iload_n (pc := 54) hc 3 dX3_gatherWalked_54 rfl rfl ?_
            refine g_iadd (pc := 55) hc dX3_gatherWalked_55 ?_
            refine g_topi (v := nI ((i * wd) + c)) (nI_add (i * wd) c) ?_
            refine sa_c26 (pc := 56) hc hA ((gwI wd i (gwO nW (ar 17) (ar 19) wd (ar 26) i) c).1) (rfl) (gw_lt (by omega) (by omega) hwd2 hhg2) dX3_gatherWalked_56 ?_
            refine g_eq (ws' := cw E ad sc (va_up ar 26 (upd (gwI wd i (gwO nW (ar 17) (ar 19) wd (ar 26) i) (c)).2 (gwI wd i (gwO nW (ar 17) (ar 19) wd (ar 26) i) c).1 (nI ((i * wd) + c)))) bl) (lv' := [(0, .ref (ad 6)), (1, .int (nI (gwI wd i (gwO nW (ar 17) (ar 19) wd (ar 26) i) (c)).1)), (2, .int (nI (i))), (3, .int (nI (c)))]) rfl rfl rfl ?_
            refine g_iinc (pc := 57) (v := nI ((gwI wd i (gwO nW (ar 17) (ar 19) wd (ar 26) i) (c)).1 + 1)) (lv' := [(0, .ref (ad 6)), (1, .int (nI ((gwI wd i (gwO nW (ar 17) (ar 19) wd (ar 26) i) (c)).1 + 1))), (2, .int (nI (i))), (3, .int (nI (c)))]) hc 1 dX3_gatherWalked_57 rfl (nI_ofi (gwI wd i (gwO nW (ar 17) (ar 19) wd (ar 26) i) (c)).1 1) (by decide) rfl ?_
            refine g_iinc (pc := 60) (v := nI (c + 1)) (lv' := [(0, .ref (ad 6)), (1, .int (nI ((gwI wd i (gwO nW (ar 17) (ar 19) wd (ar 26) i) (c)).1 + 1))), (2, .int (nI (i))), (3, .int (nI (c + 1)))]) hc 3 dX3_gatherWalked_60 rfl (nI_ofi c 1) (by decide) rfl ?_
            refine g_goto (pc := 63) hc 29 dX3_gatherWalked_63 (by decide) ?_
            exact g_eq (ws' := cw E ad sc (va_up ar 26 (gwI wd i (gwO nW (ar 17) (ar 19) wd (ar 26) i) (c + 1)).2) bl) (lv' := [(0, .ref (ad 6)), (1, .int (nI (gwI wd i (gwO nW (ar 17) (ar 19) wd (ar 26) i) (c + 1)).1)), (2, .int (nI (i))), (3, .int (nI (c + 1)))]) (rfl) (rfl) rfl (ihc (c + 1) (by omega))
        exact g_eq (ws' := cw E ad sc (va_up ar 26 (gwI wd i (gwO nW (ar 17) (ar 19) wd (ar 26) i) (0)).2) bl) (lv' := [(0, .ref (ad 6)), (1, .int (nI (gwI wd i (gwO nW (ar 17) (ar 19) wd (ar 26) i) (0)).1)), (2, .int (nI (i))), (3, .int (nI (0)))]) (rfl) (rfl) rfl (L29_3 (wd - 0) (0) (by omega))
  exact g_eq (ws' := cw E ad sc (va_up ar 26 (gwO nW (ar 17) (ar 19) wd (ar 26) (0)).2) bl) (lv' := [(0, .ref (ad 6)), (1, .int (nI (gwO nW (ar 17) (ar 19) wd (ar 26) (0)).1)), (2, .int (nI (0)))]) (rfl) (rfl) rfl (L4_1 (hg - 0) (0) (by omega))

theorem dX3_shuffle_0 : decode cX3_shuffle 0 = .ok (.iload_n 2, 1) := by decide +kernel
theorem dX3_shuffle_1 : decode cX3_shuffle 1 = .ok (.istore_n 3, 1) := by decide +kernel
theorem dX3_shuffle_2 : decode cX3_shuffle 2 = .ok (.iload_n 1, 1) := by decide +kernel
theorem dX3_shuffle_3 : decode cX3_shuffle 3 = .ok (.iconst 1, 1) := by decide +kernel
theorem dX3_shuffle_4 : decode cX3_shuffle 4 = .ok (.isub, 1) := by decide +kernel
theorem dX3_shuffle_5 : decode cX3_shuffle 5 = .ok (.istore 4, 2) := by decide +kernel
theorem dX3_shuffle_7 : decode cX3_shuffle 7 = .ok (.iload 4, 2) := by decide +kernel
theorem dX3_shuffle_9 : decode cX3_shuffle 9 = .ok (.ifCond .le 75, 3) := by decide +kernel
theorem dX3_shuffle_12 : decode cX3_shuffle 12 = .ok (.iload_n 3, 1) := by decide +kernel
theorem dX3_shuffle_13 : decode cX3_shuffle 13 = .ok (.ldc 94, 2) := by decide +kernel
theorem dX3_shuffle_15 : decode cX3_shuffle 15 = .ok (.imul, 1) := by decide +kernel
theorem dX3_shuffle_16 : decode cX3_shuffle 16 = .ok (.sipush 12345, 3) := by decide +kernel
theorem dX3_shuffle_19 : decode cX3_shuffle 19 = .ok (.iadd, 1) := by decide +kernel
theorem dX3_shuffle_20 : decode cX3_shuffle 20 = .ok (.istore_n 3, 1) := by decide +kernel
theorem dX3_shuffle_21 : decode cX3_shuffle 21 = .ok (.aload_n 0, 1) := by decide +kernel
theorem dX3_shuffle_22 : decode cX3_shuffle 22 = .ok (.getfield 15, 3) := by decide +kernel
theorem dX3_shuffle_25 : decode cX3_shuffle 25 = .ok (.iload 4, 2) := by decide +kernel
theorem dX3_shuffle_27 : decode cX3_shuffle 27 = .ok (.iaload, 1) := by decide +kernel
theorem dX3_shuffle_28 : decode cX3_shuffle 28 = .ok (.istore 5, 2) := by decide +kernel
theorem dX3_shuffle_30 : decode cX3_shuffle 30 = .ok (.aload_n 0, 1) := by decide +kernel
theorem dX3_shuffle_31 : decode cX3_shuffle 31 = .ok (.getfield 15, 3) := by decide +kernel
theorem dX3_shuffle_34 : decode cX3_shuffle 34 = .ok (.iload_n 3, 1) := by decide +kernel
theorem dX3_shuffle_35 : decode cX3_shuffle 35 = .ok (.bipush 8, 2) := by decide +kernel
theorem dX3_shuffle_37 : decode cX3_shuffle 37 = .ok (.iushr, 1) := by decide +kernel
theorem dX3_shuffle_38 : decode cX3_shuffle 38 = .ok (.iload 4, 2) := by decide +kernel
theorem dX3_shuffle_40 : decode cX3_shuffle 40 = .ok (.iconst 1, 1) := by decide +kernel
theorem dX3_shuffle_41 : decode cX3_shuffle 41 = .ok (.iadd, 1) := by decide +kernel
theorem dX3_shuffle_42 : decode cX3_shuffle 42 = .ok (.irem, 1) := by decide +kernel
theorem dX3_shuffle_43 : decode cX3_shuffle 43 = .ok (.iaload, 1) := by decide +kernel
theorem dX3_shuffle_44 : decode cX3_shuffle 44 = .ok (.istore 6, 2) := by decide +kernel
theorem dX3_shuffle_46 : decode cX3_shuffle 46 = .ok (.aload_n 0, 1) := by decide +kernel
theorem dX3_shuffle_47 : decode cX3_shuffle 47 = .ok (.getfield 9, 3) := by decide +kernel
theorem dX3_shuffle_50 : decode cX3_shuffle 50 = .ok (.iload 5, 2) := by decide +kernel
theorem dX3_shuffle_52 : decode cX3_shuffle 52 = .ok (.iaload, 1) := by decide +kernel
theorem dX3_shuffle_53 : decode cX3_shuffle 53 = .ok (.istore 7, 2) := by decide +kernel
theorem dX3_shuffle_55 : decode cX3_shuffle 55 = .ok (.aload_n 0, 1) := by decide +kernel
theorem dX3_shuffle_56 : decode cX3_shuffle 56 = .ok (.getfield 9, 3) := by decide +kernel
theorem dX3_shuffle_59 : decode cX3_shuffle 59 = .ok (.iload 5, 2) := by decide +kernel
theorem dX3_shuffle_61 : decode cX3_shuffle 61 = .ok (.aload_n 0, 1) := by decide +kernel
theorem dX3_shuffle_62 : decode cX3_shuffle 62 = .ok (.getfield 9, 3) := by decide +kernel
theorem dX3_shuffle_65 : decode cX3_shuffle 65 = .ok (.iload 6, 2) := by decide +kernel
theorem dX3_shuffle_67 : decode cX3_shuffle 67 = .ok (.iaload, 1) := by decide +kernel
theorem dX3_shuffle_68 : decode cX3_shuffle 68 = .ok (.iastore, 1) := by decide +kernel
theorem dX3_shuffle_69 : decode cX3_shuffle 69 = .ok (.aload_n 0, 1) := by decide +kernel
theorem dX3_shuffle_70 : decode cX3_shuffle 70 = .ok (.getfield 9, 3) := by decide +kernel
theorem dX3_shuffle_73 : decode cX3_shuffle 73 = .ok (.iload 6, 2) := by decide +kernel
theorem dX3_shuffle_75 : decode cX3_shuffle 75 = .ok (.iload 7, 2) := by decide +kernel
theorem dX3_shuffle_77 : decode cX3_shuffle 77 = .ok (.iastore, 1) := by decide +kernel
theorem dX3_shuffle_78 : decode cX3_shuffle 78 = .ok (.iinc 4 (-1), 3) := by decide +kernel
theorem dX3_shuffle_81 : decode cX3_shuffle 81 = .ok (.goto (-74), 3) := by decide +kernel
theorem dX3_shuffle_84 : decode cX3_shuffle 84 = .ok (.iload_n 3, 1) := by decide +kernel
theorem dX3_shuffle_85 : decode cX3_shuffle 85 = .ok (.ireturn, 1) := by decide +kernel

set_option maxHeartbeats 4000000 in
set_option maxRecDepth 100000 in
theorem c_X3_shuffle0 (l : Launch) (E : Ev) {A : Nat → Prop} (ad : Nat → Nat) (hA : Oka 39 ad A) (sc : Nat → Int32) (ar : Nat → Nat → Int32) (bl : Int64) (x : Int32) : Ct l E yX3_shuffle (.code yX3_shuffle cX3_shuffle 8 (some .int)) ({ frames := 0, cells := 0, slots := 0, locals := 0 }) A (cw E ad sc ar bl) [.ref (ad 6), .int (nI 0), .int x] (some (.int x)) (cw E ad sc ar bl) := by
  refine Ct.of (lv := [(0, .ref (ad 6)), (1, .int (nI 0)), (2, .int x)]) (by decide +kernel) (Nat.le_of_ble_eq_true rfl) rfl ?_
  intro zp ze zs zm za zb zh zc hc
  refine g_iload_n (pc := 0) hc 2 dX3_shuffle_0 rfl rfl ?_
  refine g_istore_n (pc := 1) (lv' := [(0, .ref (ad 6)), (1, .int (nI 0)), (2, .int x), (3, .int x)]) hc dX3_shuffle_1 rfl (by decide) rfl ?_
  refine g_iload_n (pc := 2) hc 1 dX3_shuffle_2 rfl rfl ?_
  refine g_iconst (pc := 3) (v := nI 1) hc dX3_shuffle_3 (by decide) ?_
  refine g_isub (pc := 4) hc dX3_shuffle_4 ?_
  refine g_istore (pc := 5) (lv' := [(0, .ref (ad 6)), (1, .int (nI 0)), (2, .int x), (3, .int x), (4, .int ((nI 0) - (nI 1)))]) hc dX3_shuffle_5 (by decide) rfl ?_
  refine g_iload (pc := 7) hc 4 dX3_shuffle_7 rfl ?_
  refine g_if_le_t (pc := 9) hc 84 dX3_shuffle_9 (by decide) (by decide) ?_
  refine g_iload_n (pc := 84) hc 3 dX3_shuffle_84 rfl rfl ?_
  exact g_iret (pc := 85) hc dX3_shuffle_85 (rfl) (rfl)

set_option maxHeartbeats 4000000 in
set_option maxRecDepth 100000 in
theorem c_X3_shuffle1 (l : Launch) (E : Ev) {A : Nat → Prop} (ad : Nat → Nat) (hA : Oka 39 ad A) (sc : Nat → Int32) (ar : Nat → Nat → Int32) (bl : Int64) (n : Nat) (x : Int32) (hk : ∀ a, a < n + 1 → ∃ q, q < 64 ∧ ar 26 a = nI q) (hn : n < 64) : Ct l E yX3_shuffle (.code yX3_shuffle cX3_shuffle 8 (some .int)) ({ frames := 0, cells := 0, slots := 0, locals := 0 }) A (cw E ad sc ar bl) [.ref (ad 6), .int (nI (n + 1)), .int x] (some (.int (shs (ar 26) n x (ar 25) n).1)) (cw E ad sc (va_up ar 25 (shs (ar 26) n x (ar 25) n).2) bl) := by
  refine Ct.of (lv := [(0, .ref (ad 6)), (1, .int (nI (n + 1))), (2, .int x)]) (by decide +kernel) (Nat.le_of_ble_eq_true rfl) rfl ?_
  intro zp ze zs zm za zb zh zc hc
  refine g_iload_n (pc := 0) hc 2 dX3_shuffle_0 rfl rfl ?_
  refine g_istore_n (pc := 1) (lv' := [(0, .ref (ad 6)), (1, .int (nI (n + 1))), (2, .int x), (3, .int x)]) hc dX3_shuffle_1 rfl (by decide) rfl ?_
  refine g_iload_n (pc := 2) hc 1 dX3_shuffle_2 rfl rfl ?_
  refine g_iconst (pc := 3) (v := nI 1) hc dX3_shuffle_3 (by decide) ?_
  refine g_isub (pc := 4) hc dX3_shuffle_4 ?_
  refine g_topi (v := nI n) (by rw [nI1e, nI_pred]) ?_
  refine g_istore (pc := 5) (lv' := [(0, .ref (ad 6)), (1, .int (nI (n + 1))), (2, .int x), (3, .int x), (4, .int (nI n))]) hc dX3_shuffle_5 (by decide) rfl ?_
  have L7_1 : ∀ (kt t : Nat), t + kt = n → G zp l ze ({ frames := 0, cells := 0, slots := 0, locals := 0 }) zs zm za zb zh zc 0 0 (MQ zb (Qz E A (some (.int (shs (ar 26) n x (ar 25) n).1)) (cw E ad sc (va_up ar 25 (shs (ar 26) n x (ar 25) n).2) bl)) za zs 0 0 A) E A 8 (cw E ad sc (va_up ar 25 (shs (ar 26) n x (ar 25) (t)).2) bl) (7) [(0, .ref (ad 6)), (1, .int (nI (n + 1))), (2, .int x), (3, .int (shs (ar 26) n x (ar 25) (t)).1), (4, .int (nI (n - (t))))] [] := by
    intro kt
    induction kt with
    | zero =>
      intro t lht
      have lhtn : n = t := by omega
      subst lhtn
      refine g_iload (pc := 7) hc 4 dX3_shuffle_7 rfl ?_
      refine g_if_le_t (pc := 9) hc 84 dX3_shuffle_9 (by decide) (by rw [Nat.sub_self]; decide) ?_
      refine g_iload_n (pc := 84) hc 3 dX3_shuffle_84 rfl rfl ?_
      exact g_iret (pc := 85) hc dX3_shuffle_85 (rfl) (rfl)
    | succ kt iht =>
      intro t lht
      have lhtn : t < n := by omega
      refine g_iload (pc := 7) hc 4 dX3_shuffle_7 rfl ?_
      refine g_if_le_f (pc := 9) hc 84 dX3_shuffle_9 (by decide) (nI_nle (by omega) (by omega)) ?_
      refine g_iload_n (pc := 12) hc 3 dX3_shuffle_12 rfl rfl ?_
      refine g_ldc (pc := 13) (v := 1103515245) hc tw_645 dX3_shuffle_13 ?_
      refine g_imul (pc := 15) hc dX3_shuffle_15 ?_
      refine g_sipush (pc := 16) (v := nI 12345) hc dX3_shuffle_16 (by decide) ?_
      refine g_iadd (pc := 19) hc dX3_shuffle_19 ?_
      refine g_istore_n (pc := 20) (lv' := [(0, .ref (ad 6)), (1, .int (nI (n + 1))), (2, .int x), (3, .int (((shs (ar 26) n x (ar 25) (t)).1 * 1103515245) + (nI 12345))), (4, .int (nI (n - (t))))]) hc dX3_shuffle_20 rfl (by decide) rfl ?_
      refine g_aload_n (pc := 21) hc 0 dX3_shuffle_21 rfl rfl ?_
      refine gf_c6_walked (pc := 22) hc tw_207 dX3_shuffle_22 ?_
      refine g_iload (pc := 25) hc 4 dX3_shuffle_25 rfl ?_
      refine la_c26 (pc := 27) hc (n - t) (rfl) (by omega) dX3_shuffle_27 ?_
      refine g_topi (v := (ar 26) (n - t)) rfl ?_
      refine g_topi (v := nI ((ar 26 (n - t)).toNatClampNeg)) ((tn_of (hk _ (by omega))).1) ?_
      refine g_istore (pc := 28) (lv' := [(0, .ref (ad 6)), (1, .int (nI (n + 1))), (2, .int x), (3, .int (((shs (ar 26) n x (ar 25) (t)).1 * 1103515245) + (nI 12345))), (4, .int (nI (n - (t)))), (5, .int (nI ((ar 26 (n - t)).toNatClampNeg)))]) hc dX3_shuffle_28 (by decide) rfl ?_
      refine g_aload_n (pc := 30) hc 0 dX3_shuffle_30 rfl rfl ?_
      refine gf_c6_walked (pc := 31) hc tw_207 dX3_shuffle_31 ?_
      refine g_iload_n (pc := 34) hc 3 dX3_shuffle_34 rfl rfl ?_
      refine g_bipush (pc := 35) (v := nI 8) hc dX3_shuffle_35 (by decide) ?_
      refine g_iushr (pc := 37) (v := ((((shs (ar 26) n x (ar 25) (t)).1 * 1103515245) + (nI 12345) : Int32).toUInt32 >>> ((nI 8 : Int32).toUInt32 &&& Int32.toUInt32 31)).toInt32) hc dX3_shuffle_37 rfl ?_
      refine g_topi (v := nI (shX ((shs (ar 26) n x (ar 25) t).1 * 1103515245 + nI 12345))) (sh_u _) ?_
      refine g_iload (pc := 38) hc 4 dX3_shuffle_38 rfl ?_
      refine g_iconst (pc := 40) (v := nI 1) hc dX3_shuffle_40 (by decide) ?_
      refine g_iadd (pc := 41) hc dX3_shuffle_41 ?_
      refine g_topi (v := nI ((n - (t)) + 1)) (nI_add (n - (t)) 1) ?_
      refine g_irem (pc := 42) hc dX3_shuffle_42 (nI_ne0 (by omega) (by omega)) ?_
      refine g_topi (v := nI (shX ((shs (ar 26) n x (ar 25) t).1 * 1103515245 + nI 12345) % (n - t + 1))) (pk_rem (Nat.lt_trans (shX_lt _) (by decide)) (by omega) (by omega)) ?_
      have hmod : shX ((shs (ar 26) n x (ar 25) t).1 * 1103515245 + nI 12345) % (n - t + 1) < n - t + 1 := Nat.mod_lt _ (by omega)
      refine la_c26 (pc := 43) hc (shX ((shs (ar 26) n x (ar 25) t).1 * 1103515245 + nI 12345) % (n - t + 1)) (rfl) (by omega) dX3_shuffle_43 ?_
      refine g_topi (v := (ar 26) (shX ((shs (ar 26) n x (ar 25) t).1 * 1103515245 + nI 12345) % (n - t + 1))) rfl ?_
      refine g_topi (v := nI ((ar 26 (shX ((shs (ar 26) n x (ar 25) t).1 * 1103515245 + nI 12345) % (n - t + 1))).toNatClampNeg)) ((tn_of (hk _ (by omega))).1) ?_
      refine g_istore (pc := 44) (lv' := [(0, .ref (ad 6)), (1, .int (nI (n + 1))), (2, .int x), (3, .int (((shs (ar 26) n x (ar 25) (t)).1 * 1103515245) + (nI 12345))), (4, .int (nI (n - (t)))), (5, .int (nI ((ar 26 (n - t)).toNatClampNeg))), (6, .int (nI ((ar 26 (shX ((shs (ar 26) n x (ar 25) t).1 * 1103515245 + nI 12345) % (n - t + 1))).toNatClampNeg)))]) hc dX3_shuffle_44 (by decide) rfl ?_
      refine g_aload_n (pc := 46) hc 0 dX3_shuffle_46 rfl rfl ?_
      refine gf_c6_worths (pc := 47) hc tw_206 dX3_shuffle_47 ?_
      refine g_iload (pc := 50) hc 5 dX3_shuffle_50 rfl ?_
      refine la_c25 (pc := 52) hc ((ar 26 (n - t)).toNatClampNeg) (rfl) ((tn_of (hk _ (by omega))).2) dX3_shuffle_52 ?_
      refine g_topi (v := (shs (ar 26) n x (ar 25) (t)).2 (ar 26 (n - t)).toNatClampNeg) rfl ?_
      refine g_istore (pc := 53) (lv' := [(0, .ref (ad 6)), (1, .int (nI (n + 1))), (2, .int x), (3, .int (((shs (ar 26) n x (ar 25) (t)).1 * 1103515245) + (nI 12345))), (4, .int (nI (n - (t)))), (5, .int (nI ((ar 26 (n - t)).toNatClampNeg))), (6, .int (nI ((ar 26 (shX ((shs (ar 26) n x (ar 25) t).1 * 1103515245 + nI 12345) % (n - t + 1))).toNatClampNeg))), (7, .int ((shs (ar 26) n x (ar 25) (t)).2 (ar 26 (n - t)).toNatClampNeg))]) hc dX3_shuffle_53 (by decide) rfl ?_
      refine g_aload_n (pc := 55) hc 0 dX3_shuffle_55 rfl rfl ?_
      refine gf_c6_worths (pc := 56) hc tw_206 dX3_shuffle_56 ?_
      refine g_iload (pc := 59) hc 5 dX3_shuffle_59 rfl ?_
      refine g_aload_n (pc := 61) hc 0 dX3_shuffle_61 rfl rfl ?_
      refine gf_c6_worths (pc := 62) hc tw_206 dX3_shuffle_62 ?_
      refine g_iload (pc := 65) hc 6 dX3_shuffle_65 rfl ?_
      refine la_c25 (pc := 67) hc ((ar 26 (shX ((shs (ar 26) n x (ar 25) t).1 * 1103515245 + nI 12345) % (n - t + 1))).toNatClampNeg) (rfl) ((tn_of (hk _ (by omega))).2) dX3_shuffle_67 ?_
      refine g_topi (v := (shs (ar 26) n x (ar 25) (t)).2 (ar 26 (shX ((shs (ar 26) n x (ar 25) t).1 * 1103515245 + nI 12345) % (n - t + 1))).toNatClampNeg) rfl ?_
      refine sa_c25 (pc := 68) hc hA ((ar 26 (n - t)).toNatClampNeg) (rfl) ((tn_of (hk _ (by omega))).2) dX3_shuffle_68 ?_
      refine g_eq (ws' := cw E ad sc (va_up ar 25 (upd (shs (ar 26) n x (ar 25) (t)).2 (ar 26 (n - t)).toNatClampNeg ((shs (ar 26) n x (ar 25) (t)).2 (ar 26 (shX ((shs (ar 26) n x (ar 25) t).1 * 1103515245 + nI 12345) % (n - t + 1))).toNatClampNeg))) bl) (lv' := [(0, .ref (ad 6)), (1, .int (nI (n + 1))), (2, .int x), (3, .int (((shs (ar 26) n x (ar 25) (t)).1 * 1103515245) + (nI 12345))), (4, .int (nI (n - (t)))), (5, .int (nI ((ar 26 (n - t)).toNatClampNeg))), (6, .int (nI ((ar 26 (shX ((shs (ar 26) n x (ar 25) t).1 * 1103515245 + nI 12345) % (n - t + 1))).toNatClampNeg))), (7, .int ((shs (ar 26) n x (ar 25) (t)).2 (ar 26 (n - t)).toNatClampNeg))]) rfl rfl rfl ?_
      refine g_aload_n (pc := 69) hc 0 dX3_shuffle_69 rfl rfl ?_
      refine gf_c6_worths (pc := 70) hc tw_206 dX3_shuffle_70 ?_
      refine g_iload (pc := 73) hc 6 dX3_shuffle_73 rfl ?_
      refine g_iload (pc := 75) hc 7 dX3_shuffle_75 rfl ?_
      refine sa_c25 (pc := 77) hc hA ((ar 26 (shX ((shs (ar 26) n x (ar 25) t).1 * 1103515245 + nI 12345) % (n - t + 1))).toNatClampNeg) (rfl) ((tn_of (hk _ (by omega))).2) dX3_shuffle_77 ?_
      refine g_eq (ws' := cw E ad sc (va_up ar 25 (upd (upd (shs (ar 26) n x (ar 25) (t)).2 (ar 26 (n - t)).toNatClampNeg ((shs (ar 26) n x (ar 25) (t)).2 (ar 26 (shX ((shs (ar 26) n x (ar 25) t).1 * 1103515245 + nI 12345) % (n - t + 1))).toNatClampNeg)) (ar 26 (shX ((shs (ar 26) n x (ar 25) t).1 * 1103515245 + nI 12345) % (n - t + 1))).toNatClampNeg ((shs (ar 26) n x (ar 25) (t)).2 (ar 26 (n - t)).toNatClampNeg))) bl) (lv' := [(0, .ref (ad 6)), (1, .int (nI (n + 1))), (2, .int x), (3, .int (((shs (ar 26) n x (ar 25) (t)).1 * 1103515245) + (nI 12345))), (4, .int (nI (n - (t)))), (5, .int (nI ((ar 26 (n - t)).toNatClampNeg))), (6, .int (nI ((ar 26 (shX ((shs (ar 26) n x (ar 25) t).1 * 1103515245 + nI 12345) % (n - t + 1))).toNatClampNeg))), (7, .int ((shs (ar 26) n x (ar 25) (t)).2 (ar 26 (n - t)).toNatClampNeg))]) rfl rfl rfl ?_
      refine g_iinc (pc := 78) (v := nI (n - (t) - 1)) (lv' := [(0, .ref (ad 6)), (1, .int (nI (n + 1))), (2, .int x), (3, .int (((shs (ar 26) n x (ar 25) (t)).1 * 1103515245) + (nI 12345))), (4, .int (nI (n - (t) - 1))), (5, .int (nI ((ar 26 (n - t)).toNatClampNeg))), (6, .int (nI ((ar 26 (shX ((shs (ar 26) n x (ar 25) t).1 * 1103515245 + nI 12345) % (n - t + 1))).toNatClampNeg))), (7, .int ((shs (ar 26) n x (ar 25) (t)).2 (ar 26 (n - t)).toNatClampNeg))]) hc 4 dX3_shuffle_78 rfl (nI_di (by omega)) (by decide) rfl ?_
      refine g_goto (pc := 81) hc 7 dX3_shuffle_81 (by decide) ?_
      refine g_lv [0, 1, 2, 3, 4] (lv' := [(0, .ref (ad 6)), (1, .int (nI (n + 1))), (2, .int x), (3, .int (((shs (ar 26) n x (ar 25) (t)).1 * 1103515245) + (nI 12345))), (4, .int (nI (n - (t) - 1)))]) rfl ?_
      exact g_eq (ws' := cw E ad sc (va_up ar 25 (shs (ar 26) n x (ar 25) (t + 1)).2) bl) (lv' := [(0, .ref (ad 6)), (1, .int (nI (n + 1))), (2, .int x), (3, .int (shs (ar 26) n x (ar 25) (t + 1)).1), (4, .int (nI (n - (t + 1))))]) (rfl) (rfl) rfl (iht (t + 1) (by omega))
  exact g_eq (ws' := cw E ad sc (va_up ar 25 (shs (ar 26) n x (ar 25) (0)).2) bl) (lv' := [(0, .ref (ad 6)), (1, .int (nI (n + 1))), (2, .int x), (3, .int (shs (ar 26) n x (ar 25) (0)).1), (4, .int (nI (n - (0))))]) (rfl) (rfl) rfl (L7_1 (n - 0) (0) (by omega))

set_option maxHeartbeats 4000000 in
theorem c_shuf (l : Launch) (E : Ev) {A : Nat → Prop} (ad : Nat → Nat) (hA : Oka 39 ad A) (sc : Nat → Int32) (ar : Nat → Nat → Int32) (bl : Int64) (n : Nat) (x : Int32) (hk : ∀ a, a < n → ∃ q, q < 64 ∧ ar 26 a = nI q) (hn : n ≤ 64) : Ct l E yX3_shuffle (.code yX3_shuffle cX3_shuffle 8 (some .int)) ({ frames := 0, cells := 0, slots := 0, locals := 0 }) A (cw E ad sc ar bl) [.ref (ad 6), .int (nI n), .int x] (some (.int (shf (ar 26) n x (ar 25)).1)) (cw E ad sc (va_up ar 25 (shf (ar 26) n x (ar 25)).2) bl) := by
  cases n with
  | zero => exact c_X3_shuffle0 l E ad hA sc ar bl x
  | succ n => exact c_X3_shuffle1 l E ad hA sc ar bl n x hk (by omega)
