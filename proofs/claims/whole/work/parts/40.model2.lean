theorem if2_f {α : Type} {a b : Prop} [Decidable a] [Decidable b] {x y : α} (hb : ¬ b) : (if a then (if b then x else y) else y) = y := by
  by_cases h : a
  · rw [if_pos h, if_neg hb]
  · rw [if_neg h]
theorem not_none {p : Nat → Bool} {n : Nat} (hn : n < 2 ^ 30) (h : (if fstL p n = (-1) then (-1000000005 : Int32) else fstL p n) = -1000000005) : fstL p n = -1 := by
  by_cases h1 : fstL p n = -1
  · exact h1
  · rw [if_neg h1] at h
    exfalso
    have key : ∀ m, m ≤ n → fstL p m = -1 ∨ ∃ k, k < m ∧ fstL p m = nI k := by
      intro m
      induction m with
      | zero => intro _; exact Or.inl rfl
      | succ m ih =>
        intro hm
        rw [fstL]
        rcases ih (by omega) with e | ⟨k, hk, e⟩
        · rw [if_pos e]
          by_cases hp : p m = true
          · rw [if_pos hp]; exact Or.inr ⟨m, by omega, rfl⟩
          · rw [if_neg hp]; exact Or.inl rfl
        · rw [if_neg (by rw [e]; exact nI_ne_m1 (by omega))]
          exact Or.inr ⟨k, by omega, e⟩
    rcases key n (Nat.le_refl n) with e | ⟨k, hk, e⟩
    · exact h1 e
    · rw [e] at h
      have h2 := nI_pos (n := k) (by omega)
      rw [h] at h2
      exact h2 (by decide)
theorem yes_none {p : Nat → Bool} {n : Nat} (h : ¬ (if fstL p n = (-1) then (-1000000005 : Int32) else fstL p n) = -1000000005) : ¬ fstL p n = -1 := fun e => h (by rw [if_pos e])
theorem lt_of_ne60 {x : Int32} {n k : Nat} (h : ¬ x = nI k) (e : x = nI n) (hn : n ≤ k) (hk : k < 2 ^ 31) : x < nI k := by
  rw [e] at h ⊢
  exact nI_lt (Nat.lt_of_le_of_ne hn (fun q => h (by rw [q]))) hk
theorem nlt_of_eq60 {x : Int32} {k : Nat} (h : x = nI k) : ¬ x < nI k := by rw [h]; exact Int32.lt_irrefl

theorem dX12_walk_0 : decode cX12_walk 0 = .ok (.iload_n 1, 1) := by decide +kernel
theorem dX12_walk_1 : decode cX12_walk 1 = .ok (.invokestatic 136, 3) := by decide +kernel
theorem dX12_walk_4 : decode cX12_walk 4 = .ok (.ifCond .eq 11, 3) := by decide +kernel
theorem dX12_walk_7 : decode cX12_walk 7 = .ok (.aload_n 0, 1) := by decide +kernel
theorem dX12_walk_8 : decode cX12_walk 8 = .ok (.iload_n 2, 1) := by decide +kernel
theorem dX12_walk_9 : decode cX12_walk 9 = .ok (.invokevirtual 139, 3) := by decide +kernel
theorem dX12_walk_12 : decode cX12_walk 12 = .ok (.ifCond .ne 6, 3) := by decide +kernel
theorem dX12_walk_15 : decode cX12_walk 15 = .ok (.ldc 120, 2) := by decide +kernel
theorem dX12_walk_17 : decode cX12_walk 17 = .ok (.ireturn, 1) := by decide +kernel
theorem dX12_walk_18 : decode cX12_walk 18 = .ok (.aload_n 0, 1) := by decide +kernel
theorem dX12_walk_19 : decode cX12_walk 19 = .ok (.getfield 128, 3) := by decide +kernel
theorem dX12_walk_22 : decode cX12_walk 22 = .ok (.ifCond .le 21, 3) := by decide +kernel
theorem dX12_walk_25 : decode cX12_walk 25 = .ok (.aload_n 0, 1) := by decide +kernel
theorem dX12_walk_26 : decode cX12_walk 26 = .ok (.iload_n 1, 1) := by decide +kernel
theorem dX12_walk_27 : decode cX12_walk 27 = .ok (.iload_n 2, 1) := by decide +kernel
theorem dX12_walk_28 : decode cX12_walk 28 = .ok (.aload_n 0, 1) := by decide +kernel
theorem dX12_walk_29 : decode cX12_walk 29 = .ok (.getfield 142, 3) := by decide +kernel
theorem dX12_walk_32 : decode cX12_walk 32 = .ok (.invokevirtual 145, 3) := by decide +kernel
theorem dX12_walk_35 : decode cX12_walk 35 = .ok (.ldc 135, 2) := by decide +kernel
theorem dX12_walk_37 : decode cX12_walk 37 = .ok (.if_icmp .ne 6, 3) := by decide +kernel
theorem dX12_walk_40 : decode cX12_walk 40 = .ok (.ldc 149, 2) := by decide +kernel
theorem dX12_walk_42 : decode cX12_walk 42 = .ok (.ireturn, 1) := by decide +kernel
theorem dX12_walk_43 : decode cX12_walk 43 = .ok (.aload_n 0, 1) := by decide +kernel
theorem dX12_walk_44 : decode cX12_walk 44 = .ok (.getfield 117, 3) := by decide +kernel
theorem dX12_walk_47 : decode cX12_walk 47 = .ok (.bipush 60, 2) := by decide +kernel
theorem dX12_walk_49 : decode cX12_walk 49 = .ok (.if_icmp .ne 6, 3) := by decide +kernel
theorem dX12_walk_52 : decode cX12_walk 52 = .ok (.ldc 150, 2) := by decide +kernel
theorem dX12_walk_54 : decode cX12_walk 54 = .ok (.ireturn, 1) := by decide +kernel
theorem dX12_walk_55 : decode cX12_walk 55 = .ok (.aload_n 0, 1) := by decide +kernel
theorem dX12_walk_56 : decode cX12_walk 56 = .ok (.getfield 20, 3) := by decide +kernel
theorem dX12_walk_59 : decode cX12_walk 59 = .ok (.aload_n 0, 1) := by decide +kernel
theorem dX12_walk_60 : decode cX12_walk 60 = .ok (.getfield 117, 3) := by decide +kernel
theorem dX12_walk_63 : decode cX12_walk 63 = .ok (.iload_n 1, 1) := by decide +kernel
theorem dX12_walk_64 : decode cX12_walk 64 = .ok (.iastore, 1) := by decide +kernel
theorem dX12_walk_65 : decode cX12_walk 65 = .ok (.aload_n 0, 1) := by decide +kernel
theorem dX12_walk_66 : decode cX12_walk 66 = .ok (.getfield 23, 3) := by decide +kernel
theorem dX12_walk_69 : decode cX12_walk 69 = .ok (.aload_n 0, 1) := by decide +kernel
theorem dX12_walk_70 : decode cX12_walk 70 = .ok (.getfield 117, 3) := by decide +kernel
theorem dX12_walk_73 : decode cX12_walk 73 = .ok (.iload_n 2, 1) := by decide +kernel
theorem dX12_walk_74 : decode cX12_walk 74 = .ok (.iastore, 1) := by decide +kernel
theorem dX12_walk_75 : decode cX12_walk 75 = .ok (.aload_n 0, 1) := by decide +kernel
theorem dX12_walk_76 : decode cX12_walk 76 = .ok (.getfield 26, 3) := by decide +kernel
theorem dX12_walk_79 : decode cX12_walk 79 = .ok (.aload_n 0, 1) := by decide +kernel
theorem dX12_walk_80 : decode cX12_walk 80 = .ok (.getfield 117, 3) := by decide +kernel
theorem dX12_walk_83 : decode cX12_walk 83 = .ok (.aload_n 0, 1) := by decide +kernel
theorem dX12_walk_84 : decode cX12_walk 84 = .ok (.getfield 142, 3) := by decide +kernel
theorem dX12_walk_87 : decode cX12_walk 87 = .ok (.iastore, 1) := by decide +kernel
theorem dX12_walk_88 : decode cX12_walk 88 = .ok (.aload_n 0, 1) := by decide +kernel
theorem dX12_walk_89 : decode cX12_walk 89 = .ok (.dup, 1) := by decide +kernel
theorem dX12_walk_90 : decode cX12_walk 90 = .ok (.getfield 117, 3) := by decide +kernel
theorem dX12_walk_93 : decode cX12_walk 93 = .ok (.iconst 1, 1) := by decide +kernel
theorem dX12_walk_94 : decode cX12_walk 94 = .ok (.iadd, 1) := by decide +kernel
theorem dX12_walk_95 : decode cX12_walk 95 = .ok (.putfield 117, 3) := by decide +kernel
theorem dX12_walk_98 : decode cX12_walk 98 = .ok (.aload_n 0, 1) := by decide +kernel
theorem dX12_walk_99 : decode cX12_walk 99 = .ok (.getfield 117, 3) := by decide +kernel
theorem dX12_walk_102 : decode cX12_walk 102 = .ok (.iconst 1, 1) := by decide +kernel
theorem dX12_walk_103 : decode cX12_walk 103 = .ok (.isub, 1) := by decide +kernel
theorem dX12_walk_104 : decode cX12_walk 104 = .ok (.ireturn, 1) := by decide +kernel

set_option maxHeartbeats 4000000 in
set_option maxRecDepth 100000 in
theorem c_X12_walk (l : Launch) (E : Ev) {A : Nat → Prop} (ad : Nat → Nat) (hA : Oka 30 ad A) (sc : Nat → Int32) (ar : Nat → Nat → Int32) (la : Nat → Int64) {nW wd hg nL : Nat} (x : Int32) (y : Int32) (hW : sc 3 = nI nW) (hW60 : nW ≤ 60) (hwd : sc 0 = nI wd) (hwd1 : 2 ≤ wd) (hwd2 : wd ≤ 8) (hhg : sc 1 = nI hg) (hhg1 : 2 ≤ hg) (hhg2 : hg ≤ 8) (hL : sc 8 = nI nL) (hL12 : nL ≤ 12) : Ct l E yX12_walk (.code yX12_walk cX12_walk 3 (some .int)) ({ frames := 3, cells := 0, slots := 0, locals := 71 }) A (mw E ad sc ar la) [.ref (ad 0), .int x, .int y] (some (.int (if ok2 (inr x (nI 0) (nI 4)) (inx y (nI hg)) = true then (if letok (sc 8) (mok (ar 12) (ar 13) (ar 14) (ar 15) (ar 16) (ar 17) x y (sc 2)) nL = true then (if sc 3 < nI 60 then nI nW else (-1000000003)) else (-1000000002)) else (-1000000001)))) (if ok2 (inr x (nI 0) (nI 4)) (inx y (nI hg)) = true then (if letok (sc 8) (mok (ar 12) (ar 13) (ar 14) (ar 15) (ar 16) (ar 17) x y (sc 2)) nL = true then (if sc 3 < nI 60 then mw E ad (va_up sc 3 (nI (nW + 1))) (va_up (va_up (va_up ar 2 (upd (ar 2) nW x)) 3 (upd (ar 3) nW y)) 4 (upd (ar 4) nW (sc 2))) la else mw E ad sc ar la) else mw E ad sc ar la) else mw E ad sc ar la) := by
  refine Ct.of (lv := [(0, .ref (ad 0)), (1, .int x), (2, .int y)]) (by decide +kernel) (Nat.le_of_ble_eq_true rfl) rfl ?_
  intro zp ze zs zm za zb zh zc hc
  refine g_iload_n (pc := 0) hc 1 dX12_walk_0 rfl rfl ?_
  refine g_callSi (pc := 1) (rest := []) (As := [.int x]) hc (c_X12_isWalker l E ad hA sc ar la x) mi_X12_isWalker tw_1159 rfl ⟨rfl, rfl, by decide, by decide⟩ (Nat.le_of_ble_eq_true rfl) ⟨Nat.le_refl _, Nat.le_refl _⟩ rfl dX12_walk_1 ?_
  refine g_if_eq_b (pc := 4) hc 15 dX12_walk_4 (by decide) (fun c1 => ?_) (fun c1 => ?_)
  · refine g_ldc (pc := 15) (v := (-1000000001)) hc tw_1139 dX12_walk_15 ?_
    exact g_iret (pc := 17) hc dX12_walk_17 (by rw [if_neg (ne_true_of_eq_false (ok2_f1 c1))]) (by rw [if_neg (ne_true_of_eq_false (ok2_f1 c1))])
  · refine g_aload_n (pc := 7) hc 0 dX12_walk_7 rfl rfl ?_
    refine g_iload_n (pc := 8) hc 2 dX12_walk_8 rfl rfl ?_
    refine g_callVi (pc := 9) (rest := []) (As := [.int y]) hc (c_X12_isRow l E ad hA sc ar la y (hwd) (hwd1) (hwd2) (hhg) (hhg1) (hhg2)) mi_X12_isRow tw_1162 0 rfl rfl rfl rfl ⟨rfl, rfl, by decide, by decide⟩ (Nat.le_of_ble_eq_true rfl) ⟨Nat.le_refl _, Nat.le_refl _⟩ rfl dX12_walk_9 ?_
    refine g_if_ne_b (pc := 12) hc 18 dX12_walk_12 (by decide) (fun c2 => ?_) (fun c2 => ?_)
    · refine g_aload_n (pc := 18) hc 0 dX12_walk_18 rfl rfl ?_
      refine gf_m0_leaves (pc := 19) hc tw_1020 dX12_walk_19 ?_
      refine g_if_le (pc := 22) hc 43 dX12_walk_22 (by decide) (fun c3 => ?_) (fun c3 => ?_)
      · refine g_aload_n (pc := 43) hc 0 dX12_walk_43 rfl rfl ?_
        refine gf_m0_walks (pc := 44) hc tw_1005 dX12_walk_44 ?_
        refine g_bipush (pc := 47) (v := nI 60) hc dX12_walk_47 (by decide) ?_
        refine g_icmp_ne (pc := 49) hc 55 dX12_walk_49 (by decide) (fun c4 => ?_) (fun c4 => ?_)
        · have hW1 : nW < 60 := by have h := lt_of_ne60 c4 hW hW60 (by decide); rw [hW] at h; exact (nI_ltI (by omega) (by decide)).mp h
          refine g_aload_n (pc := 55) hc 0 dX12_walk_55 rfl rfl ?_
          refine gf_m0_walker (pc := 56) hc tw_1006 dX12_walk_56 ?_
          refine g_aload_n (pc := 59) hc 0 dX12_walk_59 rfl rfl ?_
          refine gf_m0_walks (pc := 60) hc tw_1005 dX12_walk_60 ?_
          refine g_topi (v := nI nW) (hW) ?_
          refine g_iload_n (pc := 63) hc 1 dX12_walk_63 rfl rfl ?_
          refine sa_m2 (pc := 64) hc hA (nW) (rfl) (by omega) dX12_walk_64 ?_
          refine g_aload_n (pc := 65) hc 0 dX12_walk_65 rfl rfl ?_
          refine gf_m0_rowOf (pc := 66) hc tw_1007 dX12_walk_66 ?_
          refine g_aload_n (pc := 69) hc 0 dX12_walk_69 rfl rfl ?_
          refine gf_m0_walks (pc := 70) hc tw_1005 dX12_walk_70 ?_
          refine g_topi (v := nI nW) (hW) ?_
          refine g_iload_n (pc := 73) hc 2 dX12_walk_73 rfl rfl ?_
          refine sa_m3 (pc := 74) hc hA (nW) (rfl) (by omega) dX12_walk_74 ?_
          refine g_eq (ws' := mw E ad sc (va_up (va_up ar 2 (upd (ar 2) nW x)) 3 (upd (ar 3) nW y)) la) (lv' := [(0, .ref (ad 0)), (1, .int x), (2, .int y)]) rfl rfl rfl ?_
          refine g_aload_n (pc := 75) hc 0 dX12_walk_75 rfl rfl ?_
          refine gf_m0_dayOf (pc := 76) hc tw_1008 dX12_walk_76 ?_
          refine g_aload_n (pc := 79) hc 0 dX12_walk_79 rfl rfl ?_
          refine gf_m0_walks (pc := 80) hc tw_1005 dX12_walk_80 ?_
          refine g_topi (v := nI nW) (hW) ?_
          refine g_aload_n (pc := 83) hc 0 dX12_walk_83 rfl rfl ?_
          refine gf_m0_today (pc := 84) hc tw_1004 dX12_walk_84 ?_
          refine sa_m4 (pc := 87) hc hA (nW) (rfl) (by omega) dX12_walk_87 ?_
          refine g_eq (ws' := mw E ad sc (va_up (va_up (va_up ar 2 (upd (ar 2) nW x)) 3 (upd (ar 3) nW y)) 4 (upd (ar 4) nW (sc 2))) la) (lv' := [(0, .ref (ad 0)), (1, .int x), (2, .int y)]) rfl rfl rfl ?_
          refine g_aload_n (pc := 88) hc 0 dX12_walk_88 rfl rfl ?_
          refine g_dup (pc := 89) hc dX12_walk_89 rfl ?_
          refine gf_m0_walks (pc := 90) hc tw_1005 dX12_walk_90 ?_
          refine g_topi (v := nI nW) (hW) ?_
          refine g_iconst (pc := 93) (v := nI 1) hc dX12_walk_93 (by decide) ?_
          refine g_iadd (pc := 94) hc dX12_walk_94 ?_
          refine g_topi (v := nI (nW + 1)) (nI_add nW 1) ?_
          refine pf_m0_walks (pc := 95) hc hA tw_1005 dX12_walk_95 ?_
          refine g_aload_n (pc := 98) hc 0 dX12_walk_98 rfl rfl ?_
          refine gf_m0_walks (pc := 99) hc tw_1005 dX12_walk_99 ?_
          refine g_topi (v := nI (nW + 1)) rfl ?_
          refine g_iconst (pc := 102) (v := nI 1) hc dX12_walk_102 (by decide) ?_
          refine g_isub (pc := 103) hc dX12_walk_103 ?_
          exact g_iret (pc := 104) hc dX12_walk_104 (by rw [if_pos (ok2_t c1 c2), if_pos (by rw [letok, if_pos c3]), if_pos (lt_of_ne60 c4 hW hW60 (by decide)), nI1e, nI_pred]) (by rw [if_pos (ok2_t c1 c2), if_pos (by rw [letok, if_pos c3]), if_pos (lt_of_ne60 c4 hW hW60 (by decide))])
        · refine g_ldc (pc := 52) (v := (-1000000003)) hc tw_1176 dX12_walk_52 ?_
          exact g_iret (pc := 54) hc dX12_walk_54 (by rw [if_pos (ok2_t c1 c2), if_pos (by rw [letok, if_pos c3]), if_neg (nlt_of_eq60 c4)]) (by rw [if_pos (ok2_t c1 c2), if_pos (by rw [letok, if_pos c3]), if_neg (nlt_of_eq60 c4)])
      · refine g_aload_n (pc := 25) hc 0 dX12_walk_25 rfl rfl ?_
        refine g_iload_n (pc := 26) hc 1 dX12_walk_26 rfl rfl ?_
        refine g_iload_n (pc := 27) hc 2 dX12_walk_27 rfl rfl ?_
        refine g_aload_n (pc := 28) hc 0 dX12_walk_28 rfl rfl ?_
        refine gf_m0_today (pc := 29) hc tw_1004 dX12_walk_29 ?_
        refine g_callVi (pc := 32) (rest := []) (As := [.int x, .int y, .int (sc 2)]) hc (c_X12_letBy l E ad hA sc ar la x y (sc 2) (hL) (hL12)) mi_X12_letBy tw_1166 0 rfl rfl rfl rfl ⟨rfl, rfl, by decide, by decide⟩ (Nat.le_of_ble_eq_true rfl) ⟨Nat.le_refl _, Nat.le_refl _⟩ rfl dX12_walk_32 ?_
        refine g_ldc (pc := 35) (v := (-1000000005)) hc tw_1174 dX12_walk_35 ?_
        refine g_icmp_ne (pc := 37) hc 43 dX12_walk_37 (by decide) (fun c5 => ?_) (fun c5 => ?_)
        · refine g_aload_n (pc := 43) hc 0 dX12_walk_43 rfl rfl ?_
          refine gf_m0_walks (pc := 44) hc tw_1005 dX12_walk_44 ?_
          refine g_bipush (pc := 47) (v := nI 60) hc dX12_walk_47 (by decide) ?_
          refine g_icmp_ne (pc := 49) hc 55 dX12_walk_49 (by decide) (fun c6 => ?_) (fun c6 => ?_)
          · have hW1 : nW < 60 := by have h := lt_of_ne60 c6 hW hW60 (by decide); rw [hW] at h; exact (nI_ltI (by omega) (by decide)).mp h
            refine g_aload_n (pc := 55) hc 0 dX12_walk_55 rfl rfl ?_
            refine gf_m0_walker (pc := 56) hc tw_1006 dX12_walk_56 ?_
            refine g_aload_n (pc := 59) hc 0 dX12_walk_59 rfl rfl ?_
            refine gf_m0_walks (pc := 60) hc tw_1005 dX12_walk_60 ?_
            refine g_topi (v := nI nW) (hW) ?_
            refine g_iload_n (pc := 63) hc 1 dX12_walk_63 rfl rfl ?_
            refine sa_m2 (pc := 64) hc hA (nW) (rfl) (by omega) dX12_walk_64 ?_
            refine g_aload_n (pc := 65) hc 0 dX12_walk_65 rfl rfl ?_
            refine gf_m0_rowOf (pc := 66) hc tw_1007 dX12_walk_66 ?_
            refine g_aload_n (pc := 69) hc 0 dX12_walk_69 rfl rfl ?_
            refine gf_m0_walks (pc := 70) hc tw_1005 dX12_walk_70 ?_
            refine g_topi (v := nI nW) (hW) ?_
            refine g_iload_n (pc := 73) hc 2 dX12_walk_73 rfl rfl ?_
            refine sa_m3 (pc := 74) hc hA (nW) (rfl) (by omega) dX12_walk_74 ?_
            refine g_eq (ws' := mw E ad sc (va_up (va_up ar 2 (upd (ar 2) nW x)) 3 (upd (ar 3) nW y)) la) (lv' := [(0, .ref (ad 0)), (1, .int x), (2, .int y)]) rfl rfl rfl ?_
            refine g_aload_n (pc := 75) hc 0 dX12_walk_75 rfl rfl ?_
            refine gf_m0_dayOf (pc := 76) hc tw_1008 dX12_walk_76 ?_
            refine g_aload_n (pc := 79) hc 0 dX12_walk_79 rfl rfl ?_
            refine gf_m0_walks (pc := 80) hc tw_1005 dX12_walk_80 ?_
            refine g_topi (v := nI nW) (hW) ?_
            refine g_aload_n (pc := 83) hc 0 dX12_walk_83 rfl rfl ?_
            refine gf_m0_today (pc := 84) hc tw_1004 dX12_walk_84 ?_
            refine sa_m4 (pc := 87) hc hA (nW) (rfl) (by omega) dX12_walk_87 ?_
            refine g_eq (ws' := mw E ad sc (va_up (va_up (va_up ar 2 (upd (ar 2) nW x)) 3 (upd (ar 3) nW y)) 4 (upd (ar 4) nW (sc 2))) la) (lv' := [(0, .ref (ad 0)), (1, .int x), (2, .int y)]) rfl rfl rfl ?_
            refine g_aload_n (pc := 88) hc 0 dX12_walk_88 rfl rfl ?_
            refine g_dup (pc := 89) hc dX12_walk_89 rfl ?_
            refine gf_m0_walks (pc := 90) hc tw_1005 dX12_walk_90 ?_
            refine g_topi (v := nI nW) (hW) ?_
            refine g_iconst (pc := 93) (v := nI 1) hc dX12_walk_93 (by decide) ?_
            refine g_iadd (pc := 94) hc dX12_walk_94 ?_
            refine g_topi (v := nI (nW + 1)) (nI_add nW 1) ?_
            refine pf_m0_walks (pc := 95) hc hA tw_1005 dX12_walk_95 ?_
            refine g_aload_n (pc := 98) hc 0 dX12_walk_98 rfl rfl ?_
            refine gf_m0_walks (pc := 99) hc tw_1005 dX12_walk_99 ?_
            refine g_topi (v := nI (nW + 1)) rfl ?_
            refine g_iconst (pc := 102) (v := nI 1) hc dX12_walk_102 (by decide) ?_
            refine g_isub (pc := 103) hc dX12_walk_103 ?_
            exact g_iret (pc := 104) hc dX12_walk_104 (by rw [if_pos (ok2_t c1 c2), if_pos (by rw [letok, if_neg c3, if_neg (yes_none c5)]), if_pos (lt_of_ne60 c6 hW hW60 (by decide)), nI1e, nI_pred]) (by rw [if_pos (ok2_t c1 c2), if_pos (by rw [letok, if_neg c3, if_neg (yes_none c5)]), if_pos (lt_of_ne60 c6 hW hW60 (by decide))])
          · refine g_ldc (pc := 52) (v := (-1000000003)) hc tw_1176 dX12_walk_52 ?_
            exact g_iret (pc := 54) hc dX12_walk_54 (by rw [if_pos (ok2_t c1 c2), if_pos (by rw [letok, if_neg c3, if_neg (yes_none c5)]), if_neg (nlt_of_eq60 c6)]) (by rw [if_pos (ok2_t c1 c2), if_pos (by rw [letok, if_neg c3, if_neg (yes_none c5)]), if_neg (nlt_of_eq60 c6)])
        · refine g_ldc (pc := 40) (v := (-1000000002)) hc tw_1175 dX12_walk_40 ?_
          exact g_iret (pc := 42) hc dX12_walk_42 (by rw [if_pos (ok2_t c1 c2), if_neg (ne_true_of_eq_false (by rw [letok, if_neg c3, if_pos (not_none (by omega) c5)]))]) (by rw [if_pos (ok2_t c1 c2), if_neg (ne_true_of_eq_false (by rw [letok, if_neg c3, if_pos (not_none (by omega) c5)]))])
    · refine g_ldc (pc := 15) (v := (-1000000001)) hc tw_1139 dX12_walk_15 ?_
      exact g_iret (pc := 17) hc dX12_walk_17 (by rw [if_neg (ne_true_of_eq_false (ok2_f2 c1 c2))]) (by rw [if_neg (ne_true_of_eq_false (ok2_f2 c1 c2))])

theorem dX12_find_0 : decode cX12_find 0 = .ok (.aload_n 0, 1) := by decide +kernel
theorem dX12_find_1 : decode cX12_find 1 = .ok (.iload_n 1, 1) := by decide +kernel
theorem dX12_find_2 : decode cX12_find 2 = .ok (.invokevirtual 151, 3) := by decide +kernel
theorem dX12_find_5 : decode cX12_find 5 = .ok (.ifCond .eq 44, 3) := by decide +kernel
theorem dX12_find_8 : decode cX12_find 8 = .ok (.aload_n 0, 1) := by decide +kernel
theorem dX12_find_9 : decode cX12_find 9 = .ok (.iload_n 2, 1) := by decide +kernel
theorem dX12_find_10 : decode cX12_find 10 = .ok (.invokevirtual 154, 3) := by decide +kernel
theorem dX12_find_13 : decode cX12_find 13 = .ok (.ifCond .eq 36, 3) := by decide +kernel
theorem dX12_find_16 : decode cX12_find 16 = .ok (.iload_n 3, 1) := by decide +kernel
theorem dX12_find_17 : decode cX12_find 17 = .ok (.invokestatic 124, 3) := by decide +kernel
theorem dX12_find_20 : decode cX12_find 20 = .ok (.ifCond .eq 29, 3) := by decide +kernel
theorem dX12_find_23 : decode cX12_find 23 = .ok (.iload 4, 2) := by decide +kernel
theorem dX12_find_25 : decode cX12_find 25 = .ok (.iconst 1, 1) := by decide +kernel
theorem dX12_find_26 : decode cX12_find 26 = .ok (.bipush 99, 2) := by decide +kernel
theorem dX12_find_28 : decode cX12_find 28 = .ok (.invokestatic 113, 3) := by decide +kernel
theorem dX12_find_31 : decode cX12_find 31 = .ok (.ifCond .eq 18, 3) := by decide +kernel
theorem dX12_find_34 : decode cX12_find 34 = .ok (.iload_n 2, 1) := by decide +kernel
theorem dX12_find_35 : decode cX12_find 35 = .ok (.aload_n 0, 1) := by decide +kernel
theorem dX12_find_36 : decode cX12_find 36 = .ok (.getfield 7, 3) := by decide +kernel
theorem dX12_find_39 : decode cX12_find 39 = .ok (.idiv, 1) := by decide +kernel
theorem dX12_find_40 : decode cX12_find 40 = .ok (.aload_n 0, 1) := by decide +kernel
theorem dX12_find_41 : decode cX12_find 41 = .ok (.getfield 23, 3) := by decide +kernel
theorem dX12_find_44 : decode cX12_find 44 = .ok (.iload_n 1, 1) := by decide +kernel
theorem dX12_find_45 : decode cX12_find 45 = .ok (.iaload, 1) := by decide +kernel
theorem dX12_find_46 : decode cX12_find 46 = .ok (.if_icmp .eq 6, 3) := by decide +kernel
theorem dX12_find_49 : decode cX12_find 49 = .ok (.ldc 120, 2) := by decide +kernel
theorem dX12_find_51 : decode cX12_find 51 = .ok (.ireturn, 1) := by decide +kernel
theorem dX12_find_52 : decode cX12_find 52 = .ok (.aload_n 0, 1) := by decide +kernel
theorem dX12_find_53 : decode cX12_find 53 = .ok (.getfield 121, 3) := by decide +kernel
theorem dX12_find_56 : decode cX12_find 56 = .ok (.sipush 200, 3) := by decide +kernel
theorem dX12_find_59 : decode cX12_find 59 = .ok (.if_icmp .ne 6, 3) := by decide +kernel
theorem dX12_find_62 : decode cX12_find 62 = .ok (.ldc 150, 2) := by decide +kernel
theorem dX12_find_64 : decode cX12_find 64 = .ok (.ireturn, 1) := by decide +kernel
theorem dX12_find_65 : decode cX12_find 65 = .ok (.aload_n 0, 1) := by decide +kernel
theorem dX12_find_66 : decode cX12_find 66 = .ok (.getfield 29, 3) := by decide +kernel
theorem dX12_find_69 : decode cX12_find 69 = .ok (.aload_n 0, 1) := by decide +kernel
theorem dX12_find_70 : decode cX12_find 70 = .ok (.getfield 121, 3) := by decide +kernel
theorem dX12_find_73 : decode cX12_find 73 = .ok (.iload_n 1, 1) := by decide +kernel
theorem dX12_find_74 : decode cX12_find 74 = .ok (.iastore, 1) := by decide +kernel
theorem dX12_find_75 : decode cX12_find 75 = .ok (.aload_n 0, 1) := by decide +kernel
theorem dX12_find_76 : decode cX12_find 76 = .ok (.getfield 32, 3) := by decide +kernel
theorem dX12_find_79 : decode cX12_find 79 = .ok (.aload_n 0, 1) := by decide +kernel
theorem dX12_find_80 : decode cX12_find 80 = .ok (.getfield 121, 3) := by decide +kernel
theorem dX12_find_83 : decode cX12_find 83 = .ok (.iload_n 2, 1) := by decide +kernel
theorem dX12_find_84 : decode cX12_find 84 = .ok (.iastore, 1) := by decide +kernel
theorem dX12_find_85 : decode cX12_find 85 = .ok (.aload_n 0, 1) := by decide +kernel
theorem dX12_find_86 : decode cX12_find 86 = .ok (.getfield 35, 3) := by decide +kernel
theorem dX12_find_89 : decode cX12_find 89 = .ok (.aload_n 0, 1) := by decide +kernel
theorem dX12_find_90 : decode cX12_find 90 = .ok (.getfield 121, 3) := by decide +kernel
theorem dX12_find_93 : decode cX12_find 93 = .ok (.iload_n 3, 1) := by decide +kernel
theorem dX12_find_94 : decode cX12_find 94 = .ok (.iastore, 1) := by decide +kernel
theorem dX12_find_95 : decode cX12_find 95 = .ok (.aload_n 0, 1) := by decide +kernel
theorem dX12_find_96 : decode cX12_find 96 = .ok (.getfield 38, 3) := by decide +kernel
theorem dX12_find_99 : decode cX12_find 99 = .ok (.aload_n 0, 1) := by decide +kernel
theorem dX12_find_100 : decode cX12_find 100 = .ok (.getfield 121, 3) := by decide +kernel
theorem dX12_find_103 : decode cX12_find 103 = .ok (.iload 4, 2) := by decide +kernel
theorem dX12_find_105 : decode cX12_find 105 = .ok (.iastore, 1) := by decide +kernel
theorem dX12_find_106 : decode cX12_find 106 = .ok (.aload_n 0, 1) := by decide +kernel
theorem dX12_find_107 : decode cX12_find 107 = .ok (.dup, 1) := by decide +kernel
theorem dX12_find_108 : decode cX12_find 108 = .ok (.getfield 121, 3) := by decide +kernel
theorem dX12_find_111 : decode cX12_find 111 = .ok (.iconst 1, 1) := by decide +kernel
theorem dX12_find_112 : decode cX12_find 112 = .ok (.iadd, 1) := by decide +kernel
theorem dX12_find_113 : decode cX12_find 113 = .ok (.putfield 121, 3) := by decide +kernel
theorem dX12_find_116 : decode cX12_find 116 = .ok (.aload_n 0, 1) := by decide +kernel
theorem dX12_find_117 : decode cX12_find 117 = .ok (.getfield 121, 3) := by decide +kernel
theorem dX12_find_120 : decode cX12_find 120 = .ok (.iconst 1, 1) := by decide +kernel
theorem dX12_find_121 : decode cX12_find 121 = .ok (.isub, 1) := by decide +kernel
theorem dX12_find_122 : decode cX12_find 122 = .ok (.ireturn, 1) := by decide +kernel

set_option maxHeartbeats 4000000 in
set_option maxRecDepth 100000 in
theorem c_X12_find (l : Launch) (E : Ev) {A : Nat → Prop} (ad : Nat → Nat) (hA : Oka 30 ad A) (sc : Nat → Int32) (ar : Nat → Nat → Int32) (la : Nat → Int64) {nW nF wd hg : Nat} (x : Int32) (y : Int32) (z : Int32) (u : Int32) (hW : sc 3 = nI nW) (hW60 : nW ≤ 60) (hF : sc 4 = nI nF) (hF200 : nF ≤ 200) (hwd : sc 0 = nI wd) (hwd1 : 2 ≤ wd) (hwd2 : wd ≤ 8) (hhg : sc 1 = nI hg) (hhg1 : 2 ≤ hg) (hhg2 : hg ≤ 8) : Ct l E yX12_find (.code yX12_find cX12_find 5 (some .int)) ({ frames := 2, cells := 0, slots := 0, locals := 43 }) A (mw E ad sc ar la) [.ref (ad 0), .int x, .int y, .int z, .int u] (some (.int (if ok2 (inx x (nI nW)) (ok2 (inr z (nI 0) (nI 3)) (inr u (nI 1) (nI 99))) = true then (if ok2 (inx y (nI (wd * hg))) (decide (nI (tn y / wd) = ar 3 (tn x))) = true then (if sc 4 < nI 200 then nI nF else (-1000000003)) else (-1000000001)) else (-1000000001)))) (if ok2 (inx x (nI nW)) (ok2 (inr z (nI 0) (nI 3)) (inr u (nI 1) (nI 99))) = true then (if ok2 (inx y (nI (wd * hg))) (decide (nI (tn y / wd) = ar 3 (tn x))) = true then (if sc 4 < nI 200 then mw E ad (va_up sc 4 (nI (nF + 1))) (va_up (va_up (va_up (va_up ar 5 (upd (ar 5) nF x)) 6 (upd (ar 6) nF y)) 7 (upd (ar 7) nF z)) 8 (upd (ar 8) nF u)) la else mw E ad sc ar la) else mw E ad sc ar la) else mw E ad sc ar la) := by
  have hm := prod64 hwd2 hhg2
  refine Ct.of (lv := [(0, .ref (ad 0)), (1, .int x), (2, .int y), (3, .int z), (4, .int u)]) (by decide +kernel) (Nat.le_of_ble_eq_true rfl) rfl ?_
  intro zp ze zs zm za zb zh zc hc
  refine g_aload_n (pc := 0) hc 0 dX12_find_0 rfl rfl ?_
  refine g_iload_n (pc := 1) hc 1 dX12_find_1 rfl rfl ?_
  refine g_callVi (pc := 2) (rest := []) (As := [.int x]) hc (c_X12_isWalk l E ad hA sc ar la x (hW) (hW60)) mi_X12_isWalk tw_1181 0 rfl rfl rfl rfl ⟨rfl, rfl, by decide, by decide⟩ (Nat.le_of_ble_eq_true rfl) ⟨Nat.le_refl _, Nat.le_refl _⟩ rfl dX12_find_2 ?_
  refine g_if_eq_b (pc := 5) hc 49 dX12_find_5 (by decide) (fun c1 => ?_) (fun c1 => ?_)
  · refine g_ldc (pc := 49) (v := (-1000000001)) hc tw_1139 dX12_find_49 ?_
    exact g_iret (pc := 51) hc dX12_find_51 (by rw [if_neg (ne_true_of_eq_false (ok2_f1 c1))]) (by rw [if_neg (ne_true_of_eq_false (ok2_f1 c1))])
  · refine g_aload_n (pc := 8) hc 0 dX12_find_8 rfl rfl ?_
    refine g_iload_n (pc := 9) hc 2 dX12_find_9 rfl rfl ?_
    refine g_callVi (pc := 10) (rest := []) (As := [.int y]) hc (c_X12_isPace l E ad hA sc ar la y (hwd) (hwd1) (hwd2) (hhg) (hhg1) (hhg2)) mi_X12_isPace tw_1185 0 rfl rfl rfl rfl ⟨rfl, rfl, by decide, by decide⟩ (Nat.le_of_ble_eq_true rfl) ⟨Nat.le_refl _, Nat.le_refl _⟩ rfl dX12_find_10 ?_
    refine g_if_eq_b (pc := 13) hc 49 dX12_find_13 (by decide) (fun c2 => ?_) (fun c2 => ?_)
    · refine g_ldc (pc := 49) (v := (-1000000001)) hc tw_1139 dX12_find_49 ?_
      exact g_iret (pc := 51) hc dX12_find_51 (by rw [if2_f (ne_true_of_eq_false (ok2_f1 c2))]) (by rw [if2_f (ne_true_of_eq_false (ok2_f1 c2))])
    · refine g_iload_n (pc := 16) hc 3 dX12_find_16 rfl rfl ?_
      refine g_callSi (pc := 17) (rest := []) (As := [.int z]) hc (c_X12_isKind l E ad hA sc ar la z) mi_X12_isKind tw_1148 rfl ⟨rfl, rfl, by decide, by decide⟩ (Nat.le_of_ble_eq_true rfl) ⟨Nat.le_refl _, Nat.le_refl _⟩ rfl dX12_find_17 ?_
      refine g_if_eq_b (pc := 20) hc 49 dX12_find_20 (by decide) (fun c3 => ?_) (fun c3 => ?_)
      · refine g_ldc (pc := 49) (v := (-1000000001)) hc tw_1139 dX12_find_49 ?_
        exact g_iret (pc := 51) hc dX12_find_51 (by rw [if_neg (ne_true_of_eq_false (ok2_f2 c1 (ok2_f1 c3)))]) (by rw [if_neg (ne_true_of_eq_false (ok2_f2 c1 (ok2_f1 c3)))])
      · refine g_iload (pc := 23) hc 4 dX12_find_23 rfl ?_
        refine g_iconst (pc := 25) (v := nI 1) hc dX12_find_25 (by decide) ?_
        refine g_bipush (pc := 26) (v := nI 99) hc dX12_find_26 (by decide) ?_
        refine g_callSi (pc := 28) (rest := []) (As := [.int u, .int (nI 1), .int (nI 99)]) hc (c_X12_isIn l E ad hA sc ar la u (nI 1) (nI 99)) mi_X12_isIn tw_1136 rfl ⟨rfl, rfl, by decide, by decide⟩ (Nat.le_of_ble_eq_true rfl) ⟨Nat.le_refl _, Nat.le_refl _⟩ rfl dX12_find_28 ?_
        refine g_if_eq_b (pc := 31) hc 49 dX12_find_31 (by decide) (fun c4 => ?_) (fun c4 => ?_)
        · refine g_ldc (pc := 49) (v := (-1000000001)) hc tw_1139 dX12_find_49 ?_
          exact g_iret (pc := 51) hc dX12_find_51 (by rw [if_neg (ne_true_of_eq_false (ok2_f2 c1 (ok2_f2 c3 c4)))]) (by rw [if_neg (ne_true_of_eq_false (ok2_f2 c1 (ok2_f2 c3 c4)))])
        · obtain ⟨i, hi, hx⟩ := inx_of (by omega) c1
          obtain ⟨p, hp, hy⟩ := inx_of (by omega) c2
          obtain ⟨j, hj1, hj2, hz⟩ := inr_of (by decide) c3 (by decide)
          refine g_eq (ws' := mw E ad sc ar la) (lv' := [(0, .ref (ad 0)), (1, .int (nI i)), (2, .int (nI p)), (3, .int (nI j)), (4, .int u)]) rfl (by rw [hx, hy, hz]) rfl ?_
          refine g_iload_n (pc := 34) hc 2 dX12_find_34 rfl rfl ?_
          refine g_aload_n (pc := 35) hc 0 dX12_find_35 rfl rfl ?_
          refine gf_m0_wide (pc := 36) hc tw_1001 dX12_find_36 ?_
          refine g_topi (v := nI wd) (hwd) ?_
          refine g_idiv (pc := 39) hc dX12_find_39 (nI_ne0 (by omega) (by omega)) ?_
          refine g_topi (v := nI (p / wd)) (ldiv_nI hwd1 hwd2 (by omega)) ?_
          refine g_aload_n (pc := 40) hc 0 dX12_find_40 rfl rfl ?_
          refine gf_m0_rowOf (pc := 41) hc tw_1007 dX12_find_41 ?_
          refine g_iload_n (pc := 44) hc 1 dX12_find_44 rfl rfl ?_
          refine la_m3 (pc := 45) hc (i) (rfl) (by omega) dX12_find_45 ?_
          refine g_icmp_eq (pc := 46) hc 52 dX12_find_46 (by decide) (fun c5 => ?_) (fun c5 => ?_)
          · refine g_aload_n (pc := 52) hc 0 dX12_find_52 rfl rfl ?_
            refine gf_m0_finds (pc := 53) hc tw_1009 dX12_find_53 ?_
            refine g_sipush (pc := 56) (v := nI 200) hc dX12_find_56 (by decide) ?_
            refine g_icmp_ne (pc := 59) hc 65 dX12_find_59 (by decide) (fun c6 => ?_) (fun c6 => ?_)
            · have hF1 : nF < 200 := by have h := lt_of_ne60 c6 hF hF200 (by decide); rw [hF] at h; exact (nI_ltI (by omega) (by decide)).mp h
              refine g_aload_n (pc := 65) hc 0 dX12_find_65 rfl rfl ?_
              refine gf_m0_fWalk (pc := 66) hc tw_1010 dX12_find_66 ?_
              refine g_aload_n (pc := 69) hc 0 dX12_find_69 rfl rfl ?_
              refine gf_m0_finds (pc := 70) hc tw_1009 dX12_find_70 ?_
              refine g_topi (v := nI nF) (hF) ?_
              refine g_iload_n (pc := 73) hc 1 dX12_find_73 rfl rfl ?_
              refine sa_m5 (pc := 74) hc hA (nF) (rfl) (by omega) dX12_find_74 ?_
              refine g_aload_n (pc := 75) hc 0 dX12_find_75 rfl rfl ?_
              refine gf_m0_fPace (pc := 76) hc tw_1011 dX12_find_76 ?_
              refine g_aload_n (pc := 79) hc 0 dX12_find_79 rfl rfl ?_
              refine gf_m0_finds (pc := 80) hc tw_1009 dX12_find_80 ?_
              refine g_topi (v := nI nF) (hF) ?_
              refine g_iload_n (pc := 83) hc 2 dX12_find_83 rfl rfl ?_
              refine sa_m6 (pc := 84) hc hA (nF) (rfl) (by omega) dX12_find_84 ?_
              refine g_eq (ws' := mw E ad sc (va_up (va_up ar 5 (upd (ar 5) nF (nI i))) 6 (upd (ar 6) nF (nI p))) la) (lv' := [(0, .ref (ad 0)), (1, .int (nI i)), (2, .int (nI p)), (3, .int (nI j)), (4, .int u)]) rfl rfl rfl ?_
              refine g_aload_n (pc := 85) hc 0 dX12_find_85 rfl rfl ?_
              refine gf_m0_fKind (pc := 86) hc tw_1012 dX12_find_86 ?_
              refine g_aload_n (pc := 89) hc 0 dX12_find_89 rfl rfl ?_
              refine gf_m0_finds (pc := 90) hc tw_1009 dX12_find_90 ?_
              refine g_topi (v := nI nF) (hF) ?_
              refine g_iload_n (pc := 93) hc 3 dX12_find_93 rfl rfl ?_
              refine sa_m7 (pc := 94) hc hA (nF) (rfl) (by omega) dX12_find_94 ?_
              refine g_eq (ws' := mw E ad sc (va_up (va_up (va_up ar 5 (upd (ar 5) nF (nI i))) 6 (upd (ar 6) nF (nI p))) 7 (upd (ar 7) nF (nI j))) la) (lv' := [(0, .ref (ad 0)), (1, .int (nI i)), (2, .int (nI p)), (3, .int (nI j)), (4, .int u)]) rfl rfl rfl ?_
              refine g_aload_n (pc := 95) hc 0 dX12_find_95 rfl rfl ?_
              refine gf_m0_fMany (pc := 96) hc tw_1013 dX12_find_96 ?_
              refine g_aload_n (pc := 99) hc 0 dX12_find_99 rfl rfl ?_
              refine gf_m0_finds (pc := 100) hc tw_1009 dX12_find_100 ?_
              refine g_topi (v := nI nF) (hF) ?_
              refine g_iload (pc := 103) hc 4 dX12_find_103 rfl ?_
              refine sa_m8 (pc := 105) hc hA (nF) (rfl) (by omega) dX12_find_105 ?_
              refine g_eq (ws' := mw E ad sc (va_up (va_up (va_up (va_up ar 5 (upd (ar 5) nF (nI i))) 6 (upd (ar 6) nF (nI p))) 7 (upd (ar 7) nF (nI j))) 8 (upd (ar 8) nF u)) la) (lv' := [(0, .ref (ad 0)), (1, .int (nI i)), (2, .int (nI p)), (3, .int (nI j)), (4, .int u)]) rfl rfl rfl ?_
              refine g_aload_n (pc := 106) hc 0 dX12_find_106 rfl rfl ?_
              refine g_dup (pc := 107) hc dX12_find_107 rfl ?_
              refine gf_m0_finds (pc := 108) hc tw_1009 dX12_find_108 ?_
              refine g_topi (v := nI nF) (hF) ?_
              refine g_iconst (pc := 111) (v := nI 1) hc dX12_find_111 (by decide) ?_
              refine g_iadd (pc := 112) hc dX12_find_112 ?_
              refine g_topi (v := nI (nF + 1)) (nI_add nF 1) ?_
              refine pf_m0_finds (pc := 113) hc hA tw_1009 dX12_find_113 ?_
              refine g_aload_n (pc := 116) hc 0 dX12_find_116 rfl rfl ?_
              refine gf_m0_finds (pc := 117) hc tw_1009 dX12_find_117 ?_
              refine g_topi (v := nI (nF + 1)) rfl ?_
              refine g_iconst (pc := 120) (v := nI 1) hc dX12_find_120 (by decide) ?_
              refine g_isub (pc := 121) hc dX12_find_121 ?_
              exact g_iret (pc := 122) hc dX12_find_122 (by rw [if_pos (ok2_t c1 (ok2_t c3 c4)), if_pos (ok2_t c2 (decide_eq_true (by rw [hx, hy, tn, tn, nI_clamp (by omega), nI_clamp (by omega)]; exact c5))), if_pos (lt_of_ne60 c6 hF hF200 (by decide)), nI1e, nI_pred]) (by rw [if_pos (ok2_t c1 (ok2_t c3 c4)), if_pos (ok2_t c2 (decide_eq_true (by rw [hx, hy, tn, tn, nI_clamp (by omega), nI_clamp (by omega)]; exact c5))), if_pos (lt_of_ne60 c6 hF hF200 (by decide)), hx, hy, hz])
            · refine g_ldc (pc := 62) (v := (-1000000003)) hc tw_1176 dX12_find_62 ?_
              exact g_iret (pc := 64) hc dX12_find_64 (by rw [if_pos (ok2_t c1 (ok2_t c3 c4)), if_pos (ok2_t c2 (decide_eq_true (by rw [hx, hy, tn, tn, nI_clamp (by omega), nI_clamp (by omega)]; exact c5))), if_neg (nlt_of_eq60 c6)]) (by rw [if_pos (ok2_t c1 (ok2_t c3 c4)), if_pos (ok2_t c2 (decide_eq_true (by rw [hx, hy, tn, tn, nI_clamp (by omega), nI_clamp (by omega)]; exact c5))), if_neg (nlt_of_eq60 c6)])
          · refine g_ldc (pc := 49) (v := (-1000000001)) hc tw_1139 dX12_find_49 ?_
            exact g_iret (pc := 51) hc dX12_find_51 (by rw [if_pos (ok2_t c1 (ok2_t c3 c4)), if_neg (ne_true_of_eq_false (ok2_f2 c2 (decide_eq_false (by rw [hx, hy, tn, tn, nI_clamp (by omega), nI_clamp (by omega)]; exact c5))))]) (by rw [if_pos (ok2_t c1 (ok2_t c3 c4)), if_neg (ne_true_of_eq_false (ok2_f2 c2 (decide_eq_false (by rw [hx, hy, tn, tn, nI_clamp (by omega), nI_clamp (by omega)]; exact c5))))])
