theorem dX11_told_0 : decode cX11_told 0 = .ok (.aload_n 0, 1) := by decide +kernel
theorem dX11_told_1 : decode cX11_told 1 = .ok (.getfield 26, 3) := by decide +kernel
theorem dX11_told_4 : decode cX11_told 4 = .ok (.iload_n 1, 1) := by decide +kernel
theorem dX11_told_5 : decode cX11_told 5 = .ok (.invokevirtual 163, 3) := by decide +kernel
theorem dX11_told_8 : decode cX11_told 8 = .ok (.ifCond .ne 6, 3) := by decide +kernel
theorem dX11_told_11 : decode cX11_told 11 = .ok (.ldc 109, 2) := by decide +kernel
theorem dX11_told_13 : decode cX11_told 13 = .ok (.ireturn, 1) := by decide +kernel
theorem dX11_told_14 : decode cX11_told 14 = .ok (.iload_n 2, 1) := by decide +kernel
theorem dX11_told_15 : decode cX11_told 15 = .ok (.tableswitch 97 0 4 #[33, 42, 51, 60, 69], 33) := by decide +kernel
theorem dX11_told_48 : decode cX11_told 48 = .ok (.aload_n 0, 1) := by decide +kernel
theorem dX11_told_49 : decode cX11_told 49 = .ok (.getfield 26, 3) := by decide +kernel
theorem dX11_told_52 : decode cX11_told 52 = .ok (.iload_n 1, 1) := by decide +kernel
theorem dX11_told_53 : decode cX11_told 53 = .ok (.invokevirtual 185, 3) := by decide +kernel
theorem dX11_told_56 : decode cX11_told 56 = .ok (.ireturn, 1) := by decide +kernel
theorem dX11_told_57 : decode cX11_told 57 = .ok (.aload_n 0, 1) := by decide +kernel
theorem dX11_told_58 : decode cX11_told 58 = .ok (.getfield 26, 3) := by decide +kernel
theorem dX11_told_61 : decode cX11_told 61 = .ok (.iload_n 1, 1) := by decide +kernel
theorem dX11_told_62 : decode cX11_told 62 = .ok (.invokevirtual 173, 3) := by decide +kernel
theorem dX11_told_65 : decode cX11_told 65 = .ok (.ireturn, 1) := by decide +kernel
theorem dX11_told_66 : decode cX11_told 66 = .ok (.aload_n 0, 1) := by decide +kernel
theorem dX11_told_67 : decode cX11_told 67 = .ok (.getfield 26, 3) := by decide +kernel
theorem dX11_told_70 : decode cX11_told 70 = .ok (.iload_n 1, 1) := by decide +kernel
theorem dX11_told_71 : decode cX11_told 71 = .ok (.invokevirtual 188, 3) := by decide +kernel
theorem dX11_told_74 : decode cX11_told 74 = .ok (.ireturn, 1) := by decide +kernel
theorem dX11_told_75 : decode cX11_told 75 = .ok (.aload_n 0, 1) := by decide +kernel
theorem dX11_told_76 : decode cX11_told 76 = .ok (.getfield 26, 3) := by decide +kernel
theorem dX11_told_79 : decode cX11_told 79 = .ok (.iload_n 1, 1) := by decide +kernel
theorem dX11_told_80 : decode cX11_told 80 = .ok (.invokevirtual 191, 3) := by decide +kernel
theorem dX11_told_83 : decode cX11_told 83 = .ok (.ireturn, 1) := by decide +kernel
theorem dX11_told_84 : decode cX11_told 84 = .ok (.aload_n 0, 1) := by decide +kernel
theorem dX11_told_85 : decode cX11_told 85 = .ok (.getfield 26, 3) := by decide +kernel
theorem dX11_told_88 : decode cX11_told 88 = .ok (.aload_n 0, 1) := by decide +kernel
theorem dX11_told_89 : decode cX11_told 89 = .ok (.getfield 26, 3) := by decide +kernel
theorem dX11_told_92 : decode cX11_told 92 = .ok (.iload_n 1, 1) := by decide +kernel
theorem dX11_told_93 : decode cX11_told 93 = .ok (.invokevirtual 173, 3) := by decide +kernel
theorem dX11_told_96 : decode cX11_told 96 = .ok (.invokevirtual 194, 3) := by decide +kernel
theorem dX11_told_99 : decode cX11_told 99 = .ok (.iload_n 1, 1) := by decide +kernel
theorem dX11_told_100 : decode cX11_told 100 = .ok (.if_icmp .ne 7, 3) := by decide +kernel
theorem dX11_told_103 : decode cX11_told 103 = .ok (.iconst 1, 1) := by decide +kernel
theorem dX11_told_104 : decode cX11_told 104 = .ok (.goto 4, 3) := by decide +kernel
theorem dX11_told_107 : decode cX11_told 107 = .ok (.iconst 0, 1) := by decide +kernel
theorem dX11_told_108 : decode cX11_told 108 = .ok (.invokestatic 137, 3) := by decide +kernel
theorem dX11_told_111 : decode cX11_told 111 = .ok (.ireturn, 1) := by decide +kernel
theorem dX11_told_112 : decode cX11_told 112 = .ok (.ldc 109, 2) := by decide +kernel
theorem dX11_told_114 : decode cX11_told 114 = .ok (.ireturn, 1) := by decide +kernel

set_option maxHeartbeats 4000000 in
set_option maxRecDepth 100000 in
theorem c_X11_told (l : Launch) (E : Ev) {A : Nat → Prop} (ad : Nat → Nat) (hA : Oka 39 ad A) (sc : Nat → Int32) (ar : Nat → Nat → Int32) (bl : Int64) {nW : Nat} (x : Int32) (y : Int32) (hW : sc 5 = nI nW) (hW60 : nW ≤ 60) : Ct l E yX11_told (.code yX11_told cX11_told 3 (some .int)) ({ frames := 4, cells := 0, slots := 0, locals := 90 }) A (cw E ad sc ar bl) [.ref (ad 0), .int x, .int y] (some (.int (if inx x (nI nW) = true then if y = nI 0 then ar 16 (tn x) else (if y = nI 1 then ar 17 (tn x) else (if y = nI 2 then ar 18 (tn x) else (if y = nI 3 then ctot (ar 19) (tn x) else (if y = nI 4 then if ctel nW (ar 17) (ar 19) (ar 17 (tn x)) = x then nI 1 else nI 0 else ((-1000000001)))))) else ((-1000000001))))) (cw E ad sc ar bl) := by
  refine Ct.of (lv := [(0, .ref (ad 0)), (1, .int x), (2, .int y)]) (by decide +kernel) (Nat.le_of_ble_eq_true rfl) rfl ?_
  intro zp ze zs zm za zb zh zc hc
  refine g_aload_n (pc := 0) hc 0 dX11_told_0 rfl rfl ?_
  refine gf_c0_walks (pc := 1) hc tw_257 dX11_told_1 ?_
  refine g_iload_n (pc := 4) hc 1 dX11_told_4 rfl rfl ?_
  refine g_callVi (pc := 5) (rest := []) (As := [.int x]) hc (c_X10_has l E ad hA sc ar bl x) mi_X10_has tw_392 3 rfl rfl rfl rfl ⟨rfl, rfl, by decide, by decide⟩ (Nat.le_of_ble_eq_true rfl) ⟨Nat.le_refl _, Nat.le_refl _⟩ rfl dX11_told_5 ?_
  refine g_if_ne_b (pc := 8) hc 14 dX11_told_8 (by decide) (fun c1 => ?_) (fun c1 => ?_)
  · rw [hW] at c1
    obtain ⟨i, hi, hx⟩ := inx_of (by omega) c1
    refine g_eq (ws' := cw E ad sc ar bl) (lv' := [(0, .ref (ad 0)), (1, .int (nI i)), (2, .int y)]) rfl (by rw [hx]) rfl ?_
    refine g_iload_n (pc := 14) hc 2 dX11_told_14 rfl rfl ?_
    by_cases c2 : y = nI 0
    · refine g_tableIn (pc := 15) hc 48 dX11_told_15 (by rw [c2]; decide) (by rw [c2]; decide) (off := 33) (by rw [c2]; rfl) (by decide) ?_
      refine g_aload_n (pc := 48) hc 0 dX11_told_48 rfl rfl ?_
      refine gf_c0_walks (pc := 49) hc tw_257 dX11_told_49 ?_
      refine g_iload_n (pc := 52) hc 1 dX11_told_52 rfl rfl ?_
      refine g_callVi (pc := 53) (rest := []) (As := [.int (nI i)]) hc (c_X10_walkerOf l E ad hA sc ar bl i (by omega)) mi_X10_walkerOf tw_433 3 rfl rfl rfl rfl ⟨rfl, rfl, by decide, by decide⟩ (Nat.le_of_ble_eq_true rfl) ⟨Nat.le_refl _, Nat.le_refl _⟩ rfl dX11_told_53 ?_
      exact g_iret (pc := 56) hc dX11_told_56 (by (repeat (first | rw [if_pos c1] | rw [if_neg c1] | rw [if_neg (ne_true_of_eq_false c1)] | rw [if_pos c2] | rw [if_neg c2] | rw [if_neg (ne_true_of_eq_false c2)])); rw [hx, tn, nI_clamp (by omega)]) (rfl)
    by_cases c3 : y = nI 1
    · refine g_tableIn (pc := 15) hc 57 dX11_told_15 (by rw [c3]; decide) (by rw [c3]; decide) (off := 42) (by rw [c3]; rfl) (by decide) ?_
      refine g_aload_n (pc := 57) hc 0 dX11_told_57 rfl rfl ?_
      refine gf_c0_walks (pc := 58) hc tw_257 dX11_told_58 ?_
      refine g_iload_n (pc := 61) hc 1 dX11_told_61 rfl rfl ?_
      refine g_callVi (pc := 62) (rest := []) (As := [.int (nI i)]) hc (c_X10_rowOf l E ad hA sc ar bl i (by omega)) mi_X10_rowOf tw_405 3 rfl rfl rfl rfl ⟨rfl, rfl, by decide, by decide⟩ (Nat.le_of_ble_eq_true rfl) ⟨Nat.le_refl _, Nat.le_refl _⟩ rfl dX11_told_62 ?_
      exact g_iret (pc := 65) hc dX11_told_65 (by (repeat (first | rw [if_pos c1] | rw [if_neg c1] | rw [if_neg (ne_true_of_eq_false c1)] | rw [if_pos c2] | rw [if_neg c2] | rw [if_neg (ne_true_of_eq_false c2)] | rw [if_pos c3] | rw [if_neg c3] | rw [if_neg (ne_true_of_eq_false c3)])); rw [hx, tn, nI_clamp (by omega)]) (rfl)
    by_cases c4 : y = nI 2
    · refine g_tableIn (pc := 15) hc 66 dX11_told_15 (by rw [c4]; decide) (by rw [c4]; decide) (off := 51) (by rw [c4]; rfl) (by decide) ?_
      refine g_aload_n (pc := 66) hc 0 dX11_told_66 rfl rfl ?_
      refine gf_c0_walks (pc := 67) hc tw_257 dX11_told_67 ?_
      refine g_iload_n (pc := 70) hc 1 dX11_told_70 rfl rfl ?_
      refine g_callVi (pc := 71) (rest := []) (As := [.int (nI i)]) hc (c_X10_dayOf l E ad hA sc ar bl i (by omega)) mi_X10_dayOf tw_437 3 rfl rfl rfl rfl ⟨rfl, rfl, by decide, by decide⟩ (Nat.le_of_ble_eq_true rfl) ⟨Nat.le_refl _, Nat.le_refl _⟩ rfl dX11_told_71 ?_
      exact g_iret (pc := 74) hc dX11_told_74 (by (repeat (first | rw [if_pos c1] | rw [if_neg c1] | rw [if_neg (ne_true_of_eq_false c1)] | rw [if_pos c2] | rw [if_neg c2] | rw [if_neg (ne_true_of_eq_false c2)] | rw [if_pos c3] | rw [if_neg c3] | rw [if_neg (ne_true_of_eq_false c3)] | rw [if_pos c4] | rw [if_neg c4] | rw [if_neg (ne_true_of_eq_false c4)])); rw [hx, tn, nI_clamp (by omega)]) (rfl)
    by_cases c5 : y = nI 3
    · refine g_tableIn (pc := 15) hc 75 dX11_told_15 (by rw [c5]; decide) (by rw [c5]; decide) (off := 60) (by rw [c5]; rfl) (by decide) ?_
      refine g_aload_n (pc := 75) hc 0 dX11_told_75 rfl rfl ?_
      refine gf_c0_walks (pc := 76) hc tw_257 dX11_told_76 ?_
      refine g_iload_n (pc := 79) hc 1 dX11_told_79 rfl rfl ?_
      refine g_callVi (pc := 80) (rest := []) (As := [.int (nI i)]) hc (c_X10_total l E ad hA sc ar bl i (hW) (hW60) (by omega)) mi_X10_total tw_441 3 rfl rfl rfl rfl ⟨rfl, rfl, by decide, by decide⟩ (Nat.le_of_ble_eq_true rfl) ⟨Nat.le_refl _, Nat.le_refl _⟩ rfl dX11_told_80 ?_
      exact g_iret (pc := 83) hc dX11_told_83 (by (repeat (first | rw [if_pos c1] | rw [if_neg c1] | rw [if_neg (ne_true_of_eq_false c1)] | rw [if_pos c2] | rw [if_neg c2] | rw [if_neg (ne_true_of_eq_false c2)] | rw [if_pos c3] | rw [if_neg c3] | rw [if_neg (ne_true_of_eq_false c3)] | rw [if_pos c4] | rw [if_neg c4] | rw [if_neg (ne_true_of_eq_false c4)] | rw [if_pos c5] | rw [if_neg c5] | rw [if_neg (ne_true_of_eq_false c5)])); rw [hx, tn, nI_clamp (by omega)]) (rfl)
    by_cases c6 : y = nI 4
    · refine g_tableIn (pc := 15) hc 84 dX11_told_15 (by rw [c6]; decide) (by rw [c6]; decide) (off := 69) (by rw [c6]; rfl) (by decide) ?_
      refine g_aload_n (pc := 84) hc 0 dX11_told_84 rfl rfl ?_
      refine gf_c0_walks (pc := 85) hc tw_257 dX11_told_85 ?_
      refine g_aload_n (pc := 88) hc 0 dX11_told_88 rfl rfl ?_
      refine gf_c0_walks (pc := 89) hc tw_257 dX11_told_89 ?_
      refine g_iload_n (pc := 92) hc 1 dX11_told_92 rfl rfl ?_
      refine g_callVi (pc := 93) (rest := [.ref (ad 3)]) (As := [.int (nI i)]) hc (c_X10_rowOf l E ad hA sc ar bl i (by omega)) mi_X10_rowOf tw_405 3 rfl rfl rfl rfl ⟨rfl, rfl, by decide, by decide⟩ (Nat.le_of_ble_eq_true rfl) ⟨Nat.le_refl _, Nat.le_refl _⟩ rfl dX11_told_93 ?_
      refine g_callVi (pc := 96) (rest := []) (As := [.int ((ar 17) i)]) hc (c_X10_teller l E ad hA sc ar bl ((ar 17) i) (hW) (hW60)) mi_X10_teller tw_450 3 rfl rfl rfl rfl ⟨rfl, rfl, by decide, by decide⟩ (Nat.le_of_ble_eq_true rfl) ⟨Nat.le_refl _, Nat.le_refl _⟩ rfl dX11_told_96 ?_
      refine g_iload_n (pc := 99) hc 1 dX11_told_99 rfl rfl ?_
      refine g_icmp_ne (pc := 100) hc 107 dX11_told_100 (by decide) (fun c7 => ?_) (fun c7 => ?_)
      · refine g_iconst (pc := 107) (v := nI 0) hc dX11_told_107 (by decide) ?_
        refine g_callSi (pc := 108) (rest := []) (As := [.int (nI 0)]) hc (c_X11_toInt l E ad hA sc ar bl (nI 0)) mi_X11_toInt tw_351 rfl ⟨rfl, rfl, by decide, by decide⟩ (Nat.le_of_ble_eq_true rfl) ⟨Nat.le_refl _, Nat.le_refl _⟩ rfl dX11_told_108 ?_
        refine g_topi (v := nI 0) (toI_0) ?_
        exact g_iret (pc := 111) hc dX11_told_111 (by (repeat (first | rw [if_pos c1] | rw [if_neg c1] | rw [if_neg (ne_true_of_eq_false c1)] | rw [if_pos c2] | rw [if_neg c2] | rw [if_neg (ne_true_of_eq_false c2)] | rw [if_pos c3] | rw [if_neg c3] | rw [if_neg (ne_true_of_eq_false c3)] | rw [if_pos c4] | rw [if_neg c4] | rw [if_neg (ne_true_of_eq_false c4)] | rw [if_pos c5] | rw [if_neg c5] | rw [if_neg (ne_true_of_eq_false c5)] | rw [if_pos c6] | rw [if_neg c6] | rw [if_neg (ne_true_of_eq_false c6)])); rw [hx, tn, nI_clamp (by omega)]; (repeat (first | rw [if_pos c7] | rw [if_neg c7] | rw [if_neg (ne_true_of_eq_false c7)]))) (rfl)
      · refine g_iconst (pc := 103) (v := nI 1) hc dX11_told_103 (by decide) ?_
        refine g_goto (pc := 104) hc 108 dX11_told_104 (by decide) ?_
        refine g_callSi (pc := 108) (rest := []) (As := [.int (nI 1)]) hc (c_X11_toInt l E ad hA sc ar bl (nI 1)) mi_X11_toInt tw_351 rfl ⟨rfl, rfl, by decide, by decide⟩ (Nat.le_of_ble_eq_true rfl) ⟨Nat.le_refl _, Nat.le_refl _⟩ rfl dX11_told_108 ?_
        refine g_topi (v := nI 1) (toI_1) ?_
        exact g_iret (pc := 111) hc dX11_told_111 (by (repeat (first | rw [if_pos c1] | rw [if_neg c1] | rw [if_neg (ne_true_of_eq_false c1)] | rw [if_pos c2] | rw [if_neg c2] | rw [if_neg (ne_true_of_eq_false c2)] | rw [if_pos c3] | rw [if_neg c3] | rw [if_neg (ne_true_of_eq_false c3)] | rw [if_pos c4] | rw [if_neg c4] | rw [if_neg (ne_true_of_eq_false c4)] | rw [if_pos c5] | rw [if_neg c5] | rw [if_neg (ne_true_of_eq_false c5)] | rw [if_pos c6] | rw [if_neg c6] | rw [if_neg (ne_true_of_eq_false c6)])); rw [hx, tn, nI_clamp (by omega)]; (repeat (first | rw [if_pos c7] | rw [if_neg c7] | rw [if_neg (ne_true_of_eq_false c7)]))) (rfl)
    refine g_tableOut (pc := 15) hc 112 dX11_told_15 (tsw_out5 c2 c3 c4 c5 c6) (by decide) ?_
    refine g_ldc (pc := 112) (v := (-1000000001)) hc tw_308 dX11_told_112 ?_
    exact g_iret (pc := 114) hc dX11_told_114 (by (repeat (first | rw [if_pos c1] | rw [if_neg c1] | rw [if_neg (ne_true_of_eq_false c1)] | rw [if_pos c2] | rw [if_neg c2] | rw [if_neg (ne_true_of_eq_false c2)] | rw [if_pos c3] | rw [if_neg c3] | rw [if_neg (ne_true_of_eq_false c3)] | rw [if_pos c4] | rw [if_neg c4] | rw [if_neg (ne_true_of_eq_false c4)] | rw [if_pos c5] | rw [if_neg c5] | rw [if_neg (ne_true_of_eq_false c5)] | rw [if_pos c6] | rw [if_neg c6] | rw [if_neg (ne_true_of_eq_false c6)]))) (rfl)
  · rw [hW] at c1
    refine g_ldc (pc := 11) (v := (-1000000001)) hc tw_308 dX11_told_11 ?_
    exact g_iret (pc := 13) hc dX11_told_13 (by (repeat (first | rw [if_pos c1] | rw [if_neg c1] | rw [if_neg (ne_true_of_eq_false c1)]))) (rfl)

theorem dX11_of_0 : decode cX11_of 0 = .ok (.aload_n 0, 1) := by decide +kernel
theorem dX11_of_1 : decode cX11_of 1 = .ok (.getfield 33, 3) := by decide +kernel
theorem dX11_of_4 : decode cX11_of 4 = .ok (.iload_n 1, 1) := by decide +kernel
theorem dX11_of_5 : decode cX11_of 5 = .ok (.invokevirtual 197, 3) := by decide +kernel
theorem dX11_of_8 : decode cX11_of 8 = .ok (.ifCond .ne 6, 3) := by decide +kernel
theorem dX11_of_11 : decode cX11_of 11 = .ok (.ldc 109, 2) := by decide +kernel
theorem dX11_of_13 : decode cX11_of 13 = .ok (.ireturn, 1) := by decide +kernel
theorem dX11_of_14 : decode cX11_of 14 = .ok (.iload_n 2, 1) := by decide +kernel
theorem dX11_of_15 : decode cX11_of 15 = .ok (.tableswitch 65 0 3 #[29, 38, 47, 56], 29) := by decide +kernel
theorem dX11_of_44 : decode cX11_of 44 = .ok (.aload_n 0, 1) := by decide +kernel
theorem dX11_of_45 : decode cX11_of 45 = .ok (.getfield 33, 3) := by decide +kernel
theorem dX11_of_48 : decode cX11_of 48 = .ok (.iload_n 1, 1) := by decide +kernel
theorem dX11_of_49 : decode cX11_of 49 = .ok (.invokevirtual 198, 3) := by decide +kernel
theorem dX11_of_52 : decode cX11_of 52 = .ok (.ireturn, 1) := by decide +kernel
theorem dX11_of_53 : decode cX11_of 53 = .ok (.aload_n 0, 1) := by decide +kernel
theorem dX11_of_54 : decode cX11_of 54 = .ok (.getfield 33, 3) := by decide +kernel
theorem dX11_of_57 : decode cX11_of 57 = .ok (.iload_n 1, 1) := by decide +kernel
theorem dX11_of_58 : decode cX11_of 58 = .ok (.invokevirtual 201, 3) := by decide +kernel
theorem dX11_of_61 : decode cX11_of 61 = .ok (.ireturn, 1) := by decide +kernel
theorem dX11_of_62 : decode cX11_of 62 = .ok (.aload_n 0, 1) := by decide +kernel
theorem dX11_of_63 : decode cX11_of 63 = .ok (.getfield 33, 3) := by decide +kernel
theorem dX11_of_66 : decode cX11_of 66 = .ok (.iload_n 1, 1) := by decide +kernel
theorem dX11_of_67 : decode cX11_of 67 = .ok (.invokevirtual 204, 3) := by decide +kernel
theorem dX11_of_70 : decode cX11_of 70 = .ok (.ireturn, 1) := by decide +kernel
theorem dX11_of_71 : decode cX11_of 71 = .ok (.aload_n 0, 1) := by decide +kernel
theorem dX11_of_72 : decode cX11_of 72 = .ok (.getfield 33, 3) := by decide +kernel
theorem dX11_of_75 : decode cX11_of 75 = .ok (.iload_n 1, 1) := by decide +kernel
theorem dX11_of_76 : decode cX11_of 76 = .ok (.invokevirtual 207, 3) := by decide +kernel
theorem dX11_of_79 : decode cX11_of 79 = .ok (.ireturn, 1) := by decide +kernel
theorem dX11_of_80 : decode cX11_of 80 = .ok (.ldc 109, 2) := by decide +kernel
theorem dX11_of_82 : decode cX11_of 82 = .ok (.ireturn, 1) := by decide +kernel

set_option maxHeartbeats 4000000 in
set_option maxRecDepth 100000 in
theorem c_X11_of (l : Launch) (E : Ev) {A : Nat → Prop} (ad : Nat → Nat) (hA : Oka 39 ad A) (sc : Nat → Int32) (ar : Nat → Nat → Int32) (bl : Int64) {nF : Nat} (x : Int32) (y : Int32) (hF : sc 6 = nI nF) (hF200 : nF ≤ 200) : Ct l E yX11_of (.code yX11_of cX11_of 3 (some .int)) ({ frames := 1, cells := 0, slots := 0, locals := 21 }) A (cw E ad sc ar bl) [.ref (ad 0), .int x, .int y] (some (.int (if inx x (nI nF) = true then if y = nI 0 then ar 21 (tn x) else (if y = nI 1 then ar 22 (tn x) else (if y = nI 2 then ar 23 (tn x) else (if y = nI 3 then ar 24 (tn x) else ((-1000000001))))) else ((-1000000001))))) (cw E ad sc ar bl) := by
  refine Ct.of (lv := [(0, .ref (ad 0)), (1, .int x), (2, .int y)]) (by decide +kernel) (Nat.le_of_ble_eq_true rfl) rfl ?_
  intro zp ze zs zm za zb zh zc hc
  refine g_aload_n (pc := 0) hc 0 dX11_of_0 rfl rfl ?_
  refine gf_c0_finds (pc := 1) hc tw_258 dX11_of_1 ?_
  refine g_iload_n (pc := 4) hc 1 dX11_of_4 rfl rfl ?_
  refine g_callVi (pc := 5) (rest := []) (As := [.int x]) hc (c_X1_has l E ad hA sc ar bl x) mi_X1_has tw_459 4 rfl rfl rfl rfl ⟨rfl, rfl, by decide, by decide⟩ (Nat.le_of_ble_eq_true rfl) ⟨Nat.le_refl _, Nat.le_refl _⟩ rfl dX11_of_5 ?_
  refine g_if_ne_b (pc := 8) hc 14 dX11_of_8 (by decide) (fun c1 => ?_) (fun c1 => ?_)
  · rw [hF] at c1
    obtain ⟨i, hi, hx⟩ := inx_of (by omega) c1
    refine g_eq (ws' := cw E ad sc ar bl) (lv' := [(0, .ref (ad 0)), (1, .int (nI i)), (2, .int y)]) rfl (by rw [hx]) rfl ?_
    refine g_iload_n (pc := 14) hc 2 dX11_of_14 rfl rfl ?_
    by_cases c2 : y = nI 0
    · refine g_tableIn (pc := 15) hc 44 dX11_of_15 (by rw [c2]; decide) (by rw [c2]; decide) (off := 29) (by rw [c2]; rfl) (by decide) ?_
      refine g_aload_n (pc := 44) hc 0 dX11_of_44 rfl rfl ?_
      refine gf_c0_finds (pc := 45) hc tw_258 dX11_of_45 ?_
      refine g_iload_n (pc := 48) hc 1 dX11_of_48 rfl rfl ?_
      refine g_callVi (pc := 49) (rest := []) (As := [.int (nI i)]) hc (c_X1_walkOf l E ad hA sc ar bl i (by omega)) mi_X1_walkOf tw_463 4 rfl rfl rfl rfl ⟨rfl, rfl, by decide, by decide⟩ (Nat.le_of_ble_eq_true rfl) ⟨Nat.le_refl _, Nat.le_refl _⟩ rfl dX11_of_49 ?_
      exact g_iret (pc := 52) hc dX11_of_52 (by (repeat (first | rw [if_pos c1] | rw [if_neg c1] | rw [if_neg (ne_true_of_eq_false c1)] | rw [if_pos c2] | rw [if_neg c2] | rw [if_neg (ne_true_of_eq_false c2)])); rw [hx, tn, nI_clamp (by omega)]) (rfl)
    by_cases c3 : y = nI 1
    · refine g_tableIn (pc := 15) hc 53 dX11_of_15 (by rw [c3]; decide) (by rw [c3]; decide) (off := 38) (by rw [c3]; rfl) (by decide) ?_
      refine g_aload_n (pc := 53) hc 0 dX11_of_53 rfl rfl ?_
      refine gf_c0_finds (pc := 54) hc tw_258 dX11_of_54 ?_
      refine g_iload_n (pc := 57) hc 1 dX11_of_57 rfl rfl ?_
      refine g_callVi (pc := 58) (rest := []) (As := [.int (nI i)]) hc (c_X1_paceOf l E ad hA sc ar bl i (by omega)) mi_X1_paceOf tw_467 4 rfl rfl rfl rfl ⟨rfl, rfl, by decide, by decide⟩ (Nat.le_of_ble_eq_true rfl) ⟨Nat.le_refl _, Nat.le_refl _⟩ rfl dX11_of_58 ?_
      exact g_iret (pc := 61) hc dX11_of_61 (by (repeat (first | rw [if_pos c1] | rw [if_neg c1] | rw [if_neg (ne_true_of_eq_false c1)] | rw [if_pos c2] | rw [if_neg c2] | rw [if_neg (ne_true_of_eq_false c2)] | rw [if_pos c3] | rw [if_neg c3] | rw [if_neg (ne_true_of_eq_false c3)])); rw [hx, tn, nI_clamp (by omega)]) (rfl)
    by_cases c4 : y = nI 2
    · refine g_tableIn (pc := 15) hc 62 dX11_of_15 (by rw [c4]; decide) (by rw [c4]; decide) (off := 47) (by rw [c4]; rfl) (by decide) ?_
      refine g_aload_n (pc := 62) hc 0 dX11_of_62 rfl rfl ?_
      refine gf_c0_finds (pc := 63) hc tw_258 dX11_of_63 ?_
      refine g_iload_n (pc := 66) hc 1 dX11_of_66 rfl rfl ?_
      refine g_callVi (pc := 67) (rest := []) (As := [.int (nI i)]) hc (c_X1_kindOf l E ad hA sc ar bl i (by omega)) mi_X1_kindOf tw_471 4 rfl rfl rfl rfl ⟨rfl, rfl, by decide, by decide⟩ (Nat.le_of_ble_eq_true rfl) ⟨Nat.le_refl _, Nat.le_refl _⟩ rfl dX11_of_67 ?_
      exact g_iret (pc := 70) hc dX11_of_70 (by (repeat (first | rw [if_pos c1] | rw [if_neg c1] | rw [if_neg (ne_true_of_eq_false c1)] | rw [if_pos c2] | rw [if_neg c2] | rw [if_neg (ne_true_of_eq_false c2)] | rw [if_pos c3] | rw [if_neg c3] | rw [if_neg (ne_true_of_eq_false c3)] | rw [if_pos c4] | rw [if_neg c4] | rw [if_neg (ne_true_of_eq_false c4)])); rw [hx, tn, nI_clamp (by omega)]) (rfl)
    by_cases c5 : y = nI 3
    · refine g_tableIn (pc := 15) hc 71 dX11_of_15 (by rw [c5]; decide) (by rw [c5]; decide) (off := 56) (by rw [c5]; rfl) (by decide) ?_
      refine g_aload_n (pc := 71) hc 0 dX11_of_71 rfl rfl ?_
      refine gf_c0_finds (pc := 72) hc tw_258 dX11_of_72 ?_
      refine g_iload_n (pc := 75) hc 1 dX11_of_75 rfl rfl ?_
      refine g_callVi (pc := 76) (rest := []) (As := [.int (nI i)]) hc (c_X1_numberOf l E ad hA sc ar bl i (by omega)) mi_X1_numberOf tw_475 4 rfl rfl rfl rfl ⟨rfl, rfl, by decide, by decide⟩ (Nat.le_of_ble_eq_true rfl) ⟨Nat.le_refl _, Nat.le_refl _⟩ rfl dX11_of_76 ?_
      exact g_iret (pc := 79) hc dX11_of_79 (by (repeat (first | rw [if_pos c1] | rw [if_neg c1] | rw [if_neg (ne_true_of_eq_false c1)] | rw [if_pos c2] | rw [if_neg c2] | rw [if_neg (ne_true_of_eq_false c2)] | rw [if_pos c3] | rw [if_neg c3] | rw [if_neg (ne_true_of_eq_false c3)] | rw [if_pos c4] | rw [if_neg c4] | rw [if_neg (ne_true_of_eq_false c4)] | rw [if_pos c5] | rw [if_neg c5] | rw [if_neg (ne_true_of_eq_false c5)])); rw [hx, tn, nI_clamp (by omega)]) (rfl)
    refine g_tableOut (pc := 15) hc 80 dX11_of_15 (tsw_out4 c2 c3 c4 c5) (by decide) ?_
    refine g_ldc (pc := 80) (v := (-1000000001)) hc tw_308 dX11_of_80 ?_
    exact g_iret (pc := 82) hc dX11_of_82 (by (repeat (first | rw [if_pos c1] | rw [if_neg c1] | rw [if_neg (ne_true_of_eq_false c1)] | rw [if_pos c2] | rw [if_neg c2] | rw [if_neg (ne_true_of_eq_false c2)] | rw [if_pos c3] | rw [if_neg c3] | rw [if_neg (ne_true_of_eq_false c3)] | rw [if_pos c4] | rw [if_neg c4] | rw [if_neg (ne_true_of_eq_false c4)] | rw [if_pos c5] | rw [if_neg c5] | rw [if_neg (ne_true_of_eq_false c5)]))) (rfl)
  · rw [hF] at c1
    refine g_ldc (pc := 11) (v := (-1000000001)) hc tw_308 dX11_of_11 ?_
    exact g_iret (pc := 13) hc dX11_of_13 (by (repeat (first | rw [if_pos c1] | rw [if_neg c1] | rw [if_neg (ne_true_of_eq_false c1)]))) (rfl)

theorem dX11_count_0 : decode cX11_count 0 = .ok (.aload_n 0, 1) := by decide +kernel
theorem dX11_count_1 : decode cX11_count 1 = .ok (.getfield 10, 3) := by decide +kernel
theorem dX11_count_4 : decode cX11_count 4 = .ok (.iload_n 1, 1) := by decide +kernel
theorem dX11_count_5 : decode cX11_count 5 = .ok (.invokevirtual 166, 3) := by decide +kernel
theorem dX11_count_8 : decode cX11_count 8 = .ok (.ifCond .eq 10, 3) := by decide +kernel
theorem dX11_count_11 : decode cX11_count 11 = .ok (.iload_n 2, 1) := by decide +kernel
theorem dX11_count_12 : decode cX11_count 12 = .ok (.invokestatic 122, 3) := by decide +kernel
theorem dX11_count_15 : decode cX11_count 15 = .ok (.ifCond .ne 6, 3) := by decide +kernel
theorem dX11_count_18 : decode cX11_count 18 = .ok (.ldc 109, 2) := by decide +kernel
theorem dX11_count_20 : decode cX11_count 20 = .ok (.ireturn, 1) := by decide +kernel
theorem dX11_count_21 : decode cX11_count 21 = .ok (.aload_n 0, 1) := by decide +kernel
theorem dX11_count_22 : decode cX11_count 22 = .ok (.getfield 26, 3) := by decide +kernel
theorem dX11_count_25 : decode cX11_count 25 = .ok (.aload_n 0, 1) := by decide +kernel
theorem dX11_count_26 : decode cX11_count 26 = .ok (.iload_n 1, 1) := by decide +kernel
theorem dX11_count_27 : decode cX11_count 27 = .ok (.invokevirtual 210, 3) := by decide +kernel
theorem dX11_count_30 : decode cX11_count 30 = .ok (.aload_n 0, 1) := by decide +kernel
theorem dX11_count_31 : decode cX11_count 31 = .ok (.getfield 10, 3) := by decide +kernel
theorem dX11_count_34 : decode cX11_count 34 = .ok (.iload_n 1, 1) := by decide +kernel
theorem dX11_count_35 : decode cX11_count 35 = .ok (.invokevirtual 175, 3) := by decide +kernel
theorem dX11_count_38 : decode cX11_count 38 = .ok (.iload_n 2, 1) := by decide +kernel
theorem dX11_count_39 : decode cX11_count 39 = .ok (.invokevirtual 213, 3) := by decide +kernel
theorem dX11_count_42 : decode cX11_count 42 = .ok (.ireturn, 1) := by decide +kernel

set_option maxHeartbeats 4000000 in
set_option maxRecDepth 100000 in
theorem c_X11_count (l : Launch) (E : Ev) {A : Nat → Prop} (ad : Nat → Nat) (hA : Oka 39 ad A) (sc : Nat → Int32) (ar : Nat → Nat → Int32) (bl : Int64) {nW wd hg : Nat} (x : Int32) (y : Int32) (hW : sc 5 = nI nW) (hW60 : nW ≤ 60) (hwd : sc 3 = nI wd) (hwd1 : 2 ≤ wd) (hwd2 : wd ≤ 8) (hhg : sc 4 = nI hg) (hhg1 : 2 ≤ hg) (hhg2 : hg ≤ 8) : Ct l E yX11_count (.code yX11_count cX11_count 3 (some .int)) ({ frames := 5, cells := 0, slots := 0, locals := 111 }) A (cw E ad sc ar bl) [.ref (ad 0), .int x, .int y] (some (.int (if ok2 (inx x (nI (wd * hg))) (inr y (nI 0) (nI 3)) = true then brn (sc 5) (ar 20) (ctel nW (ar 17) (ar 19) (nI (tn x / wd))) (tn x % wd) (tn y) else (-1000000001)))) (cw E ad sc ar bl) := by
  have hm := prod64 hwd2 hhg2
  refine Ct.of (lv := [(0, .ref (ad 0)), (1, .int x), (2, .int y)]) (by decide +kernel) (Nat.le_of_ble_eq_true rfl) rfl ?_
  intro zp ze zs zm za zb zh zc hc
  refine g_aload_n (pc := 0) hc 0 dX11_count_0 rfl rfl ?_
  refine gf_c0_ground (pc := 1) hc tw_255 dX11_count_1 ?_
  refine g_iload_n (pc := 4) hc 1 dX11_count_4 rfl rfl ?_
  refine g_callVi (pc := 5) (rest := []) (As := [.int x]) hc (c_X2_hasPace l E ad hA sc ar bl x (hwd) (hwd1) (hwd2) (hhg) (hhg1) (hhg2)) mi_X2_hasPace tw_396 1 rfl rfl rfl rfl ⟨rfl, rfl, by decide, by decide⟩ (Nat.le_of_ble_eq_true rfl) ⟨Nat.le_refl _, Nat.le_refl _⟩ rfl dX11_count_5 ?_
  refine g_if_eq_b (pc := 8) hc 18 dX11_count_8 (by decide) (fun c1 => ?_) (fun c1 => ?_)
  · refine g_ldc (pc := 18) (v := (-1000000001)) hc tw_308 dX11_count_18 ?_
    exact g_iret (pc := 20) hc dX11_count_20 (by rw [if_neg (ne_true_of_eq_false (ok2_f1 c1))]) (rfl)
  · obtain ⟨p, hp, hx⟩ := inx_of (by omega) c1
    have hcol : p % wd < wd := Nat.mod_lt _ (by omega)
    refine g_iload_n (pc := 11) hc 2 dX11_count_11 rfl rfl ?_
    refine g_callSi (pc := 12) (rest := []) (As := [.int y]) hc (c_X11_isKind l E ad hA sc ar bl y) mi_X11_isKind tw_332 rfl ⟨rfl, rfl, by decide, by decide⟩ (Nat.le_of_ble_eq_true rfl) ⟨Nat.le_refl _, Nat.le_refl _⟩ rfl dX11_count_12 ?_
    refine g_if_ne_b (pc := 15) hc 21 dX11_count_15 (by decide) (fun c2 => ?_) (fun c2 => ?_)
    · obtain ⟨j, hj1, hj2, hy⟩ := inr_of (by decide) c2 (by decide)
      refine g_eq (ws' := cw E ad sc ar bl) (lv' := [(0, .ref (ad 0)), (1, .int (nI p)), (2, .int (nI j))]) rfl (by rw [hx, hy]) rfl ?_
      refine g_aload_n (pc := 21) hc 0 dX11_count_21 rfl rfl ?_
      refine gf_c0_walks (pc := 22) hc tw_257 dX11_count_22 ?_
      refine g_aload_n (pc := 25) hc 0 dX11_count_25 rfl rfl ?_
      refine g_iload_n (pc := 26) hc 1 dX11_count_26 rfl rfl ?_
      refine g_callVi (pc := 27) (rest := [.ref (ad 3)]) (As := [.int (nI p)]) hc (c_X11_tellerAt l E ad hA sc ar bl p (hW) (hW60) (hwd) (hwd1) (hwd2) (hhg) (hhg1) (hhg2) (by omega)) mi_X11_tellerAt tw_483 0 rfl rfl rfl rfl ⟨rfl, rfl, by decide, by decide⟩ (Nat.le_of_ble_eq_true rfl) ⟨Nat.le_refl _, Nat.le_refl _⟩ rfl dX11_count_27 ?_
      refine g_aload_n (pc := 30) hc 0 dX11_count_30 rfl rfl ?_
      refine gf_c0_ground (pc := 31) hc tw_255 dX11_count_31 ?_
      refine g_iload_n (pc := 34) hc 1 dX11_count_34 rfl rfl ?_
      refine g_callVi (pc := 35) (rest := [.int (ctel nW (ar 17) (ar 19) (nI (p / wd))), .ref (ad 3)]) (As := [.int (nI p)]) hc (c_X2_columnOf l E ad hA sc ar bl p (hwd) (hwd1) (hwd2) (hhg) (hhg1) (hhg2) (by omega)) mi_X2_columnOf tw_413 1 rfl rfl rfl rfl ⟨rfl, rfl, by decide, by decide⟩ (Nat.le_of_ble_eq_true rfl) ⟨Nat.le_refl _, Nat.le_refl _⟩ rfl dX11_count_35 ?_
      refine g_iload_n (pc := 38) hc 2 dX11_count_38 rfl rfl ?_
      refine g_callVi (pc := 39) (rest := []) (As := [.int (ctel nW (ar 17) (ar 19) (nI (p / wd))), .int (nI (p % wd)), .int (nI j)]) hc (c_X10_borne l E ad hA sc ar bl (ctel nW (ar 17) (ar 19) (nI (p / wd))) (p % wd) j (hW) (hW60) (by omega) (by omega)) mi_X10_borne tw_487 3 rfl rfl rfl rfl ⟨rfl, rfl, by decide, by decide⟩ (Nat.le_of_ble_eq_true rfl) ⟨Nat.le_refl _, Nat.le_refl _⟩ rfl dX11_count_39 ?_
      exact g_iret (pc := 42) hc dX11_count_42 (by rw [if_pos (ok2_t c1 c2), hx, hy, tn, tn, nI_clamp (by omega), nI_clamp (by omega)]) (rfl)
    · refine g_ldc (pc := 18) (v := (-1000000001)) hc tw_308 dX11_count_18 ?_
      exact g_iret (pc := 20) hc dX11_count_20 (by rw [if_neg (ne_true_of_eq_false (ok2_f2 c1 c2))]) (rfl)

theorem dX11_corrected_0 : decode cX11_corrected 0 = .ok (.aload_n 0, 1) := by decide +kernel
theorem dX11_corrected_1 : decode cX11_corrected 1 = .ok (.getfield 10, 3) := by decide +kernel
theorem dX11_corrected_4 : decode cX11_corrected 4 = .ok (.iload_n 1, 1) := by decide +kernel
theorem dX11_corrected_5 : decode cX11_corrected 5 = .ok (.invokevirtual 166, 3) := by decide +kernel
theorem dX11_corrected_8 : decode cX11_corrected 8 = .ok (.ifCond .eq 10, 3) := by decide +kernel
theorem dX11_corrected_11 : decode cX11_corrected 11 = .ok (.iload_n 2, 1) := by decide +kernel
theorem dX11_corrected_12 : decode cX11_corrected 12 = .ok (.invokestatic 122, 3) := by decide +kernel
theorem dX11_corrected_15 : decode cX11_corrected 15 = .ok (.ifCond .ne 6, 3) := by decide +kernel
theorem dX11_corrected_18 : decode cX11_corrected 18 = .ok (.ldc 109, 2) := by decide +kernel
theorem dX11_corrected_20 : decode cX11_corrected 20 = .ok (.ireturn, 1) := by decide +kernel
theorem dX11_corrected_21 : decode cX11_corrected 21 = .ok (.aload_n 0, 1) := by decide +kernel
theorem dX11_corrected_22 : decode cX11_corrected 22 = .ok (.iload_n 1, 1) := by decide +kernel
theorem dX11_corrected_23 : decode cX11_corrected 23 = .ok (.invokevirtual 210, 3) := by decide +kernel
theorem dX11_corrected_26 : decode cX11_corrected 26 = .ok (.istore_n 3, 1) := by decide +kernel
theorem dX11_corrected_27 : decode cX11_corrected 27 = .ok (.aload_n 0, 1) := by decide +kernel
theorem dX11_corrected_28 : decode cX11_corrected 28 = .ok (.getfield 26, 3) := by decide +kernel
theorem dX11_corrected_31 : decode cX11_corrected 31 = .ok (.iload_n 3, 1) := by decide +kernel
theorem dX11_corrected_32 : decode cX11_corrected 32 = .ok (.aload_n 0, 1) := by decide +kernel
theorem dX11_corrected_33 : decode cX11_corrected 33 = .ok (.getfield 10, 3) := by decide +kernel
theorem dX11_corrected_36 : decode cX11_corrected 36 = .ok (.iload_n 1, 1) := by decide +kernel
theorem dX11_corrected_37 : decode cX11_corrected 37 = .ok (.invokevirtual 175, 3) := by decide +kernel
theorem dX11_corrected_40 : decode cX11_corrected 40 = .ok (.iload_n 2, 1) := by decide +kernel
theorem dX11_corrected_41 : decode cX11_corrected 41 = .ok (.invokevirtual 213, 3) := by decide +kernel
theorem dX11_corrected_44 : decode cX11_corrected 44 = .ok (.istore 4, 2) := by decide +kernel
theorem dX11_corrected_46 : decode cX11_corrected 46 = .ok (.aload_n 0, 1) := by decide +kernel
theorem dX11_corrected_47 : decode cX11_corrected 47 = .ok (.getfield 83, 3) := by decide +kernel
theorem dX11_corrected_50 : decode cX11_corrected 50 = .ok (.iload_n 2, 1) := by decide +kernel
theorem dX11_corrected_51 : decode cX11_corrected 51 = .ok (.iload 4, 2) := by decide +kernel
theorem dX11_corrected_53 : decode cX11_corrected 53 = .ok (.aload_n 0, 1) := by decide +kernel
theorem dX11_corrected_54 : decode cX11_corrected 54 = .ok (.getfield 83, 3) := by decide +kernel
theorem dX11_corrected_57 : decode cX11_corrected 57 = .ok (.iload_n 3, 1) := by decide +kernel
theorem dX11_corrected_58 : decode cX11_corrected 58 = .ok (.invokevirtual 232, 3) := by decide +kernel
theorem dX11_corrected_61 : decode cX11_corrected 61 = .ok (.invokevirtual 235, 3) := by decide +kernel
theorem dX11_corrected_64 : decode cX11_corrected 64 = .ok (.ireturn, 1) := by decide +kernel

set_option maxHeartbeats 4000000 in
set_option maxRecDepth 100000 in
theorem c_X11_corrected (l : Launch) (E : Ev) {A : Nat → Prop} (ad : Nat → Nat) (hA : Oka 39 ad A) (sc : Nat → Int32) (ar : Nat → Nat → Int32) (bl : Int64) {nW wd hg : Nat} (x : Int32) (y : Int32) (hW : sc 5 = nI nW) (hW60 : nW ≤ 60) (hwd : sc 3 = nI wd) (hwd1 : 2 ≤ wd) (hwd2 : wd ≤ 8) (hhg : sc 4 = nI hg) (hhg1 : 2 ≤ hg) (hhg2 : hg ≤ 8) : Ct l E yX11_corrected (.code yX11_corrected cX11_corrected 5 (some .int)) ({ frames := 5, cells := 0, slots := 0, locals := 113 }) A (cw E ad sc ar bl) [.ref (ad 0), .int x, .int y] (some (.int (if ok2 (inx x (nI (wd * hg))) (inr y (nI 0) (nI 3)) = true then amd (ar 15) (tn y) (brn (sc 5) (ar 20) (ctel nW (ar 17) (ar 19) (nI (tn x / wd))) (tn x % wd) (tn y)) (oft (ar 15) (ar 16) (ar 17) (ar 19) nW (ctel nW (ar 17) (ar 19) (nI (tn x / wd)))) else (-1000000001)))) (cw E ad sc ar bl) := by
  have hm := prod64 hwd2 hhg2
  refine Ct.of (lv := [(0, .ref (ad 0)), (1, .int x), (2, .int y)]) (by decide +kernel) (Nat.le_of_ble_eq_true rfl) rfl ?_
  intro zp ze zs zm za zb zh zc hc
  refine g_aload_n (pc := 0) hc 0 dX11_corrected_0 rfl rfl ?_
  refine gf_c0_ground (pc := 1) hc tw_255 dX11_corrected_1 ?_
  refine g_iload_n (pc := 4) hc 1 dX11_corrected_4 rfl rfl ?_
  refine g_callVi (pc := 5) (rest := []) (As := [.int x]) hc (c_X2_hasPace l E ad hA sc ar bl x (hwd) (hwd1) (hwd2) (hhg) (hhg1) (hhg2)) mi_X2_hasPace tw_396 1 rfl rfl rfl rfl ⟨rfl, rfl, by decide, by decide⟩ (Nat.le_of_ble_eq_true rfl) ⟨Nat.le_refl _, Nat.le_refl _⟩ rfl dX11_corrected_5 ?_
  refine g_if_eq_b (pc := 8) hc 18 dX11_corrected_8 (by decide) (fun c1 => ?_) (fun c1 => ?_)
  · refine g_ldc (pc := 18) (v := (-1000000001)) hc tw_308 dX11_corrected_18 ?_
    exact g_iret (pc := 20) hc dX11_corrected_20 (by rw [if_neg (ne_true_of_eq_false (ok2_f1 c1))]) (rfl)
  · obtain ⟨p, hp, hx⟩ := inx_of (by omega) c1
    have hcol : p % wd < wd := Nat.mod_lt _ (by omega)
    refine g_iload_n (pc := 11) hc 2 dX11_corrected_11 rfl rfl ?_
    refine g_callSi (pc := 12) (rest := []) (As := [.int y]) hc (c_X11_isKind l E ad hA sc ar bl y) mi_X11_isKind tw_332 rfl ⟨rfl, rfl, by decide, by decide⟩ (Nat.le_of_ble_eq_true rfl) ⟨Nat.le_refl _, Nat.le_refl _⟩ rfl dX11_corrected_12 ?_
    refine g_if_ne_b (pc := 15) hc 21 dX11_corrected_15 (by decide) (fun c2 => ?_) (fun c2 => ?_)
    · obtain ⟨j, hj1, hj2, hy⟩ := inr_of (by decide) c2 (by decide)
      refine g_eq (ws' := cw E ad sc ar bl) (lv' := [(0, .ref (ad 0)), (1, .int (nI p)), (2, .int (nI j))]) rfl (by rw [hx, hy]) rfl ?_
      refine g_aload_n (pc := 21) hc 0 dX11_corrected_21 rfl rfl ?_
      refine g_iload_n (pc := 22) hc 1 dX11_corrected_22 rfl rfl ?_
      refine g_callVi (pc := 23) (rest := []) (As := [.int (nI p)]) hc (c_X11_tellerAt l E ad hA sc ar bl p (hW) (hW60) (hwd) (hwd1) (hwd2) (hhg) (hhg1) (hhg2) (by omega)) mi_X11_tellerAt tw_483 0 rfl rfl rfl rfl ⟨rfl, rfl, by decide, by decide⟩ (Nat.le_of_ble_eq_true rfl) ⟨Nat.le_refl _, Nat.le_refl _⟩ rfl dX11_corrected_23 ?_
      refine g_istore_n (pc := 26) (lv' := [(0, .ref (ad 0)), (1, .int (nI p)), (2, .int (nI j)), (3, .int (ctel nW (ar 17) (ar 19) (nI (p / wd))))]) hc dX11_corrected_26 rfl (by decide) rfl ?_
      refine g_aload_n (pc := 27) hc 0 dX11_corrected_27 rfl rfl ?_
      refine gf_c0_walks (pc := 28) hc tw_257 dX11_corrected_28 ?_
      refine g_iload_n (pc := 31) hc 3 dX11_corrected_31 rfl rfl ?_
      refine g_aload_n (pc := 32) hc 0 dX11_corrected_32 rfl rfl ?_
      refine gf_c0_ground (pc := 33) hc tw_255 dX11_corrected_33 ?_
      refine g_iload_n (pc := 36) hc 1 dX11_corrected_36 rfl rfl ?_
      refine g_callVi (pc := 37) (rest := [.int (ctel nW (ar 17) (ar 19) (nI (p / wd))), .ref (ad 3)]) (As := [.int (nI p)]) hc (c_X2_columnOf l E ad hA sc ar bl p (hwd) (hwd1) (hwd2) (hhg) (hhg1) (hhg2) (by omega)) mi_X2_columnOf tw_413 1 rfl rfl rfl rfl ⟨rfl, rfl, by decide, by decide⟩ (Nat.le_of_ble_eq_true rfl) ⟨Nat.le_refl _, Nat.le_refl _⟩ rfl dX11_corrected_37 ?_
      refine g_iload_n (pc := 40) hc 2 dX11_corrected_40 rfl rfl ?_
      refine g_callVi (pc := 41) (rest := []) (As := [.int (ctel nW (ar 17) (ar 19) (nI (p / wd))), .int (nI (p % wd)), .int (nI j)]) hc (c_X10_borne l E ad hA sc ar bl (ctel nW (ar 17) (ar 19) (nI (p / wd))) (p % wd) j (hW) (hW60) (by omega) (by omega)) mi_X10_borne tw_487 3 rfl rfl rfl rfl ⟨rfl, rfl, by decide, by decide⟩ (Nat.le_of_ble_eq_true rfl) ⟨Nat.le_refl _, Nat.le_refl _⟩ rfl dX11_corrected_41 ?_
      refine g_istore (pc := 44) (lv' := [(0, .ref (ad 0)), (1, .int (nI p)), (2, .int (nI j)), (3, .int (ctel nW (ar 17) (ar 19) (nI (p / wd)))), (4, .int (brn (sc 5) (ar 20) (ctel nW (ar 17) (ar 19) (nI (p / wd))) (p % wd) j))]) hc dX11_corrected_44 (by decide) rfl ?_
      refine g_aload_n (pc := 46) hc 0 dX11_corrected_46 rfl rfl ?_
      refine gf_c0_eyes (pc := 47) hc tw_259 dX11_corrected_47 ?_
      refine g_iload_n (pc := 50) hc 2 dX11_corrected_50 rfl rfl ?_
      refine g_iload (pc := 51) hc 4 dX11_corrected_51 rfl ?_
      refine g_aload_n (pc := 53) hc 0 dX11_corrected_53 rfl rfl ?_
      refine gf_c0_eyes (pc := 54) hc tw_259 dX11_corrected_54 ?_
      refine g_iload_n (pc := 57) hc 3 dX11_corrected_57 rfl rfl ?_
      refine g_callVi (pc := 58) (rest := [.int (brn (sc 5) (ar 20) (ctel nW (ar 17) (ar 19) (nI (p / wd))) (p % wd) j), .int (nI j), .ref (ad 5)]) (As := [.int (ctel nW (ar 17) (ar 19) (nI (p / wd)))]) hc (c_X0_ofTeller l E ad hA sc ar bl (ctel nW (ar 17) (ar 19) (nI (p / wd))) (hW) (hW60)) mi_X0_ofTeller tw_558 5 rfl rfl rfl rfl ⟨rfl, rfl, by decide, by decide⟩ (Nat.le_of_ble_eq_true rfl) ⟨Nat.le_refl _, Nat.le_refl _⟩ rfl dX11_corrected_58 ?_
      refine g_callVi (pc := 61) (rest := []) (As := [.int (nI j), .int (brn (sc 5) (ar 20) (ctel nW (ar 17) (ar 19) (nI (p / wd))) (p % wd) j), .int (oft (ar 15) (ar 16) (ar 17) (ar 19) nW (ctel nW (ar 17) (ar 19) (nI (p / wd))))]) hc (c_X0_amend l E ad hA sc ar bl j (brn (sc 5) (ar 20) (ctel nW (ar 17) (ar 19) (nI (p / wd))) (p % wd) j) (oft (ar 15) (ar 16) (ar 17) (ar 19) nW (ctel nW (ar 17) (ar 19) (nI (p / wd)))) (by omega)) mi_X0_amend tw_564 5 rfl rfl rfl rfl ⟨rfl, rfl, by decide, by decide⟩ (Nat.le_of_ble_eq_true rfl) ⟨Nat.le_refl _, Nat.le_refl _⟩ rfl dX11_corrected_61 ?_
      exact g_iret (pc := 64) hc dX11_corrected_64 (by rw [if_pos (ok2_t c1 c2), hx, hy, tn, tn, nI_clamp (by omega), nI_clamp (by omega)]) (rfl)
    · refine g_ldc (pc := 18) (v := (-1000000001)) hc tw_308 dX11_corrected_18 ?_
      exact g_iret (pc := 20) hc dX11_corrected_20 (by rw [if_neg (ne_true_of_eq_false (ok2_f2 c1 c2))]) (rfl)

theorem dX11_gap_0 : decode cX11_gap 0 = .ok (.iconst 0, 1) := by decide +kernel
theorem dX11_gap_1 : decode cX11_gap 1 = .ok (.istore_n 1, 1) := by decide +kernel
theorem dX11_gap_2 : decode cX11_gap 2 = .ok (.iload_n 1, 1) := by decide +kernel
theorem dX11_gap_3 : decode cX11_gap 3 = .ok (.aload_n 0, 1) := by decide +kernel
theorem dX11_gap_4 : decode cX11_gap 4 = .ok (.getfield 10, 3) := by decide +kernel
theorem dX11_gap_7 : decode cX11_gap 7 = .ok (.invokevirtual 216, 3) := by decide +kernel
theorem dX11_gap_10 : decode cX11_gap 10 = .ok (.if_icmp .ge 23, 3) := by decide +kernel
theorem dX11_gap_13 : decode cX11_gap 13 = .ok (.aload_n 0, 1) := by decide +kernel
theorem dX11_gap_14 : decode cX11_gap 14 = .ok (.getfield 26, 3) := by decide +kernel
theorem dX11_gap_17 : decode cX11_gap 17 = .ok (.iload_n 1, 1) := by decide +kernel
theorem dX11_gap_18 : decode cX11_gap 18 = .ok (.invokevirtual 194, 3) := by decide +kernel
theorem dX11_gap_21 : decode cX11_gap 21 = .ok (.iconst (-1), 1) := by decide +kernel
theorem dX11_gap_22 : decode cX11_gap 22 = .ok (.if_icmp .ne 5, 3) := by decide +kernel
theorem dX11_gap_25 : decode cX11_gap 25 = .ok (.iload_n 1, 1) := by decide +kernel
theorem dX11_gap_26 : decode cX11_gap 26 = .ok (.ireturn, 1) := by decide +kernel
theorem dX11_gap_27 : decode cX11_gap 27 = .ok (.iinc 1 1, 3) := by decide +kernel
theorem dX11_gap_30 : decode cX11_gap 30 = .ok (.goto (-28), 3) := by decide +kernel
theorem dX11_gap_33 : decode cX11_gap 33 = .ok (.ldc 219, 2) := by decide +kernel
theorem dX11_gap_35 : decode cX11_gap 35 = .ok (.ireturn, 1) := by decide +kernel

set_option maxHeartbeats 4000000 in
set_option maxRecDepth 100000 in
theorem c_X11_gap (l : Launch) (E : Ev) {A : Nat → Prop} (ad : Nat → Nat) (hA : Oka 39 ad A) (sc : Nat → Int32) (ar : Nat → Nat → Int32) (bl : Int64) {nW wd hg : Nat}  (hW : sc 5 = nI nW) (hW60 : nW ≤ 60) (hwd : sc 3 = nI wd) (hwd1 : 2 ≤ wd) (hwd2 : wd ≤ 8) (hhg : sc 4 = nI hg) (hhg1 : 2 ≤ hg) (hhg2 : hg ≤ 8) : Ct l E yX11_gap (.code yX11_gap cX11_gap 2 (some .int)) ({ frames := 4, cells := 0, slots := 0, locals := 90 }) A (cw E ad sc ar bl) [.ref (ad 0)] (some (.int (if fstL (fun r => decide (ctel nW (ar 17) (ar 19) (nI r) = (-1))) hg = (-1) then (-1000000005) else fstL (fun r => decide (ctel nW (ar 17) (ar 19) (nI r) = (-1))) hg))) (cw E ad sc ar bl) := by
  refine Ct.of (lv := [(0, .ref (ad 0))]) (by decide +kernel) (Nat.le_of_ble_eq_true rfl) rfl ?_
  intro zp ze zs zm za zb zh zc hc
  refine g_iconst (pc := 0) (v := nI 0) hc dX11_gap_0 (by decide) ?_
  refine g_istore_n (pc := 1) (lv' := [(0, .ref (ad 0)), (1, .int (nI 0))]) hc dX11_gap_1 rfl (by decide) rfl ?_
  have L2_1 : ∀ (ki i : Nat), i + ki = hg → (hno : ∀ k, k < i → (fun r => decide (ctel nW (ar 17) (ar 19) (nI r) = (-1))) k = false) → G zp l ze ({ frames := 4, cells := 0, slots := 0, locals := 90 }) zs zm za zb zh zc 0 0 (MQ zb (Qz E A (some (.int (if fstL (fun r => decide (ctel nW (ar 17) (ar 19) (nI r) = (-1))) hg = (-1) then (-1000000005) else fstL (fun r => decide (ctel nW (ar 17) (ar 19) (nI r) = (-1))) hg))) (cw E ad sc ar bl)) za zs 0 0 A) E A 2 (cw E ad sc ar bl) (2) [(0, .ref (ad 0)), (1, .int (nI (i)))] [] := by
    intro ki
    induction ki with
    | zero =>
      intro i lhi hno
      have lhin : hg = i := by omega
      subst lhin
      refine g_iload_n (pc := 2) hc 1 dX11_gap_2 rfl rfl ?_
      refine g_aload_n (pc := 3) hc 0 dX11_gap_3 rfl rfl ?_
      refine gf_c0_ground (pc := 4) hc tw_255 dX11_gap_4 ?_
      refine g_callVi (pc := 7) (rest := [.int (nI (hg))]) (As := []) hc (c_X2_rows l E ad hA sc ar bl  (hwd) (hwd1) (hwd2) (hhg) (hhg1) (hhg2)) mi_X2_rows tw_495 1 rfl rfl rfl rfl ⟨rfl, rfl, by decide, by decide⟩ (Nat.le_of_ble_eq_true rfl) ⟨Nat.le_refl _, Nat.le_refl _⟩ rfl dX11_gap_7 ?_
      refine g_icmp_ge_t (pc := 10) hc 33 dX11_gap_10 (by decide) (nI_le (by omega) (by omega)) ?_
      refine g_ldc (pc := 33) (v := (-1000000005)) hc tw_499 dX11_gap_33 ?_
      exact g_iret (pc := 35) hc dX11_gap_35 (by rw [fstL_none hno, if_pos rfl]) (rfl)
    | succ ki ihi =>
      intro i lhi hno
      have lhin : i < hg := by omega
      refine g_iload_n (pc := 2) hc 1 dX11_gap_2 rfl rfl ?_
      refine g_aload_n (pc := 3) hc 0 dX11_gap_3 rfl rfl ?_
      refine gf_c0_ground (pc := 4) hc tw_255 dX11_gap_4 ?_
      refine g_callVi (pc := 7) (rest := [.int (nI (i))]) (As := []) hc (c_X2_rows l E ad hA sc ar bl  (hwd) (hwd1) (hwd2) (hhg) (hhg1) (hhg2)) mi_X2_rows tw_495 1 rfl rfl rfl rfl ⟨rfl, rfl, by decide, by decide⟩ (Nat.le_of_ble_eq_true rfl) ⟨Nat.le_refl _, Nat.le_refl _⟩ rfl dX11_gap_7 ?_
      refine g_icmp_ge_f (pc := 10) hc 33 dX11_gap_10 (by decide) (nI_ge (by omega) (by omega)) ?_
      refine g_aload_n (pc := 13) hc 0 dX11_gap_13 rfl rfl ?_
      refine gf_c0_walks (pc := 14) hc tw_257 dX11_gap_14 ?_
      refine g_iload_n (pc := 17) hc 1 dX11_gap_17 rfl rfl ?_
      refine g_callVi (pc := 18) (rest := []) (As := [.int (nI (i))]) hc (c_X10_teller l E ad hA sc ar bl (nI (i)) (hW) (hW60)) mi_X10_teller tw_450 3 rfl rfl rfl rfl ⟨rfl, rfl, by decide, by decide⟩ (Nat.le_of_ble_eq_true rfl) ⟨Nat.le_refl _, Nat.le_refl _⟩ rfl dX11_gap_18 ?_
      refine g_iconst (pc := 21) (v := (-1)) hc dX11_gap_21 (by decide) ?_
      refine g_icmp_ne (pc := 22) hc 27 dX11_gap_22 (by decide) (fun c2 => ?_) (fun c2 => ?_)
      · refine g_iinc (pc := 27) (v := nI (i + 1)) (lv' := [(0, .ref (ad 0)), (1, .int (nI (i + 1)))]) hc 1 dX11_gap_27 rfl (nI_ofi i 1) (by decide) rfl ?_
        refine g_goto (pc := 30) hc 2 dX11_gap_30 (by decide) ?_
        exact g_eq (ws' := cw E ad sc ar bl) (lv' := [(0, .ref (ad 0)), (1, .int (nI (i + 1)))]) (rfl) (rfl) rfl (ihi (i + 1) (by omega) (lt_s hno (decide_eq_false c2)))
      · refine g_iload_n (pc := 25) hc 1 dX11_gap_25 rfl rfl ?_
        exact g_iret (pc := 26) hc dX11_gap_26 (by rw [fstL_some hno (decide_eq_true c2) (by omega) lhin, if_neg (nI_ne_m1 (by omega))]) (rfl)
  exact g_eq (ws' := cw E ad sc ar bl) (lv' := [(0, .ref (ad 0)), (1, .int (nI (0)))]) (rfl) (rfl) rfl (L2_1 (hg - 0) (0) (by omega) (fun k hk => absurd hk (Nat.not_lt_zero k)))

theorem dX11_led_0 : decode cX11_led 0 = .ok (.aload_n 0, 1) := by decide +kernel
theorem dX11_led_1 : decode cX11_led 1 = .ok (.getfield 10, 3) := by decide +kernel
theorem dX11_led_4 : decode cX11_led 4 = .ok (.iload_n 1, 1) := by decide +kernel
theorem dX11_led_5 : decode cX11_led 5 = .ok (.invokevirtual 166, 3) := by decide +kernel
theorem dX11_led_8 : decode cX11_led 8 = .ok (.ifCond .eq 7, 3) := by decide +kernel
theorem dX11_led_11 : decode cX11_led 11 = .ok (.iload_n 2, 1) := by decide +kernel
theorem dX11_led_12 : decode cX11_led 12 = .ok (.ifCond .ge 6, 3) := by decide +kernel
theorem dX11_led_15 : decode cX11_led 15 = .ok (.ldc 109, 2) := by decide +kernel
theorem dX11_led_17 : decode cX11_led 17 = .ok (.ireturn, 1) := by decide +kernel
theorem dX11_led_18 : decode cX11_led 18 = .ok (.aload_n 0, 1) := by decide +kernel
theorem dX11_led_19 : decode cX11_led 19 = .ok (.getfield 33, 3) := by decide +kernel
theorem dX11_led_22 : decode cX11_led 22 = .ok (.aload_n 0, 1) := by decide +kernel
theorem dX11_led_23 : decode cX11_led 23 = .ok (.iload_n 1, 1) := by decide +kernel
theorem dX11_led_24 : decode cX11_led 24 = .ok (.invokevirtual 210, 3) := by decide +kernel
theorem dX11_led_27 : decode cX11_led 27 = .ok (.iload_n 1, 1) := by decide +kernel
theorem dX11_led_28 : decode cX11_led 28 = .ok (.iload_n 2, 1) := by decide +kernel
theorem dX11_led_29 : decode cX11_led 29 = .ok (.invokevirtual 220, 3) := by decide +kernel
theorem dX11_led_32 : decode cX11_led 32 = .ok (.istore_n 3, 1) := by decide +kernel
theorem dX11_led_33 : decode cX11_led 33 = .ok (.iload_n 3, 1) := by decide +kernel
theorem dX11_led_34 : decode cX11_led 34 = .ok (.iconst (-1), 1) := by decide +kernel
theorem dX11_led_35 : decode cX11_led 35 = .ok (.if_icmp .ne 8, 3) := by decide +kernel
theorem dX11_led_38 : decode cX11_led 38 = .ok (.ldc 219, 2) := by decide +kernel
theorem dX11_led_40 : decode cX11_led 40 = .ok (.goto 4, 3) := by decide +kernel
theorem dX11_led_43 : decode cX11_led 43 = .ok (.iload_n 3, 1) := by decide +kernel
theorem dX11_led_44 : decode cX11_led 44 = .ok (.ireturn, 1) := by decide +kernel

set_option maxHeartbeats 4000000 in
set_option maxRecDepth 100000 in
theorem c_X11_led (l : Launch) (E : Ev) {A : Nat → Prop} (ad : Nat → Nat) (hA : Oka 39 ad A) (sc : Nat → Int32) (ar : Nat → Nat → Int32) (bl : Int64) {nW nF wd hg : Nat} (x : Int32) (y : Int32) (hW : sc 5 = nI nW) (hW60 : nW ≤ 60) (hF : sc 6 = nI nF) (hF200 : nF ≤ 200) (hwd : sc 3 = nI wd) (hwd1 : 2 ≤ wd) (hwd2 : wd ≤ 8) (hhg : sc 4 = nI hg) (hhg1 : 2 ≤ hg) (hhg2 : hg ≤ 8) : Ct l E yX11_led (.code yX11_led cX11_led 4 (some .int)) ({ frames := 5, cells := 0, slots := 0, locals := 111 }) A (cw E ad sc ar bl) [.ref (ad 0), .int x, .int y] (some (.int (if inx x (nI (wd * hg)) = true then (if 0 ≤ y then (if fstL (hit (ar 21) (ar 22) (ctel nW (ar 17) (ar 19) (nI (tn x / wd))) x y) nF = (-1) then (-1000000005) else fstL (hit (ar 21) (ar 22) (ctel nW (ar 17) (ar 19) (nI (tn x / wd))) x y) nF) else (-1000000001)) else (-1000000001)))) (cw E ad sc ar bl) := by
  have hm := prod64 hwd2 hhg2
  refine Ct.of (lv := [(0, .ref (ad 0)), (1, .int x), (2, .int y)]) (by decide +kernel) (Nat.le_of_ble_eq_true rfl) rfl ?_
  intro zp ze zs zm za zb zh zc hc
  refine g_aload_n (pc := 0) hc 0 dX11_led_0 rfl rfl ?_
  refine gf_c0_ground (pc := 1) hc tw_255 dX11_led_1 ?_
  refine g_iload_n (pc := 4) hc 1 dX11_led_4 rfl rfl ?_
  refine g_callVi (pc := 5) (rest := []) (As := [.int x]) hc (c_X2_hasPace l E ad hA sc ar bl x (hwd) (hwd1) (hwd2) (hhg) (hhg1) (hhg2)) mi_X2_hasPace tw_396 1 rfl rfl rfl rfl ⟨rfl, rfl, by decide, by decide⟩ (Nat.le_of_ble_eq_true rfl) ⟨Nat.le_refl _, Nat.le_refl _⟩ rfl dX11_led_5 ?_
  refine g_if_eq_b (pc := 8) hc 15 dX11_led_8 (by decide) (fun c1 => ?_) (fun c1 => ?_)
  · refine g_ldc (pc := 15) (v := (-1000000001)) hc tw_308 dX11_led_15 ?_
    exact g_iret (pc := 17) hc dX11_led_17 (by (repeat (first | rw [if_pos c1] | rw [if_neg c1] | rw [if_neg (ne_true_of_eq_false c1)]))) (rfl)
  · refine g_iload_n (pc := 11) hc 2 dX11_led_11 rfl rfl ?_
    refine g_if_ge (pc := 12) hc 18 dX11_led_12 (by decide) (fun c2 => ?_) (fun c2 => ?_)
    · obtain ⟨p, hp, hx⟩ := inx_of (by omega) c1
      refine g_eq (ws' := cw E ad sc ar bl) (lv' := [(0, .ref (ad 0)), (1, .int (nI p)), (2, .int y)]) rfl (by rw [hx]) rfl ?_
      refine g_aload_n (pc := 18) hc 0 dX11_led_18 rfl rfl ?_
      refine gf_c0_finds (pc := 19) hc tw_258 dX11_led_19 ?_
      refine g_aload_n (pc := 22) hc 0 dX11_led_22 rfl rfl ?_
      refine g_iload_n (pc := 23) hc 1 dX11_led_23 rfl rfl ?_
      refine g_callVi (pc := 24) (rest := [.ref (ad 4)]) (As := [.int (nI p)]) hc (c_X11_tellerAt l E ad hA sc ar bl p (hW) (hW60) (hwd) (hwd1) (hwd2) (hhg) (hhg1) (hhg2) (by omega)) mi_X11_tellerAt tw_483 0 rfl rfl rfl rfl ⟨rfl, rfl, by decide, by decide⟩ (Nat.le_of_ble_eq_true rfl) ⟨Nat.le_refl _, Nat.le_refl _⟩ rfl dX11_led_24 ?_
      refine g_iload_n (pc := 27) hc 1 dX11_led_27 rfl rfl ?_
      refine g_iload_n (pc := 28) hc 2 dX11_led_28 rfl rfl ?_
      refine g_callVi (pc := 29) (rest := []) (As := [.int (ctel nW (ar 17) (ar 19) (nI (p / wd))), .int (nI p), .int y]) hc (c_X1_inWalkAt l E ad hA sc ar bl (ctel nW (ar 17) (ar 19) (nI (p / wd))) (nI p) y (hF) (hF200)) mi_X1_inWalkAt tw_504 4 rfl rfl rfl rfl ⟨rfl, rfl, by decide, by decide⟩ (Nat.le_of_ble_eq_true rfl) ⟨Nat.le_refl _, Nat.le_refl _⟩ rfl dX11_led_29 ?_
      refine g_istore_n (pc := 32) (lv' := [(0, .ref (ad 0)), (1, .int (nI p)), (2, .int y), (3, .int (fstL (hit (ar 21) (ar 22) (ctel nW (ar 17) (ar 19) (nI (p / wd))) (nI p) y) nF))]) hc dX11_led_32 rfl (by decide) rfl ?_
      refine g_iload_n (pc := 33) hc 3 dX11_led_33 rfl rfl ?_
      refine g_iconst (pc := 34) (v := (-1)) hc dX11_led_34 (by decide) ?_
      refine g_icmp_ne (pc := 35) hc 43 dX11_led_35 (by decide) (fun c3 => ?_) (fun c3 => ?_)
      · refine g_iload_n (pc := 43) hc 3 dX11_led_43 rfl rfl ?_
        exact g_iret (pc := 44) hc dX11_led_44 (by (repeat (first | rw [if_pos c1] | rw [if_neg c1] | rw [if_neg (ne_true_of_eq_false c1)] | rw [if_pos c2] | rw [if_neg c2] | rw [if_neg (ne_true_of_eq_false c2)])); rw [hx, tn, nI_clamp (by omega)]; (repeat (first | rw [if_pos c3] | rw [if_neg c3] | rw [if_neg (ne_true_of_eq_false c3)]))) (rfl)
      · refine g_ldc (pc := 38) (v := (-1000000005)) hc tw_499 dX11_led_38 ?_
        refine g_goto (pc := 40) hc 44 dX11_led_40 (by decide) ?_
        exact g_iret (pc := 44) hc dX11_led_44 (by (repeat (first | rw [if_pos c1] | rw [if_neg c1] | rw [if_neg (ne_true_of_eq_false c1)] | rw [if_pos c2] | rw [if_neg c2] | rw [if_neg (ne_true_of_eq_false c2)])); rw [hx, tn, nI_clamp (by omega)]; (repeat (first | rw [if_pos c3] | rw [if_neg c3] | rw [if_neg (ne_true_of_eq_false c3)]))) (rfl)
    · refine g_ldc (pc := 15) (v := (-1000000001)) hc tw_308 dX11_led_15 ?_
      exact g_iret (pc := 17) hc dX11_led_17 (by (repeat (first | rw [if_pos c1] | rw [if_neg c1] | rw [if_neg (ne_true_of_eq_false c1)] | rw [if_pos c2] | rw [if_neg c2] | rw [if_neg (ne_true_of_eq_false c2)]))) (rfl)

theorem dX11_pair_0 : decode cX11_pair 0 = .ok (.iload_n 1, 1) := by decide +kernel
theorem dX11_pair_1 : decode cX11_pair 1 = .ok (.invokestatic 141, 3) := by decide +kernel
theorem dX11_pair_4 : decode cX11_pair 4 = .ok (.ifCond .eq 15, 3) := by decide +kernel
theorem dX11_pair_7 : decode cX11_pair 7 = .ok (.iload_n 2, 1) := by decide +kernel
theorem dX11_pair_8 : decode cX11_pair 8 = .ok (.invokestatic 141, 3) := by decide +kernel
theorem dX11_pair_11 : decode cX11_pair 11 = .ok (.ifCond .eq 8, 3) := by decide +kernel
theorem dX11_pair_14 : decode cX11_pair 14 = .ok (.iload_n 1, 1) := by decide +kernel
theorem dX11_pair_15 : decode cX11_pair 15 = .ok (.iload_n 2, 1) := by decide +kernel
theorem dX11_pair_16 : decode cX11_pair 16 = .ok (.if_icmp .ne 6, 3) := by decide +kernel
theorem dX11_pair_19 : decode cX11_pair 19 = .ok (.ldc 109, 2) := by decide +kernel
theorem dX11_pair_21 : decode cX11_pair 21 = .ok (.ireturn, 1) := by decide +kernel
theorem dX11_pair_22 : decode cX11_pair 22 = .ok (.iload_n 3, 1) := by decide +kernel
theorem dX11_pair_23 : decode cX11_pair 23 = .ok (.tableswitch 55 0 2 #[25, 35, 45], 25) := by decide +kernel
theorem dX11_pair_48 : decode cX11_pair 48 = .ok (.aload_n 0, 1) := by decide +kernel
theorem dX11_pair_49 : decode cX11_pair 49 = .ok (.getfield 83, 3) := by decide +kernel
theorem dX11_pair_52 : decode cX11_pair 52 = .ok (.iload_n 1, 1) := by decide +kernel
theorem dX11_pair_53 : decode cX11_pair 53 = .ok (.iload_n 2, 1) := by decide +kernel
theorem dX11_pair_54 : decode cX11_pair 54 = .ok (.invokevirtual 223, 3) := by decide +kernel
theorem dX11_pair_57 : decode cX11_pair 57 = .ok (.ireturn, 1) := by decide +kernel
theorem dX11_pair_58 : decode cX11_pair 58 = .ok (.aload_n 0, 1) := by decide +kernel
theorem dX11_pair_59 : decode cX11_pair 59 = .ok (.getfield 83, 3) := by decide +kernel
theorem dX11_pair_62 : decode cX11_pair 62 = .ok (.iload_n 1, 1) := by decide +kernel
theorem dX11_pair_63 : decode cX11_pair 63 = .ok (.iload_n 2, 1) := by decide +kernel
theorem dX11_pair_64 : decode cX11_pair 64 = .ok (.invokevirtual 226, 3) := by decide +kernel
theorem dX11_pair_67 : decode cX11_pair 67 = .ok (.ireturn, 1) := by decide +kernel
theorem dX11_pair_68 : decode cX11_pair 68 = .ok (.aload_n 0, 1) := by decide +kernel
theorem dX11_pair_69 : decode cX11_pair 69 = .ok (.getfield 83, 3) := by decide +kernel
theorem dX11_pair_72 : decode cX11_pair 72 = .ok (.iload_n 2, 1) := by decide +kernel
theorem dX11_pair_73 : decode cX11_pair 73 = .ok (.iload_n 1, 1) := by decide +kernel
theorem dX11_pair_74 : decode cX11_pair 74 = .ok (.invokevirtual 226, 3) := by decide +kernel
theorem dX11_pair_77 : decode cX11_pair 77 = .ok (.ireturn, 1) := by decide +kernel
theorem dX11_pair_78 : decode cX11_pair 78 = .ok (.ldc 109, 2) := by decide +kernel
theorem dX11_pair_80 : decode cX11_pair 80 = .ok (.ireturn, 1) := by decide +kernel

set_option maxHeartbeats 4000000 in
set_option maxRecDepth 100000 in
theorem c_X11_pair (l : Launch) (E : Ev) {A : Nat → Prop} (ad : Nat → Nat) (hA : Oka 39 ad A) (sc : Nat → Int32) (ar : Nat → Nat → Int32) (bl : Int64) {nW : Nat} (x : Int32) (y : Int32) (z : Int32) (hW : sc 5 = nI nW) (hW60 : nW ≤ 60) : Ct l E yX11_pair (.code yX11_pair cX11_pair 4 (some .int)) ({ frames := 4, cells := 0, slots := 0, locals := 91 }) A (cw E ad sc ar bl) [.ref (ad 0), .int x, .int y, .int z] (some (.int (if ok2 (inr x (nI 0) (nI 4)) (ok2 (inr y (nI 0) (nI 4)) (!decide (x = y))) = true then (if z = nI 0 then prs (ar 16) (ar 17) x y nW nW else (if z = nI 1 then sbs (ar 15) (ar 16) (ar 17) (ar 19) x y nW nW else (if z = nI 2 then sbs (ar 15) (ar 16) (ar 17) (ar 19) y x nW nW else ((-1000000001))))) else (-1000000001)))) (cw E ad sc ar bl) := by
  refine Ct.of (lv := [(0, .ref (ad 0)), (1, .int x), (2, .int y), (3, .int z)]) (by decide +kernel) (Nat.le_of_ble_eq_true rfl) rfl ?_
  intro zp ze zs zm za zb zh zc hc
  refine g_iload_n (pc := 0) hc 1 dX11_pair_0 rfl rfl ?_
  refine g_callSi (pc := 1) (rest := []) (As := [.int x]) hc (c_X11_isWalker l E ad hA sc ar bl x) mi_X11_isWalker tw_358 rfl ⟨rfl, rfl, by decide, by decide⟩ (Nat.le_of_ble_eq_true rfl) ⟨Nat.le_refl _, Nat.le_refl _⟩ rfl dX11_pair_1 ?_
  refine g_if_eq_b (pc := 4) hc 19 dX11_pair_4 (by decide) (fun c1 => ?_) (fun c1 => ?_)
  · refine g_ldc (pc := 19) (v := (-1000000001)) hc tw_308 dX11_pair_19 ?_
    exact g_iret (pc := 21) hc dX11_pair_21 (by rw [if_neg (ne_true_of_eq_false (ok2_f1 c1))]) (rfl)
  · refine g_iload_n (pc := 7) hc 2 dX11_pair_7 rfl rfl ?_
    refine g_callSi (pc := 8) (rest := []) (As := [.int y]) hc (c_X11_isWalker l E ad hA sc ar bl y) mi_X11_isWalker tw_358 rfl ⟨rfl, rfl, by decide, by decide⟩ (Nat.le_of_ble_eq_true rfl) ⟨Nat.le_refl _, Nat.le_refl _⟩ rfl dX11_pair_8 ?_
    refine g_if_eq_b (pc := 11) hc 19 dX11_pair_11 (by decide) (fun c2 => ?_) (fun c2 => ?_)
    · refine g_ldc (pc := 19) (v := (-1000000001)) hc tw_308 dX11_pair_19 ?_
      exact g_iret (pc := 21) hc dX11_pair_21 (by rw [if_neg (ne_true_of_eq_false (ok2_f2 c1 (ok2_f1 c2)))]) (rfl)
    · refine g_iload_n (pc := 14) hc 1 dX11_pair_14 rfl rfl ?_
      refine g_iload_n (pc := 15) hc 2 dX11_pair_15 rfl rfl ?_
      refine g_icmp_ne (pc := 16) hc 22 dX11_pair_16 (by decide) (fun c3 => ?_) (fun c3 => ?_)
      · refine g_iload_n (pc := 22) hc 3 dX11_pair_22 rfl rfl ?_
        by_cases c4 : z = nI 0
        · refine g_tableIn (pc := 23) hc 48 dX11_pair_23 (by rw [c4]; decide) (by rw [c4]; decide) (off := 25) (by rw [c4]; rfl) (by decide) ?_
          refine g_aload_n (pc := 48) hc 0 dX11_pair_48 rfl rfl ?_
          refine gf_c0_eyes (pc := 49) hc tw_259 dX11_pair_49 ?_
          refine g_iload_n (pc := 52) hc 1 dX11_pair_52 rfl rfl ?_
          refine g_iload_n (pc := 53) hc 2 dX11_pair_53 rfl rfl ?_
          refine g_callVi (pc := 54) (rest := []) (As := [.int x, .int y]) hc (c_X0_pairs l E ad hA sc ar bl x y (hW) (hW60)) mi_X0_pairs tw_512 5 rfl rfl rfl rfl ⟨rfl, rfl, by decide, by decide⟩ (Nat.le_of_ble_eq_true rfl) ⟨Nat.le_refl _, Nat.le_refl _⟩ rfl dX11_pair_54 ?_
          exact g_iret (pc := 57) hc dX11_pair_57 (by rw [if_pos (ok2_t c1 (ok2_t c2 (by simp [c3])))]; (repeat (first | rw [if_pos c4] | rw [if_neg c4] | rw [if_neg (ne_true_of_eq_false c4)]))) (rfl)
        by_cases c5 : z = nI 1
        · refine g_tableIn (pc := 23) hc 58 dX11_pair_23 (by rw [c5]; decide) (by rw [c5]; decide) (off := 35) (by rw [c5]; rfl) (by decide) ?_
          refine g_aload_n (pc := 58) hc 0 dX11_pair_58 rfl rfl ?_
          refine gf_c0_eyes (pc := 59) hc tw_259 dX11_pair_59 ?_
          refine g_iload_n (pc := 62) hc 1 dX11_pair_62 rfl rfl ?_
          refine g_iload_n (pc := 63) hc 2 dX11_pair_63 rfl rfl ?_
          refine g_callVi (pc := 64) (rest := []) (As := [.int x, .int y]) hc (c_X0_seenBeside l E ad hA sc ar bl x y (hW) (hW60)) mi_X0_seenBeside tw_530 5 rfl rfl rfl rfl ⟨rfl, rfl, by decide, by decide⟩ (Nat.le_of_ble_eq_true rfl) ⟨Nat.le_refl _, Nat.le_refl _⟩ rfl dX11_pair_64 ?_
          exact g_iret (pc := 67) hc dX11_pair_67 (by rw [if_pos (ok2_t c1 (ok2_t c2 (by simp [c3])))]; (repeat (first | rw [if_pos c4] | rw [if_neg c4] | rw [if_neg (ne_true_of_eq_false c4)] | rw [if_pos c5] | rw [if_neg c5] | rw [if_neg (ne_true_of_eq_false c5)]))) (rfl)
        by_cases c6 : z = nI 2
        · refine g_tableIn (pc := 23) hc 68 dX11_pair_23 (by rw [c6]; decide) (by rw [c6]; decide) (off := 45) (by rw [c6]; rfl) (by decide) ?_
          refine g_aload_n (pc := 68) hc 0 dX11_pair_68 rfl rfl ?_
          refine gf_c0_eyes (pc := 69) hc tw_259 dX11_pair_69 ?_
          refine g_iload_n (pc := 72) hc 2 dX11_pair_72 rfl rfl ?_
          refine g_iload_n (pc := 73) hc 1 dX11_pair_73 rfl rfl ?_
          refine g_callVi (pc := 74) (rest := []) (As := [.int y, .int x]) hc (c_X0_seenBeside l E ad hA sc ar bl y x (hW) (hW60)) mi_X0_seenBeside tw_530 5 rfl rfl rfl rfl ⟨rfl, rfl, by decide, by decide⟩ (Nat.le_of_ble_eq_true rfl) ⟨Nat.le_refl _, Nat.le_refl _⟩ rfl dX11_pair_74 ?_
          exact g_iret (pc := 77) hc dX11_pair_77 (by rw [if_pos (ok2_t c1 (ok2_t c2 (by simp [c3])))]; (repeat (first | rw [if_pos c4] | rw [if_neg c4] | rw [if_neg (ne_true_of_eq_false c4)] | rw [if_pos c5] | rw [if_neg c5] | rw [if_neg (ne_true_of_eq_false c5)] | rw [if_pos c6] | rw [if_neg c6] | rw [if_neg (ne_true_of_eq_false c6)]))) (rfl)
        refine g_tableOut (pc := 23) hc 78 dX11_pair_23 (tsw_out3 c4 c5 c6) (by decide) ?_
        refine g_ldc (pc := 78) (v := (-1000000001)) hc tw_308 dX11_pair_78 ?_
        exact g_iret (pc := 80) hc dX11_pair_80 (by rw [if_pos (ok2_t c1 (ok2_t c2 (by simp [c3])))]; (repeat (first | rw [if_pos c4] | rw [if_neg c4] | rw [if_neg (ne_true_of_eq_false c4)] | rw [if_pos c5] | rw [if_neg c5] | rw [if_neg (ne_true_of_eq_false c5)] | rw [if_pos c6] | rw [if_neg c6] | rw [if_neg (ne_true_of_eq_false c6)]))) (rfl)
      · refine g_ldc (pc := 19) (v := (-1000000001)) hc tw_308 dX11_pair_19 ?_
        exact g_iret (pc := 21) hc dX11_pair_21 (by rw [if_neg (ne_true_of_eq_false (ok2_f2 c1 (ok2_f2 c2 (by simp [c3]))))]) (rfl)

theorem dX11_eye_0 : decode cX11_eye 0 = .ok (.iload_n 1, 1) := by decide +kernel
theorem dX11_eye_1 : decode cX11_eye 1 = .ok (.invokestatic 141, 3) := by decide +kernel
theorem dX11_eye_4 : decode cX11_eye 4 = .ok (.ifCond .eq 14, 3) := by decide +kernel
theorem dX11_eye_7 : decode cX11_eye 7 = .ok (.aload_n 0, 1) := by decide +kernel
theorem dX11_eye_8 : decode cX11_eye 8 = .ok (.getfield 83, 3) := by decide +kernel
theorem dX11_eye_11 : decode cX11_eye 11 = .ok (.iload_n 1, 1) := by decide +kernel
theorem dX11_eye_12 : decode cX11_eye 12 = .ok (.invokevirtual 229, 3) := by decide +kernel
theorem dX11_eye_15 : decode cX11_eye 15 = .ok (.goto 5, 3) := by decide +kernel
theorem dX11_eye_18 : decode cX11_eye 18 = .ok (.ldc 109, 2) := by decide +kernel
theorem dX11_eye_20 : decode cX11_eye 20 = .ok (.ireturn, 1) := by decide +kernel

set_option maxHeartbeats 4000000 in
set_option maxRecDepth 100000 in
theorem c_X11_eye (l : Launch) (E : Ev) {A : Nat → Prop} (ad : Nat → Nat) (hA : Oka 39 ad A) (sc : Nat → Int32) (ar : Nat → Nat → Int32) (bl : Int64) {nW : Nat} (x : Int32) (hW : sc 5 = nI nW) (hW60 : nW ≤ 60) : Ct l E yX11_eye (.code yX11_eye cX11_eye 2 (some .int)) ({ frames := 4, cells := 0, slots := 0, locals := 92 }) A (cw E ad sc ar bl) [.ref (ad 0), .int x] (some (.int (if inr x (nI 0) (nI 4) = true then hund (ar 15) (ar 16) (ar 17) (ar 19) x nW else (-1000000001)))) (cw E ad sc ar bl) := by
  refine Ct.of (lv := [(0, .ref (ad 0)), (1, .int x)]) (by decide +kernel) (Nat.le_of_ble_eq_true rfl) rfl ?_
  intro zp ze zs zm za zb zh zc hc
  refine g_iload_n (pc := 0) hc 1 dX11_eye_0 rfl rfl ?_
  refine g_callSi (pc := 1) (rest := []) (As := [.int x]) hc (c_X11_isWalker l E ad hA sc ar bl x) mi_X11_isWalker tw_358 rfl ⟨rfl, rfl, by decide, by decide⟩ (Nat.le_of_ble_eq_true rfl) ⟨Nat.le_refl _, Nat.le_refl _⟩ rfl dX11_eye_1 ?_
  refine g_if_eq_b (pc := 4) hc 18 dX11_eye_4 (by decide) (fun c1 => ?_) (fun c1 => ?_)
  · refine g_ldc (pc := 18) (v := (-1000000001)) hc tw_308 dX11_eye_18 ?_
    exact g_iret (pc := 20) hc dX11_eye_20 (by (repeat (first | rw [if_pos c1] | rw [if_neg c1] | rw [if_neg (ne_true_of_eq_false c1)]))) (rfl)
  · refine g_aload_n (pc := 7) hc 0 dX11_eye_7 rfl rfl ?_
    refine gf_c0_eyes (pc := 8) hc tw_259 dX11_eye_8 ?_
    refine g_iload_n (pc := 11) hc 1 dX11_eye_11 rfl rfl ?_
    refine g_callVi (pc := 12) (rest := []) (As := [.int x]) hc (c_X0_hundredths l E ad hA sc ar bl x (hW) (hW60)) mi_X0_hundredths tw_547 5 rfl rfl rfl rfl ⟨rfl, rfl, by decide, by decide⟩ (Nat.le_of_ble_eq_true rfl) ⟨Nat.le_refl _, Nat.le_refl _⟩ rfl dX11_eye_12 ?_
    refine g_goto (pc := 15) hc 20 dX11_eye_15 (by decide) ?_
    exact g_iret (pc := 20) hc dX11_eye_20 (by (repeat (first | rw [if_pos c1] | rw [if_neg c1] | rw [if_neg (ne_true_of_eq_false c1)]))) (rfl)
