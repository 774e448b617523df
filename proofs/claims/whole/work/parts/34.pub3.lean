theorem dX11_worth_0 : decode cX11_worth 0 = .ok (.aload_n 0, 1) := by decide +kernel
theorem dX11_worth_1 : decode cX11_worth 1 = .ok (.getfield 10, 3) := by decide +kernel
theorem dX11_worth_4 : decode cX11_worth 4 = .ok (.iload_n 1, 1) := by decide +kernel
theorem dX11_worth_5 : decode cX11_worth 5 = .ok (.invokevirtual 166, 3) := by decide +kernel
theorem dX11_worth_8 : decode cX11_worth 8 = .ok (.ifCond .eq 12, 3) := by decide +kernel
theorem dX11_worth_11 : decode cX11_worth 11 = .ok (.iload_n 2, 1) := by decide +kernel
theorem dX11_worth_12 : decode cX11_worth 12 = .ok (.iconst 0, 1) := by decide +kernel
theorem dX11_worth_13 : decode cX11_worth 13 = .ok (.iconst 1, 1) := by decide +kernel
theorem dX11_worth_14 : decode cX11_worth 14 = .ok (.invokestatic 105, 3) := by decide +kernel
theorem dX11_worth_17 : decode cX11_worth 17 = .ok (.ifCond .ne 6, 3) := by decide +kernel
theorem dX11_worth_20 : decode cX11_worth 20 = .ok (.ldc 109, 2) := by decide +kernel
theorem dX11_worth_22 : decode cX11_worth 22 = .ok (.ireturn, 1) := by decide +kernel
theorem dX11_worth_23 : decode cX11_worth 23 = .ok (.aload_n 0, 1) := by decide +kernel
theorem dX11_worth_24 : decode cX11_worth 24 = .ok (.getfield 92, 3) := by decide +kernel
theorem dX11_worth_27 : decode cX11_worth 27 = .ok (.invokevirtual 238, 3) := by decide +kernel
theorem dX11_worth_30 : decode cX11_worth 30 = .ok (.iload_n 2, 1) := by decide +kernel
theorem dX11_worth_31 : decode cX11_worth 31 = .ok (.ifCond .ne 14, 3) := by decide +kernel
theorem dX11_worth_34 : decode cX11_worth 34 = .ok (.aload_n 0, 1) := by decide +kernel
theorem dX11_worth_35 : decode cX11_worth 35 = .ok (.getfield 92, 3) := by decide +kernel
theorem dX11_worth_38 : decode cX11_worth 38 = .ok (.iload_n 1, 1) := by decide +kernel
theorem dX11_worth_39 : decode cX11_worth 39 = .ok (.invokevirtual 241, 3) := by decide +kernel
theorem dX11_worth_42 : decode cX11_worth 42 = .ok (.goto 11, 3) := by decide +kernel
theorem dX11_worth_45 : decode cX11_worth 45 = .ok (.aload_n 0, 1) := by decide +kernel
theorem dX11_worth_46 : decode cX11_worth 46 = .ok (.getfield 92, 3) := by decide +kernel
theorem dX11_worth_49 : decode cX11_worth 49 = .ok (.iload_n 1, 1) := by decide +kernel
theorem dX11_worth_50 : decode cX11_worth 50 = .ok (.invokevirtual 244, 3) := by decide +kernel
theorem dX11_worth_53 : decode cX11_worth 53 = .ok (.ireturn, 1) := by decide +kernel

set_option maxHeartbeats 4000000 in
set_option maxRecDepth 100000 in
theorem c_X11_worth (l : Launch) (E : Ev) {A : Nat → Prop} (ad : Nat → Nat) (hA : Oka 39 ad A) (sc : Nat → Int32) (ar : Nat → Nat → Int32) (bl : Int64) {nW wd hg : Nat} (x : Int32) (y : Int32) (hW : sc 5 = nI nW) (hW60 : nW ≤ 60) (hwd : sc 3 = nI wd) (hwd1 : 2 ≤ wd) (hwd2 : wd ≤ 8) (hhg : sc 4 = nI hg) (hhg1 : 2 ≤ hg) (hhg2 : hg ≤ 8) : Ct l E yX11_worth (.code yX11_worth cX11_worth 3 (some .int)) ({ frames := 6, cells := 0, slots := 0, locals := 138 }) A (cw E ad sc ar bl) [.ref (ad 0), .int x, .int y] (some (.int (if ok2 (inx x (nI (wd * hg))) (inr y (nI 0) (nI 1)) = true then (if y = 0 then (layO (cel (sc 5) nW (ar 15) (ar 16) (ar 17) (ar 19) (ar 20) bl wd) wd (ar 25) hg) (tn x) else rgs (layO (cel (sc 5) nW (ar 15) (ar 16) (ar 17) (ar 19) (ar 20) bl wd) wd (ar 25) hg) wd hg (tn x)) else (-1000000001)))) (if ok2 (inx x (nI (wd * hg))) (inr y (nI 0) (nI 1)) = true then cw E ad sc (va_up ar 25 (layO (cel (sc 5) nW (ar 15) (ar 16) (ar 17) (ar 19) (ar 20) bl wd) wd (ar 25) hg)) bl else cw E ad sc ar bl) := by
  have hm := prod64 hwd2 hhg2
  refine Ct.of (lv := [(0, .ref (ad 0)), (1, .int x), (2, .int y)]) (by decide +kernel) (Nat.le_of_ble_eq_true rfl) rfl ?_
  intro zp ze zs zm za zb zh zc hc
  refine g_aload_n (pc := 0) hc 0 dX11_worth_0 rfl rfl ?_
  refine gf_c0_ground (pc := 1) hc tw_255 dX11_worth_1 ?_
  refine g_iload_n (pc := 4) hc 1 dX11_worth_4 rfl rfl ?_
  refine g_callVi (pc := 5) (rest := []) (As := [.int x]) hc (c_X2_hasPace l E ad hA sc ar bl x (hwd) (hwd1) (hwd2) (hhg) (hhg1) (hhg2)) mi_X2_hasPace tw_396 1 rfl rfl rfl rfl ⟨rfl, rfl, by decide, by decide⟩ (Nat.le_of_ble_eq_true rfl) ⟨Nat.le_refl _, Nat.le_refl _⟩ rfl dX11_worth_5 ?_
  refine g_if_eq_b (pc := 8) hc 20 dX11_worth_8 (by decide) (fun c1 => ?_) (fun c1 => ?_)
  · refine g_ldc (pc := 20) (v := (-1000000001)) hc tw_308 dX11_worth_20 ?_
    exact g_iret (pc := 22) hc dX11_worth_22 (by rw [if_neg (ne_true_of_eq_false (ok2_f1 c1))]) (by rw [if_neg (ne_true_of_eq_false (ok2_f1 c1))])
  · obtain ⟨p, hp, hx⟩ := inx_of (by omega) c1
    refine g_iload_n (pc := 11) hc 2 dX11_worth_11 rfl rfl ?_
    refine g_iconst (pc := 12) (v := nI 0) hc dX11_worth_12 (by decide) ?_
    refine g_iconst (pc := 13) (v := nI 1) hc dX11_worth_13 (by decide) ?_
    refine g_callSi (pc := 14) (rest := []) (As := [.int y, .int (nI 0), .int (nI 1)]) hc (c_X11_within l E ad hA sc ar bl y (nI 0) (nI 1)) mi_X11_within tw_305 rfl ⟨rfl, rfl, by decide, by decide⟩ (Nat.le_of_ble_eq_true rfl) ⟨Nat.le_refl _, Nat.le_refl _⟩ rfl dX11_worth_14 ?_
    refine g_if_ne_b (pc := 17) hc 23 dX11_worth_17 (by decide) (fun c2 => ?_) (fun c2 => ?_)
    · refine g_eq (ws' := cw E ad sc ar bl) (lv' := [(0, .ref (ad 0)), (1, .int (nI p)), (2, .int y)]) rfl (by rw [hx]) rfl ?_
      refine g_aload_n (pc := 23) hc 0 dX11_worth_23 rfl rfl ?_
      refine gf_c0_heaps (pc := 24) hc tw_260 dX11_worth_24 ?_
      refine g_callVv (pc := 27) (rest := []) (As := []) hc (c_X3_lay l E ad hA sc ar bl  (hW) (hW60) (hwd) (hwd1) (hwd2) (hhg) (hhg1) (hhg2)) mi_X3_lay tw_575 6 rfl rfl rfl rfl ⟨rfl, rfl, by decide, by decide⟩ (Nat.le_of_ble_eq_true rfl) ⟨Nat.le_refl _, Nat.le_refl _⟩ rfl dX11_worth_27 ?_
      refine g_iload_n (pc := 30) hc 2 dX11_worth_30 rfl rfl ?_
      refine g_if_ne (pc := 31) hc 45 dX11_worth_31 (by decide) (fun c3 => ?_) (fun c3 => ?_)
      · refine g_aload_n (pc := 45) hc 0 dX11_worth_45 rfl rfl ?_
        refine gf_c0_heaps (pc := 46) hc tw_260 dX11_worth_46 ?_
        refine g_iload_n (pc := 49) hc 1 dX11_worth_49 rfl rfl ?_
        refine g_callVi (pc := 50) (rest := []) (As := [.int (nI p)]) hc (c_X3_sumAround l E ad hA sc (va_up ar 25 (layO (cel (sc 5) nW (ar 15) (ar 16) (ar 17) (ar 19) (ar 20) bl wd) wd (ar 25) hg)) bl p (hwd) (hwd1) (hwd2) (hhg) (hhg1) (hhg2) (hp)) mi_X3_sumAround tw_604 6 rfl rfl rfl rfl ⟨rfl, rfl, by decide, by decide⟩ (Nat.le_of_ble_eq_true rfl) ⟨Nat.le_refl _, Nat.le_refl _⟩ rfl dX11_worth_50 ?_
        refine g_topi (v := rgs (layO (cel (sc 5) nW (ar 15) (ar 16) (ar 17) (ar 19) (ar 20) bl wd) wd (ar 25) hg) wd hg p) rfl ?_
        exact g_iret (pc := 53) hc dX11_worth_53 (by rw [if_pos (ok2_t c1 c2), hx, tn, nI_clamp (by omega)]; (repeat (first | rw [if_pos c3] | rw [if_neg c3] | rw [if_neg (ne_true_of_eq_false c3)]))) (by rw [if_pos (ok2_t c1 c2)])
      · refine g_aload_n (pc := 34) hc 0 dX11_worth_34 rfl rfl ?_
        refine gf_c0_heaps (pc := 35) hc tw_260 dX11_worth_35 ?_
        refine g_iload_n (pc := 38) hc 1 dX11_worth_38 rfl rfl ?_
        refine g_callVi (pc := 39) (rest := []) (As := [.int (nI p)]) hc (c_X3_worthAt l E ad hA sc (va_up ar 25 (layO (cel (sc 5) nW (ar 15) (ar 16) (ar 17) (ar 19) (ar 20) bl wd) wd (ar 25) hg)) bl p (by omega)) mi_X3_worthAt tw_600 6 rfl rfl rfl rfl ⟨rfl, rfl, by decide, by decide⟩ (Nat.le_of_ble_eq_true rfl) ⟨Nat.le_refl _, Nat.le_refl _⟩ rfl dX11_worth_39 ?_
        refine g_topi (v := (layO (cel (sc 5) nW (ar 15) (ar 16) (ar 17) (ar 19) (ar 20) bl wd) wd (ar 25) hg) p) rfl ?_
        refine g_goto (pc := 42) hc 53 dX11_worth_42 (by decide) ?_
        exact g_iret (pc := 53) hc dX11_worth_53 (by rw [if_pos (ok2_t c1 c2), hx, tn, nI_clamp (by omega)]; (repeat (first | rw [if_pos c3] | rw [if_neg c3] | rw [if_neg (ne_true_of_eq_false c3)]))) (by rw [if_pos (ok2_t c1 c2)])
    · refine g_ldc (pc := 20) (v := (-1000000001)) hc tw_308 dX11_worth_20 ?_
      exact g_iret (pc := 22) hc dX11_worth_22 (by rw [if_neg (ne_true_of_eq_false (ok2_f2 c1 c2))]) (by rw [if_neg (ne_true_of_eq_false (ok2_f2 c1 c2))])

theorem dX11_greatest_0 : decode cX11_greatest 0 = .ok (.aload_n 0, 1) := by decide +kernel
theorem dX11_greatest_1 : decode cX11_greatest 1 = .ok (.getfield 92, 3) := by decide +kernel
theorem dX11_greatest_4 : decode cX11_greatest 4 = .ok (.invokevirtual 238, 3) := by decide +kernel
theorem dX11_greatest_7 : decode cX11_greatest 7 = .ok (.aload_n 0, 1) := by decide +kernel
theorem dX11_greatest_8 : decode cX11_greatest 8 = .ok (.getfield 92, 3) := by decide +kernel
theorem dX11_greatest_11 : decode cX11_greatest 11 = .ok (.invokevirtual 247, 3) := by decide +kernel
theorem dX11_greatest_14 : decode cX11_greatest 14 = .ok (.ireturn, 1) := by decide +kernel

set_option maxHeartbeats 4000000 in
set_option maxRecDepth 100000 in
theorem c_X11_greatest (l : Launch) (E : Ev) {A : Nat → Prop} (ad : Nat → Nat) (hA : Oka 39 ad A) (sc : Nat → Int32) (ar : Nat → Nat → Int32) (bl : Int64) {nW wd hg : Nat}  (hW : sc 5 = nI nW) (hW60 : nW ≤ 60) (hwd : sc 3 = nI wd) (hwd1 : 2 ≤ wd) (hwd2 : wd ≤ 8) (hhg : sc 4 = nI hg) (hhg1 : 2 ≤ hg) (hhg2 : hg ≤ 8) : Ct l E yX11_greatest (.code yX11_greatest cX11_greatest 1 (some .int)) ({ frames := 6, cells := 0, slots := 0, locals := 138 }) A (cw E ad sc ar bl) [.ref (ad 0)] (some (.int (nI (grb (layO (cel (sc 5) nW (ar 15) (ar 16) (ar 17) (ar 19) (ar 20) bl wd) wd (ar 25) hg) wd hg)))) (cw E ad sc (va_up ar 25 (layO (cel (sc 5) nW (ar 15) (ar 16) (ar 17) (ar 19) (ar 20) bl wd) wd (ar 25) hg)) bl) := by
  refine Ct.of (lv := [(0, .ref (ad 0))]) (by decide +kernel) (Nat.le_of_ble_eq_true rfl) rfl ?_
  intro zp ze zs zm za zb zh zc hc
  refine g_aload_n (pc := 0) hc 0 dX11_greatest_0 rfl rfl ?_
  refine gf_c0_heaps (pc := 1) hc tw_260 dX11_greatest_1 ?_
  refine g_callVv (pc := 4) (rest := []) (As := []) hc (c_X3_lay l E ad hA sc ar bl  (hW) (hW60) (hwd) (hwd1) (hwd2) (hhg) (hhg1) (hhg2)) mi_X3_lay tw_575 6 rfl rfl rfl rfl ⟨rfl, rfl, by decide, by decide⟩ (Nat.le_of_ble_eq_true rfl) ⟨Nat.le_refl _, Nat.le_refl _⟩ rfl dX11_greatest_4 ?_
  refine g_aload_n (pc := 7) hc 0 dX11_greatest_7 rfl rfl ?_
  refine gf_c0_heaps (pc := 8) hc tw_260 dX11_greatest_8 ?_
  refine g_callVi (pc := 11) (rest := []) (As := []) hc (c_X3_richest l E ad hA sc (va_up ar 25 (layO (cel (sc 5) nW (ar 15) (ar 16) (ar 17) (ar 19) (ar 20) bl wd) wd (ar 25) hg)) bl  (hwd) (hwd1) (hwd2) (hhg) (hhg1) (hhg2)) mi_X3_richest tw_619 6 rfl rfl rfl rfl ⟨rfl, rfl, by decide, by decide⟩ (Nat.le_of_ble_eq_true rfl) ⟨Nat.le_refl _, Nat.le_refl _⟩ rfl dX11_greatest_11 ?_
  refine g_topi (v := nI (grb (layO (cel (sc 5) nW (ar 15) (ar 16) (ar 17) (ar 19) (ar 20) bl wd) wd (ar 25) hg) wd hg)) rfl ?_
  exact g_iret (pc := 14) hc dX11_greatest_14 (rfl) (rfl)

theorem dX11_heap_0 : decode cX11_heap 0 = .ok (.aload_n 0, 1) := by decide +kernel
theorem dX11_heap_1 : decode cX11_heap 1 = .ok (.getfield 10, 3) := by decide +kernel
theorem dX11_heap_4 : decode cX11_heap 4 = .ok (.iload_n 1, 1) := by decide +kernel
theorem dX11_heap_5 : decode cX11_heap 5 = .ok (.invokevirtual 166, 3) := by decide +kernel
theorem dX11_heap_8 : decode cX11_heap 8 = .ok (.ifCond .eq 13, 3) := by decide +kernel
theorem dX11_heap_11 : decode cX11_heap 11 = .ok (.iload_n 2, 1) := by decide +kernel
theorem dX11_heap_12 : decode cX11_heap 12 = .ok (.iconst 1, 1) := by decide +kernel
theorem dX11_heap_13 : decode cX11_heap 13 = .ok (.bipush 99, 2) := by decide +kernel
theorem dX11_heap_15 : decode cX11_heap 15 = .ok (.invokestatic 105, 3) := by decide +kernel
theorem dX11_heap_18 : decode cX11_heap 18 = .ok (.ifCond .ne 6, 3) := by decide +kernel
theorem dX11_heap_21 : decode cX11_heap 21 = .ok (.ldc 109, 2) := by decide +kernel
theorem dX11_heap_23 : decode cX11_heap 23 = .ok (.ireturn, 1) := by decide +kernel
theorem dX11_heap_24 : decode cX11_heap 24 = .ok (.aload_n 0, 1) := by decide +kernel
theorem dX11_heap_25 : decode cX11_heap 25 = .ok (.getfield 92, 3) := by decide +kernel
theorem dX11_heap_28 : decode cX11_heap 28 = .ok (.invokevirtual 238, 3) := by decide +kernel
theorem dX11_heap_31 : decode cX11_heap 31 = .ok (.aload_n 0, 1) := by decide +kernel
theorem dX11_heap_32 : decode cX11_heap 32 = .ok (.getfield 92, 3) := by decide +kernel
theorem dX11_heap_35 : decode cX11_heap 35 = .ok (.iload_n 1, 1) := by decide +kernel
theorem dX11_heap_36 : decode cX11_heap 36 = .ok (.iload_n 2, 1) := by decide +kernel
theorem dX11_heap_37 : decode cX11_heap 37 = .ok (.aload_n 0, 1) := by decide +kernel
theorem dX11_heap_38 : decode cX11_heap 38 = .ok (.getfield 72, 3) := by decide +kernel
theorem dX11_heap_41 : decode cX11_heap 41 = .ok (.aload_n 0, 1) := by decide +kernel
theorem dX11_heap_42 : decode cX11_heap 42 = .ok (.getfield 75, 3) := by decide +kernel
theorem dX11_heap_45 : decode cX11_heap 45 = .ok (.invokevirtual 250, 3) := by decide +kernel
theorem dX11_heap_48 : decode cX11_heap 48 = .ok (.invokestatic 137, 3) := by decide +kernel
theorem dX11_heap_51 : decode cX11_heap 51 = .ok (.ireturn, 1) := by decide +kernel

set_option maxHeartbeats 4000000 in
set_option maxRecDepth 100000 in
theorem c_X11_heap (l : Launch) (E : Ev) {A : Nat → Prop} (ad : Nat → Nat) (hA : Oka 39 ad A) (sc : Nat → Int32) (ar : Nat → Nat → Int32) (bl : Int64) {nW wd hg : Nat} (x : Int32) (y : Int32) (hW : sc 5 = nI nW) (hW60 : nW ≤ 60) (hwd : sc 3 = nI wd) (hwd1 : 2 ≤ wd) (hwd2 : wd ≤ 8) (hhg : sc 4 = nI hg) (hhg1 : 2 ≤ hg) (hhg2 : hg ≤ 8) : Ct l E yX11_heap (.code yX11_heap cX11_heap 3 (some .int)) ({ frames := 6, cells := 0, slots := 0, locals := 147 }) A (cw E ad sc ar bl) [.ref (ad 0), .int x, .int y] (some (.int (if ok2 (inx x (nI (wd * hg))) (inr y (nI 1) (nI 99)) = true then bI (!decide (sc 2 < nI (sto (gwO nW (ar 17) (ar 19) wd (ar 26) hg).2 (gwO nW (ar 17) (ar 19) wd (ar 26) hg).1 wd hg (rgs (layO (cel (sc 5) nW (ar 15) (ar 16) (ar 17) (ar 19) (ar 20) bl wd) wd (ar 25) hg) wd hg (tn x)) (sc 1) (layO (cel (sc 5) nW (ar 15) (ar 16) (ar 17) (ar 19) (ar 20) bl wd) wd (ar 25) hg) (tn y)).1.2)) else (-1000000001)))) (if ok2 (inx x (nI (wd * hg))) (inr y (nI 1) (nI 99)) = true then cw E ad sc (va_up (va_up ar 26 (gwO nW (ar 17) (ar 19) wd (ar 26) hg).2) 25 (sto (gwO nW (ar 17) (ar 19) wd (ar 26) hg).2 (gwO nW (ar 17) (ar 19) wd (ar 26) hg).1 wd hg (rgs (layO (cel (sc 5) nW (ar 15) (ar 16) (ar 17) (ar 19) (ar 20) bl wd) wd (ar 25) hg) wd hg (tn x)) (sc 1) (layO (cel (sc 5) nW (ar 15) (ar 16) (ar 17) (ar 19) (ar 20) bl wd) wd (ar 25) hg) (fe (fun d => (sto (gwO nW (ar 17) (ar 19) wd (ar 26) hg).2 (gwO nW (ar 17) (ar 19) wd (ar 26) hg).1 wd hg (rgs (layO (cel (sc 5) nW (ar 15) (ar 16) (ar 17) (ar 19) (ar 20) bl wd) wd (ar 25) hg) wd hg (tn x)) (sc 1) (layO (cel (sc 5) nW (ar 15) (ar 16) (ar 17) (ar 19) (ar 20) bl wd) wd (ar 25) hg) d).1.2) (sc 2) (tn y) 0)).2) bl else cw E ad sc ar bl) := by
  have hm := prod64 hwd2 hhg2
  refine Ct.of (lv := [(0, .ref (ad 0)), (1, .int x), (2, .int y)]) (by decide +kernel) (Nat.le_of_ble_eq_true rfl) rfl ?_
  intro zp ze zs zm za zb zh zc hc
  refine g_aload_n (pc := 0) hc 0 dX11_heap_0 rfl rfl ?_
  refine gf_c0_ground (pc := 1) hc tw_255 dX11_heap_1 ?_
  refine g_iload_n (pc := 4) hc 1 dX11_heap_4 rfl rfl ?_
  refine g_callVi (pc := 5) (rest := []) (As := [.int x]) hc (c_X2_hasPace l E ad hA sc ar bl x (hwd) (hwd1) (hwd2) (hhg) (hhg1) (hhg2)) mi_X2_hasPace tw_396 1 rfl rfl rfl rfl ⟨rfl, rfl, by decide, by decide⟩ (Nat.le_of_ble_eq_true rfl) ⟨Nat.le_refl _, Nat.le_refl _⟩ rfl dX11_heap_5 ?_
  refine g_if_eq_b (pc := 8) hc 21 dX11_heap_8 (by decide) (fun c1 => ?_) (fun c1 => ?_)
  · refine g_ldc (pc := 21) (v := (-1000000001)) hc tw_308 dX11_heap_21 ?_
    exact g_iret (pc := 23) hc dX11_heap_23 (by rw [if_neg (ne_true_of_eq_false (ok2_f1 c1))]) (by rw [if_neg (ne_true_of_eq_false (ok2_f1 c1))])
  · obtain ⟨p, hp, hx⟩ := inx_of (by omega) c1
    refine g_iload_n (pc := 11) hc 2 dX11_heap_11 rfl rfl ?_
    refine g_iconst (pc := 12) (v := nI 1) hc dX11_heap_12 (by decide) ?_
    refine g_bipush (pc := 13) (v := nI 99) hc dX11_heap_13 (by decide) ?_
    refine g_callSi (pc := 15) (rest := []) (As := [.int y, .int (nI 1), .int (nI 99)]) hc (c_X11_within l E ad hA sc ar bl y (nI 1) (nI 99)) mi_X11_within tw_305 rfl ⟨rfl, rfl, by decide, by decide⟩ (Nat.le_of_ble_eq_true rfl) ⟨Nat.le_refl _, Nat.le_refl _⟩ rfl dX11_heap_15 ?_
    refine g_if_ne_b (pc := 18) hc 24 dX11_heap_18 (by decide) (fun c2 => ?_) (fun c2 => ?_)
    · obtain ⟨m, hm1, hm99, hy⟩ := inr_of (by decide) c2 (by decide)
      refine g_eq (ws' := cw E ad sc ar bl) (lv' := [(0, .ref (ad 0)), (1, .int (nI p)), (2, .int (nI m))]) rfl (by rw [hx, hy]) rfl ?_
      refine g_aload_n (pc := 24) hc 0 dX11_heap_24 rfl rfl ?_
      refine gf_c0_heaps (pc := 25) hc tw_260 dX11_heap_25 ?_
      refine g_callVv (pc := 28) (rest := []) (As := []) hc (c_X3_lay l E ad hA sc ar bl  (hW) (hW60) (hwd) (hwd1) (hwd2) (hhg) (hhg1) (hhg2)) mi_X3_lay tw_575 6 rfl rfl rfl rfl ⟨rfl, rfl, by decide, by decide⟩ (Nat.le_of_ble_eq_true rfl) ⟨Nat.le_refl _, Nat.le_refl _⟩ rfl dX11_heap_28 ?_
      refine g_aload_n (pc := 31) hc 0 dX11_heap_31 rfl rfl ?_
      refine gf_c0_heaps (pc := 32) hc tw_260 dX11_heap_32 ?_
      refine g_iload_n (pc := 35) hc 1 dX11_heap_35 rfl rfl ?_
      refine g_iload_n (pc := 36) hc 2 dX11_heap_36 rfl rfl ?_
      refine g_aload_n (pc := 37) hc 0 dX11_heap_37 rfl rfl ?_
      refine gf_c0_seed (pc := 38) hc tw_268 dX11_heap_38 ?_
      refine g_aload_n (pc := 41) hc 0 dX11_heap_41 rfl rfl ?_
      refine gf_c0_spare (pc := 42) hc tw_269 dX11_heap_42 ?_
      refine g_callVi (pc := 45) (rest := []) (As := [.int (nI p), .int (nI m), .int (sc 1), .int (sc 2)]) hc (c_X3_standsOut l E ad hA sc (va_up ar 25 (layO (cel (sc 5) nW (ar 15) (ar 16) (ar 17) (ar 19) (ar 20) bl wd) wd (ar 25) hg)) bl p m (sc 1) (sc 2) (hW) (hW60) (hwd) (hwd1) (hwd2) (hhg) (hhg1) (hhg2) (by omega) (by omega)) mi_X3_standsOut tw_632 6 rfl rfl rfl rfl ⟨rfl, rfl, by decide, by decide⟩ (Nat.le_of_ble_eq_true rfl) ⟨Nat.le_refl _, Nat.le_refl _⟩ rfl dX11_heap_45 ?_
      refine g_topi (v := bI (!decide (sc 2 < nI (sto (gwO nW (ar 17) (ar 19) wd (ar 26) hg).2 (gwO nW (ar 17) (ar 19) wd (ar 26) hg).1 wd hg (rgs (layO (cel (sc 5) nW (ar 15) (ar 16) (ar 17) (ar 19) (ar 20) bl wd) wd (ar 25) hg) wd hg p) (sc 1) (layO (cel (sc 5) nW (ar 15) (ar 16) (ar 17) (ar 19) (ar 20) bl wd) wd (ar 25) hg) m).1.2))) rfl ?_
      refine g_eq (ws' := cw E ad sc (va_up (va_up ar 26 (gwO nW (ar 17) (ar 19) wd (ar 26) hg).2) 25 (sto (gwO nW (ar 17) (ar 19) wd (ar 26) hg).2 (gwO nW (ar 17) (ar 19) wd (ar 26) hg).1 wd hg (rgs (layO (cel (sc 5) nW (ar 15) (ar 16) (ar 17) (ar 19) (ar 20) bl wd) wd (ar 25) hg) wd hg p) (sc 1) (layO (cel (sc 5) nW (ar 15) (ar 16) (ar 17) (ar 19) (ar 20) bl wd) wd (ar 25) hg) (fe (fun d => (sto (gwO nW (ar 17) (ar 19) wd (ar 26) hg).2 (gwO nW (ar 17) (ar 19) wd (ar 26) hg).1 wd hg (rgs (layO (cel (sc 5) nW (ar 15) (ar 16) (ar 17) (ar 19) (ar 20) bl wd) wd (ar 25) hg) wd hg p) (sc 1) (layO (cel (sc 5) nW (ar 15) (ar 16) (ar 17) (ar 19) (ar 20) bl wd) wd (ar 25) hg) d).1.2) (sc 2) m 0)).2) bl) (lv' := [(0, .ref (ad 0)), (1, .int (nI p)), (2, .int (nI m))]) (rfl) rfl rfl ?_
      refine g_callSi (pc := 48) (rest := []) (As := [.int (bI (!decide (sc 2 < nI (sto (gwO nW (ar 17) (ar 19) wd (ar 26) hg).2 (gwO nW (ar 17) (ar 19) wd (ar 26) hg).1 wd hg (rgs (layO (cel (sc 5) nW (ar 15) (ar 16) (ar 17) (ar 19) (ar 20) bl wd) wd (ar 25) hg) wd hg p) (sc 1) (layO (cel (sc 5) nW (ar 15) (ar 16) (ar 17) (ar 19) (ar 20) bl wd) wd (ar 25) hg) m).1.2)))]) hc (c_X11_toInt l E ad hA sc (va_up (va_up ar 26 (gwO nW (ar 17) (ar 19) wd (ar 26) hg).2) 25 (sto (gwO nW (ar 17) (ar 19) wd (ar 26) hg).2 (gwO nW (ar 17) (ar 19) wd (ar 26) hg).1 wd hg (rgs (layO (cel (sc 5) nW (ar 15) (ar 16) (ar 17) (ar 19) (ar 20) bl wd) wd (ar 25) hg) wd hg p) (sc 1) (layO (cel (sc 5) nW (ar 15) (ar 16) (ar 17) (ar 19) (ar 20) bl wd) wd (ar 25) hg) (fe (fun d => (sto (gwO nW (ar 17) (ar 19) wd (ar 26) hg).2 (gwO nW (ar 17) (ar 19) wd (ar 26) hg).1 wd hg (rgs (layO (cel (sc 5) nW (ar 15) (ar 16) (ar 17) (ar 19) (ar 20) bl wd) wd (ar 25) hg) wd hg p) (sc 1) (layO (cel (sc 5) nW (ar 15) (ar 16) (ar 17) (ar 19) (ar 20) bl wd) wd (ar 25) hg) d).1.2) (sc 2) m 0)).2) bl (bI (!decide (sc 2 < nI (sto (gwO nW (ar 17) (ar 19) wd (ar 26) hg).2 (gwO nW (ar 17) (ar 19) wd (ar 26) hg).1 wd hg (rgs (layO (cel (sc 5) nW (ar 15) (ar 16) (ar 17) (ar 19) (ar 20) bl wd) wd (ar 25) hg) wd hg p) (sc 1) (layO (cel (sc 5) nW (ar 15) (ar 16) (ar 17) (ar 19) (ar 20) bl wd) wd (ar 25) hg) m).1.2)))) mi_X11_toInt tw_351 rfl ⟨rfl, rfl, by decide, by decide⟩ (Nat.le_of_ble_eq_true rfl) ⟨Nat.le_refl _, Nat.le_refl _⟩ rfl dX11_heap_48 ?_
      refine g_topi (v := bI (!decide (bI (!decide (sc 2 < nI (sto (gwO nW (ar 17) (ar 19) wd (ar 26) hg).2 (gwO nW (ar 17) (ar 19) wd (ar 26) hg).1 wd hg (rgs (layO (cel (sc 5) nW (ar 15) (ar 16) (ar 17) (ar 19) (ar 20) bl wd) wd (ar 25) hg) wd hg p) (sc 1) (layO (cel (sc 5) nW (ar 15) (ar 16) (ar 17) (ar 19) (ar 20) bl wd) wd (ar 25) hg) m).1.2)) = 0))) rfl ?_
      refine g_topi (v := bI (!decide (sc 2 < nI (sto (gwO nW (ar 17) (ar 19) wd (ar 26) hg).2 (gwO nW (ar 17) (ar 19) wd (ar 26) hg).1 wd hg (rgs (layO (cel (sc 5) nW (ar 15) (ar 16) (ar 17) (ar 19) (ar 20) bl wd) wd (ar 25) hg) wd hg p) (sc 1) (layO (cel (sc 5) nW (ar 15) (ar 16) (ar 17) (ar 19) (ar 20) bl wd) wd (ar 25) hg) m).1.2))) (toI_b _) ?_
      exact g_iret (pc := 51) hc dX11_heap_51 (by rw [if_pos (ok2_t c1 c2), hx, hy, tn, tn, nI_clamp (by omega), nI_clamp (by omega)]) (by rw [if_pos (ok2_t c1 c2), hx, hy, tn, tn, nI_clamp (by omega), nI_clamp (by omega)])
    · refine g_ldc (pc := 21) (v := (-1000000001)) hc tw_308 dX11_heap_21 ?_
      exact g_iret (pc := 23) hc dX11_heap_23 (by rw [if_neg (ne_true_of_eq_false (ok2_f2 c1 c2))]) (by rw [if_neg (ne_true_of_eq_false (ok2_f2 c1 c2))])
