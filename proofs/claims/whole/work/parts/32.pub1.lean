theorem dX11_field_0 : decode cX11_field 0 = .ok (.iload_n 1, 1) := by decide +kernel
theorem dX11_field_1 : decode cX11_field 1 = .ok (.iconst 2, 1) := by decide +kernel
theorem dX11_field_2 : decode cX11_field 2 = .ok (.bipush 8, 2) := by decide +kernel
theorem dX11_field_4 : decode cX11_field 4 = .ok (.invokestatic 105, 3) := by decide +kernel
theorem dX11_field_7 : decode cX11_field 7 = .ok (.ifCond .eq 13, 3) := by decide +kernel
theorem dX11_field_10 : decode cX11_field 10 = .ok (.iload_n 2, 1) := by decide +kernel
theorem dX11_field_11 : decode cX11_field 11 = .ok (.iconst 2, 1) := by decide +kernel
theorem dX11_field_12 : decode cX11_field 12 = .ok (.bipush 8, 2) := by decide +kernel
theorem dX11_field_14 : decode cX11_field 14 = .ok (.invokestatic 105, 3) := by decide +kernel
theorem dX11_field_17 : decode cX11_field 17 = .ok (.ifCond .ne 6, 3) := by decide +kernel
theorem dX11_field_20 : decode cX11_field 20 = .ok (.ldc 109, 2) := by decide +kernel
theorem dX11_field_22 : decode cX11_field 22 = .ok (.ireturn, 1) := by decide +kernel
theorem dX11_field_23 : decode cX11_field 23 = .ok (.aload_n 0, 1) := by decide +kernel
theorem dX11_field_24 : decode cX11_field 24 = .ok (.getfield 10, 3) := by decide +kernel
theorem dX11_field_27 : decode cX11_field 27 = .ok (.iload_n 1, 1) := by decide +kernel
theorem dX11_field_28 : decode cX11_field 28 = .ok (.iload_n 2, 1) := by decide +kernel
theorem dX11_field_29 : decode cX11_field 29 = .ok (.invokevirtual 110, 3) := by decide +kernel
theorem dX11_field_32 : decode cX11_field 32 = .ok (.aload_n 0, 1) := by decide +kernel
theorem dX11_field_33 : decode cX11_field 33 = .ok (.getfield 26, 3) := by decide +kernel
theorem dX11_field_36 : decode cX11_field 36 = .ok (.invokevirtual 114, 3) := by decide +kernel
theorem dX11_field_39 : decode cX11_field 39 = .ok (.aload_n 0, 1) := by decide +kernel
theorem dX11_field_40 : decode cX11_field 40 = .ok (.getfield 33, 3) := by decide +kernel
theorem dX11_field_43 : decode cX11_field 43 = .ok (.invokevirtual 117, 3) := by decide +kernel
theorem dX11_field_46 : decode cX11_field 46 = .ok (.aload_n 0, 1) := by decide +kernel
theorem dX11_field_47 : decode cX11_field 47 = .ok (.getfield 10, 3) := by decide +kernel
theorem dX11_field_50 : decode cX11_field 50 = .ok (.invokevirtual 118, 3) := by decide +kernel
theorem dX11_field_53 : decode cX11_field 53 = .ok (.ireturn, 1) := by decide +kernel

set_option maxHeartbeats 4000000 in
set_option maxRecDepth 100000 in
theorem c_X11_field (l : Launch) (E : Ev) {A : Nat → Prop} (ad : Nat → Nat) (hA : Oka 39 ad A) (sc : Nat → Int32) (ar : Nat → Nat → Int32) (bl : Int64)  (x : Int32) (y : Int32)  : Ct l E yX11_field (.code yX11_field cX11_field 3 (some .int)) ({ frames := 2, cells := 0, slots := 0, locals := 43 }) A (cw E ad sc ar bl) [.ref (ad 0), .int x, .int y] (some (.int (if ok2 (inr x (nI 2) (nI 8)) (inr y (nI 2) (nI 8)) = true then x * y else (-1000000001)))) (if ok2 (inr x (nI 2) (nI 8)) (inr y (nI 2) (nI 8)) = true then cw E ad (va_up (va_up (va_up (va_up sc 3 x) 4 y) 5 (nI 0)) 6 (nI 0)) (va_up (va_up ar 19 (fil (nI 0) (ar 19) 240)) 20 (fil (nI 0) (ar 20) 1920)) 0 else cw E ad sc ar bl) := by
  refine Ct.of (lv := [(0, .ref (ad 0)), (1, .int x), (2, .int y)]) (by decide +kernel) (Nat.le_of_ble_eq_true rfl) rfl ?_
  intro zp ze zs zm za zb zh zc hc
  refine g_iload_n (pc := 0) hc 1 dX11_field_0 rfl rfl ?_
  refine g_iconst (pc := 1) (v := nI 2) hc dX11_field_1 (by decide) ?_
  refine g_bipush (pc := 2) (v := nI 8) hc dX11_field_2 (by decide) ?_
  refine g_callSi (pc := 4) (rest := []) (As := [.int x, .int (nI 2), .int (nI 8)]) hc (c_X11_within l E ad hA sc ar bl x (nI 2) (nI 8)) mi_X11_within tw_305 rfl ⟨rfl, rfl, by decide, by decide⟩ (Nat.le_of_ble_eq_true rfl) ⟨Nat.le_refl _, Nat.le_refl _⟩ rfl dX11_field_4 ?_
  refine g_if_eq_b (pc := 7) hc 20 dX11_field_7 (by decide) (fun c1 => ?_) (fun c1 => ?_)
  · refine g_ldc (pc := 20) (v := (-1000000001)) hc tw_308 dX11_field_20 ?_
    exact g_iret (pc := 22) hc dX11_field_22 (by rw [if_neg (ne_true_of_eq_false (ok2_f1 c1))]) (by rw [if_neg (ne_true_of_eq_false (ok2_f1 c1))])
  · obtain ⟨a, ha1, ha2, ha⟩ := inr_of (by decide) c1 (by decide)
    refine g_eq (ws' := cw E ad sc ar bl) (lv' := [(0, .ref (ad 0)), (1, .int (nI a)), (2, .int y)]) rfl (by rw [ha]) rfl ?_
    refine g_iload_n (pc := 10) hc 2 dX11_field_10 rfl rfl ?_
    refine g_iconst (pc := 11) (v := nI 2) hc dX11_field_11 (by decide) ?_
    refine g_bipush (pc := 12) (v := nI 8) hc dX11_field_12 (by decide) ?_
    refine g_callSi (pc := 14) (rest := []) (As := [.int y, .int (nI 2), .int (nI 8)]) hc (c_X11_within l E ad hA sc ar bl y (nI 2) (nI 8)) mi_X11_within tw_305 rfl ⟨rfl, rfl, by decide, by decide⟩ (Nat.le_of_ble_eq_true rfl) ⟨Nat.le_refl _, Nat.le_refl _⟩ rfl dX11_field_14 ?_
    refine g_if_ne_b (pc := 17) hc 23 dX11_field_17 (by decide) (fun c2 => ?_) (fun c2 => ?_)
    · obtain ⟨b, hb1, hb2, hb⟩ := inr_of (by decide) c2 (by decide)
      refine g_eq (ws' := cw E ad sc ar bl) (lv' := [(0, .ref (ad 0)), (1, .int (nI a)), (2, .int (nI b))]) rfl (by rw [hb]) rfl ?_
      refine g_aload_n (pc := 23) hc 0 dX11_field_23 rfl rfl ?_
      refine gf_c0_ground (pc := 24) hc tw_255 dX11_field_24 ?_
      refine g_iload_n (pc := 27) hc 1 dX11_field_27 rfl rfl ?_
      refine g_iload_n (pc := 28) hc 2 dX11_field_28 rfl rfl ?_
      refine g_callVv (pc := 29) (rest := []) (As := [.int (nI a), .int (nI b)]) hc (c_X2_renew l E ad hA sc ar bl (nI a) (nI b)) mi_X2_renew tw_309 1 rfl rfl rfl rfl ⟨rfl, rfl, by decide, by decide⟩ (Nat.le_of_ble_eq_true rfl) ⟨Nat.le_refl _, Nat.le_refl _⟩ rfl dX11_field_29 ?_
      refine g_aload_n (pc := 32) hc 0 dX11_field_32 rfl rfl ?_
      refine gf_c0_walks (pc := 33) hc tw_257 dX11_field_33 ?_
      refine g_callVv (pc := 36) (rest := []) (As := []) hc (c_X10_clear l E ad hA (va_up (va_up sc 3 (nI a)) 4 (nI b)) ar 0) mi_X10_clear tw_313 3 rfl rfl rfl rfl ⟨rfl, rfl, by decide, by decide⟩ (Nat.le_of_ble_eq_true rfl) ⟨Nat.le_refl _, Nat.le_refl _⟩ rfl dX11_field_36 ?_
      refine g_eq (ws' := cw E ad (va_up (va_up (va_up sc 3 (nI a)) 4 (nI b)) 5 (nI 0)) (va_up (va_up ar 19 (fil (nI 0) (ar 19) 240)) 20 (fil (nI 0) (ar 20) 1920)) 0) (lv' := [(0, .ref (ad 0)), (1, .int (nI a)), (2, .int (nI b))]) (rfl) rfl rfl ?_
      refine g_aload_n (pc := 39) hc 0 dX11_field_39 rfl rfl ?_
      refine gf_c0_finds (pc := 40) hc tw_258 dX11_field_40 ?_
      refine g_callVv (pc := 43) (rest := []) (As := []) hc (c_X1_clear l E ad hA (va_up (va_up (va_up sc 3 (nI a)) 4 (nI b)) 5 (nI 0)) (va_up (va_up ar 19 (fil (nI 0) (ar 19) 240)) 20 (fil (nI 0) (ar 20) 1920)) 0) mi_X1_clear tw_320 4 rfl rfl rfl rfl ⟨rfl, rfl, by decide, by decide⟩ (Nat.le_of_ble_eq_true rfl) ⟨Nat.le_refl _, Nat.le_refl _⟩ rfl dX11_field_43 ?_
      refine g_eq (ws' := cw E ad (va_up (va_up (va_up (va_up sc 3 (nI a)) 4 (nI b)) 5 (nI 0)) 6 (nI 0)) (va_up (va_up ar 19 (fil (nI 0) (ar 19) 240)) 20 (fil (nI 0) (ar 20) 1920)) 0) (lv' := [(0, .ref (ad 0)), (1, .int (nI a)), (2, .int (nI b))]) (rfl) rfl rfl ?_
      refine g_aload_n (pc := 46) hc 0 dX11_field_46 rfl rfl ?_
      refine gf_c0_ground (pc := 47) hc tw_255 dX11_field_47 ?_
      refine g_callVi (pc := 50) (rest := []) (As := []) hc (c_X2_paces l E ad hA (va_up (va_up (va_up (va_up sc 3 (nI a)) 4 (nI b)) 5 (nI 0)) 6 (nI 0)) (va_up (va_up ar 19 (fil (nI 0) (ar 19) 240)) 20 (fil (nI 0) (ar 20) 1920)) 0 (wd := a) (hg := b) rfl ha1 ha2 rfl hb1 hb2) mi_X2_paces tw_324 1 rfl rfl rfl rfl ⟨rfl, rfl, by decide, by decide⟩ (Nat.le_of_ble_eq_true rfl) ⟨Nat.le_refl _, Nat.le_refl _⟩ rfl dX11_field_50 ?_
      refine g_topi (v := nI (a * b)) rfl ?_
      exact g_iret (pc := 53) hc dX11_field_53 (by rw [if_pos (ok2_t c1 c2), ha, hb, pk_mul]) (by rw [if_pos (ok2_t c1 c2), ha, hb])
    · refine g_ldc (pc := 20) (v := (-1000000001)) hc tw_308 dX11_field_20 ?_
      exact g_iret (pc := 22) hc dX11_field_22 (by rw [if_neg (ne_true_of_eq_false (ok2_f2 c1 c2))]) (by rw [if_neg (ne_true_of_eq_false (ok2_f2 c1 c2))])

theorem dX11_sort_0 : decode cX11_sort 0 = .ok (.iload_n 1, 1) := by decide +kernel
theorem dX11_sort_1 : decode cX11_sort 1 = .ok (.invokestatic 122, 3) := by decide +kernel
theorem dX11_sort_4 : decode cX11_sort 4 = .ok (.ifCond .eq 10, 3) := by decide +kernel
theorem dX11_sort_7 : decode cX11_sort 7 = .ok (.iload_n 2, 1) := by decide +kernel
theorem dX11_sort_8 : decode cX11_sort 8 = .ok (.invokestatic 126, 3) := by decide +kernel
theorem dX11_sort_11 : decode cX11_sort 11 = .ok (.ifCond .ne 6, 3) := by decide +kernel
theorem dX11_sort_14 : decode cX11_sort 14 = .ok (.ldc 109, 2) := by decide +kernel
theorem dX11_sort_16 : decode cX11_sort 16 = .ok (.ireturn, 1) := by decide +kernel
theorem dX11_sort_17 : decode cX11_sort 17 = .ok (.aload_n 0, 1) := by decide +kernel
theorem dX11_sort_18 : decode cX11_sort 18 = .ok (.getfield 19, 3) := by decide +kernel
theorem dX11_sort_21 : decode cX11_sort 21 = .ok (.iload_n 1, 1) := by decide +kernel
theorem dX11_sort_22 : decode cX11_sort 22 = .ok (.iload_n 2, 1) := by decide +kernel
theorem dX11_sort_23 : decode cX11_sort 23 = .ok (.invokevirtual 129, 3) := by decide +kernel
theorem dX11_sort_26 : decode cX11_sort 26 = .ok (.ireturn, 1) := by decide +kernel

set_option maxHeartbeats 4000000 in
set_option maxRecDepth 100000 in
theorem c_X11_sort (l : Launch) (E : Ev) {A : Nat → Prop} (ad : Nat → Nat) (hA : Oka 39 ad A) (sc : Nat → Int32) (ar : Nat → Nat → Int32) (bl : Int64)  (x : Int32) (y : Int32)  : Ct l E yX11_sort (.code yX11_sort cX11_sort 3 (some .int)) ({ frames := 2, cells := 0, slots := 0, locals := 42 }) A (cw E ad sc ar bl) [.ref (ad 0), .int x, .int y] (some (.int (if ok2 (inr x (nI 0) (nI 3)) (inr y (nI 0) (nI 3)) = true then ar 15 (tn x) else (-1000000001)))) (if ok2 (inr x (nI 0) (nI 3)) (inr y (nI 0) (nI 3)) = true then cw E ad sc (va_up ar 15 (upd (ar 15) (tn x) y)) bl else cw E ad sc ar bl) := by
  refine Ct.of (lv := [(0, .ref (ad 0)), (1, .int x), (2, .int y)]) (by decide +kernel) (Nat.le_of_ble_eq_true rfl) rfl ?_
  intro zp ze zs zm za zb zh zc hc
  refine g_iload_n (pc := 0) hc 1 dX11_sort_0 rfl rfl ?_
  refine g_callSi (pc := 1) (rest := []) (As := [.int x]) hc (c_X11_isKind l E ad hA sc ar bl x) mi_X11_isKind tw_332 rfl ⟨rfl, rfl, by decide, by decide⟩ (Nat.le_of_ble_eq_true rfl) ⟨Nat.le_refl _, Nat.le_refl _⟩ rfl dX11_sort_1 ?_
  refine g_if_eq_b (pc := 4) hc 14 dX11_sort_4 (by decide) (fun c1 => ?_) (fun c1 => ?_)
  · refine g_ldc (pc := 14) (v := (-1000000001)) hc tw_308 dX11_sort_14 ?_
    exact g_iret (pc := 16) hc dX11_sort_16 (by rw [if_neg (ne_true_of_eq_false (ok2_f1 c1))]) (by rw [if_neg (ne_true_of_eq_false (ok2_f1 c1))])
  · obtain ⟨j, hj1, hj2, hj⟩ := inr_of (by decide) c1 (by decide)
    refine g_eq (ws' := cw E ad sc ar bl) (lv' := [(0, .ref (ad 0)), (1, .int (nI j)), (2, .int y)]) rfl (by rw [hj]) rfl ?_
    refine g_iload_n (pc := 7) hc 2 dX11_sort_7 rfl rfl ?_
    refine g_callSi (pc := 8) (rest := []) (As := [.int y]) hc (c_X8_isSort l E ad hA sc ar bl y) mi_X8_isSort tw_335 rfl ⟨rfl, rfl, by decide, by decide⟩ (Nat.le_of_ble_eq_true rfl) ⟨Nat.le_refl _, Nat.le_refl _⟩ rfl dX11_sort_8 ?_
    refine g_if_ne_b (pc := 11) hc 17 dX11_sort_11 (by decide) (fun c2 => ?_) (fun c2 => ?_)
    · refine g_aload_n (pc := 17) hc 0 dX11_sort_17 rfl rfl ?_
      refine gf_c0_sorts (pc := 18) hc tw_256 dX11_sort_18 ?_
      refine g_iload_n (pc := 21) hc 1 dX11_sort_21 rfl rfl ?_
      refine g_iload_n (pc := 22) hc 2 dX11_sort_22 rfl rfl ?_
      refine g_callVi (pc := 23) (rest := []) (As := [.int (nI j), .int y]) hc (c_X8_become l E ad hA sc ar bl j y (by omega)) mi_X8_become tw_339 2 rfl rfl rfl rfl ⟨rfl, rfl, by decide, by decide⟩ (Nat.le_of_ble_eq_true rfl) ⟨Nat.le_refl _, Nat.le_refl _⟩ rfl dX11_sort_23 ?_
      exact g_iret (pc := 26) hc dX11_sort_26 (by rw [if_pos (ok2_t c1 c2), hj, tn, nI_clamp (by omega)]) (by rw [if_pos (ok2_t c1 c2), hj, tn, nI_clamp (by omega)])
    · refine g_ldc (pc := 14) (v := (-1000000001)) hc tw_308 dX11_sort_14 ?_
      exact g_iret (pc := 16) hc dX11_sort_16 (by rw [if_neg (ne_true_of_eq_false (ok2_f2 c1 c2))]) (by rw [if_neg (ne_true_of_eq_false (ok2_f2 c1 c2))])

theorem dX11_isOf_0 : decode cX11_isOf 0 = .ok (.iload_n 1, 1) := by decide +kernel
theorem dX11_isOf_1 : decode cX11_isOf 1 = .ok (.invokestatic 122, 3) := by decide +kernel
theorem dX11_isOf_4 : decode cX11_isOf 4 = .ok (.ifCond .eq 10, 3) := by decide +kernel
theorem dX11_isOf_7 : decode cX11_isOf 7 = .ok (.iload_n 2, 1) := by decide +kernel
theorem dX11_isOf_8 : decode cX11_isOf 8 = .ok (.invokestatic 126, 3) := by decide +kernel
theorem dX11_isOf_11 : decode cX11_isOf 11 = .ok (.ifCond .ne 6, 3) := by decide +kernel
theorem dX11_isOf_14 : decode cX11_isOf 14 = .ok (.ldc 109, 2) := by decide +kernel
theorem dX11_isOf_16 : decode cX11_isOf 16 = .ok (.ireturn, 1) := by decide +kernel
theorem dX11_isOf_17 : decode cX11_isOf 17 = .ok (.aload_n 0, 1) := by decide +kernel
theorem dX11_isOf_18 : decode cX11_isOf 18 = .ok (.getfield 19, 3) := by decide +kernel
theorem dX11_isOf_21 : decode cX11_isOf 21 = .ok (.iload_n 1, 1) := by decide +kernel
theorem dX11_isOf_22 : decode cX11_isOf 22 = .ok (.iload_n 2, 1) := by decide +kernel
theorem dX11_isOf_23 : decode cX11_isOf 23 = .ok (.invokevirtual 133, 3) := by decide +kernel
theorem dX11_isOf_26 : decode cX11_isOf 26 = .ok (.invokestatic 137, 3) := by decide +kernel
theorem dX11_isOf_29 : decode cX11_isOf 29 = .ok (.ireturn, 1) := by decide +kernel

set_option maxHeartbeats 4000000 in
set_option maxRecDepth 100000 in
theorem c_X11_isOf (l : Launch) (E : Ev) {A : Nat → Prop} (ad : Nat → Nat) (hA : Oka 39 ad A) (sc : Nat → Int32) (ar : Nat → Nat → Int32) (bl : Int64)  (x : Int32) (y : Int32)  : Ct l E yX11_isOf (.code yX11_isOf cX11_isOf 3 (some .int)) ({ frames := 2, cells := 0, slots := 0, locals := 42 }) A (cw E ad sc ar bl) [.ref (ad 0), .int x, .int y] (some (.int (if ok2 (inr x (nI 0) (nI 3)) (inr y (nI 0) (nI 3)) = true then bI (cts (ar 15) (tn x) y) else (-1000000001)))) (cw E ad sc ar bl) := by
  refine Ct.of (lv := [(0, .ref (ad 0)), (1, .int x), (2, .int y)]) (by decide +kernel) (Nat.le_of_ble_eq_true rfl) rfl ?_
  intro zp ze zs zm za zb zh zc hc
  refine g_iload_n (pc := 0) hc 1 dX11_isOf_0 rfl rfl ?_
  refine g_callSi (pc := 1) (rest := []) (As := [.int x]) hc (c_X11_isKind l E ad hA sc ar bl x) mi_X11_isKind tw_332 rfl ⟨rfl, rfl, by decide, by decide⟩ (Nat.le_of_ble_eq_true rfl) ⟨Nat.le_refl _, Nat.le_refl _⟩ rfl dX11_isOf_1 ?_
  refine g_if_eq_b (pc := 4) hc 14 dX11_isOf_4 (by decide) (fun c1 => ?_) (fun c1 => ?_)
  · refine g_ldc (pc := 14) (v := (-1000000001)) hc tw_308 dX11_isOf_14 ?_
    exact g_iret (pc := 16) hc dX11_isOf_16 (by rw [if_neg (ne_true_of_eq_false (ok2_f1 c1))]) (rfl)
  · obtain ⟨j, hj1, hj2, hj⟩ := inr_of (by decide) c1 (by decide)
    refine g_eq (ws' := cw E ad sc ar bl) (lv' := [(0, .ref (ad 0)), (1, .int (nI j)), (2, .int y)]) rfl (by rw [hj]) rfl ?_
    refine g_iload_n (pc := 7) hc 2 dX11_isOf_7 rfl rfl ?_
    refine g_callSi (pc := 8) (rest := []) (As := [.int y]) hc (c_X8_isSort l E ad hA sc ar bl y) mi_X8_isSort tw_335 rfl ⟨rfl, rfl, by decide, by decide⟩ (Nat.le_of_ble_eq_true rfl) ⟨Nat.le_refl _, Nat.le_refl _⟩ rfl dX11_isOf_8 ?_
    refine g_if_ne_b (pc := 11) hc 17 dX11_isOf_11 (by decide) (fun c2 => ?_) (fun c2 => ?_)
    · refine g_aload_n (pc := 17) hc 0 dX11_isOf_17 rfl rfl ?_
      refine gf_c0_sorts (pc := 18) hc tw_256 dX11_isOf_18 ?_
      refine g_iload_n (pc := 21) hc 1 dX11_isOf_21 rfl rfl ?_
      refine g_iload_n (pc := 22) hc 2 dX11_isOf_22 rfl rfl ?_
      refine g_callVi (pc := 23) (rest := []) (As := [.int (nI j), .int y]) hc (c_X8_counts l E ad hA sc ar bl j y (by omega)) mi_X8_counts tw_347 2 rfl rfl rfl rfl ⟨rfl, rfl, by decide, by decide⟩ (Nat.le_of_ble_eq_true rfl) ⟨Nat.le_refl _, Nat.le_refl _⟩ rfl dX11_isOf_23 ?_
      refine g_callSi (pc := 26) (rest := []) (As := [.int (bI (cts (ar 15) j y))]) hc (c_X11_toInt l E ad hA sc ar bl (bI (cts (ar 15) j y))) mi_X11_toInt tw_351 rfl ⟨rfl, rfl, by decide, by decide⟩ (Nat.le_of_ble_eq_true rfl) ⟨Nat.le_refl _, Nat.le_refl _⟩ rfl dX11_isOf_26 ?_
      refine g_topi (v := bI (cts (ar 15) j y)) (toI_b _) ?_
      exact g_iret (pc := 29) hc dX11_isOf_29 (by rw [if_pos (ok2_t c1 c2), hj, tn, nI_clamp (by omega)]) (rfl)
    · refine g_ldc (pc := 14) (v := (-1000000001)) hc tw_308 dX11_isOf_14 ?_
      exact g_iret (pc := 16) hc dX11_isOf_16 (by rw [if_neg (ne_true_of_eq_false (ok2_f2 c1 c2))]) (rfl)

theorem wg_t {x : Int32} (h : (!decide (x ≤ 0)) = false) : x ≤ 0 := by simpa using h
theorem wg_f {x : Int32} (h : (!decide (x ≤ 0)) = true) : ¬ x ≤ 0 := by simpa using h
theorem wf_t {x y : Int32} (h : (!decide (x < y)) = true) : ¬ x < y := by simpa using h
theorem wf_f {x y : Int32} (h : (!decide (x < y)) = false) : x < y := by simpa using h
theorem nW_lt {x : Int32} {n k : Nat} (h : (!decide (x < nI k)) = false) (e : x = nI n) (hn : n < 2 ^ 31) (hk : k < 2 ^ 31) : n < k := by
  have := wf_f h
  rw [e] at this
  exact (nI_ltI hn hk).mp this

theorem dX11_walk_0 : decode cX11_walk 0 = .ok (.iload_n 1, 1) := by decide +kernel
theorem dX11_walk_1 : decode cX11_walk 1 = .ok (.invokestatic 141, 3) := by decide +kernel
theorem dX11_walk_4 : decode cX11_walk 4 = .ok (.ifCond .eq 14, 3) := by decide +kernel
theorem dX11_walk_7 : decode cX11_walk 7 = .ok (.aload_n 0, 1) := by decide +kernel
theorem dX11_walk_8 : decode cX11_walk 8 = .ok (.getfield 10, 3) := by decide +kernel
theorem dX11_walk_11 : decode cX11_walk 11 = .ok (.iload_n 2, 1) := by decide +kernel
theorem dX11_walk_12 : decode cX11_walk 12 = .ok (.invokevirtual 144, 3) := by decide +kernel
theorem dX11_walk_15 : decode cX11_walk 15 = .ok (.ifCond .ne 6, 3) := by decide +kernel
theorem dX11_walk_18 : decode cX11_walk 18 = .ok (.ldc 109, 2) := by decide +kernel
theorem dX11_walk_20 : decode cX11_walk 20 = .ok (.ireturn, 1) := by decide +kernel
theorem dX11_walk_21 : decode cX11_walk 21 = .ok (.aload_n 0, 1) := by decide +kernel
theorem dX11_walk_22 : decode cX11_walk 22 = .ok (.getfield 54, 3) := by decide +kernel
theorem dX11_walk_25 : decode cX11_walk 25 = .ok (.invokevirtual 147, 3) := by decide +kernel
theorem dX11_walk_28 : decode cX11_walk 28 = .ok (.ifCond .eq 23, 3) := by decide +kernel
theorem dX11_walk_31 : decode cX11_walk 31 = .ok (.aload_n 0, 1) := by decide +kernel
theorem dX11_walk_32 : decode cX11_walk 32 = .ok (.getfield 54, 3) := by decide +kernel
theorem dX11_walk_35 : decode cX11_walk 35 = .ok (.iload_n 1, 1) := by decide +kernel
theorem dX11_walk_36 : decode cX11_walk 36 = .ok (.iload_n 2, 1) := by decide +kernel
theorem dX11_walk_37 : decode cX11_walk 37 = .ok (.aload_n 0, 1) := by decide +kernel
theorem dX11_walk_38 : decode cX11_walk 38 = .ok (.getfield 68, 3) := by decide +kernel
theorem dX11_walk_41 : decode cX11_walk 41 = .ok (.invokevirtual 151, 3) := by decide +kernel
theorem dX11_walk_44 : decode cX11_walk 44 = .ok (.iconst (-1), 1) := by decide +kernel
theorem dX11_walk_45 : decode cX11_walk 45 = .ok (.if_icmp .ne 6, 3) := by decide +kernel
theorem dX11_walk_48 : decode cX11_walk 48 = .ok (.ldc 155, 2) := by decide +kernel
theorem dX11_walk_50 : decode cX11_walk 50 = .ok (.ireturn, 1) := by decide +kernel
theorem dX11_walk_51 : decode cX11_walk 51 = .ok (.aload_n 0, 1) := by decide +kernel
theorem dX11_walk_52 : decode cX11_walk 52 = .ok (.getfield 26, 3) := by decide +kernel
theorem dX11_walk_55 : decode cX11_walk 55 = .ok (.invokevirtual 156, 3) := by decide +kernel
theorem dX11_walk_58 : decode cX11_walk 58 = .ok (.ifCond .eq 6, 3) := by decide +kernel
theorem dX11_walk_61 : decode cX11_walk 61 = .ok (.ldc 159, 2) := by decide +kernel
theorem dX11_walk_63 : decode cX11_walk 63 = .ok (.ireturn, 1) := by decide +kernel
theorem dX11_walk_64 : decode cX11_walk 64 = .ok (.aload_n 0, 1) := by decide +kernel
theorem dX11_walk_65 : decode cX11_walk 65 = .ok (.getfield 26, 3) := by decide +kernel
theorem dX11_walk_68 : decode cX11_walk 68 = .ok (.iload_n 1, 1) := by decide +kernel
theorem dX11_walk_69 : decode cX11_walk 69 = .ok (.iload_n 2, 1) := by decide +kernel
theorem dX11_walk_70 : decode cX11_walk 70 = .ok (.aload_n 0, 1) := by decide +kernel
theorem dX11_walk_71 : decode cX11_walk 71 = .ok (.getfield 68, 3) := by decide +kernel
theorem dX11_walk_74 : decode cX11_walk 74 = .ok (.invokevirtual 160, 3) := by decide +kernel
theorem dX11_walk_77 : decode cX11_walk 77 = .ok (.ireturn, 1) := by decide +kernel

set_option maxHeartbeats 4000000 in
set_option maxRecDepth 100000 in
theorem c_X11_walk (l : Launch) (E : Ev) {A : Nat → Prop} (ad : Nat → Nat) (hA : Oka 39 ad A) (sc : Nat → Int32) (ar : Nat → Nat → Int32) (bl : Int64) {nW wd hg nL : Nat} (x : Int32) (y : Int32) (hW : sc 5 = nI nW) (hW60 : nW ≤ 60) (hwd : sc 3 = nI wd) (hwd1 : 2 ≤ wd) (hwd2 : wd ≤ 8) (hhg : sc 4 = nI hg) (hhg1 : 2 ≤ hg) (hhg2 : hg ≤ 8) (hL : sc 16 = nI nL) (hL12 : nL ≤ 12) : Ct l E yX11_walk (.code yX11_walk cX11_walk 3 (some .int)) ({ frames := 3, cells := 0, slots := 0, locals := 69 }) A (cw E ad sc ar bl) [.ref (ad 0), .int x, .int y] (some (.int (if ok2 (inr x (nI 0) (nI 4)) (inx y (nI hg)) = true then (if letok (sc 16) (lok (ar 31) (ar 32) (ar 33) (ar 34) (ar 35) (ar 36) x y (sc 0)) nL = true then (if sc 5 < nI 60 then nI nW else (-1000000003)) else (-1000000002)) else (-1000000001)))) (if ok2 (inr x (nI 0) (nI 4)) (inx y (nI hg)) = true then (if letok (sc 16) (lok (ar 31) (ar 32) (ar 33) (ar 34) (ar 35) (ar 36) x y (sc 0)) nL = true then (if sc 5 < nI 60 then cw E ad (va_up sc 5 (nI (nW + 1))) (va_up (va_up (va_up ar 16 (upd (ar 16) nW x)) 17 (upd (ar 17) nW y)) 18 (upd (ar 18) nW (sc 0))) bl else cw E ad sc ar bl) else cw E ad sc ar bl) else cw E ad sc ar bl) := by
  refine Ct.of (lv := [(0, .ref (ad 0)), (1, .int x), (2, .int y)]) (by decide +kernel) (Nat.le_of_ble_eq_true rfl) rfl ?_
  intro zp ze zs zm za zb zh zc hc
  refine g_iload_n (pc := 0) hc 1 dX11_walk_0 rfl rfl ?_
  refine g_callSi (pc := 1) (rest := []) (As := [.int x]) hc (c_X11_isWalker l E ad hA sc ar bl x) mi_X11_isWalker tw_358 rfl ⟨rfl, rfl, by decide, by decide⟩ (Nat.le_of_ble_eq_true rfl) ⟨Nat.le_refl _, Nat.le_refl _⟩ rfl dX11_walk_1 ?_
  refine g_if_eq_b (pc := 4) hc 18 dX11_walk_4 (by decide) (fun c1 => ?_) (fun c1 => ?_)
  · refine g_ldc (pc := 18) (v := (-1000000001)) hc tw_308 dX11_walk_18 ?_
    exact g_iret (pc := 20) hc dX11_walk_20 (by rw [if_neg (ne_true_of_eq_false (ok2_f1 c1))]) (by rw [if_neg (ne_true_of_eq_false (ok2_f1 c1))])
  · refine g_aload_n (pc := 7) hc 0 dX11_walk_7 rfl rfl ?_
    refine gf_c0_ground (pc := 8) hc tw_255 dX11_walk_8 ?_
    refine g_iload_n (pc := 11) hc 2 dX11_walk_11 rfl rfl ?_
    refine g_callVi (pc := 12) (rest := []) (As := [.int y]) hc (c_X2_hasRow l E ad hA sc ar bl y (hwd) (hwd1) (hwd2) (hhg) (hhg1) (hhg2)) mi_X2_hasRow tw_361 1 rfl rfl rfl rfl ⟨rfl, rfl, by decide, by decide⟩ (Nat.le_of_ble_eq_true rfl) ⟨Nat.le_refl _, Nat.le_refl _⟩ rfl dX11_walk_12 ?_
    refine g_if_ne_b (pc := 15) hc 21 dX11_walk_15 (by decide) (fun c2 => ?_) (fun c2 => ?_)
    · refine g_aload_n (pc := 21) hc 0 dX11_walk_21 rfl rfl ?_
      refine gf_c0_leaves (pc := 22) hc tw_264 dX11_walk_22 ?_
      refine g_callVi (pc := 25) (rest := []) (As := []) hc (c_X5_wereGiven l E ad hA sc ar bl) mi_X5_wereGiven tw_365 10 rfl rfl rfl rfl ⟨rfl, rfl, by decide, by decide⟩ (Nat.le_of_ble_eq_true rfl) ⟨Nat.le_refl _, Nat.le_refl _⟩ rfl dX11_walk_25 ?_
      refine g_if_eq_b (pc := 28) hc 51 dX11_walk_28 (by decide) (fun c3 => ?_) (fun c3 => ?_)
      · refine g_aload_n (pc := 51) hc 0 dX11_walk_51 rfl rfl ?_
        refine gf_c0_walks (pc := 52) hc tw_257 dX11_walk_52 ?_
        refine g_callVi (pc := 55) (rest := []) (As := []) hc (c_X10_isFull l E ad hA sc ar bl) mi_X10_isFull tw_379 3 rfl rfl rfl rfl ⟨rfl, rfl, by decide, by decide⟩ (Nat.le_of_ble_eq_true rfl) ⟨Nat.le_refl _, Nat.le_refl _⟩ rfl dX11_walk_55 ?_
        refine g_if_eq_b (pc := 58) hc 64 dX11_walk_58 (by decide) (fun c4 => ?_) (fun c4 => ?_)
        · have hW1 : nW < 60 := nW_lt c4 hW (by omega) (by decide)
          refine g_aload_n (pc := 64) hc 0 dX11_walk_64 rfl rfl ?_
          refine gf_c0_walks (pc := 65) hc tw_257 dX11_walk_65 ?_
          refine g_iload_n (pc := 68) hc 1 dX11_walk_68 rfl rfl ?_
          refine g_iload_n (pc := 69) hc 2 dX11_walk_69 rfl rfl ?_
          refine g_aload_n (pc := 70) hc 0 dX11_walk_70 rfl rfl ?_
          refine gf_c0_today (pc := 71) hc tw_267 dX11_walk_71 ?_
          refine g_callVi (pc := 74) (rest := []) (As := [.int x, .int y, .int (sc 0)]) hc (c_X10_add l E ad hA sc ar bl x y (sc 0) (hW) (hW1)) mi_X10_add tw_384 3 rfl rfl rfl rfl ⟨rfl, rfl, by decide, by decide⟩ (Nat.le_of_ble_eq_true rfl) ⟨Nat.le_refl _, Nat.le_refl _⟩ rfl dX11_walk_74 ?_
          exact g_iret (pc := 77) hc dX11_walk_77 (by rw [if_pos (ok2_t c1 c2), if_pos (by unfold letok; repeat (first | rw [if_pos c3] | rw [if_neg c3] | rw [if_neg (wg_f c3)] | rw [if_pos (wg_t c3)] | rw [if_pos c4] | rw [if_neg c4] | rw [if_neg (wg_f c4)] | rw [if_pos (wg_t c4)])), if_pos (wf_f c4)]) (by rw [if_pos (ok2_t c1 c2), if_pos (by unfold letok; repeat (first | rw [if_pos c3] | rw [if_neg c3] | rw [if_neg (wg_f c3)] | rw [if_pos (wg_t c3)] | rw [if_pos c4] | rw [if_neg c4] | rw [if_neg (wg_f c4)] | rw [if_pos (wg_t c4)])), if_pos (wf_f c4)])
        · refine g_ldc (pc := 61) (v := (-1000000003)) hc tw_383 dX11_walk_61 ?_
          exact g_iret (pc := 63) hc dX11_walk_63 (by rw [if_pos (ok2_t c1 c2), if_pos (by unfold letok; repeat (first | rw [if_pos c3] | rw [if_neg c3] | rw [if_neg (wg_f c3)] | rw [if_pos (wg_t c3)] | rw [if_pos c4] | rw [if_neg c4] | rw [if_neg (wg_f c4)] | rw [if_pos (wg_t c4)])), if_neg (wf_t c4)]) (by rw [if_pos (ok2_t c1 c2), if_pos (by unfold letok; repeat (first | rw [if_pos c3] | rw [if_neg c3] | rw [if_neg (wg_f c3)] | rw [if_pos (wg_t c3)] | rw [if_pos c4] | rw [if_neg c4] | rw [if_neg (wg_f c4)] | rw [if_pos (wg_t c4)])), if_neg (wf_t c4)])
      · refine g_aload_n (pc := 31) hc 0 dX11_walk_31 rfl rfl ?_
        refine gf_c0_leaves (pc := 32) hc tw_264 dX11_walk_32 ?_
        refine g_iload_n (pc := 35) hc 1 dX11_walk_35 rfl rfl ?_
        refine g_iload_n (pc := 36) hc 2 dX11_walk_36 rfl rfl ?_
        refine g_aload_n (pc := 37) hc 0 dX11_walk_37 rfl rfl ?_
        refine gf_c0_today (pc := 38) hc tw_267 dX11_walk_38 ?_
        refine g_callVi (pc := 41) (rest := []) (As := [.int x, .int y, .int (sc 0)]) hc (c_X5_firstLetting l E ad hA sc ar bl x y (sc 0) (hL) (hL12)) mi_X5_firstLetting tw_369 10 rfl rfl rfl rfl ⟨rfl, rfl, by decide, by decide⟩ (Nat.le_of_ble_eq_true rfl) ⟨Nat.le_refl _, Nat.le_refl _⟩ rfl dX11_walk_41 ?_
        refine g_iconst (pc := 44) (v := (-1)) hc dX11_walk_44 (by decide) ?_
        refine g_icmp_ne (pc := 45) hc 51 dX11_walk_45 (by decide) (fun c5 => ?_) (fun c5 => ?_)
        · refine g_aload_n (pc := 51) hc 0 dX11_walk_51 rfl rfl ?_
          refine gf_c0_walks (pc := 52) hc tw_257 dX11_walk_52 ?_
          refine g_callVi (pc := 55) (rest := []) (As := []) hc (c_X10_isFull l E ad hA sc ar bl) mi_X10_isFull tw_379 3 rfl rfl rfl rfl ⟨rfl, rfl, by decide, by decide⟩ (Nat.le_of_ble_eq_true rfl) ⟨Nat.le_refl _, Nat.le_refl _⟩ rfl dX11_walk_55 ?_
          refine g_if_eq_b (pc := 58) hc 64 dX11_walk_58 (by decide) (fun c6 => ?_) (fun c6 => ?_)
          · have hW1 : nW < 60 := nW_lt c6 hW (by omega) (by decide)
            refine g_aload_n (pc := 64) hc 0 dX11_walk_64 rfl rfl ?_
            refine gf_c0_walks (pc := 65) hc tw_257 dX11_walk_65 ?_
            refine g_iload_n (pc := 68) hc 1 dX11_walk_68 rfl rfl ?_
            refine g_iload_n (pc := 69) hc 2 dX11_walk_69 rfl rfl ?_
            refine g_aload_n (pc := 70) hc 0 dX11_walk_70 rfl rfl ?_
            refine gf_c0_today (pc := 71) hc tw_267 dX11_walk_71 ?_
            refine g_callVi (pc := 74) (rest := []) (As := [.int x, .int y, .int (sc 0)]) hc (c_X10_add l E ad hA sc ar bl x y (sc 0) (hW) (hW1)) mi_X10_add tw_384 3 rfl rfl rfl rfl ⟨rfl, rfl, by decide, by decide⟩ (Nat.le_of_ble_eq_true rfl) ⟨Nat.le_refl _, Nat.le_refl _⟩ rfl dX11_walk_74 ?_
            exact g_iret (pc := 77) hc dX11_walk_77 (by rw [if_pos (ok2_t c1 c2), if_pos (by unfold letok; repeat (first | rw [if_pos c3] | rw [if_neg c3] | rw [if_neg (wg_f c3)] | rw [if_pos (wg_t c3)] | rw [if_pos c5] | rw [if_neg c5] | rw [if_neg (wg_f c5)] | rw [if_pos (wg_t c5)] | rw [if_pos c6] | rw [if_neg c6] | rw [if_neg (wg_f c6)] | rw [if_pos (wg_t c6)])), if_pos (wf_f c6)]) (by rw [if_pos (ok2_t c1 c2), if_pos (by unfold letok; repeat (first | rw [if_pos c3] | rw [if_neg c3] | rw [if_neg (wg_f c3)] | rw [if_pos (wg_t c3)] | rw [if_pos c5] | rw [if_neg c5] | rw [if_neg (wg_f c5)] | rw [if_pos (wg_t c5)] | rw [if_pos c6] | rw [if_neg c6] | rw [if_neg (wg_f c6)] | rw [if_pos (wg_t c6)])), if_pos (wf_f c6)])
          · refine g_ldc (pc := 61) (v := (-1000000003)) hc tw_383 dX11_walk_61 ?_
            exact g_iret (pc := 63) hc dX11_walk_63 (by rw [if_pos (ok2_t c1 c2), if_pos (by unfold letok; repeat (first | rw [if_pos c3] | rw [if_neg c3] | rw [if_neg (wg_f c3)] | rw [if_pos (wg_t c3)] | rw [if_pos c5] | rw [if_neg c5] | rw [if_neg (wg_f c5)] | rw [if_pos (wg_t c5)] | rw [if_pos c6] | rw [if_neg c6] | rw [if_neg (wg_f c6)] | rw [if_pos (wg_t c6)])), if_neg (wf_t c6)]) (by rw [if_pos (ok2_t c1 c2), if_pos (by unfold letok; repeat (first | rw [if_pos c3] | rw [if_neg c3] | rw [if_neg (wg_f c3)] | rw [if_pos (wg_t c3)] | rw [if_pos c5] | rw [if_neg c5] | rw [if_neg (wg_f c5)] | rw [if_pos (wg_t c5)] | rw [if_pos c6] | rw [if_neg c6] | rw [if_neg (wg_f c6)] | rw [if_pos (wg_t c6)])), if_neg (wf_t c6)])
        · refine g_ldc (pc := 48) (v := (-1000000002)) hc tw_378 dX11_walk_48 ?_
          exact g_iret (pc := 50) hc dX11_walk_50 (by rw [if_pos (ok2_t c1 c2), if_neg (ne_true_of_eq_false (by unfold letok; repeat (first | rw [if_pos c3] | rw [if_neg c3] | rw [if_neg (wg_f c3)] | rw [if_pos (wg_t c3)] | rw [if_pos c5] | rw [if_neg c5] | rw [if_neg (wg_f c5)] | rw [if_pos (wg_t c5)])))]) (by rw [if_pos (ok2_t c1 c2), if_neg (ne_true_of_eq_false (by unfold letok; repeat (first | rw [if_pos c3] | rw [if_neg c3] | rw [if_neg (wg_f c3)] | rw [if_pos (wg_t c3)] | rw [if_pos c5] | rw [if_neg c5] | rw [if_neg (wg_f c5)] | rw [if_pos (wg_t c5)])))])
    · refine g_ldc (pc := 18) (v := (-1000000001)) hc tw_308 dX11_walk_18 ?_
      exact g_iret (pc := 20) hc dX11_walk_20 (by rw [if_neg (ne_true_of_eq_false (ok2_f2 c1 c2))]) (by rw [if_neg (ne_true_of_eq_false (ok2_f2 c1 c2))])

theorem dX11_find_0 : decode cX11_find 0 = .ok (.aload_n 0, 1) := by decide +kernel
theorem dX11_find_1 : decode cX11_find 1 = .ok (.getfield 26, 3) := by decide +kernel
theorem dX11_find_4 : decode cX11_find 4 = .ok (.iload_n 1, 1) := by decide +kernel
theorem dX11_find_5 : decode cX11_find 5 = .ok (.invokevirtual 163, 3) := by decide +kernel
theorem dX11_find_8 : decode cX11_find 8 = .ok (.ifCond .eq 21, 3) := by decide +kernel
theorem dX11_find_11 : decode cX11_find 11 = .ok (.iload_n 3, 1) := by decide +kernel
theorem dX11_find_12 : decode cX11_find 12 = .ok (.invokestatic 122, 3) := by decide +kernel
theorem dX11_find_15 : decode cX11_find 15 = .ok (.ifCond .eq 14, 3) := by decide +kernel
theorem dX11_find_18 : decode cX11_find 18 = .ok (.iload 4, 2) := by decide +kernel
theorem dX11_find_20 : decode cX11_find 20 = .ok (.iconst 1, 1) := by decide +kernel
theorem dX11_find_21 : decode cX11_find 21 = .ok (.bipush 99, 2) := by decide +kernel
theorem dX11_find_23 : decode cX11_find 23 = .ok (.invokestatic 105, 3) := by decide +kernel
theorem dX11_find_26 : decode cX11_find 26 = .ok (.ifCond .ne 6, 3) := by decide +kernel
theorem dX11_find_29 : decode cX11_find 29 = .ok (.ldc 109, 2) := by decide +kernel
theorem dX11_find_31 : decode cX11_find 31 = .ok (.ireturn, 1) := by decide +kernel
theorem dX11_find_32 : decode cX11_find 32 = .ok (.aload_n 0, 1) := by decide +kernel
theorem dX11_find_33 : decode cX11_find 33 = .ok (.getfield 10, 3) := by decide +kernel
theorem dX11_find_36 : decode cX11_find 36 = .ok (.iload_n 2, 1) := by decide +kernel
theorem dX11_find_37 : decode cX11_find 37 = .ok (.invokevirtual 166, 3) := by decide +kernel
theorem dX11_find_40 : decode cX11_find 40 = .ok (.ifCond .eq 22, 3) := by decide +kernel
theorem dX11_find_43 : decode cX11_find 43 = .ok (.aload_n 0, 1) := by decide +kernel
theorem dX11_find_44 : decode cX11_find 44 = .ok (.getfield 10, 3) := by decide +kernel
theorem dX11_find_47 : decode cX11_find 47 = .ok (.iload_n 2, 1) := by decide +kernel
theorem dX11_find_48 : decode cX11_find 48 = .ok (.invokevirtual 169, 3) := by decide +kernel
theorem dX11_find_51 : decode cX11_find 51 = .ok (.aload_n 0, 1) := by decide +kernel
theorem dX11_find_52 : decode cX11_find 52 = .ok (.getfield 26, 3) := by decide +kernel
theorem dX11_find_55 : decode cX11_find 55 = .ok (.iload_n 1, 1) := by decide +kernel
theorem dX11_find_56 : decode cX11_find 56 = .ok (.invokevirtual 173, 3) := by decide +kernel
theorem dX11_find_59 : decode cX11_find 59 = .ok (.if_icmp .eq 6, 3) := by decide +kernel
theorem dX11_find_62 : decode cX11_find 62 = .ok (.ldc 109, 2) := by decide +kernel
theorem dX11_find_64 : decode cX11_find 64 = .ok (.ireturn, 1) := by decide +kernel
theorem dX11_find_65 : decode cX11_find 65 = .ok (.aload_n 0, 1) := by decide +kernel
theorem dX11_find_66 : decode cX11_find 66 = .ok (.getfield 33, 3) := by decide +kernel
theorem dX11_find_69 : decode cX11_find 69 = .ok (.invokevirtual 174, 3) := by decide +kernel
theorem dX11_find_72 : decode cX11_find 72 = .ok (.ifCond .eq 6, 3) := by decide +kernel
theorem dX11_find_75 : decode cX11_find 75 = .ok (.ldc 159, 2) := by decide +kernel
theorem dX11_find_77 : decode cX11_find 77 = .ok (.ireturn, 1) := by decide +kernel
theorem dX11_find_78 : decode cX11_find 78 = .ok (.aload_n 0, 1) := by decide +kernel
theorem dX11_find_79 : decode cX11_find 79 = .ok (.getfield 26, 3) := by decide +kernel
theorem dX11_find_82 : decode cX11_find 82 = .ok (.iload_n 1, 1) := by decide +kernel
theorem dX11_find_83 : decode cX11_find 83 = .ok (.aload_n 0, 1) := by decide +kernel
theorem dX11_find_84 : decode cX11_find 84 = .ok (.getfield 10, 3) := by decide +kernel
theorem dX11_find_87 : decode cX11_find 87 = .ok (.iload_n 2, 1) := by decide +kernel
theorem dX11_find_88 : decode cX11_find 88 = .ok (.invokevirtual 175, 3) := by decide +kernel
theorem dX11_find_91 : decode cX11_find 91 = .ok (.iload_n 3, 1) := by decide +kernel
theorem dX11_find_92 : decode cX11_find 92 = .ok (.iload 4, 2) := by decide +kernel
theorem dX11_find_94 : decode cX11_find 94 = .ok (.invokevirtual 178, 3) := by decide +kernel
theorem dX11_find_97 : decode cX11_find 97 = .ok (.aload_n 0, 1) := by decide +kernel
theorem dX11_find_98 : decode cX11_find 98 = .ok (.getfield 33, 3) := by decide +kernel
theorem dX11_find_101 : decode cX11_find 101 = .ok (.iload_n 1, 1) := by decide +kernel
theorem dX11_find_102 : decode cX11_find 102 = .ok (.iload_n 2, 1) := by decide +kernel
theorem dX11_find_103 : decode cX11_find 103 = .ok (.iload_n 3, 1) := by decide +kernel
theorem dX11_find_104 : decode cX11_find 104 = .ok (.iload 4, 2) := by decide +kernel
theorem dX11_find_106 : decode cX11_find 106 = .ok (.invokevirtual 182, 3) := by decide +kernel
theorem dX11_find_109 : decode cX11_find 109 = .ok (.ireturn, 1) := by decide +kernel

set_option maxHeartbeats 4000000 in
set_option maxRecDepth 100000 in
theorem c_X11_find (l : Launch) (E : Ev) {A : Nat → Prop} (ad : Nat → Nat) (hA : Oka 39 ad A) (sc : Nat → Int32) (ar : Nat → Nat → Int32) (bl : Int64) {nW nF wd hg : Nat} (x : Int32) (y : Int32) (z : Int32) (u : Int32) (hW : sc 5 = nI nW) (hW60 : nW ≤ 60) (hF : sc 6 = nI nF) (hF200 : nF ≤ 200) (hwd : sc 3 = nI wd) (hwd1 : 2 ≤ wd) (hwd2 : wd ≤ 8) (hhg : sc 4 = nI hg) (hhg1 : 2 ≤ hg) (hhg2 : hg ≤ 8) : Ct l E yX11_find (.code yX11_find cX11_find 5 (some .int)) ({ frames := 2, cells := 0, slots := 0, locals := 46 }) A (cw E ad sc ar bl) [.ref (ad 0), .int x, .int y, .int z, .int u] (some (.int (if ok2 (inx x (nI nW)) (ok2 (inr z (nI 0) (nI 3)) (inr u (nI 1) (nI 99))) = true then (if ok2 (inx y (nI (wd * hg))) (decide (nI (tn y / wd) = ar 17 (tn x))) = true then (if sc 6 < nI 200 then nI nF else (-1000000003)) else (-1000000001)) else (-1000000001)))) (if ok2 (inx x (nI nW)) (ok2 (inr z (nI 0) (nI 3)) (inr u (nI 1) (nI 99))) = true then (if ok2 (inx y (nI (wd * hg))) (decide (nI (tn y / wd) = ar 17 (tn x))) = true then (if sc 6 < nI 200 then cw E ad (va_up sc 6 (nI (nF + 1))) (va_up (va_up (va_up (va_up (va_up (va_up ar 19 (upd (ar 19) (tn x * 4 + tn z) (ar 19 (tn x * 4 + tn z) + u))) 20 (upd (ar 20) ((tn x * 8 + tn y % wd) * 4 + tn z) (ar 20 ((tn x * 8 + tn y % wd) * 4 + tn z) + u))) 21 (upd (ar 21) nF x)) 22 (upd (ar 22) nF y)) 23 (upd (ar 23) nF z)) 24 (upd (ar 24) nF u)) bl else cw E ad sc ar bl) else cw E ad sc ar bl) else cw E ad sc ar bl) := by
  have hm := prod64 hwd2 hhg2
  refine Ct.of (lv := [(0, .ref (ad 0)), (1, .int x), (2, .int y), (3, .int z), (4, .int u)]) (by decide +kernel) (Nat.le_of_ble_eq_true rfl) rfl ?_
  intro zp ze zs zm za zb zh zc hc
  refine g_aload_n (pc := 0) hc 0 dX11_find_0 rfl rfl ?_
  refine gf_c0_walks (pc := 1) hc tw_257 dX11_find_1 ?_
  refine g_iload_n (pc := 4) hc 1 dX11_find_4 rfl rfl ?_
  refine g_callVi (pc := 5) (rest := []) (As := [.int x]) hc (c_X10_has l E ad hA sc ar bl x) mi_X10_has tw_392 3 rfl rfl rfl rfl ⟨rfl, rfl, by decide, by decide⟩ (Nat.le_of_ble_eq_true rfl) ⟨Nat.le_refl _, Nat.le_refl _⟩ rfl dX11_find_5 ?_
  refine g_if_eq_b (pc := 8) hc 29 dX11_find_8 (by decide) (fun c1 => ?_) (fun c1 => ?_)
  · rw [hW] at c1
    refine g_ldc (pc := 29) (v := (-1000000001)) hc tw_308 dX11_find_29 ?_
    exact g_iret (pc := 31) hc dX11_find_31 (by rw [if_neg (ne_true_of_eq_false (ok2_f1 c1))]) (by rw [if_neg (ne_true_of_eq_false (ok2_f1 c1))])
  · rw [hW] at c1
    refine g_iload_n (pc := 11) hc 3 dX11_find_11 rfl rfl ?_
    refine g_callSi (pc := 12) (rest := []) (As := [.int z]) hc (c_X11_isKind l E ad hA sc ar bl z) mi_X11_isKind tw_332 rfl ⟨rfl, rfl, by decide, by decide⟩ (Nat.le_of_ble_eq_true rfl) ⟨Nat.le_refl _, Nat.le_refl _⟩ rfl dX11_find_12 ?_
    refine g_if_eq_b (pc := 15) hc 29 dX11_find_15 (by decide) (fun c2 => ?_) (fun c2 => ?_)
    · refine g_ldc (pc := 29) (v := (-1000000001)) hc tw_308 dX11_find_29 ?_
      exact g_iret (pc := 31) hc dX11_find_31 (by rw [if_neg (ne_true_of_eq_false (ok2_f2 c1 (ok2_f1 c2)))]) (by rw [if_neg (ne_true_of_eq_false (ok2_f2 c1 (ok2_f1 c2)))])
    · refine g_iload (pc := 18) hc 4 dX11_find_18 rfl ?_
      refine g_iconst (pc := 20) (v := nI 1) hc dX11_find_20 (by decide) ?_
      refine g_bipush (pc := 21) (v := nI 99) hc dX11_find_21 (by decide) ?_
      refine g_callSi (pc := 23) (rest := []) (As := [.int u, .int (nI 1), .int (nI 99)]) hc (c_X11_within l E ad hA sc ar bl u (nI 1) (nI 99)) mi_X11_within tw_305 rfl ⟨rfl, rfl, by decide, by decide⟩ (Nat.le_of_ble_eq_true rfl) ⟨Nat.le_refl _, Nat.le_refl _⟩ rfl dX11_find_23 ?_
      refine g_if_ne_b (pc := 26) hc 32 dX11_find_26 (by decide) (fun c3 => ?_) (fun c3 => ?_)
      · obtain ⟨i, hi, hx⟩ := inx_of (by omega) c1
        obtain ⟨j, hj1, hj2, hz⟩ := inr_of (by decide) c2 (by decide)
        refine g_eq (ws' := cw E ad sc ar bl) (lv' := [(0, .ref (ad 0)), (1, .int (nI i)), (2, .int y), (3, .int (nI j)), (4, .int u)]) rfl (by rw [hx, hz]) rfl ?_
        refine g_aload_n (pc := 32) hc 0 dX11_find_32 rfl rfl ?_
        refine gf_c0_ground (pc := 33) hc tw_255 dX11_find_33 ?_
        refine g_iload_n (pc := 36) hc 2 dX11_find_36 rfl rfl ?_
        refine g_callVi (pc := 37) (rest := []) (As := [.int y]) hc (c_X2_hasPace l E ad hA sc ar bl y (hwd) (hwd1) (hwd2) (hhg) (hhg1) (hhg2)) mi_X2_hasPace tw_396 1 rfl rfl rfl rfl ⟨rfl, rfl, by decide, by decide⟩ (Nat.le_of_ble_eq_true rfl) ⟨Nat.le_refl _, Nat.le_refl _⟩ rfl dX11_find_37 ?_
        refine g_if_eq_b (pc := 40) hc 62 dX11_find_40 (by decide) (fun c4 => ?_) (fun c4 => ?_)
        · refine g_ldc (pc := 62) (v := (-1000000001)) hc tw_308 dX11_find_62 ?_
          exact g_iret (pc := 64) hc dX11_find_64 (by rw [if_pos (ok2_t c1 (ok2_t c2 c3)), if_neg (ne_true_of_eq_false (ok2_f1 c4))]) (by rw [if_pos (ok2_t c1 (ok2_t c2 c3)), if_neg (ne_true_of_eq_false (ok2_f1 c4))])
        · obtain ⟨p, hp, hy⟩ := inx_of (by omega) c4
          have hcol : p % wd < wd := Nat.mod_lt _ (by omega)
          refine g_eq (ws' := cw E ad sc ar bl) (lv' := [(0, .ref (ad 0)), (1, .int (nI i)), (2, .int (nI p)), (3, .int (nI j)), (4, .int u)]) rfl (by rw [hy]) rfl ?_
          refine g_aload_n (pc := 43) hc 0 dX11_find_43 rfl rfl ?_
          refine gf_c0_ground (pc := 44) hc tw_255 dX11_find_44 ?_
          refine g_iload_n (pc := 47) hc 2 dX11_find_47 rfl rfl ?_
          refine g_callVi (pc := 48) (rest := []) (As := [.int (nI p)]) hc (c_X2_rowOf l E ad hA sc ar bl p (hwd) (hwd1) (hwd2) (hhg) (hhg1) (hhg2) (by omega)) mi_X2_rowOf tw_401 1 rfl rfl rfl rfl ⟨rfl, rfl, by decide, by decide⟩ (Nat.le_of_ble_eq_true rfl) ⟨Nat.le_refl _, Nat.le_refl _⟩ rfl dX11_find_48 ?_
          refine g_aload_n (pc := 51) hc 0 dX11_find_51 rfl rfl ?_
          refine gf_c0_walks (pc := 52) hc tw_257 dX11_find_52 ?_
          refine g_iload_n (pc := 55) hc 1 dX11_find_55 rfl rfl ?_
          refine g_callVi (pc := 56) (rest := [.int (nI (p / wd))]) (As := [.int (nI i)]) hc (c_X10_rowOf l E ad hA sc ar bl i (by omega)) mi_X10_rowOf tw_405 3 rfl rfl rfl rfl ⟨rfl, rfl, by decide, by decide⟩ (Nat.le_of_ble_eq_true rfl) ⟨Nat.le_refl _, Nat.le_refl _⟩ rfl dX11_find_56 ?_
          refine g_icmp_eq (pc := 59) hc 65 dX11_find_59 (by decide) (fun c5 => ?_) (fun c5 => ?_)
          · refine g_aload_n (pc := 65) hc 0 dX11_find_65 rfl rfl ?_
            refine gf_c0_finds (pc := 66) hc tw_258 dX11_find_66 ?_
            refine g_callVi (pc := 69) (rest := []) (As := []) hc (c_X1_isFull l E ad hA sc ar bl) mi_X1_isFull tw_409 4 rfl rfl rfl rfl ⟨rfl, rfl, by decide, by decide⟩ (Nat.le_of_ble_eq_true rfl) ⟨Nat.le_refl _, Nat.le_refl _⟩ rfl dX11_find_69 ?_
            refine g_if_eq_b (pc := 72) hc 78 dX11_find_72 (by decide) (fun c6 => ?_) (fun c6 => ?_)
            · have hF1 : nF < 200 := nW_lt c6 hF (by omega) (by decide)
              refine g_aload_n (pc := 78) hc 0 dX11_find_78 rfl rfl ?_
              refine gf_c0_walks (pc := 79) hc tw_257 dX11_find_79 ?_
              refine g_iload_n (pc := 82) hc 1 dX11_find_82 rfl rfl ?_
              refine g_aload_n (pc := 83) hc 0 dX11_find_83 rfl rfl ?_
              refine gf_c0_ground (pc := 84) hc tw_255 dX11_find_84 ?_
              refine g_iload_n (pc := 87) hc 2 dX11_find_87 rfl rfl ?_
              refine g_callVi (pc := 88) (rest := [.int (nI i), .ref (ad 3)]) (As := [.int (nI p)]) hc (c_X2_columnOf l E ad hA sc ar bl p (hwd) (hwd1) (hwd2) (hhg) (hhg1) (hhg2) (by omega)) mi_X2_columnOf tw_413 1 rfl rfl rfl rfl ⟨rfl, rfl, by decide, by decide⟩ (Nat.le_of_ble_eq_true rfl) ⟨Nat.le_refl _, Nat.le_refl _⟩ rfl dX11_find_88 ?_
              refine g_iload_n (pc := 91) hc 3 dX11_find_91 rfl rfl ?_
              refine g_iload (pc := 92) hc 4 dX11_find_92 rfl ?_
              refine g_callVv (pc := 94) (rest := []) (As := [.int (nI i), .int (nI (p % wd)), .int (nI j), .int u]) hc (c_X10_bear l E ad hA sc ar bl i (p % wd) j u (by omega) (by omega) (by omega)) mi_X10_bear tw_418 3 rfl rfl rfl rfl ⟨rfl, rfl, by decide, by decide⟩ (Nat.le_of_ble_eq_true rfl) ⟨Nat.le_refl _, Nat.le_refl _⟩ rfl dX11_find_94 ?_
              refine g_aload_n (pc := 97) hc 0 dX11_find_97 rfl rfl ?_
              refine gf_c0_finds (pc := 98) hc tw_258 dX11_find_98 ?_
              refine g_iload_n (pc := 101) hc 1 dX11_find_101 rfl rfl ?_
              refine g_iload_n (pc := 102) hc 2 dX11_find_102 rfl rfl ?_
              refine g_iload_n (pc := 103) hc 3 dX11_find_103 rfl rfl ?_
              refine g_iload (pc := 104) hc 4 dX11_find_104 rfl ?_
              refine g_callVi (pc := 106) (rest := []) (As := [.int (nI i), .int (nI p), .int (nI j), .int u]) hc (c_X1_add l E ad hA sc (va_up (va_up ar 19 (upd (ar 19) (i * 4 + j) ((ar 19) (i * 4 + j) + u))) 20 (upd (ar 20) ((i * 8 + (p % wd)) * 4 + j) ((ar 20) ((i * 8 + (p % wd)) * 4 + j) + u))) bl (nI i) (nI p) (nI j) u (hF) (hF1)) mi_X1_add tw_425 4 rfl rfl rfl rfl ⟨rfl, rfl, by decide, by decide⟩ (Nat.le_of_ble_eq_true rfl) ⟨Nat.le_refl _, Nat.le_refl _⟩ rfl dX11_find_106 ?_
              refine g_topi (v := nI nF) rfl ?_
              refine g_eq (ws' := cw E ad (va_up sc 6 (nI (nF + 1))) (va_up (va_up (va_up (va_up (va_up (va_up ar 19 (upd (ar 19) (i * 4 + j) ((ar 19) (i * 4 + j) + u))) 20 (upd (ar 20) ((i * 8 + (p % wd)) * 4 + j) ((ar 20) ((i * 8 + (p % wd)) * 4 + j) + u))) 21 (upd (ar 21) nF (nI i))) 22 (upd (ar 22) nF (nI p))) 23 (upd (ar 23) nF (nI j))) 24 (upd (ar 24) nF u)) bl) (lv' := [(0, .ref (ad 0)), (1, .int (nI i)), (2, .int (nI p)), (3, .int (nI j)), (4, .int u)]) (rfl) rfl rfl ?_
              exact g_iret (pc := 109) hc dX11_find_109 (by rw [if_pos (ok2_t c1 (ok2_t c2 c3)), if_pos (ok2_t c4 (decide_eq_true (by rw [hx, hy, tn, tn, nI_clamp (by omega), nI_clamp (by omega)]; exact c5))), if_pos (wf_f c6)]) (by rw [if_pos (ok2_t c1 (ok2_t c2 c3)), if_pos (ok2_t c4 (decide_eq_true (by rw [hx, hy, tn, tn, nI_clamp (by omega), nI_clamp (by omega)]; exact c5))), if_pos (wf_f c6), hx, hy, hz, tn, tn, tn, nI_clamp (by omega), nI_clamp (by omega), nI_clamp (by omega)])
            · refine g_ldc (pc := 75) (v := (-1000000003)) hc tw_383 dX11_find_75 ?_
              exact g_iret (pc := 77) hc dX11_find_77 (by rw [if_pos (ok2_t c1 (ok2_t c2 c3)), if_pos (ok2_t c4 (decide_eq_true (by rw [hx, hy, tn, tn, nI_clamp (by omega), nI_clamp (by omega)]; exact c5))), if_neg (wf_t c6)]) (by rw [if_pos (ok2_t c1 (ok2_t c2 c3)), if_pos (ok2_t c4 (decide_eq_true (by rw [hx, hy, tn, tn, nI_clamp (by omega), nI_clamp (by omega)]; exact c5))), if_neg (wf_t c6)])
          · refine g_ldc (pc := 62) (v := (-1000000001)) hc tw_308 dX11_find_62 ?_
            exact g_iret (pc := 64) hc dX11_find_64 (by rw [if_pos (ok2_t c1 (ok2_t c2 c3)), if_neg (ne_true_of_eq_false (ok2_f2 c4 (decide_eq_false (by rw [hx, hy, tn, tn, nI_clamp (by omega), nI_clamp (by omega)]; exact c5))))]) (by rw [if_pos (ok2_t c1 (ok2_t c2 c3)), if_neg (ne_true_of_eq_false (ok2_f2 c4 (decide_eq_false (by rw [hx, hy, tn, tn, nI_clamp (by omega), nI_clamp (by omega)]; exact c5))))])
      · refine g_ldc (pc := 29) (v := (-1000000001)) hc tw_308 dX11_find_29 ?_
        exact g_iret (pc := 31) hc dX11_find_31 (by rw [if_neg (ne_true_of_eq_false (ok2_f2 c1 (ok2_f2 c2 c3)))]) (by rw [if_neg (ne_true_of_eq_false (ok2_f2 c1 (ok2_f2 c2 c3)))])
