theorem dX11_tellerAt_0 : decode cX11_tellerAt 0 = .ok (.aload_n 0, 1) := by decide +kernel
theorem dX11_tellerAt_1 : decode cX11_tellerAt 1 = .ok (.getfield 26, 3) := by decide +kernel
theorem dX11_tellerAt_4 : decode cX11_tellerAt 4 = .ok (.aload_n 0, 1) := by decide +kernel
theorem dX11_tellerAt_5 : decode cX11_tellerAt 5 = .ok (.getfield 10, 3) := by decide +kernel
theorem dX11_tellerAt_8 : decode cX11_tellerAt 8 = .ok (.iload_n 1, 1) := by decide +kernel
theorem dX11_tellerAt_9 : decode cX11_tellerAt 9 = .ok (.invokevirtual 169, 3) := by decide +kernel
theorem dX11_tellerAt_12 : decode cX11_tellerAt 12 = .ok (.invokevirtual 194, 3) := by decide +kernel
theorem dX11_tellerAt_15 : decode cX11_tellerAt 15 = .ok (.ireturn, 1) := by decide +kernel

set_option maxHeartbeats 4000000 in
set_option maxRecDepth 100000 in
theorem c_X11_tellerAt (l : Launch) (E : Ev) {A : Nat → Prop} (ad : Nat → Nat) (hA : Oka 39 ad A) (sc : Nat → Int32) (ar : Nat → Nat → Int32) (bl : Int64) {nW wd hg : Nat} (p : Nat) (hW : sc 5 = nI nW) (hW60 : nW ≤ 60) (hwd : sc 3 = nI wd) (hwd1 : 2 ≤ wd) (hwd2 : wd ≤ 8) (hhg : sc 4 = nI hg) (hhg1 : 2 ≤ hg) (hhg2 : hg ≤ 8) (hp : p < wd * hg) : Ct l E yX11_tellerAt (.code yX11_tellerAt cX11_tellerAt 2 (some .int)) ({ frames := 4, cells := 0, slots := 0, locals := 90 }) A (cw E ad sc ar bl) [.ref (ad 0), .int (nI p)] (some (.int (ctel nW (ar 17) (ar 19) (nI (p / wd))))) (cw E ad sc ar bl) := by
  have hm := prod64 hwd2 hhg2
  refine Ct.of (lv := [(0, .ref (ad 0)), (1, .int (nI p))]) (by decide +kernel) (Nat.le_of_ble_eq_true rfl) rfl ?_
  intro zp ze zs zm za zb zh zc hc
  refine g_aload_n (pc := 0) hc 0 dX11_tellerAt_0 rfl rfl ?_
  refine gf_c0_walks (pc := 1) hc tw_257 dX11_tellerAt_1 ?_
  refine g_aload_n (pc := 4) hc 0 dX11_tellerAt_4 rfl rfl ?_
  refine gf_c0_ground (pc := 5) hc tw_255 dX11_tellerAt_5 ?_
  refine g_iload_n (pc := 8) hc 1 dX11_tellerAt_8 rfl rfl ?_
  refine g_callVi (pc := 9) (rest := [.ref (ad 3)]) (As := [.int (nI p)]) hc (c_X2_rowOf l E ad hA sc ar bl p (hwd) (hwd1) (hwd2) (hhg) (hhg1) (hhg2) (by omega)) mi_X2_rowOf tw_401 1 rfl rfl rfl rfl ⟨rfl, rfl, by decide, by decide⟩ (Nat.le_of_ble_eq_true rfl) ⟨Nat.le_refl _, Nat.le_refl _⟩ rfl dX11_tellerAt_9 ?_
  refine g_callVi (pc := 12) (rest := []) (As := [.int (nI (p / wd))]) hc (c_X10_teller l E ad hA sc ar bl (nI (p / wd)) (hW) (hW60)) mi_X10_teller tw_450 3 rfl rfl rfl rfl ⟨rfl, rfl, by decide, by decide⟩ (Nat.le_of_ble_eq_true rfl) ⟨Nat.le_refl _, Nat.le_refl _⟩ rfl dX11_tellerAt_12 ?_
  exact g_iret (pc := 15) hc dX11_tellerAt_15 (rfl) (rfl)

theorem dX11_countedOf_0 : decode cX11_countedOf 0 = .ok (.iconst 0, 1) := by decide +kernel
theorem dX11_countedOf_1 : decode cX11_countedOf 1 = .ok (.istore_n 2, 1) := by decide +kernel
theorem dX11_countedOf_2 : decode cX11_countedOf 2 = .ok (.iconst 0, 1) := by decide +kernel
theorem dX11_countedOf_3 : decode cX11_countedOf 3 = .ok (.istore_n 3, 1) := by decide +kernel
theorem dX11_countedOf_4 : decode cX11_countedOf 4 = .ok (.iload_n 3, 1) := by decide +kernel
theorem dX11_countedOf_5 : decode cX11_countedOf 5 = .ok (.aload_n 0, 1) := by decide +kernel
theorem dX11_countedOf_6 : decode cX11_countedOf 6 = .ok (.getfield 10, 3) := by decide +kernel
theorem dX11_countedOf_9 : decode cX11_countedOf 9 = .ok (.invokevirtual 216, 3) := by decide +kernel
theorem dX11_countedOf_12 : decode cX11_countedOf 12 = .ok (.if_icmp .ge 28, 3) := by decide +kernel
theorem dX11_countedOf_15 : decode cX11_countedOf 15 = .ok (.iload_n 2, 1) := by decide +kernel
theorem dX11_countedOf_16 : decode cX11_countedOf 16 = .ok (.aload_n 0, 1) := by decide +kernel
theorem dX11_countedOf_17 : decode cX11_countedOf 17 = .ok (.getfield 26, 3) := by decide +kernel
theorem dX11_countedOf_20 : decode cX11_countedOf 20 = .ok (.aload_n 0, 1) := by decide +kernel
theorem dX11_countedOf_21 : decode cX11_countedOf 21 = .ok (.getfield 26, 3) := by decide +kernel
theorem dX11_countedOf_24 : decode cX11_countedOf 24 = .ok (.iload_n 3, 1) := by decide +kernel
theorem dX11_countedOf_25 : decode cX11_countedOf 25 = .ok (.invokevirtual 194, 3) := by decide +kernel
theorem dX11_countedOf_28 : decode cX11_countedOf 28 = .ok (.iload_n 1, 1) := by decide +kernel
theorem dX11_countedOf_29 : decode cX11_countedOf 29 = .ok (.invokevirtual 347, 3) := by decide +kernel
theorem dX11_countedOf_32 : decode cX11_countedOf 32 = .ok (.iadd, 1) := by decide +kernel
theorem dX11_countedOf_33 : decode cX11_countedOf 33 = .ok (.istore_n 2, 1) := by decide +kernel
theorem dX11_countedOf_34 : decode cX11_countedOf 34 = .ok (.iinc 3 1, 3) := by decide +kernel
theorem dX11_countedOf_37 : decode cX11_countedOf 37 = .ok (.goto (-33), 3) := by decide +kernel
theorem dX11_countedOf_40 : decode cX11_countedOf 40 = .ok (.iload_n 2, 1) := by decide +kernel
theorem dX11_countedOf_41 : decode cX11_countedOf 41 = .ok (.ireturn, 1) := by decide +kernel

set_option maxHeartbeats 4000000 in
set_option maxRecDepth 100000 in
theorem c_X11_countedOf (l : Launch) (E : Ev) {A : Nat → Prop} (ad : Nat → Nat) (hA : Oka 39 ad A) (sc : Nat → Int32) (ar : Nat → Nat → Int32) (bl : Int64) {nW wd hg : Nat} (j : Nat) (hW : sc 5 = nI nW) (hW60 : nW ≤ 60) (hwd : sc 3 = nI wd) (hwd1 : 2 ≤ wd) (hwd2 : wd ≤ 8) (hhg : sc 4 = nI hg) (hhg1 : 2 ≤ hg) (hhg2 : hg ≤ 8) (hj : j < 4) : Ct l E yX11_countedOf (.code yX11_countedOf cX11_countedOf 4 (some .int)) ({ frames := 4, cells := 0, slots := 0, locals := 90 }) A (cw E ad sc ar bl) [.ref (ad 0), .int (nI j)] (some (.int (cfo (sc 5) nW (ar 17) (ar 19) j hg))) (cw E ad sc ar bl) := by
  refine Ct.of (lv := [(0, .ref (ad 0)), (1, .int (nI j))]) (by decide +kernel) (Nat.le_of_ble_eq_true rfl) rfl ?_
  intro zp ze zs zm za zb zh zc hc
  refine g_iconst (pc := 0) (v := nI 0) hc dX11_countedOf_0 (by decide) ?_
  refine g_istore_n (pc := 1) (lv' := [(0, .ref (ad 0)), (1, .int (nI j)), (2, .int (nI 0))]) hc dX11_countedOf_1 rfl (by decide) rfl ?_
  refine g_iconst (pc := 2) (v := nI 0) hc dX11_countedOf_2 (by decide) ?_
  refine g_istore_n (pc := 3) (lv' := [(0, .ref (ad 0)), (1, .int (nI j)), (2, .int (nI 0)), (3, .int (nI 0))]) hc dX11_countedOf_3 rfl (by decide) rfl ?_
  have L4_1 : ∀ (kr r : Nat), r + kr = hg → G zp l ze ({ frames := 4, cells := 0, slots := 0, locals := 90 }) zs zm za zb zh zc 0 0 (MQ zb (Qz E A (some (.int (cfo (sc 5) nW (ar 17) (ar 19) j hg))) (cw E ad sc ar bl)) za zs 0 0 A) E A 4 (cw E ad sc ar bl) (4) [(0, .ref (ad 0)), (1, .int (nI j)), (2, .int (cfo (sc 5) nW (ar 17) (ar 19) j (r))), (3, .int (nI (r)))] [] := by
    intro kr
    induction kr with
    | zero =>
      intro r lhr
      have lhrn : hg = r := by omega
      subst lhrn
      refine g_iload_n (pc := 4) hc 3 dX11_countedOf_4 rfl rfl ?_
      refine g_aload_n (pc := 5) hc 0 dX11_countedOf_5 rfl rfl ?_
      refine gf_c0_ground (pc := 6) hc tw_255 dX11_countedOf_6 ?_
      refine g_callVi (pc := 9) (rest := [.int (nI (hg))]) (As := []) hc (c_X2_rows l E ad hA sc ar bl  (hwd) (hwd1) (hwd2) (hhg) (hhg1) (hhg2)) mi_X2_rows tw_495 1 rfl rfl rfl rfl ⟨rfl, rfl, by decide, by decide⟩ (Nat.le_of_ble_eq_true rfl) ⟨Nat.le_refl _, Nat.le_refl _⟩ rfl dX11_countedOf_9 ?_
      refine g_icmp_ge_t (pc := 12) hc 40 dX11_countedOf_12 (by decide) (nI_le (by omega) (by omega)) ?_
      refine g_iload_n (pc := 40) hc 2 dX11_countedOf_40 rfl rfl ?_
      exact g_iret (pc := 41) hc dX11_countedOf_41 (rfl) (rfl)
    | succ kr ihr =>
      intro r lhr
      have lhrn : r < hg := by omega
      refine g_iload_n (pc := 4) hc 3 dX11_countedOf_4 rfl rfl ?_
      refine g_aload_n (pc := 5) hc 0 dX11_countedOf_5 rfl rfl ?_
      refine gf_c0_ground (pc := 6) hc tw_255 dX11_countedOf_6 ?_
      refine g_callVi (pc := 9) (rest := [.int (nI (r))]) (As := []) hc (c_X2_rows l E ad hA sc ar bl  (hwd) (hwd1) (hwd2) (hhg) (hhg1) (hhg2)) mi_X2_rows tw_495 1 rfl rfl rfl rfl ⟨rfl, rfl, by decide, by decide⟩ (Nat.le_of_ble_eq_true rfl) ⟨Nat.le_refl _, Nat.le_refl _⟩ rfl dX11_countedOf_9 ?_
      refine g_icmp_ge_f (pc := 12) hc 40 dX11_countedOf_12 (by decide) (nI_ge (by omega) (by omega)) ?_
      refine g_iload_n (pc := 15) hc 2 dX11_countedOf_15 rfl rfl ?_
      refine g_aload_n (pc := 16) hc 0 dX11_countedOf_16 rfl rfl ?_
      refine gf_c0_walks (pc := 17) hc tw_257 dX11_countedOf_17 ?_
      refine g_aload_n (pc := 20) hc 0 dX11_countedOf_20 rfl rfl ?_
      refine gf_c0_walks (pc := 21) hc tw_257 dX11_countedOf_21 ?_
      refine g_iload_n (pc := 24) hc 3 dX11_countedOf_24 rfl rfl ?_
      refine g_callVi (pc := 25) (rest := [.ref (ad 3), .int (cfo (sc 5) nW (ar 17) (ar 19) j (r))]) (As := [.int (nI (r))]) hc (c_X10_teller l E ad hA sc ar bl (nI (r)) (hW) (hW60)) mi_X10_teller tw_450 3 rfl rfl rfl rfl ⟨rfl, rfl, by decide, by decide⟩ (Nat.le_of_ble_eq_true rfl) ⟨Nat.le_refl _, Nat.le_refl _⟩ rfl dX11_countedOf_25 ?_
      refine g_iload_n (pc := 28) hc 1 dX11_countedOf_28 rfl rfl ?_
      refine g_callVi (pc := 29) (rest := [.int (cfo (sc 5) nW (ar 17) (ar 19) j (r))]) (As := [.int (ctel nW (ar 17) (ar 19) (nI (r))), .int (nI j)]) hc (c_X10_sumOf l E ad hA sc ar bl (ctel nW (ar 17) (ar 19) (nI (r))) j (hW) (hW60) (by omega)) mi_X10_sumOf tw_712 3 rfl rfl rfl rfl ⟨rfl, rfl, by decide, by decide⟩ (Nat.le_of_ble_eq_true rfl) ⟨Nat.le_refl _, Nat.le_refl _⟩ rfl dX11_countedOf_29 ?_
      refine g_iadd (pc := 32) hc dX11_countedOf_32 ?_
      refine g_istore_n (pc := 33) (lv' := [(0, .ref (ad 0)), (1, .int (nI j)), (2, .int ((cfo (sc 5) nW (ar 17) (ar 19) j (r)) + (smo (sc 5) (ar 19) (ctel nW (ar 17) (ar 19) (nI (r))) j))), (3, .int (nI (r)))]) hc dX11_countedOf_33 rfl (by decide) rfl ?_
      refine g_iinc (pc := 34) (v := nI (r + 1)) (lv' := [(0, .ref (ad 0)), (1, .int (nI j)), (2, .int ((cfo (sc 5) nW (ar 17) (ar 19) j (r)) + (smo (sc 5) (ar 19) (ctel nW (ar 17) (ar 19) (nI (r))) j))), (3, .int (nI (r + 1)))]) hc 3 dX11_countedOf_34 rfl (nI_ofi r 1) (by decide) rfl ?_
      refine g_goto (pc := 37) hc 4 dX11_countedOf_37 (by decide) ?_
      exact g_eq (ws' := cw E ad sc ar bl) (lv' := [(0, .ref (ad 0)), (1, .int (nI j)), (2, .int (cfo (sc 5) nW (ar 17) (ar 19) j (r + 1))), (3, .int (nI (r + 1)))]) (rfl) (rfl) rfl (ihr (r + 1) (by omega))
  exact g_eq (ws' := cw E ad sc ar bl) (lv' := [(0, .ref (ad 0)), (1, .int (nI j)), (2, .int (cfo (sc 5) nW (ar 17) (ar 19) j (0))), (3, .int (nI (0)))]) (rfl) (rfl) rfl (L4_1 (hg - 0) (0) (by omega))

theorem dX11_gaps_0 : decode cX11_gaps 0 = .ok (.iconst 0, 1) := by decide +kernel
theorem dX11_gaps_1 : decode cX11_gaps 1 = .ok (.istore_n 1, 1) := by decide +kernel
theorem dX11_gaps_2 : decode cX11_gaps 2 = .ok (.iconst 0, 1) := by decide +kernel
theorem dX11_gaps_3 : decode cX11_gaps 3 = .ok (.istore_n 2, 1) := by decide +kernel
theorem dX11_gaps_4 : decode cX11_gaps 4 = .ok (.iload_n 2, 1) := by decide +kernel
theorem dX11_gaps_5 : decode cX11_gaps 5 = .ok (.aload_n 0, 1) := by decide +kernel
theorem dX11_gaps_6 : decode cX11_gaps 6 = .ok (.getfield 10, 3) := by decide +kernel
theorem dX11_gaps_9 : decode cX11_gaps 9 = .ok (.invokevirtual 216, 3) := by decide +kernel
theorem dX11_gaps_12 : decode cX11_gaps 12 = .ok (.if_icmp .ge 24, 3) := by decide +kernel
theorem dX11_gaps_15 : decode cX11_gaps 15 = .ok (.aload_n 0, 1) := by decide +kernel
theorem dX11_gaps_16 : decode cX11_gaps 16 = .ok (.getfield 26, 3) := by decide +kernel
theorem dX11_gaps_19 : decode cX11_gaps 19 = .ok (.iload_n 2, 1) := by decide +kernel
theorem dX11_gaps_20 : decode cX11_gaps 20 = .ok (.invokevirtual 194, 3) := by decide +kernel
theorem dX11_gaps_23 : decode cX11_gaps 23 = .ok (.iconst (-1), 1) := by decide +kernel
theorem dX11_gaps_24 : decode cX11_gaps 24 = .ok (.if_icmp .ne 6, 3) := by decide +kernel
theorem dX11_gaps_27 : decode cX11_gaps 27 = .ok (.iinc 1 1, 3) := by decide +kernel
theorem dX11_gaps_30 : decode cX11_gaps 30 = .ok (.iinc 2 1, 3) := by decide +kernel
theorem dX11_gaps_33 : decode cX11_gaps 33 = .ok (.goto (-29), 3) := by decide +kernel
theorem dX11_gaps_36 : decode cX11_gaps 36 = .ok (.iload_n 1, 1) := by decide +kernel
theorem dX11_gaps_37 : decode cX11_gaps 37 = .ok (.ireturn, 1) := by decide +kernel

set_option maxHeartbeats 4000000 in
set_option maxRecDepth 100000 in
theorem c_X11_gaps (l : Launch) (E : Ev) {A : Nat → Prop} (ad : Nat → Nat) (hA : Oka 39 ad A) (sc : Nat → Int32) (ar : Nat → Nat → Int32) (bl : Int64) {nW wd hg : Nat}  (hW : sc 5 = nI nW) (hW60 : nW ≤ 60) (hwd : sc 3 = nI wd) (hwd1 : 2 ≤ wd) (hwd2 : wd ≤ 8) (hhg : sc 4 = nI hg) (hhg1 : 2 ≤ hg) (hhg2 : hg ≤ 8) : Ct l E yX11_gaps (.code yX11_gaps cX11_gaps 3 (some .int)) ({ frames := 4, cells := 0, slots := 0, locals := 90 }) A (cw E ad sc ar bl) [.ref (ad 0)] (some (.int (gps nW (ar 17) (ar 19) hg))) (cw E ad sc ar bl) := by
  refine Ct.of (lv := [(0, .ref (ad 0))]) (by decide +kernel) (Nat.le_of_ble_eq_true rfl) rfl ?_
  intro zp ze zs zm za zb zh zc hc
  refine g_iconst (pc := 0) (v := nI 0) hc dX11_gaps_0 (by decide) ?_
  refine g_istore_n (pc := 1) (lv' := [(0, .ref (ad 0)), (1, .int (nI 0))]) hc dX11_gaps_1 rfl (by decide) rfl ?_
  refine g_iconst (pc := 2) (v := nI 0) hc dX11_gaps_2 (by decide) ?_
  refine g_istore_n (pc := 3) (lv' := [(0, .ref (ad 0)), (1, .int (nI 0)), (2, .int (nI 0))]) hc dX11_gaps_3 rfl (by decide) rfl ?_
  have L4_1 : ∀ (kr r : Nat), r + kr = hg → G zp l ze ({ frames := 4, cells := 0, slots := 0, locals := 90 }) zs zm za zb zh zc 0 0 (MQ zb (Qz E A (some (.int (gps nW (ar 17) (ar 19) hg))) (cw E ad sc ar bl)) za zs 0 0 A) E A 3 (cw E ad sc ar bl) (4) [(0, .ref (ad 0)), (1, .int (gps nW (ar 17) (ar 19) (r))), (2, .int (nI (r)))] [] := by
    intro kr
    induction kr with
    | zero =>
      intro r lhr
      have lhrn : hg = r := by omega
      subst lhrn
      refine g_iload_n (pc := 4) hc 2 dX11_gaps_4 rfl rfl ?_
      refine g_aload_n (pc := 5) hc 0 dX11_gaps_5 rfl rfl ?_
      refine gf_c0_ground (pc := 6) hc tw_255 dX11_gaps_6 ?_
      refine g_callVi (pc := 9) (rest := [.int (nI (hg))]) (As := []) hc (c_X2_rows l E ad hA sc ar bl  (hwd) (hwd1) (hwd2) (hhg) (hhg1) (hhg2)) mi_X2_rows tw_495 1 rfl rfl rfl rfl ⟨rfl, rfl, by decide, by decide⟩ (Nat.le_of_ble_eq_true rfl) ⟨Nat.le_refl _, Nat.le_refl _⟩ rfl dX11_gaps_9 ?_
      refine g_icmp_ge_t (pc := 12) hc 36 dX11_gaps_12 (by decide) (nI_le (by omega) (by omega)) ?_
      refine g_iload_n (pc := 36) hc 1 dX11_gaps_36 rfl rfl ?_
      exact g_iret (pc := 37) hc dX11_gaps_37 (rfl) (rfl)
    | succ kr ihr =>
      intro r lhr
      have lhrn : r < hg := by omega
      refine g_iload_n (pc := 4) hc 2 dX11_gaps_4 rfl rfl ?_
      refine g_aload_n (pc := 5) hc 0 dX11_gaps_5 rfl rfl ?_
      refine gf_c0_ground (pc := 6) hc tw_255 dX11_gaps_6 ?_
      refine g_callVi (pc := 9) (rest := [.int (nI (r))]) (As := []) hc (c_X2_rows l E ad hA sc ar bl  (hwd) (hwd1) (hwd2) (hhg) (hhg1) (hhg2)) mi_X2_rows tw_495 1 rfl rfl rfl rfl ⟨rfl, rfl, by decide, by decide⟩ (Nat.le_of_ble_eq_true rfl) ⟨Nat.le_refl _, Nat.le_refl _⟩ rfl dX11_gaps_9 ?_
      refine g_icmp_ge_f (pc := 12) hc 36 dX11_gaps_12 (by decide) (nI_ge (by omega) (by omega)) ?_
      refine g_aload_n (pc := 15) hc 0 dX11_gaps_15 rfl rfl ?_
      refine gf_c0_walks (pc := 16) hc tw_257 dX11_gaps_16 ?_
      refine g_iload_n (pc := 19) hc 2 dX11_gaps_19 rfl rfl ?_
      refine g_callVi (pc := 20) (rest := []) (As := [.int (nI (r))]) hc (c_X10_teller l E ad hA sc ar bl (nI (r)) (hW) (hW60)) mi_X10_teller tw_450 3 rfl rfl rfl rfl ⟨rfl, rfl, by decide, by decide⟩ (Nat.le_of_ble_eq_true rfl) ⟨Nat.le_refl _, Nat.le_refl _⟩ rfl dX11_gaps_20 ?_
      refine g_iconst (pc := 23) (v := (-1)) hc dX11_gaps_23 (by decide) ?_
      refine g_icmp_ne (pc := 24) hc 30 dX11_gaps_24 (by decide) (fun c2 => ?_) (fun c2 => ?_)
      · refine g_iinc (pc := 30) (v := nI (r + 1)) (lv' := [(0, .ref (ad 0)), (1, .int (gps nW (ar 17) (ar 19) (r))), (2, .int (nI (r + 1)))]) hc 2 dX11_gaps_30 rfl (nI_ofi r 1) (by decide) rfl ?_
        refine g_goto (pc := 33) hc 4 dX11_gaps_33 (by decide) ?_
        exact g_eq (ws' := cw E ad sc ar bl) (lv' := [(0, .ref (ad 0)), (1, .int (gps nW (ar 17) (ar 19) (r + 1))), (2, .int (nI (r + 1)))]) (rfl) (by rw [gps_succ]; repeat (first | rw [if_pos c2] | rw [if_neg c2] | rw [if_neg (ne_true_of_eq_false c2)])) rfl (ihr (r + 1) (by omega))
      · refine g_iinc (pc := 27) (v := (gps nW (ar 17) (ar 19) (r)) + 1) (lv' := [(0, .ref (ad 0)), (1, .int ((gps nW (ar 17) (ar 19) (r)) + 1)), (2, .int (nI (r)))]) hc 1 dX11_gaps_27 rfl (rfl) (by decide) rfl ?_
        refine g_iinc (pc := 30) (v := nI (r + 1)) (lv' := [(0, .ref (ad 0)), (1, .int ((gps nW (ar 17) (ar 19) (r)) + 1)), (2, .int (nI (r + 1)))]) hc 2 dX11_gaps_30 rfl (nI_ofi r 1) (by decide) rfl ?_
        refine g_goto (pc := 33) hc 4 dX11_gaps_33 (by decide) ?_
        exact g_eq (ws' := cw E ad sc ar bl) (lv' := [(0, .ref (ad 0)), (1, .int (gps nW (ar 17) (ar 19) (r + 1))), (2, .int (nI (r + 1)))]) (rfl) (by rw [gps_succ]; repeat (first | rw [if_pos c2] | rw [if_neg c2] | rw [if_neg (ne_true_of_eq_false c2)])) rfl (ihr (r + 1) (by omega))
  exact g_eq (ws' := cw E ad sc ar bl) (lv' := [(0, .ref (ad 0)), (1, .int (gps nW (ar 17) (ar 19) (0))), (2, .int (nI (0)))]) (rfl) (rfl) rfl (L4_1 (hg - 0) (0) (by omega))

theorem dX1_inWalkAt_0 : decode cX1_inWalkAt 0 = .ok (.iconst 0, 1) := by decide +kernel
theorem dX1_inWalkAt_1 : decode cX1_inWalkAt 1 = .ok (.istore 4, 2) := by decide +kernel
theorem dX1_inWalkAt_3 : decode cX1_inWalkAt 3 = .ok (.iconst 0, 1) := by decide +kernel
theorem dX1_inWalkAt_4 : decode cX1_inWalkAt 4 = .ok (.istore 5, 2) := by decide +kernel
theorem dX1_inWalkAt_6 : decode cX1_inWalkAt 6 = .ok (.iload 5, 2) := by decide +kernel
theorem dX1_inWalkAt_8 : decode cX1_inWalkAt 8 = .ok (.aload_n 0, 1) := by decide +kernel
theorem dX1_inWalkAt_9 : decode cX1_inWalkAt 9 = .ok (.getfield 24, 3) := by decide +kernel
theorem dX1_inWalkAt_12 : decode cX1_inWalkAt 12 = .ok (.if_icmp .ge 43, 3) := by decide +kernel
theorem dX1_inWalkAt_15 : decode cX1_inWalkAt 15 = .ok (.aload_n 0, 1) := by decide +kernel
theorem dX1_inWalkAt_16 : decode cX1_inWalkAt 16 = .ok (.getfield 11, 3) := by decide +kernel
theorem dX1_inWalkAt_19 : decode cX1_inWalkAt 19 = .ok (.iload 5, 2) := by decide +kernel
theorem dX1_inWalkAt_21 : decode cX1_inWalkAt 21 = .ok (.iaload, 1) := by decide +kernel
theorem dX1_inWalkAt_22 : decode cX1_inWalkAt 22 = .ok (.iload_n 1, 1) := by decide +kernel
theorem dX1_inWalkAt_23 : decode cX1_inWalkAt 23 = .ok (.if_icmp .ne 26, 3) := by decide +kernel
theorem dX1_inWalkAt_26 : decode cX1_inWalkAt 26 = .ok (.aload_n 0, 1) := by decide +kernel
theorem dX1_inWalkAt_27 : decode cX1_inWalkAt 27 = .ok (.getfield 15, 3) := by decide +kernel
theorem dX1_inWalkAt_30 : decode cX1_inWalkAt 30 = .ok (.iload 5, 2) := by decide +kernel
theorem dX1_inWalkAt_32 : decode cX1_inWalkAt 32 = .ok (.iaload, 1) := by decide +kernel
theorem dX1_inWalkAt_33 : decode cX1_inWalkAt 33 = .ok (.iload_n 2, 1) := by decide +kernel
theorem dX1_inWalkAt_34 : decode cX1_inWalkAt 34 = .ok (.if_icmp .ne 15, 3) := by decide +kernel
theorem dX1_inWalkAt_37 : decode cX1_inWalkAt 37 = .ok (.iload 4, 2) := by decide +kernel
theorem dX1_inWalkAt_39 : decode cX1_inWalkAt 39 = .ok (.iload_n 3, 1) := by decide +kernel
theorem dX1_inWalkAt_40 : decode cX1_inWalkAt 40 = .ok (.if_icmp .ne 6, 3) := by decide +kernel
theorem dX1_inWalkAt_43 : decode cX1_inWalkAt 43 = .ok (.iload 5, 2) := by decide +kernel
theorem dX1_inWalkAt_45 : decode cX1_inWalkAt 45 = .ok (.ireturn, 1) := by decide +kernel
theorem dX1_inWalkAt_46 : decode cX1_inWalkAt 46 = .ok (.iinc 4 1, 3) := by decide +kernel
theorem dX1_inWalkAt_49 : decode cX1_inWalkAt 49 = .ok (.iinc 5 1, 3) := by decide +kernel
theorem dX1_inWalkAt_52 : decode cX1_inWalkAt 52 = .ok (.goto (-46), 3) := by decide +kernel
theorem dX1_inWalkAt_55 : decode cX1_inWalkAt 55 = .ok (.iconst (-1), 1) := by decide +kernel
theorem dX1_inWalkAt_56 : decode cX1_inWalkAt 56 = .ok (.ireturn, 1) := by decide +kernel

set_option maxHeartbeats 4000000 in
set_option maxRecDepth 100000 in
theorem c_X1_inWalkAt (l : Launch) (E : Ev) {A : Nat → Prop} (ad : Nat → Nat) (hA : Oka 39 ad A) (sc : Nat → Int32) (ar : Nat → Nat → Int32) (bl : Int64) {nF : Nat} (x : Int32) (y : Int32) (z : Int32) (hF : sc 6 = nI nF) (hF200 : nF ≤ 200) : Ct l E yX1_inWalkAt (.code yX1_inWalkAt cX1_inWalkAt 6 (some .int)) ({ frames := 0, cells := 0, slots := 0, locals := 0 }) A (cw E ad sc ar bl) [.ref (ad 4), .int x, .int y, .int z] (some (.int (fstL (hit (ar 21) (ar 22) x y z) nF))) (cw E ad sc ar bl) := by
  refine Ct.of (lv := [(0, .ref (ad 4)), (1, .int x), (2, .int y), (3, .int z)]) (by decide +kernel) (Nat.le_of_ble_eq_true rfl) rfl ?_
  intro zp ze zs zm za zb zh zc hc
  refine g_iconst (pc := 0) (v := nI 0) hc dX1_inWalkAt_0 (by decide) ?_
  refine g_istore (pc := 1) (lv' := [(0, .ref (ad 4)), (1, .int x), (2, .int y), (3, .int z), (4, .int (nI 0))]) hc dX1_inWalkAt_1 (by decide) rfl ?_
  refine g_iconst (pc := 3) (v := nI 0) hc dX1_inWalkAt_3 (by decide) ?_
  refine g_istore (pc := 4) (lv' := [(0, .ref (ad 4)), (1, .int x), (2, .int y), (3, .int z), (4, .int (nI 0)), (5, .int (nI 0))]) hc dX1_inWalkAt_4 (by decide) rfl ?_
  have L6_1 : ∀ (ki i : Nat), i + ki = nF → (hno : ∀ k, k < i → hit (ar 21) (ar 22) x y z k = false) → G zp l ze ({ frames := 0, cells := 0, slots := 0, locals := 0 }) zs zm za zb zh zc 0 0 (MQ zb (Qz E A (some (.int (fstL (hit (ar 21) (ar 22) x y z) nF))) (cw E ad sc ar bl)) za zs 0 0 A) E A 6 (cw E ad sc ar bl) (6) [(0, .ref (ad 4)), (1, .int x), (2, .int y), (3, .int z), (4, .int (iwa (ar 21) (ar 22) x y (i))), (5, .int (nI (i)))] [] := by
    intro ki
    induction ki with
    | zero =>
      intro i lhi hno
      have lhin : nF = i := by omega
      subst lhin
      refine g_iload (pc := 6) hc 5 dX1_inWalkAt_6 rfl ?_
      refine g_aload_n (pc := 8) hc 0 dX1_inWalkAt_8 rfl rfl ?_
      refine gf_c4_number (pc := 9) hc tw_98 dX1_inWalkAt_9 ?_
      refine g_topi (v := nI nF) (hF) ?_
      refine g_icmp_ge_t (pc := 12) hc 55 dX1_inWalkAt_12 (by decide) (nI_le (by omega) (by omega)) ?_
      refine g_iconst (pc := 55) (v := (-1)) hc dX1_inWalkAt_55 (by decide) ?_
      exact g_iret (pc := 56) hc dX1_inWalkAt_56 (by rw [fstL_none hno]) (rfl)
    | succ ki ihi =>
      intro i lhi hno
      have lhin : i < nF := by omega
      refine g_iload (pc := 6) hc 5 dX1_inWalkAt_6 rfl ?_
      refine g_aload_n (pc := 8) hc 0 dX1_inWalkAt_8 rfl rfl ?_
      refine gf_c4_number (pc := 9) hc tw_98 dX1_inWalkAt_9 ?_
      refine g_topi (v := nI nF) (hF) ?_
      refine g_icmp_ge_f (pc := 12) hc 55 dX1_inWalkAt_12 (by decide) (nI_ge (by omega) (by omega)) ?_
      refine g_aload_n (pc := 15) hc 0 dX1_inWalkAt_15 rfl rfl ?_
      refine gf_c4_walks (pc := 16) hc tw_94 dX1_inWalkAt_16 ?_
      refine g_iload (pc := 19) hc 5 dX1_inWalkAt_19 rfl ?_
      refine la_c21 (pc := 21) hc (i) (rfl) (by omega) dX1_inWalkAt_21 ?_
      refine g_iload_n (pc := 22) hc 1 dX1_inWalkAt_22 rfl rfl ?_
      refine g_icmp_ne (pc := 23) hc 49 dX1_inWalkAt_23 (by decide) (fun c2 => ?_) (fun c2 => ?_)
      · refine g_iinc (pc := 49) (v := nI (i + 1)) (lv' := [(0, .ref (ad 4)), (1, .int x), (2, .int y), (3, .int z), (4, .int (iwa (ar 21) (ar 22) x y (i))), (5, .int (nI (i + 1)))]) hc 5 dX1_inWalkAt_49 rfl (nI_ofi i 1) (by decide) rfl ?_
        refine g_goto (pc := 52) hc 6 dX1_inWalkAt_52 (by decide) ?_
        exact g_eq (ws' := cw E ad sc ar bl) (lv' := [(0, .ref (ad 4)), (1, .int x), (2, .int y), (3, .int z), (4, .int (iwa (ar 21) (ar 22) x y (i + 1))), (5, .int (nI (i + 1)))]) (rfl) (by rw [iwa_succ]; repeat (first | rw [if_pos c2] | rw [if_neg c2] | rw [if_neg (ne_true_of_eq_false c2)])) rfl (ihi (i + 1) (by omega) (lt_s hno (by unfold hit; repeat (first | rw [if_pos c2] | rw [if_neg c2]))))
      · refine g_aload_n (pc := 26) hc 0 dX1_inWalkAt_26 rfl rfl ?_
        refine gf_c4_paces (pc := 27) hc tw_95 dX1_inWalkAt_27 ?_
        refine g_iload (pc := 30) hc 5 dX1_inWalkAt_30 rfl ?_
        refine la_c22 (pc := 32) hc (i) (rfl) (by omega) dX1_inWalkAt_32 ?_
        refine g_iload_n (pc := 33) hc 2 dX1_inWalkAt_33 rfl rfl ?_
        refine g_icmp_ne (pc := 34) hc 49 dX1_inWalkAt_34 (by decide) (fun c3 => ?_) (fun c3 => ?_)
        · refine g_iinc (pc := 49) (v := nI (i + 1)) (lv' := [(0, .ref (ad 4)), (1, .int x), (2, .int y), (3, .int z), (4, .int (iwa (ar 21) (ar 22) x y (i))), (5, .int (nI (i + 1)))]) hc 5 dX1_inWalkAt_49 rfl (nI_ofi i 1) (by decide) rfl ?_
          refine g_goto (pc := 52) hc 6 dX1_inWalkAt_52 (by decide) ?_
          exact g_eq (ws' := cw E ad sc ar bl) (lv' := [(0, .ref (ad 4)), (1, .int x), (2, .int y), (3, .int z), (4, .int (iwa (ar 21) (ar 22) x y (i + 1))), (5, .int (nI (i + 1)))]) (rfl) (by rw [iwa_succ]; repeat (first | rw [if_pos c2] | rw [if_neg c2] | rw [if_neg (ne_true_of_eq_false c2)] | rw [if_pos c3] | rw [if_neg c3] | rw [if_neg (ne_true_of_eq_false c3)])) rfl (ihi (i + 1) (by omega) (lt_s hno (by unfold hit; repeat (first | rw [if_pos c2] | rw [if_neg c2] | rw [if_pos c3] | rw [if_neg c3]))))
        · refine g_iload (pc := 37) hc 4 dX1_inWalkAt_37 rfl ?_
          refine g_iload_n (pc := 39) hc 3 dX1_inWalkAt_39 rfl rfl ?_
          refine g_icmp_ne (pc := 40) hc 46 dX1_inWalkAt_40 (by decide) (fun c4 => ?_) (fun c4 => ?_)
          · refine g_iinc (pc := 46) (v := (iwa (ar 21) (ar 22) x y (i)) + 1) (lv' := [(0, .ref (ad 4)), (1, .int x), (2, .int y), (3, .int z), (4, .int ((iwa (ar 21) (ar 22) x y (i)) + 1)), (5, .int (nI (i)))]) hc 4 dX1_inWalkAt_46 rfl (rfl) (by decide) rfl ?_
            refine g_iinc (pc := 49) (v := nI (i + 1)) (lv' := [(0, .ref (ad 4)), (1, .int x), (2, .int y), (3, .int z), (4, .int ((iwa (ar 21) (ar 22) x y (i)) + 1)), (5, .int (nI (i + 1)))]) hc 5 dX1_inWalkAt_49 rfl (nI_ofi i 1) (by decide) rfl ?_
            refine g_goto (pc := 52) hc 6 dX1_inWalkAt_52 (by decide) ?_
            exact g_eq (ws' := cw E ad sc ar bl) (lv' := [(0, .ref (ad 4)), (1, .int x), (2, .int y), (3, .int z), (4, .int (iwa (ar 21) (ar 22) x y (i + 1))), (5, .int (nI (i + 1)))]) (rfl) (by rw [iwa_succ]; repeat (first | rw [if_pos c2] | rw [if_neg c2] | rw [if_neg (ne_true_of_eq_false c2)] | rw [if_pos c3] | rw [if_neg c3] | rw [if_neg (ne_true_of_eq_false c3)] | rw [if_pos c4] | rw [if_neg c4] | rw [if_neg (ne_true_of_eq_false c4)])) rfl (ihi (i + 1) (by omega) (lt_s hno (by unfold hit; repeat (first | rw [if_pos c2] | rw [if_neg c2] | rw [if_pos c3] | rw [if_neg c3] | rw [if_pos c4] | rw [if_neg c4]))))
          · refine g_iload (pc := 43) hc 5 dX1_inWalkAt_43 rfl ?_
            exact g_iret (pc := 45) hc dX1_inWalkAt_45 (by rw [fstL_some hno (by unfold hit; repeat (first | rw [if_pos c2] | rw [if_neg c2] | rw [if_pos c3] | rw [if_neg c3] | rw [if_pos c4] | rw [if_neg c4])) (by omega) lhin]) (rfl)
  exact g_eq (ws' := cw E ad sc ar bl) (lv' := [(0, .ref (ad 4)), (1, .int x), (2, .int y), (3, .int z), (4, .int (iwa (ar 21) (ar 22) x y (0))), (5, .int (nI (0)))]) (rfl) (rfl) rfl (L6_1 (nF - 0) (0) (by omega) (fun k hk => absurd hk (Nat.not_lt_zero k)))

theorem dX11_sheetNumbered_0 : decode cX11_sheetNumbered 0 = .ok (.iload_n 1, 1) := by decide +kernel
theorem dX11_sheetNumbered_1 : decode cX11_sheetNumbered 1 = .ok (.ifCond .ne 10, 3) := by decide +kernel
theorem dX11_sheetNumbered_4 : decode cX11_sheetNumbered 4 = .ok (.aload_n 0, 1) := by decide +kernel
theorem dX11_sheetNumbered_5 : decode cX11_sheetNumbered 5 = .ok (.getfield 61, 3) := by decide +kernel
theorem dX11_sheetNumbered_8 : decode cX11_sheetNumbered 8 = .ok (.goto 7, 3) := by decide +kernel
theorem dX11_sheetNumbered_11 : decode cX11_sheetNumbered 11 = .ok (.aload_n 0, 1) := by decide +kernel
theorem dX11_sheetNumbered_12 : decode cX11_sheetNumbered 12 = .ok (.getfield 65, 3) := by decide +kernel
theorem dX11_sheetNumbered_15 : decode cX11_sheetNumbered 15 = .ok (.areturn, 1) := by decide +kernel

set_option maxHeartbeats 4000000 in
set_option maxRecDepth 100000 in
theorem c_X11_sn0 (l : Launch) (E : Ev) {A : Nat → Prop} (ad : Nat → Nat) (hA : Oka 39 ad A) (sc : Nat → Int32) (ar : Nat → Nat → Int32) (bl : Int64)  : Ct l E yX11_sheetNumbered (.code yX11_sheetNumbered cX11_sheetNumbered 2 (some (.object "SherdField$Sheet"))) ({ frames := 0, cells := 0, slots := 0, locals := 0 }) A (cw E ad sc ar bl) [.ref (ad 0), .int (nI 0)] (some (.ref (ad 11))) (cw E ad sc ar bl) := by
  refine Ct.of (lv := [(0, .ref (ad 0)), (1, .int (nI 0))]) (by decide +kernel) (Nat.le_of_ble_eq_true rfl) rfl ?_
  intro zp ze zs zm za zb zh zc hc
  refine g_iload_n (pc := 0) hc 1 dX11_sheetNumbered_0 rfl rfl ?_
  refine g_if_ne_f (pc := 1) hc 11 dX11_sheetNumbered_1 (by decide) (by decide) ?_
  refine g_aload_n (pc := 4) hc 0 dX11_sheetNumbered_4 rfl rfl ?_
  refine gf_c0_firstSheet (pc := 5) hc tw_265 dX11_sheetNumbered_5 ?_
  refine g_goto (pc := 8) hc 15 dX11_sheetNumbered_8 (by decide) ?_
  exact g_aret (pc := 15) hc dX11_sheetNumbered_15 (⟨_, rfl⟩) (rfl) (rfl)

set_option maxHeartbeats 4000000 in
set_option maxRecDepth 100000 in
theorem c_X11_sn1 (l : Launch) (E : Ev) {A : Nat → Prop} (ad : Nat → Nat) (hA : Oka 39 ad A) (sc : Nat → Int32) (ar : Nat → Nat → Int32) (bl : Int64)  : Ct l E yX11_sheetNumbered (.code yX11_sheetNumbered cX11_sheetNumbered 2 (some (.object "SherdField$Sheet"))) ({ frames := 0, cells := 0, slots := 0, locals := 0 }) A (cw E ad sc ar bl) [.ref (ad 0), .int (nI 1)] (some (.ref (ad 12))) (cw E ad sc ar bl) := by
  refine Ct.of (lv := [(0, .ref (ad 0)), (1, .int (nI 1))]) (by decide +kernel) (Nat.le_of_ble_eq_true rfl) rfl ?_
  intro zp ze zs zm za zb zh zc hc
  refine g_iload_n (pc := 0) hc 1 dX11_sheetNumbered_0 rfl rfl ?_
  refine g_if_ne_t (pc := 1) hc 11 dX11_sheetNumbered_1 (by decide) (by decide) ?_
  refine g_aload_n (pc := 11) hc 0 dX11_sheetNumbered_11 rfl rfl ?_
  refine gf_c0_secondSheet (pc := 12) hc tw_266 dX11_sheetNumbered_12 ?_
  exact g_aret (pc := 15) hc dX11_sheetNumbered_15 (⟨_, rfl⟩) (rfl) (rfl)
