theorem dX12_four_0 : decode cX12_four 0 = .ok (.bipush 24, 2) := by decide +kernel
theorem dX12_four_2 : decode cX12_four 2 = .ok (.istore_n 2, 1) := by decide +kernel
theorem dX12_four_3 : decode cX12_four 3 = .ok (.iload_n 2, 1) := by decide +kernel
theorem dX12_four_4 : decode cX12_four 4 = .ok (.ifCond .lt 35, 3) := by decide +kernel
theorem dX12_four_7 : decode cX12_four 7 = .ok (.aload_n 0, 1) := by decide +kernel
theorem dX12_four_8 : decode cX12_four 8 = .ok (.getfield 51, 3) := by decide +kernel
theorem dX12_four_11 : decode cX12_four 11 = .ok (.aload_n 0, 1) := by decide +kernel
theorem dX12_four_12 : decode cX12_four 12 = .ok (.getfield 204, 3) := by decide +kernel
theorem dX12_four_15 : decode cX12_four 15 = .ok (.iload_n 1, 1) := by decide +kernel
theorem dX12_four_16 : decode cX12_four 16 = .ok (.iload_n 2, 1) := by decide +kernel
theorem dX12_four_17 : decode cX12_four 17 = .ok (.ishr, 1) := by decide +kernel
theorem dX12_four_18 : decode cX12_four 18 = .ok (.sipush 255, 3) := by decide +kernel
theorem dX12_four_21 : decode cX12_four 21 = .ok (.iand, 1) := by decide +kernel
theorem dX12_four_22 : decode cX12_four 22 = .ok (.iastore, 1) := by decide +kernel
theorem dX12_four_23 : decode cX12_four 23 = .ok (.aload_n 0, 1) := by decide +kernel
theorem dX12_four_24 : decode cX12_four 24 = .ok (.dup, 1) := by decide +kernel
theorem dX12_four_25 : decode cX12_four 25 = .ok (.getfield 204, 3) := by decide +kernel
theorem dX12_four_28 : decode cX12_four 28 = .ok (.iconst 1, 1) := by decide +kernel
theorem dX12_four_29 : decode cX12_four 29 = .ok (.iadd, 1) := by decide +kernel
theorem dX12_four_30 : decode cX12_four 30 = .ok (.putfield 204, 3) := by decide +kernel
theorem dX12_four_33 : decode cX12_four 33 = .ok (.iinc 2 (-8), 3) := by decide +kernel
theorem dX12_four_36 : decode cX12_four 36 = .ok (.goto (-33), 3) := by decide +kernel
theorem dX12_four_39 : decode cX12_four 39 = .ok (.return_, 1) := by decide +kernel

set_option maxHeartbeats 4000000 in
set_option maxRecDepth 100000 in
theorem c_X12_four (l : Launch) (E : Ev) {A : Nat → Prop} (ad : Nat → Nat) (hA : Oka 30 ad A) (sc : Nat → Int32) (ar : Nat → Nat → Int32) (la : Nat → Int64) {tL : Nat} (x : Int32) (hT : sc 7 = nI tL) (hT4 : tL + 4 ≤ 60) : Ct l E yX12_four (.code yX12_four cX12_four 3 none) ({ frames := 0, cells := 0, slots := 0, locals := 0 }) A (mw E ad sc ar la) [.ref (ad 0), .int x] (none) (mw E ad (va_up sc 7 (nI (tL + 1 + 1 + 1 + 1))) (va_up ar 11 (mta (ar 11) tL x)) la) := by
  refine Ct.of (lv := [(0, .ref (ad 0)), (1, .int x)]) (by decide +kernel) (Nat.le_of_ble_eq_true rfl) rfl ?_
  intro zp ze zs zm za zb zh zc hc
  refine g_bipush (pc := 0) (v := nI 24) hc dX12_four_0 (by decide) ?_
  refine g_istore_n (pc := 2) (lv' := [(0, .ref (ad 0)), (1, .int x), (2, .int (nI 24))]) hc dX12_four_2 rfl (by decide) rfl ?_
  refine g_iload_n (pc := 3) hc 2 dX12_four_3 rfl rfl ?_
  refine g_if_lt_f (pc := 4) hc 39 dX12_four_4 (by decide) (by decide) ?_
  refine g_aload_n (pc := 7) hc 0 dX12_four_7 rfl rfl ?_
  refine gf_m0_tape (pc := 8) hc tw_1018 dX12_four_8 ?_
  refine g_aload_n (pc := 11) hc 0 dX12_four_11 rfl rfl ?_
  refine gf_m0_taped (pc := 12) hc tw_1019 dX12_four_12 ?_
  refine g_topi (v := nI tL) (hT) ?_
  refine g_iload_n (pc := 15) hc 1 dX12_four_15 rfl rfl ?_
  refine g_iload_n (pc := 16) hc 2 dX12_four_16 rfl rfl ?_
  refine g_ishr (pc := 17) hc dX12_four_17 ?_
  refine g_sipush (pc := 18) (v := nI 255) hc dX12_four_18 (by decide) ?_
  refine g_iand (pc := 21) hc dX12_four_21 ?_
  refine sa_m11 (pc := 22) hc hA (tL) (rfl) (by omega) dX12_four_22 ?_
  refine g_aload_n (pc := 23) hc 0 dX12_four_23 rfl rfl ?_
  refine g_dup (pc := 24) hc dX12_four_24 rfl ?_
  refine gf_m0_taped (pc := 25) hc tw_1019 dX12_four_25 ?_
  refine g_topi (v := nI tL) (hT) ?_
  refine g_iconst (pc := 28) (v := nI 1) hc dX12_four_28 (by decide) ?_
  refine g_iadd (pc := 29) hc dX12_four_29 ?_
  refine g_topi (v := nI (tL + 1)) (nI_add tL 1) ?_
  refine pf_m0_taped (pc := 30) hc hA tw_1019 dX12_four_30 ?_
  refine g_iinc (pc := 33) (v := nI 16) (lv' := [(0, .ref (ad 0)), (1, .int x), (2, .int (nI 16))]) hc 2 dX12_four_33 rfl (by decide) (by decide) rfl ?_
  refine g_goto (pc := 36) hc 3 dX12_four_36 (by decide) ?_
  refine g_iload_n (pc := 3) hc 2 dX12_four_3 rfl rfl ?_
  refine g_if_lt_f (pc := 4) hc 39 dX12_four_4 (by decide) (by decide) ?_
  refine g_aload_n (pc := 7) hc 0 dX12_four_7 rfl rfl ?_
  refine gf_m0_tape (pc := 8) hc tw_1018 dX12_four_8 ?_
  refine g_aload_n (pc := 11) hc 0 dX12_four_11 rfl rfl ?_
  refine gf_m0_taped (pc := 12) hc tw_1019 dX12_four_12 ?_
  refine g_topi (v := nI (tL + 1)) rfl ?_
  refine g_iload_n (pc := 15) hc 1 dX12_four_15 rfl rfl ?_
  refine g_iload_n (pc := 16) hc 2 dX12_four_16 rfl rfl ?_
  refine g_ishr (pc := 17) hc dX12_four_17 ?_
  refine g_sipush (pc := 18) (v := nI 255) hc dX12_four_18 (by decide) ?_
  refine g_iand (pc := 21) hc dX12_four_21 ?_
  refine sa_m11 (pc := 22) hc hA (tL + 1) (rfl) (by omega) dX12_four_22 ?_
  refine g_eq (ws' := mw E ad (va_up sc 7 (nI (tL + 1))) (va_up ar 11 (upd (upd (ar 11) tL ((x >>> ((nI 24) &&& 31)) &&& (nI 255))) (tL + 1) ((x >>> ((nI 16) &&& 31)) &&& (nI 255)))) la) (lv' := [(0, .ref (ad 0)), (1, .int x), (2, .int (nI 16))]) rfl rfl rfl ?_
  refine g_aload_n (pc := 23) hc 0 dX12_four_23 rfl rfl ?_
  refine g_dup (pc := 24) hc dX12_four_24 rfl ?_
  refine gf_m0_taped (pc := 25) hc tw_1019 dX12_four_25 ?_
  refine g_topi (v := nI (tL + 1)) rfl ?_
  refine g_iconst (pc := 28) (v := nI 1) hc dX12_four_28 (by decide) ?_
  refine g_iadd (pc := 29) hc dX12_four_29 ?_
  refine g_topi (v := nI ((tL + 1) + 1)) (nI_add (tL + 1) 1) ?_
  refine pf_m0_taped (pc := 30) hc hA tw_1019 dX12_four_30 ?_
  refine g_eq (ws' := mw E ad (va_up sc 7 (nI ((tL + 1) + 1))) (va_up ar 11 (upd (upd (ar 11) tL ((x >>> ((nI 24) &&& 31)) &&& (nI 255))) (tL + 1) ((x >>> ((nI 16) &&& 31)) &&& (nI 255)))) la) (lv' := [(0, .ref (ad 0)), (1, .int x), (2, .int (nI 16))]) rfl rfl rfl ?_
  refine g_iinc (pc := 33) (v := nI 8) (lv' := [(0, .ref (ad 0)), (1, .int x), (2, .int (nI 8))]) hc 2 dX12_four_33 rfl (by decide) (by decide) rfl ?_
  refine g_goto (pc := 36) hc 3 dX12_four_36 (by decide) ?_
  refine g_iload_n (pc := 3) hc 2 dX12_four_3 rfl rfl ?_
  refine g_if_lt_f (pc := 4) hc 39 dX12_four_4 (by decide) (by decide) ?_
  refine g_aload_n (pc := 7) hc 0 dX12_four_7 rfl rfl ?_
  refine gf_m0_tape (pc := 8) hc tw_1018 dX12_four_8 ?_
  refine g_aload_n (pc := 11) hc 0 dX12_four_11 rfl rfl ?_
  refine gf_m0_taped (pc := 12) hc tw_1019 dX12_four_12 ?_
  refine g_topi (v := nI ((tL + 1) + 1)) rfl ?_
  refine g_iload_n (pc := 15) hc 1 dX12_four_15 rfl rfl ?_
  refine g_iload_n (pc := 16) hc 2 dX12_four_16 rfl rfl ?_
  refine g_ishr (pc := 17) hc dX12_four_17 ?_
  refine g_sipush (pc := 18) (v := nI 255) hc dX12_four_18 (by decide) ?_
  refine g_iand (pc := 21) hc dX12_four_21 ?_
  refine sa_m11 (pc := 22) hc hA ((tL + 1) + 1) (rfl) (by omega) dX12_four_22 ?_
  refine g_eq (ws' := mw E ad (va_up sc 7 (nI ((tL + 1) + 1))) (va_up ar 11 (upd (upd (upd (ar 11) tL ((x >>> ((nI 24) &&& 31)) &&& (nI 255))) (tL + 1) ((x >>> ((nI 16) &&& 31)) &&& (nI 255))) ((tL + 1) + 1) ((x >>> ((nI 8) &&& 31)) &&& (nI 255)))) la) (lv' := [(0, .ref (ad 0)), (1, .int x), (2, .int (nI 8))]) rfl rfl rfl ?_
  refine g_aload_n (pc := 23) hc 0 dX12_four_23 rfl rfl ?_
  refine g_dup (pc := 24) hc dX12_four_24 rfl ?_
  refine gf_m0_taped (pc := 25) hc tw_1019 dX12_four_25 ?_
  refine g_topi (v := nI ((tL + 1) + 1)) rfl ?_
  refine g_iconst (pc := 28) (v := nI 1) hc dX12_four_28 (by decide) ?_
  refine g_iadd (pc := 29) hc dX12_four_29 ?_
  refine g_topi (v := nI (((tL + 1) + 1) + 1)) (nI_add ((tL + 1) + 1) 1) ?_
  refine pf_m0_taped (pc := 30) hc hA tw_1019 dX12_four_30 ?_
  refine g_eq (ws' := mw E ad (va_up sc 7 (nI (((tL + 1) + 1) + 1))) (va_up ar 11 (upd (upd (upd (ar 11) tL ((x >>> ((nI 24) &&& 31)) &&& (nI 255))) (tL + 1) ((x >>> ((nI 16) &&& 31)) &&& (nI 255))) ((tL + 1) + 1) ((x >>> ((nI 8) &&& 31)) &&& (nI 255)))) la) (lv' := [(0, .ref (ad 0)), (1, .int x), (2, .int (nI 8))]) rfl rfl rfl ?_
  refine g_iinc (pc := 33) (v := nI 0) (lv' := [(0, .ref (ad 0)), (1, .int x), (2, .int (nI 0))]) hc 2 dX12_four_33 rfl (by decide) (by decide) rfl ?_
  refine g_goto (pc := 36) hc 3 dX12_four_36 (by decide) ?_
  refine g_iload_n (pc := 3) hc 2 dX12_four_3 rfl rfl ?_
  refine g_if_lt_f (pc := 4) hc 39 dX12_four_4 (by decide) (by decide) ?_
  refine g_aload_n (pc := 7) hc 0 dX12_four_7 rfl rfl ?_
  refine gf_m0_tape (pc := 8) hc tw_1018 dX12_four_8 ?_
  refine g_aload_n (pc := 11) hc 0 dX12_four_11 rfl rfl ?_
  refine gf_m0_taped (pc := 12) hc tw_1019 dX12_four_12 ?_
  refine g_topi (v := nI (((tL + 1) + 1) + 1)) rfl ?_
  refine g_iload_n (pc := 15) hc 1 dX12_four_15 rfl rfl ?_
  refine g_iload_n (pc := 16) hc 2 dX12_four_16 rfl rfl ?_
  refine g_ishr (pc := 17) hc dX12_four_17 ?_
  refine g_sipush (pc := 18) (v := nI 255) hc dX12_four_18 (by decide) ?_
  refine g_iand (pc := 21) hc dX12_four_21 ?_
  refine sa_m11 (pc := 22) hc hA (((tL + 1) + 1) + 1) (rfl) (by omega) dX12_four_22 ?_
  refine g_eq (ws' := mw E ad (va_up sc 7 (nI (((tL + 1) + 1) + 1))) (va_up ar 11 (upd (upd (upd (upd (ar 11) tL ((x >>> ((nI 24) &&& 31)) &&& (nI 255))) (tL + 1) ((x >>> ((nI 16) &&& 31)) &&& (nI 255))) ((tL + 1) + 1) ((x >>> ((nI 8) &&& 31)) &&& (nI 255))) (((tL + 1) + 1) + 1) ((x >>> ((nI 0) &&& 31)) &&& (nI 255)))) la) (lv' := [(0, .ref (ad 0)), (1, .int x), (2, .int (nI 0))]) rfl rfl rfl ?_
  refine g_aload_n (pc := 23) hc 0 dX12_four_23 rfl rfl ?_
  refine g_dup (pc := 24) hc dX12_four_24 rfl ?_
  refine gf_m0_taped (pc := 25) hc tw_1019 dX12_four_25 ?_
  refine g_topi (v := nI (((tL + 1) + 1) + 1)) rfl ?_
  refine g_iconst (pc := 28) (v := nI 1) hc dX12_four_28 (by decide) ?_
  refine g_iadd (pc := 29) hc dX12_four_29 ?_
  refine g_topi (v := nI ((((tL + 1) + 1) + 1) + 1)) (nI_add (((tL + 1) + 1) + 1) 1) ?_
  refine pf_m0_taped (pc := 30) hc hA tw_1019 dX12_four_30 ?_
  refine g_eq (ws' := mw E ad (va_up sc 7 (nI ((((tL + 1) + 1) + 1) + 1))) (va_up ar 11 (upd (upd (upd (upd (ar 11) tL ((x >>> ((nI 24) &&& 31)) &&& (nI 255))) (tL + 1) ((x >>> ((nI 16) &&& 31)) &&& (nI 255))) ((tL + 1) + 1) ((x >>> ((nI 8) &&& 31)) &&& (nI 255))) (((tL + 1) + 1) + 1) ((x >>> ((nI 0) &&& 31)) &&& (nI 255)))) la) (lv' := [(0, .ref (ad 0)), (1, .int x), (2, .int (nI 0))]) rfl rfl rfl ?_
  refine g_iinc (pc := 33) (v := (-8)) (lv' := [(0, .ref (ad 0)), (1, .int x), (2, .int (-8))]) hc 2 dX12_four_33 rfl (by decide) (by decide) rfl ?_
  refine g_goto (pc := 36) hc 3 dX12_four_36 (by decide) ?_
  refine g_iload_n (pc := 3) hc 2 dX12_four_3 rfl rfl ?_
  refine g_if_lt_t (pc := 4) hc 39 dX12_four_4 (by decide) (by decide) ?_
  exact g_vret (pc := 39) hc dX12_four_39 rfl (rfl)

theorem dX12_feed_0 : decode cX12_feed 0 = .ok (.aload_n 0, 1) := by decide +kernel
theorem dX12_feed_1 : decode cX12_feed 1 = .ok (.getfield 204, 3) := by decide +kernel
theorem dX12_feed_4 : decode cX12_feed 4 = .ok (.bipush 12, 2) := by decide +kernel
theorem dX12_feed_6 : decode cX12_feed 6 = .ok (.iadd, 1) := by decide +kernel
theorem dX12_feed_7 : decode cX12_feed 7 = .ok (.bipush 60, 2) := by decide +kernel
theorem dX12_feed_9 : decode cX12_feed 9 = .ok (.if_icmp .le 6, 3) := by decide +kernel
theorem dX12_feed_12 : decode cX12_feed 12 = .ok (.ldc 150, 2) := by decide +kernel
theorem dX12_feed_14 : decode cX12_feed 14 = .ok (.ireturn, 1) := by decide +kernel
theorem dX12_feed_15 : decode cX12_feed 15 = .ok (.aload_n 0, 1) := by decide +kernel
theorem dX12_feed_16 : decode cX12_feed 16 = .ok (.iload_n 1, 1) := by decide +kernel
theorem dX12_feed_17 : decode cX12_feed 17 = .ok (.invokevirtual 207, 3) := by decide +kernel
theorem dX12_feed_20 : decode cX12_feed 20 = .ok (.aload_n 0, 1) := by decide +kernel
theorem dX12_feed_21 : decode cX12_feed 21 = .ok (.iload_n 2, 1) := by decide +kernel
theorem dX12_feed_22 : decode cX12_feed 22 = .ok (.invokevirtual 207, 3) := by decide +kernel
theorem dX12_feed_25 : decode cX12_feed 25 = .ok (.aload_n 0, 1) := by decide +kernel
theorem dX12_feed_26 : decode cX12_feed 26 = .ok (.iload_n 3, 1) := by decide +kernel
theorem dX12_feed_27 : decode cX12_feed 27 = .ok (.invokevirtual 207, 3) := by decide +kernel
theorem dX12_feed_30 : decode cX12_feed 30 = .ok (.aload_n 0, 1) := by decide +kernel
theorem dX12_feed_31 : decode cX12_feed 31 = .ok (.getfield 204, 3) := by decide +kernel
theorem dX12_feed_34 : decode cX12_feed 34 = .ok (.ireturn, 1) := by decide +kernel

set_option maxHeartbeats 4000000 in
set_option maxRecDepth 100000 in
theorem c_X12_feed (l : Launch) (E : Ev) {A : Nat → Prop} (ad : Nat → Nat) (hA : Oka 30 ad A) (sc : Nat → Int32) (ar : Nat → Nat → Int32) (la : Nat → Int64) {tL : Nat} (x : Int32) (y : Int32) (z : Int32) (hT : sc 7 = nI tL) (hT60 : tL ≤ 60) : Ct l E yX12_feed (.code yX12_feed cX12_feed 4 (some .int)) ({ frames := 1, cells := 0, slots := 0, locals := 22 }) A (mw E ad sc ar la) [.ref (ad 0), .int x, .int y, .int z] (some (.int (if tL + 12 ≤ 60 then nI (tL + 4 + 4 + 4) else (-1000000003)))) (if tL + 12 ≤ 60 then mw E ad (va_up sc 7 (nI (tL + 4 + 4 + 4))) (va_up ar 11 (mta (mta (mta (ar 11) tL x) (tL + 4) y) (tL + 4 + 4) z)) la else mw E ad sc ar la) := by
  refine Ct.of (lv := [(0, .ref (ad 0)), (1, .int x), (2, .int y), (3, .int z)]) (by decide +kernel) (Nat.le_of_ble_eq_true rfl) rfl ?_
  intro zp ze zs zm za zb zh zc hc
  refine g_aload_n (pc := 0) hc 0 dX12_feed_0 rfl rfl ?_
  refine gf_m0_taped (pc := 1) hc tw_1019 dX12_feed_1 ?_
  refine g_topi (v := nI tL) (hT) ?_
  refine g_bipush (pc := 4) (v := nI 12) hc dX12_feed_4 (by decide) ?_
  refine g_iadd (pc := 6) hc dX12_feed_6 ?_
  refine g_topi (v := nI (tL + 12)) (nI_add tL 12) ?_
  refine g_bipush (pc := 7) (v := nI 60) hc dX12_feed_7 (by decide) ?_
  refine g_icmp_le (pc := 9) hc 15 dX12_feed_9 (by decide) (fun c1 => ?_) (fun c1 => ?_)
  · have hr : tL + 12 ≤ 60 := (nI_le_iff (by omega) (by decide)).mp c1
    refine g_aload_n (pc := 15) hc 0 dX12_feed_15 rfl rfl ?_
    refine g_iload_n (pc := 16) hc 1 dX12_feed_16 rfl rfl ?_
    refine g_callVv (pc := 17) (rest := []) (As := [.int x]) hc (c_X12_four l E ad hA sc ar la (tL := tL) x hT (by omega)) mi_X12_four tw_1308 0 rfl rfl rfl rfl ⟨rfl, rfl, by decide, by decide⟩ (Nat.le_of_ble_eq_true rfl) ⟨Nat.le_refl _, Nat.le_refl _⟩ rfl dX12_feed_17 ?_
    refine g_aload_n (pc := 20) hc 0 dX12_feed_20 rfl rfl ?_
    refine g_iload_n (pc := 21) hc 2 dX12_feed_21 rfl rfl ?_
    refine g_callVv (pc := 22) (rest := []) (As := [.int y]) hc (c_X12_four l E ad hA (va_up sc 7 (nI (tL + 4))) (va_up ar 11 (mta (ar 11) (tL) x)) la (tL := tL + 4) y rfl (by omega)) mi_X12_four tw_1308 0 rfl rfl rfl rfl ⟨rfl, rfl, by decide, by decide⟩ (Nat.le_of_ble_eq_true rfl) ⟨Nat.le_refl _, Nat.le_refl _⟩ rfl dX12_feed_22 ?_
    refine g_eq (ws' := mw E ad (va_up sc 7 (nI (tL + 4 + 4))) (va_up ar 11 (mta (mta (ar 11) (tL) x) (tL + 4) y)) la) (lv' := [(0, .ref (ad 0)), (1, .int x), (2, .int y), (3, .int z)]) (rfl) rfl rfl ?_
    refine g_aload_n (pc := 25) hc 0 dX12_feed_25 rfl rfl ?_
    refine g_iload_n (pc := 26) hc 3 dX12_feed_26 rfl rfl ?_
    refine g_callVv (pc := 27) (rest := []) (As := [.int z]) hc (c_X12_four l E ad hA (va_up sc 7 (nI (tL + 4 + 4))) (va_up ar 11 (mta (mta (ar 11) (tL) x) (tL + 4) y)) la (tL := tL + 4 + 4) z rfl (by omega)) mi_X12_four tw_1308 0 rfl rfl rfl rfl ⟨rfl, rfl, by decide, by decide⟩ (Nat.le_of_ble_eq_true rfl) ⟨Nat.le_refl _, Nat.le_refl _⟩ rfl dX12_feed_27 ?_
    refine g_eq (ws' := mw E ad (va_up sc 7 (nI (tL + 4 + 4 + 4))) (va_up ar 11 (mta (mta (mta (ar 11) (tL) x) (tL + 4) y) (tL + 4 + 4) z)) la) (lv' := [(0, .ref (ad 0)), (1, .int x), (2, .int y), (3, .int z)]) (rfl) rfl rfl ?_
    refine g_aload_n (pc := 30) hc 0 dX12_feed_30 rfl rfl ?_
    refine gf_m0_taped (pc := 31) hc tw_1019 dX12_feed_31 ?_
    refine g_topi (v := nI (tL + 4 + 4 + 4)) rfl ?_
    exact g_iret (pc := 34) hc dX12_feed_34 (by rw [if_pos hr]) (by rw [if_pos hr])
  · have hr : ¬ tL + 12 ≤ 60 := fun z => c1 ((nI_le_iff (by omega) (by decide)).mpr z)
    refine g_ldc (pc := 12) (v := (-1000000003)) hc tw_1176 dX12_feed_12 ?_
    exact g_iret (pc := 14) hc dX12_feed_14 (by rw [if_neg hr]) (by rw [if_neg hr])

theorem dX12_trim_0 : decode cX12_trim 0 = .ok (.iload_n 1, 1) := by decide +kernel
theorem dX12_trim_1 : decode cX12_trim 1 = .ok (.iconst 0, 1) := by decide +kernel
theorem dX12_trim_2 : decode cX12_trim 2 = .ok (.aload_n 0, 1) := by decide +kernel
theorem dX12_trim_3 : decode cX12_trim 3 = .ok (.getfield 204, 3) := by decide +kernel
theorem dX12_trim_6 : decode cX12_trim 6 = .ok (.invokestatic 113, 3) := by decide +kernel
theorem dX12_trim_9 : decode cX12_trim 9 = .ok (.ifCond .ne 6, 3) := by decide +kernel
theorem dX12_trim_12 : decode cX12_trim 12 = .ok (.ldc 120, 2) := by decide +kernel
theorem dX12_trim_14 : decode cX12_trim 14 = .ok (.ireturn, 1) := by decide +kernel
theorem dX12_trim_15 : decode cX12_trim 15 = .ok (.aload_n 0, 1) := by decide +kernel
theorem dX12_trim_16 : decode cX12_trim 16 = .ok (.iload_n 1, 1) := by decide +kernel
theorem dX12_trim_17 : decode cX12_trim 17 = .ok (.putfield 204, 3) := by decide +kernel
theorem dX12_trim_20 : decode cX12_trim 20 = .ok (.iload_n 1, 1) := by decide +kernel
theorem dX12_trim_21 : decode cX12_trim 21 = .ok (.ireturn, 1) := by decide +kernel

set_option maxHeartbeats 4000000 in
set_option maxRecDepth 100000 in
theorem c_X12_trim (l : Launch) (E : Ev) {A : Nat → Prop} (ad : Nat → Nat) (hA : Oka 30 ad A) (sc : Nat → Int32) (ar : Nat → Nat → Int32) (la : Nat → Int64)  (x : Int32)  : Ct l E yX12_trim (.code yX12_trim cX12_trim 2 (some .int)) ({ frames := 1, cells := 0, slots := 0, locals := 22 }) A (mw E ad sc ar la) [.ref (ad 0), .int x] (some (.int (if inr x (nI 0) (sc 7) = true then x else (-1000000001)))) (if inr x (nI 0) (sc 7) = true then mw E ad (va_up sc 7 x) ar la else mw E ad sc ar la) := by
  refine Ct.of (lv := [(0, .ref (ad 0)), (1, .int x)]) (by decide +kernel) (Nat.le_of_ble_eq_true rfl) rfl ?_
  intro zp ze zs zm za zb zh zc hc
  refine g_iload_n (pc := 0) hc 1 dX12_trim_0 rfl rfl ?_
  refine g_iconst (pc := 1) (v := nI 0) hc dX12_trim_1 (by decide) ?_
  refine g_aload_n (pc := 2) hc 0 dX12_trim_2 rfl rfl ?_
  refine gf_m0_taped (pc := 3) hc tw_1019 dX12_trim_3 ?_
  refine g_callSi (pc := 6) (rest := []) (As := [.int x, .int (nI 0), .int (sc 7)]) hc (c_X12_isIn l E ad hA sc ar la x (nI 0) (sc 7)) mi_X12_isIn tw_1136 rfl ⟨rfl, rfl, by decide, by decide⟩ (Nat.le_of_ble_eq_true rfl) ⟨Nat.le_refl _, Nat.le_refl _⟩ rfl dX12_trim_6 ?_
  refine g_if_ne_b (pc := 9) hc 15 dX12_trim_9 (by decide) (fun c1 => ?_) (fun c1 => ?_)
  · refine g_aload_n (pc := 15) hc 0 dX12_trim_15 rfl rfl ?_
    refine g_iload_n (pc := 16) hc 1 dX12_trim_16 rfl rfl ?_
    refine pf_m0_taped (pc := 17) hc hA tw_1019 dX12_trim_17 ?_
    refine g_iload_n (pc := 20) hc 1 dX12_trim_20 rfl rfl ?_
    exact g_iret (pc := 21) hc dX12_trim_21 (by (repeat (first | rw [if_pos c1] | rw [if_neg c1] | rw [if_neg (ne_true_of_eq_false c1)]))) (by (repeat (first | rw [if_pos c1] | rw [if_neg c1] | rw [if_neg (ne_true_of_eq_false c1)])))
  · refine g_ldc (pc := 12) (v := (-1000000001)) hc tw_1139 dX12_trim_12 ?_
    exact g_iret (pc := 14) hc dX12_trim_14 (by (repeat (first | rw [if_pos c1] | rw [if_neg c1] | rw [if_neg (ne_true_of_eq_false c1)]))) (by (repeat (first | rw [if_pos c1] | rw [if_neg c1] | rw [if_neg (ne_true_of_eq_false c1)])))
