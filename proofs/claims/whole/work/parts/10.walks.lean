theorem dX8_isSort_0 : decode cX8_isSort 0 = .ok (.iload_n 0, 1) := by decide +kernel
theorem dX8_isSort_1 : decode cX8_isSort 1 = .ok (.iconst 0, 1) := by decide +kernel
theorem dX8_isSort_2 : decode cX8_isSort 2 = .ok (.iconst 3, 1) := by decide +kernel
theorem dX8_isSort_3 : decode cX8_isSort 3 = .ok (.invokestatic 13, 3) := by decide +kernel
theorem dX8_isSort_6 : decode cX8_isSort 6 = .ok (.ireturn, 1) := by decide +kernel

set_option maxHeartbeats 4000000 in
set_option maxRecDepth 100000 in
theorem c_X8_isSort (l : Launch) (E : Ev) {A : Nat → Prop} (ad : Nat → Nat) (hA : Oka 39 ad A) (sc : Nat → Int32) (ar : Nat → Nat → Int32) (bl : Int64) (x : Int32) : Ct l E yX8_isSort (.code yX8_isSort cX8_isSort 1 (some .boolean)) ({ frames := 1, cells := 0, slots := 0, locals := 22 }) A (cw E ad sc ar bl) [.int x] (some (.int (bI (inr x (nI 0) (nI 3))))) (cw E ad sc ar bl) := by
  refine Ct.of (lv := [(0, .int x)]) (by decide +kernel) (Nat.le_of_ble_eq_true rfl) rfl ?_
  intro zp ze zs zm za zb zh zc hc
  refine g_iload_n (pc := 0) hc 0 dX8_isSort_0 rfl rfl ?_
  refine g_iconst (pc := 1) (v := nI 0) hc dX8_isSort_1 (by decide) ?_
  refine g_iconst (pc := 2) (v := nI 3) hc dX8_isSort_2 (by decide) ?_
  refine g_callSNi (pc := 3) (rest := []) (As := [.int x, .int (nI 0), .int (nI 3)]) hc (c_X11_within l E ad hA sc ar bl x (nI 0) (nI 3)) mi_X11_within tn_338 rfl ⟨rfl, rfl, by decide, by decide⟩ (Nat.le_of_ble_eq_true rfl) ⟨Nat.le_refl _, Nat.le_refl _⟩ rfl dX8_isSort_3 ?_
  exact g_zret (pc := 6) hc dX8_isSort_6 (bI_nar _) (rfl) (rfl)

theorem dX8_become_0 : decode cX8_become 0 = .ok (.aload_n 0, 1) := by decide +kernel
theorem dX8_become_1 : decode cX8_become 1 = .ok (.getfield 9, 3) := by decide +kernel
theorem dX8_become_4 : decode cX8_become 4 = .ok (.iload_n 1, 1) := by decide +kernel
theorem dX8_become_5 : decode cX8_become 5 = .ok (.iaload, 1) := by decide +kernel
theorem dX8_become_6 : decode cX8_become 6 = .ok (.istore_n 3, 1) := by decide +kernel
theorem dX8_become_7 : decode cX8_become 7 = .ok (.aload_n 0, 1) := by decide +kernel
theorem dX8_become_8 : decode cX8_become 8 = .ok (.getfield 9, 3) := by decide +kernel
theorem dX8_become_11 : decode cX8_become 11 = .ok (.iload_n 1, 1) := by decide +kernel
theorem dX8_become_12 : decode cX8_become 12 = .ok (.iload_n 2, 1) := by decide +kernel
theorem dX8_become_13 : decode cX8_become 13 = .ok (.iastore, 1) := by decide +kernel
theorem dX8_become_14 : decode cX8_become 14 = .ok (.iload_n 3, 1) := by decide +kernel
theorem dX8_become_15 : decode cX8_become 15 = .ok (.ireturn, 1) := by decide +kernel

set_option maxHeartbeats 4000000 in
set_option maxRecDepth 100000 in
theorem c_X8_become (l : Launch) (E : Ev) {A : Nat → Prop} (ad : Nat → Nat) (hA : Oka 39 ad A) (sc : Nat → Int32) (ar : Nat → Nat → Int32) (bl : Int64) (j : Nat) (v : Int32) (hj : j < 4) : Ct l E yX8_become (.code yX8_become cX8_become 4 (some .int)) ({ frames := 0, cells := 0, slots := 0, locals := 0 }) A (cw E ad sc ar bl) [.ref (ad 2), .int (nI j), .int v] (some (.int ((ar 15) j))) (cw E ad sc (va_up ar 15 (upd (ar 15) j v)) bl) := by
  refine Ct.of (lv := [(0, .ref (ad 2)), (1, .int (nI j)), (2, .int v)]) (by decide +kernel) (Nat.le_of_ble_eq_true rfl) rfl ?_
  intro zp ze zs zm za zb zh zc hc
  refine g_aload_n (pc := 0) hc 0 dX8_become_0 rfl rfl ?_
  refine gf_c2_sortOf (pc := 1) hc tw_59 dX8_become_1 ?_
  refine g_iload_n (pc := 4) hc 1 dX8_become_4 rfl rfl ?_
  refine la_c15 (pc := 5) hc (j) (rfl) (by omega) dX8_become_5 ?_
  refine g_istore_n (pc := 6) (lv' := [(0, .ref (ad 2)), (1, .int (nI j)), (2, .int v), (3, .int ((ar 15) j))]) hc dX8_become_6 rfl (by decide) rfl ?_
  refine g_aload_n (pc := 7) hc 0 dX8_become_7 rfl rfl ?_
  refine gf_c2_sortOf (pc := 8) hc tw_59 dX8_become_8 ?_
  refine g_iload_n (pc := 11) hc 1 dX8_become_11 rfl rfl ?_
  refine g_iload_n (pc := 12) hc 2 dX8_become_12 rfl rfl ?_
  refine sa_c15 (pc := 13) hc hA (j) (rfl) (by omega) dX8_become_13 ?_
  refine g_iload_n (pc := 14) hc 3 dX8_become_14 rfl rfl ?_
  exact g_iret (pc := 15) hc dX8_become_15 (rfl) (rfl)

theorem dX8_counts_0 : decode cX8_counts 0 = .ok (.aload_n 0, 1) := by decide +kernel
theorem dX8_counts_1 : decode cX8_counts 1 = .ok (.getfield 9, 3) := by decide +kernel
theorem dX8_counts_4 : decode cX8_counts 4 = .ok (.iload_n 1, 1) := by decide +kernel
theorem dX8_counts_5 : decode cX8_counts 5 = .ok (.iaload, 1) := by decide +kernel
theorem dX8_counts_6 : decode cX8_counts 6 = .ok (.istore_n 3, 1) := by decide +kernel
theorem dX8_counts_7 : decode cX8_counts 7 = .ok (.iload_n 2, 1) := by decide +kernel
theorem dX8_counts_8 : decode cX8_counts 8 = .ok (.ifCond .eq 18, 3) := by decide +kernel
theorem dX8_counts_11 : decode cX8_counts 11 = .ok (.iload_n 3, 1) := by decide +kernel
theorem dX8_counts_12 : decode cX8_counts 12 = .ok (.iload_n 2, 1) := by decide +kernel
theorem dX8_counts_13 : decode cX8_counts 13 = .ok (.if_icmp .eq 13, 3) := by decide +kernel
theorem dX8_counts_16 : decode cX8_counts 16 = .ok (.iload_n 2, 1) := by decide +kernel
theorem dX8_counts_17 : decode cX8_counts 17 = .ok (.iconst 2, 1) := by decide +kernel
theorem dX8_counts_18 : decode cX8_counts 18 = .ok (.if_icmp .ne 12, 3) := by decide +kernel
theorem dX8_counts_21 : decode cX8_counts 21 = .ok (.iload_n 3, 1) := by decide +kernel
theorem dX8_counts_22 : decode cX8_counts 22 = .ok (.iconst 3, 1) := by decide +kernel
theorem dX8_counts_23 : decode cX8_counts 23 = .ok (.if_icmp .ne 7, 3) := by decide +kernel
theorem dX8_counts_26 : decode cX8_counts 26 = .ok (.iconst 1, 1) := by decide +kernel
theorem dX8_counts_27 : decode cX8_counts 27 = .ok (.goto 4, 3) := by decide +kernel
theorem dX8_counts_30 : decode cX8_counts 30 = .ok (.iconst 0, 1) := by decide +kernel
theorem dX8_counts_31 : decode cX8_counts 31 = .ok (.ireturn, 1) := by decide +kernel

set_option maxHeartbeats 4000000 in
set_option maxRecDepth 100000 in
theorem c_X8_counts (l : Launch) (E : Ev) {A : Nat → Prop} (ad : Nat → Nat) (hA : Oka 39 ad A) (sc : Nat → Int32) (ar : Nat → Nat → Int32) (bl : Int64) (j : Nat) (v : Int32) (hj : j < 4) : Ct l E yX8_counts (.code yX8_counts cX8_counts 4 (some .boolean)) ({ frames := 0, cells := 0, slots := 0, locals := 0 }) A (cw E ad sc ar bl) [.ref (ad 2), .int (nI j), .int v] (some (.int (bI (cts (ar 15) j v)))) (cw E ad sc ar bl) := by
  refine Ct.of (lv := [(0, .ref (ad 2)), (1, .int (nI j)), (2, .int v)]) (by decide +kernel) (Nat.le_of_ble_eq_true rfl) rfl ?_
  intro zp ze zs zm za zb zh zc hc
  refine g_aload_n (pc := 0) hc 0 dX8_counts_0 rfl rfl ?_
  refine gf_c2_sortOf (pc := 1) hc tw_59 dX8_counts_1 ?_
  refine g_iload_n (pc := 4) hc 1 dX8_counts_4 rfl rfl ?_
  refine la_c15 (pc := 5) hc (j) (rfl) (by omega) dX8_counts_5 ?_
  refine g_istore_n (pc := 6) (lv' := [(0, .ref (ad 2)), (1, .int (nI j)), (2, .int v), (3, .int ((ar 15) j))]) hc dX8_counts_6 rfl (by decide) rfl ?_
  refine g_iload_n (pc := 7) hc 2 dX8_counts_7 rfl rfl ?_
  refine g_if_eq (pc := 8) hc 26 dX8_counts_8 (by decide) (fun c1 => ?_) (fun c1 => ?_)
  · refine g_iconst (pc := 26) (v := nI 1) hc dX8_counts_26 (by decide) ?_
    refine g_goto (pc := 27) hc 31 dX8_counts_27 (by decide) ?_
    exact g_zret (pc := 31) hc dX8_counts_31 (by decide) (by unfold cts; repeat (first | rw [if_pos c1] | rw [if_neg c1] | rw [if_neg (ne_true_of_eq_false c1)]); try rfl) (rfl)
  · refine g_iload_n (pc := 11) hc 3 dX8_counts_11 rfl rfl ?_
    refine g_iload_n (pc := 12) hc 2 dX8_counts_12 rfl rfl ?_
    refine g_icmp_eq (pc := 13) hc 26 dX8_counts_13 (by decide) (fun c2 => ?_) (fun c2 => ?_)
    · refine g_iconst (pc := 26) (v := nI 1) hc dX8_counts_26 (by decide) ?_
      refine g_goto (pc := 27) hc 31 dX8_counts_27 (by decide) ?_
      exact g_zret (pc := 31) hc dX8_counts_31 (by decide) (by unfold cts; repeat (first | rw [if_pos c1] | rw [if_neg c1] | rw [if_neg (ne_true_of_eq_false c1)] | rw [if_pos c2] | rw [if_neg c2] | rw [if_neg (ne_true_of_eq_false c2)]); try rfl) (rfl)
    · refine g_iload_n (pc := 16) hc 2 dX8_counts_16 rfl rfl ?_
      refine g_iconst (pc := 17) (v := nI 2) hc dX8_counts_17 (by decide) ?_
      refine g_icmp_ne (pc := 18) hc 30 dX8_counts_18 (by decide) (fun c3 => ?_) (fun c3 => ?_)
      · refine g_iconst (pc := 30) (v := nI 0) hc dX8_counts_30 (by decide) ?_
        exact g_zret (pc := 31) hc dX8_counts_31 (by decide) (by unfold cts; repeat (first | rw [if_pos c1] | rw [if_neg c1] | rw [if_neg (ne_true_of_eq_false c1)] | rw [if_pos c2] | rw [if_neg c2] | rw [if_neg (ne_true_of_eq_false c2)] | rw [if_pos c3] | rw [if_neg c3] | rw [if_neg (ne_true_of_eq_false c3)]); try rfl) (rfl)
      · refine g_iload_n (pc := 21) hc 3 dX8_counts_21 rfl rfl ?_
        refine g_iconst (pc := 22) (v := nI 3) hc dX8_counts_22 (by decide) ?_
        refine g_icmp_ne (pc := 23) hc 30 dX8_counts_23 (by decide) (fun c4 => ?_) (fun c4 => ?_)
        · refine g_iconst (pc := 30) (v := nI 0) hc dX8_counts_30 (by decide) ?_
          exact g_zret (pc := 31) hc dX8_counts_31 (by decide) (by unfold cts; repeat (first | rw [if_pos c1] | rw [if_neg c1] | rw [if_neg (ne_true_of_eq_false c1)] | rw [if_pos c2] | rw [if_neg c2] | rw [if_neg (ne_true_of_eq_false c2)] | rw [if_pos c3] | rw [if_neg c3] | rw [if_neg (ne_true_of_eq_false c3)] | rw [if_pos c4] | rw [if_neg c4] | rw [if_neg (ne_true_of_eq_false c4)]); try rfl) (rfl)
        · refine g_iconst (pc := 26) (v := nI 1) hc dX8_counts_26 (by decide) ?_
          refine g_goto (pc := 27) hc 31 dX8_counts_27 (by decide) ?_
          exact g_zret (pc := 31) hc dX8_counts_31 (by decide) (by unfold cts; repeat (first | rw [if_pos c1] | rw [if_neg c1] | rw [if_neg (ne_true_of_eq_false c1)] | rw [if_pos c2] | rw [if_neg c2] | rw [if_neg (ne_true_of_eq_false c2)] | rw [if_pos c3] | rw [if_neg c3] | rw [if_neg (ne_true_of_eq_false c3)] | rw [if_pos c4] | rw [if_neg c4] | rw [if_neg (ne_true_of_eq_false c4)]); try rfl) (rfl)

theorem dX8_isCoarse_0 : decode cX8_isCoarse 0 = .ok (.aload_n 0, 1) := by decide +kernel
theorem dX8_isCoarse_1 : decode cX8_isCoarse 1 = .ok (.getfield 9, 3) := by decide +kernel
theorem dX8_isCoarse_4 : decode cX8_isCoarse 4 = .ok (.iload_n 1, 1) := by decide +kernel
theorem dX8_isCoarse_5 : decode cX8_isCoarse 5 = .ok (.iaload, 1) := by decide +kernel
theorem dX8_isCoarse_6 : decode cX8_isCoarse 6 = .ok (.iconst 1, 1) := by decide +kernel
theorem dX8_isCoarse_7 : decode cX8_isCoarse 7 = .ok (.if_icmp .ne 7, 3) := by decide +kernel
theorem dX8_isCoarse_10 : decode cX8_isCoarse 10 = .ok (.iconst 1, 1) := by decide +kernel
theorem dX8_isCoarse_11 : decode cX8_isCoarse 11 = .ok (.goto 4, 3) := by decide +kernel
theorem dX8_isCoarse_14 : decode cX8_isCoarse 14 = .ok (.iconst 0, 1) := by decide +kernel
theorem dX8_isCoarse_15 : decode cX8_isCoarse 15 = .ok (.ireturn, 1) := by decide +kernel

set_option maxHeartbeats 4000000 in
set_option maxRecDepth 100000 in
theorem c_X8_isCoarse (l : Launch) (E : Ev) {A : Nat → Prop} (ad : Nat → Nat) (hA : Oka 39 ad A) (sc : Nat → Int32) (ar : Nat → Nat → Int32) (bl : Int64) (j : Nat) (hj : j < 4) : Ct l E yX8_isCoarse (.code yX8_isCoarse cX8_isCoarse 2 (some .boolean)) ({ frames := 0, cells := 0, slots := 0, locals := 0 }) A (cw E ad sc ar bl) [.ref (ad 2), .int (nI j)] (some (.int (bI (decide ((ar 15) j = nI 1))))) (cw E ad sc ar bl) := by
  refine Ct.of (lv := [(0, .ref (ad 2)), (1, .int (nI j))]) (by decide +kernel) (Nat.le_of_ble_eq_true rfl) rfl ?_
  intro zp ze zs zm za zb zh zc hc
  refine g_aload_n (pc := 0) hc 0 dX8_isCoarse_0 rfl rfl ?_
  refine gf_c2_sortOf (pc := 1) hc tw_59 dX8_isCoarse_1 ?_
  refine g_iload_n (pc := 4) hc 1 dX8_isCoarse_4 rfl rfl ?_
  refine la_c15 (pc := 5) hc (j) (rfl) (by omega) dX8_isCoarse_5 ?_
  refine g_iconst (pc := 6) (v := nI 1) hc dX8_isCoarse_6 (by decide) ?_
  refine g_icmp_ne (pc := 7) hc 14 dX8_isCoarse_7 (by decide) (fun c1 => ?_) (fun c1 => ?_)
  · refine g_iconst (pc := 14) (v := nI 0) hc dX8_isCoarse_14 (by decide) ?_
    exact g_zret (pc := 15) hc dX8_isCoarse_15 (by decide) (by simp [bI, c1] <;> rfl) (rfl)
  · refine g_iconst (pc := 10) (v := nI 1) hc dX8_isCoarse_10 (by decide) ?_
    refine g_goto (pc := 11) hc 15 dX8_isCoarse_11 (by decide) ?_
    exact g_zret (pc := 15) hc dX8_isCoarse_15 (by decide) (by simp [bI, c1] <;> rfl) (rfl)

theorem dX8_weight_0 : decode cX8_weight 0 = .ok (.aload_n 0, 1) := by decide +kernel
theorem dX8_weight_1 : decode cX8_weight 1 = .ok (.getfield 9, 3) := by decide +kernel
theorem dX8_weight_4 : decode cX8_weight 4 = .ok (.iload_n 1, 1) := by decide +kernel
theorem dX8_weight_5 : decode cX8_weight 5 = .ok (.iaload, 1) := by decide +kernel
theorem dX8_weight_6 : decode cX8_weight 6 = .ok (.iconst 3, 1) := by decide +kernel
theorem dX8_weight_7 : decode cX8_weight 7 = .ok (.if_icmp .ne 5, 3) := by decide +kernel
theorem dX8_weight_10 : decode cX8_weight 10 = .ok (.iconst 3, 1) := by decide +kernel
theorem dX8_weight_11 : decode cX8_weight 11 = .ok (.ireturn, 1) := by decide +kernel
theorem dX8_weight_12 : decode cX8_weight 12 = .ok (.aload_n 0, 1) := by decide +kernel
theorem dX8_weight_13 : decode cX8_weight 13 = .ok (.getfield 9, 3) := by decide +kernel
theorem dX8_weight_16 : decode cX8_weight 16 = .ok (.iload_n 1, 1) := by decide +kernel
theorem dX8_weight_17 : decode cX8_weight 17 = .ok (.iaload, 1) := by decide +kernel
theorem dX8_weight_18 : decode cX8_weight 18 = .ok (.iconst 2, 1) := by decide +kernel
theorem dX8_weight_19 : decode cX8_weight 19 = .ok (.if_icmp .ne 7, 3) := by decide +kernel
theorem dX8_weight_22 : decode cX8_weight 22 = .ok (.iconst 2, 1) := by decide +kernel
theorem dX8_weight_23 : decode cX8_weight 23 = .ok (.goto 4, 3) := by decide +kernel
theorem dX8_weight_26 : decode cX8_weight 26 = .ok (.iconst 1, 1) := by decide +kernel
theorem dX8_weight_27 : decode cX8_weight 27 = .ok (.ireturn, 1) := by decide +kernel

set_option maxHeartbeats 4000000 in
set_option maxRecDepth 100000 in
theorem c_X8_weight (l : Launch) (E : Ev) {A : Nat → Prop} (ad : Nat → Nat) (hA : Oka 39 ad A) (sc : Nat → Int32) (ar : Nat → Nat → Int32) (bl : Int64) (j : Nat) (hj : j < 4) : Ct l E yX8_weight (.code yX8_weight cX8_weight 2 (some .int)) ({ frames := 0, cells := 0, slots := 0, locals := 0 }) A (cw E ad sc ar bl) [.ref (ad 2), .int (nI j)] (some (.int (wgt (ar 15) j))) (cw E ad sc ar bl) := by
  refine Ct.of (lv := [(0, .ref (ad 2)), (1, .int (nI j))]) (by decide +kernel) (Nat.le_of_ble_eq_true rfl) rfl ?_
  intro zp ze zs zm za zb zh zc hc
  refine g_aload_n (pc := 0) hc 0 dX8_weight_0 rfl rfl ?_
  refine gf_c2_sortOf (pc := 1) hc tw_59 dX8_weight_1 ?_
  refine g_iload_n (pc := 4) hc 1 dX8_weight_4 rfl rfl ?_
  refine la_c15 (pc := 5) hc (j) (rfl) (by omega) dX8_weight_5 ?_
  refine g_iconst (pc := 6) (v := nI 3) hc dX8_weight_6 (by decide) ?_
  refine g_icmp_ne (pc := 7) hc 12 dX8_weight_7 (by decide) (fun c1 => ?_) (fun c1 => ?_)
  · refine g_aload_n (pc := 12) hc 0 dX8_weight_12 rfl rfl ?_
    refine gf_c2_sortOf (pc := 13) hc tw_59 dX8_weight_13 ?_
    refine g_iload_n (pc := 16) hc 1 dX8_weight_16 rfl rfl ?_
    refine la_c15 (pc := 17) hc (j) (rfl) (by omega) dX8_weight_17 ?_
    refine g_iconst (pc := 18) (v := nI 2) hc dX8_weight_18 (by decide) ?_
    refine g_icmp_ne (pc := 19) hc 26 dX8_weight_19 (by decide) (fun c2 => ?_) (fun c2 => ?_)
    · refine g_iconst (pc := 26) (v := nI 1) hc dX8_weight_26 (by decide) ?_
      exact g_iret (pc := 27) hc dX8_weight_27 (by unfold wgt; repeat (first | rw [if_pos c1] | rw [if_neg c1] | rw [if_neg (ne_true_of_eq_false c1)] | rw [if_pos c2] | rw [if_neg c2] | rw [if_neg (ne_true_of_eq_false c2)]); try rfl) (rfl)
    · refine g_iconst (pc := 22) (v := nI 2) hc dX8_weight_22 (by decide) ?_
      refine g_goto (pc := 23) hc 27 dX8_weight_23 (by decide) ?_
      exact g_iret (pc := 27) hc dX8_weight_27 (by unfold wgt; repeat (first | rw [if_pos c1] | rw [if_neg c1] | rw [if_neg (ne_true_of_eq_false c1)] | rw [if_pos c2] | rw [if_neg c2] | rw [if_neg (ne_true_of_eq_false c2)]); try rfl) (rfl)
  · refine g_iconst (pc := 10) (v := nI 3) hc dX8_weight_10 (by decide) ?_
    exact g_iret (pc := 11) hc dX8_weight_11 (by unfold wgt; repeat (first | rw [if_pos c1] | rw [if_neg c1] | rw [if_neg (ne_true_of_eq_false c1)]); try rfl) (rfl)

theorem dX10_number_0 : decode cX10_number 0 = .ok (.aload_n 0, 1) := by decide +kernel
theorem dX10_number_1 : decode cX10_number 1 = .ok (.getfield 27, 3) := by decide +kernel
theorem dX10_number_4 : decode cX10_number 4 = .ok (.ireturn, 1) := by decide +kernel

set_option maxHeartbeats 4000000 in
set_option maxRecDepth 100000 in
theorem c_X10_number (l : Launch) (E : Ev) {A : Nat → Prop} (ad : Nat → Nat) (hA : Oka 39 ad A) (sc : Nat → Int32) (ar : Nat → Nat → Int32) (bl : Int64)  : Ct l E yX10_number (.code yX10_number cX10_number 1 (some .int)) ({ frames := 0, cells := 0, slots := 0, locals := 0 }) A (cw E ad sc ar bl) [.ref (ad 3)] (some (.int (sc 5))) (cw E ad sc ar bl) := by
  refine Ct.of (lv := [(0, .ref (ad 3))]) (by decide +kernel) (Nat.le_of_ble_eq_true rfl) rfl ?_
  intro zp ze zs zm za zb zh zc hc
  refine g_aload_n (pc := 0) hc 0 dX10_number_0 rfl rfl ?_
  refine gf_c3_number (pc := 1) hc tw_74 dX10_number_1 ?_
  exact g_iret (pc := 4) hc dX10_number_4 (rfl) (rfl)

theorem dX10_isFull_0 : decode cX10_isFull 0 = .ok (.aload_n 0, 1) := by decide +kernel
theorem dX10_isFull_1 : decode cX10_isFull 1 = .ok (.getfield 27, 3) := by decide +kernel
theorem dX10_isFull_4 : decode cX10_isFull 4 = .ok (.bipush 60, 2) := by decide +kernel
theorem dX10_isFull_6 : decode cX10_isFull 6 = .ok (.if_icmp .lt 7, 3) := by decide +kernel
theorem dX10_isFull_9 : decode cX10_isFull 9 = .ok (.iconst 1, 1) := by decide +kernel
theorem dX10_isFull_10 : decode cX10_isFull 10 = .ok (.goto 4, 3) := by decide +kernel
theorem dX10_isFull_13 : decode cX10_isFull 13 = .ok (.iconst 0, 1) := by decide +kernel
theorem dX10_isFull_14 : decode cX10_isFull 14 = .ok (.ireturn, 1) := by decide +kernel

set_option maxHeartbeats 4000000 in
set_option maxRecDepth 100000 in
theorem c_X10_isFull (l : Launch) (E : Ev) {A : Nat → Prop} (ad : Nat → Nat) (hA : Oka 39 ad A) (sc : Nat → Int32) (ar : Nat → Nat → Int32) (bl : Int64)  : Ct l E yX10_isFull (.code yX10_isFull cX10_isFull 1 (some .boolean)) ({ frames := 0, cells := 0, slots := 0, locals := 0 }) A (cw E ad sc ar bl) [.ref (ad 3)] (some (.int (bI (!decide (sc 5 < nI 60))))) (cw E ad sc ar bl) := by
  refine Ct.of (lv := [(0, .ref (ad 3))]) (by decide +kernel) (Nat.le_of_ble_eq_true rfl) rfl ?_
  intro zp ze zs zm za zb zh zc hc
  refine g_aload_n (pc := 0) hc 0 dX10_isFull_0 rfl rfl ?_
  refine gf_c3_number (pc := 1) hc tw_74 dX10_isFull_1 ?_
  refine g_bipush (pc := 4) (v := nI 60) hc dX10_isFull_4 (by decide) ?_
  refine g_icmp_lt (pc := 6) hc 13 dX10_isFull_6 (by decide) (fun c1 => ?_) (fun c1 => ?_)
  · refine g_iconst (pc := 13) (v := nI 0) hc dX10_isFull_13 (by decide) ?_
    exact g_zret (pc := 14) hc dX10_isFull_14 (by decide) (by simp [bI, c1] <;> rfl) (rfl)
  · refine g_iconst (pc := 9) (v := nI 1) hc dX10_isFull_9 (by decide) ?_
    refine g_goto (pc := 10) hc 14 dX10_isFull_10 (by decide) ?_
    exact g_zret (pc := 14) hc dX10_isFull_14 (by decide) (by simp [bI, c1] <;> rfl) (rfl)

theorem dX10_has_0 : decode cX10_has 0 = .ok (.iload_n 1, 1) := by decide +kernel
theorem dX10_has_1 : decode cX10_has 1 = .ok (.ifCond .lt 15, 3) := by decide +kernel
theorem dX10_has_4 : decode cX10_has 4 = .ok (.iload_n 1, 1) := by decide +kernel
theorem dX10_has_5 : decode cX10_has 5 = .ok (.aload_n 0, 1) := by decide +kernel
theorem dX10_has_6 : decode cX10_has 6 = .ok (.getfield 27, 3) := by decide +kernel
theorem dX10_has_9 : decode cX10_has 9 = .ok (.if_icmp .ge 7, 3) := by decide +kernel
theorem dX10_has_12 : decode cX10_has 12 = .ok (.iconst 1, 1) := by decide +kernel
theorem dX10_has_13 : decode cX10_has 13 = .ok (.goto 4, 3) := by decide +kernel
theorem dX10_has_16 : decode cX10_has 16 = .ok (.iconst 0, 1) := by decide +kernel
theorem dX10_has_17 : decode cX10_has 17 = .ok (.ireturn, 1) := by decide +kernel

set_option maxHeartbeats 4000000 in
set_option maxRecDepth 100000 in
theorem c_X10_has (l : Launch) (E : Ev) {A : Nat → Prop} (ad : Nat → Nat) (hA : Oka 39 ad A) (sc : Nat → Int32) (ar : Nat → Nat → Int32) (bl : Int64) (x : Int32) : Ct l E yX10_has (.code yX10_has cX10_has 2 (some .boolean)) ({ frames := 0, cells := 0, slots := 0, locals := 0 }) A (cw E ad sc ar bl) [.ref (ad 3), .int x] (some (.int (bI (inx x (sc 5))))) (cw E ad sc ar bl) := by
  refine Ct.of (lv := [(0, .ref (ad 3)), (1, .int x)]) (by decide +kernel) (Nat.le_of_ble_eq_true rfl) rfl ?_
  intro zp ze zs zm za zb zh zc hc
  refine g_iload_n (pc := 0) hc 1 dX10_has_0 rfl rfl ?_
  refine g_if_lt (pc := 1) hc 16 dX10_has_1 (by decide) (fun c1 => ?_) (fun c1 => ?_)
  · refine g_iconst (pc := 16) (v := nI 0) hc dX10_has_16 (by decide) ?_
    exact g_zret (pc := 17) hc dX10_has_17 (by decide) (by simp [bI, inx, c1] <;> rfl) (rfl)
  · refine g_iload_n (pc := 4) hc 1 dX10_has_4 rfl rfl ?_
    refine g_aload_n (pc := 5) hc 0 dX10_has_5 rfl rfl ?_
    refine gf_c3_number (pc := 6) hc tw_74 dX10_has_6 ?_
    refine g_icmp_ge (pc := 9) hc 16 dX10_has_9 (by decide) (fun c2 => ?_) (fun c2 => ?_)
    · refine g_iconst (pc := 16) (v := nI 0) hc dX10_has_16 (by decide) ?_
      exact g_zret (pc := 17) hc dX10_has_17 (by decide) (by simp [bI, inx, c1, c2] <;> rfl) (rfl)
    · refine g_iconst (pc := 12) (v := nI 1) hc dX10_has_12 (by decide) ?_
      refine g_goto (pc := 13) hc 17 dX10_has_13 (by decide) ?_
      exact g_zret (pc := 17) hc dX10_has_17 (by decide) (by simp [bI, inx, c1, c2] <;> rfl) (rfl)

theorem dX10_add_0 : decode cX10_add 0 = .ok (.aload_n 0, 1) := by decide +kernel
theorem dX10_add_1 : decode cX10_add 1 = .ok (.getfield 11, 3) := by decide +kernel
theorem dX10_add_4 : decode cX10_add 4 = .ok (.aload_n 0, 1) := by decide +kernel
theorem dX10_add_5 : decode cX10_add 5 = .ok (.getfield 27, 3) := by decide +kernel
theorem dX10_add_8 : decode cX10_add 8 = .ok (.iload_n 1, 1) := by decide +kernel
theorem dX10_add_9 : decode cX10_add 9 = .ok (.iastore, 1) := by decide +kernel
theorem dX10_add_10 : decode cX10_add 10 = .ok (.aload_n 0, 1) := by decide +kernel
theorem dX10_add_11 : decode cX10_add 11 = .ok (.getfield 15, 3) := by decide +kernel
theorem dX10_add_14 : decode cX10_add 14 = .ok (.aload_n 0, 1) := by decide +kernel
theorem dX10_add_15 : decode cX10_add 15 = .ok (.getfield 27, 3) := by decide +kernel
theorem dX10_add_18 : decode cX10_add 18 = .ok (.iload_n 2, 1) := by decide +kernel
theorem dX10_add_19 : decode cX10_add 19 = .ok (.iastore, 1) := by decide +kernel
theorem dX10_add_20 : decode cX10_add 20 = .ok (.aload_n 0, 1) := by decide +kernel
theorem dX10_add_21 : decode cX10_add 21 = .ok (.getfield 18, 3) := by decide +kernel
theorem dX10_add_24 : decode cX10_add 24 = .ok (.aload_n 0, 1) := by decide +kernel
theorem dX10_add_25 : decode cX10_add 25 = .ok (.getfield 27, 3) := by decide +kernel
theorem dX10_add_28 : decode cX10_add 28 = .ok (.iload_n 3, 1) := by decide +kernel
theorem dX10_add_29 : decode cX10_add 29 = .ok (.iastore, 1) := by decide +kernel
theorem dX10_add_30 : decode cX10_add 30 = .ok (.aload_n 0, 1) := by decide +kernel
theorem dX10_add_31 : decode cX10_add 31 = .ok (.dup, 1) := by decide +kernel
theorem dX10_add_32 : decode cX10_add 32 = .ok (.getfield 27, 3) := by decide +kernel
theorem dX10_add_35 : decode cX10_add 35 = .ok (.iconst 1, 1) := by decide +kernel
theorem dX10_add_36 : decode cX10_add 36 = .ok (.iadd, 1) := by decide +kernel
theorem dX10_add_37 : decode cX10_add 37 = .ok (.putfield 27, 3) := by decide +kernel
theorem dX10_add_40 : decode cX10_add 40 = .ok (.aload_n 0, 1) := by decide +kernel
theorem dX10_add_41 : decode cX10_add 41 = .ok (.getfield 27, 3) := by decide +kernel
theorem dX10_add_44 : decode cX10_add 44 = .ok (.iconst 1, 1) := by decide +kernel
theorem dX10_add_45 : decode cX10_add 45 = .ok (.isub, 1) := by decide +kernel
theorem dX10_add_46 : decode cX10_add 46 = .ok (.ireturn, 1) := by decide +kernel

set_option maxHeartbeats 4000000 in
set_option maxRecDepth 100000 in
theorem c_X10_add (l : Launch) (E : Ev) {A : Nat → Prop} (ad : Nat → Nat) (hA : Oka 39 ad A) (sc : Nat → Int32) (ar : Nat → Nat → Int32) (bl : Int64) {nW : Nat} (x : Int32) (y : Int32) (z : Int32) (hW : sc 5 = nI nW) (hW1 : nW < 60) : Ct l E yX10_add (.code yX10_add cX10_add 4 (some .int)) ({ frames := 0, cells := 0, slots := 0, locals := 0 }) A (cw E ad sc ar bl) [.ref (ad 3), .int x, .int y, .int z] (some (.int (nI nW))) (cw E ad (va_up sc 5 (nI (nW + 1))) (va_up (va_up (va_up ar 16 (upd (ar 16) nW x)) 17 (upd (ar 17) nW y)) 18 (upd (ar 18) nW z)) bl) := by
  refine Ct.of (lv := [(0, .ref (ad 3)), (1, .int x), (2, .int y), (3, .int z)]) (by decide +kernel) (Nat.le_of_ble_eq_true rfl) rfl ?_
  intro zp ze zs zm za zb zh zc hc
  refine g_aload_n (pc := 0) hc 0 dX10_add_0 rfl rfl ?_
  refine gf_c3_walkers (pc := 1) hc tw_69 dX10_add_1 ?_
  refine g_aload_n (pc := 4) hc 0 dX10_add_4 rfl rfl ?_
  refine gf_c3_number (pc := 5) hc tw_74 dX10_add_5 ?_
  refine g_topi (v := nI nW) (hW) ?_
  refine g_iload_n (pc := 8) hc 1 dX10_add_8 rfl rfl ?_
  refine sa_c16 (pc := 9) hc hA (nW) (rfl) (by omega) dX10_add_9 ?_
  refine g_aload_n (pc := 10) hc 0 dX10_add_10 rfl rfl ?_
  refine gf_c3_rows (pc := 11) hc tw_70 dX10_add_11 ?_
  refine g_aload_n (pc := 14) hc 0 dX10_add_14 rfl rfl ?_
  refine gf_c3_number (pc := 15) hc tw_74 dX10_add_15 ?_
  refine g_topi (v := nI nW) (hW) ?_
  refine g_iload_n (pc := 18) hc 2 dX10_add_18 rfl rfl ?_
  refine sa_c17 (pc := 19) hc hA (nW) (rfl) (by omega) dX10_add_19 ?_
  refine g_eq (ws' := cw E ad sc (va_up (va_up ar 16 (upd (ar 16) nW x)) 17 (upd (ar 17) nW y)) bl) (lv' := [(0, .ref (ad 3)), (1, .int x), (2, .int y), (3, .int z)]) rfl rfl rfl ?_
  refine g_aload_n (pc := 20) hc 0 dX10_add_20 rfl rfl ?_
  refine gf_c3_days (pc := 21) hc tw_71 dX10_add_21 ?_
  refine g_aload_n (pc := 24) hc 0 dX10_add_24 rfl rfl ?_
  refine gf_c3_number (pc := 25) hc tw_74 dX10_add_25 ?_
  refine g_topi (v := nI nW) (hW) ?_
  refine g_iload_n (pc := 28) hc 3 dX10_add_28 rfl rfl ?_
  refine sa_c18 (pc := 29) hc hA (nW) (rfl) (by omega) dX10_add_29 ?_
  refine g_eq (ws' := cw E ad sc (va_up (va_up (va_up ar 16 (upd (ar 16) nW x)) 17 (upd (ar 17) nW y)) 18 (upd (ar 18) nW z)) bl) (lv' := [(0, .ref (ad 3)), (1, .int x), (2, .int y), (3, .int z)]) rfl rfl rfl ?_
  refine g_aload_n (pc := 30) hc 0 dX10_add_30 rfl rfl ?_
  refine g_dup (pc := 31) hc dX10_add_31 rfl ?_
  refine gf_c3_number (pc := 32) hc tw_74 dX10_add_32 ?_
  refine g_topi (v := nI nW) (hW) ?_
  refine g_iconst (pc := 35) (v := nI 1) hc dX10_add_35 (by decide) ?_
  refine g_iadd (pc := 36) hc dX10_add_36 ?_
  refine g_topi (v := nI (nW + 1)) (nI_add nW 1) ?_
  refine pf_c3_number (pc := 37) hc hA tw_74 dX10_add_37 ?_
  refine g_aload_n (pc := 40) hc 0 dX10_add_40 rfl rfl ?_
  refine gf_c3_number (pc := 41) hc tw_74 dX10_add_41 ?_
  refine g_topi (v := nI (nW + 1)) rfl ?_
  refine g_iconst (pc := 44) (v := nI 1) hc dX10_add_44 (by decide) ?_
  refine g_isub (pc := 45) hc dX10_add_45 ?_
  exact g_iret (pc := 46) hc dX10_add_46 (by rw [nI1e, nI_pred]) (rfl)

theorem dX10_walkerOf_0 : decode cX10_walkerOf 0 = .ok (.aload_n 0, 1) := by decide +kernel
theorem dX10_walkerOf_1 : decode cX10_walkerOf 1 = .ok (.getfield 11, 3) := by decide +kernel
theorem dX10_walkerOf_4 : decode cX10_walkerOf 4 = .ok (.iload_n 1, 1) := by decide +kernel
theorem dX10_walkerOf_5 : decode cX10_walkerOf 5 = .ok (.iaload, 1) := by decide +kernel
theorem dX10_walkerOf_6 : decode cX10_walkerOf 6 = .ok (.ireturn, 1) := by decide +kernel

set_option maxHeartbeats 4000000 in
set_option maxRecDepth 100000 in
theorem c_X10_walkerOf (l : Launch) (E : Ev) {A : Nat → Prop} (ad : Nat → Nat) (hA : Oka 39 ad A) (sc : Nat → Int32) (ar : Nat → Nat → Int32) (bl : Int64) (j : Nat) (hj : j < 60) : Ct l E yX10_walkerOf (.code yX10_walkerOf cX10_walkerOf 2 (some .int)) ({ frames := 0, cells := 0, slots := 0, locals := 0 }) A (cw E ad sc ar bl) [.ref (ad 3), .int (nI j)] (some (.int ((ar 16) j))) (cw E ad sc ar bl) := by
  refine Ct.of (lv := [(0, .ref (ad 3)), (1, .int (nI j))]) (by decide +kernel) (Nat.le_of_ble_eq_true rfl) rfl ?_
  intro zp ze zs zm za zb zh zc hc
  refine g_aload_n (pc := 0) hc 0 dX10_walkerOf_0 rfl rfl ?_
  refine gf_c3_walkers (pc := 1) hc tw_69 dX10_walkerOf_1 ?_
  refine g_iload_n (pc := 4) hc 1 dX10_walkerOf_4 rfl rfl ?_
  refine la_c16 (pc := 5) hc (j) (rfl) (by omega) dX10_walkerOf_5 ?_
  exact g_iret (pc := 6) hc dX10_walkerOf_6 (rfl) (rfl)

theorem dX10_rowOf_0 : decode cX10_rowOf 0 = .ok (.aload_n 0, 1) := by decide +kernel
theorem dX10_rowOf_1 : decode cX10_rowOf 1 = .ok (.getfield 15, 3) := by decide +kernel
theorem dX10_rowOf_4 : decode cX10_rowOf 4 = .ok (.iload_n 1, 1) := by decide +kernel
theorem dX10_rowOf_5 : decode cX10_rowOf 5 = .ok (.iaload, 1) := by decide +kernel
theorem dX10_rowOf_6 : decode cX10_rowOf 6 = .ok (.ireturn, 1) := by decide +kernel

set_option maxHeartbeats 4000000 in
set_option maxRecDepth 100000 in
theorem c_X10_rowOf (l : Launch) (E : Ev) {A : Nat → Prop} (ad : Nat → Nat) (hA : Oka 39 ad A) (sc : Nat → Int32) (ar : Nat → Nat → Int32) (bl : Int64) (j : Nat) (hj : j < 60) : Ct l E yX10_rowOf (.code yX10_rowOf cX10_rowOf 2 (some .int)) ({ frames := 0, cells := 0, slots := 0, locals := 0 }) A (cw E ad sc ar bl) [.ref (ad 3), .int (nI j)] (some (.int ((ar 17) j))) (cw E ad sc ar bl) := by
  refine Ct.of (lv := [(0, .ref (ad 3)), (1, .int (nI j))]) (by decide +kernel) (Nat.le_of_ble_eq_true rfl) rfl ?_
  intro zp ze zs zm za zb zh zc hc
  refine g_aload_n (pc := 0) hc 0 dX10_rowOf_0 rfl rfl ?_
  refine gf_c3_rows (pc := 1) hc tw_70 dX10_rowOf_1 ?_
  refine g_iload_n (pc := 4) hc 1 dX10_rowOf_4 rfl rfl ?_
  refine la_c17 (pc := 5) hc (j) (rfl) (by omega) dX10_rowOf_5 ?_
  exact g_iret (pc := 6) hc dX10_rowOf_6 (rfl) (rfl)

theorem dX10_dayOf_0 : decode cX10_dayOf 0 = .ok (.aload_n 0, 1) := by decide +kernel
theorem dX10_dayOf_1 : decode cX10_dayOf 1 = .ok (.getfield 18, 3) := by decide +kernel
theorem dX10_dayOf_4 : decode cX10_dayOf 4 = .ok (.iload_n 1, 1) := by decide +kernel
theorem dX10_dayOf_5 : decode cX10_dayOf 5 = .ok (.iaload, 1) := by decide +kernel
theorem dX10_dayOf_6 : decode cX10_dayOf 6 = .ok (.ireturn, 1) := by decide +kernel

set_option maxHeartbeats 4000000 in
set_option maxRecDepth 100000 in
theorem c_X10_dayOf (l : Launch) (E : Ev) {A : Nat → Prop} (ad : Nat → Nat) (hA : Oka 39 ad A) (sc : Nat → Int32) (ar : Nat → Nat → Int32) (bl : Int64) (j : Nat) (hj : j < 60) : Ct l E yX10_dayOf (.code yX10_dayOf cX10_dayOf 2 (some .int)) ({ frames := 0, cells := 0, slots := 0, locals := 0 }) A (cw E ad sc ar bl) [.ref (ad 3), .int (nI j)] (some (.int ((ar 18) j))) (cw E ad sc ar bl) := by
  refine Ct.of (lv := [(0, .ref (ad 3)), (1, .int (nI j))]) (by decide +kernel) (Nat.le_of_ble_eq_true rfl) rfl ?_
  intro zp ze zs zm za zb zh zc hc
  refine g_aload_n (pc := 0) hc 0 dX10_dayOf_0 rfl rfl ?_
  refine gf_c3_days (pc := 1) hc tw_71 dX10_dayOf_1 ?_
  refine g_iload_n (pc := 4) hc 1 dX10_dayOf_4 rfl rfl ?_
  refine la_c18 (pc := 5) hc (j) (rfl) (by omega) dX10_dayOf_5 ?_
  exact g_iret (pc := 6) hc dX10_dayOf_6 (rfl) (rfl)

theorem dX10_tallyPlace_0 : decode cX10_tallyPlace 0 = .ok (.iload_n 0, 1) := by decide +kernel
theorem dX10_tallyPlace_1 : decode cX10_tallyPlace 1 = .ok (.bipush 8, 2) := by decide +kernel
theorem dX10_tallyPlace_3 : decode cX10_tallyPlace 3 = .ok (.imul, 1) := by decide +kernel
theorem dX10_tallyPlace_4 : decode cX10_tallyPlace 4 = .ok (.iload_n 1, 1) := by decide +kernel
theorem dX10_tallyPlace_5 : decode cX10_tallyPlace 5 = .ok (.iadd, 1) := by decide +kernel
theorem dX10_tallyPlace_6 : decode cX10_tallyPlace 6 = .ok (.iconst 4, 1) := by decide +kernel
theorem dX10_tallyPlace_7 : decode cX10_tallyPlace 7 = .ok (.imul, 1) := by decide +kernel
theorem dX10_tallyPlace_8 : decode cX10_tallyPlace 8 = .ok (.iload_n 2, 1) := by decide +kernel
theorem dX10_tallyPlace_9 : decode cX10_tallyPlace 9 = .ok (.iadd, 1) := by decide +kernel
theorem dX10_tallyPlace_10 : decode cX10_tallyPlace 10 = .ok (.ireturn, 1) := by decide +kernel

set_option maxHeartbeats 4000000 in
set_option maxRecDepth 100000 in
theorem c_X10_tallyPlace (l : Launch) (E : Ev) {A : Nat → Prop} (ad : Nat → Nat) (hA : Oka 39 ad A) (sc : Nat → Int32) (ar : Nat → Nat → Int32) (bl : Int64) (i : Nat) (c : Nat) (j : Nat) : Ct l E yX10_tallyPlace (.code yX10_tallyPlace cX10_tallyPlace 3 (some .int)) ({ frames := 0, cells := 0, slots := 0, locals := 0 }) A (cw E ad sc ar bl) [.int (nI i), .int (nI c), .int (nI j)] (some (.int (nI ((i * 8 + c) * 4 + j)))) (cw E ad sc ar bl) := by
  refine Ct.of (lv := [(0, .int (nI i)), (1, .int (nI c)), (2, .int (nI j))]) (by decide +kernel) (Nat.le_of_ble_eq_true rfl) rfl ?_
  intro zp ze zs zm za zb zh zc hc
  refine g_iload_n (pc := 0) hc 0 dX10_tallyPlace_0 rfl rfl ?_
  refine g_bipush (pc := 1) (v := nI 8) hc dX10_tallyPlace_1 (by decide) ?_
  refine g_imul (pc := 3) hc dX10_tallyPlace_3 ?_
  refine g_topi (v := nI (i * 8)) (pk_mul i 8) ?_
  refine g_iload_n (pc := 4) hc 1 dX10_tallyPlace_4 rfl rfl ?_
  refine g_iadd (pc := 5) hc dX10_tallyPlace_5 ?_
  refine g_topi (v := nI ((i * 8) + c)) (nI_add (i * 8) c) ?_
  refine g_iconst (pc := 6) (v := nI 4) hc dX10_tallyPlace_6 (by decide) ?_
  refine g_imul (pc := 7) hc dX10_tallyPlace_7 ?_
  refine g_topi (v := nI (((i * 8) + c) * 4)) (pk_mul ((i * 8) + c) 4) ?_
  refine g_iload_n (pc := 8) hc 2 dX10_tallyPlace_8 rfl rfl ?_
  refine g_iadd (pc := 9) hc dX10_tallyPlace_9 ?_
  refine g_topi (v := nI ((((i * 8) + c) * 4) + j)) (nI_add (((i * 8) + c) * 4) j) ?_
  exact g_iret (pc := 10) hc dX10_tallyPlace_10 (rfl) (rfl)

theorem dX10_bear_0 : decode cX10_bear 0 = .ok (.aload_n 0, 1) := by decide +kernel
theorem dX10_bear_1 : decode cX10_bear 1 = .ok (.getfield 21, 3) := by decide +kernel
theorem dX10_bear_4 : decode cX10_bear 4 = .ok (.iload_n 1, 1) := by decide +kernel
theorem dX10_bear_5 : decode cX10_bear 5 = .ok (.iconst 4, 1) := by decide +kernel
theorem dX10_bear_6 : decode cX10_bear 6 = .ok (.imul, 1) := by decide +kernel
theorem dX10_bear_7 : decode cX10_bear 7 = .ok (.iload_n 3, 1) := by decide +kernel
theorem dX10_bear_8 : decode cX10_bear 8 = .ok (.iadd, 1) := by decide +kernel
theorem dX10_bear_9 : decode cX10_bear 9 = .ok (.dup2, 1) := by decide +kernel
theorem dX10_bear_10 : decode cX10_bear 10 = .ok (.iaload, 1) := by decide +kernel
theorem dX10_bear_11 : decode cX10_bear 11 = .ok (.iload 4, 2) := by decide +kernel
theorem dX10_bear_13 : decode cX10_bear 13 = .ok (.iadd, 1) := by decide +kernel
theorem dX10_bear_14 : decode cX10_bear 14 = .ok (.iastore, 1) := by decide +kernel
theorem dX10_bear_15 : decode cX10_bear 15 = .ok (.aload_n 0, 1) := by decide +kernel
theorem dX10_bear_16 : decode cX10_bear 16 = .ok (.getfield 24, 3) := by decide +kernel
theorem dX10_bear_19 : decode cX10_bear 19 = .ok (.iload_n 1, 1) := by decide +kernel
theorem dX10_bear_20 : decode cX10_bear 20 = .ok (.iload_n 2, 1) := by decide +kernel
theorem dX10_bear_21 : decode cX10_bear 21 = .ok (.iload_n 3, 1) := by decide +kernel
theorem dX10_bear_22 : decode cX10_bear 22 = .ok (.invokestatic 37, 3) := by decide +kernel
theorem dX10_bear_25 : decode cX10_bear 25 = .ok (.dup2, 1) := by decide +kernel
theorem dX10_bear_26 : decode cX10_bear 26 = .ok (.iaload, 1) := by decide +kernel
theorem dX10_bear_27 : decode cX10_bear 27 = .ok (.iload 4, 2) := by decide +kernel
theorem dX10_bear_29 : decode cX10_bear 29 = .ok (.iadd, 1) := by decide +kernel
theorem dX10_bear_30 : decode cX10_bear 30 = .ok (.iastore, 1) := by decide +kernel
theorem dX10_bear_31 : decode cX10_bear 31 = .ok (.return_, 1) := by decide +kernel

set_option maxHeartbeats 4000000 in
set_option maxRecDepth 100000 in
theorem c_X10_bear (l : Launch) (E : Ev) {A : Nat → Prop} (ad : Nat → Nat) (hA : Oka 39 ad A) (sc : Nat → Int32) (ar : Nat → Nat → Int32) (bl : Int64) (i : Nat) (c : Nat) (j : Nat) (n : Int32) (hi : i < 60) (hcc : c < 8) (hj : j < 4) : Ct l E yX10_bear (.code yX10_bear cX10_bear 5 none) ({ frames := 1, cells := 0, slots := 0, locals := 22 }) A (cw E ad sc ar bl) [.ref (ad 3), .int (nI i), .int (nI c), .int (nI j), .int n] (none) (cw E ad sc (va_up (va_up ar 19 (upd (ar 19) (i * 4 + j) ((ar 19) (i * 4 + j) + n))) 20 (upd (ar 20) ((i * 8 + c) * 4 + j) ((ar 20) ((i * 8 + c) * 4 + j) + n))) bl) := by
  refine Ct.of (lv := [(0, .ref (ad 3)), (1, .int (nI i)), (2, .int (nI c)), (3, .int (nI j)), (4, .int n)]) (by decide +kernel) (Nat.le_of_ble_eq_true rfl) rfl ?_
  intro zp ze zs zm za zb zh zc hc
  refine g_aload_n (pc := 0) hc 0 dX10_bear_0 rfl rfl ?_
  refine gf_c3_sums (pc := 1) hc tw_72 dX10_bear_1 ?_
  refine g_iload_n (pc := 4) hc 1 dX10_bear_4 rfl rfl ?_
  refine g_iconst (pc := 5) (v := nI 4) hc dX10_bear_5 (by decide) ?_
  refine g_imul (pc := 6) hc dX10_bear_6 ?_
  refine g_topi (v := nI (i * 4)) (pk_mul i 4) ?_
  refine g_iload_n (pc := 7) hc 3 dX10_bear_7 rfl rfl ?_
  refine g_iadd (pc := 8) hc dX10_bear_8 ?_
  refine g_topi (v := nI ((i * 4) + j)) (nI_add (i * 4) j) ?_
  refine g_dup2 (pc := 9) hc dX10_bear_9 rfl rfl ?_
  refine la_c19 (pc := 10) hc ((i * 4) + j) (rfl) (by omega) dX10_bear_10 ?_
  refine g_iload (pc := 11) hc 4 dX10_bear_11 rfl ?_
  refine g_iadd (pc := 13) hc dX10_bear_13 ?_
  refine sa_c19 (pc := 14) hc hA ((i * 4) + j) (rfl) (by omega) dX10_bear_14 ?_
  refine g_aload_n (pc := 15) hc 0 dX10_bear_15 rfl rfl ?_
  refine gf_c3_tallies (pc := 16) hc tw_73 dX10_bear_16 ?_
  refine g_iload_n (pc := 19) hc 1 dX10_bear_19 rfl rfl ?_
  refine g_iload_n (pc := 20) hc 2 dX10_bear_20 rfl rfl ?_
  refine g_iload_n (pc := 21) hc 3 dX10_bear_21 rfl rfl ?_
  refine g_callSi (pc := 22) (rest := [.ref (ad 20)]) (As := [.int (nI i), .int (nI c), .int (nI j)]) hc (c_X10_tallyPlace l E ad hA sc (va_up ar 19 (upd (ar 19) ((i * 4) + j) (((ar 19) ((i * 4) + j)) + n))) bl i c j) mi_X10_tallyPlace tw_422 rfl ⟨rfl, rfl, by decide, by decide⟩ (Nat.le_of_ble_eq_true rfl) ⟨Nat.le_refl _, Nat.le_refl _⟩ rfl dX10_bear_22 ?_
  refine g_topi (v := nI ((i * 8 + c) * 4 + j)) rfl ?_
  refine g_dup2 (pc := 25) hc dX10_bear_25 rfl rfl ?_
  refine la_c20 (pc := 26) hc ((i * 8 + c) * 4 + j) (rfl) (by omega) dX10_bear_26 ?_
  refine g_topi (v := (ar 20) ((i * 8 + c) * 4 + j)) rfl ?_
  refine g_iload (pc := 27) hc 4 dX10_bear_27 rfl ?_
  refine g_iadd (pc := 29) hc dX10_bear_29 ?_
  refine sa_c20 (pc := 30) hc hA ((i * 8 + c) * 4 + j) (rfl) (by omega) dX10_bear_30 ?_
  refine g_eq (ws' := cw E ad sc (va_up (va_up ar 19 (upd (ar 19) ((i * 4) + j) (((ar 19) ((i * 4) + j)) + n))) 20 (upd (ar 20) ((i * 8 + c) * 4 + j) (((ar 20) ((i * 8 + c) * 4 + j)) + n))) bl) (lv' := [(0, .ref (ad 3)), (1, .int (nI i)), (2, .int (nI c)), (3, .int (nI j)), (4, .int n)]) rfl rfl rfl ?_
  exact g_vret (pc := 31) hc dX10_bear_31 rfl (rfl)

theorem dX10_borne_0 : decode cX10_borne 0 = .ok (.aload_n 0, 1) := by decide +kernel
theorem dX10_borne_1 : decode cX10_borne 1 = .ok (.iload_n 1, 1) := by decide +kernel
theorem dX10_borne_2 : decode cX10_borne 2 = .ok (.invokevirtual 41, 3) := by decide +kernel
theorem dX10_borne_5 : decode cX10_borne 5 = .ok (.ifCond .eq 17, 3) := by decide +kernel
theorem dX10_borne_8 : decode cX10_borne 8 = .ok (.aload_n 0, 1) := by decide +kernel
theorem dX10_borne_9 : decode cX10_borne 9 = .ok (.getfield 24, 3) := by decide +kernel
theorem dX10_borne_12 : decode cX10_borne 12 = .ok (.iload_n 1, 1) := by decide +kernel
theorem dX10_borne_13 : decode cX10_borne 13 = .ok (.iload_n 2, 1) := by decide +kernel
theorem dX10_borne_14 : decode cX10_borne 14 = .ok (.iload_n 3, 1) := by decide +kernel
theorem dX10_borne_15 : decode cX10_borne 15 = .ok (.invokestatic 37, 3) := by decide +kernel
theorem dX10_borne_18 : decode cX10_borne 18 = .ok (.iaload, 1) := by decide +kernel
theorem dX10_borne_19 : decode cX10_borne 19 = .ok (.goto 4, 3) := by decide +kernel
theorem dX10_borne_22 : decode cX10_borne 22 = .ok (.iconst 0, 1) := by decide +kernel
theorem dX10_borne_23 : decode cX10_borne 23 = .ok (.ireturn, 1) := by decide +kernel

set_option maxHeartbeats 4000000 in
set_option maxRecDepth 100000 in
theorem c_X10_borne (l : Launch) (E : Ev) {A : Nat → Prop} (ad : Nat → Nat) (hA : Oka 39 ad A) (sc : Nat → Int32) (ar : Nat → Nat → Int32) (bl : Int64) {nW : Nat} (x : Int32) (c : Nat) (j : Nat) (hW : sc 5 = nI nW) (hW60 : nW ≤ 60) (hcc : c < 8) (hj : j < 4) : Ct l E yX10_borne (.code yX10_borne cX10_borne 4 (some .int)) ({ frames := 1, cells := 0, slots := 0, locals := 22 }) A (cw E ad sc ar bl) [.ref (ad 3), .int x, .int (nI c), .int (nI j)] (some (.int (brn (sc 5) (ar 20) x c j))) (cw E ad sc ar bl) := by
  refine Ct.of (lv := [(0, .ref (ad 3)), (1, .int x), (2, .int (nI c)), (3, .int (nI j))]) (by decide +kernel) (Nat.le_of_ble_eq_true rfl) rfl ?_
  intro zp ze zs zm za zb zh zc hc
  refine g_aload_n (pc := 0) hc 0 dX10_borne_0 rfl rfl ?_
  refine g_iload_n (pc := 1) hc 1 dX10_borne_1 rfl rfl ?_
  refine g_callVi (pc := 2) (rest := []) (As := [.int x]) hc (c_X10_has l E ad hA sc ar bl x) mi_X10_has tw_449 3 rfl rfl rfl rfl ⟨rfl, rfl, by decide, by decide⟩ (Nat.le_of_ble_eq_true rfl) ⟨Nat.le_refl _, Nat.le_refl _⟩ rfl dX10_borne_2 ?_
  refine g_if_eq_b (pc := 5) hc 22 dX10_borne_5 (by decide) (fun c1 => ?_) (fun c1 => ?_)
  · refine g_iconst (pc := 22) (v := nI 0) hc dX10_borne_22 (by decide) ?_
    exact g_iret (pc := 23) hc dX10_borne_23 (by simp [brn, c1] <;> rfl) (rfl)
  · rw [hW] at c1
    obtain ⟨i, hi, rfl⟩ := inx_of (by omega) c1
    refine g_aload_n (pc := 8) hc 0 dX10_borne_8 rfl rfl ?_
    refine gf_c3_tallies (pc := 9) hc tw_73 dX10_borne_9 ?_
    refine g_iload_n (pc := 12) hc 1 dX10_borne_12 rfl rfl ?_
    refine g_iload_n (pc := 13) hc 2 dX10_borne_13 rfl rfl ?_
    refine g_iload_n (pc := 14) hc 3 dX10_borne_14 rfl rfl ?_
    refine g_callSi (pc := 15) (rest := [.ref (ad 20)]) (As := [.int (nI i), .int (nI c), .int (nI j)]) hc (c_X10_tallyPlace l E ad hA sc ar bl i c j) mi_X10_tallyPlace tw_422 rfl ⟨rfl, rfl, by decide, by decide⟩ (Nat.le_of_ble_eq_true rfl) ⟨Nat.le_refl _, Nat.le_refl _⟩ rfl dX10_borne_15 ?_
    refine la_c20 (pc := 18) hc ((i * 8 + c) * 4 + j) (rfl) (by omega) dX10_borne_18 ?_
    refine g_goto (pc := 19) hc 23 dX10_borne_19 (by decide) ?_
    exact g_iret (pc := 23) hc dX10_borne_23 (by rw [brn, hW, if_pos c1, nI_clamp (by omega)]) (rfl)

theorem dX10_sumOf_0 : decode cX10_sumOf 0 = .ok (.aload_n 0, 1) := by decide +kernel
theorem dX10_sumOf_1 : decode cX10_sumOf 1 = .ok (.iload_n 1, 1) := by decide +kernel
theorem dX10_sumOf_2 : decode cX10_sumOf 2 = .ok (.invokevirtual 41, 3) := by decide +kernel
theorem dX10_sumOf_5 : decode cX10_sumOf 5 = .ok (.ifCond .eq 16, 3) := by decide +kernel
theorem dX10_sumOf_8 : decode cX10_sumOf 8 = .ok (.aload_n 0, 1) := by decide +kernel
theorem dX10_sumOf_9 : decode cX10_sumOf 9 = .ok (.getfield 21, 3) := by decide +kernel
theorem dX10_sumOf_12 : decode cX10_sumOf 12 = .ok (.iload_n 1, 1) := by decide +kernel
theorem dX10_sumOf_13 : decode cX10_sumOf 13 = .ok (.iconst 4, 1) := by decide +kernel
theorem dX10_sumOf_14 : decode cX10_sumOf 14 = .ok (.imul, 1) := by decide +kernel
theorem dX10_sumOf_15 : decode cX10_sumOf 15 = .ok (.iload_n 2, 1) := by decide +kernel
theorem dX10_sumOf_16 : decode cX10_sumOf 16 = .ok (.iadd, 1) := by decide +kernel
theorem dX10_sumOf_17 : decode cX10_sumOf 17 = .ok (.iaload, 1) := by decide +kernel
theorem dX10_sumOf_18 : decode cX10_sumOf 18 = .ok (.goto 4, 3) := by decide +kernel
theorem dX10_sumOf_21 : decode cX10_sumOf 21 = .ok (.iconst 0, 1) := by decide +kernel
theorem dX10_sumOf_22 : decode cX10_sumOf 22 = .ok (.ireturn, 1) := by decide +kernel

set_option maxHeartbeats 4000000 in
set_option maxRecDepth 100000 in
theorem c_X10_sumOf (l : Launch) (E : Ev) {A : Nat → Prop} (ad : Nat → Nat) (hA : Oka 39 ad A) (sc : Nat → Int32) (ar : Nat → Nat → Int32) (bl : Int64) {nW : Nat} (x : Int32) (j : Nat) (hW : sc 5 = nI nW) (hW60 : nW ≤ 60) (hj : j < 4) : Ct l E yX10_sumOf (.code yX10_sumOf cX10_sumOf 3 (some .int)) ({ frames := 1, cells := 0, slots := 0, locals := 21 }) A (cw E ad sc ar bl) [.ref (ad 3), .int x, .int (nI j)] (some (.int (smo (sc 5) (ar 19) x j))) (cw E ad sc ar bl) := by
  refine Ct.of (lv := [(0, .ref (ad 3)), (1, .int x), (2, .int (nI j))]) (by decide +kernel) (Nat.le_of_ble_eq_true rfl) rfl ?_
  intro zp ze zs zm za zb zh zc hc
  refine g_aload_n (pc := 0) hc 0 dX10_sumOf_0 rfl rfl ?_
  refine g_iload_n (pc := 1) hc 1 dX10_sumOf_1 rfl rfl ?_
  refine g_callVi (pc := 2) (rest := []) (As := [.int x]) hc (c_X10_has l E ad hA sc ar bl x) mi_X10_has tw_449 3 rfl rfl rfl rfl ⟨rfl, rfl, by decide, by decide⟩ (Nat.le_of_ble_eq_true rfl) ⟨Nat.le_refl _, Nat.le_refl _⟩ rfl dX10_sumOf_2 ?_
  refine g_if_eq_b (pc := 5) hc 21 dX10_sumOf_5 (by decide) (fun c1 => ?_) (fun c1 => ?_)
  · refine g_iconst (pc := 21) (v := nI 0) hc dX10_sumOf_21 (by decide) ?_
    exact g_iret (pc := 22) hc dX10_sumOf_22 (by simp [smo, c1] <;> rfl) (rfl)
  · rw [hW] at c1
    obtain ⟨i, hi, rfl⟩ := inx_of (by omega) c1
    refine g_aload_n (pc := 8) hc 0 dX10_sumOf_8 rfl rfl ?_
    refine gf_c3_sums (pc := 9) hc tw_72 dX10_sumOf_9 ?_
    refine g_iload_n (pc := 12) hc 1 dX10_sumOf_12 rfl rfl ?_
    refine g_iconst (pc := 13) (v := nI 4) hc dX10_sumOf_13 (by decide) ?_
    refine g_imul (pc := 14) hc dX10_sumOf_14 ?_
    refine g_topi (v := nI (i * 4)) (pk_mul i 4) ?_
    refine g_iload_n (pc := 15) hc 2 dX10_sumOf_15 rfl rfl ?_
    refine g_iadd (pc := 16) hc dX10_sumOf_16 ?_
    refine g_topi (v := nI ((i * 4) + j)) (nI_add (i * 4) j) ?_
    refine la_c19 (pc := 17) hc ((i * 4) + j) (rfl) (by omega) dX10_sumOf_17 ?_
    refine g_goto (pc := 18) hc 22 dX10_sumOf_18 (by decide) ?_
    exact g_iret (pc := 22) hc dX10_sumOf_22 (by rw [smo, hW, if_pos c1, nI_clamp (by omega)]) (rfl)

theorem dX10_total_0 : decode cX10_total 0 = .ok (.iconst 0, 1) := by decide +kernel
theorem dX10_total_1 : decode cX10_total 1 = .ok (.istore_n 2, 1) := by decide +kernel
theorem dX10_total_2 : decode cX10_total 2 = .ok (.iconst 0, 1) := by decide +kernel
theorem dX10_total_3 : decode cX10_total 3 = .ok (.istore_n 3, 1) := by decide +kernel
theorem dX10_total_4 : decode cX10_total 4 = .ok (.iload_n 3, 1) := by decide +kernel
theorem dX10_total_5 : decode cX10_total 5 = .ok (.iconst 4, 1) := by decide +kernel
theorem dX10_total_6 : decode cX10_total 6 = .ok (.if_icmp .ge 18, 3) := by decide +kernel
theorem dX10_total_9 : decode cX10_total 9 = .ok (.iload_n 2, 1) := by decide +kernel
theorem dX10_total_10 : decode cX10_total 10 = .ok (.aload_n 0, 1) := by decide +kernel
theorem dX10_total_11 : decode cX10_total 11 = .ok (.iload_n 1, 1) := by decide +kernel
theorem dX10_total_12 : decode cX10_total 12 = .ok (.iload_n 3, 1) := by decide +kernel
theorem dX10_total_13 : decode cX10_total 13 = .ok (.invokevirtual 45, 3) := by decide +kernel
theorem dX10_total_16 : decode cX10_total 16 = .ok (.iadd, 1) := by decide +kernel
theorem dX10_total_17 : decode cX10_total 17 = .ok (.istore_n 2, 1) := by decide +kernel
theorem dX10_total_18 : decode cX10_total 18 = .ok (.iinc 3 1, 3) := by decide +kernel
theorem dX10_total_21 : decode cX10_total 21 = .ok (.goto (-17), 3) := by decide +kernel
theorem dX10_total_24 : decode cX10_total 24 = .ok (.iload_n 2, 1) := by decide +kernel
theorem dX10_total_25 : decode cX10_total 25 = .ok (.ireturn, 1) := by decide +kernel

set_option maxHeartbeats 4000000 in
set_option maxRecDepth 100000 in
theorem c_X10_total (l : Launch) (E : Ev) {A : Nat → Prop} (ad : Nat → Nat) (hA : Oka 39 ad A) (sc : Nat → Int32) (ar : Nat → Nat → Int32) (bl : Int64) {nW : Nat} (i : Nat) (hW : sc 5 = nI nW) (hW60 : nW ≤ 60) (hi : i < nW) : Ct l E yX10_total (.code yX10_total cX10_total 4 (some .int)) ({ frames := 2, cells := 0, slots := 0, locals := 43 }) A (cw E ad sc ar bl) [.ref (ad 3), .int (nI i)] (some (.int (ctot (ar 19) i))) (cw E ad sc ar bl) := by
  refine Ct.of (lv := [(0, .ref (ad 3)), (1, .int (nI i))]) (by decide +kernel) (Nat.le_of_ble_eq_true rfl) rfl ?_
  intro zp ze zs zm za zb zh zc hc
  refine g_iconst (pc := 0) (v := nI 0) hc dX10_total_0 (by decide) ?_
  refine g_istore_n (pc := 1) (lv' := [(0, .ref (ad 3)), (1, .int (nI i)), (2, .int (nI 0))]) hc dX10_total_1 rfl (by decide) rfl ?_
  refine g_iconst (pc := 2) (v := nI 0) hc dX10_total_2 (by decide) ?_
  refine g_istore_n (pc := 3) (lv' := [(0, .ref (ad 3)), (1, .int (nI i)), (2, .int (nI 0)), (3, .int (nI 0))]) hc dX10_total_3 rfl (by decide) rfl ?_
  have L4_1 : ∀ (kj j : Nat), j + kj = 4 → G zp l ze ({ frames := 2, cells := 0, slots := 0, locals := 43 }) zs zm za zb zh zc 0 0 (MQ zb (Qz E A (some (.int (ctot (ar 19) i))) (cw E ad sc ar bl)) za zs 0 0 A) E A 4 (cw E ad sc ar bl) (4) [(0, .ref (ad 3)), (1, .int (nI i)), (2, .int (sm (fun k => ar 19 (i * 4 + k)) (j))), (3, .int (nI (j)))] [] := by
    intro kj
    induction kj with
    | zero =>
      intro j lhj
      have lhjn : 4 = j := by omega
      subst lhjn
      refine g_iload_n (pc := 4) hc 3 dX10_total_4 rfl rfl ?_
      refine g_iconst (pc := 5) (v := nI 4) hc dX10_total_5 (by decide) ?_
      refine g_icmp_ge_t (pc := 6) hc 24 dX10_total_6 (by decide) (nI_le (by omega) (by omega)) ?_
      refine g_iload_n (pc := 24) hc 2 dX10_total_24 rfl rfl ?_
      exact g_iret (pc := 25) hc dX10_total_25 (rfl) (rfl)
    | succ kj ihj =>
      intro j lhj
      have lhjn : j < 4 := by omega
      refine g_iload_n (pc := 4) hc 3 dX10_total_4 rfl rfl ?_
      refine g_iconst (pc := 5) (v := nI 4) hc dX10_total_5 (by decide) ?_
      refine g_icmp_ge_f (pc := 6) hc 24 dX10_total_6 (by decide) (nI_ge (by omega) (by omega)) ?_
      refine g_iload_n (pc := 9) hc 2 dX10_total_9 rfl rfl ?_
      refine g_aload_n (pc := 10) hc 0 dX10_total_10 rfl rfl ?_
      refine g_iload_n (pc := 11) hc 1 dX10_total_11 rfl rfl ?_
      refine g_iload_n (pc := 12) hc 3 dX10_total_12 rfl rfl ?_
      refine g_callVi (pc := 13) (rest := [.int (sm (fun k => ar 19 (i * 4 + k)) (j))]) (As := [.int (nI i), .int (nI (j))]) hc (c_X10_sumOf l E ad hA sc ar bl (nI i) j (hW) (hW60) (by omega)) mi_X10_sumOf tw_445 3 rfl rfl rfl rfl ⟨rfl, rfl, by decide, by decide⟩ (Nat.le_of_ble_eq_true rfl) ⟨Nat.le_refl _, Nat.le_refl _⟩ rfl dX10_total_13 ?_
      refine g_topi (v := ar 19 (i * 4 + j)) (smo_nI hW hW60 hi) ?_
      refine g_iadd (pc := 16) hc dX10_total_16 ?_
      refine g_istore_n (pc := 17) (lv' := [(0, .ref (ad 3)), (1, .int (nI i)), (2, .int ((sm (fun k => ar 19 (i * 4 + k)) (j)) + (ar 19 (i * 4 + j)))), (3, .int (nI (j)))]) hc dX10_total_17 rfl (by decide) rfl ?_
      refine g_iinc (pc := 18) (v := nI (j + 1)) (lv' := [(0, .ref (ad 3)), (1, .int (nI i)), (2, .int ((sm (fun k => ar 19 (i * 4 + k)) (j)) + (ar 19 (i * 4 + j)))), (3, .int (nI (j + 1)))]) hc 3 dX10_total_18 rfl (nI_ofi j 1) (by decide) rfl ?_
      refine g_goto (pc := 21) hc 4 dX10_total_21 (by decide) ?_
      exact g_eq (ws' := cw E ad sc ar bl) (lv' := [(0, .ref (ad 3)), (1, .int (nI i)), (2, .int (sm (fun k => ar 19 (i * 4 + k)) (j + 1))), (3, .int (nI (j + 1)))]) (rfl) (rfl) rfl (ihj (j + 1) (by omega))
  exact g_eq (ws' := cw E ad sc ar bl) (lv' := [(0, .ref (ad 3)), (1, .int (nI i)), (2, .int (sm (fun k => ar 19 (i * 4 + k)) (0))), (3, .int (nI (0)))]) (rfl) (rfl) rfl (L4_1 (4 - 0) (0) (by omega))

theorem dX10_teller_0 : decode cX10_teller 0 = .ok (.iconst (-1), 1) := by decide +kernel
theorem dX10_teller_1 : decode cX10_teller 1 = .ok (.istore_n 2, 1) := by decide +kernel
theorem dX10_teller_2 : decode cX10_teller 2 = .ok (.iconst (-1), 1) := by decide +kernel
theorem dX10_teller_3 : decode cX10_teller 3 = .ok (.istore_n 3, 1) := by decide +kernel
theorem dX10_teller_4 : decode cX10_teller 4 = .ok (.iconst 0, 1) := by decide +kernel
theorem dX10_teller_5 : decode cX10_teller 5 = .ok (.istore 4, 2) := by decide +kernel
theorem dX10_teller_7 : decode cX10_teller 7 = .ok (.iload 4, 2) := by decide +kernel
theorem dX10_teller_9 : decode cX10_teller 9 = .ok (.aload_n 0, 1) := by decide +kernel
theorem dX10_teller_10 : decode cX10_teller 10 = .ok (.getfield 27, 3) := by decide +kernel
theorem dX10_teller_13 : decode cX10_teller 13 = .ok (.if_icmp .ge 40, 3) := by decide +kernel
theorem dX10_teller_16 : decode cX10_teller 16 = .ok (.aload_n 0, 1) := by decide +kernel
theorem dX10_teller_17 : decode cX10_teller 17 = .ok (.getfield 15, 3) := by decide +kernel
theorem dX10_teller_20 : decode cX10_teller 20 = .ok (.iload 4, 2) := by decide +kernel
theorem dX10_teller_22 : decode cX10_teller 22 = .ok (.iaload, 1) := by decide +kernel
theorem dX10_teller_23 : decode cX10_teller 23 = .ok (.iload_n 1, 1) := by decide +kernel
theorem dX10_teller_24 : decode cX10_teller 24 = .ok (.if_icmp .ne 23, 3) := by decide +kernel
theorem dX10_teller_27 : decode cX10_teller 27 = .ok (.aload_n 0, 1) := by decide +kernel
theorem dX10_teller_28 : decode cX10_teller 28 = .ok (.iload 4, 2) := by decide +kernel
theorem dX10_teller_30 : decode cX10_teller 30 = .ok (.invokevirtual 49, 3) := by decide +kernel
theorem dX10_teller_33 : decode cX10_teller 33 = .ok (.iload_n 3, 1) := by decide +kernel
theorem dX10_teller_34 : decode cX10_teller 34 = .ok (.if_icmp .le 13, 3) := by decide +kernel
theorem dX10_teller_37 : decode cX10_teller 37 = .ok (.iload 4, 2) := by decide +kernel
theorem dX10_teller_39 : decode cX10_teller 39 = .ok (.istore_n 2, 1) := by decide +kernel
theorem dX10_teller_40 : decode cX10_teller 40 = .ok (.aload_n 0, 1) := by decide +kernel
theorem dX10_teller_41 : decode cX10_teller 41 = .ok (.iload 4, 2) := by decide +kernel
theorem dX10_teller_43 : decode cX10_teller 43 = .ok (.invokevirtual 49, 3) := by decide +kernel
theorem dX10_teller_46 : decode cX10_teller 46 = .ok (.istore_n 3, 1) := by decide +kernel
theorem dX10_teller_47 : decode cX10_teller 47 = .ok (.iinc 4 1, 3) := by decide +kernel
theorem dX10_teller_50 : decode cX10_teller 50 = .ok (.goto (-43), 3) := by decide +kernel
theorem dX10_teller_53 : decode cX10_teller 53 = .ok (.iload_n 2, 1) := by decide +kernel
theorem dX10_teller_54 : decode cX10_teller 54 = .ok (.ireturn, 1) := by decide +kernel

set_option maxHeartbeats 4000000 in
set_option maxRecDepth 100000 in
theorem c_X10_teller (l : Launch) (E : Ev) {A : Nat → Prop} (ad : Nat → Nat) (hA : Oka 39 ad A) (sc : Nat → Int32) (ar : Nat → Nat → Int32) (bl : Int64) {nW : Nat} (r : Int32) (hW : sc 5 = nI nW) (hW60 : nW ≤ 60) : Ct l E yX10_teller (.code yX10_teller cX10_teller 5 (some .int)) ({ frames := 3, cells := 0, slots := 0, locals := 66 }) A (cw E ad sc ar bl) [.ref (ad 3), .int r] (some (.int (ctel nW (ar 17) (ar 19) r))) (cw E ad sc ar bl) := by
  refine Ct.of (lv := [(0, .ref (ad 3)), (1, .int r)]) (by decide +kernel) (Nat.le_of_ble_eq_true rfl) rfl ?_
  intro zp ze zs zm za zb zh zc hc
  refine g_iconst (pc := 0) (v := (-1)) hc dX10_teller_0 (by decide) ?_
  refine g_istore_n (pc := 1) (lv' := [(0, .ref (ad 3)), (1, .int r), (2, .int (-1))]) hc dX10_teller_1 rfl (by decide) rfl ?_
  refine g_iconst (pc := 2) (v := (-1)) hc dX10_teller_2 (by decide) ?_
  refine g_istore_n (pc := 3) (lv' := [(0, .ref (ad 3)), (1, .int r), (2, .int (-1)), (3, .int (-1))]) hc dX10_teller_3 rfl (by decide) rfl ?_
  refine g_iconst (pc := 4) (v := nI 0) hc dX10_teller_4 (by decide) ?_
  refine g_istore (pc := 5) (lv' := [(0, .ref (ad 3)), (1, .int r), (2, .int (-1)), (3, .int (-1)), (4, .int (nI 0))]) hc dX10_teller_5 (by decide) rfl ?_
  have L7_1 : ∀ (ki i : Nat), i + ki = nW → G zp l ze ({ frames := 3, cells := 0, slots := 0, locals := 66 }) zs zm za zb zh zc 0 0 (MQ zb (Qz E A (some (.int (ctel nW (ar 17) (ar 19) r))) (cw E ad sc ar bl)) za zs 0 0 A) E A 5 (cw E ad sc ar bl) (7) [(0, .ref (ad 3)), (1, .int r), (2, .int (tls (ar 17) (ar 19) r (i)).1), (3, .int (tls (ar 17) (ar 19) r (i)).2), (4, .int (nI (i)))] [] := by
    intro ki
    induction ki with
    | zero =>
      intro i lhi
      have lhin : nW = i := by omega
      subst lhin
      refine g_iload (pc := 7) hc 4 dX10_teller_7 rfl ?_
      refine g_aload_n (pc := 9) hc 0 dX10_teller_9 rfl rfl ?_
      refine gf_c3_number (pc := 10) hc tw_74 dX10_teller_10 ?_
      refine g_topi (v := nI nW) (hW) ?_
      refine g_icmp_ge_t (pc := 13) hc 53 dX10_teller_13 (by decide) (nI_le (by omega) (by omega)) ?_
      refine g_iload_n (pc := 53) hc 2 dX10_teller_53 rfl rfl ?_
      exact g_iret (pc := 54) hc dX10_teller_54 (rfl) (rfl)
    | succ ki ihi =>
      intro i lhi
      have lhin : i < nW := by omega
      refine g_iload (pc := 7) hc 4 dX10_teller_7 rfl ?_
      refine g_aload_n (pc := 9) hc 0 dX10_teller_9 rfl rfl ?_
      refine gf_c3_number (pc := 10) hc tw_74 dX10_teller_10 ?_
      refine g_topi (v := nI nW) (hW) ?_
      refine g_icmp_ge_f (pc := 13) hc 53 dX10_teller_13 (by decide) (nI_ge (by omega) (by omega)) ?_
      refine g_aload_n (pc := 16) hc 0 dX10_teller_16 rfl rfl ?_
      refine gf_c3_rows (pc := 17) hc tw_70 dX10_teller_17 ?_
      refine g_iload (pc := 20) hc 4 dX10_teller_20 rfl ?_
      refine la_c17 (pc := 22) hc (i) (rfl) (by omega) dX10_teller_22 ?_
      refine g_iload_n (pc := 23) hc 1 dX10_teller_23 rfl rfl ?_
      refine g_icmp_ne (pc := 24) hc 47 dX10_teller_24 (by decide) (fun c2 => ?_) (fun c2 => ?_)
      · refine g_iinc (pc := 47) (v := nI (i + 1)) (lv' := [(0, .ref (ad 3)), (1, .int r), (2, .int (tls (ar 17) (ar 19) r (i)).1), (3, .int (tls (ar 17) (ar 19) r (i)).2), (4, .int (nI (i + 1)))]) hc 4 dX10_teller_47 rfl (nI_ofi i 1) (by decide) rfl ?_
        refine g_goto (pc := 50) hc 7 dX10_teller_50 (by decide) ?_
        exact g_eq (ws' := cw E ad sc ar bl) (lv' := [(0, .ref (ad 3)), (1, .int r), (2, .int (tls (ar 17) (ar 19) r (i + 1)).1), (3, .int (tls (ar 17) (ar 19) r (i + 1)).2), (4, .int (nI (i + 1)))]) (rfl) (by rw [tls_succ]; repeat (first | rw [if_pos c2] | rw [if_neg c2] | rw [if_neg (ne_true_of_eq_false c2)])) rfl (ihi (i + 1) (by omega))
      · refine g_aload_n (pc := 27) hc 0 dX10_teller_27 rfl rfl ?_
        refine g_iload (pc := 28) hc 4 dX10_teller_28 rfl ?_
        refine g_callVi (pc := 30) (rest := []) (As := [.int (nI (i))]) hc (c_X10_total l E ad hA sc ar bl i (hW) (hW60) (by omega)) mi_X10_total tw_454 3 rfl rfl rfl rfl ⟨rfl, rfl, by decide, by decide⟩ (Nat.le_of_ble_eq_true rfl) ⟨Nat.le_refl _, Nat.le_refl _⟩ rfl dX10_teller_30 ?_
        refine g_iload_n (pc := 33) hc 3 dX10_teller_33 rfl rfl ?_
        refine g_icmp_le (pc := 34) hc 47 dX10_teller_34 (by decide) (fun c3 => ?_) (fun c3 => ?_)
        · refine g_iinc (pc := 47) (v := nI (i + 1)) (lv' := [(0, .ref (ad 3)), (1, .int r), (2, .int (tls (ar 17) (ar 19) r (i)).1), (3, .int (tls (ar 17) (ar 19) r (i)).2), (4, .int (nI (i + 1)))]) hc 4 dX10_teller_47 rfl (nI_ofi i 1) (by decide) rfl ?_
          refine g_goto (pc := 50) hc 7 dX10_teller_50 (by decide) ?_
          exact g_eq (ws' := cw E ad sc ar bl) (lv' := [(0, .ref (ad 3)), (1, .int r), (2, .int (tls (ar 17) (ar 19) r (i + 1)).1), (3, .int (tls (ar 17) (ar 19) r (i + 1)).2), (4, .int (nI (i + 1)))]) (rfl) (by rw [tls_succ]; repeat (first | rw [if_pos c2] | rw [if_neg c2] | rw [if_neg (ne_true_of_eq_false c2)] | rw [if_pos c3] | rw [if_neg c3] | rw [if_neg (ne_true_of_eq_false c3)])) rfl (ihi (i + 1) (by omega))
        · refine g_iload (pc := 37) hc 4 dX10_teller_37 rfl ?_
          refine g_istore_n (pc := 39) (lv' := [(0, .ref (ad 3)), (1, .int r), (2, .int (nI (i))), (3, .int (tls (ar 17) (ar 19) r (i)).2), (4, .int (nI (i)))]) hc dX10_teller_39 rfl (by decide) rfl ?_
          refine g_aload_n (pc := 40) hc 0 dX10_teller_40 rfl rfl ?_
          refine g_iload (pc := 41) hc 4 dX10_teller_41 rfl ?_
          refine g_callVi (pc := 43) (rest := []) (As := [.int (nI (i))]) hc (c_X10_total l E ad hA sc ar bl i (hW) (hW60) (by omega)) mi_X10_total tw_454 3 rfl rfl rfl rfl ⟨rfl, rfl, by decide, by decide⟩ (Nat.le_of_ble_eq_true rfl) ⟨Nat.le_refl _, Nat.le_refl _⟩ rfl dX10_teller_43 ?_
          refine g_istore_n (pc := 46) (lv' := [(0, .ref (ad 3)), (1, .int r), (2, .int (nI (i))), (3, .int (ctot (ar 19) i)), (4, .int (nI (i)))]) hc dX10_teller_46 rfl (by decide) rfl ?_
          refine g_iinc (pc := 47) (v := nI (i + 1)) (lv' := [(0, .ref (ad 3)), (1, .int r), (2, .int (nI (i))), (3, .int (ctot (ar 19) i)), (4, .int (nI (i + 1)))]) hc 4 dX10_teller_47 rfl (nI_ofi i 1) (by decide) rfl ?_
          refine g_goto (pc := 50) hc 7 dX10_teller_50 (by decide) ?_
          exact g_eq (ws' := cw E ad sc ar bl) (lv' := [(0, .ref (ad 3)), (1, .int r), (2, .int (tls (ar 17) (ar 19) r (i + 1)).1), (3, .int (tls (ar 17) (ar 19) r (i + 1)).2), (4, .int (nI (i + 1)))]) (rfl) (by rw [tls_succ]; repeat (first | rw [if_pos c2] | rw [if_neg c2] | rw [if_neg (ne_true_of_eq_false c2)] | rw [if_pos c3] | rw [if_neg c3] | rw [if_neg (ne_true_of_eq_false c3)])) rfl (ihi (i + 1) (by omega))
  exact g_eq (ws' := cw E ad sc ar bl) (lv' := [(0, .ref (ad 3)), (1, .int r), (2, .int (tls (ar 17) (ar 19) r (0)).1), (3, .int (tls (ar 17) (ar 19) r (0)).2), (4, .int (nI (0)))]) (rfl) (rfl) rfl (L7_1 (nW - 0) (0) (by omega))

theorem dX1_clear_0 : decode cX1_clear 0 = .ok (.aload_n 0, 1) := by decide +kernel
theorem dX1_clear_1 : decode cX1_clear 1 = .ok (.iconst 0, 1) := by decide +kernel
theorem dX1_clear_2 : decode cX1_clear 2 = .ok (.putfield 24, 3) := by decide +kernel
theorem dX1_clear_5 : decode cX1_clear 5 = .ok (.return_, 1) := by decide +kernel

set_option maxHeartbeats 4000000 in
set_option maxRecDepth 100000 in
theorem c_X1_clear (l : Launch) (E : Ev) {A : Nat → Prop} (ad : Nat → Nat) (hA : Oka 39 ad A) (sc : Nat → Int32) (ar : Nat → Nat → Int32) (bl : Int64)  : Ct l E yX1_clear (.code yX1_clear cX1_clear 1 none) ({ frames := 0, cells := 0, slots := 0, locals := 0 }) A (cw E ad sc ar bl) [.ref (ad 4)] (none) (cw E ad (va_up sc 6 (nI 0)) ar bl) := by
  refine Ct.of (lv := [(0, .ref (ad 4))]) (by decide +kernel) (Nat.le_of_ble_eq_true rfl) rfl ?_
  intro zp ze zs zm za zb zh zc hc
  refine g_aload_n (pc := 0) hc 0 dX1_clear_0 rfl rfl ?_
  refine g_iconst (pc := 1) (v := nI 0) hc dX1_clear_1 (by decide) ?_
  refine pf_c4_number (pc := 2) hc hA tw_98 dX1_clear_2 ?_
  exact g_vret (pc := 5) hc dX1_clear_5 rfl (rfl)

theorem dX1_number_0 : decode cX1_number 0 = .ok (.aload_n 0, 1) := by decide +kernel
theorem dX1_number_1 : decode cX1_number 1 = .ok (.getfield 24, 3) := by decide +kernel
theorem dX1_number_4 : decode cX1_number 4 = .ok (.ireturn, 1) := by decide +kernel

set_option maxHeartbeats 4000000 in
set_option maxRecDepth 100000 in
theorem c_X1_number (l : Launch) (E : Ev) {A : Nat → Prop} (ad : Nat → Nat) (hA : Oka 39 ad A) (sc : Nat → Int32) (ar : Nat → Nat → Int32) (bl : Int64)  : Ct l E yX1_number (.code yX1_number cX1_number 1 (some .int)) ({ frames := 0, cells := 0, slots := 0, locals := 0 }) A (cw E ad sc ar bl) [.ref (ad 4)] (some (.int (sc 6))) (cw E ad sc ar bl) := by
  refine Ct.of (lv := [(0, .ref (ad 4))]) (by decide +kernel) (Nat.le_of_ble_eq_true rfl) rfl ?_
  intro zp ze zs zm za zb zh zc hc
  refine g_aload_n (pc := 0) hc 0 dX1_number_0 rfl rfl ?_
  refine gf_c4_number (pc := 1) hc tw_98 dX1_number_1 ?_
  exact g_iret (pc := 4) hc dX1_number_4 (rfl) (rfl)

theorem dX1_isFull_0 : decode cX1_isFull 0 = .ok (.aload_n 0, 1) := by decide +kernel
theorem dX1_isFull_1 : decode cX1_isFull 1 = .ok (.getfield 24, 3) := by decide +kernel
theorem dX1_isFull_4 : decode cX1_isFull 4 = .ok (.sipush 200, 3) := by decide +kernel
theorem dX1_isFull_7 : decode cX1_isFull 7 = .ok (.if_icmp .lt 7, 3) := by decide +kernel
theorem dX1_isFull_10 : decode cX1_isFull 10 = .ok (.iconst 1, 1) := by decide +kernel
theorem dX1_isFull_11 : decode cX1_isFull 11 = .ok (.goto 4, 3) := by decide +kernel
theorem dX1_isFull_14 : decode cX1_isFull 14 = .ok (.iconst 0, 1) := by decide +kernel
theorem dX1_isFull_15 : decode cX1_isFull 15 = .ok (.ireturn, 1) := by decide +kernel

set_option maxHeartbeats 4000000 in
set_option maxRecDepth 100000 in
theorem c_X1_isFull (l : Launch) (E : Ev) {A : Nat → Prop} (ad : Nat → Nat) (hA : Oka 39 ad A) (sc : Nat → Int32) (ar : Nat → Nat → Int32) (bl : Int64)  : Ct l E yX1_isFull (.code yX1_isFull cX1_isFull 1 (some .boolean)) ({ frames := 0, cells := 0, slots := 0, locals := 0 }) A (cw E ad sc ar bl) [.ref (ad 4)] (some (.int (bI (!decide (sc 6 < nI 200))))) (cw E ad sc ar bl) := by
  refine Ct.of (lv := [(0, .ref (ad 4))]) (by decide +kernel) (Nat.le_of_ble_eq_true rfl) rfl ?_
  intro zp ze zs zm za zb zh zc hc
  refine g_aload_n (pc := 0) hc 0 dX1_isFull_0 rfl rfl ?_
  refine gf_c4_number (pc := 1) hc tw_98 dX1_isFull_1 ?_
  refine g_sipush (pc := 4) (v := nI 200) hc dX1_isFull_4 (by decide) ?_
  refine g_icmp_lt (pc := 7) hc 14 dX1_isFull_7 (by decide) (fun c1 => ?_) (fun c1 => ?_)
  · refine g_iconst (pc := 14) (v := nI 0) hc dX1_isFull_14 (by decide) ?_
    exact g_zret (pc := 15) hc dX1_isFull_15 (by decide) (by simp [bI, c1] <;> rfl) (rfl)
  · refine g_iconst (pc := 10) (v := nI 1) hc dX1_isFull_10 (by decide) ?_
    refine g_goto (pc := 11) hc 15 dX1_isFull_11 (by decide) ?_
    exact g_zret (pc := 15) hc dX1_isFull_15 (by decide) (by simp [bI, c1] <;> rfl) (rfl)

theorem dX1_has_0 : decode cX1_has 0 = .ok (.iload_n 1, 1) := by decide +kernel
theorem dX1_has_1 : decode cX1_has 1 = .ok (.ifCond .lt 15, 3) := by decide +kernel
theorem dX1_has_4 : decode cX1_has 4 = .ok (.iload_n 1, 1) := by decide +kernel
theorem dX1_has_5 : decode cX1_has 5 = .ok (.aload_n 0, 1) := by decide +kernel
theorem dX1_has_6 : decode cX1_has 6 = .ok (.getfield 24, 3) := by decide +kernel
theorem dX1_has_9 : decode cX1_has 9 = .ok (.if_icmp .ge 7, 3) := by decide +kernel
theorem dX1_has_12 : decode cX1_has 12 = .ok (.iconst 1, 1) := by decide +kernel
theorem dX1_has_13 : decode cX1_has 13 = .ok (.goto 4, 3) := by decide +kernel
theorem dX1_has_16 : decode cX1_has 16 = .ok (.iconst 0, 1) := by decide +kernel
theorem dX1_has_17 : decode cX1_has 17 = .ok (.ireturn, 1) := by decide +kernel

set_option maxHeartbeats 4000000 in
set_option maxRecDepth 100000 in
theorem c_X1_has (l : Launch) (E : Ev) {A : Nat → Prop} (ad : Nat → Nat) (hA : Oka 39 ad A) (sc : Nat → Int32) (ar : Nat → Nat → Int32) (bl : Int64) (x : Int32) : Ct l E yX1_has (.code yX1_has cX1_has 2 (some .boolean)) ({ frames := 0, cells := 0, slots := 0, locals := 0 }) A (cw E ad sc ar bl) [.ref (ad 4), .int x] (some (.int (bI (inx x (sc 6))))) (cw E ad sc ar bl) := by
  refine Ct.of (lv := [(0, .ref (ad 4)), (1, .int x)]) (by decide +kernel) (Nat.le_of_ble_eq_true rfl) rfl ?_
  intro zp ze zs zm za zb zh zc hc
  refine g_iload_n (pc := 0) hc 1 dX1_has_0 rfl rfl ?_
  refine g_if_lt (pc := 1) hc 16 dX1_has_1 (by decide) (fun c1 => ?_) (fun c1 => ?_)
  · refine g_iconst (pc := 16) (v := nI 0) hc dX1_has_16 (by decide) ?_
    exact g_zret (pc := 17) hc dX1_has_17 (by decide) (by simp [bI, inx, c1] <;> rfl) (rfl)
  · refine g_iload_n (pc := 4) hc 1 dX1_has_4 rfl rfl ?_
    refine g_aload_n (pc := 5) hc 0 dX1_has_5 rfl rfl ?_
    refine gf_c4_number (pc := 6) hc tw_98 dX1_has_6 ?_
    refine g_icmp_ge (pc := 9) hc 16 dX1_has_9 (by decide) (fun c2 => ?_) (fun c2 => ?_)
    · refine g_iconst (pc := 16) (v := nI 0) hc dX1_has_16 (by decide) ?_
      exact g_zret (pc := 17) hc dX1_has_17 (by decide) (by simp [bI, inx, c1, c2] <;> rfl) (rfl)
    · refine g_iconst (pc := 12) (v := nI 1) hc dX1_has_12 (by decide) ?_
      refine g_goto (pc := 13) hc 17 dX1_has_13 (by decide) ?_
      exact g_zret (pc := 17) hc dX1_has_17 (by decide) (by simp [bI, inx, c1, c2] <;> rfl) (rfl)

theorem dX1_add_0 : decode cX1_add 0 = .ok (.aload_n 0, 1) := by decide +kernel
theorem dX1_add_1 : decode cX1_add 1 = .ok (.getfield 11, 3) := by decide +kernel
theorem dX1_add_4 : decode cX1_add 4 = .ok (.aload_n 0, 1) := by decide +kernel
theorem dX1_add_5 : decode cX1_add 5 = .ok (.getfield 24, 3) := by decide +kernel
theorem dX1_add_8 : decode cX1_add 8 = .ok (.iload_n 1, 1) := by decide +kernel
theorem dX1_add_9 : decode cX1_add 9 = .ok (.iastore, 1) := by decide +kernel
theorem dX1_add_10 : decode cX1_add 10 = .ok (.aload_n 0, 1) := by decide +kernel
theorem dX1_add_11 : decode cX1_add 11 = .ok (.getfield 15, 3) := by decide +kernel
theorem dX1_add_14 : decode cX1_add 14 = .ok (.aload_n 0, 1) := by decide +kernel
theorem dX1_add_15 : decode cX1_add 15 = .ok (.getfield 24, 3) := by decide +kernel
theorem dX1_add_18 : decode cX1_add 18 = .ok (.iload_n 2, 1) := by decide +kernel
theorem dX1_add_19 : decode cX1_add 19 = .ok (.iastore, 1) := by decide +kernel
theorem dX1_add_20 : decode cX1_add 20 = .ok (.aload_n 0, 1) := by decide +kernel
theorem dX1_add_21 : decode cX1_add 21 = .ok (.getfield 18, 3) := by decide +kernel
theorem dX1_add_24 : decode cX1_add 24 = .ok (.aload_n 0, 1) := by decide +kernel
theorem dX1_add_25 : decode cX1_add 25 = .ok (.getfield 24, 3) := by decide +kernel
theorem dX1_add_28 : decode cX1_add 28 = .ok (.iload_n 3, 1) := by decide +kernel
theorem dX1_add_29 : decode cX1_add 29 = .ok (.iastore, 1) := by decide +kernel
theorem dX1_add_30 : decode cX1_add 30 = .ok (.aload_n 0, 1) := by decide +kernel
theorem dX1_add_31 : decode cX1_add 31 = .ok (.getfield 21, 3) := by decide +kernel
theorem dX1_add_34 : decode cX1_add 34 = .ok (.aload_n 0, 1) := by decide +kernel
theorem dX1_add_35 : decode cX1_add 35 = .ok (.getfield 24, 3) := by decide +kernel
theorem dX1_add_38 : decode cX1_add 38 = .ok (.iload 4, 2) := by decide +kernel
theorem dX1_add_40 : decode cX1_add 40 = .ok (.iastore, 1) := by decide +kernel
theorem dX1_add_41 : decode cX1_add 41 = .ok (.aload_n 0, 1) := by decide +kernel
theorem dX1_add_42 : decode cX1_add 42 = .ok (.dup, 1) := by decide +kernel
theorem dX1_add_43 : decode cX1_add 43 = .ok (.getfield 24, 3) := by decide +kernel
theorem dX1_add_46 : decode cX1_add 46 = .ok (.iconst 1, 1) := by decide +kernel
theorem dX1_add_47 : decode cX1_add 47 = .ok (.iadd, 1) := by decide +kernel
theorem dX1_add_48 : decode cX1_add 48 = .ok (.putfield 24, 3) := by decide +kernel
theorem dX1_add_51 : decode cX1_add 51 = .ok (.aload_n 0, 1) := by decide +kernel
theorem dX1_add_52 : decode cX1_add 52 = .ok (.getfield 24, 3) := by decide +kernel
theorem dX1_add_55 : decode cX1_add 55 = .ok (.iconst 1, 1) := by decide +kernel
theorem dX1_add_56 : decode cX1_add 56 = .ok (.isub, 1) := by decide +kernel
theorem dX1_add_57 : decode cX1_add 57 = .ok (.ireturn, 1) := by decide +kernel

set_option maxHeartbeats 4000000 in
set_option maxRecDepth 100000 in
theorem c_X1_add (l : Launch) (E : Ev) {A : Nat → Prop} (ad : Nat → Nat) (hA : Oka 39 ad A) (sc : Nat → Int32) (ar : Nat → Nat → Int32) (bl : Int64) {nF : Nat} (x : Int32) (y : Int32) (z : Int32) (u : Int32) (hF : sc 6 = nI nF) (hF1 : nF < 200) : Ct l E yX1_add (.code yX1_add cX1_add 5 (some .int)) ({ frames := 0, cells := 0, slots := 0, locals := 0 }) A (cw E ad sc ar bl) [.ref (ad 4), .int x, .int y, .int z, .int u] (some (.int (nI nF))) (cw E ad (va_up sc 6 (nI (nF + 1))) (va_up (va_up (va_up (va_up ar 21 (upd (ar 21) nF x)) 22 (upd (ar 22) nF y)) 23 (upd (ar 23) nF z)) 24 (upd (ar 24) nF u)) bl) := by
  refine Ct.of (lv := [(0, .ref (ad 4)), (1, .int x), (2, .int y), (3, .int z), (4, .int u)]) (by decide +kernel) (Nat.le_of_ble_eq_true rfl) rfl ?_
  intro zp ze zs zm za zb zh zc hc
  refine g_aload_n (pc := 0) hc 0 dX1_add_0 rfl rfl ?_
  refine gf_c4_walks (pc := 1) hc tw_94 dX1_add_1 ?_
  refine g_aload_n (pc := 4) hc 0 dX1_add_4 rfl rfl ?_
  refine gf_c4_number (pc := 5) hc tw_98 dX1_add_5 ?_
  refine g_topi (v := nI nF) (hF) ?_
  refine g_iload_n (pc := 8) hc 1 dX1_add_8 rfl rfl ?_
  refine sa_c21 (pc := 9) hc hA (nF) (rfl) (by omega) dX1_add_9 ?_
  refine g_aload_n (pc := 10) hc 0 dX1_add_10 rfl rfl ?_
  refine gf_c4_paces (pc := 11) hc tw_95 dX1_add_11 ?_
  refine g_aload_n (pc := 14) hc 0 dX1_add_14 rfl rfl ?_
  refine gf_c4_number (pc := 15) hc tw_98 dX1_add_15 ?_
  refine g_topi (v := nI nF) (hF) ?_
  refine g_iload_n (pc := 18) hc 2 dX1_add_18 rfl rfl ?_
  refine sa_c22 (pc := 19) hc hA (nF) (rfl) (by omega) dX1_add_19 ?_
  refine g_eq (ws' := cw E ad sc (va_up (va_up ar 21 (upd (ar 21) nF x)) 22 (upd (ar 22) nF y)) bl) (lv' := [(0, .ref (ad 4)), (1, .int x), (2, .int y), (3, .int z), (4, .int u)]) rfl rfl rfl ?_
  refine g_aload_n (pc := 20) hc 0 dX1_add_20 rfl rfl ?_
  refine gf_c4_kinds (pc := 21) hc tw_96 dX1_add_21 ?_
  refine g_aload_n (pc := 24) hc 0 dX1_add_24 rfl rfl ?_
  refine gf_c4_number (pc := 25) hc tw_98 dX1_add_25 ?_
  refine g_topi (v := nI nF) (hF) ?_
  refine g_iload_n (pc := 28) hc 3 dX1_add_28 rfl rfl ?_
  refine sa_c23 (pc := 29) hc hA (nF) (rfl) (by omega) dX1_add_29 ?_
  refine g_eq (ws' := cw E ad sc (va_up (va_up (va_up ar 21 (upd (ar 21) nF x)) 22 (upd (ar 22) nF y)) 23 (upd (ar 23) nF z)) bl) (lv' := [(0, .ref (ad 4)), (1, .int x), (2, .int y), (3, .int z), (4, .int u)]) rfl rfl rfl ?_
  refine g_aload_n (pc := 30) hc 0 dX1_add_30 rfl rfl ?_
  refine gf_c4_numbers (pc := 31) hc tw_97 dX1_add_31 ?_
  refine g_aload_n (pc := 34) hc 0 dX1_add_34 rfl rfl ?_
  refine gf_c4_number (pc := 35) hc tw_98 dX1_add_35 ?_
  refine g_topi (v := nI nF) (hF) ?_
  refine g_iload (pc := 38) hc 4 dX1_add_38 rfl ?_
  refine sa_c24 (pc := 40) hc hA (nF) (rfl) (by omega) dX1_add_40 ?_
  refine g_eq (ws' := cw E ad sc (va_up (va_up (va_up (va_up ar 21 (upd (ar 21) nF x)) 22 (upd (ar 22) nF y)) 23 (upd (ar 23) nF z)) 24 (upd (ar 24) nF u)) bl) (lv' := [(0, .ref (ad 4)), (1, .int x), (2, .int y), (3, .int z), (4, .int u)]) rfl rfl rfl ?_
  refine g_aload_n (pc := 41) hc 0 dX1_add_41 rfl rfl ?_
  refine g_dup (pc := 42) hc dX1_add_42 rfl ?_
  refine gf_c4_number (pc := 43) hc tw_98 dX1_add_43 ?_
  refine g_topi (v := nI nF) (hF) ?_
  refine g_iconst (pc := 46) (v := nI 1) hc dX1_add_46 (by decide) ?_
  refine g_iadd (pc := 47) hc dX1_add_47 ?_
  refine g_topi (v := nI (nF + 1)) (nI_add nF 1) ?_
  refine pf_c4_number (pc := 48) hc hA tw_98 dX1_add_48 ?_
  refine g_aload_n (pc := 51) hc 0 dX1_add_51 rfl rfl ?_
  refine gf_c4_number (pc := 52) hc tw_98 dX1_add_52 ?_
  refine g_topi (v := nI (nF + 1)) rfl ?_
  refine g_iconst (pc := 55) (v := nI 1) hc dX1_add_55 (by decide) ?_
  refine g_isub (pc := 56) hc dX1_add_56 ?_
  exact g_iret (pc := 57) hc dX1_add_57 (by rw [nI1e, nI_pred]) (rfl)

theorem dX1_walkOf_0 : decode cX1_walkOf 0 = .ok (.aload_n 0, 1) := by decide +kernel
theorem dX1_walkOf_1 : decode cX1_walkOf 1 = .ok (.getfield 11, 3) := by decide +kernel
theorem dX1_walkOf_4 : decode cX1_walkOf 4 = .ok (.iload_n 1, 1) := by decide +kernel
theorem dX1_walkOf_5 : decode cX1_walkOf 5 = .ok (.iaload, 1) := by decide +kernel
theorem dX1_walkOf_6 : decode cX1_walkOf 6 = .ok (.ireturn, 1) := by decide +kernel

set_option maxHeartbeats 4000000 in
set_option maxRecDepth 100000 in
theorem c_X1_walkOf (l : Launch) (E : Ev) {A : Nat → Prop} (ad : Nat → Nat) (hA : Oka 39 ad A) (sc : Nat → Int32) (ar : Nat → Nat → Int32) (bl : Int64) (j : Nat) (hj : j < 200) : Ct l E yX1_walkOf (.code yX1_walkOf cX1_walkOf 2 (some .int)) ({ frames := 0, cells := 0, slots := 0, locals := 0 }) A (cw E ad sc ar bl) [.ref (ad 4), .int (nI j)] (some (.int ((ar 21) j))) (cw E ad sc ar bl) := by
  refine Ct.of (lv := [(0, .ref (ad 4)), (1, .int (nI j))]) (by decide +kernel) (Nat.le_of_ble_eq_true rfl) rfl ?_
  intro zp ze zs zm za zb zh zc hc
  refine g_aload_n (pc := 0) hc 0 dX1_walkOf_0 rfl rfl ?_
  refine gf_c4_walks (pc := 1) hc tw_94 dX1_walkOf_1 ?_
  refine g_iload_n (pc := 4) hc 1 dX1_walkOf_4 rfl rfl ?_
  refine la_c21 (pc := 5) hc (j) (rfl) (by omega) dX1_walkOf_5 ?_
  exact g_iret (pc := 6) hc dX1_walkOf_6 (rfl) (rfl)

theorem dX1_paceOf_0 : decode cX1_paceOf 0 = .ok (.aload_n 0, 1) := by decide +kernel
theorem dX1_paceOf_1 : decode cX1_paceOf 1 = .ok (.getfield 15, 3) := by decide +kernel
theorem dX1_paceOf_4 : decode cX1_paceOf 4 = .ok (.iload_n 1, 1) := by decide +kernel
theorem dX1_paceOf_5 : decode cX1_paceOf 5 = .ok (.iaload, 1) := by decide +kernel
theorem dX1_paceOf_6 : decode cX1_paceOf 6 = .ok (.ireturn, 1) := by decide +kernel

set_option maxHeartbeats 4000000 in
set_option maxRecDepth 100000 in
theorem c_X1_paceOf (l : Launch) (E : Ev) {A : Nat → Prop} (ad : Nat → Nat) (hA : Oka 39 ad A) (sc : Nat → Int32) (ar : Nat → Nat → Int32) (bl : Int64) (j : Nat) (hj : j < 200) : Ct l E yX1_paceOf (.code yX1_paceOf cX1_paceOf 2 (some .int)) ({ frames := 0, cells := 0, slots := 0, locals := 0 }) A (cw E ad sc ar bl) [.ref (ad 4), .int (nI j)] (some (.int ((ar 22) j))) (cw E ad sc ar bl) := by
  refine Ct.of (lv := [(0, .ref (ad 4)), (1, .int (nI j))]) (by decide +kernel) (Nat.le_of_ble_eq_true rfl) rfl ?_
  intro zp ze zs zm za zb zh zc hc
  refine g_aload_n (pc := 0) hc 0 dX1_paceOf_0 rfl rfl ?_
  refine gf_c4_paces (pc := 1) hc tw_95 dX1_paceOf_1 ?_
  refine g_iload_n (pc := 4) hc 1 dX1_paceOf_4 rfl rfl ?_
  refine la_c22 (pc := 5) hc (j) (rfl) (by omega) dX1_paceOf_5 ?_
  exact g_iret (pc := 6) hc dX1_paceOf_6 (rfl) (rfl)

theorem dX1_kindOf_0 : decode cX1_kindOf 0 = .ok (.aload_n 0, 1) := by decide +kernel
theorem dX1_kindOf_1 : decode cX1_kindOf 1 = .ok (.getfield 18, 3) := by decide +kernel
theorem dX1_kindOf_4 : decode cX1_kindOf 4 = .ok (.iload_n 1, 1) := by decide +kernel
theorem dX1_kindOf_5 : decode cX1_kindOf 5 = .ok (.iaload, 1) := by decide +kernel
theorem dX1_kindOf_6 : decode cX1_kindOf 6 = .ok (.ireturn, 1) := by decide +kernel

set_option maxHeartbeats 4000000 in
set_option maxRecDepth 100000 in
theorem c_X1_kindOf (l : Launch) (E : Ev) {A : Nat → Prop} (ad : Nat → Nat) (hA : Oka 39 ad A) (sc : Nat → Int32) (ar : Nat → Nat → Int32) (bl : Int64) (j : Nat) (hj : j < 200) : Ct l E yX1_kindOf (.code yX1_kindOf cX1_kindOf 2 (some .int)) ({ frames := 0, cells := 0, slots := 0, locals := 0 }) A (cw E ad sc ar bl) [.ref (ad 4), .int (nI j)] (some (.int ((ar 23) j))) (cw E ad sc ar bl) := by
  refine Ct.of (lv := [(0, .ref (ad 4)), (1, .int (nI j))]) (by decide +kernel) (Nat.le_of_ble_eq_true rfl) rfl ?_
  intro zp ze zs zm za zb zh zc hc
  refine g_aload_n (pc := 0) hc 0 dX1_kindOf_0 rfl rfl ?_
  refine gf_c4_kinds (pc := 1) hc tw_96 dX1_kindOf_1 ?_
  refine g_iload_n (pc := 4) hc 1 dX1_kindOf_4 rfl rfl ?_
  refine la_c23 (pc := 5) hc (j) (rfl) (by omega) dX1_kindOf_5 ?_
  exact g_iret (pc := 6) hc dX1_kindOf_6 (rfl) (rfl)

theorem dX1_numberOf_0 : decode cX1_numberOf 0 = .ok (.aload_n 0, 1) := by decide +kernel
theorem dX1_numberOf_1 : decode cX1_numberOf 1 = .ok (.getfield 21, 3) := by decide +kernel
theorem dX1_numberOf_4 : decode cX1_numberOf 4 = .ok (.iload_n 1, 1) := by decide +kernel
theorem dX1_numberOf_5 : decode cX1_numberOf 5 = .ok (.iaload, 1) := by decide +kernel
theorem dX1_numberOf_6 : decode cX1_numberOf 6 = .ok (.ireturn, 1) := by decide +kernel

set_option maxHeartbeats 4000000 in
set_option maxRecDepth 100000 in
theorem c_X1_numberOf (l : Launch) (E : Ev) {A : Nat → Prop} (ad : Nat → Nat) (hA : Oka 39 ad A) (sc : Nat → Int32) (ar : Nat → Nat → Int32) (bl : Int64) (j : Nat) (hj : j < 200) : Ct l E yX1_numberOf (.code yX1_numberOf cX1_numberOf 2 (some .int)) ({ frames := 0, cells := 0, slots := 0, locals := 0 }) A (cw E ad sc ar bl) [.ref (ad 4), .int (nI j)] (some (.int ((ar 24) j))) (cw E ad sc ar bl) := by
  refine Ct.of (lv := [(0, .ref (ad 4)), (1, .int (nI j))]) (by decide +kernel) (Nat.le_of_ble_eq_true rfl) rfl ?_
  intro zp ze zs zm za zb zh zc hc
  refine g_aload_n (pc := 0) hc 0 dX1_numberOf_0 rfl rfl ?_
  refine gf_c4_numbers (pc := 1) hc tw_97 dX1_numberOf_1 ?_
  refine g_iload_n (pc := 4) hc 1 dX1_numberOf_4 rfl rfl ?_
  refine la_c24 (pc := 5) hc (j) (rfl) (by omega) dX1_numberOf_5 ?_
  exact g_iret (pc := 6) hc dX1_numberOf_6 (rfl) (rfl)

theorem dX10_clear_0 : decode cX10_clear 0 = .ok (.aload_n 0, 1) := by decide +kernel
theorem dX10_clear_1 : decode cX10_clear 1 = .ok (.iconst 0, 1) := by decide +kernel
theorem dX10_clear_2 : decode cX10_clear 2 = .ok (.putfield 27, 3) := by decide +kernel
theorem dX10_clear_5 : decode cX10_clear 5 = .ok (.aload_n 0, 1) := by decide +kernel
theorem dX10_clear_6 : decode cX10_clear 6 = .ok (.getfield 21, 3) := by decide +kernel
theorem dX10_clear_9 : decode cX10_clear 9 = .ok (.iconst 0, 1) := by decide +kernel
theorem dX10_clear_10 : decode cX10_clear 10 = .ok (.invokestatic 31, 3) := by decide +kernel
theorem dX10_clear_13 : decode cX10_clear 13 = .ok (.aload_n 0, 1) := by decide +kernel
theorem dX10_clear_14 : decode cX10_clear 14 = .ok (.getfield 24, 3) := by decide +kernel
theorem dX10_clear_17 : decode cX10_clear 17 = .ok (.iconst 0, 1) := by decide +kernel
theorem dX10_clear_18 : decode cX10_clear 18 = .ok (.invokestatic 31, 3) := by decide +kernel
theorem dX10_clear_21 : decode cX10_clear 21 = .ok (.return_, 1) := by decide +kernel

set_option maxHeartbeats 4000000 in
set_option maxRecDepth 100000 in
theorem c_X10_clear (l : Launch) (E : Ev) {A : Nat → Prop} (ad : Nat → Nat) (hA : Oka 39 ad A) (sc : Nat → Int32) (ar : Nat → Nat → Int32) (bl : Int64)  : Ct l E yX10_clear (.code yX10_clear cX10_clear 1 none) ({ frames := 1, cells := 0, slots := 0, locals := 23 }) A (cw E ad sc ar bl) [.ref (ad 3)] (none) (cw E ad (va_up sc 5 (nI 0)) (va_up (va_up ar 19 (fil (nI 0) (ar 19) 240)) 20 (fil (nI 0) (ar 20) 1920)) bl) := by
  refine Ct.of (lv := [(0, .ref (ad 3))]) (by decide +kernel) (Nat.le_of_ble_eq_true rfl) rfl ?_
  intro zp ze zs zm za zb zh zc hc
  refine g_aload_n (pc := 0) hc 0 dX10_clear_0 rfl rfl ?_
  refine g_iconst (pc := 1) (v := nI 0) hc dX10_clear_1 (by decide) ?_
  refine pf_c3_number (pc := 2) hc hA tw_74 dX10_clear_2 ?_
  refine g_aload_n (pc := 5) hc 0 dX10_clear_5 rfl rfl ?_
  refine gf_c3_sums (pc := 6) hc tw_72 dX10_clear_6 ?_
  refine g_iconst (pc := 9) (v := nI 0) hc dX10_clear_9 (by decide) ?_
  refine g_callSv (pc := 10) (rest := []) (As := [.ref (ad 19), .int (nI 0)]) hc (c_fill19 l E ad hA (va_up sc 5 (nI 0)) ar bl (nI 0)) mi_J7_fill_53178 tw_317 rfl ⟨rfl, rfl, by decide, by decide⟩ (Nat.le_of_ble_eq_true rfl) ⟨Nat.le_refl _, Nat.le_refl _⟩ rfl dX10_clear_10 ?_
  refine g_eq (ws' := cw E ad (va_up sc 5 (nI 0)) (va_up ar 19 (fil (nI 0) (ar 19) 240)) bl) (lv' := [(0, .ref (ad 3))]) (rfl) rfl rfl ?_
  refine g_aload_n (pc := 13) hc 0 dX10_clear_13 rfl rfl ?_
  refine gf_c3_tallies (pc := 14) hc tw_73 dX10_clear_14 ?_
  refine g_iconst (pc := 17) (v := nI 0) hc dX10_clear_17 (by decide) ?_
  refine g_callSv (pc := 18) (rest := []) (As := [.ref (ad 20), .int (nI 0)]) hc (c_fill20 l E ad hA (va_up sc 5 (nI 0)) (va_up ar 19 (fil (nI 0) (ar 19) 240)) bl (nI 0)) mi_J7_fill_53178 tw_317 rfl ⟨rfl, rfl, by decide, by decide⟩ (Nat.le_of_ble_eq_true rfl) ⟨Nat.le_refl _, Nat.le_refl _⟩ rfl dX10_clear_18 ?_
  refine g_eq (ws' := cw E ad (va_up sc 5 (nI 0)) (va_up (va_up ar 19 (fil (nI 0) (ar 19) 240)) 20 (fil (nI 0) (ar 20) 1920)) bl) (lv' := [(0, .ref (ad 3))]) (rfl) rfl rfl ?_
  exact g_vret (pc := 21) hc dX10_clear_21 rfl (rfl)
