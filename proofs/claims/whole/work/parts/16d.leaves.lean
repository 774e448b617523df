theorem dX5_wereGiven_0 : decode cX5_wereGiven 0 = .ok (.aload_n 0, 1) := by decide +kernel
theorem dX5_wereGiven_1 : decode cX5_wereGiven 1 = .ok (.getfield 31, 3) := by decide +kernel
theorem dX5_wereGiven_4 : decode cX5_wereGiven 4 = .ok (.ifCond .le 7, 3) := by decide +kernel
theorem dX5_wereGiven_7 : decode cX5_wereGiven 7 = .ok (.iconst 1, 1) := by decide +kernel
theorem dX5_wereGiven_8 : decode cX5_wereGiven 8 = .ok (.goto 4, 3) := by decide +kernel
theorem dX5_wereGiven_11 : decode cX5_wereGiven 11 = .ok (.iconst 0, 1) := by decide +kernel
theorem dX5_wereGiven_12 : decode cX5_wereGiven 12 = .ok (.ireturn, 1) := by decide +kernel

set_option maxHeartbeats 4000000 in
set_option maxRecDepth 100000 in
theorem c_X5_wereGiven (l : Launch) (E : Ev) {A : Nat → Prop} (ad : Nat → Nat) (hA : Oka 39 ad A) (sc : Nat → Int32) (ar : Nat → Nat → Int32) (bl : Int64)  : Ct l E yX5_wereGiven (.code yX5_wereGiven cX5_wereGiven 1 (some .boolean)) ({ frames := 0, cells := 0, slots := 0, locals := 0 }) A (cw E ad sc ar bl) [.ref (ad 10)] (some (.int (bI (!decide (sc 16 ≤ 0))))) (cw E ad sc ar bl) := by
  refine Ct.of (lv := [(0, .ref (ad 10))]) (by decide +kernel) (Nat.le_of_ble_eq_true rfl) rfl ?_
  intro zp ze zs zm za zb zh zc hc
  refine g_aload_n (pc := 0) hc 0 dX5_wereGiven_0 rfl rfl ?_
  refine gf_c10_number (pc := 1) hc tw_152 dX5_wereGiven_1 ?_
  refine g_if_le (pc := 4) hc 11 dX5_wereGiven_4 (by decide) (fun c1 => ?_) (fun c1 => ?_)
  · refine g_iconst (pc := 11) (v := nI 0) hc dX5_wereGiven_11 (by decide) ?_
    exact g_zret (pc := 12) hc dX5_wereGiven_12 (by decide) (by simp [bI, c1] <;> rfl) (rfl)
  · refine g_iconst (pc := 7) (v := nI 1) hc dX5_wereGiven_7 (by decide) ?_
    refine g_goto (pc := 8) hc 12 dX5_wereGiven_8 (by decide) ?_
    exact g_zret (pc := 12) hc dX5_wereGiven_12 (by decide) (by simp [bI, c1] <;> rfl) (rfl)

theorem dX5_isFull_0 : decode cX5_isFull 0 = .ok (.aload_n 0, 1) := by decide +kernel
theorem dX5_isFull_1 : decode cX5_isFull 1 = .ok (.getfield 31, 3) := by decide +kernel
theorem dX5_isFull_4 : decode cX5_isFull 4 = .ok (.bipush 12, 2) := by decide +kernel
theorem dX5_isFull_6 : decode cX5_isFull 6 = .ok (.if_icmp .lt 7, 3) := by decide +kernel
theorem dX5_isFull_9 : decode cX5_isFull 9 = .ok (.iconst 1, 1) := by decide +kernel
theorem dX5_isFull_10 : decode cX5_isFull 10 = .ok (.goto 4, 3) := by decide +kernel
theorem dX5_isFull_13 : decode cX5_isFull 13 = .ok (.iconst 0, 1) := by decide +kernel
theorem dX5_isFull_14 : decode cX5_isFull 14 = .ok (.ireturn, 1) := by decide +kernel

set_option maxHeartbeats 4000000 in
set_option maxRecDepth 100000 in
theorem c_X5_isFull (l : Launch) (E : Ev) {A : Nat → Prop} (ad : Nat → Nat) (hA : Oka 39 ad A) (sc : Nat → Int32) (ar : Nat → Nat → Int32) (bl : Int64)  : Ct l E yX5_isFull (.code yX5_isFull cX5_isFull 1 (some .boolean)) ({ frames := 0, cells := 0, slots := 0, locals := 0 }) A (cw E ad sc ar bl) [.ref (ad 10)] (some (.int (bI (!decide (sc 16 < nI 12))))) (cw E ad sc ar bl) := by
  refine Ct.of (lv := [(0, .ref (ad 10))]) (by decide +kernel) (Nat.le_of_ble_eq_true rfl) rfl ?_
  intro zp ze zs zm za zb zh zc hc
  refine g_aload_n (pc := 0) hc 0 dX5_isFull_0 rfl rfl ?_
  refine gf_c10_number (pc := 1) hc tw_152 dX5_isFull_1 ?_
  refine g_bipush (pc := 4) (v := nI 12) hc dX5_isFull_4 (by decide) ?_
  refine g_icmp_lt (pc := 6) hc 13 dX5_isFull_6 (by decide) (fun c1 => ?_) (fun c1 => ?_)
  · refine g_iconst (pc := 13) (v := nI 0) hc dX5_isFull_13 (by decide) ?_
    exact g_zret (pc := 14) hc dX5_isFull_14 (by decide) (by simp [bI, c1] <;> rfl) (rfl)
  · refine g_iconst (pc := 9) (v := nI 1) hc dX5_isFull_9 (by decide) ?_
    refine g_goto (pc := 10) hc 14 dX5_isFull_10 (by decide) ?_
    exact g_zret (pc := 14) hc dX5_isFull_14 (by decide) (by simp [bI, c1] <;> rfl) (rfl)

theorem dX5_has_0 : decode cX5_has 0 = .ok (.iload_n 1, 1) := by decide +kernel
theorem dX5_has_1 : decode cX5_has 1 = .ok (.ifCond .lt 15, 3) := by decide +kernel
theorem dX5_has_4 : decode cX5_has 4 = .ok (.iload_n 1, 1) := by decide +kernel
theorem dX5_has_5 : decode cX5_has 5 = .ok (.aload_n 0, 1) := by decide +kernel
theorem dX5_has_6 : decode cX5_has 6 = .ok (.getfield 31, 3) := by decide +kernel
theorem dX5_has_9 : decode cX5_has 9 = .ok (.if_icmp .ge 7, 3) := by decide +kernel
theorem dX5_has_12 : decode cX5_has 12 = .ok (.iconst 1, 1) := by decide +kernel
theorem dX5_has_13 : decode cX5_has 13 = .ok (.goto 4, 3) := by decide +kernel
theorem dX5_has_16 : decode cX5_has 16 = .ok (.iconst 0, 1) := by decide +kernel
theorem dX5_has_17 : decode cX5_has 17 = .ok (.ireturn, 1) := by decide +kernel

set_option maxHeartbeats 4000000 in
set_option maxRecDepth 100000 in
theorem c_X5_has (l : Launch) (E : Ev) {A : Nat → Prop} (ad : Nat → Nat) (hA : Oka 39 ad A) (sc : Nat → Int32) (ar : Nat → Nat → Int32) (bl : Int64) (x : Int32) : Ct l E yX5_has (.code yX5_has cX5_has 2 (some .boolean)) ({ frames := 0, cells := 0, slots := 0, locals := 0 }) A (cw E ad sc ar bl) [.ref (ad 10), .int x] (some (.int (bI (inx x (sc 16))))) (cw E ad sc ar bl) := by
  refine Ct.of (lv := [(0, .ref (ad 10)), (1, .int x)]) (by decide +kernel) (Nat.le_of_ble_eq_true rfl) rfl ?_
  intro zp ze zs zm za zb zh zc hc
  refine g_iload_n (pc := 0) hc 1 dX5_has_0 rfl rfl ?_
  refine g_if_lt (pc := 1) hc 16 dX5_has_1 (by decide) (fun c1 => ?_) (fun c1 => ?_)
  · refine g_iconst (pc := 16) (v := nI 0) hc dX5_has_16 (by decide) ?_
    exact g_zret (pc := 17) hc dX5_has_17 (by decide) (by simp [bI, inx, c1] <;> rfl) (rfl)
  · refine g_iload_n (pc := 4) hc 1 dX5_has_4 rfl rfl ?_
    refine g_aload_n (pc := 5) hc 0 dX5_has_5 rfl rfl ?_
    refine gf_c10_number (pc := 6) hc tw_152 dX5_has_6 ?_
    refine g_icmp_ge (pc := 9) hc 16 dX5_has_9 (by decide) (fun c2 => ?_) (fun c2 => ?_)
    · refine g_iconst (pc := 16) (v := nI 0) hc dX5_has_16 (by decide) ?_
      exact g_zret (pc := 17) hc dX5_has_17 (by decide) (by simp [bI, inx, c1, c2] <;> rfl) (rfl)
    · refine g_iconst (pc := 12) (v := nI 1) hc dX5_has_12 (by decide) ?_
      refine g_goto (pc := 13) hc 17 dX5_has_13 (by decide) ?_
      exact g_zret (pc := 17) hc dX5_has_17 (by decide) (by simp [bI, inx, c1, c2] <;> rfl) (rfl)

theorem dX5_isWithdrawn_0 : decode cX5_isWithdrawn 0 = .ok (.aload_n 0, 1) := by decide +kernel
theorem dX5_isWithdrawn_1 : decode cX5_isWithdrawn 1 = .ok (.getfield 27, 3) := by decide +kernel
theorem dX5_isWithdrawn_4 : decode cX5_isWithdrawn 4 = .ok (.iload_n 1, 1) := by decide +kernel
theorem dX5_isWithdrawn_5 : decode cX5_isWithdrawn 5 = .ok (.baload, 1) := by decide +kernel
theorem dX5_isWithdrawn_6 : decode cX5_isWithdrawn 6 = .ok (.ireturn, 1) := by decide +kernel

set_option maxHeartbeats 4000000 in
set_option maxRecDepth 100000 in
theorem c_X5_isWithdrawn (l : Launch) (E : Ev) {A : Nat → Prop} (ad : Nat → Nat) (hA : Oka 39 ad A) (sc : Nat → Int32) (ar : Nat → Nat → Int32) (bl : Int64) (j : Nat) (hj : j < 12) (hz : narrow .boolean (.int (ar 36 j)) = .int (ar 36 j)) : Ct l E yX5_isWithdrawn (.code yX5_isWithdrawn cX5_isWithdrawn 2 (some .boolean)) ({ frames := 0, cells := 0, slots := 0, locals := 0 }) A (cw E ad sc ar bl) [.ref (ad 10), .int (nI j)] (some (.int ((ar 36) j))) (cw E ad sc ar bl) := by
  refine Ct.of (lv := [(0, .ref (ad 10)), (1, .int (nI j))]) (by decide +kernel) (Nat.le_of_ble_eq_true rfl) rfl ?_
  intro zp ze zs zm za zb zh zc hc
  refine g_aload_n (pc := 0) hc 0 dX5_isWithdrawn_0 rfl rfl ?_
  refine gf_c10_withdrawn (pc := 1) hc tw_151 dX5_isWithdrawn_1 ?_
  refine g_iload_n (pc := 4) hc 1 dX5_isWithdrawn_4 rfl rfl ?_
  refine la_c36 (pc := 5) hc (j) (rfl) (by omega) dX5_isWithdrawn_5 ?_
  exact g_zret (pc := 6) hc dX5_isWithdrawn_6 (hz) (rfl) (rfl)

theorem dX5_takeBack_0 : decode cX5_takeBack 0 = .ok (.aload_n 0, 1) := by decide +kernel
theorem dX5_takeBack_1 : decode cX5_takeBack 1 = .ok (.getfield 27, 3) := by decide +kernel
theorem dX5_takeBack_4 : decode cX5_takeBack 4 = .ok (.iload_n 1, 1) := by decide +kernel
theorem dX5_takeBack_5 : decode cX5_takeBack 5 = .ok (.iconst 1, 1) := by decide +kernel
theorem dX5_takeBack_6 : decode cX5_takeBack 6 = .ok (.bastore, 1) := by decide +kernel
theorem dX5_takeBack_7 : decode cX5_takeBack 7 = .ok (.return_, 1) := by decide +kernel

set_option maxHeartbeats 4000000 in
set_option maxRecDepth 100000 in
theorem c_X5_takeBack (l : Launch) (E : Ev) {A : Nat → Prop} (ad : Nat → Nat) (hA : Oka 39 ad A) (sc : Nat → Int32) (ar : Nat → Nat → Int32) (bl : Int64) (j : Nat) (hj : j < 12) : Ct l E yX5_takeBack (.code yX5_takeBack cX5_takeBack 2 none) ({ frames := 0, cells := 0, slots := 0, locals := 0 }) A (cw E ad sc ar bl) [.ref (ad 10), .int (nI j)] (none) (cw E ad sc (va_up ar 36 (upd (ar 36) j (vp_nar .boolean (nI 1)))) bl) := by
  refine Ct.of (lv := [(0, .ref (ad 10)), (1, .int (nI j))]) (by decide +kernel) (Nat.le_of_ble_eq_true rfl) rfl ?_
  intro zp ze zs zm za zb zh zc hc
  refine g_aload_n (pc := 0) hc 0 dX5_takeBack_0 rfl rfl ?_
  refine gf_c10_withdrawn (pc := 1) hc tw_151 dX5_takeBack_1 ?_
  refine g_iload_n (pc := 4) hc 1 dX5_takeBack_4 rfl rfl ?_
  refine g_iconst (pc := 5) (v := nI 1) hc dX5_takeBack_5 (by decide) ?_
  refine sa_c36 (pc := 6) hc hA (j) (rfl) (by omega) dX5_takeBack_6 ?_
  exact g_vret (pc := 7) hc dX5_takeBack_7 rfl (rfl)

theorem dX5_standing_0 : decode cX5_standing 0 = .ok (.iconst 0, 1) := by decide +kernel
theorem dX5_standing_1 : decode cX5_standing 1 = .ok (.istore_n 1, 1) := by decide +kernel
theorem dX5_standing_2 : decode cX5_standing 2 = .ok (.iconst 0, 1) := by decide +kernel
theorem dX5_standing_3 : decode cX5_standing 3 = .ok (.istore_n 2, 1) := by decide +kernel
theorem dX5_standing_4 : decode cX5_standing 4 = .ok (.iload_n 2, 1) := by decide +kernel
theorem dX5_standing_5 : decode cX5_standing 5 = .ok (.aload_n 0, 1) := by decide +kernel
theorem dX5_standing_6 : decode cX5_standing 6 = .ok (.getfield 31, 3) := by decide +kernel
theorem dX5_standing_9 : decode cX5_standing 9 = .ok (.if_icmp .ge 29, 3) := by decide +kernel
theorem dX5_standing_12 : decode cX5_standing 12 = .ok (.iload_n 1, 1) := by decide +kernel
theorem dX5_standing_13 : decode cX5_standing 13 = .ok (.aload_n 0, 1) := by decide +kernel
theorem dX5_standing_14 : decode cX5_standing 14 = .ok (.getfield 27, 3) := by decide +kernel
theorem dX5_standing_17 : decode cX5_standing 17 = .ok (.iload_n 2, 1) := by decide +kernel
theorem dX5_standing_18 : decode cX5_standing 18 = .ok (.baload, 1) := by decide +kernel
theorem dX5_standing_19 : decode cX5_standing 19 = .ok (.ifCond .ne 7, 3) := by decide +kernel
theorem dX5_standing_22 : decode cX5_standing 22 = .ok (.iconst 1, 1) := by decide +kernel
theorem dX5_standing_23 : decode cX5_standing 23 = .ok (.goto 4, 3) := by decide +kernel
theorem dX5_standing_26 : decode cX5_standing 26 = .ok (.iconst 0, 1) := by decide +kernel
theorem dX5_standing_27 : decode cX5_standing 27 = .ok (.invokestatic 52, 3) := by decide +kernel
theorem dX5_standing_30 : decode cX5_standing 30 = .ok (.iadd, 1) := by decide +kernel
theorem dX5_standing_31 : decode cX5_standing 31 = .ok (.istore_n 1, 1) := by decide +kernel
theorem dX5_standing_32 : decode cX5_standing 32 = .ok (.iinc 2 1, 3) := by decide +kernel
theorem dX5_standing_35 : decode cX5_standing 35 = .ok (.goto (-31), 3) := by decide +kernel
theorem dX5_standing_38 : decode cX5_standing 38 = .ok (.iload_n 1, 1) := by decide +kernel
theorem dX5_standing_39 : decode cX5_standing 39 = .ok (.ireturn, 1) := by decide +kernel

set_option maxHeartbeats 4000000 in
set_option maxRecDepth 100000 in
theorem c_X5_standing (l : Launch) (E : Ev) {A : Nat → Prop} (ad : Nat → Nat) (hA : Oka 39 ad A) (sc : Nat → Int32) (ar : Nat → Nat → Int32) (bl : Int64) {nL : Nat}  (hL : sc 16 = nI nL) (hL12 : nL ≤ 12) : Ct l E yX5_standing (.code yX5_standing cX5_standing 3 (some .int)) ({ frames := 1, cells := 0, slots := 0, locals := 20 }) A (cw E ad sc ar bl) [.ref (ad 10)] (some (.int (stg (ar 36) nL))) (cw E ad sc ar bl) := by
  refine Ct.of (lv := [(0, .ref (ad 10))]) (by decide +kernel) (Nat.le_of_ble_eq_true rfl) rfl ?_
  intro zp ze zs zm za zb zh zc hc
  refine g_iconst (pc := 0) (v := nI 0) hc dX5_standing_0 (by decide) ?_
  refine g_istore_n (pc := 1) (lv' := [(0, .ref (ad 10)), (1, .int (nI 0))]) hc dX5_standing_1 rfl (by decide) rfl ?_
  refine g_iconst (pc := 2) (v := nI 0) hc dX5_standing_2 (by decide) ?_
  refine g_istore_n (pc := 3) (lv' := [(0, .ref (ad 10)), (1, .int (nI 0)), (2, .int (nI 0))]) hc dX5_standing_3 rfl (by decide) rfl ?_
  have L4_1 : ∀ (ki i : Nat), i + ki = nL → G zp l ze ({ frames := 1, cells := 0, slots := 0, locals := 20 }) zs zm za zb zh zc 0 0 (MQ zb (Qz E A (some (.int (stg (ar 36) nL))) (cw E ad sc ar bl)) za zs 0 0 A) E A 3 (cw E ad sc ar bl) (4) [(0, .ref (ad 10)), (1, .int (stg (ar 36) (i))), (2, .int (nI (i)))] [] := by
    intro ki
    induction ki with
    | zero =>
      intro i lhi
      have lhin : nL = i := by omega
      subst lhin
      refine g_iload_n (pc := 4) hc 2 dX5_standing_4 rfl rfl ?_
      refine g_aload_n (pc := 5) hc 0 dX5_standing_5 rfl rfl ?_
      refine gf_c10_number (pc := 6) hc tw_152 dX5_standing_6 ?_
      refine g_topi (v := nI nL) (hL) ?_
      refine g_icmp_ge_t (pc := 9) hc 38 dX5_standing_9 (by decide) (nI_le (by omega) (by omega)) ?_
      refine g_iload_n (pc := 38) hc 1 dX5_standing_38 rfl rfl ?_
      exact g_iret (pc := 39) hc dX5_standing_39 (rfl) (rfl)
    | succ ki ihi =>
      intro i lhi
      have lhin : i < nL := by omega
      refine g_iload_n (pc := 4) hc 2 dX5_standing_4 rfl rfl ?_
      refine g_aload_n (pc := 5) hc 0 dX5_standing_5 rfl rfl ?_
      refine gf_c10_number (pc := 6) hc tw_152 dX5_standing_6 ?_
      refine g_topi (v := nI nL) (hL) ?_
      refine g_icmp_ge_f (pc := 9) hc 38 dX5_standing_9 (by decide) (nI_ge (by omega) (by omega)) ?_
      refine g_iload_n (pc := 12) hc 1 dX5_standing_12 rfl rfl ?_
      refine g_aload_n (pc := 13) hc 0 dX5_standing_13 rfl rfl ?_
      refine gf_c10_withdrawn (pc := 14) hc tw_151 dX5_standing_14 ?_
      refine g_iload_n (pc := 17) hc 2 dX5_standing_17 rfl rfl ?_
      refine la_c36 (pc := 18) hc (i) (rfl) (by omega) dX5_standing_18 ?_
      refine g_if_ne (pc := 19) hc 26 dX5_standing_19 (by decide) (fun c2 => ?_) (fun c2 => ?_)
      · refine g_iconst (pc := 26) (v := nI 0) hc dX5_standing_26 (by decide) ?_
        refine g_callSNi (pc := 27) (rest := [.int (stg (ar 36) (i))]) (As := [.int (nI 0)]) hc (c_X11_toInt l E ad hA sc ar bl (nI 0)) mi_X11_toInt tn_984 rfl ⟨rfl, rfl, by decide, by decide⟩ (Nat.le_of_ble_eq_true rfl) ⟨Nat.le_refl _, Nat.le_refl _⟩ rfl dX5_standing_27 ?_
        refine g_topi (v := nI 0) (toI_0) ?_
        refine g_iadd (pc := 30) hc dX5_standing_30 ?_
        refine g_istore_n (pc := 31) (lv' := [(0, .ref (ad 10)), (1, .int ((stg (ar 36) (i)) + (nI 0))), (2, .int (nI (i)))]) hc dX5_standing_31 rfl (by decide) rfl ?_
        refine g_iinc (pc := 32) (v := nI (i + 1)) (lv' := [(0, .ref (ad 10)), (1, .int ((stg (ar 36) (i)) + (nI 0))), (2, .int (nI (i + 1)))]) hc 2 dX5_standing_32 rfl (nI_ofi i 1) (by decide) rfl ?_
        refine g_goto (pc := 35) hc 4 dX5_standing_35 (by decide) ?_
        exact g_eq (ws' := cw E ad sc ar bl) (lv' := [(0, .ref (ad 10)), (1, .int (stg (ar 36) (i + 1))), (2, .int (nI (i + 1)))]) (rfl) (by rw [stg_succ]; repeat (first | rw [if_pos c2] | rw [if_neg c2] | rw [if_neg (ne_true_of_eq_false c2)])) rfl (ihi (i + 1) (by omega))
      · refine g_iconst (pc := 22) (v := nI 1) hc dX5_standing_22 (by decide) ?_
        refine g_goto (pc := 23) hc 27 dX5_standing_23 (by decide) ?_
        refine g_callSNi (pc := 27) (rest := [.int (stg (ar 36) (i))]) (As := [.int (nI 1)]) hc (c_X11_toInt l E ad hA sc ar bl (nI 1)) mi_X11_toInt tn_984 rfl ⟨rfl, rfl, by decide, by decide⟩ (Nat.le_of_ble_eq_true rfl) ⟨Nat.le_refl _, Nat.le_refl _⟩ rfl dX5_standing_27 ?_
        refine g_topi (v := nI 1) (toI_1) ?_
        refine g_iadd (pc := 30) hc dX5_standing_30 ?_
        refine g_istore_n (pc := 31) (lv' := [(0, .ref (ad 10)), (1, .int ((stg (ar 36) (i)) + (nI 1))), (2, .int (nI (i)))]) hc dX5_standing_31 rfl (by decide) rfl ?_
        refine g_iinc (pc := 32) (v := nI (i + 1)) (lv' := [(0, .ref (ad 10)), (1, .int ((stg (ar 36) (i)) + (nI 1))), (2, .int (nI (i + 1)))]) hc 2 dX5_standing_32 rfl (nI_ofi i 1) (by decide) rfl ?_
        refine g_goto (pc := 35) hc 4 dX5_standing_35 (by decide) ?_
        exact g_eq (ws' := cw E ad sc ar bl) (lv' := [(0, .ref (ad 10)), (1, .int (stg (ar 36) (i + 1))), (2, .int (nI (i + 1)))]) (rfl) (by rw [stg_succ]; repeat (first | rw [if_pos c2] | rw [if_neg c2] | rw [if_neg (ne_true_of_eq_false c2)])) rfl (ihi (i + 1) (by omega))
  exact g_eq (ws' := cw E ad sc ar bl) (lv' := [(0, .ref (ad 10)), (1, .int (stg (ar 36) (0))), (2, .int (nI (0)))]) (rfl) (rfl) rfl (L4_1 (nL - 0) (0) (by omega))

theorem dX5_covers_0 : decode cX5_covers 0 = .ok (.iload_n 2, 1) := by decide +kernel
theorem dX5_covers_1 : decode cX5_covers 1 = .ok (.aload_n 0, 1) := by decide +kernel
theorem dX5_covers_2 : decode cX5_covers 2 = .ok (.getfield 11, 3) := by decide +kernel
theorem dX5_covers_5 : decode cX5_covers 5 = .ok (.iload_n 1, 1) := by decide +kernel
theorem dX5_covers_6 : decode cX5_covers 6 = .ok (.iaload, 1) := by decide +kernel
theorem dX5_covers_7 : decode cX5_covers 7 = .ok (.aload_n 0, 1) := by decide +kernel
theorem dX5_covers_8 : decode cX5_covers 8 = .ok (.getfield 15, 3) := by decide +kernel
theorem dX5_covers_11 : decode cX5_covers 11 = .ok (.iload_n 1, 1) := by decide +kernel
theorem dX5_covers_12 : decode cX5_covers 12 = .ok (.iaload, 1) := by decide +kernel
theorem dX5_covers_13 : decode cX5_covers 13 = .ok (.invokestatic 60, 3) := by decide +kernel
theorem dX5_covers_16 : decode cX5_covers 16 = .ok (.ifCond .eq 26, 3) := by decide +kernel
theorem dX5_covers_19 : decode cX5_covers 19 = .ok (.iload_n 3, 1) := by decide +kernel
theorem dX5_covers_20 : decode cX5_covers 20 = .ok (.aload_n 0, 1) := by decide +kernel
theorem dX5_covers_21 : decode cX5_covers 21 = .ok (.getfield 18, 3) := by decide +kernel
theorem dX5_covers_24 : decode cX5_covers 24 = .ok (.iload_n 1, 1) := by decide +kernel
theorem dX5_covers_25 : decode cX5_covers 25 = .ok (.iaload, 1) := by decide +kernel
theorem dX5_covers_26 : decode cX5_covers 26 = .ok (.aload_n 0, 1) := by decide +kernel
theorem dX5_covers_27 : decode cX5_covers 27 = .ok (.getfield 21, 3) := by decide +kernel
theorem dX5_covers_30 : decode cX5_covers 30 = .ok (.iload_n 1, 1) := by decide +kernel
theorem dX5_covers_31 : decode cX5_covers 31 = .ok (.iaload, 1) := by decide +kernel
theorem dX5_covers_32 : decode cX5_covers 32 = .ok (.invokestatic 60, 3) := by decide +kernel
theorem dX5_covers_35 : decode cX5_covers 35 = .ok (.ifCond .eq 7, 3) := by decide +kernel
theorem dX5_covers_38 : decode cX5_covers 38 = .ok (.iconst 1, 1) := by decide +kernel
theorem dX5_covers_39 : decode cX5_covers 39 = .ok (.goto 4, 3) := by decide +kernel
theorem dX5_covers_42 : decode cX5_covers 42 = .ok (.iconst 0, 1) := by decide +kernel
theorem dX5_covers_43 : decode cX5_covers 43 = .ok (.ireturn, 1) := by decide +kernel

set_option maxHeartbeats 4000000 in
set_option maxRecDepth 100000 in
theorem c_X5_covers (l : Launch) (E : Ev) {A : Nat → Prop} (ad : Nat → Nat) (hA : Oka 39 ad A) (sc : Nat → Int32) (ar : Nat → Nat → Int32) (bl : Int64) (l0 : Nat) (x : Int32) (y : Int32) (hl0 : l0 < 12) : Ct l E yX5_covers (.code yX5_covers cX5_covers 4 (some .boolean)) ({ frames := 1, cells := 0, slots := 0, locals := 22 }) A (cw E ad sc ar bl) [.ref (ad 10), .int (nI l0), .int x, .int y] (some (.int (bI (cov (ar 31) (ar 32) (ar 33) (ar 34) l0 x y)))) (cw E ad sc ar bl) := by
  refine Ct.of (lv := [(0, .ref (ad 10)), (1, .int (nI l0)), (2, .int x), (3, .int y)]) (by decide +kernel) (Nat.le_of_ble_eq_true rfl) rfl ?_
  intro zp ze zs zm za zb zh zc hc
  refine g_iload_n (pc := 0) hc 2 dX5_covers_0 rfl rfl ?_
  refine g_aload_n (pc := 1) hc 0 dX5_covers_1 rfl rfl ?_
  refine gf_c10_firstRows (pc := 2) hc tw_146 dX5_covers_2 ?_
  refine g_iload_n (pc := 5) hc 1 dX5_covers_5 rfl rfl ?_
  refine la_c31 (pc := 6) hc (l0) (rfl) (by omega) dX5_covers_6 ?_
  refine g_aload_n (pc := 7) hc 0 dX5_covers_7 rfl rfl ?_
  refine gf_c10_lastRows (pc := 8) hc tw_147 dX5_covers_8 ?_
  refine g_iload_n (pc := 11) hc 1 dX5_covers_11 rfl rfl ?_
  refine la_c32 (pc := 12) hc (l0) (rfl) (by omega) dX5_covers_12 ?_
  refine g_callSNi (pc := 13) (rest := []) (As := [.int x, .int ((ar 31) l0), .int ((ar 32) l0)]) hc (c_X11_within l E ad hA sc ar bl x ((ar 31) l0) ((ar 32) l0)) mi_X11_within tn_377 rfl ⟨rfl, rfl, by decide, by decide⟩ (Nat.le_of_ble_eq_true rfl) ⟨Nat.le_refl _, Nat.le_refl _⟩ rfl dX5_covers_13 ?_
  refine g_if_eq_b (pc := 16) hc 42 dX5_covers_16 (by decide) (fun c1 => ?_) (fun c1 => ?_)
  · refine g_iconst (pc := 42) (v := nI 0) hc dX5_covers_42 (by decide) ?_
    exact g_zret (pc := 43) hc dX5_covers_43 (by decide) (by unfold cov; repeat (first | rw [if_pos c1] | rw [if_neg c1] | rw [if_neg (ne_true_of_eq_false c1)]); try rfl) (rfl)
  · refine g_iload_n (pc := 19) hc 3 dX5_covers_19 rfl rfl ?_
    refine g_aload_n (pc := 20) hc 0 dX5_covers_20 rfl rfl ?_
    refine gf_c10_firstDays (pc := 21) hc tw_148 dX5_covers_21 ?_
    refine g_iload_n (pc := 24) hc 1 dX5_covers_24 rfl rfl ?_
    refine la_c33 (pc := 25) hc (l0) (rfl) (by omega) dX5_covers_25 ?_
    refine g_aload_n (pc := 26) hc 0 dX5_covers_26 rfl rfl ?_
    refine gf_c10_lastDays (pc := 27) hc tw_149 dX5_covers_27 ?_
    refine g_iload_n (pc := 30) hc 1 dX5_covers_30 rfl rfl ?_
    refine la_c34 (pc := 31) hc (l0) (rfl) (by omega) dX5_covers_31 ?_
    refine g_callSNi (pc := 32) (rest := []) (As := [.int y, .int ((ar 33) l0), .int ((ar 34) l0)]) hc (c_X11_within l E ad hA sc ar bl y ((ar 33) l0) ((ar 34) l0)) mi_X11_within tn_377 rfl ⟨rfl, rfl, by decide, by decide⟩ (Nat.le_of_ble_eq_true rfl) ⟨Nat.le_refl _, Nat.le_refl _⟩ rfl dX5_covers_32 ?_
    refine g_if_eq_b (pc := 35) hc 42 dX5_covers_35 (by decide) (fun c2 => ?_) (fun c2 => ?_)
    · refine g_iconst (pc := 42) (v := nI 0) hc dX5_covers_42 (by decide) ?_
      exact g_zret (pc := 43) hc dX5_covers_43 (by decide) (by unfold cov; repeat (first | rw [if_pos c1] | rw [if_neg c1] | rw [if_neg (ne_true_of_eq_false c1)] | rw [if_pos c2] | rw [if_neg c2] | rw [if_neg (ne_true_of_eq_false c2)]); try rfl) (rfl)
    · refine g_iconst (pc := 38) (v := nI 1) hc dX5_covers_38 (by decide) ?_
      refine g_goto (pc := 39) hc 43 dX5_covers_39 (by decide) ?_
      exact g_zret (pc := 43) hc dX5_covers_43 (by decide) (by unfold cov; repeat (first | rw [if_pos c1] | rw [if_neg c1] | rw [if_neg (ne_true_of_eq_false c1)] | rw [if_pos c2] | rw [if_neg c2] | rw [if_neg (ne_true_of_eq_false c2)]); try rfl) (rfl)

theorem dX5_firstLetting_0 : decode cX5_firstLetting 0 = .ok (.iconst 0, 1) := by decide +kernel
theorem dX5_firstLetting_1 : decode cX5_firstLetting 1 = .ok (.istore 4, 2) := by decide +kernel
theorem dX5_firstLetting_3 : decode cX5_firstLetting 3 = .ok (.iload 4, 2) := by decide +kernel
theorem dX5_firstLetting_5 : decode cX5_firstLetting 5 = .ok (.aload_n 0, 1) := by decide +kernel
theorem dX5_firstLetting_6 : decode cX5_firstLetting 6 = .ok (.getfield 31, 3) := by decide +kernel
theorem dX5_firstLetting_9 : decode cX5_firstLetting 9 = .ok (.if_icmp .ge 47, 3) := by decide +kernel
theorem dX5_firstLetting_12 : decode cX5_firstLetting 12 = .ok (.aload_n 0, 1) := by decide +kernel
theorem dX5_firstLetting_13 : decode cX5_firstLetting 13 = .ok (.getfield 27, 3) := by decide +kernel
theorem dX5_firstLetting_16 : decode cX5_firstLetting 16 = .ok (.iload 4, 2) := by decide +kernel
theorem dX5_firstLetting_18 : decode cX5_firstLetting 18 = .ok (.baload, 1) := by decide +kernel
theorem dX5_firstLetting_19 : decode cX5_firstLetting 19 = .ok (.ifCond .ne 31, 3) := by decide +kernel
theorem dX5_firstLetting_22 : decode cX5_firstLetting 22 = .ok (.aload_n 0, 1) := by decide +kernel
theorem dX5_firstLetting_23 : decode cX5_firstLetting 23 = .ok (.iload 4, 2) := by decide +kernel
theorem dX5_firstLetting_25 : decode cX5_firstLetting 25 = .ok (.iload_n 2, 1) := by decide +kernel
theorem dX5_firstLetting_26 : decode cX5_firstLetting 26 = .ok (.iload_n 3, 1) := by decide +kernel
theorem dX5_firstLetting_27 : decode cX5_firstLetting 27 = .ok (.invokevirtual 56, 3) := by decide +kernel
theorem dX5_firstLetting_30 : decode cX5_firstLetting 30 = .ok (.ifCond .eq 20, 3) := by decide +kernel
theorem dX5_firstLetting_33 : decode cX5_firstLetting 33 = .ok (.aload_n 0, 1) := by decide +kernel
theorem dX5_firstLetting_34 : decode cX5_firstLetting 34 = .ok (.getfield 24, 3) := by decide +kernel
theorem dX5_firstLetting_37 : decode cX5_firstLetting 37 = .ok (.iload 4, 2) := by decide +kernel
theorem dX5_firstLetting_39 : decode cX5_firstLetting 39 = .ok (.iaload, 1) := by decide +kernel
theorem dX5_firstLetting_40 : decode cX5_firstLetting 40 = .ok (.iload_n 1, 1) := by decide +kernel
theorem dX5_firstLetting_41 : decode cX5_firstLetting 41 = .ok (.ishr, 1) := by decide +kernel
theorem dX5_firstLetting_42 : decode cX5_firstLetting 42 = .ok (.iconst 1, 1) := by decide +kernel
theorem dX5_firstLetting_43 : decode cX5_firstLetting 43 = .ok (.iand, 1) := by decide +kernel
theorem dX5_firstLetting_44 : decode cX5_firstLetting 44 = .ok (.ifCond .ne 6, 3) := by decide +kernel
theorem dX5_firstLetting_47 : decode cX5_firstLetting 47 = .ok (.iload 4, 2) := by decide +kernel
theorem dX5_firstLetting_49 : decode cX5_firstLetting 49 = .ok (.ireturn, 1) := by decide +kernel
theorem dX5_firstLetting_50 : decode cX5_firstLetting 50 = .ok (.iinc 4 1, 3) := by decide +kernel
theorem dX5_firstLetting_53 : decode cX5_firstLetting 53 = .ok (.goto (-50), 3) := by decide +kernel
theorem dX5_firstLetting_56 : decode cX5_firstLetting 56 = .ok (.iconst (-1), 1) := by decide +kernel
theorem dX5_firstLetting_57 : decode cX5_firstLetting 57 = .ok (.ireturn, 1) := by decide +kernel

set_option maxHeartbeats 4000000 in
set_option maxRecDepth 100000 in
theorem c_X5_firstLetting (l : Launch) (E : Ev) {A : Nat → Prop} (ad : Nat → Nat) (hA : Oka 39 ad A) (sc : Nat → Int32) (ar : Nat → Nat → Int32) (bl : Int64) {nL : Nat} (x : Int32) (y : Int32) (z : Int32) (hL : sc 16 = nI nL) (hL12 : nL ≤ 12) : Ct l E yX5_firstLetting (.code yX5_firstLetting cX5_firstLetting 5 (some .int)) ({ frames := 2, cells := 0, slots := 0, locals := 45 }) A (cw E ad sc ar bl) [.ref (ad 10), .int x, .int y, .int z] (some (.int (fstL (lok (ar 31) (ar 32) (ar 33) (ar 34) (ar 35) (ar 36) x y z) nL))) (cw E ad sc ar bl) := by
  refine Ct.of (lv := [(0, .ref (ad 10)), (1, .int x), (2, .int y), (3, .int z)]) (by decide +kernel) (Nat.le_of_ble_eq_true rfl) rfl ?_
  intro zp ze zs zm za zb zh zc hc
  refine g_iconst (pc := 0) (v := nI 0) hc dX5_firstLetting_0 (by decide) ?_
  refine g_istore (pc := 1) (lv' := [(0, .ref (ad 10)), (1, .int x), (2, .int y), (3, .int z), (4, .int (nI 0))]) hc dX5_firstLetting_1 (by decide) rfl ?_
  have L3_1 : ∀ (ki i : Nat), i + ki = nL → (hno : ∀ k, k < i → lok (ar 31) (ar 32) (ar 33) (ar 34) (ar 35) (ar 36) x y z k = false) → G zp l ze ({ frames := 2, cells := 0, slots := 0, locals := 45 }) zs zm za zb zh zc 0 0 (MQ zb (Qz E A (some (.int (fstL (lok (ar 31) (ar 32) (ar 33) (ar 34) (ar 35) (ar 36) x y z) nL))) (cw E ad sc ar bl)) za zs 0 0 A) E A 5 (cw E ad sc ar bl) (3) [(0, .ref (ad 10)), (1, .int x), (2, .int y), (3, .int z), (4, .int (nI (i)))] [] := by
    intro ki
    induction ki with
    | zero =>
      intro i lhi hno
      have lhin : nL = i := by omega
      subst lhin
      refine g_iload (pc := 3) hc 4 dX5_firstLetting_3 rfl ?_
      refine g_aload_n (pc := 5) hc 0 dX5_firstLetting_5 rfl rfl ?_
      refine gf_c10_number (pc := 6) hc tw_152 dX5_firstLetting_6 ?_
      refine g_topi (v := nI nL) (hL) ?_
      refine g_icmp_ge_t (pc := 9) hc 56 dX5_firstLetting_9 (by decide) (nI_le (by omega) (by omega)) ?_
      refine g_iconst (pc := 56) (v := (-1)) hc dX5_firstLetting_56 (by decide) ?_
      exact g_iret (pc := 57) hc dX5_firstLetting_57 (by rw [fstL_none hno]) (rfl)
    | succ ki ihi =>
      intro i lhi hno
      have lhin : i < nL := by omega
      refine g_iload (pc := 3) hc 4 dX5_firstLetting_3 rfl ?_
      refine g_aload_n (pc := 5) hc 0 dX5_firstLetting_5 rfl rfl ?_
      refine gf_c10_number (pc := 6) hc tw_152 dX5_firstLetting_6 ?_
      refine g_topi (v := nI nL) (hL) ?_
      refine g_icmp_ge_f (pc := 9) hc 56 dX5_firstLetting_9 (by decide) (nI_ge (by omega) (by omega)) ?_
      refine g_aload_n (pc := 12) hc 0 dX5_firstLetting_12 rfl rfl ?_
      refine gf_c10_withdrawn (pc := 13) hc tw_151 dX5_firstLetting_13 ?_
      refine g_iload (pc := 16) hc 4 dX5_firstLetting_16 rfl ?_
      refine la_c36 (pc := 18) hc (i) (rfl) (by omega) dX5_firstLetting_18 ?_
      refine g_if_ne (pc := 19) hc 50 dX5_firstLetting_19 (by decide) (fun c2 => ?_) (fun c2 => ?_)
      · refine g_iinc (pc := 50) (v := nI (i + 1)) (lv' := [(0, .ref (ad 10)), (1, .int x), (2, .int y), (3, .int z), (4, .int (nI (i + 1)))]) hc 4 dX5_firstLetting_50 rfl (nI_ofi i 1) (by decide) rfl ?_
        refine g_goto (pc := 53) hc 3 dX5_firstLetting_53 (by decide) ?_
        exact g_eq (ws' := cw E ad sc ar bl) (lv' := [(0, .ref (ad 10)), (1, .int x), (2, .int y), (3, .int z), (4, .int (nI (i + 1)))]) (rfl) (rfl) rfl (ihi (i + 1) (by omega) (lt_s hno (by unfold lok; repeat (first | rw [if_pos c2] | rw [if_neg c2] | rw [if_neg (ne_true_of_eq_false c2)]))))
      · refine g_aload_n (pc := 22) hc 0 dX5_firstLetting_22 rfl rfl ?_
        refine g_iload (pc := 23) hc 4 dX5_firstLetting_23 rfl ?_
        refine g_iload_n (pc := 25) hc 2 dX5_firstLetting_25 rfl rfl ?_
        refine g_iload_n (pc := 26) hc 3 dX5_firstLetting_26 rfl rfl ?_
        refine g_callVi (pc := 27) (rest := []) (As := [.int (nI (i)), .int y, .int z]) hc (c_X5_covers l E ad hA sc ar bl i y z (by omega)) mi_X5_covers tw_373 10 rfl rfl rfl rfl ⟨rfl, rfl, by decide, by decide⟩ (Nat.le_of_ble_eq_true rfl) ⟨Nat.le_refl _, Nat.le_refl _⟩ rfl dX5_firstLetting_27 ?_
        refine g_if_eq_b (pc := 30) hc 50 dX5_firstLetting_30 (by decide) (fun c3 => ?_) (fun c3 => ?_)
        · refine g_iinc (pc := 50) (v := nI (i + 1)) (lv' := [(0, .ref (ad 10)), (1, .int x), (2, .int y), (3, .int z), (4, .int (nI (i + 1)))]) hc 4 dX5_firstLetting_50 rfl (nI_ofi i 1) (by decide) rfl ?_
          refine g_goto (pc := 53) hc 3 dX5_firstLetting_53 (by decide) ?_
          exact g_eq (ws' := cw E ad sc ar bl) (lv' := [(0, .ref (ad 10)), (1, .int x), (2, .int y), (3, .int z), (4, .int (nI (i + 1)))]) (rfl) (rfl) rfl (ihi (i + 1) (by omega) (lt_s hno (by unfold lok; repeat (first | rw [if_pos c2] | rw [if_neg c2] | rw [if_neg (ne_true_of_eq_false c2)] | rw [if_pos c3] | rw [if_neg c3] | rw [if_neg (ne_true_of_eq_false c3)]))))
        · refine g_aload_n (pc := 33) hc 0 dX5_firstLetting_33 rfl rfl ?_
          refine gf_c10_barred (pc := 34) hc tw_150 dX5_firstLetting_34 ?_
          refine g_iload (pc := 37) hc 4 dX5_firstLetting_37 rfl ?_
          refine la_c35 (pc := 39) hc (i) (rfl) (by omega) dX5_firstLetting_39 ?_
          refine g_iload_n (pc := 40) hc 1 dX5_firstLetting_40 rfl rfl ?_
          refine g_ishr (pc := 41) hc dX5_firstLetting_41 ?_
          refine g_iconst (pc := 42) (v := nI 1) hc dX5_firstLetting_42 (by decide) ?_
          refine g_iand (pc := 43) hc dX5_firstLetting_43 ?_
          refine g_if_ne (pc := 44) hc 50 dX5_firstLetting_44 (by decide) (fun c4 => ?_) (fun c4 => ?_)
          · refine g_iinc (pc := 50) (v := nI (i + 1)) (lv' := [(0, .ref (ad 10)), (1, .int x), (2, .int y), (3, .int z), (4, .int (nI (i + 1)))]) hc 4 dX5_firstLetting_50 rfl (nI_ofi i 1) (by decide) rfl ?_
            refine g_goto (pc := 53) hc 3 dX5_firstLetting_53 (by decide) ?_
            exact g_eq (ws' := cw E ad sc ar bl) (lv' := [(0, .ref (ad 10)), (1, .int x), (2, .int y), (3, .int z), (4, .int (nI (i + 1)))]) (rfl) (rfl) rfl (ihi (i + 1) (by omega) (lt_s hno (by unfold lok; repeat (first | rw [if_pos c2] | rw [if_neg c2] | rw [if_neg (ne_true_of_eq_false c2)] | rw [if_pos c3] | rw [if_neg c3] | rw [if_neg (ne_true_of_eq_false c3)] | rw [if_pos c4] | rw [if_neg c4] | rw [if_neg (ne_true_of_eq_false c4)]))))
          · refine g_iload (pc := 47) hc 4 dX5_firstLetting_47 rfl ?_
            exact g_iret (pc := 49) hc dX5_firstLetting_49 (by rw [fstL_some hno (by unfold lok; repeat (first | rw [if_pos c2] | rw [if_neg c2] | rw [if_neg (ne_true_of_eq_false c2)] | rw [if_pos c3] | rw [if_neg c3] | rw [if_neg (ne_true_of_eq_false c3)] | rw [if_pos c4] | rw [if_neg c4] | rw [if_neg (ne_true_of_eq_false c4)])) (by omega) lhin]) (rfl)
  exact g_eq (ws' := cw E ad sc ar bl) (lv' := [(0, .ref (ad 10)), (1, .int x), (2, .int y), (3, .int z), (4, .int (nI (0)))]) (rfl) (rfl) rfl (L3_1 (nL - 0) (0) (by omega) (fun k hk => absurd hk (Nat.not_lt_zero k)))
