theorem dX9_length_0 : decode cX9_length 0 = .ok (.aload_n 0, 1) := by decide +kernel
theorem dX9_length_1 : decode cX9_length 1 = .ok (.getfield 13, 3) := by decide +kernel
theorem dX9_length_4 : decode cX9_length 4 = .ok (.ireturn, 1) := by decide +kernel

set_option maxHeartbeats 4000000 in
set_option maxRecDepth 100000 in
theorem c_X9_length (l : Launch) (E : Ev) {A : Nat → Prop} (ad : Nat → Nat) (hA : Oka 39 ad A) (sc : Nat → Int32) (ar : Nat → Nat → Int32) (bl : Int64)  : Ct l E yX9_length (.code yX9_length cX9_length 1 (some .int)) ({ frames := 0, cells := 0, slots := 0, locals := 0 }) A (cw E ad sc ar bl) [.ref (ad 8)] (some (.int (sc 7))) (cw E ad sc ar bl) := by
  refine Ct.of (lv := [(0, .ref (ad 8))]) (by decide +kernel) (Nat.le_of_ble_eq_true rfl) rfl ?_
  intro zp ze zs zm za zb zh zc hc
  refine g_aload_n (pc := 0) hc 0 dX9_length_0 rfl rfl ?_
  refine gf_c8_length (pc := 1) hc tw_133 dX9_length_1 ?_
  exact g_iret (pc := 4) hc dX9_length_4 (rfl) (rfl)

theorem dX9_hasRoom_0 : decode cX9_hasRoom 0 = .ok (.aload_n 0, 1) := by decide +kernel
theorem dX9_hasRoom_1 : decode cX9_hasRoom 1 = .ok (.getfield 13, 3) := by decide +kernel
theorem dX9_hasRoom_4 : decode cX9_hasRoom 4 = .ok (.bipush 12, 2) := by decide +kernel
theorem dX9_hasRoom_6 : decode cX9_hasRoom 6 = .ok (.iadd, 1) := by decide +kernel
theorem dX9_hasRoom_7 : decode cX9_hasRoom 7 = .ok (.bipush 60, 2) := by decide +kernel
theorem dX9_hasRoom_9 : decode cX9_hasRoom 9 = .ok (.if_icmp .gt 7, 3) := by decide +kernel
theorem dX9_hasRoom_12 : decode cX9_hasRoom 12 = .ok (.iconst 1, 1) := by decide +kernel
theorem dX9_hasRoom_13 : decode cX9_hasRoom 13 = .ok (.goto 4, 3) := by decide +kernel
theorem dX9_hasRoom_16 : decode cX9_hasRoom 16 = .ok (.iconst 0, 1) := by decide +kernel
theorem dX9_hasRoom_17 : decode cX9_hasRoom 17 = .ok (.ireturn, 1) := by decide +kernel

set_option maxHeartbeats 4000000 in
set_option maxRecDepth 100000 in
theorem c_X9_hasRoom (l : Launch) (E : Ev) {A : Nat → Prop} (ad : Nat → Nat) (hA : Oka 39 ad A) (sc : Nat → Int32) (ar : Nat → Nat → Int32) (bl : Int64)  : Ct l E yX9_hasRoom (.code yX9_hasRoom cX9_hasRoom 1 (some .boolean)) ({ frames := 0, cells := 0, slots := 0, locals := 0 }) A (cw E ad sc ar bl) [.ref (ad 8)] (some (.int (bI (!decide (nI 60 < (sc 7) + nI 12))))) (cw E ad sc ar bl) := by
  refine Ct.of (lv := [(0, .ref (ad 8))]) (by decide +kernel) (Nat.le_of_ble_eq_true rfl) rfl ?_
  intro zp ze zs zm za zb zh zc hc
  refine g_aload_n (pc := 0) hc 0 dX9_hasRoom_0 rfl rfl ?_
  refine gf_c8_length (pc := 1) hc tw_133 dX9_hasRoom_1 ?_
  refine g_bipush (pc := 4) (v := nI 12) hc dX9_hasRoom_4 (by decide) ?_
  refine g_iadd (pc := 6) hc dX9_hasRoom_6 ?_
  refine g_bipush (pc := 7) (v := nI 60) hc dX9_hasRoom_7 (by decide) ?_
  refine g_icmp_gt (pc := 9) hc 16 dX9_hasRoom_9 (by decide) (fun c1 => ?_) (fun c1 => ?_)
  · refine g_iconst (pc := 16) (v := nI 0) hc dX9_hasRoom_16 (by decide) ?_
    exact g_zret (pc := 17) hc dX9_hasRoom_17 (by decide) (by simp [bI, c1] <;> rfl) (rfl)
  · refine g_iconst (pc := 12) (v := nI 1) hc dX9_hasRoom_12 (by decide) ?_
    refine g_goto (pc := 13) hc 17 dX9_hasRoom_13 (by decide) ?_
    exact g_zret (pc := 17) hc dX9_hasRoom_17 (by decide) (by simp [bI, c1] <;> rfl) (rfl)

theorem dX9_keep_0 : decode cX9_keep 0 = .ok (.aload_n 0, 1) := by decide +kernel
theorem dX9_keep_1 : decode cX9_keep 1 = .ok (.iload_n 1, 1) := by decide +kernel
theorem dX9_keep_2 : decode cX9_keep 2 = .ok (.putfield 13, 3) := by decide +kernel
theorem dX9_keep_5 : decode cX9_keep 5 = .ok (.return_, 1) := by decide +kernel

set_option maxHeartbeats 4000000 in
set_option maxRecDepth 100000 in
theorem c_X9_keep (l : Launch) (E : Ev) {A : Nat → Prop} (ad : Nat → Nat) (hA : Oka 39 ad A) (sc : Nat → Int32) (ar : Nat → Nat → Int32) (bl : Int64) (x : Int32) : Ct l E yX9_keep (.code yX9_keep cX9_keep 2 none) ({ frames := 0, cells := 0, slots := 0, locals := 0 }) A (cw E ad sc ar bl) [.ref (ad 8), .int x] (none) (cw E ad (va_up sc 7 x) ar bl) := by
  refine Ct.of (lv := [(0, .ref (ad 8)), (1, .int x)]) (by decide +kernel) (Nat.le_of_ble_eq_true rfl) rfl ?_
  intro zp ze zs zm za zb zh zc hc
  refine g_aload_n (pc := 0) hc 0 dX9_keep_0 rfl rfl ?_
  refine g_iload_n (pc := 1) hc 1 dX9_keep_1 rfl rfl ?_
  refine pf_c8_length (pc := 2) hc hA tw_133 dX9_keep_2 ?_
  exact g_vret (pc := 5) hc dX9_keep_5 rfl (rfl)

theorem dX9_at_0 : decode cX9_at 0 = .ok (.aload_n 0, 1) := by decide +kernel
theorem dX9_at_1 : decode cX9_at 1 = .ok (.getfield 9, 3) := by decide +kernel
theorem dX9_at_4 : decode cX9_at 4 = .ok (.iload_n 1, 1) := by decide +kernel
theorem dX9_at_5 : decode cX9_at 5 = .ok (.baload, 1) := by decide +kernel
theorem dX9_at_6 : decode cX9_at 6 = .ok (.sipush 255, 3) := by decide +kernel
theorem dX9_at_9 : decode cX9_at 9 = .ok (.iand, 1) := by decide +kernel
theorem dX9_at_10 : decode cX9_at 10 = .ok (.ireturn, 1) := by decide +kernel

set_option maxHeartbeats 4000000 in
set_option maxRecDepth 100000 in
theorem c_X9_at (l : Launch) (E : Ev) {A : Nat → Prop} (ad : Nat → Nat) (hA : Oka 39 ad A) (sc : Nat → Int32) (ar : Nat → Nat → Int32) (bl : Int64) (j : Nat) (hj : j < 60) : Ct l E yX9_at (.code yX9_at cX9_at 2 (some .int)) ({ frames := 0, cells := 0, slots := 0, locals := 0 }) A (cw E ad sc ar bl) [.ref (ad 8), .int (nI j)] (some (.int ((ar 30) j &&& nI 255))) (cw E ad sc ar bl) := by
  refine Ct.of (lv := [(0, .ref (ad 8)), (1, .int (nI j))]) (by decide +kernel) (Nat.le_of_ble_eq_true rfl) rfl ?_
  intro zp ze zs zm za zb zh zc hc
  refine g_aload_n (pc := 0) hc 0 dX9_at_0 rfl rfl ?_
  refine gf_c8_bytes (pc := 1) hc tw_132 dX9_at_1 ?_
  refine g_iload_n (pc := 4) hc 1 dX9_at_4 rfl rfl ?_
  refine la_c30 (pc := 5) hc (j) (rfl) (by omega) dX9_at_5 ?_
  refine g_sipush (pc := 6) (v := nI 255) hc dX9_at_6 (by decide) ?_
  refine g_iand (pc := 9) hc dX9_at_9 ?_
  exact g_iret (pc := 10) hc dX9_at_10 (rfl) (rfl)

theorem dX9_add_0 : decode cX9_add 0 = .ok (.bipush 24, 2) := by decide +kernel
theorem dX9_add_2 : decode cX9_add 2 = .ok (.istore_n 2, 1) := by decide +kernel
theorem dX9_add_3 : decode cX9_add 3 = .ok (.iload_n 2, 1) := by decide +kernel
theorem dX9_add_4 : decode cX9_add 4 = .ok (.ifCond .lt 41, 3) := by decide +kernel
theorem dX9_add_7 : decode cX9_add 7 = .ok (.aload_n 0, 1) := by decide +kernel
theorem dX9_add_8 : decode cX9_add 8 = .ok (.getfield 13, 3) := by decide +kernel
theorem dX9_add_11 : decode cX9_add 11 = .ok (.bipush 60, 2) := by decide +kernel
theorem dX9_add_13 : decode cX9_add 13 = .ok (.if_icmp .ge 32, 3) := by decide +kernel
theorem dX9_add_16 : decode cX9_add 16 = .ok (.aload_n 0, 1) := by decide +kernel
theorem dX9_add_17 : decode cX9_add 17 = .ok (.getfield 9, 3) := by decide +kernel
theorem dX9_add_20 : decode cX9_add 20 = .ok (.aload_n 0, 1) := by decide +kernel
theorem dX9_add_21 : decode cX9_add 21 = .ok (.getfield 13, 3) := by decide +kernel
theorem dX9_add_24 : decode cX9_add 24 = .ok (.iload_n 1, 1) := by decide +kernel
theorem dX9_add_25 : decode cX9_add 25 = .ok (.iload_n 2, 1) := by decide +kernel
theorem dX9_add_26 : decode cX9_add 26 = .ok (.iushr, 1) := by decide +kernel
theorem dX9_add_27 : decode cX9_add 27 = .ok (.i2b, 1) := by decide +kernel
theorem dX9_add_28 : decode cX9_add 28 = .ok (.bastore, 1) := by decide +kernel
theorem dX9_add_29 : decode cX9_add 29 = .ok (.aload_n 0, 1) := by decide +kernel
theorem dX9_add_30 : decode cX9_add 30 = .ok (.dup, 1) := by decide +kernel
theorem dX9_add_31 : decode cX9_add 31 = .ok (.getfield 13, 3) := by decide +kernel
theorem dX9_add_34 : decode cX9_add 34 = .ok (.iconst 1, 1) := by decide +kernel
theorem dX9_add_35 : decode cX9_add 35 = .ok (.iadd, 1) := by decide +kernel
theorem dX9_add_36 : decode cX9_add 36 = .ok (.putfield 13, 3) := by decide +kernel
theorem dX9_add_39 : decode cX9_add 39 = .ok (.iinc 2 (-8), 3) := by decide +kernel
theorem dX9_add_42 : decode cX9_add 42 = .ok (.goto (-39), 3) := by decide +kernel
theorem dX9_add_45 : decode cX9_add 45 = .ok (.return_, 1) := by decide +kernel

set_option maxHeartbeats 4000000 in
set_option maxRecDepth 100000 in
theorem c_X9_add (l : Launch) (E : Ev) {A : Nat → Prop} (ad : Nat → Nat) (hA : Oka 39 ad A) (sc : Nat → Int32) (ar : Nat → Nat → Int32) (bl : Int64) {tL : Nat} (x : Int32) (hT : sc 7 = nI tL) (hT4 : tL + 4 ≤ 60) : Ct l E yX9_add (.code yX9_add cX9_add 3 none) ({ frames := 0, cells := 0, slots := 0, locals := 0 }) A (cw E ad sc ar bl) [.ref (ad 8), .int x] (none) (cw E ad (va_up sc 7 (nI (tL + 1 + 1 + 1 + 1))) (va_up ar 30 (tpa (ar 30) tL x)) bl) := by
  refine Ct.of (lv := [(0, .ref (ad 8)), (1, .int x)]) (by decide +kernel) (Nat.le_of_ble_eq_true rfl) rfl ?_
  intro zp ze zs zm za zb zh zc hc
  refine g_bipush (pc := 0) (v := nI 24) hc dX9_add_0 (by decide) ?_
  refine g_istore_n (pc := 2) (lv' := [(0, .ref (ad 8)), (1, .int x), (2, .int (nI 24))]) hc dX9_add_2 rfl (by decide) rfl ?_
  refine g_iload_n (pc := 3) hc 2 dX9_add_3 rfl rfl ?_
  refine g_if_lt_f (pc := 4) hc 45 dX9_add_4 (by decide) (by decide) ?_
  refine g_aload_n (pc := 7) hc 0 dX9_add_7 rfl rfl ?_
  refine gf_c8_length (pc := 8) hc tw_133 dX9_add_8 ?_
  refine g_topi (v := nI tL) (hT) ?_
  refine g_bipush (pc := 11) (v := nI 60) hc dX9_add_11 (by decide) ?_
  refine g_icmp_ge_f (pc := 13) hc 45 dX9_add_13 (by decide) (nI_ge (by omega) (by omega)) ?_
  refine g_aload_n (pc := 16) hc 0 dX9_add_16 rfl rfl ?_
  refine gf_c8_bytes (pc := 17) hc tw_132 dX9_add_17 ?_
  refine g_aload_n (pc := 20) hc 0 dX9_add_20 rfl rfl ?_
  refine gf_c8_length (pc := 21) hc tw_133 dX9_add_21 ?_
  refine g_topi (v := nI tL) (hT) ?_
  refine g_iload_n (pc := 24) hc 1 dX9_add_24 rfl rfl ?_
  refine g_iload_n (pc := 25) hc 2 dX9_add_25 rfl rfl ?_
  refine g_iushr (pc := 26) (v := ((x : Int32).toUInt32 >>> ((nI 24 : Int32).toUInt32 &&& Int32.toUInt32 31)).toInt32) hc dX9_add_26 rfl ?_
  refine g_i2b (pc := 27) (v := (((x : Int32).toUInt32 >>> ((nI 24 : Int32).toUInt32 &&& Int32.toUInt32 31)).toInt32 : Int32).toInt8.toInt32) hc dX9_add_27 rfl ?_
  refine sa_c30 (pc := 28) hc hA (tL) (rfl) (by omega) dX9_add_28 ?_
  refine g_aload_n (pc := 29) hc 0 dX9_add_29 rfl rfl ?_
  refine g_dup (pc := 30) hc dX9_add_30 rfl ?_
  refine gf_c8_length (pc := 31) hc tw_133 dX9_add_31 ?_
  refine g_topi (v := nI tL) (hT) ?_
  refine g_iconst (pc := 34) (v := nI 1) hc dX9_add_34 (by decide) ?_
  refine g_iadd (pc := 35) hc dX9_add_35 ?_
  refine g_topi (v := nI (tL + 1)) (nI_add tL 1) ?_
  refine pf_c8_length (pc := 36) hc hA tw_133 dX9_add_36 ?_
  refine g_iinc (pc := 39) (v := nI 16) (lv' := [(0, .ref (ad 8)), (1, .int x), (2, .int (nI 16))]) hc 2 dX9_add_39 rfl (by decide) (by decide) rfl ?_
  refine g_goto (pc := 42) hc 3 dX9_add_42 (by decide) ?_
  refine g_iload_n (pc := 3) hc 2 dX9_add_3 rfl rfl ?_
  refine g_if_lt_f (pc := 4) hc 45 dX9_add_4 (by decide) (by decide) ?_
  refine g_aload_n (pc := 7) hc 0 dX9_add_7 rfl rfl ?_
  refine gf_c8_length (pc := 8) hc tw_133 dX9_add_8 ?_
  refine g_topi (v := nI (tL + 1)) rfl ?_
  refine g_bipush (pc := 11) (v := nI 60) hc dX9_add_11 (by decide) ?_
  refine g_icmp_ge_f (pc := 13) hc 45 dX9_add_13 (by decide) (nI_ge (by omega) (by omega)) ?_
  refine g_aload_n (pc := 16) hc 0 dX9_add_16 rfl rfl ?_
  refine gf_c8_bytes (pc := 17) hc tw_132 dX9_add_17 ?_
  refine g_aload_n (pc := 20) hc 0 dX9_add_20 rfl rfl ?_
  refine gf_c8_length (pc := 21) hc tw_133 dX9_add_21 ?_
  refine g_topi (v := nI (tL + 1)) rfl ?_
  refine g_iload_n (pc := 24) hc 1 dX9_add_24 rfl rfl ?_
  refine g_iload_n (pc := 25) hc 2 dX9_add_25 rfl rfl ?_
  refine g_iushr (pc := 26) (v := ((x : Int32).toUInt32 >>> ((nI 16 : Int32).toUInt32 &&& Int32.toUInt32 31)).toInt32) hc dX9_add_26 rfl ?_
  refine g_i2b (pc := 27) (v := (((x : Int32).toUInt32 >>> ((nI 16 : Int32).toUInt32 &&& Int32.toUInt32 31)).toInt32 : Int32).toInt8.toInt32) hc dX9_add_27 rfl ?_
  refine sa_c30 (pc := 28) hc hA (tL + 1) (rfl) (by omega) dX9_add_28 ?_
  refine g_eq (ws' := cw E ad (va_up sc 7 (nI (tL + 1))) (va_up ar 30 (upd (upd (ar 30) tL (vp_nar .byte (((x : Int32).toUInt32 >>> ((nI 24 : Int32).toUInt32 &&& Int32.toUInt32 31)).toInt32 : Int32).toInt8.toInt32)) (tL + 1) (vp_nar .byte (((x : Int32).toUInt32 >>> ((nI 16 : Int32).toUInt32 &&& Int32.toUInt32 31)).toInt32 : Int32).toInt8.toInt32))) bl) (lv' := [(0, .ref (ad 8)), (1, .int x), (2, .int (nI 16))]) rfl rfl rfl ?_
  refine g_aload_n (pc := 29) hc 0 dX9_add_29 rfl rfl ?_
  refine g_dup (pc := 30) hc dX9_add_30 rfl ?_
  refine gf_c8_length (pc := 31) hc tw_133 dX9_add_31 ?_
  refine g_topi (v := nI (tL + 1)) rfl ?_
  refine g_iconst (pc := 34) (v := nI 1) hc dX9_add_34 (by decide) ?_
  refine g_iadd (pc := 35) hc dX9_add_35 ?_
  refine g_topi (v := nI ((tL + 1) + 1)) (nI_add (tL + 1) 1) ?_
  refine pf_c8_length (pc := 36) hc hA tw_133 dX9_add_36 ?_
  refine g_eq (ws' := cw E ad (va_up sc 7 (nI ((tL + 1) + 1))) (va_up ar 30 (upd (upd (ar 30) tL (vp_nar .byte (((x : Int32).toUInt32 >>> ((nI 24 : Int32).toUInt32 &&& Int32.toUInt32 31)).toInt32 : Int32).toInt8.toInt32)) (tL + 1) (vp_nar .byte (((x : Int32).toUInt32 >>> ((nI 16 : Int32).toUInt32 &&& Int32.toUInt32 31)).toInt32 : Int32).toInt8.toInt32))) bl) (lv' := [(0, .ref (ad 8)), (1, .int x), (2, .int (nI 16))]) rfl rfl rfl ?_
  refine g_iinc (pc := 39) (v := nI 8) (lv' := [(0, .ref (ad 8)), (1, .int x), (2, .int (nI 8))]) hc 2 dX9_add_39 rfl (by decide) (by decide) rfl ?_
  refine g_goto (pc := 42) hc 3 dX9_add_42 (by decide) ?_
  refine g_iload_n (pc := 3) hc 2 dX9_add_3 rfl rfl ?_
  refine g_if_lt_f (pc := 4) hc 45 dX9_add_4 (by decide) (by decide) ?_
  refine g_aload_n (pc := 7) hc 0 dX9_add_7 rfl rfl ?_
  refine gf_c8_length (pc := 8) hc tw_133 dX9_add_8 ?_
  refine g_topi (v := nI ((tL + 1) + 1)) rfl ?_
  refine g_bipush (pc := 11) (v := nI 60) hc dX9_add_11 (by decide) ?_
  refine g_icmp_ge_f (pc := 13) hc 45 dX9_add_13 (by decide) (nI_ge (by omega) (by omega)) ?_
  refine g_aload_n (pc := 16) hc 0 dX9_add_16 rfl rfl ?_
  refine gf_c8_bytes (pc := 17) hc tw_132 dX9_add_17 ?_
  refine g_aload_n (pc := 20) hc 0 dX9_add_20 rfl rfl ?_
  refine gf_c8_length (pc := 21) hc tw_133 dX9_add_21 ?_
  refine g_topi (v := nI ((tL + 1) + 1)) rfl ?_
  refine g_iload_n (pc := 24) hc 1 dX9_add_24 rfl rfl ?_
  refine g_iload_n (pc := 25) hc 2 dX9_add_25 rfl rfl ?_
  refine g_iushr (pc := 26) (v := ((x : Int32).toUInt32 >>> ((nI 8 : Int32).toUInt32 &&& Int32.toUInt32 31)).toInt32) hc dX9_add_26 rfl ?_
  refine g_i2b (pc := 27) (v := (((x : Int32).toUInt32 >>> ((nI 8 : Int32).toUInt32 &&& Int32.toUInt32 31)).toInt32 : Int32).toInt8.toInt32) hc dX9_add_27 rfl ?_
  refine sa_c30 (pc := 28) hc hA ((tL + 1) + 1) (rfl) (by omega) dX9_add_28 ?_
  refine g_eq (ws' := cw E ad (va_up sc 7 (nI ((tL + 1) + 1))) (va_up ar 30 (upd (upd (upd (ar 30) tL (vp_nar .byte (((x : Int32).toUInt32 >>> ((nI 24 : Int32).toUInt32 &&& Int32.toUInt32 31)).toInt32 : Int32).toInt8.toInt32)) (tL + 1) (vp_nar .byte (((x : Int32).toUInt32 >>> ((nI 16 : Int32).toUInt32 &&& Int32.toUInt32 31)).toInt32 : Int32).toInt8.toInt32)) ((tL + 1) + 1) (vp_nar .byte (((x : Int32).toUInt32 >>> ((nI 8 : Int32).toUInt32 &&& Int32.toUInt32 31)).toInt32 : Int32).toInt8.toInt32))) bl) (lv' := [(0, .ref (ad 8)), (1, .int x), (2, .int (nI 8))]) rfl rfl rfl ?_
  refine g_aload_n (pc := 29) hc 0 dX9_add_29 rfl rfl ?_
  refine g_dup (pc := 30) hc dX9_add_30 rfl ?_
  refine gf_c8_length (pc := 31) hc tw_133 dX9_add_31 ?_
  refine g_topi (v := nI ((tL + 1) + 1)) rfl ?_
  refine g_iconst (pc := 34) (v := nI 1) hc dX9_add_34 (by decide) ?_
  refine g_iadd (pc := 35) hc dX9_add_35 ?_
  refine g_topi (v := nI (((tL + 1) + 1) + 1)) (nI_add ((tL + 1) + 1) 1) ?_
  refine pf_c8_length (pc := 36) hc hA tw_133 dX9_add_36 ?_
  refine g_eq (ws' := cw E ad (va_up sc 7 (nI (((tL + 1) + 1) + 1))) (va_up ar 30 (upd (upd (upd (ar 30) tL (vp_nar .byte (((x : Int32).toUInt32 >>> ((nI 24 : Int32).toUInt32 &&& Int32.toUInt32 31)).toInt32 : Int32).toInt8.toInt32)) (tL + 1) (vp_nar .byte (((x : Int32).toUInt32 >>> ((nI 16 : Int32).toUInt32 &&& Int32.toUInt32 31)).toInt32 : Int32).toInt8.toInt32)) ((tL + 1) + 1) (vp_nar .byte (((x : Int32).toUInt32 >>> ((nI 8 : Int32).toUInt32 &&& Int32.toUInt32 31)).toInt32 : Int32).toInt8.toInt32))) bl) (lv' := [(0, .ref (ad 8)), (1, .int x), (2, .int (nI 8))]) rfl rfl rfl ?_
  refine g_iinc (pc := 39) (v := nI 0) (lv' := [(0, .ref (ad 8)), (1, .int x), (2, .int (nI 0))]) hc 2 dX9_add_39 rfl (by decide) (by decide) rfl ?_
  refine g_goto (pc := 42) hc 3 dX9_add_42 (by decide) ?_
  refine g_iload_n (pc := 3) hc 2 dX9_add_3 rfl rfl ?_
  refine g_if_lt_f (pc := 4) hc 45 dX9_add_4 (by decide) (by decide) ?_
  refine g_aload_n (pc := 7) hc 0 dX9_add_7 rfl rfl ?_
  refine gf_c8_length (pc := 8) hc tw_133 dX9_add_8 ?_
  refine g_topi (v := nI (((tL + 1) + 1) + 1)) rfl ?_
  refine g_bipush (pc := 11) (v := nI 60) hc dX9_add_11 (by decide) ?_
  refine g_icmp_ge_f (pc := 13) hc 45 dX9_add_13 (by decide) (nI_ge (by omega) (by omega)) ?_
  refine g_aload_n (pc := 16) hc 0 dX9_add_16 rfl rfl ?_
  refine gf_c8_bytes (pc := 17) hc tw_132 dX9_add_17 ?_
  refine g_aload_n (pc := 20) hc 0 dX9_add_20 rfl rfl ?_
  refine gf_c8_length (pc := 21) hc tw_133 dX9_add_21 ?_
  refine g_topi (v := nI (((tL + 1) + 1) + 1)) rfl ?_
  refine g_iload_n (pc := 24) hc 1 dX9_add_24 rfl rfl ?_
  refine g_iload_n (pc := 25) hc 2 dX9_add_25 rfl rfl ?_
  refine g_iushr (pc := 26) (v := ((x : Int32).toUInt32 >>> ((nI 0 : Int32).toUInt32 &&& Int32.toUInt32 31)).toInt32) hc dX9_add_26 rfl ?_
  refine g_i2b (pc := 27) (v := (((x : Int32).toUInt32 >>> ((nI 0 : Int32).toUInt32 &&& Int32.toUInt32 31)).toInt32 : Int32).toInt8.toInt32) hc dX9_add_27 rfl ?_
  refine sa_c30 (pc := 28) hc hA (((tL + 1) + 1) + 1) (rfl) (by omega) dX9_add_28 ?_
  refine g_eq (ws' := cw E ad (va_up sc 7 (nI (((tL + 1) + 1) + 1))) (va_up ar 30 (upd (upd (upd (upd (ar 30) tL (vp_nar .byte (((x : Int32).toUInt32 >>> ((nI 24 : Int32).toUInt32 &&& Int32.toUInt32 31)).toInt32 : Int32).toInt8.toInt32)) (tL + 1) (vp_nar .byte (((x : Int32).toUInt32 >>> ((nI 16 : Int32).toUInt32 &&& Int32.toUInt32 31)).toInt32 : Int32).toInt8.toInt32)) ((tL + 1) + 1) (vp_nar .byte (((x : Int32).toUInt32 >>> ((nI 8 : Int32).toUInt32 &&& Int32.toUInt32 31)).toInt32 : Int32).toInt8.toInt32)) (((tL + 1) + 1) + 1) (vp_nar .byte (((x : Int32).toUInt32 >>> ((nI 0 : Int32).toUInt32 &&& Int32.toUInt32 31)).toInt32 : Int32).toInt8.toInt32))) bl) (lv' := [(0, .ref (ad 8)), (1, .int x), (2, .int (nI 0))]) rfl rfl rfl ?_
  refine g_aload_n (pc := 29) hc 0 dX9_add_29 rfl rfl ?_
  refine g_dup (pc := 30) hc dX9_add_30 rfl ?_
  refine gf_c8_length (pc := 31) hc tw_133 dX9_add_31 ?_
  refine g_topi (v := nI (((tL + 1) + 1) + 1)) rfl ?_
  refine g_iconst (pc := 34) (v := nI 1) hc dX9_add_34 (by decide) ?_
  refine g_iadd (pc := 35) hc dX9_add_35 ?_
  refine g_topi (v := nI ((((tL + 1) + 1) + 1) + 1)) (nI_add (((tL + 1) + 1) + 1) 1) ?_
  refine pf_c8_length (pc := 36) hc hA tw_133 dX9_add_36 ?_
  refine g_eq (ws' := cw E ad (va_up sc 7 (nI ((((tL + 1) + 1) + 1) + 1))) (va_up ar 30 (upd (upd (upd (upd (ar 30) tL (vp_nar .byte (((x : Int32).toUInt32 >>> ((nI 24 : Int32).toUInt32 &&& Int32.toUInt32 31)).toInt32 : Int32).toInt8.toInt32)) (tL + 1) (vp_nar .byte (((x : Int32).toUInt32 >>> ((nI 16 : Int32).toUInt32 &&& Int32.toUInt32 31)).toInt32 : Int32).toInt8.toInt32)) ((tL + 1) + 1) (vp_nar .byte (((x : Int32).toUInt32 >>> ((nI 8 : Int32).toUInt32 &&& Int32.toUInt32 31)).toInt32 : Int32).toInt8.toInt32)) (((tL + 1) + 1) + 1) (vp_nar .byte (((x : Int32).toUInt32 >>> ((nI 0 : Int32).toUInt32 &&& Int32.toUInt32 31)).toInt32 : Int32).toInt8.toInt32))) bl) (lv' := [(0, .ref (ad 8)), (1, .int x), (2, .int (nI 0))]) rfl rfl rfl ?_
  refine g_iinc (pc := 39) (v := (-8)) (lv' := [(0, .ref (ad 8)), (1, .int x), (2, .int (-8))]) hc 2 dX9_add_39 rfl (by decide) (by decide) rfl ?_
  refine g_goto (pc := 42) hc 3 dX9_add_42 (by decide) ?_
  refine g_iload_n (pc := 3) hc 2 dX9_add_3 rfl rfl ?_
  refine g_if_lt_t (pc := 4) hc 45 dX9_add_4 (by decide) (by decide) ?_
  exact g_vret (pc := 45) hc dX9_add_45 rfl (rfl)
