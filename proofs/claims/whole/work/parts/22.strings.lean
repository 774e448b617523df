theorem dJ0_coder_7d493_0 : decode cJ0_coder_7d493 0 = .ok (.getstatic 38, 3) := by decide +kernel
theorem dJ0_coder_7d493_3 : decode cJ0_coder_7d493 3 = .ok (.ifCond .eq 10, 3) := by decide +kernel
theorem dJ0_coder_7d493_6 : decode cJ0_coder_7d493 6 = .ok (.aload_n 0, 1) := by decide +kernel
theorem dJ0_coder_7d493_7 : decode cJ0_coder_7d493 7 = .ok (.getfield 15, 3) := by decide +kernel
theorem dJ0_coder_7d493_10 : decode cJ0_coder_7d493 10 = .ok (.goto 4, 3) := by decide +kernel
theorem dJ0_coder_7d493_13 : decode cJ0_coder_7d493 13 = .ok (.iconst 1, 1) := by decide +kernel
theorem dJ0_coder_7d493_14 : decode cJ0_coder_7d493 14 = .ok (.ireturn, 1) := by decide +kernel

set_option maxHeartbeats 4000000 in
set_option maxRecDepth 100000 in
theorem c_J0_coder_7d493 (l : Launch) (E : Ev) {A : Nat → Prop} (ad : Nat → Nat) (hA : Oka 39 ad A) (sc : Nat → Int32) (ar : Nat → Nat → Int32) (bl : Int64) (i : Nat) (hi6 : i < 6) : Ct l E yJ0_coder_7d493 (.code yJ0_coder_7d493 cJ0_coder_7d493 1 (some .byte)) ({ frames := 0, cells := 0, slots := 0, locals := 0 }) A (cw E ad sc ar bl) [.ref (E.2.2.2 i)] (some (.int (nI 0))) (cw E ad sc ar bl) := by
  refine Ct.of (lv := [(0, .ref (E.2.2.2 i))]) (by decide +kernel) (Nat.le_of_ble_eq_true rfl) rfl ?_
  intro zp ze zs zm za zb zh zc hc
  refine g_gets (pc := 0) hc (hc.2.2.2.2.2.2.2.1) tw_796 rfl dJ0_coder_7d493_0 ?_
  refine g_if_eq_f (pc := 3) hc 13 dJ0_coder_7d493_3 (by decide) (by decide) ?_
  refine g_aload_n (pc := 6) hc 0 dJ0_coder_7d493_6 rfl rfl ?_
  refine g_scod (pc := 7) hc i hi6 tw_1386 dJ0_coder_7d493_7 ?_
  refine g_goto (pc := 10) hc 14 dJ0_coder_7d493_10 (by decide) ?_
  exact g_zret (pc := 14) hc dJ0_coder_7d493_14 (by decide) (rfl) (rfl)

theorem dJ0_isLatin1_aae02_0 : decode cJ0_isLatin1_aae02 0 = .ok (.getstatic 38, 3) := by decide +kernel
theorem dJ0_isLatin1_aae02_3 : decode cJ0_isLatin1_aae02 3 = .ok (.ifCond .eq 14, 3) := by decide +kernel
theorem dJ0_isLatin1_aae02_6 : decode cJ0_isLatin1_aae02 6 = .ok (.aload_n 0, 1) := by decide +kernel
theorem dJ0_isLatin1_aae02_7 : decode cJ0_isLatin1_aae02 7 = .ok (.getfield 15, 3) := by decide +kernel
theorem dJ0_isLatin1_aae02_10 : decode cJ0_isLatin1_aae02 10 = .ok (.ifCond .ne 7, 3) := by decide +kernel
theorem dJ0_isLatin1_aae02_13 : decode cJ0_isLatin1_aae02 13 = .ok (.iconst 1, 1) := by decide +kernel
theorem dJ0_isLatin1_aae02_14 : decode cJ0_isLatin1_aae02 14 = .ok (.goto 4, 3) := by decide +kernel
theorem dJ0_isLatin1_aae02_17 : decode cJ0_isLatin1_aae02 17 = .ok (.iconst 0, 1) := by decide +kernel
theorem dJ0_isLatin1_aae02_18 : decode cJ0_isLatin1_aae02 18 = .ok (.ireturn, 1) := by decide +kernel

set_option maxHeartbeats 4000000 in
set_option maxRecDepth 100000 in
theorem c_J0_isLatin1_aae02 (l : Launch) (E : Ev) {A : Nat → Prop} (ad : Nat → Nat) (hA : Oka 39 ad A) (sc : Nat → Int32) (ar : Nat → Nat → Int32) (bl : Int64) (i : Nat) (hi6 : i < 6) : Ct l E yJ0_isLatin1_aae02 (.code yJ0_isLatin1_aae02 cJ0_isLatin1_aae02 1 (some .boolean)) ({ frames := 0, cells := 0, slots := 0, locals := 0 }) A (cw E ad sc ar bl) [.ref (E.2.2.2 i)] (some (.int (nI 1))) (cw E ad sc ar bl) := by
  refine Ct.of (lv := [(0, .ref (E.2.2.2 i))]) (by decide +kernel) (Nat.le_of_ble_eq_true rfl) rfl ?_
  intro zp ze zs zm za zb zh zc hc
  refine g_gets (pc := 0) hc (hc.2.2.2.2.2.2.2.1) tw_796 rfl dJ0_isLatin1_aae02_0 ?_
  refine g_if_eq_f (pc := 3) hc 17 dJ0_isLatin1_aae02_3 (by decide) (by decide) ?_
  refine g_aload_n (pc := 6) hc 0 dJ0_isLatin1_aae02_6 rfl rfl ?_
  refine g_scod (pc := 7) hc i hi6 tw_1386 dJ0_isLatin1_aae02_7 ?_
  refine g_if_ne_f (pc := 10) hc 17 dJ0_isLatin1_aae02_10 (by decide) (rfl) ?_
  refine g_iconst (pc := 13) (v := nI 1) hc dJ0_isLatin1_aae02_13 (by decide) ?_
  refine g_goto (pc := 14) hc 18 dJ0_isLatin1_aae02_14 (by decide) ?_
  exact g_zret (pc := 18) hc dJ0_isLatin1_aae02_18 (by decide) (rfl) (rfl)

theorem dJ0_length_8abf5_0 : decode cJ0_length_8abf5 0 = .ok (.aload_n 0, 1) := by decide +kernel
theorem dJ0_length_8abf5_1 : decode cJ0_length_8abf5 1 = .ok (.getfield 9, 3) := by decide +kernel
theorem dJ0_length_8abf5_4 : decode cJ0_length_8abf5 4 = .ok (.arraylength, 1) := by decide +kernel
theorem dJ0_length_8abf5_5 : decode cJ0_length_8abf5 5 = .ok (.aload_n 0, 1) := by decide +kernel
theorem dJ0_length_8abf5_6 : decode cJ0_length_8abf5 6 = .ok (.invokevirtual 335, 3) := by decide +kernel
theorem dJ0_length_8abf5_9 : decode cJ0_length_8abf5 9 = .ok (.ishr, 1) := by decide +kernel
theorem dJ0_length_8abf5_10 : decode cJ0_length_8abf5 10 = .ok (.ireturn, 1) := by decide +kernel

set_option maxHeartbeats 4000000 in
set_option maxRecDepth 100000 in
theorem c_J0_length_8abf5 (l : Launch) (E : Ev) {A : Nat → Prop} (ad : Nat → Nat) (hA : Oka 39 ad A) (sc : Nat → Int32) (ar : Nat → Nat → Int32) (bl : Int64) (i : Nat) (hi6 : i < 6) : Ct l E yJ0_length_8abf5 (.code yJ0_length_8abf5 cJ0_length_8abf5 1 (some .int)) ({ frames := 1, cells := 0, slots := 0, locals := 20 }) A (cw E ad sc ar bl) [.ref (E.2.2.2 i)] (some (.int (nI (lenS.getD i 0)))) (cw E ad sc ar bl) := by
  refine Ct.of (lv := [(0, .ref (E.2.2.2 i))]) (by decide +kernel) (Nat.le_of_ble_eq_true rfl) rfl ?_
  intro zp ze zs zm za zb zh zc hc
  refine g_aload_n (pc := 0) hc 0 dJ0_length_8abf5_0 rfl rfl ?_
  refine g_sval (pc := 1) hc i hi6 tw_1385 dJ0_length_8abf5_1 ?_
  refine g_slen (pc := 4) hc i hi6 dJ0_length_8abf5_4 ?_
  refine g_aload_n (pc := 5) hc 0 dJ0_length_8abf5_5 rfl rfl ?_
  refine g_callKi (pc := 6) (rest := [.int (nI (lenS.getD i 0))]) (As := []) hc (c_J0_coder_7d493 l E ad hA sc ar bl i hi6) hi6 mi_J0_coder_7d493 tw_792 rfl rfl ⟨rfl, rfl, by decide, by decide⟩ (Nat.le_of_ble_eq_true rfl) ⟨Nat.le_refl _, Nat.le_refl _⟩ rfl dJ0_length_8abf5_6 ?_
  refine g_ishr (pc := 9) hc dJ0_length_8abf5_9 ?_
  refine g_topi (v := nI (lenS.getD i 0)) (sb_shr0 _) ?_
  exact g_iret (pc := 10) hc dJ0_length_8abf5_10 (rfl) (rfl)

theorem dJ3_checkIndex_8e157_0 : decode cJ3_checkIndex_8e157 0 = .ok (.iload_n 0, 1) := by decide +kernel
theorem dJ3_checkIndex_8e157_1 : decode cJ3_checkIndex_8e157 1 = .ok (.ifCond .lt 8, 3) := by decide +kernel
theorem dJ3_checkIndex_8e157_4 : decode cJ3_checkIndex_8e157 4 = .ok (.iload_n 0, 1) := by decide +kernel
theorem dJ3_checkIndex_8e157_5 : decode cJ3_checkIndex_8e157 5 = .ok (.iload_n 1, 1) := by decide +kernel
theorem dJ3_checkIndex_8e157_6 : decode cJ3_checkIndex_8e157 6 = .ok (.if_icmp .lt 10, 3) := by decide +kernel
theorem dJ3_checkIndex_8e157_9 : decode cJ3_checkIndex_8e157 9 = .ok (.aload_n 2, 1) := by decide +kernel
theorem dJ3_checkIndex_8e157_10 : decode cJ3_checkIndex_8e157 10 = .ok (.iload_n 0, 1) := by decide +kernel
theorem dJ3_checkIndex_8e157_11 : decode cJ3_checkIndex_8e157 11 = .ok (.iload_n 1, 1) := by decide +kernel
theorem dJ3_checkIndex_8e157_12 : decode cJ3_checkIndex_8e157 12 = .ok (.invokestatic 95, 3) := by decide +kernel
theorem dJ3_checkIndex_8e157_15 : decode cJ3_checkIndex_8e157 15 = .ok (.athrow, 1) := by decide +kernel
theorem dJ3_checkIndex_8e157_16 : decode cJ3_checkIndex_8e157 16 = .ok (.iload_n 0, 1) := by decide +kernel
theorem dJ3_checkIndex_8e157_17 : decode cJ3_checkIndex_8e157 17 = .ok (.ireturn, 1) := by decide +kernel

set_option maxHeartbeats 4000000 in
set_option maxRecDepth 100000 in
theorem c_J3_ck_n (l : Launch) (E : Ev) {A : Nat → Prop} (ad : Nat → Nat) (hA : Oka 39 ad A) (sc : Nat → Int32) (ar : Nat → Nat → Int32) (bl : Int64) (j n : Nat)  (hj : j < n) (hn31 : n < 2 ^ 31) : Ct l E yJ3_checkIndex_8e157 (.code yJ3_checkIndex_8e157 cJ3_checkIndex_8e157 3 (some .int)) ({ frames := 0, cells := 0, slots := 0, locals := 0 }) A (cw E ad sc ar bl) [.int (nI j), .int (nI n), .null] (some (.int (nI j))) (cw E ad sc ar bl) := by
  refine Ct.of (lv := [(0, .int (nI j)), (1, .int (nI n)), (2, .null)]) (by decide +kernel) (Nat.le_of_ble_eq_true rfl) rfl ?_
  intro zp ze zs zm za zb zh zc hc
  refine g_iload_n (pc := 0) hc 0 dJ3_checkIndex_8e157_0 rfl rfl ?_
  refine g_if_lt_f (pc := 1) hc 9 dJ3_checkIndex_8e157_1 (by decide) (nI_pos (by omega)) ?_
  refine g_iload_n (pc := 4) hc 0 dJ3_checkIndex_8e157_4 rfl rfl ?_
  refine g_iload_n (pc := 5) hc 1 dJ3_checkIndex_8e157_5 rfl rfl ?_
  refine g_icmp_lt_t (pc := 6) hc 16 dJ3_checkIndex_8e157_6 (by decide) (nI_lt hj hn31) ?_
  refine g_iload_n (pc := 16) hc 0 dJ3_checkIndex_8e157_16 rfl rfl ?_
  exact g_iret (pc := 17) hc dJ3_checkIndex_8e157_17 (rfl) (rfl)

set_option maxHeartbeats 4000000 in
set_option maxRecDepth 100000 in
theorem c_J3_ck_r (l : Launch) (E : Ev) {A : Nat → Prop} (ad : Nat → Nat) (hA : Oka 39 ad A) (sc : Nat → Int32) (ar : Nat → Nat → Int32) (bl : Int64) (j n : Nat) (t0 : Nat) (hj : j < n) (hn31 : n < 2 ^ 31) : Ct l E yJ3_checkIndex_8e157 (.code yJ3_checkIndex_8e157 cJ3_checkIndex_8e157 3 (some .int)) ({ frames := 0, cells := 0, slots := 0, locals := 0 }) A (cw E ad sc ar bl) [.int (nI j), .int (nI n), (.ref t0)] (some (.int (nI j))) (cw E ad sc ar bl) := by
  refine Ct.of (lv := [(0, .int (nI j)), (1, .int (nI n)), (2, (.ref t0))]) (by decide +kernel) (Nat.le_of_ble_eq_true rfl) rfl ?_
  intro zp ze zs zm za zb zh zc hc
  refine g_iload_n (pc := 0) hc 0 dJ3_checkIndex_8e157_0 rfl rfl ?_
  refine g_if_lt_f (pc := 1) hc 9 dJ3_checkIndex_8e157_1 (by decide) (nI_pos (by omega)) ?_
  refine g_iload_n (pc := 4) hc 0 dJ3_checkIndex_8e157_4 rfl rfl ?_
  refine g_iload_n (pc := 5) hc 1 dJ3_checkIndex_8e157_5 rfl rfl ?_
  refine g_icmp_lt_t (pc := 6) hc 16 dJ3_checkIndex_8e157_6 (by decide) (nI_lt hj hn31) ?_
  refine g_iload_n (pc := 16) hc 0 dJ3_checkIndex_8e157_16 rfl rfl ?_
  exact g_iret (pc := 17) hc dJ3_checkIndex_8e157_17 (rfl) (rfl)

theorem c_J3_checkIndex_8e157 (l : Launch) (E : Ev) {A : Nat → Prop} (ad : Nat → Nat) (hA : Oka 39 ad A) (sc : Nat → Int32) (ar : Nat → Nat → Int32) (bl : Int64) (j n : Nat) (hj : j < n) (hn31 : n < 2 ^ 31) : Ct l E yJ3_checkIndex_8e157 (.code yJ3_checkIndex_8e157 cJ3_checkIndex_8e157 3 (some .int)) ({ frames := 0, cells := 0, slots := 0, locals := 0 }) A (cw E ad sc ar bl) [.int (nI j), .int (nI n), va_rf (sio E)] (some (.int (nI j))) (cw E ad sc ar bl) := by
  generalize sio E = r
  cases r with
  | none => exact c_J3_ck_n l E ad hA sc ar bl j n hj hn31
  | some t => exact c_J3_ck_r l E ad hA sc ar bl j n t hj hn31

theorem dJ0_checkIndex_df160_0 : decode cJ0_checkIndex_df160 0 = .ok (.iload_n 0, 1) := by decide +kernel
theorem dJ0_checkIndex_df160_1 : decode cJ0_checkIndex_df160 1 = .ok (.iload_n 1, 1) := by decide +kernel
theorem dJ0_checkIndex_df160_2 : decode cJ0_checkIndex_df160 2 = .ok (.getstatic 1053, 3) := by decide +kernel
theorem dJ0_checkIndex_df160_5 : decode cJ0_checkIndex_df160 5 = .ok (.invokestatic 1059, 3) := by decide +kernel
theorem dJ0_checkIndex_df160_8 : decode cJ0_checkIndex_df160 8 = .ok (.pop, 1) := by decide +kernel
theorem dJ0_checkIndex_df160_9 : decode cJ0_checkIndex_df160 9 = .ok (.return_, 1) := by decide +kernel

set_option maxHeartbeats 4000000 in
set_option maxRecDepth 100000 in
theorem c_J0_checkIndex_df160 (l : Launch) (E : Ev) {A : Nat → Prop} (ad : Nat → Nat) (hA : Oka 39 ad A) (sc : Nat → Int32) (ar : Nat → Nat → Int32) (bl : Int64) (j n : Nat) (hj : j < n) (hn31 : n < 2 ^ 31) : Ct l E yJ0_checkIndex_df160 (.code yJ0_checkIndex_df160 cJ0_checkIndex_df160 2 none) ({ frames := 1, cells := 0, slots := 0, locals := 22 }) A (cw E ad sc ar bl) [.int (nI j), .int (nI n)] (none) (cw E ad sc ar bl) := by
  refine Ct.of (lv := [(0, .int (nI j)), (1, .int (nI n))]) (by decide +kernel) (Nat.le_of_ble_eq_true rfl) rfl ?_
  intro zp ze zs zm za zb zh zc hc
  refine g_iload_n (pc := 0) hc 0 dJ0_checkIndex_df160_0 rfl rfl ?_
  refine g_iload_n (pc := 1) hc 1 dJ0_checkIndex_df160_1 rfl rfl ?_
  refine g_gets (pc := 2) hc (hc.2.2.2.2.2.2.2.2) tw_812 rfl dJ0_checkIndex_df160_2 ?_
  refine g_callSi (pc := 5) (rest := []) (As := [.int (nI j), .int (nI n), (va_rf (sio E))]) hc (c_J3_checkIndex_8e157 l E ad hA sc ar bl j n hj hn31) mi_J3_checkIndex_8e157 tw_814 rfl ⟨rfl, rfl, by decide, by decide⟩ (Nat.le_of_ble_eq_true rfl) ⟨Nat.le_refl _, Nat.le_refl _⟩ rfl dJ0_checkIndex_df160_5 ?_
  refine g_pop (pc := 8) hc dJ0_checkIndex_df160_8 rfl ?_
  exact g_vret (pc := 9) hc dJ0_checkIndex_df160_9 rfl (rfl)

theorem dJ1_charAt_3b067_0 : decode cJ1_charAt_3b067 0 = .ok (.iload_n 1, 1) := by decide +kernel
theorem dJ1_charAt_3b067_1 : decode cJ1_charAt_3b067 1 = .ok (.aload_n 0, 1) := by decide +kernel
theorem dJ1_charAt_3b067_2 : decode cJ1_charAt_3b067 2 = .ok (.arraylength, 1) := by decide +kernel
theorem dJ1_charAt_3b067_3 : decode cJ1_charAt_3b067 3 = .ok (.invokestatic 9, 3) := by decide +kernel
theorem dJ1_charAt_3b067_6 : decode cJ1_charAt_3b067 6 = .ok (.aload_n 0, 1) := by decide +kernel
theorem dJ1_charAt_3b067_7 : decode cJ1_charAt_3b067 7 = .ok (.iload_n 1, 1) := by decide +kernel
theorem dJ1_charAt_3b067_8 : decode cJ1_charAt_3b067 8 = .ok (.baload, 1) := by decide +kernel
theorem dJ1_charAt_3b067_9 : decode cJ1_charAt_3b067 9 = .ok (.sipush 255, 3) := by decide +kernel
theorem dJ1_charAt_3b067_12 : decode cJ1_charAt_3b067 12 = .ok (.iand, 1) := by decide +kernel
theorem dJ1_charAt_3b067_13 : decode cJ1_charAt_3b067 13 = .ok (.i2c, 1) := by decide +kernel
theorem dJ1_charAt_3b067_14 : decode cJ1_charAt_3b067 14 = .ok (.ireturn, 1) := by decide +kernel

set_option maxHeartbeats 4000000 in
set_option maxRecDepth 100000 in
theorem c_J1_charAt_3b067 (l : Launch) (E : Ev) {A : Nat → Prop} (ad : Nat → Nat) (hA : Oka 39 ad A) (sc : Nat → Int32) (ar : Nat → Nat → Int32) (bl : Int64) (i j : Nat) (hi6 : i < 6) (hj : j < lenS.getD i 0) : Ct l E yJ1_charAt_3b067 (.code yJ1_charAt_3b067 cJ1_charAt_3b067 2 (some .char)) ({ frames := 2, cells := 0, slots := 0, locals := 43 }) A (cw E ad sc ar bl) [.ref (E.2.2.2 (6 + i)), .int (nI j)] (some (.int (chS i j))) (cw E ad sc ar bl) := by
  have hL31 : lenS.getD i 0 < 2 ^ 31 := by have := (lenS_le i hi6).1; omega
  refine Ct.of (lv := [(0, .ref (E.2.2.2 (6 + i))), (1, .int (nI j))]) (by decide +kernel) (Nat.le_of_ble_eq_true rfl) rfl ?_
  intro zp ze zs zm za zb zh zc hc
  refine g_iload_n (pc := 0) hc 1 dJ1_charAt_3b067_0 rfl rfl ?_
  refine g_aload_n (pc := 1) hc 0 dJ1_charAt_3b067_1 rfl rfl ?_
  refine g_slen (pc := 2) hc i hi6 dJ1_charAt_3b067_2 ?_
  refine g_callSv (pc := 3) (rest := []) (As := [.int (nI j), .int (nI (lenS.getD i 0))]) hc (c_J0_checkIndex_df160 l E ad hA sc ar bl j (lenS.getD i 0) hj hL31) mi_J0_checkIndex_df160 tw_809 rfl ⟨rfl, rfl, by decide, by decide⟩ (Nat.le_of_ble_eq_true rfl) ⟨Nat.le_refl _, Nat.le_refl _⟩ rfl dJ1_charAt_3b067_3 ?_
  refine g_aload_n (pc := 6) hc 0 dJ1_charAt_3b067_6 rfl rfl ?_
  refine g_iload_n (pc := 7) hc 1 dJ1_charAt_3b067_7 rfl rfl ?_
  refine g_sbyt (pc := 8) hc i j hi6 (hj) hL31 dJ1_charAt_3b067_8 ?_
  refine g_sipush (pc := 9) (v := nI 255) hc dJ1_charAt_3b067_9 (by decide) ?_
  refine g_iand (pc := 12) hc dJ1_charAt_3b067_12 ?_
  refine g_i2c (pc := 13) (v := ((((bytS.getD i []).getD j 0) &&& (nI 255) : Int32).toUInt32 % 65536).toInt32) hc dJ1_charAt_3b067_13 rfl ?_
  refine g_topi (v := chS i j) (sc_c2 _) ?_
  exact g_zret (pc := 14) hc dJ1_charAt_3b067_14 (sc_nar _) (rfl) (rfl)

theorem dJ0_charAt_5068e_0 : decode cJ0_charAt_5068e 0 = .ok (.aload_n 0, 1) := by decide +kernel
theorem dJ0_charAt_5068e_1 : decode cJ0_charAt_5068e 1 = .ok (.invokevirtual 492, 3) := by decide +kernel
theorem dJ0_charAt_5068e_4 : decode cJ0_charAt_5068e 4 = .ok (.ifCond .eq 12, 3) := by decide +kernel
theorem dJ0_charAt_5068e_7 : decode cJ0_charAt_5068e 7 = .ok (.aload_n 0, 1) := by decide +kernel
theorem dJ0_charAt_5068e_8 : decode cJ0_charAt_5068e 8 = .ok (.getfield 9, 3) := by decide +kernel
theorem dJ0_charAt_5068e_11 : decode cJ0_charAt_5068e 11 = .ok (.iload_n 1, 1) := by decide +kernel
theorem dJ0_charAt_5068e_12 : decode cJ0_charAt_5068e 12 = .ok (.invokestatic 495, 3) := by decide +kernel
theorem dJ0_charAt_5068e_15 : decode cJ0_charAt_5068e 15 = .ok (.ireturn, 1) := by decide +kernel
theorem dJ0_charAt_5068e_16 : decode cJ0_charAt_5068e 16 = .ok (.aload_n 0, 1) := by decide +kernel
theorem dJ0_charAt_5068e_17 : decode cJ0_charAt_5068e 17 = .ok (.getfield 9, 3) := by decide +kernel
theorem dJ0_charAt_5068e_20 : decode cJ0_charAt_5068e 20 = .ok (.iload_n 1, 1) := by decide +kernel
theorem dJ0_charAt_5068e_21 : decode cJ0_charAt_5068e 21 = .ok (.invokestatic 498, 3) := by decide +kernel
theorem dJ0_charAt_5068e_24 : decode cJ0_charAt_5068e 24 = .ok (.ireturn, 1) := by decide +kernel

set_option maxHeartbeats 4000000 in
set_option maxRecDepth 100000 in
theorem c_J0_charAt_5068e (l : Launch) (E : Ev) {A : Nat → Prop} (ad : Nat → Nat) (hA : Oka 39 ad A) (sc : Nat → Int32) (ar : Nat → Nat → Int32) (bl : Int64) (i j : Nat) (hi6 : i < 6) (hj : j < lenS.getD i 0) : Ct l E yJ0_charAt_5068e (.code yJ0_charAt_5068e cJ0_charAt_5068e 2 (some .char)) ({ frames := 4, cells := 0, slots := 0, locals := 85 }) A (cw E ad sc ar bl) [.ref (E.2.2.2 i), .int (nI j)] (some (.int (chS i j))) (cw E ad sc ar bl) := by
  refine Ct.of (lv := [(0, .ref (E.2.2.2 i)), (1, .int (nI j))]) (by decide +kernel) (Nat.le_of_ble_eq_true rfl) rfl ?_
  intro zp ze zs zm za zb zh zc hc
  refine g_aload_n (pc := 0) hc 0 dJ0_charAt_5068e_0 rfl rfl ?_
  refine g_callKi (pc := 1) (rest := []) (As := []) hc (c_J0_isLatin1_aae02 l E ad hA sc ar bl i hi6) hi6 mi_J0_isLatin1_aae02 tw_802 rfl rfl ⟨rfl, rfl, by decide, by decide⟩ (Nat.le_of_ble_eq_true rfl) ⟨Nat.le_refl _, Nat.le_refl _⟩ rfl dJ0_charAt_5068e_1 ?_
  refine g_if_eq_f (pc := 4) hc 16 dJ0_charAt_5068e_4 (by decide) (by decide) ?_
  refine g_aload_n (pc := 7) hc 0 dJ0_charAt_5068e_7 rfl rfl ?_
  refine g_sval (pc := 8) hc i hi6 tw_1385 dJ0_charAt_5068e_8 ?_
  refine g_iload_n (pc := 11) hc 1 dJ0_charAt_5068e_11 rfl rfl ?_
  refine g_callSi (pc := 12) (rest := []) (As := [.ref (E.2.2.2 (6 + i)), .int (nI j)]) hc (c_J1_charAt_3b067 l E ad hA sc ar bl i j hi6 hj) mi_J1_charAt_3b067 tw_806 rfl ⟨rfl, rfl, by decide, by decide⟩ (Nat.le_of_ble_eq_true rfl) ⟨Nat.le_refl _, Nat.le_refl _⟩ rfl dJ0_charAt_5068e_12 ?_
  exact g_zret (pc := 15) hc dJ0_charAt_5068e_15 (sc_nar _) (rfl) (rfl)
