theorem dJ13_bitCount_95d88_0 : decode cJ13_bitCount_95d88 0 = .ok (.lload_n 0, 1) := by decide +kernel
theorem dJ13_bitCount_95d88_1 : decode cJ13_bitCount_95d88 1 = .ok (.lload_n 0, 1) := by decide +kernel
theorem dJ13_bitCount_95d88_2 : decode cJ13_bitCount_95d88 2 = .ok (.iconst 1, 1) := by decide +kernel
theorem dJ13_bitCount_95d88_3 : decode cJ13_bitCount_95d88 3 = .ok (.lushr, 1) := by decide +kernel
theorem dJ13_bitCount_95d88_4 : decode cJ13_bitCount_95d88 4 = .ok (.ldc2_w 314, 3) := by decide +kernel
theorem dJ13_bitCount_95d88_7 : decode cJ13_bitCount_95d88 7 = .ok (.land, 1) := by decide +kernel
theorem dJ13_bitCount_95d88_8 : decode cJ13_bitCount_95d88 8 = .ok (.lsub, 1) := by decide +kernel
theorem dJ13_bitCount_95d88_9 : decode cJ13_bitCount_95d88 9 = .ok (.lstore_n 0, 1) := by decide +kernel
theorem dJ13_bitCount_95d88_10 : decode cJ13_bitCount_95d88 10 = .ok (.lload_n 0, 1) := by decide +kernel
theorem dJ13_bitCount_95d88_11 : decode cJ13_bitCount_95d88 11 = .ok (.ldc2_w 316, 3) := by decide +kernel
theorem dJ13_bitCount_95d88_14 : decode cJ13_bitCount_95d88 14 = .ok (.land, 1) := by decide +kernel
theorem dJ13_bitCount_95d88_15 : decode cJ13_bitCount_95d88 15 = .ok (.lload_n 0, 1) := by decide +kernel
theorem dJ13_bitCount_95d88_16 : decode cJ13_bitCount_95d88 16 = .ok (.iconst 2, 1) := by decide +kernel
theorem dJ13_bitCount_95d88_17 : decode cJ13_bitCount_95d88 17 = .ok (.lushr, 1) := by decide +kernel
theorem dJ13_bitCount_95d88_18 : decode cJ13_bitCount_95d88 18 = .ok (.ldc2_w 316, 3) := by decide +kernel
theorem dJ13_bitCount_95d88_21 : decode cJ13_bitCount_95d88 21 = .ok (.land, 1) := by decide +kernel
theorem dJ13_bitCount_95d88_22 : decode cJ13_bitCount_95d88 22 = .ok (.ladd, 1) := by decide +kernel
theorem dJ13_bitCount_95d88_23 : decode cJ13_bitCount_95d88 23 = .ok (.lstore_n 0, 1) := by decide +kernel
theorem dJ13_bitCount_95d88_24 : decode cJ13_bitCount_95d88 24 = .ok (.lload_n 0, 1) := by decide +kernel
theorem dJ13_bitCount_95d88_25 : decode cJ13_bitCount_95d88 25 = .ok (.lload_n 0, 1) := by decide +kernel
theorem dJ13_bitCount_95d88_26 : decode cJ13_bitCount_95d88 26 = .ok (.iconst 4, 1) := by decide +kernel
theorem dJ13_bitCount_95d88_27 : decode cJ13_bitCount_95d88 27 = .ok (.lushr, 1) := by decide +kernel
theorem dJ13_bitCount_95d88_28 : decode cJ13_bitCount_95d88 28 = .ok (.ladd, 1) := by decide +kernel
theorem dJ13_bitCount_95d88_29 : decode cJ13_bitCount_95d88 29 = .ok (.ldc2_w 318, 3) := by decide +kernel
theorem dJ13_bitCount_95d88_32 : decode cJ13_bitCount_95d88 32 = .ok (.land, 1) := by decide +kernel
theorem dJ13_bitCount_95d88_33 : decode cJ13_bitCount_95d88 33 = .ok (.lstore_n 0, 1) := by decide +kernel
theorem dJ13_bitCount_95d88_34 : decode cJ13_bitCount_95d88 34 = .ok (.lload_n 0, 1) := by decide +kernel
theorem dJ13_bitCount_95d88_35 : decode cJ13_bitCount_95d88 35 = .ok (.lload_n 0, 1) := by decide +kernel
theorem dJ13_bitCount_95d88_36 : decode cJ13_bitCount_95d88 36 = .ok (.bipush 8, 2) := by decide +kernel
theorem dJ13_bitCount_95d88_38 : decode cJ13_bitCount_95d88 38 = .ok (.lushr, 1) := by decide +kernel
theorem dJ13_bitCount_95d88_39 : decode cJ13_bitCount_95d88 39 = .ok (.ladd, 1) := by decide +kernel
theorem dJ13_bitCount_95d88_40 : decode cJ13_bitCount_95d88 40 = .ok (.lstore_n 0, 1) := by decide +kernel
theorem dJ13_bitCount_95d88_41 : decode cJ13_bitCount_95d88 41 = .ok (.lload_n 0, 1) := by decide +kernel
theorem dJ13_bitCount_95d88_42 : decode cJ13_bitCount_95d88 42 = .ok (.lload_n 0, 1) := by decide +kernel
theorem dJ13_bitCount_95d88_43 : decode cJ13_bitCount_95d88 43 = .ok (.bipush 16, 2) := by decide +kernel
theorem dJ13_bitCount_95d88_45 : decode cJ13_bitCount_95d88 45 = .ok (.lushr, 1) := by decide +kernel
theorem dJ13_bitCount_95d88_46 : decode cJ13_bitCount_95d88 46 = .ok (.ladd, 1) := by decide +kernel
theorem dJ13_bitCount_95d88_47 : decode cJ13_bitCount_95d88 47 = .ok (.lstore_n 0, 1) := by decide +kernel
theorem dJ13_bitCount_95d88_48 : decode cJ13_bitCount_95d88 48 = .ok (.lload_n 0, 1) := by decide +kernel
theorem dJ13_bitCount_95d88_49 : decode cJ13_bitCount_95d88 49 = .ok (.lload_n 0, 1) := by decide +kernel
theorem dJ13_bitCount_95d88_50 : decode cJ13_bitCount_95d88 50 = .ok (.bipush 32, 2) := by decide +kernel
theorem dJ13_bitCount_95d88_52 : decode cJ13_bitCount_95d88 52 = .ok (.lushr, 1) := by decide +kernel
theorem dJ13_bitCount_95d88_53 : decode cJ13_bitCount_95d88 53 = .ok (.ladd, 1) := by decide +kernel
theorem dJ13_bitCount_95d88_54 : decode cJ13_bitCount_95d88 54 = .ok (.lstore_n 0, 1) := by decide +kernel
theorem dJ13_bitCount_95d88_55 : decode cJ13_bitCount_95d88 55 = .ok (.lload_n 0, 1) := by decide +kernel
theorem dJ13_bitCount_95d88_56 : decode cJ13_bitCount_95d88 56 = .ok (.l2i, 1) := by decide +kernel
theorem dJ13_bitCount_95d88_57 : decode cJ13_bitCount_95d88 57 = .ok (.bipush 127, 2) := by decide +kernel
theorem dJ13_bitCount_95d88_59 : decode cJ13_bitCount_95d88 59 = .ok (.iand, 1) := by decide +kernel
theorem dJ13_bitCount_95d88_60 : decode cJ13_bitCount_95d88 60 = .ok (.ireturn, 1) := by decide +kernel

set_option maxHeartbeats 4000000 in
set_option maxRecDepth 100000 in
theorem c_J13_bitCount_95d88 (l : Launch) (E : Ev) {A : Nat → Prop} (ad : Nat → Nat) (hA : Oka 39 ad A) (sc : Nat → Int32) (ar : Nat → Nat → Int32) (bl : Int64) (x : Int64) : Ct l E yJ13_bitCount_95d88 (.code yJ13_bitCount_95d88 cJ13_bitCount_95d88 2 (some .int)) ({ frames := 0, cells := 0, slots := 0, locals := 0 }) A (cw E ad sc ar bl) [.long x] (some (.int (bct x))) (cw E ad sc ar bl) := by
  refine Ct.of (lv := [(0, .long x)]) (by decide +kernel) (Nat.le_of_ble_eq_true rfl) rfl ?_
  intro zp ze zs zm za zb zh zc hc
  refine g_lload_n (pc := 0) hc 0 dJ13_bitCount_95d88_0 rfl rfl ?_
  refine g_lload_n (pc := 1) hc 0 dJ13_bitCount_95d88_1 rfl rfl ?_
  refine g_iconst (pc := 2) (v := nI 1) hc dJ13_bitCount_95d88_2 (by decide) ?_
  refine g_lushr (pc := 3) (v := (x.toUInt64 >>> ((nI 1 : Int32).toInt64.toUInt64 &&& Int64.toUInt64 63)).toInt64) hc dJ13_bitCount_95d88_3 rfl ?_
  refine g_ldc2 (pc := 4) (v := 6148914691236517205) hc tw_992 dJ13_bitCount_95d88_4 ?_
  refine g_land (pc := 7) hc dJ13_bitCount_95d88_7 ?_
  refine g_lsub (pc := 8) hc dJ13_bitCount_95d88_8 ?_
  refine g_topl (v := bc1 x) (rfl) ?_
  refine g_lstore_n (pc := 9) (lv' := [(0, .long (bc1 x))]) hc dJ13_bitCount_95d88_9 rfl (by decide) rfl ?_
  refine g_lload_n (pc := 10) hc 0 dJ13_bitCount_95d88_10 rfl rfl ?_
  refine g_ldc2 (pc := 11) (v := 3689348814741910323) hc tw_993 dJ13_bitCount_95d88_11 ?_
  refine g_land (pc := 14) hc dJ13_bitCount_95d88_14 ?_
  refine g_lload_n (pc := 15) hc 0 dJ13_bitCount_95d88_15 rfl rfl ?_
  refine g_iconst (pc := 16) (v := nI 2) hc dJ13_bitCount_95d88_16 (by decide) ?_
  refine g_lushr (pc := 17) (v := ((bc1 x).toUInt64 >>> ((nI 2 : Int32).toInt64.toUInt64 &&& Int64.toUInt64 63)).toInt64) hc dJ13_bitCount_95d88_17 rfl ?_
  refine g_ldc2 (pc := 18) (v := 3689348814741910323) hc tw_993 dJ13_bitCount_95d88_18 ?_
  refine g_land (pc := 21) hc dJ13_bitCount_95d88_21 ?_
  refine g_ladd (pc := 22) hc dJ13_bitCount_95d88_22 ?_
  refine g_topl (v := bc2 (bc1 x)) (rfl) ?_
  refine g_lstore_n (pc := 23) (lv' := [(0, .long (bc2 (bc1 x)))]) hc dJ13_bitCount_95d88_23 rfl (by decide) rfl ?_
  refine g_lload_n (pc := 24) hc 0 dJ13_bitCount_95d88_24 rfl rfl ?_
  refine g_lload_n (pc := 25) hc 0 dJ13_bitCount_95d88_25 rfl rfl ?_
  refine g_iconst (pc := 26) (v := nI 4) hc dJ13_bitCount_95d88_26 (by decide) ?_
  refine g_lushr (pc := 27) (v := ((bc2 (bc1 x)).toUInt64 >>> ((nI 4 : Int32).toInt64.toUInt64 &&& Int64.toUInt64 63)).toInt64) hc dJ13_bitCount_95d88_27 rfl ?_
  refine g_ladd (pc := 28) hc dJ13_bitCount_95d88_28 ?_
  refine g_ldc2 (pc := 29) (v := 1085102592571150095) hc tw_994 dJ13_bitCount_95d88_29 ?_
  refine g_land (pc := 32) hc dJ13_bitCount_95d88_32 ?_
  refine g_topl (v := bc3 (bc2 (bc1 x))) (rfl) ?_
  refine g_lstore_n (pc := 33) (lv' := [(0, .long (bc3 (bc2 (bc1 x))))]) hc dJ13_bitCount_95d88_33 rfl (by decide) rfl ?_
  refine g_lload_n (pc := 34) hc 0 dJ13_bitCount_95d88_34 rfl rfl ?_
  refine g_lload_n (pc := 35) hc 0 dJ13_bitCount_95d88_35 rfl rfl ?_
  refine g_bipush (pc := 36) (v := nI 8) hc dJ13_bitCount_95d88_36 (by decide) ?_
  refine g_lushr (pc := 38) (v := ((bc3 (bc2 (bc1 x))).toUInt64 >>> ((nI 8 : Int32).toInt64.toUInt64 &&& Int64.toUInt64 63)).toInt64) hc dJ13_bitCount_95d88_38 rfl ?_
  refine g_ladd (pc := 39) hc dJ13_bitCount_95d88_39 ?_
  refine g_topl (v := bc4 (bc3 (bc2 (bc1 x)))) (rfl) ?_
  refine g_lstore_n (pc := 40) (lv' := [(0, .long (bc4 (bc3 (bc2 (bc1 x)))))]) hc dJ13_bitCount_95d88_40 rfl (by decide) rfl ?_
  refine g_lload_n (pc := 41) hc 0 dJ13_bitCount_95d88_41 rfl rfl ?_
  refine g_lload_n (pc := 42) hc 0 dJ13_bitCount_95d88_42 rfl rfl ?_
  refine g_bipush (pc := 43) (v := nI 16) hc dJ13_bitCount_95d88_43 (by decide) ?_
  refine g_lushr (pc := 45) (v := ((bc4 (bc3 (bc2 (bc1 x)))).toUInt64 >>> ((nI 16 : Int32).toInt64.toUInt64 &&& Int64.toUInt64 63)).toInt64) hc dJ13_bitCount_95d88_45 rfl ?_
  refine g_ladd (pc := 46) hc dJ13_bitCount_95d88_46 ?_
  refine g_topl (v := bc5 (bc4 (bc3 (bc2 (bc1 x))))) (rfl) ?_
  refine g_lstore_n (pc := 47) (lv' := [(0, .long (bc5 (bc4 (bc3 (bc2 (bc1 x))))))]) hc dJ13_bitCount_95d88_47 rfl (by decide) rfl ?_
  refine g_lload_n (pc := 48) hc 0 dJ13_bitCount_95d88_48 rfl rfl ?_
  refine g_lload_n (pc := 49) hc 0 dJ13_bitCount_95d88_49 rfl rfl ?_
  refine g_bipush (pc := 50) (v := nI 32) hc dJ13_bitCount_95d88_50 (by decide) ?_
  refine g_lushr (pc := 52) (v := ((bc5 (bc4 (bc3 (bc2 (bc1 x))))).toUInt64 >>> ((nI 32 : Int32).toInt64.toUInt64 &&& Int64.toUInt64 63)).toInt64) hc dJ13_bitCount_95d88_52 rfl ?_
  refine g_ladd (pc := 53) hc dJ13_bitCount_95d88_53 ?_
  refine g_topl (v := bc6 (bc5 (bc4 (bc3 (bc2 (bc1 x)))))) (rfl) ?_
  refine g_lstore_n (pc := 54) (lv' := [(0, .long (bc6 (bc5 (bc4 (bc3 (bc2 (bc1 x)))))))]) hc dJ13_bitCount_95d88_54 rfl (by decide) rfl ?_
  refine g_lload_n (pc := 55) hc 0 dJ13_bitCount_95d88_55 rfl rfl ?_
  refine g_l2i (pc := 56) (v := (bc6 (bc5 (bc4 (bc3 (bc2 (bc1 x))))) : Int64).toInt32) hc dJ13_bitCount_95d88_56 rfl ?_
  refine g_bipush (pc := 57) (v := nI 127) hc dJ13_bitCount_95d88_57 (by decide) ?_
  refine g_iand (pc := 59) hc dJ13_bitCount_95d88_59 ?_
  exact g_iret (pc := 60) hc dJ13_bitCount_95d88_60 (rfl) (rfl)

theorem dX2_barrenPaces_0 : decode cX2_barrenPaces 0 = .ok (.aload_n 0, 1) := by decide +kernel
theorem dX2_barrenPaces_1 : decode cX2_barrenPaces 1 = .ok (.getfield 18, 3) := by decide +kernel
theorem dX2_barrenPaces_4 : decode cX2_barrenPaces 4 = .ok (.invokestatic 39, 3) := by decide +kernel
theorem dX2_barrenPaces_7 : decode cX2_barrenPaces 7 = .ok (.ireturn, 1) := by decide +kernel

set_option maxHeartbeats 4000000 in
set_option maxRecDepth 100000 in
theorem c_X2_barrenPaces (l : Launch) (E : Ev) {A : Nat → Prop} (ad : Nat → Nat) (hA : Oka 39 ad A) (sc : Nat → Int32) (ar : Nat → Nat → Int32) (bl : Int64)  : Ct l E yX2_barrenPaces (.code yX2_barrenPaces cX2_barrenPaces 1 (some .int)) ({ frames := 1, cells := 0, slots := 0, locals := 21 }) A (cw E ad sc ar bl) [.ref (ad 1)] (some (.int (bct bl))) (cw E ad sc ar bl) := by
  refine Ct.of (lv := [(0, .ref (ad 1))]) (by decide +kernel) (Nat.le_of_ble_eq_true rfl) rfl ?_
  intro zp ze zs zm za zb zh zc hc
  refine g_aload_n (pc := 0) hc 0 dX2_barrenPaces_0 rfl rfl ?_
  refine gf_c1_barren (pc := 1) hc tw_38 dX2_barrenPaces_1 ?_
  refine g_callSi (pc := 4) (rest := []) (As := [.long bl]) hc (c_J13_bitCount_95d88 l E ad hA sc ar bl bl) mi_J13_bitCount_95d88 tw_989 rfl ⟨rfl, rfl, by decide, by decide⟩ (Nat.le_of_ble_eq_true rfl) ⟨Nat.le_refl _, Nat.le_refl _⟩ rfl dX2_barrenPaces_4 ?_
  exact g_iret (pc := 7) hc dX2_barrenPaces_7 (rfl) (rfl)

theorem dX7_take_0 : decode cX7_take 0 = .ok (.aload_n 1, 1) := by decide +kernel
theorem dX7_take_1 : decode cX7_take 1 = .ok (.getfield 11, 3) := by decide +kernel
theorem dX7_take_4 : decode cX7_take 4 = .ok (.iload_n 2, 1) := by decide +kernel
theorem dX7_take_5 : decode cX7_take 5 = .ok (.aload_n 0, 1) := by decide +kernel
theorem dX7_take_6 : decode cX7_take 6 = .ok (.getfield 11, 3) := by decide +kernel
theorem dX7_take_9 : decode cX7_take 9 = .ok (.iload_n 3, 1) := by decide +kernel
theorem dX7_take_10 : decode cX7_take 10 = .ok (.iload 4, 2) := by decide +kernel
theorem dX7_take_12 : decode cX7_take 12 = .ok (.invokestatic 25, 3) := by decide +kernel
theorem dX7_take_15 : decode cX7_take 15 = .ok (.return_, 1) := by decide +kernel

set_option maxHeartbeats 4000000 in
set_option maxRecDepth 100000 in
theorem c_X7_take_11_11 (l : Launch) (E : Ev) {A : Nat → Prop} (ad : Nat → Nat) (hA : Oka 39 ad A) (sc : Nat → Int32) (ar : Nat → Nat → Int32) (bl : Int64) (sp dp n : Nat) (h4 : sp + n ≤ 64) (h5 : dp + n ≤ 64) (hfit : ∀ i, i < 64 → fits .short (.int (ar 37 i)) = true) : Ct l E yX7_take (.code yX7_take cX7_take 5 none) ({ frames := 1, cells := 0, slots := 0, locals := 30 }) A (cw E ad sc ar bl) [.ref (ad 11), .ref (ad 11), .int (nI sp), .int (nI dp), .int (nI n)] (none) (cw E ad sc (va_up ar 37 (va_cpy (ar 37) (ar 37) sp dp n)) bl) := by
  refine Ct.of (lv := [(0, .ref (ad 11)), (1, .ref (ad 11)), (2, .int (nI sp)), (3, .int (nI dp)), (4, .int (nI n))]) (by decide +kernel) (Nat.le_of_ble_eq_true rfl) rfl ?_
  intro zp ze zs zm za zb zh zc hc
  refine g_aload_n (pc := 0) hc 1 dX7_take_0 rfl rfl ?_
  refine gf_c11_places (pc := 1) hc tw_175 dX7_take_1 ?_
  refine g_iload_n (pc := 4) hc 2 dX7_take_4 rfl rfl ?_
  refine g_aload_n (pc := 5) hc 0 dX7_take_5 rfl rfl ?_
  refine gf_c11_places (pc := 6) hc tw_175 dX7_take_6 ?_
  refine g_iload_n (pc := 9) hc 3 dX7_take_9 rfl rfl ?_
  refine g_iload (pc := 10) hc 4 dX7_take_10 rfl ?_
  refine g_copyS (pc := 12) (ws' := cw E ad sc (va_up ar 37 (va_cpy (ar 37) (ar 37) sp dp n)) bl) hc (cw_D hA _ _ _) tw_956 tw_958 tw_957 tw_20 37 37 rfl rfl rfl sp dp n (by decide) h4 h5 (fun i hi => hfit _ (by omega)) ⟨by decide, Nat.le_of_ble_eq_true rfl⟩ rfl dX7_take_12 ?_
  exact g_vret (pc := 15) hc dX7_take_15 rfl rfl

set_option maxHeartbeats 4000000 in
set_option maxRecDepth 100000 in
theorem c_X7_take_11_12 (l : Launch) (E : Ev) {A : Nat → Prop} (ad : Nat → Nat) (hA : Oka 39 ad A) (sc : Nat → Int32) (ar : Nat → Nat → Int32) (bl : Int64) (sp dp n : Nat) (h4 : sp + n ≤ 64) (h5 : dp + n ≤ 64) (hfit : ∀ i, i < 64 → fits .short (.int (ar 38 i)) = true) : Ct l E yX7_take (.code yX7_take cX7_take 5 none) ({ frames := 1, cells := 0, slots := 0, locals := 30 }) A (cw E ad sc ar bl) [.ref (ad 11), .ref (ad 12), .int (nI sp), .int (nI dp), .int (nI n)] (none) (cw E ad sc (va_up ar 37 (va_cpy (ar 38) (ar 37) sp dp n)) bl) := by
  refine Ct.of (lv := [(0, .ref (ad 11)), (1, .ref (ad 12)), (2, .int (nI sp)), (3, .int (nI dp)), (4, .int (nI n))]) (by decide +kernel) (Nat.le_of_ble_eq_true rfl) rfl ?_
  intro zp ze zs zm za zb zh zc hc
  refine g_aload_n (pc := 0) hc 1 dX7_take_0 rfl rfl ?_
  refine gf_c12_places (pc := 1) hc tw_175 dX7_take_1 ?_
  refine g_iload_n (pc := 4) hc 2 dX7_take_4 rfl rfl ?_
  refine g_aload_n (pc := 5) hc 0 dX7_take_5 rfl rfl ?_
  refine gf_c11_places (pc := 6) hc tw_175 dX7_take_6 ?_
  refine g_iload_n (pc := 9) hc 3 dX7_take_9 rfl rfl ?_
  refine g_iload (pc := 10) hc 4 dX7_take_10 rfl ?_
  refine g_copyS (pc := 12) (ws' := cw E ad sc (va_up ar 37 (va_cpy (ar 38) (ar 37) sp dp n)) bl) hc (cw_D hA _ _ _) tw_956 tw_958 tw_957 tw_20 38 37 rfl rfl rfl sp dp n (by decide) h4 h5 (fun i hi => hfit _ (by omega)) ⟨by decide, Nat.le_of_ble_eq_true rfl⟩ rfl dX7_take_12 ?_
  exact g_vret (pc := 15) hc dX7_take_15 rfl rfl

set_option maxHeartbeats 4000000 in
set_option maxRecDepth 100000 in
theorem c_X7_take_12_11 (l : Launch) (E : Ev) {A : Nat → Prop} (ad : Nat → Nat) (hA : Oka 39 ad A) (sc : Nat → Int32) (ar : Nat → Nat → Int32) (bl : Int64) (sp dp n : Nat) (h4 : sp + n ≤ 64) (h5 : dp + n ≤ 64) (hfit : ∀ i, i < 64 → fits .short (.int (ar 37 i)) = true) : Ct l E yX7_take (.code yX7_take cX7_take 5 none) ({ frames := 1, cells := 0, slots := 0, locals := 30 }) A (cw E ad sc ar bl) [.ref (ad 12), .ref (ad 11), .int (nI sp), .int (nI dp), .int (nI n)] (none) (cw E ad sc (va_up ar 38 (va_cpy (ar 37) (ar 38) sp dp n)) bl) := by
  refine Ct.of (lv := [(0, .ref (ad 12)), (1, .ref (ad 11)), (2, .int (nI sp)), (3, .int (nI dp)), (4, .int (nI n))]) (by decide +kernel) (Nat.le_of_ble_eq_true rfl) rfl ?_
  intro zp ze zs zm za zb zh zc hc
  refine g_aload_n (pc := 0) hc 1 dX7_take_0 rfl rfl ?_
  refine gf_c11_places (pc := 1) hc tw_175 dX7_take_1 ?_
  refine g_iload_n (pc := 4) hc 2 dX7_take_4 rfl rfl ?_
  refine g_aload_n (pc := 5) hc 0 dX7_take_5 rfl rfl ?_
  refine gf_c12_places (pc := 6) hc tw_175 dX7_take_6 ?_
  refine g_iload_n (pc := 9) hc 3 dX7_take_9 rfl rfl ?_
  refine g_iload (pc := 10) hc 4 dX7_take_10 rfl ?_
  refine g_copyS (pc := 12) (ws' := cw E ad sc (va_up ar 38 (va_cpy (ar 37) (ar 38) sp dp n)) bl) hc (cw_D hA _ _ _) tw_956 tw_958 tw_957 tw_20 37 38 rfl rfl rfl sp dp n (by decide) h4 h5 (fun i hi => hfit _ (by omega)) ⟨by decide, Nat.le_of_ble_eq_true rfl⟩ rfl dX7_take_12 ?_
  exact g_vret (pc := 15) hc dX7_take_15 rfl rfl

set_option maxHeartbeats 4000000 in
set_option maxRecDepth 100000 in
theorem c_X7_take_12_12 (l : Launch) (E : Ev) {A : Nat → Prop} (ad : Nat → Nat) (hA : Oka 39 ad A) (sc : Nat → Int32) (ar : Nat → Nat → Int32) (bl : Int64) (sp dp n : Nat) (h4 : sp + n ≤ 64) (h5 : dp + n ≤ 64) (hfit : ∀ i, i < 64 → fits .short (.int (ar 38 i)) = true) : Ct l E yX7_take (.code yX7_take cX7_take 5 none) ({ frames := 1, cells := 0, slots := 0, locals := 30 }) A (cw E ad sc ar bl) [.ref (ad 12), .ref (ad 12), .int (nI sp), .int (nI dp), .int (nI n)] (none) (cw E ad sc (va_up ar 38 (va_cpy (ar 38) (ar 38) sp dp n)) bl) := by
  refine Ct.of (lv := [(0, .ref (ad 12)), (1, .ref (ad 12)), (2, .int (nI sp)), (3, .int (nI dp)), (4, .int (nI n))]) (by decide +kernel) (Nat.le_of_ble_eq_true rfl) rfl ?_
  intro zp ze zs zm za zb zh zc hc
  refine g_aload_n (pc := 0) hc 1 dX7_take_0 rfl rfl ?_
  refine gf_c12_places (pc := 1) hc tw_175 dX7_take_1 ?_
  refine g_iload_n (pc := 4) hc 2 dX7_take_4 rfl rfl ?_
  refine g_aload_n (pc := 5) hc 0 dX7_take_5 rfl rfl ?_
  refine gf_c12_places (pc := 6) hc tw_175 dX7_take_6 ?_
  refine g_iload_n (pc := 9) hc 3 dX7_take_9 rfl rfl ?_
  refine g_iload (pc := 10) hc 4 dX7_take_10 rfl ?_
  refine g_copyS (pc := 12) (ws' := cw E ad sc (va_up ar 38 (va_cpy (ar 38) (ar 38) sp dp n)) bl) hc (cw_D hA _ _ _) tw_956 tw_958 tw_957 tw_20 38 38 rfl rfl rfl sp dp n (by decide) h4 h5 (fun i hi => hfit _ (by omega)) ⟨by decide, Nat.le_of_ble_eq_true rfl⟩ rfl dX7_take_12 ?_
  exact g_vret (pc := 15) hc dX7_take_15 rfl rfl

theorem dX2_behindPloughs_0 : decode cX2_behindPloughs 0 = .ok (.iconst 0, 1) := by decide +kernel
theorem dX2_behindPloughs_1 : decode cX2_behindPloughs 1 = .ok (.istore 4, 2) := by decide +kernel
theorem dX2_behindPloughs_3 : decode cX2_behindPloughs 3 = .ok (.iload 4, 2) := by decide +kernel
theorem dX2_behindPloughs_5 : decode cX2_behindPloughs 5 = .ok (.aload_n 0, 1) := by decide +kernel
theorem dX2_behindPloughs_6 : decode cX2_behindPloughs 6 = .ok (.invokevirtual 29, 3) := by decide +kernel
theorem dX2_behindPloughs_9 : decode cX2_behindPloughs 9 = .ok (.if_icmp .ge 55, 3) := by decide +kernel
theorem dX2_behindPloughs_12 : decode cX2_behindPloughs 12 = .ok (.aload_n 1, 1) := by decide +kernel
theorem dX2_behindPloughs_13 : decode cX2_behindPloughs 13 = .ok (.iload 4, 2) := by decide +kernel
theorem dX2_behindPloughs_15 : decode cX2_behindPloughs 15 = .ok (.invokevirtual 61, 3) := by decide +kernel
theorem dX2_behindPloughs_18 : decode cX2_behindPloughs 18 = .ok (.ifCond .eq 12, 3) := by decide +kernel
theorem dX2_behindPloughs_21 : decode cX2_behindPloughs 21 = .ok (.aload_n 1, 1) := by decide +kernel
theorem dX2_behindPloughs_22 : decode cX2_behindPloughs 22 = .ok (.iload 4, 2) := by decide +kernel
theorem dX2_behindPloughs_24 : decode cX2_behindPloughs 24 = .ok (.invokevirtual 67, 3) := by decide +kernel
theorem dX2_behindPloughs_27 : decode cX2_behindPloughs 27 = .ok (.goto 4, 3) := by decide +kernel
theorem dX2_behindPloughs_30 : decode cX2_behindPloughs 30 = .ok (.iconst 0, 1) := by decide +kernel
theorem dX2_behindPloughs_31 : decode cX2_behindPloughs 31 = .ok (.istore 5, 2) := by decide +kernel
theorem dX2_behindPloughs_33 : decode cX2_behindPloughs 33 = .ok (.aload_n 0, 1) := by decide +kernel
theorem dX2_behindPloughs_34 : decode cX2_behindPloughs 34 = .ok (.getfield 22, 3) := by decide +kernel
theorem dX2_behindPloughs_37 : decode cX2_behindPloughs 37 = .ok (.iload 4, 2) := by decide +kernel
theorem dX2_behindPloughs_39 : decode cX2_behindPloughs 39 = .ok (.iload 5, 2) := by decide +kernel
theorem dX2_behindPloughs_41 : decode cX2_behindPloughs 41 = .ok (.iconst 0, 1) := by decide +kernel
theorem dX2_behindPloughs_42 : decode cX2_behindPloughs 42 = .ok (.sipush 9999, 3) := by decide +kernel
theorem dX2_behindPloughs_45 : decode cX2_behindPloughs 45 = .ok (.invokestatic 70, 3) := by decide +kernel
theorem dX2_behindPloughs_48 : decode cX2_behindPloughs 48 = .ok (.ifCond .eq 8, 3) := by decide +kernel
theorem dX2_behindPloughs_51 : decode cX2_behindPloughs 51 = .ok (.iload 5, 2) := by decide +kernel
theorem dX2_behindPloughs_53 : decode cX2_behindPloughs 53 = .ok (.goto 4, 3) := by decide +kernel
theorem dX2_behindPloughs_56 : decode cX2_behindPloughs 56 = .ok (.iconst 0, 1) := by decide +kernel
theorem dX2_behindPloughs_57 : decode cX2_behindPloughs 57 = .ok (.iastore, 1) := by decide +kernel
theorem dX2_behindPloughs_58 : decode cX2_behindPloughs 58 = .ok (.iinc 4 1, 3) := by decide +kernel
theorem dX2_behindPloughs_61 : decode cX2_behindPloughs 61 = .ok (.goto (-58), 3) := by decide +kernel
theorem dX2_behindPloughs_64 : decode cX2_behindPloughs 64 = .ok (.iconst 0, 1) := by decide +kernel
theorem dX2_behindPloughs_65 : decode cX2_behindPloughs 65 = .ok (.istore 4, 2) := by decide +kernel
theorem dX2_behindPloughs_67 : decode cX2_behindPloughs 67 = .ok (.iload 4, 2) := by decide +kernel
theorem dX2_behindPloughs_69 : decode cX2_behindPloughs 69 = .ok (.iload_n 3, 1) := by decide +kernel
theorem dX2_behindPloughs_70 : decode cX2_behindPloughs 70 = .ok (.if_icmp .ge 13, 3) := by decide +kernel
theorem dX2_behindPloughs_73 : decode cX2_behindPloughs 73 = .ok (.aload_n 0, 1) := by decide +kernel
theorem dX2_behindPloughs_74 : decode cX2_behindPloughs 74 = .ok (.invokevirtual 74, 3) := by decide +kernel
theorem dX2_behindPloughs_77 : decode cX2_behindPloughs 77 = .ok (.iinc 4 1, 3) := by decide +kernel
theorem dX2_behindPloughs_80 : decode cX2_behindPloughs 80 = .ok (.goto (-13), 3) := by decide +kernel
theorem dX2_behindPloughs_83 : decode cX2_behindPloughs 83 = .ok (.aload_n 0, 1) := by decide +kernel
theorem dX2_behindPloughs_84 : decode cX2_behindPloughs 84 = .ok (.getfield 22, 3) := by decide +kernel
theorem dX2_behindPloughs_87 : decode cX2_behindPloughs 87 = .ok (.iload_n 2, 1) := by decide +kernel
theorem dX2_behindPloughs_88 : decode cX2_behindPloughs 88 = .ok (.iaload, 1) := by decide +kernel
theorem dX2_behindPloughs_89 : decode cX2_behindPloughs 89 = .ok (.ireturn, 1) := by decide +kernel

set_option maxHeartbeats 4000000 in
set_option maxRecDepth 100000 in
theorem c_X2_behindPloughs (l : Launch) (E : Ev) {A : Nat → Prop} (ad : Nat → Nat) (hA : Oka 39 ad A) (sc : Nat → Int32) (ar : Nat → Nat → Int32) (bl : Int64) {wd hg : Nat} (p : Nat) (m : Nat) (hwd : sc 3 = nI wd) (hwd1 : 2 ≤ wd) (hwd2 : wd ≤ 8) (hhg : sc 4 = nI hg) (hhg1 : 2 ≤ hg) (hhg2 : hg ≤ 8) (hp : p < wd * hg) (hm50 : m ≤ 50) : Ct l E yX2_behindPloughs (.code yX2_behindPloughs cX2_behindPloughs 6 (some .int)) ({ frames := 4, cells := 0, slots := 0, locals := 90 }) A (cw E ad sc ar bl) [.ref (ad 1), .ref (ad 11), .int (nI p), .int (nI m)] (some (.int ((pls wd hg (lyf (sc 17) (ar 37) (ar 13) (wd * hg), (ar 14)) m).1 p))) (cw E (swN ad m) sc (va_up (va_up ar 13 (pls wd hg (lyf (sc 17) (ar 37) (ar 13) (wd * hg), (ar 14)) m).1) 14 (pls wd hg (lyf (sc 17) (ar 37) (ar 13) (wd * hg), (ar 14)) m).2) bl) := by
  have hm := prod64 hwd2 hhg2
  have hm4 := prod4 hwd1 hhg1
  refine Ct.of (lv := [(0, .ref (ad 1)), (1, .ref (ad 11)), (2, .int (nI p)), (3, .int (nI m))]) (by decide +kernel) (Nat.le_of_ble_eq_true rfl) rfl ?_
  intro zp ze zs zm za zb zh zc hc
  refine g_iconst (pc := 0) (v := nI 0) hc dX2_behindPloughs_0 (by decide) ?_
  refine g_istore (pc := 1) (lv' := [(0, .ref (ad 1)), (1, .ref (ad 11)), (2, .int (nI p)), (3, .int (nI m)), (4, .int (nI 0))]) hc dX2_behindPloughs_1 (by decide) rfl ?_
  have L3_1 : ∀ (kt t : Nat), t + kt = wd * hg → G zp l ze ({ frames := 4, cells := 0, slots := 0, locals := 90 }) zs zm za zb zh zc 0 0 (MQ zb (Qz E A (some (.int ((pls wd hg (lyf (sc 17) (ar 37) (ar 13) (wd * hg), (ar 14)) m).1 p))) (cw E (swN ad m) sc (va_up (va_up ar 13 (pls wd hg (lyf (sc 17) (ar 37) (ar 13) (wd * hg), (ar 14)) m).1) 14 (pls wd hg (lyf (sc 17) (ar 37) (ar 13) (wd * hg), (ar 14)) m).2) bl)) za zs 0 0 A) E A 6 (cw E ad sc (va_up ar 13 (lyf (sc 17) (ar 37) (ar 13) (t))) bl) (3) [(0, .ref (ad 1)), (1, .ref (ad 11)), (2, .int (nI p)), (3, .int (nI m)), (4, .int (nI (t)))] [] := by
    intro kt
    induction kt with
    | zero =>
      intro t lht
      have lhtn : wd * hg = t := by omega
      subst lhtn
      refine g_iload (pc := 3) hc 4 dX2_behindPloughs_3 rfl ?_
      refine g_aload_n (pc := 5) hc 0 dX2_behindPloughs_5 rfl rfl ?_
      refine g_callVi (pc := 6) (rest := [.int (nI (wd * hg))]) (As := []) hc (c_X2_paces l E ad hA sc (va_up ar 13 (lyf (sc 17) (ar 37) (ar 13) (wd * hg))) bl  (hwd) (hwd1) (hwd2) (hhg) (hhg1) (hhg2)) mi_X2_paces tw_400 1 rfl rfl rfl rfl ⟨rfl, rfl, by decide, by decide⟩ (Nat.le_of_ble_eq_true rfl) ⟨Nat.le_refl _, Nat.le_refl _⟩ rfl dX2_behindPloughs_6 ?_
      refine g_topi (v := nI (wd * hg)) rfl ?_
      refine g_icmp_ge_t (pc := 9) hc 64 dX2_behindPloughs_9 (by decide) (nI_le (by omega) (by omega)) ?_
      refine g_iconst (pc := 64) (v := nI 0) hc dX2_behindPloughs_64 (by decide) ?_
      refine g_istore (pc := 65) (lv' := [(0, .ref (ad 1)), (1, .ref (ad 11)), (2, .int (nI p)), (3, .int (nI m)), (4, .int (nI 0))]) hc dX2_behindPloughs_65 (by decide) rfl ?_
      have L67_2 : ∀ (kd d : Nat), d + kd = m → G zp l ze ({ frames := 4, cells := 0, slots := 0, locals := 90 }) zs zm za zb zh zc 0 0 (MQ zb (Qz E A (some (.int ((pls wd hg (lyf (sc 17) (ar 37) (ar 13) (wd * hg), (ar 14)) m).1 p))) (cw E (swN ad m) sc (va_up (va_up ar 13 (pls wd hg (lyf (sc 17) (ar 37) (ar 13) (wd * hg), (ar 14)) m).1) 14 (pls wd hg (lyf (sc 17) (ar 37) (ar 13) (wd * hg), (ar 14)) m).2) bl)) za zs 0 0 A) E A 6 (cw E (swN ad (d)) sc (va_up (va_up ar 13 (pls wd hg (lyf (sc 17) (ar 37) (ar 13) (wd * hg), ar 14) (d)).1) 14 (pls wd hg (lyf (sc 17) (ar 37) (ar 13) (wd * hg), ar 14) (d)).2) bl) (67) [(0, .ref (ad 1)), (1, .ref (ad 11)), (2, .int (nI p)), (3, .int (nI m)), (4, .int (nI (d)))] [] := by
        intro kd
        induction kd with
        | zero =>
          intro d lhd
          have lhdn : m = d := by omega
          subst lhdn
          refine g_iload (pc := 67) hc 4 dX2_behindPloughs_67 rfl ?_
          refine g_iload_n (pc := 69) hc 3 dX2_behindPloughs_69 rfl rfl ?_
          refine g_icmp_ge_t (pc := 70) hc 83 dX2_behindPloughs_70 (by decide) (nI_le (by omega) (by omega)) ?_
          refine g_aload_n (pc := 83) hc 0 dX2_behindPloughs_83 rfl rfl ?_
          refine gf_c1_lying (pc := 84) hc tw_39 dX2_behindPloughs_84 ?_
          refine g_iload_n (pc := 87) hc 2 dX2_behindPloughs_87 rfl rfl ?_
          refine la_c13 (pc := 88) hc (p) (rfl) (by omega) dX2_behindPloughs_88 ?_
          refine g_topi (v := (pls wd hg (lyf (sc 17) (ar 37) (ar 13) (wd * hg), ar 14) (m)).1 p) rfl ?_
          exact g_iret (pc := 89) hc dX2_behindPloughs_89 (rfl) (rfl)
        | succ kd ihd =>
          intro d lhd
          have lhdn : d < m := by omega
          refine g_iload (pc := 67) hc 4 dX2_behindPloughs_67 rfl ?_
          refine g_iload_n (pc := 69) hc 3 dX2_behindPloughs_69 rfl rfl ?_
          refine g_icmp_ge_f (pc := 70) hc 83 dX2_behindPloughs_70 (by decide) (nI_ge (by omega) (by omega)) ?_
          refine g_aload_n (pc := 73) hc 0 dX2_behindPloughs_73 rfl rfl ?_
          refine g_callVv (pc := 74) (rest := []) (As := []) hc (c_X2_ploughOnce l E (swN ad (d)) (oka_sw hA (d)) sc (va_up (va_up ar 13 (pls wd hg (lyf (sc 17) (ar 37) (ar 13) (wd * hg), ar 14) (d)).1) 14 (pls wd hg (lyf (sc 17) (ar 37) (ar 13) (wd * hg), ar 14) (d)).2) bl  (hwd) (hwd1) (hwd2) (hhg) (hhg1) (hhg2)) mi_X2_ploughOnce tw_683 1 rfl rfl rfl rfl ⟨rfl, rfl, by decide, by decide⟩ (Nat.le_of_ble_eq_true rfl) ⟨Nat.le_refl _, Nat.le_refl _⟩ rfl dX2_behindPloughs_74 ?_
          refine g_eq (ws' := cw E (swA (swN ad (d))) sc (va_up (va_up ar 13 (plo (pls wd hg (lyf (sc 17) (ar 37) (ar 13) (wd * hg), ar 14) (d)).1 wd hg (fil (nI 0) (pls wd hg (lyf (sc 17) (ar 37) (ar 13) (wd * hg), ar 14) (d)).2 64) (wd * hg))) 14 (pls wd hg (lyf (sc 17) (ar 37) (ar 13) (wd * hg), ar 14) (d)).1) bl) (lv' := [(0, .ref (ad 1)), (1, .ref (ad 11)), (2, .int (nI p)), (3, .int (nI m)), (4, .int (nI (d)))]) (rfl) rfl rfl ?_
          refine g_iinc (pc := 77) (v := nI (d + 1)) (lv' := [(0, .ref (ad 1)), (1, .ref (ad 11)), (2, .int (nI p)), (3, .int (nI m)), (4, .int (nI (d + 1)))]) hc 4 dX2_behindPloughs_77 rfl (nI_ofi d 1) (by decide) rfl ?_
          refine g_goto (pc := 80) hc 67 dX2_behindPloughs_80 (by decide) ?_
          exact g_eq (ws' := cw E (swN ad (d + 1)) sc (va_up (va_up ar 13 (pls wd hg (lyf (sc 17) (ar 37) (ar 13) (wd * hg), ar 14) (d + 1)).1) 14 (pls wd hg (lyf (sc 17) (ar 37) (ar 13) (wd * hg), ar 14) (d + 1)).2) bl) (lv' := [(0, .ref (ad 1)), (1, .ref (ad 11)), (2, .int (nI p)), (3, .int (nI m)), (4, .int (nI (d + 1)))]) (by rw [← swA_sw]; rfl) (rfl) rfl (ihd (d + 1) (by omega))
      exact g_eq (ws' := cw E (swN ad (0)) sc (va_up (va_up ar 13 (pls wd hg (lyf (sc 17) (ar 37) (ar 13) (wd * hg), ar 14) (0)).1) 14 (pls wd hg (lyf (sc 17) (ar 37) (ar 13) (wd * hg), ar 14) (0)).2) bl) (lv' := [(0, .ref (ad 1)), (1, .ref (ad 11)), (2, .int (nI p)), (3, .int (nI m)), (4, .int (nI (0)))]) (rfl) (rfl) rfl (L67_2 (m - 0) (0) (by omega))
    | succ kt iht =>
      intro t lht
      have lhtn : t < wd * hg := by omega
      refine g_iload (pc := 3) hc 4 dX2_behindPloughs_3 rfl ?_
      refine g_aload_n (pc := 5) hc 0 dX2_behindPloughs_5 rfl rfl ?_
      refine g_callVi (pc := 6) (rest := [.int (nI (t))]) (As := []) hc (c_X2_paces l E ad hA sc (va_up ar 13 (lyf (sc 17) (ar 37) (ar 13) (t))) bl  (hwd) (hwd1) (hwd2) (hhg) (hhg1) (hhg2)) mi_X2_paces tw_400 1 rfl rfl rfl rfl ⟨rfl, rfl, by decide, by decide⟩ (Nat.le_of_ble_eq_true rfl) ⟨Nat.le_refl _, Nat.le_refl _⟩ rfl dX2_behindPloughs_6 ?_
      refine g_topi (v := nI (wd * hg)) rfl ?_
      refine g_icmp_ge_f (pc := 9) hc 64 dX2_behindPloughs_9 (by decide) (nI_ge (by omega) (by omega)) ?_
      refine g_aload_n (pc := 12) hc 1 dX2_behindPloughs_12 rfl rfl ?_
      refine g_iload (pc := 13) hc 4 dX2_behindPloughs_13 rfl ?_
      refine g_callVi (pc := 15) (rest := []) (As := [.int (nI (t))]) hc (c_X7_has_11 l E ad hA sc (va_up ar 13 (lyf (sc 17) (ar 37) (ar 13) (t))) bl (nI (t))) mi_X7_has tw_674 11 rfl rfl rfl rfl ⟨rfl, rfl, by decide, by decide⟩ (Nat.le_of_ble_eq_true rfl) ⟨Nat.le_refl _, Nat.le_refl _⟩ rfl dX2_behindPloughs_15 ?_
      refine g_topi (v := bI (inx (nI (t)) (sc 17))) rfl ?_
      refine g_if_eq_b (pc := 18) hc 30 dX2_behindPloughs_18 (by decide) (fun c3 => ?_) (fun c3 => ?_)
      · refine g_iconst (pc := 30) (v := nI 0) hc dX2_behindPloughs_30 (by decide) ?_
        refine g_istore (pc := 31) (lv' := [(0, .ref (ad 1)), (1, .ref (ad 11)), (2, .int (nI p)), (3, .int (nI m)), (4, .int (nI (t))), (5, .int (nI 0))]) hc dX2_behindPloughs_31 (by decide) rfl ?_
        refine g_aload_n (pc := 33) hc 0 dX2_behindPloughs_33 rfl rfl ?_
        refine gf_c1_lying (pc := 34) hc tw_39 dX2_behindPloughs_34 ?_
        refine g_iload (pc := 37) hc 4 dX2_behindPloughs_37 rfl ?_
        refine g_iload (pc := 39) hc 5 dX2_behindPloughs_39 rfl ?_
        refine g_iconst (pc := 41) (v := nI 0) hc dX2_behindPloughs_41 (by decide) ?_
        refine g_sipush (pc := 42) (v := nI 9999) hc dX2_behindPloughs_42 (by decide) ?_
        refine g_callSNi (pc := 45) (rest := [.int (nI (t)), .ref (ad 13)]) (As := [.int (nI 0), .int (nI 0), .int (nI 9999)]) hc (c_X11_within l E ad hA sc (va_up ar 13 (lyf (sc 17) (ar 37) (ar 13) (t))) bl (nI 0) (nI 0) (nI 9999)) mi_X11_within tn_682 rfl ⟨rfl, rfl, by decide, by decide⟩ (Nat.le_of_ble_eq_true rfl) ⟨Nat.le_refl _, Nat.le_refl _⟩ rfl dX2_behindPloughs_45 ?_
        refine g_topi (v := bI (inr (nI 0) (nI 0) (nI 9999))) rfl ?_
        refine g_if_eq_b (pc := 48) hc 56 dX2_behindPloughs_48 (by decide) (fun c4 => ?_) (fun c4 => ?_)
        · refine g_iconst (pc := 56) (v := nI 0) hc dX2_behindPloughs_56 (by decide) ?_
          refine sa_c13 (pc := 57) hc hA (t) (rfl) (by omega) dX2_behindPloughs_57 ?_
          refine g_eq (ws' := cw E ad sc (va_up ar 13 (upd (lyf (sc 17) (ar 37) (ar 13) (t)) t (nI 0))) bl) (lv' := [(0, .ref (ad 1)), (1, .ref (ad 11)), (2, .int (nI p)), (3, .int (nI m)), (4, .int (nI (t))), (5, .int (nI 0))]) rfl rfl rfl ?_
          refine g_iinc (pc := 58) (v := nI (t + 1)) (lv' := [(0, .ref (ad 1)), (1, .ref (ad 11)), (2, .int (nI p)), (3, .int (nI m)), (4, .int (nI (t + 1))), (5, .int (nI 0))]) hc 4 dX2_behindPloughs_58 rfl (nI_ofi t 1) (by decide) rfl ?_
          refine g_goto (pc := 61) hc 3 dX2_behindPloughs_61 (by decide) ?_
          refine g_lv [0, 1, 2, 3, 4] (lv' := [(0, .ref (ad 1)), (1, .ref (ad 11)), (2, .int (nI p)), (3, .int (nI m)), (4, .int (nI (t + 1)))]) rfl ?_
          exact g_eq (ws' := cw E ad sc (va_up ar 13 (lyf (sc 17) (ar 37) (ar 13) (t + 1))) bl) (lv' := [(0, .ref (ad 1)), (1, .ref (ad 11)), (2, .int (nI p)), (3, .int (nI m)), (4, .int (nI (t + 1)))]) (by show _ = cw E ad sc (va_up ar 13 (upd _ _ (lyv _ _ _))) bl; unfold lyv; repeat (first | rw [if_pos c3] | rw [if_neg (ne_true_of_eq_false c3)] | rw [if_pos c4] | rw [if_neg (ne_true_of_eq_false c4)])) (rfl) rfl (iht (t + 1) (by omega))
        · refine g_iload (pc := 51) hc 5 dX2_behindPloughs_51 rfl ?_
          refine g_goto (pc := 53) hc 57 dX2_behindPloughs_53 (by decide) ?_
          refine sa_c13 (pc := 57) hc hA (t) (rfl) (by omega) dX2_behindPloughs_57 ?_
          refine g_eq (ws' := cw E ad sc (va_up ar 13 (upd (lyf (sc 17) (ar 37) (ar 13) (t)) t (nI 0))) bl) (lv' := [(0, .ref (ad 1)), (1, .ref (ad 11)), (2, .int (nI p)), (3, .int (nI m)), (4, .int (nI (t))), (5, .int (nI 0))]) rfl rfl rfl ?_
          refine g_iinc (pc := 58) (v := nI (t + 1)) (lv' := [(0, .ref (ad 1)), (1, .ref (ad 11)), (2, .int (nI p)), (3, .int (nI m)), (4, .int (nI (t + 1))), (5, .int (nI 0))]) hc 4 dX2_behindPloughs_58 rfl (nI_ofi t 1) (by decide) rfl ?_
          refine g_goto (pc := 61) hc 3 dX2_behindPloughs_61 (by decide) ?_
          refine g_lv [0, 1, 2, 3, 4] (lv' := [(0, .ref (ad 1)), (1, .ref (ad 11)), (2, .int (nI p)), (3, .int (nI m)), (4, .int (nI (t + 1)))]) rfl ?_
          exact g_eq (ws' := cw E ad sc (va_up ar 13 (lyf (sc 17) (ar 37) (ar 13) (t + 1))) bl) (lv' := [(0, .ref (ad 1)), (1, .ref (ad 11)), (2, .int (nI p)), (3, .int (nI m)), (4, .int (nI (t + 1)))]) (by show _ = cw E ad sc (va_up ar 13 (upd _ _ (lyv _ _ _))) bl; unfold lyv; repeat (first | rw [if_pos c3] | rw [if_neg (ne_true_of_eq_false c3)] | rw [if_pos c4] | rw [if_neg (ne_true_of_eq_false c4)])) (rfl) rfl (iht (t + 1) (by omega))
      · refine g_aload_n (pc := 21) hc 1 dX2_behindPloughs_21 rfl rfl ?_
        refine g_iload (pc := 22) hc 4 dX2_behindPloughs_22 rfl ?_
        refine g_callVi (pc := 24) (rest := []) (As := [.int (nI (t))]) hc (c_X7_at_11 l E ad hA sc (va_up ar 13 (lyf (sc 17) (ar 37) (ar 13) (t))) bl t (by omega)) mi_X7_at tw_678 11 rfl rfl rfl rfl ⟨rfl, rfl, by decide, by decide⟩ (Nat.le_of_ble_eq_true rfl) ⟨Nat.le_refl _, Nat.le_refl _⟩ rfl dX2_behindPloughs_24 ?_
        refine g_topi (v := (ar 37) t) rfl ?_
        refine g_goto (pc := 27) hc 31 dX2_behindPloughs_27 (by decide) ?_
        refine g_istore (pc := 31) (lv' := [(0, .ref (ad 1)), (1, .ref (ad 11)), (2, .int (nI p)), (3, .int (nI m)), (4, .int (nI (t))), (5, .int ((ar 37) t))]) hc dX2_behindPloughs_31 (by decide) rfl ?_
        refine g_aload_n (pc := 33) hc 0 dX2_behindPloughs_33 rfl rfl ?_
        refine gf_c1_lying (pc := 34) hc tw_39 dX2_behindPloughs_34 ?_
        refine g_iload (pc := 37) hc 4 dX2_behindPloughs_37 rfl ?_
        refine g_iload (pc := 39) hc 5 dX2_behindPloughs_39 rfl ?_
        refine g_iconst (pc := 41) (v := nI 0) hc dX2_behindPloughs_41 (by decide) ?_
        refine g_sipush (pc := 42) (v := nI 9999) hc dX2_behindPloughs_42 (by decide) ?_
        refine g_callSNi (pc := 45) (rest := [.int (nI (t)), .ref (ad 13)]) (As := [.int ((ar 37) t), .int (nI 0), .int (nI 9999)]) hc (c_X11_within l E ad hA sc (va_up ar 13 (lyf (sc 17) (ar 37) (ar 13) (t))) bl ((ar 37) t) (nI 0) (nI 9999)) mi_X11_within tn_682 rfl ⟨rfl, rfl, by decide, by decide⟩ (Nat.le_of_ble_eq_true rfl) ⟨Nat.le_refl _, Nat.le_refl _⟩ rfl dX2_behindPloughs_45 ?_
        refine g_topi (v := bI (inr ((ar 37) t) (nI 0) (nI 9999))) rfl ?_
        refine g_if_eq_b (pc := 48) hc 56 dX2_behindPloughs_48 (by decide) (fun c5 => ?_) (fun c5 => ?_)
        · refine g_iconst (pc := 56) (v := nI 0) hc dX2_behindPloughs_56 (by decide) ?_
          refine sa_c13 (pc := 57) hc hA (t) (rfl) (by omega) dX2_behindPloughs_57 ?_
          refine g_eq (ws' := cw E ad sc (va_up ar 13 (upd (lyf (sc 17) (ar 37) (ar 13) (t)) t (nI 0))) bl) (lv' := [(0, .ref (ad 1)), (1, .ref (ad 11)), (2, .int (nI p)), (3, .int (nI m)), (4, .int (nI (t))), (5, .int ((ar 37) t))]) rfl rfl rfl ?_
          refine g_iinc (pc := 58) (v := nI (t + 1)) (lv' := [(0, .ref (ad 1)), (1, .ref (ad 11)), (2, .int (nI p)), (3, .int (nI m)), (4, .int (nI (t + 1))), (5, .int ((ar 37) t))]) hc 4 dX2_behindPloughs_58 rfl (nI_ofi t 1) (by decide) rfl ?_
          refine g_goto (pc := 61) hc 3 dX2_behindPloughs_61 (by decide) ?_
          refine g_lv [0, 1, 2, 3, 4] (lv' := [(0, .ref (ad 1)), (1, .ref (ad 11)), (2, .int (nI p)), (3, .int (nI m)), (4, .int (nI (t + 1)))]) rfl ?_
          exact g_eq (ws' := cw E ad sc (va_up ar 13 (lyf (sc 17) (ar 37) (ar 13) (t + 1))) bl) (lv' := [(0, .ref (ad 1)), (1, .ref (ad 11)), (2, .int (nI p)), (3, .int (nI m)), (4, .int (nI (t + 1)))]) (by show _ = cw E ad sc (va_up ar 13 (upd _ _ (lyv _ _ _))) bl; unfold lyv; repeat (first | rw [if_pos c3] | rw [if_neg (ne_true_of_eq_false c3)] | rw [if_pos c5] | rw [if_neg (ne_true_of_eq_false c5)])) (rfl) rfl (iht (t + 1) (by omega))
        · refine g_iload (pc := 51) hc 5 dX2_behindPloughs_51 rfl ?_
          refine g_goto (pc := 53) hc 57 dX2_behindPloughs_53 (by decide) ?_
          refine sa_c13 (pc := 57) hc hA (t) (rfl) (by omega) dX2_behindPloughs_57 ?_
          refine g_eq (ws' := cw E ad sc (va_up ar 13 (upd (lyf (sc 17) (ar 37) (ar 13) (t)) t ((ar 37) t))) bl) (lv' := [(0, .ref (ad 1)), (1, .ref (ad 11)), (2, .int (nI p)), (3, .int (nI m)), (4, .int (nI (t))), (5, .int ((ar 37) t))]) rfl rfl rfl ?_
          refine g_iinc (pc := 58) (v := nI (t + 1)) (lv' := [(0, .ref (ad 1)), (1, .ref (ad 11)), (2, .int (nI p)), (3, .int (nI m)), (4, .int (nI (t + 1))), (5, .int ((ar 37) t))]) hc 4 dX2_behindPloughs_58 rfl (nI_ofi t 1) (by decide) rfl ?_
          refine g_goto (pc := 61) hc 3 dX2_behindPloughs_61 (by decide) ?_
          refine g_lv [0, 1, 2, 3, 4] (lv' := [(0, .ref (ad 1)), (1, .ref (ad 11)), (2, .int (nI p)), (3, .int (nI m)), (4, .int (nI (t + 1)))]) rfl ?_
          exact g_eq (ws' := cw E ad sc (va_up ar 13 (lyf (sc 17) (ar 37) (ar 13) (t + 1))) bl) (lv' := [(0, .ref (ad 1)), (1, .ref (ad 11)), (2, .int (nI p)), (3, .int (nI m)), (4, .int (nI (t + 1)))]) (by show _ = cw E ad sc (va_up ar 13 (upd _ _ (lyv _ _ _))) bl; unfold lyv; repeat (first | rw [if_pos c3] | rw [if_neg (ne_true_of_eq_false c3)] | rw [if_pos c5] | rw [if_neg (ne_true_of_eq_false c5)])) (rfl) rfl (iht (t + 1) (by omega))
  exact g_eq (ws' := cw E ad sc (va_up ar 13 (lyf (sc 17) (ar 37) (ar 13) (0))) bl) (lv' := [(0, .ref (ad 1)), (1, .ref (ad 11)), (2, .int (nI p)), (3, .int (nI m)), (4, .int (nI (0)))]) (rfl) (rfl) rfl (L3_1 (wd * hg - 0) (0) (by omega))
