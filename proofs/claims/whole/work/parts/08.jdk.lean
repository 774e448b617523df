theorem dX11_within_0 : decode cX11_within 0 = .ok (.iload_n 0, 1) := by decide +kernel
theorem dX11_within_1 : decode cX11_within 1 = .ok (.iload_n 1, 1) := by decide +kernel
theorem dX11_within_2 : decode cX11_within 2 = .ok (.if_icmp .lt 12, 3) := by decide +kernel
theorem dX11_within_5 : decode cX11_within 5 = .ok (.iload_n 0, 1) := by decide +kernel
theorem dX11_within_6 : decode cX11_within 6 = .ok (.iload_n 2, 1) := by decide +kernel
theorem dX11_within_7 : decode cX11_within 7 = .ok (.if_icmp .gt 7, 3) := by decide +kernel
theorem dX11_within_10 : decode cX11_within 10 = .ok (.iconst 1, 1) := by decide +kernel
theorem dX11_within_11 : decode cX11_within 11 = .ok (.goto 4, 3) := by decide +kernel
theorem dX11_within_14 : decode cX11_within 14 = .ok (.iconst 0, 1) := by decide +kernel
theorem dX11_within_15 : decode cX11_within 15 = .ok (.ireturn, 1) := by decide +kernel

set_option maxHeartbeats 4000000 in
set_option maxRecDepth 100000 in
theorem c_X11_within (l : Launch) (E : Ev) {A : Nat → Prop} (ad : Nat → Nat) (hA : Oka 39 ad A) (sc : Nat → Int32) (ar : Nat → Nat → Int32) (bl : Int64) (x : Int32) (y : Int32) (z : Int32) : Ct l E yX11_within (.code yX11_within cX11_within 3 (some .boolean)) ({ frames := 0, cells := 0, slots := 0, locals := 0 }) A (cw E ad sc ar bl) [.int x, .int y, .int z] (some (.int (bI (inr x y z)))) (cw E ad sc ar bl) := by
  refine Ct.of (lv := [(0, .int x), (1, .int y), (2, .int z)]) (by decide +kernel) (Nat.le_of_ble_eq_true rfl) rfl ?_
  intro zp ze zs zm za zb zh zc hc
  refine g_iload_n (pc := 0) hc 0 dX11_within_0 rfl rfl ?_
  refine g_iload_n (pc := 1) hc 1 dX11_within_1 rfl rfl ?_
  refine g_icmp_lt (pc := 2) hc 14 dX11_within_2 (by decide) (fun c1 => ?_) (fun c1 => ?_)
  · refine g_iconst (pc := 14) (v := nI 0) hc dX11_within_14 (by decide) ?_
    exact g_zret (pc := 15) hc dX11_within_15 (by decide) (by simp [bI, inr, c1] <;> rfl) (rfl)
  · refine g_iload_n (pc := 5) hc 0 dX11_within_5 rfl rfl ?_
    refine g_iload_n (pc := 6) hc 2 dX11_within_6 rfl rfl ?_
    refine g_icmp_gt (pc := 7) hc 14 dX11_within_7 (by decide) (fun c2 => ?_) (fun c2 => ?_)
    · refine g_iconst (pc := 14) (v := nI 0) hc dX11_within_14 (by decide) ?_
      exact g_zret (pc := 15) hc dX11_within_15 (by decide) (by simp [bI, inr, c1, c2] <;> rfl) (rfl)
    · refine g_iconst (pc := 10) (v := nI 1) hc dX11_within_10 (by decide) ?_
      refine g_goto (pc := 11) hc 15 dX11_within_11 (by decide) ?_
      exact g_zret (pc := 15) hc dX11_within_15 (by decide) (by simp [bI, inr, c1, c2] <;> rfl) (rfl)

theorem dX11_toInt_0 : decode cX11_toInt 0 = .ok (.iload_n 0, 1) := by decide +kernel
theorem dX11_toInt_1 : decode cX11_toInt 1 = .ok (.ifCond .eq 7, 3) := by decide +kernel
theorem dX11_toInt_4 : decode cX11_toInt 4 = .ok (.iconst 1, 1) := by decide +kernel
theorem dX11_toInt_5 : decode cX11_toInt 5 = .ok (.goto 4, 3) := by decide +kernel
theorem dX11_toInt_8 : decode cX11_toInt 8 = .ok (.iconst 0, 1) := by decide +kernel
theorem dX11_toInt_9 : decode cX11_toInt 9 = .ok (.ireturn, 1) := by decide +kernel

set_option maxHeartbeats 4000000 in
set_option maxRecDepth 100000 in
theorem c_X11_toInt (l : Launch) (E : Ev) {A : Nat → Prop} (ad : Nat → Nat) (hA : Oka 39 ad A) (sc : Nat → Int32) (ar : Nat → Nat → Int32) (bl : Int64) (x : Int32) : Ct l E yX11_toInt (.code yX11_toInt cX11_toInt 1 (some .int)) ({ frames := 0, cells := 0, slots := 0, locals := 0 }) A (cw E ad sc ar bl) [.int x] (some (.int (bI (!decide (x = 0))))) (cw E ad sc ar bl) := by
  refine Ct.of (lv := [(0, .int x)]) (by decide +kernel) (Nat.le_of_ble_eq_true rfl) rfl ?_
  intro zp ze zs zm za zb zh zc hc
  refine g_iload_n (pc := 0) hc 0 dX11_toInt_0 rfl rfl ?_
  refine g_if_eq (pc := 1) hc 8 dX11_toInt_1 (by decide) (fun c1 => ?_) (fun c1 => ?_)
  · refine g_iconst (pc := 8) (v := nI 0) hc dX11_toInt_8 (by decide) ?_
    exact g_iret (pc := 9) hc dX11_toInt_9 (by simp [bI, c1] <;> rfl) (rfl)
  · refine g_iconst (pc := 4) (v := nI 1) hc dX11_toInt_4 (by decide) ?_
    refine g_goto (pc := 5) hc 9 dX11_toInt_5 (by decide) ?_
    exact g_iret (pc := 9) hc dX11_toInt_9 (by simp [bI, c1] <;> rfl) (rfl)

theorem dX11_isKind_0 : decode cX11_isKind 0 = .ok (.iload_n 0, 1) := by decide +kernel
theorem dX11_isKind_1 : decode cX11_isKind 1 = .ok (.iconst 0, 1) := by decide +kernel
theorem dX11_isKind_2 : decode cX11_isKind 2 = .ok (.iconst 3, 1) := by decide +kernel
theorem dX11_isKind_3 : decode cX11_isKind 3 = .ok (.invokestatic 105, 3) := by decide +kernel
theorem dX11_isKind_6 : decode cX11_isKind 6 = .ok (.ireturn, 1) := by decide +kernel

set_option maxHeartbeats 4000000 in
set_option maxRecDepth 100000 in
theorem c_X11_isKind (l : Launch) (E : Ev) {A : Nat → Prop} (ad : Nat → Nat) (hA : Oka 39 ad A) (sc : Nat → Int32) (ar : Nat → Nat → Int32) (bl : Int64) (x : Int32) : Ct l E yX11_isKind (.code yX11_isKind cX11_isKind 1 (some .boolean)) ({ frames := 1, cells := 0, slots := 0, locals := 22 }) A (cw E ad sc ar bl) [.int x] (some (.int (bI (inr x (nI 0) (nI 3))))) (cw E ad sc ar bl) := by
  refine Ct.of (lv := [(0, .int x)]) (by decide +kernel) (Nat.le_of_ble_eq_true rfl) rfl ?_
  intro zp ze zs zm za zb zh zc hc
  refine g_iload_n (pc := 0) hc 0 dX11_isKind_0 rfl rfl ?_
  refine g_iconst (pc := 1) (v := nI 0) hc dX11_isKind_1 (by decide) ?_
  refine g_iconst (pc := 2) (v := nI 3) hc dX11_isKind_2 (by decide) ?_
  refine g_callSi (pc := 3) (rest := []) (As := [.int x, .int (nI 0), .int (nI 3)]) hc (c_X11_within l E ad hA sc ar bl x (nI 0) (nI 3)) mi_X11_within tw_305 rfl ⟨rfl, rfl, by decide, by decide⟩ (Nat.le_of_ble_eq_true rfl) ⟨Nat.le_refl _, Nat.le_refl _⟩ rfl dX11_isKind_3 ?_
  exact g_zret (pc := 6) hc dX11_isKind_6 (bI_nar _) (rfl) (rfl)

theorem dX11_isWalker_0 : decode cX11_isWalker 0 = .ok (.iload_n 0, 1) := by decide +kernel
theorem dX11_isWalker_1 : decode cX11_isWalker 1 = .ok (.iconst 0, 1) := by decide +kernel
theorem dX11_isWalker_2 : decode cX11_isWalker 2 = .ok (.iconst 4, 1) := by decide +kernel
theorem dX11_isWalker_3 : decode cX11_isWalker 3 = .ok (.invokestatic 105, 3) := by decide +kernel
theorem dX11_isWalker_6 : decode cX11_isWalker 6 = .ok (.ireturn, 1) := by decide +kernel

set_option maxHeartbeats 4000000 in
set_option maxRecDepth 100000 in
theorem c_X11_isWalker (l : Launch) (E : Ev) {A : Nat → Prop} (ad : Nat → Nat) (hA : Oka 39 ad A) (sc : Nat → Int32) (ar : Nat → Nat → Int32) (bl : Int64) (x : Int32) : Ct l E yX11_isWalker (.code yX11_isWalker cX11_isWalker 1 (some .boolean)) ({ frames := 1, cells := 0, slots := 0, locals := 22 }) A (cw E ad sc ar bl) [.int x] (some (.int (bI (inr x (nI 0) (nI 4))))) (cw E ad sc ar bl) := by
  refine Ct.of (lv := [(0, .int x)]) (by decide +kernel) (Nat.le_of_ble_eq_true rfl) rfl ?_
  intro zp ze zs zm za zb zh zc hc
  refine g_iload_n (pc := 0) hc 0 dX11_isWalker_0 rfl rfl ?_
  refine g_iconst (pc := 1) (v := nI 0) hc dX11_isWalker_1 (by decide) ?_
  refine g_iconst (pc := 2) (v := nI 4) hc dX11_isWalker_2 (by decide) ?_
  refine g_callSi (pc := 3) (rest := []) (As := [.int x, .int (nI 0), .int (nI 4)]) hc (c_X11_within l E ad hA sc ar bl x (nI 0) (nI 4)) mi_X11_within tw_305 rfl ⟨rfl, rfl, by decide, by decide⟩ (Nat.le_of_ble_eq_true rfl) ⟨Nat.le_refl _, Nat.le_refl _⟩ rfl dX11_isWalker_3 ?_
  exact g_zret (pc := 6) hc dX11_isWalker_6 (bI_nar _) (rfl) (rfl)

theorem dX11_isPeriod_0 : decode cX11_isPeriod 0 = .ok (.iload_n 0, 1) := by decide +kernel
theorem dX11_isPeriod_1 : decode cX11_isPeriod 1 = .ok (.iconst 0, 1) := by decide +kernel
theorem dX11_isPeriod_2 : decode cX11_isPeriod 2 = .ok (.iconst 2, 1) := by decide +kernel
theorem dX11_isPeriod_3 : decode cX11_isPeriod 3 = .ok (.invokestatic 105, 3) := by decide +kernel
theorem dX11_isPeriod_6 : decode cX11_isPeriod 6 = .ok (.ireturn, 1) := by decide +kernel

set_option maxHeartbeats 4000000 in
set_option maxRecDepth 100000 in
theorem c_X11_isPeriod (l : Launch) (E : Ev) {A : Nat → Prop} (ad : Nat → Nat) (hA : Oka 39 ad A) (sc : Nat → Int32) (ar : Nat → Nat → Int32) (bl : Int64) (x : Int32) : Ct l E yX11_isPeriod (.code yX11_isPeriod cX11_isPeriod 1 (some .boolean)) ({ frames := 1, cells := 0, slots := 0, locals := 22 }) A (cw E ad sc ar bl) [.int x] (some (.int (bI (inr x (nI 0) (nI 2))))) (cw E ad sc ar bl) := by
  refine Ct.of (lv := [(0, .int x)]) (by decide +kernel) (Nat.le_of_ble_eq_true rfl) rfl ?_
  intro zp ze zs zm za zb zh zc hc
  refine g_iload_n (pc := 0) hc 0 dX11_isPeriod_0 rfl rfl ?_
  refine g_iconst (pc := 1) (v := nI 0) hc dX11_isPeriod_1 (by decide) ?_
  refine g_iconst (pc := 2) (v := nI 2) hc dX11_isPeriod_2 (by decide) ?_
  refine g_callSi (pc := 3) (rest := []) (As := [.int x, .int (nI 0), .int (nI 2)]) hc (c_X11_within l E ad hA sc ar bl x (nI 0) (nI 2)) mi_X11_within tw_305 rfl ⟨rfl, rfl, by decide, by decide⟩ (Nat.le_of_ble_eq_true rfl) ⟨Nat.le_refl _, Nat.le_refl _⟩ rfl dX11_isPeriod_3 ?_
  exact g_zret (pc := 6) hc dX11_isPeriod_6 (bI_nar _) (rfl) (rfl)

theorem dX11_isSheet_0 : decode cX11_isSheet 0 = .ok (.iload_n 0, 1) := by decide +kernel
theorem dX11_isSheet_1 : decode cX11_isSheet 1 = .ok (.iconst 0, 1) := by decide +kernel
theorem dX11_isSheet_2 : decode cX11_isSheet 2 = .ok (.iconst 1, 1) := by decide +kernel
theorem dX11_isSheet_3 : decode cX11_isSheet 3 = .ok (.invokestatic 105, 3) := by decide +kernel
theorem dX11_isSheet_6 : decode cX11_isSheet 6 = .ok (.ireturn, 1) := by decide +kernel

set_option maxHeartbeats 4000000 in
set_option maxRecDepth 100000 in
theorem c_X11_isSheet (l : Launch) (E : Ev) {A : Nat → Prop} (ad : Nat → Nat) (hA : Oka 39 ad A) (sc : Nat → Int32) (ar : Nat → Nat → Int32) (bl : Int64) (x : Int32) : Ct l E yX11_isSheet (.code yX11_isSheet cX11_isSheet 1 (some .boolean)) ({ frames := 1, cells := 0, slots := 0, locals := 22 }) A (cw E ad sc ar bl) [.int x] (some (.int (bI (inr x (nI 0) (nI 1))))) (cw E ad sc ar bl) := by
  refine Ct.of (lv := [(0, .int x)]) (by decide +kernel) (Nat.le_of_ble_eq_true rfl) rfl ?_
  intro zp ze zs zm za zb zh zc hc
  refine g_iload_n (pc := 0) hc 0 dX11_isSheet_0 rfl rfl ?_
  refine g_iconst (pc := 1) (v := nI 0) hc dX11_isSheet_1 (by decide) ?_
  refine g_iconst (pc := 2) (v := nI 1) hc dX11_isSheet_2 (by decide) ?_
  refine g_callSi (pc := 3) (rest := []) (As := [.int x, .int (nI 0), .int (nI 1)]) hc (c_X11_within l E ad hA sc ar bl x (nI 0) (nI 1)) mi_X11_within tw_305 rfl ⟨rfl, rfl, by decide, by decide⟩ (Nat.le_of_ble_eq_true rfl) ⟨Nat.le_refl _, Nat.le_refl _⟩ rfl dX11_isSheet_3 ?_
  exact g_zret (pc := 6) hc dX11_isSheet_6 (bI_nar _) (rfl) (rfl)

theorem dJ7_fill_53178_0 : decode cJ7_fill_53178 0 = .ok (.iconst 0, 1) := by decide +kernel
theorem dJ7_fill_53178_1 : decode cJ7_fill_53178 1 = .ok (.istore_n 2, 1) := by decide +kernel
theorem dJ7_fill_53178_2 : decode cJ7_fill_53178 2 = .ok (.aload_n 0, 1) := by decide +kernel
theorem dJ7_fill_53178_3 : decode cJ7_fill_53178 3 = .ok (.arraylength, 1) := by decide +kernel
theorem dJ7_fill_53178_4 : decode cJ7_fill_53178 4 = .ok (.istore_n 3, 1) := by decide +kernel
theorem dJ7_fill_53178_5 : decode cJ7_fill_53178 5 = .ok (.iload_n 2, 1) := by decide +kernel
theorem dJ7_fill_53178_6 : decode cJ7_fill_53178 6 = .ok (.iload_n 3, 1) := by decide +kernel
theorem dJ7_fill_53178_7 : decode cJ7_fill_53178 7 = .ok (.if_icmp .ge 13, 3) := by decide +kernel
theorem dJ7_fill_53178_10 : decode cJ7_fill_53178 10 = .ok (.aload_n 0, 1) := by decide +kernel
theorem dJ7_fill_53178_11 : decode cJ7_fill_53178 11 = .ok (.iload_n 2, 1) := by decide +kernel
theorem dJ7_fill_53178_12 : decode cJ7_fill_53178 12 = .ok (.iload_n 1, 1) := by decide +kernel
theorem dJ7_fill_53178_13 : decode cJ7_fill_53178 13 = .ok (.iastore, 1) := by decide +kernel
theorem dJ7_fill_53178_14 : decode cJ7_fill_53178 14 = .ok (.iinc 2 1, 3) := by decide +kernel
theorem dJ7_fill_53178_17 : decode cJ7_fill_53178 17 = .ok (.goto (-12), 3) := by decide +kernel
theorem dJ7_fill_53178_20 : decode cJ7_fill_53178 20 = .ok (.return_, 1) := by decide +kernel

set_option maxHeartbeats 4000000 in
set_option maxRecDepth 100000 in
theorem c_fill14 (l : Launch) (E : Ev) {A : Nat → Prop} (ad : Nat → Nat) (hA : Oka 39 ad A) (sc : Nat → Int32) (ar : Nat → Nat → Int32) (bl : Int64) (v : Int32) : Ct l E yJ7_fill_53178 (.code yJ7_fill_53178 cJ7_fill_53178 4 none) ({ frames := 0, cells := 0, slots := 0, locals := 0 }) A (cw E ad sc ar bl) [.ref (ad 14), .int v] (none) (cw E ad sc (va_up ar 14 (fil v (ar 14) 64)) bl) := by
  refine Ct.of (lv := [(0, .ref (ad 14)), (1, .int v)]) (by decide +kernel) (Nat.le_of_ble_eq_true rfl) rfl ?_
  intro zp ze zs zm za zb zh zc hc
  refine g_iconst (pc := 0) (v := nI 0) hc dJ7_fill_53178_0 (by decide) ?_
  refine g_istore_n (pc := 1) (lv' := [(0, .ref (ad 14)), (1, .int v), (2, .int (nI 0))]) hc dJ7_fill_53178_1 rfl (by decide) rfl ?_
  refine g_aload_n (pc := 2) hc 0 dJ7_fill_53178_2 rfl rfl ?_
  refine g_alen (pc := 3) hc 14 1 rfl rfl (v := nI 64) rfl dJ7_fill_53178_3 ?_
  refine g_istore_n (pc := 4) (lv' := [(0, .ref (ad 14)), (1, .int v), (2, .int (nI 0)), (3, .int (nI 64))]) hc dJ7_fill_53178_4 rfl (by decide) rfl ?_
  have L5_1 : ∀ (ki i : Nat), i + ki = 64 → G zp l ze ({ frames := 0, cells := 0, slots := 0, locals := 0 }) zs zm za zb zh zc 0 0 (MQ zb (Qz E A (none) (cw E ad sc (va_up ar 14 (fil v (ar 14) 64)) bl)) za zs 0 0 A) E A 4 (cw E ad sc (va_up ar 14 (fil v (ar 14) (i))) bl) (5) [(0, .ref (ad 14)), (1, .int v), (2, .int (nI (i))), (3, .int (nI 64))] [] := by
    intro ki
    induction ki with
    | zero =>
      intro i lhi
      have lhin : 64 = i := by omega
      subst lhin
      refine g_iload_n (pc := 5) hc 2 dJ7_fill_53178_5 rfl rfl ?_
      refine g_iload_n (pc := 6) hc 3 dJ7_fill_53178_6 rfl rfl ?_
      refine g_icmp_ge_t (pc := 7) hc 20 dJ7_fill_53178_7 (by decide) (nI_le (by omega) (by omega)) ?_
      exact g_vret (pc := 20) hc dJ7_fill_53178_20 rfl (rfl)
    | succ ki ihi =>
      intro i lhi
      have lhin : i < 64 := by omega
      refine g_iload_n (pc := 5) hc 2 dJ7_fill_53178_5 rfl rfl ?_
      refine g_iload_n (pc := 6) hc 3 dJ7_fill_53178_6 rfl rfl ?_
      refine g_icmp_ge_f (pc := 7) hc 20 dJ7_fill_53178_7 (by decide) (nI_ge (by omega) (by omega)) ?_
      refine g_aload_n (pc := 10) hc 0 dJ7_fill_53178_10 rfl rfl ?_
      refine g_iload_n (pc := 11) hc 2 dJ7_fill_53178_11 rfl rfl ?_
      refine g_iload_n (pc := 12) hc 1 dJ7_fill_53178_12 rfl rfl ?_
      refine sa_c14 (pc := 13) hc hA (i) (rfl) (by omega) dJ7_fill_53178_13 ?_
      refine g_eq (ws' := cw E ad sc (va_up ar 14 (upd (fil v (ar 14) (i)) i v)) bl) (lv' := [(0, .ref (ad 14)), (1, .int v), (2, .int (nI (i))), (3, .int (nI 64))]) rfl rfl rfl ?_
      refine g_iinc (pc := 14) (v := nI (i + 1)) (lv' := [(0, .ref (ad 14)), (1, .int v), (2, .int (nI (i + 1))), (3, .int (nI 64))]) hc 2 dJ7_fill_53178_14 rfl (nI_ofi i 1) (by decide) rfl ?_
      refine g_goto (pc := 17) hc 5 dJ7_fill_53178_17 (by decide) ?_
      exact g_eq (ws' := cw E ad sc (va_up ar 14 (fil v (ar 14) (i + 1))) bl) (lv' := [(0, .ref (ad 14)), (1, .int v), (2, .int (nI (i + 1))), (3, .int (nI 64))]) (by rw [fil_succ]) (rfl) rfl (ihi (i + 1) (by omega))
  exact g_eq (ws' := cw E ad sc (va_up ar 14 (fil v (ar 14) (0))) bl) (lv' := [(0, .ref (ad 14)), (1, .int v), (2, .int (nI (0))), (3, .int (nI 64))]) (by rw [fil_0]; rfl) (rfl) rfl (L5_1 (64 - 0) (0) (by omega))

set_option maxHeartbeats 4000000 in
set_option maxRecDepth 100000 in
theorem c_fill19 (l : Launch) (E : Ev) {A : Nat → Prop} (ad : Nat → Nat) (hA : Oka 39 ad A) (sc : Nat → Int32) (ar : Nat → Nat → Int32) (bl : Int64) (v : Int32) : Ct l E yJ7_fill_53178 (.code yJ7_fill_53178 cJ7_fill_53178 4 none) ({ frames := 0, cells := 0, slots := 0, locals := 0 }) A (cw E ad sc ar bl) [.ref (ad 19), .int v] (none) (cw E ad sc (va_up ar 19 (fil v (ar 19) 240)) bl) := by
  refine Ct.of (lv := [(0, .ref (ad 19)), (1, .int v)]) (by decide +kernel) (Nat.le_of_ble_eq_true rfl) rfl ?_
  intro zp ze zs zm za zb zh zc hc
  refine g_iconst (pc := 0) (v := nI 0) hc dJ7_fill_53178_0 (by decide) ?_
  refine g_istore_n (pc := 1) (lv' := [(0, .ref (ad 19)), (1, .int v), (2, .int (nI 0))]) hc dJ7_fill_53178_1 rfl (by decide) rfl ?_
  refine g_aload_n (pc := 2) hc 0 dJ7_fill_53178_2 rfl rfl ?_
  refine g_alen (pc := 3) hc 19 1 rfl rfl (v := nI 240) rfl dJ7_fill_53178_3 ?_
  refine g_istore_n (pc := 4) (lv' := [(0, .ref (ad 19)), (1, .int v), (2, .int (nI 0)), (3, .int (nI 240))]) hc dJ7_fill_53178_4 rfl (by decide) rfl ?_
  have L5_1 : ∀ (ki i : Nat), i + ki = 240 → G zp l ze ({ frames := 0, cells := 0, slots := 0, locals := 0 }) zs zm za zb zh zc 0 0 (MQ zb (Qz E A (none) (cw E ad sc (va_up ar 19 (fil v (ar 19) 240)) bl)) za zs 0 0 A) E A 4 (cw E ad sc (va_up ar 19 (fil v (ar 19) (i))) bl) (5) [(0, .ref (ad 19)), (1, .int v), (2, .int (nI (i))), (3, .int (nI 240))] [] := by
    intro ki
    induction ki with
    | zero =>
      intro i lhi
      have lhin : 240 = i := by omega
      subst lhin
      refine g_iload_n (pc := 5) hc 2 dJ7_fill_53178_5 rfl rfl ?_
      refine g_iload_n (pc := 6) hc 3 dJ7_fill_53178_6 rfl rfl ?_
      refine g_icmp_ge_t (pc := 7) hc 20 dJ7_fill_53178_7 (by decide) (nI_le (by omega) (by omega)) ?_
      exact g_vret (pc := 20) hc dJ7_fill_53178_20 rfl (rfl)
    | succ ki ihi =>
      intro i lhi
      have lhin : i < 240 := by omega
      refine g_iload_n (pc := 5) hc 2 dJ7_fill_53178_5 rfl rfl ?_
      refine g_iload_n (pc := 6) hc 3 dJ7_fill_53178_6 rfl rfl ?_
      refine g_icmp_ge_f (pc := 7) hc 20 dJ7_fill_53178_7 (by decide) (nI_ge (by omega) (by omega)) ?_
      refine g_aload_n (pc := 10) hc 0 dJ7_fill_53178_10 rfl rfl ?_
      refine g_iload_n (pc := 11) hc 2 dJ7_fill_53178_11 rfl rfl ?_
      refine g_iload_n (pc := 12) hc 1 dJ7_fill_53178_12 rfl rfl ?_
      refine sa_c19 (pc := 13) hc hA (i) (rfl) (by omega) dJ7_fill_53178_13 ?_
      refine g_eq (ws' := cw E ad sc (va_up ar 19 (upd (fil v (ar 19) (i)) i v)) bl) (lv' := [(0, .ref (ad 19)), (1, .int v), (2, .int (nI (i))), (3, .int (nI 240))]) rfl rfl rfl ?_
      refine g_iinc (pc := 14) (v := nI (i + 1)) (lv' := [(0, .ref (ad 19)), (1, .int v), (2, .int (nI (i + 1))), (3, .int (nI 240))]) hc 2 dJ7_fill_53178_14 rfl (nI_ofi i 1) (by decide) rfl ?_
      refine g_goto (pc := 17) hc 5 dJ7_fill_53178_17 (by decide) ?_
      exact g_eq (ws' := cw E ad sc (va_up ar 19 (fil v (ar 19) (i + 1))) bl) (lv' := [(0, .ref (ad 19)), (1, .int v), (2, .int (nI (i + 1))), (3, .int (nI 240))]) (by rw [fil_succ]) (rfl) rfl (ihi (i + 1) (by omega))
  exact g_eq (ws' := cw E ad sc (va_up ar 19 (fil v (ar 19) (0))) bl) (lv' := [(0, .ref (ad 19)), (1, .int v), (2, .int (nI (0))), (3, .int (nI 240))]) (by rw [fil_0]; rfl) (rfl) rfl (L5_1 (240 - 0) (0) (by omega))

set_option maxHeartbeats 4000000 in
set_option maxRecDepth 100000 in
theorem c_fill20 (l : Launch) (E : Ev) {A : Nat → Prop} (ad : Nat → Nat) (hA : Oka 39 ad A) (sc : Nat → Int32) (ar : Nat → Nat → Int32) (bl : Int64) (v : Int32) : Ct l E yJ7_fill_53178 (.code yJ7_fill_53178 cJ7_fill_53178 4 none) ({ frames := 0, cells := 0, slots := 0, locals := 0 }) A (cw E ad sc ar bl) [.ref (ad 20), .int v] (none) (cw E ad sc (va_up ar 20 (fil v (ar 20) 1920)) bl) := by
  refine Ct.of (lv := [(0, .ref (ad 20)), (1, .int v)]) (by decide +kernel) (Nat.le_of_ble_eq_true rfl) rfl ?_
  intro zp ze zs zm za zb zh zc hc
  refine g_iconst (pc := 0) (v := nI 0) hc dJ7_fill_53178_0 (by decide) ?_
  refine g_istore_n (pc := 1) (lv' := [(0, .ref (ad 20)), (1, .int v), (2, .int (nI 0))]) hc dJ7_fill_53178_1 rfl (by decide) rfl ?_
  refine g_aload_n (pc := 2) hc 0 dJ7_fill_53178_2 rfl rfl ?_
  refine g_alen (pc := 3) hc 20 1 rfl rfl (v := nI 1920) rfl dJ7_fill_53178_3 ?_
  refine g_istore_n (pc := 4) (lv' := [(0, .ref (ad 20)), (1, .int v), (2, .int (nI 0)), (3, .int (nI 1920))]) hc dJ7_fill_53178_4 rfl (by decide) rfl ?_
  have L5_1 : ∀ (ki i : Nat), i + ki = 1920 → G zp l ze ({ frames := 0, cells := 0, slots := 0, locals := 0 }) zs zm za zb zh zc 0 0 (MQ zb (Qz E A (none) (cw E ad sc (va_up ar 20 (fil v (ar 20) 1920)) bl)) za zs 0 0 A) E A 4 (cw E ad sc (va_up ar 20 (fil v (ar 20) (i))) bl) (5) [(0, .ref (ad 20)), (1, .int v), (2, .int (nI (i))), (3, .int (nI 1920))] [] := by
    intro ki
    induction ki with
    | zero =>
      intro i lhi
      have lhin : 1920 = i := by omega
      subst lhin
      refine g_iload_n (pc := 5) hc 2 dJ7_fill_53178_5 rfl rfl ?_
      refine g_iload_n (pc := 6) hc 3 dJ7_fill_53178_6 rfl rfl ?_
      refine g_icmp_ge_t (pc := 7) hc 20 dJ7_fill_53178_7 (by decide) (nI_le (by omega) (by omega)) ?_
      exact g_vret (pc := 20) hc dJ7_fill_53178_20 rfl (rfl)
    | succ ki ihi =>
      intro i lhi
      have lhin : i < 1920 := by omega
      refine g_iload_n (pc := 5) hc 2 dJ7_fill_53178_5 rfl rfl ?_
      refine g_iload_n (pc := 6) hc 3 dJ7_fill_53178_6 rfl rfl ?_
      refine g_icmp_ge_f (pc := 7) hc 20 dJ7_fill_53178_7 (by decide) (nI_ge (by omega) (by omega)) ?_
      refine g_aload_n (pc := 10) hc 0 dJ7_fill_53178_10 rfl rfl ?_
      refine g_iload_n (pc := 11) hc 2 dJ7_fill_53178_11 rfl rfl ?_
      refine g_iload_n (pc := 12) hc 1 dJ7_fill_53178_12 rfl rfl ?_
      refine sa_c20 (pc := 13) hc hA (i) (rfl) (by omega) dJ7_fill_53178_13 ?_
      refine g_eq (ws' := cw E ad sc (va_up ar 20 (upd (fil v (ar 20) (i)) i v)) bl) (lv' := [(0, .ref (ad 20)), (1, .int v), (2, .int (nI (i))), (3, .int (nI 1920))]) rfl rfl rfl ?_
      refine g_iinc (pc := 14) (v := nI (i + 1)) (lv' := [(0, .ref (ad 20)), (1, .int v), (2, .int (nI (i + 1))), (3, .int (nI 1920))]) hc 2 dJ7_fill_53178_14 rfl (nI_ofi i 1) (by decide) rfl ?_
      refine g_goto (pc := 17) hc 5 dJ7_fill_53178_17 (by decide) ?_
      exact g_eq (ws' := cw E ad sc (va_up ar 20 (fil v (ar 20) (i + 1))) bl) (lv' := [(0, .ref (ad 20)), (1, .int v), (2, .int (nI (i + 1))), (3, .int (nI 1920))]) (by rw [fil_succ]) (rfl) rfl (ihi (i + 1) (by omega))
  exact g_eq (ws' := cw E ad sc (va_up ar 20 (fil v (ar 20) (0))) bl) (lv' := [(0, .ref (ad 20)), (1, .int v), (2, .int (nI (0))), (3, .int (nI 1920))]) (by rw [fil_0]; rfl) (rfl) rfl (L5_1 (1920 - 0) (0) (by omega))
