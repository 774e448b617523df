/-! THE LAW, from its entry -/
theorem lw_oka {E : Ev} {ad : Nat → Nat} {A : Nat → Prop} (h : Oka 39 ad A) (sc : Nat → Int32) (ar : Nat → Nat → Int32) (bl : Int64) : Oka 39 ad (adr (cw E ad sc ar bl)) := oka_of (ws := cw E ad sc ar bl) ⟨(cw_D h sc ar bl).1, fun k q hk => ⟨k, q, hk, rfl⟩⟩ rfl
theorem law_G {p : Program} {e : Env} {s : State} {m : MethodId} {below : List Frame} {meth : Method} {c : Code} (l : Launch) {b L : Nat} {xs : Nat → Int32} {E : Ev} (hL : L ≤ 3072) (hc : Cx p s m #[Value.ref b] meth c E (A0 s) R_law code 4 ret) (hX : va_X b L xs s s.heap) (hbl : b < s.heap.size) : G p l e room_1 s m #[Value.ref b] below meth c 0 0 (lw_Z below #[Value.ref b] s) E (A0 s) 4 [] 0 [(0, .ref b)] [] := by
  have hF : ∀ q : Nat, s.heap.size ≤ q → A0 s q := fun _ h => h
  have hD0 : va_D (A0 s) [] := ⟨fun i j p q h => by simp at h, fun k q h => by simp at h⟩
  refine g_new (pc := 0) (C := RX11) (T := TX11) (N := 15) (ci := 11) (fs := [.null, .null, .null, .null, .null, .null, .null, .null, .null, .null, .null, .null, .int 0, .int 0, .int 0]) hc hF hD0 inX11 tyX11 tyX11_ok tw_22 tw_23 tw_1 rfl (by decide +kernel) (Nat.le_of_ble_eq_true rfl) (Nat.le_of_ble_eq_true rfl) dlw_0 (fun q0 hD => ?_)
  refine g_eq (ws' := [(q0, .inr (11, [.null, .null, .null, .null, .null, .null, .null, .null, .null, .null, .null, .null, .int 0, .int 0, .int 0]))]) (lv' := [(0, .ref b)]) rfl rfl rfl ?_
  have hD : va_D (A0 s) [(q0, .inr (11, [.null, .null, .null, .null, .null, .null, .null, .null, .null, .null, .null, .null, .int 0, .int 0, .int 0]))] := hD
  refine g_dup (pc := 3) hc dlw_3 rfl ?_
  refine g_callI (pc := 4) (rest := [.ref q0]) (As := []) hc hF (c_X11_init l E q0 hD) mi_X11_init rfl tw_25 tw_24 rfl ⟨rfl, rfl, Nat.le_of_ble_eq_true rfl, Nat.le_of_ble_eq_true rfl⟩ (Nat.le_of_ble_eq_true rfl) ⟨Nat.le_of_ble_eq_true rfl, Nat.le_of_ble_eq_true rfl⟩ rfl dlw_4 (fun wz hz hD => ?_)
  obtain ⟨ad, e0, hA, rfl⟩ := hz
  refine g_astore_n (pc := 7) (lv' := [(0, .ref b), (1, .ref q0)]) hc dlw_7 rfl (by decide) rfl ?_
  refine g_new (pc := 8) (C := RX12) (T := TX12) (N := 43) (ci := 12) (fs := [.int 0, .int 0, .null, .int 0, .int 0, .null, .null, .null, .int 0, .null, .null, .null, .null, .null, .int 0, .int 0, .null, .null, .int 0, .int 0, .null, .null, .null, .null, .null, .null, .null, .null, .null, .null, .null, .null, .null, .null, .null, .null, .int 0, .int 0, .int 0, .int 0, .int 0, .null, .null]) hc hF hD inX12 tyX12 tyX12_ok tw_995 tw_996 tw_13 rfl (by decide +kernel) (Nat.le_of_ble_eq_true rfl) (Nat.le_of_ble_eq_true rfl) dlw_8 (fun q1 hD3 => ?_)
  have hq1 : va_D (fun q => A0 s q ∧ ¬ adr (cw E ad sc0 ar0 0) q) [(q1, .inr (12, [.int 0, .int 0, .null, .int 0, .int 0, .null, .null, .null, .int 0, .null, .null, .null, .null, .null, .int 0, .int 0, .null, .null, .int 0, .int 0, .null, .null, .null, .null, .null, .null, .null, .null, .null, .null, .null, .null, .null, .null, .null, .null, .int 0, .int 0, .int 0, .int 0, .int 0, .null, .null]))] := by
    refine ⟨fun i j p q hp hq _ => ?_, fun k q hk => ?_⟩
    · have h1 : i < 1 := (List.getElem?_eq_some_iff.mp hp).1
      have h2 : j < 1 := (List.getElem?_eq_some_iff.mp hq).1
      omega
    · have h1 : k < 1 := (List.getElem?_eq_some_iff.mp hk).1
      have h2 : k = 0 := by omega
      subst h2
      cases hk
      refine ⟨hD3.2 39 (q1, .inr (12, [.int 0, .int 0, .null, .int 0, .int 0, .null, .null, .null, .int 0, .null, .null, .null, .null, .null, .int 0, .int 0, .null, .null, .int 0, .int 0, .null, .null, .null, .null, .null, .null, .null, .null, .null, .null, .null, .null, .null, .null, .null, .null, .int 0, .int 0, .int 0, .int 0, .int 0, .null, .null])) rfl, ?_⟩
      rintro ⟨k, x, hx, ex⟩
      have hk : k < 39 := (List.getElem?_eq_some_iff.mp hx).1
      have := hD3.1 k 39 x (q1, .inr (12, [.int 0, .int 0, .null, .int 0, .int 0, .null, .null, .null, .int 0, .null, .null, .null, .null, .null, .int 0, .int 0, .null, .null, .int 0, .int 0, .null, .null, .null, .null, .null, .null, .null, .null, .null, .null, .null, .null, .null, .null, .null, .null, .int 0, .int 0, .int 0, .int 0, .int 0, .null, .null])) (by rw [List.getElem?_append_left hk]; exact hx) rfl ex
      omega
  refine g_dup (pc := 11) hc dlw_11 rfl ?_
  refine g_callI (pc := 12) (rest := [.ref q1]) (As := []) hc hF (CtN.frameR (A' := A0 s) (w1 := cw E ad sc0 ar0 0) (c_X12_init l E q1 hq1) hD) mi_X12_init rfl tw_998 tw_997 rfl ⟨rfl, rfl, Nat.le_of_ble_eq_true rfl, Nat.le_of_ble_eq_true rfl⟩ (Nat.le_of_ble_eq_true rfl) ⟨Nat.le_of_ble_eq_true rfl, Nat.le_of_ble_eq_true rfl⟩ rfl dlw_12 (fun wz hz hD4 => ?_)
  obtain ⟨w2, ⟨bd, e1, hB, rfl⟩, rfl⟩ := hz
  refine g_astore_n (pc := 15) (lv' := [(0, .ref b), (1, .ref q0), (2, .ref q1)]) hc dlw_15 rfl (by decide) rfl ?_
  refine g_iconst (pc := 16) (v := nI 0) hc dlw_16 (by decide) ?_
  refine g_istore_n (pc := 17) (lv' := lwL b q0 q1 0) hc dlw_17 rfl (by decide) rfl ?_
  have C : LX p s m meth c E b L xs (adr (cw E ad sc0 ar0 0)) (fun q => A0 s q ∧ ¬ adr (cw E ad sc0 ar0 0) q) := ⟨hc, hX, hbl, hL, fun q hq => by obtain ⟨k, x, hx, ex⟩ := hq; rw [← ex]; exact hD.2 k x hx, fun q hq => hq.1, fun q h1 h2 => h2.2 h1⟩
  subst e0
  subst e1
  exact lw_loop C hB L 0 (by omega) (by omega) ad sc0 ar0 0 msc0 mar0 zl rfl (lw_oka hA sc0 ar0 0) rll0
