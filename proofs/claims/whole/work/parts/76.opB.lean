/-! more lemmas for the operations -/
theorem gm_ind (ch : Nat → Int32) (wd : Nat) (f f' : Nat → Int32) : ∀ t, (gm ch wd f t).1 = (gm ch wd f' t).1 ∧ ∀ a, a < (gm ch wd f t).1 → (gm ch wd f t).2 a = (gm ch wd f' t).2 a
  | 0 => ⟨rfl, fun a ha => absurd ha (Nat.not_lt_zero a)⟩
  | t + 1 => by
    obtain ⟨i1, i2⟩ := gm_ind ch wd f f' t
    rw [gm_succ, gm_succ]
    split
    · exact ⟨i1, i2⟩
    · refine ⟨by show (gm ch wd f t).1 + 1 = (gm ch wd f' t).1 + 1; rw [i1], fun a ha => ?_⟩
      have ha' : a < (gm ch wd f t).1 + 1 := ha
      show upd (gm ch wd f t).2 (gm ch wd f t).1 (nI t) a = upd (gm ch wd f' t).2 (gm ch wd f' t).1 (nI t) a
      rw [← i1]
      by_cases e : a = (gm ch wd f t).1
      · rw [e, pk_us, pk_us]
      · rw [pk_un e, pk_un e]; exact i2 a (by omega)
theorem shs_wk {wk wk' : Nat → Int32} {n : Nat} {w : Int32} {f : Nat → Int32} (h : ∀ a, a < n + 1 → wk a = wk' a) : ∀ t, t ≤ n → shs wk n w f t = shs wk' n w f t
  | 0, _ => rfl
  | t + 1, ht => by
    have ih := shs_wk (w := w) (f := f) h t (by omega)
    show (shw (shs wk n w f t).1, swp (shs wk n w f t).2 (wk (n - t)).toNatClampNeg (wk (shX (shw (shs wk n w f t).1) % (n - t + 1))).toNatClampNeg) = (shw (shs wk' n w f t).1, swp (shs wk' n w f t).2 (wk' (n - t)).toNatClampNeg (wk' (shX (shw (shs wk' n w f t).1) % (n - t + 1))).toNatClampNeg)
    rw [ih, h (n - t) (by omega), h (shX (shw (shs wk' n w f t).1) % (n - t + 1)) (by have := Nat.mod_lt (shX (shw (shs wk' n w f t).1)) (show 0 < n - t + 1 by omega); omega)]
theorem mto_wk {wk wk' : Nat → Int32} {n wd hg : Nat} {own w : Int32} {f : Nat → Int32} (h : ∀ a, a < n → wk a = wk' a) : ∀ d, mto wk n wd hg own w f d = mto wk' n wd hg own w f d
  | 0 => rfl
  | d + 1 => by
    have ih := mto_wk (wd := wd) (hg := hg) (own := own) (w := w) (f := f) h d
    have e : ∀ (w : Int32) (f : Nat → Int32), shs wk (n - 1) w f (n - 1) = shs wk' (n - 1) w f (n - 1) := fun w f => by
      cases n with
      | zero => rfl
      | succ n => exact shs_wk h n (Nat.le_refl _)
    rw [mto_succ, mto_succ, ih, e]
theorem lyv_msv {n p : Nat} (hn : n ≤ 64) (hp : p < 64) {f g : Nat → Int32} (h : ∀ i, i < n → f i = g i) : lyv (nI n) f p = msv (nI n) g p := by
  unfold lyv msv
  by_cases c : p < n
  · rw [if_pos (inx_nI c (by omega)), if_neg (show ¬ nI n ≤ nI p from fun z => by have := (nI_le_iff (by omega) (by omega)).mp z; omega), h p c]
  · rw [if_neg (nt (inx_ge (by omega) (by omega))), if_pos (nI_le (by omega) (by omega))]
    split <;> rfl
set_option maxHeartbeats 4000000 in
theorem st_worth (l : Launch) (E : Ev) {A B : Nat → Prop} (ad bd : Nat → Nat) (hA : Oka 39 ad A) (hB : Oka 30 bd B) (sc : Nat → Int32) (ar : Nat → Nat → Int32) (bl : Int64) (ms : Nat → Int32) (ma : Nat → Nat → Int32) (la : Nat → Int64) (hr : Rll sc ar bl ms ma) (x : Int32) (y : Int32) : Step l E A B ad bd yX11_worth (.code yX11_worth cX11_worth 3 (some .int)) ({ frames := 6, cells := 0, slots := 0, locals := 138 }) yX12_worth (.code yX12_worth cX12_worth 3 (some .int)) ({ frames := 4, cells := 0, slots := 0, locals := 92 }) [.int x, .int y] sc ar bl ms ma la := by
  obtain ⟨wd, hg, nW, nF, tL, nL, gD, gW, gF, gT, gL, gS, gK, gB, gP, gH⟩ := id hr
  obtain ⟨d1, d2, d3, d4, d5, d6, d7, d8⟩ := id gD
  obtain ⟨w1, w2, w3, w4, w5, w6, w7⟩ := id gW
  obtain ⟨f1, f2, f3, f4, f5, f6, f7, f8, f9, f10⟩ := id gF
  obtain ⟨t1, t2, t3, t4⟩ := id gT
  obtain ⟨l1, l2, l3, l4, l5, l6, l7, l8, l9, l10, l11⟩ := id gL
  obtain ⟨s1, s2, s3⟩ := id gS
  have k1 : ar 15 = ma 1 := gK
  obtain ⟨b1, b2⟩ := id gB
  obtain ⟨p1, p2⟩ := id gP
  obtain ⟨h1, h2, h3, h4⟩ := id gH
  have hm := prod64 d2 d4
  have u1 := c_X11_worth l E ad hA sc ar bl x y w2 w1 d5 d1 d2 d6 d3 d4
  have u2 := c_X12_worth l E bd hB ms ma la x y w3 w1 f3 f1 f10.k4 d7 d1 d2 d8 d3 d4 w7
  rw [w2, k1, w4, w5] at u1
  have we : ∀ p, p < wd * hg → (layO (cel (nI nW) nW (ma 1) (ma 2) (ma 3) (ar 19) (ar 20) bl wd) wd (ar 25) hg) p = (cotI (mwv (mcc (ma 1) (ma 2) (ma 5) (ma 6) (ma 7) (ma 8) (cotI (fun v => mey (fun k => fns (ma 1) (ma 5) (ma 7) (ma 8) (nI k) nF) (ma 2) (ma 3) nW (nI v)) (ma 21) 5) (cotI (fun r => mtl nW nF (ma 3) (ma 5) (ma 8) (nI r)) (ma 22) hg) nF wd) (ma 1) (ma 9)) (ma 23) (wd * hg)) p := fun p hp => worth_eq (so := ma 1) (wk := ma 2) (ey0 := ma 21) (ch0 := ma 22) f8 f9 f10 w7 w1 f1 d1 d2 hm b1 hp
  by_cases c : ok2 (inx x (nI (wd * hg))) (inr y (nI 0) (nI 1)) = true
  · rw [if_pos c, if_pos c] at u1 u2
    refine Step.mk hA u1 rfl u2 ?_ hr
    obtain ⟨p, hp, rfl⟩ := inx_of (by omega) (ok2_of c).1
    rw [show tn (nI p) = p from nI_clamp (by omega)]
    by_cases e : y = 0
    · rw [if_pos e, if_pos e]; exact we p hp
    · rw [if_neg e, if_neg e]; exact ring_eq we hp d1 d2 d3 d4
  · rw [if_neg c, if_neg c] at u1 u2
    exact Step.mk hA u1 rfl u2 rfl hr
set_option maxHeartbeats 4000000 in
theorem st_greatest (l : Launch) (E : Ev) {A B : Nat → Prop} (ad bd : Nat → Nat) (hA : Oka 39 ad A) (hB : Oka 30 bd B) (sc : Nat → Int32) (ar : Nat → Nat → Int32) (bl : Int64) (ms : Nat → Int32) (ma : Nat → Nat → Int32) (la : Nat → Int64) (hr : Rll sc ar bl ms ma) : Step l E A B ad bd yX11_greatest (.code yX11_greatest cX11_greatest 1 (some .int)) ({ frames := 6, cells := 0, slots := 0, locals := 138 }) yX12_greatest (.code yX12_greatest cX12_greatest 1 (some .int)) ({ frames := 4, cells := 0, slots := 0, locals := 92 }) [] sc ar bl ms ma la := by
  obtain ⟨wd, hg, nW, nF, tL, nL, gD, gW, gF, gT, gL, gS, gK, gB, gP, gH⟩ := id hr
  obtain ⟨d1, d2, d3, d4, d5, d6, d7, d8⟩ := id gD
  obtain ⟨w1, w2, w3, w4, w5, w6, w7⟩ := id gW
  obtain ⟨f1, f2, f3, f4, f5, f6, f7, f8, f9, f10⟩ := id gF
  obtain ⟨t1, t2, t3, t4⟩ := id gT
  obtain ⟨l1, l2, l3, l4, l5, l6, l7, l8, l9, l10, l11⟩ := id gL
  obtain ⟨s1, s2, s3⟩ := id gS
  have k1 : ar 15 = ma 1 := gK
  obtain ⟨b1, b2⟩ := id gB
  obtain ⟨p1, p2⟩ := id gP
  obtain ⟨h1, h2, h3, h4⟩ := id gH
  have hm := prod64 d2 d4
  have u1 := c_X11_greatest l E ad hA sc ar bl w2 w1 d5 d1 d2 d6 d3 d4
  have u2 := c_X12_greatest l E bd hB ms ma la w3 w1 f3 f1 f10.k4 d7 d1 d2 d8 d3 d4 w7
  rw [w2, k1, w4, w5] at u1
  have we : ∀ p, p < wd * hg → (layO (cel (nI nW) nW (ma 1) (ma 2) (ma 3) (ar 19) (ar 20) bl wd) wd (ar 25) hg) p = (cotI (mwv (mcc (ma 1) (ma 2) (ma 5) (ma 6) (ma 7) (ma 8) (cotI (fun v => mey (fun k => fns (ma 1) (ma 5) (ma 7) (ma 8) (nI k) nF) (ma 2) (ma 3) nW (nI v)) (ma 21) 5) (cotI (fun r => mtl nW nF (ma 3) (ma 5) (ma 8) (nI r)) (ma 22) hg) nF wd) (ma 1) (ma 9)) (ma 23) (wd * hg)) p := fun p hp => worth_eq (so := ma 1) (wk := ma 2) (ey0 := ma 21) (ch0 := ma 22) f8 f9 f10 w7 w1 f1 d1 d2 hm b1 hp
  exact Step.mk hA u1 rfl u2 (congrArg nI (best_eq we d1 d2 d3 d4)) hr
set_option maxHeartbeats 4000000 in
theorem st_heap (l : Launch) (E : Ev) {A B : Nat → Prop} (ad bd : Nat → Nat) (hA : Oka 39 ad A) (hB : Oka 30 bd B) (sc : Nat → Int32) (ar : Nat → Nat → Int32) (bl : Int64) (ms : Nat → Int32) (ma : Nat → Nat → Int32) (la : Nat → Int64) (hr : Rll sc ar bl ms ma) (x : Int32) (y : Int32) : Step l E A B ad bd yX11_heap (.code yX11_heap cX11_heap 3 (some .int)) ({ frames := 6, cells := 0, slots := 0, locals := 147 }) yX12_heap (.code yX12_heap cX12_heap 11 (some .int)) ({ frames := 4, cells := 0, slots := 0, locals := 92 }) [.int x, .int y] sc ar bl ms ma la := by
  obtain ⟨wd, hg, nW, nF, tL, nL, gD, gW, gF, gT, gL, gS, gK, gB, gP, gH⟩ := id hr
  obtain ⟨d1, d2, d3, d4, d5, d6, d7, d8⟩ := id gD
  obtain ⟨w1, w2, w3, w4, w5, w6, w7⟩ := id gW
  obtain ⟨f1, f2, f3, f4, f5, f6, f7, f8, f9, f10⟩ := id gF
  obtain ⟨t1, t2, t3, t4⟩ := id gT
  obtain ⟨l1, l2, l3, l4, l5, l6, l7, l8, l9, l10, l11⟩ := id gL
  obtain ⟨s1, s2, s3⟩ := id gS
  have k1 : ar 15 = ma 1 := gK
  obtain ⟨b1, b2⟩ := id gB
  obtain ⟨p1, p2⟩ := id gP
  obtain ⟨h1, h2, h3, h4⟩ := id gH
  have hm := prod64 d2 d4
  have u1 := c_X11_heap l E ad hA sc ar bl x y w2 w1 d5 d1 d2 d6 d3 d4
  have u2 := c_X12_heap l E bd hB ms ma la x y w3 w1 f3 f1 f10.k4 d7 d1 d2 d8 d3 d4 w7
  rw [w2, k1, w4, w5, s2, s3] at u1
  have we : ∀ p, p < wd * hg → (layO (cel (nI nW) nW (ma 1) (ma 2) (ma 3) (ar 19) (ar 20) bl wd) wd (ar 25) hg) p = (cotI (mwv (mcc (ma 1) (ma 2) (ma 5) (ma 6) (ma 7) (ma 8) (cotI (fun v => mey (fun k => fns (ma 1) (ma 5) (ma 7) (ma 8) (nI k) nF) (ma 2) (ma 3) nW (nI v)) (ma 21) 5) (cotI (fun r => mtl nW nF (ma 3) (ma 5) (ma 8) (nI r)) (ma 22) hg) nF wd) (ma 1) (ma 9)) (ma 23) (wd * hg)) p := fun p hp => worth_eq (so := ma 1) (wk := ma 2) (ey0 := ma 21) (ch0 := ma 22) f8 f9 f10 w7 w1 f1 d1 d2 hm b1 hp
  by_cases c : ok2 (inx x (nI (wd * hg))) (inr y (nI 1) (nI 99)) = true
  · rw [if_pos c, if_pos c] at u1 u2
    refine Step.mk hA u1 rfl u2 ?_ hr
    obtain ⟨p, hp, rfl⟩ := inx_of (by omega) (ok2_of c).1
    rw [show tn (nI p) = p from nI_clamp (by omega)]
    have g1 : gwO nW (ma 3) (ar 19) wd (ar 26) hg = gm (cotI (fun r => mtl nW nF (ma 3) (ma 5) (ma 8) (nI r)) (ma 22) hg) wd (ar 26) (wd * hg) := by
      rw [Nat.mul_comm wd hg]
      exact gather_eq (ch0 := ma 22) f8 f10 w1 (by omega) (ar 26) hg (Nat.le_refl _)
    obtain ⟨g2, g3⟩ := gm_ind (cotI (fun r => mtl nW nF (ma 3) (ma 5) (ma 8) (nI r)) (ma 22) hg) wd (ar 26) (ma 24) (wd * hg)
    have g4 := gm_lt (cotI (fun r => mtl nW nF (ma 3) (ma 5) (ma 8) (nI r)) (ma 22) hg) wd (ar 26) (wd * hg)
    rw [g1, ring_eq we hp d1 d2 d3 d4, (sto_mto g4 d1 d2 d3 d4 we (tn y)).1, mto_wk g3, g2]
  · rw [if_neg c, if_neg c] at u1 u2
    exact Step.mk hA u1 rfl u2 rfl hr
set_option maxHeartbeats 4000000 in
theorem st_spade (l : Launch) (E : Ev) {A B : Nat → Prop} (ad bd : Nat → Nat) (hA : Oka 39 ad A) (hB : Oka 30 bd B) (sc : Nat → Int32) (ar : Nat → Nat → Int32) (bl : Int64) (ms : Nat → Int32) (ma : Nat → Nat → Int32) (la : Nat → Int64) (hr : Rll sc ar bl ms ma) (x : Int32) (y : Int32) : Step l E A B ad bd yX11_spade (.code yX11_spade cX11_spade 4 (some .int)) ({ frames := 2, cells := 0, slots := 0, locals := 41 }) yX12_spade (.code yX12_spade cX12_spade 4 (some .int)) ({ frames := 2, cells := 0, slots := 0, locals := 43 }) [.int x, .int y] sc ar bl ms ma la := by
  obtain ⟨wd, hg, nW, nF, tL, nL, gD, gW, gF, gT, gL, gS, gK, gB, gP, gH⟩ := id hr
  obtain ⟨d1, d2, d3, d4, d5, d6, d7, d8⟩ := id gD
  obtain ⟨w1, w2, w3, w4, w5, w6, w7⟩ := id gW
  obtain ⟨f1, f2, f3, f4, f5, f6, f7, f8, f9, f10⟩ := id gF
  obtain ⟨t1, t2, t3, t4⟩ := id gT
  obtain ⟨l1, l2, l3, l4, l5, l6, l7, l8, l9, l10, l11⟩ := id gL
  obtain ⟨s1, s2, s3⟩ := id gS
  have k1 : ar 15 = ma 1 := gK
  obtain ⟨b1, b2⟩ := id gB
  obtain ⟨p1, p2⟩ := id gP
  obtain ⟨h1, h2, h3, h4⟩ := id gH
  have hm := prod64 d2 d4
  have u1 := c_X11_spade l E ad hA sc ar bl x y d5 d1 d2 d6 d3 d4
  have u2 := c_X12_spade l E bd hB ms ma la x y d7 d1 d2 d8 d3 d4
  by_cases c : ok2 (inx x (nI (wd * hg))) (inr y (nI 0) (nI 1)) = true
  · rw [if_pos c, if_pos c] at u1 u2
    obtain ⟨p, hp, rfl⟩ := inx_of (by omega) (ok2_of c).1
    rw [show tn (nI p) = p from nI_clamp (by omega)] at u2
    refine Step.mk hA u1 rfl u2 ?_ ⟨wd, hg, nW, nF, tL, nL, gD, gW, gF, gT, gL, gS, gK, ⟨?_, ?_⟩, gP, gH⟩
    · rw [b1 p (by omega)]
      by_cases e : ma 9 p = 0
      · rw [if_pos e, decide_eq_true e]; rfl
      · rw [if_neg e, decide_eq_false e]; rfl
    · intro q hq
      show brb (dgb bl (nI p) (bI (decide (y = 0)))) (nI q) = !decide (upd (ma 9) p (vp_nar .boolean (if y = 0 then nI 1 else nI 0)) q = 0)
      rw [dgb_get bl _ (by omega) hq]
      by_cases e : q = p
      · rw [if_pos e, e, pk_us]
        by_cases e2 : y = 0
        · rw [if_pos e2, decide_eq_true e2]; decide
        · rw [if_neg e2, decide_eq_false e2]; decide
      · rw [if_neg e, pk_un e]; exact b1 q hq
    · intro q h1 h2
      show upd (ma 9) p (vp_nar .boolean (if y = 0 then nI 1 else nI 0)) q = 0
      rw [pk_un (by omega)]; exact b2 q h1 h2
  · rw [if_neg c, if_neg c] at u1 u2
    exact Step.mk hA u1 rfl u2 rfl hr
set_option maxHeartbeats 4000000 in
theorem st_rule (l : Launch) (E : Ev) {A B : Nat → Prop} (ad bd : Nat → Nat) (hA : Oka 39 ad A) (hB : Oka 30 bd B) (sc : Nat → Int32) (ar : Nat → Nat → Int32) (bl : Int64) (ms : Nat → Int32) (ma : Nat → Nat → Int32) (la : Nat → Int64) (hr : Rll sc ar bl ms ma) (x : Int32) (y : Int32) : Step l E A B ad bd yX11_rule (.code yX11_rule cX11_rule 4 (some .int)) ({ frames := 1, cells := 0, slots := 0, locals := 22 }) yX12_rule (.code yX12_rule cX12_rule 4 (some .int)) ({ frames := 1, cells := 0, slots := 0, locals := 22 }) [.int x, .int y] sc ar bl ms ma la := by
  obtain ⟨wd, hg, nW, nF, tL, nL, gD, gW, gF, gT, gL, gS, gK, gB, gP, gH⟩ := id hr
  obtain ⟨d1, d2, d3, d4, d5, d6, d7, d8⟩ := id gD
  obtain ⟨w1, w2, w3, w4, w5, w6, w7⟩ := id gW
  obtain ⟨f1, f2, f3, f4, f5, f6, f7, f8, f9, f10⟩ := id gF
  obtain ⟨t1, t2, t3, t4⟩ := id gT
  obtain ⟨l1, l2, l3, l4, l5, l6, l7, l8, l9, l10, l11⟩ := id gL
  obtain ⟨s1, s2, s3⟩ := id gS
  have k1 : ar 15 = ma 1 := gK
  obtain ⟨b1, b2⟩ := id gB
  obtain ⟨p1, p2⟩ := id gP
  obtain ⟨h1, h2, h3, h4⟩ := id gH
  have hm := prod64 d2 d4
  have u1 := c_X11_rule l E ad hA sc ar bl x y
  have u2 := c_X12_rule l E bd hB ms ma la x y
  by_cases e0 : x = 0
  · have c : rlo x y = true := by rw [e0]; rfl
    rw [if_pos e0, if_pos e0] at u1
    rw [if_pos c, if_pos c, if_pos e0, if_pos e0] at u2
    exact Step.mk hA u1 rfl u2 s2 ⟨wd, hg, nW, nF, tL, nL, gD, gW, gF, gT, gL, ⟨s1, rfl, s3⟩, gK, gB, gP, gH⟩
  · rw [if_neg e0, if_neg e0] at u1
    by_cases e1 : x = nI 1
    · rw [if_pos e1, if_pos e1] at u1
      have c : rlo x y = inr y (nI 0) (nI 9) := by rw [e1]; rfl
      rw [c] at u2
      by_cases c2 : inr y (nI 0) (nI 9) = true
      · rw [if_pos c2, if_pos c2] at u1
        rw [if_pos c2, if_pos c2, if_neg e0, if_neg e0] at u2
        exact Step.mk hA u1 rfl u2 s3 ⟨wd, hg, nW, nF, tL, nL, gD, gW, gF, gT, gL, ⟨s1, s2, rfl⟩, gK, gB, gP, gH⟩
      · rw [if_neg c2, if_neg c2] at u1 u2
        exact Step.mk hA u1 rfl u2 rfl hr
    · rw [if_neg e1, if_neg e1] at u1
      have c : rlo x y = false := by
        unfold rlo
        rw [if_neg (nt (inr_out (by decide) (fun k hk => ?_)))]
        rcases (show k = 0 ∨ k = 1 by omega) with rfl | rfl
        · exact e0
        · exact e1
      rw [if_neg (nt c), if_neg (nt c)] at u2
      exact Step.mk hA u1 rfl u2 rfl hr
set_option maxHeartbeats 4000000 in
theorem st_plough (l : Launch) (E : Ev) {A B : Nat → Prop} (ad bd : Nat → Nat) (hA : Oka 39 ad A) (hB : Oka 30 bd B) (sc : Nat → Int32) (ar : Nat → Nat → Int32) (bl : Int64) (ms : Nat → Int32) (ma : Nat → Nat → Int32) (la : Nat → Int64) (hr : Rll sc ar bl ms ma) (x : Int32) (y : Int32) : Step l E A B ad bd yX11_plough (.code yX11_plough cX11_plough 3 (some .int)) ({ frames := 5, cells := 0, slots := 0, locals := 115 }) yX12_plough (.code yX12_plough cX12_plough 4 (some .int)) ({ frames := 3, cells := 0, slots := 0, locals := 64 }) [.int x, .int y] sc ar bl ms ma la := by
  obtain ⟨wd, hg, nW, nF, tL, nL, gD, gW, gF, gT, gL, gS, gK, gB, gP, gH⟩ := id hr
  obtain ⟨d1, d2, d3, d4, d5, d6, d7, d8⟩ := id gD
  obtain ⟨w1, w2, w3, w4, w5, w6, w7⟩ := id gW
  obtain ⟨f1, f2, f3, f4, f5, f6, f7, f8, f9, f10⟩ := id gF
  obtain ⟨t1, t2, t3, t4⟩ := id gT
  obtain ⟨l1, l2, l3, l4, l5, l6, l7, l8, l9, l10, l11⟩ := id gL
  obtain ⟨s1, s2, s3⟩ := id gS
  have k1 : ar 15 = ma 1 := gK
  obtain ⟨b1, b2⟩ := id gB
  obtain ⟨p1, p2⟩ := id gP
  obtain ⟨h1, h2, h3, h4⟩ := id gH
  have hm := prod64 d2 d4
  have u1 := c_X11_plough l E ad hA sc ar bl x y d5 d1 d2 d6 d3 d4
  have u2 := c_X12_plough l E bd hB ms ma la x y d7 d1 d2 d8 d3 d4
  rw [h1] at u1
  by_cases c : ok2 (inx x (nI (wd * hg))) (inr y (nI 0) (nI 50)) = true
  · rw [if_pos c, if_pos c] at u1 u2
    rcases h3.1 with e | ⟨n, hn, e, hs⟩
    · rw [if_pos e, if_pos e] at u1
      rw [if_pos (by rw [e]; decide), if_pos (by rw [e]; decide)] at u2
      exact Step.mk hA u1 rfl u2 rfl hr
    · rw [if_neg (by rw [e]; exact nI_ne_m1 (by omega)), if_neg (by rw [e]; exact nI_ne_m1 (by omega))] at u1
      rw [if_neg (by rw [e]; exact nI_pos (by omega)), if_neg (by rw [e]; exact nI_pos (by omega))] at u2
      obtain ⟨p, hp, rfl⟩ := inx_of (by omega) (ok2_of c).1
      refine Step.mk (oka_sw hA (tn y)) u1 rfl u2 ?_ hr
      rw [show tn (nI p) = p from nI_clamp (by omega)]
      refine pls_mpl d1 hm (fun q hq => ?_) (tn y) p hp
      show lyf (ma 18 0) (ar 37) (ar 13) (wd * hg) q = cotI (msv (ma 18 0) (ma 19)) (ma 25) (wd * hg) q
      rw [lyf_at _ _ _ q _ hq, cotI_in _ _ hq, e]
      exact lyv_msv hn (by omega) (fun i hi => by rw [hs i hi, Nat.zero_add])
  · rw [if_neg c, if_neg c] at u1 u2
    exact Step.mk hA u1 rfl u2 rfl hr
set_option maxHeartbeats 4000000 in
theorem st_profile (l : Launch) (E : Ev) {A B : Nat → Prop} (ad bd : Nat → Nat) (hA : Oka 39 ad A) (hB : Oka 30 bd B) (sc : Nat → Int32) (ar : Nat → Nat → Int32) (bl : Int64) (ms : Nat → Int32) (ma : Nat → Nat → Int32) (la : Nat → Int64) (hr : Rll sc ar bl ms ma) (x : Int32) (y : Int32) (z : Int32) : Step l E A B ad bd yX11_profile (.code yX11_profile cX11_profile 4 (some .int)) ({ frames := 2, cells := 0, slots := 0, locals := 42 }) yX12_profile (.code yX12_profile cX12_profile 5 (some .int)) ({ frames := 2, cells := 0, slots := 0, locals := 42 }) [.int x, .int y, .int z] sc ar bl ms ma la := by
  obtain ⟨wd, hg, nW, nF, tL, nL, gD, gW, gF, gT, gL, gS, gK, gB, gP, gH⟩ := id hr
  obtain ⟨d1, d2, d3, d4, d5, d6, d7, d8⟩ := id gD
  obtain ⟨w1, w2, w3, w4, w5, w6, w7⟩ := id gW
  obtain ⟨f1, f2, f3, f4, f5, f6, f7, f8, f9, f10⟩ := id gF
  obtain ⟨t1, t2, t3, t4⟩ := id gT
  obtain ⟨l1, l2, l3, l4, l5, l6, l7, l8, l9, l10, l11⟩ := id gL
  obtain ⟨s1, s2, s3⟩ := id gS
  have k1 : ar 15 = ma 1 := gK
  obtain ⟨b1, b2⟩ := id gB
  obtain ⟨p1, p2⟩ := id gP
  obtain ⟨h1, h2, h3, h4⟩ := id gH
  have hm := prod64 d2 d4
  have u1 := c_X11_profile l E ad hA sc ar bl x y z
  have u2 := c_X12_profile l E bd hB ms ma la x y z
  rw [Nat.mul_comm 4 (tn x)] at u2
  rw [p1] at u1
  by_cases c : ok2 (inr x (nI 0) (nI 2)) (ok2 (inr y (nI 0) (nI 3)) (inr z (nI 0) (nI 100))) = true
  · rw [if_pos c, if_pos c] at u1 u2
    obtain ⟨v, -, hv, ev⟩ := inr_of (by decide) (ok2_of (ok2_of c).2).2 (by decide)
    refine Step.mk hA u1 rfl u2 rfl ⟨wd, hg, nW, nF, tL, nL, gD, gW, gF, gT, gL, gS, gK, gB, ⟨rfl, fun i => ?_⟩, gH⟩
    show ∃ n, n ≤ 100 ∧ upd (ma 10) (tn x * 4 + tn y) z i = nI n
    by_cases e : i = tn x * 4 + tn y
    · rw [e, pk_us]; exact ⟨v, hv, ev⟩
    · rw [pk_un e]; exact p2 i
  · rw [if_neg c, if_neg c] at u1 u2
    exact Step.mk hA u1 rfl u2 rfl hr
set_option maxHeartbeats 4000000 in
theorem st_mixed (l : Launch) (E : Ev) {A B : Nat → Prop} (ad bd : Nat → Nat) (hA : Oka 39 ad A) (hB : Oka 30 bd B) (sc : Nat → Int32) (ar : Nat → Nat → Int32) (bl : Int64) (ms : Nat → Int32) (ma : Nat → Nat → Int32) (la : Nat → Int64) (hr : Rll sc ar bl ms ma) (x : Int32) : Step l E A B ad bd yX11_mixed (.code yX11_mixed cX11_mixed 3 (some .int)) ({ frames := 5, cells := 0, slots := 0, locals := 113 }) yX12_mixed (.code yX12_mixed cX12_mixed 10 (some .int)) ({ frames := 2, cells := 0, slots := 0, locals := 49 }) [.int x] sc ar bl ms ma la := by
  obtain ⟨wd, hg, nW, nF, tL, nL, gD, gW, gF, gT, gL, gS, gK, gB, gP, gH⟩ := id hr
  obtain ⟨d1, d2, d3, d4, d5, d6, d7, d8⟩ := id gD
  obtain ⟨w1, w2, w3, w4, w5, w6, w7⟩ := id gW
  obtain ⟨f1, f2, f3, f4, f5, f6, f7, f8, f9, f10⟩ := id gF
  obtain ⟨t1, t2, t3, t4⟩ := id gT
  obtain ⟨l1, l2, l3, l4, l5, l6, l7, l8, l9, l10, l11⟩ := id gL
  obtain ⟨s1, s2, s3⟩ := id gS
  have k1 : ar 15 = ma 1 := gK
  obtain ⟨b1, b2⟩ := id gB
  obtain ⟨p1, p2⟩ := id gP
  obtain ⟨h1, h2, h3, h4⟩ := id gH
  have hm := prod64 d2 d4
  have u1 := c_X11_mixed l E ad hA sc ar bl x w2 w1 d5 d1 d2 d6 d3 d4
  have u2 := c_X12_mixed l E bd hB ms ma la x w3 w1 f3 f1 f10.k4 d7 d1 d2 d8 d3 d4 f10.pc
  rw [w2, w5, p1] at u1
  by_cases c : inr x (nI 0) (nI 2) = true
  · rw [if_pos c, if_pos c] at u1 u2
    refine Step.mk hA u1 rfl u2 ?_ hr
    have key := skO_mkO (co := cotI (fun k => cfo (nI nW) nW (ma 3) (ar 19) k hg) (ar 28) 4) (pr := ma 10) (la := cnL nW nF wd (ma 3) (ma 5) (ma 6) (ma 7) (ma 8) (fiL la 4) nF) (N := fun k => Nk nW nF wd (ma 3) (ma 5) (ma 6) (ma 7) (ma 8) k nF) (fun k hk => by rw [cotI_in _ _ hk]; exact count_eq f8 f10 w1 d1 d4 hm hk) (fun k hk => cnL_Nk f10 la hk nF (Nat.le_refl _)) (fun k hk => Nat.le_trans (Nk_le f10 k nF (Nat.le_refl _)) (by omega)) p2 (ar 29) 20 (Nat.le_refl _)
    rw [show (20 : Nat) + 1 = 21 from rfl] at key
    generalize skO (cotI (fun k => cfo (nI nW) nW (ma 3) (ar 19) k hg) (ar 28) 4) (ma 10) (ar 29) 21 = Q at key ⊢
    generalize mkO (cnL nW nF wd (ma 3) (ma 5) (ma 6) (ma 7) (ma 8) (fiL la 4) nF) (ma 10) 21 = Z at key ⊢
    obtain ⟨-, -, q1, q2, q3, q4⟩ := key
    obtain ⟨j, -, hj, rfl⟩ := inr_of (by decide) c (by decide)
    rw [show tn (nI j) = j from nI_clamp (by omega)]
    rcases (show j = 0 ∨ j = 1 ∨ j = 2 by omega) with rfl | rfl | rfl
    · rw [if_pos (show nI 0 = 0 from rfl)]; exact q1
    · rw [if_neg (show ¬ nI 1 = 0 by decide), if_pos rfl]; exact q2
    · rw [if_neg (show ¬ nI 2 = 0 by decide), if_neg (show ¬ nI 2 = nI 1 by decide), pk_sub (by omega), pk_sub (by omega)]; exact q3
  · rw [if_neg c, if_neg c] at u1 u2
    exact Step.mk hA u1 rfl u2 rfl hr
