/-! ONE LEMMA AN OPERATION -/
theorem inr_out {y : Int32} {n : Nat} (hn : n < 2 ^ 31) (h : ∀ k, k ≤ n → ¬ y = nI k) : inr y (nI 0) (nI n) = false := by
  cases e : inr y (nI 0) (nI n) with
  | false => rfl
  | true =>
    obtain ⟨j, -, hj, e2⟩ := inr_of hn e (by decide)
    exact absurd e2 (h j hj)
theorem in_t {k n : Nat} (h : k ≤ n) (hn : n < 2 ^ 31) : inr (nI k) (nI 0) (nI n) = true := inr_nI (Nat.zero_le _) h hn
set_option maxHeartbeats 4000000 in
theorem st_field (l : Launch) (E : Ev) {A B : Nat → Prop} (ad bd : Nat → Nat) (hA : Oka 39 ad A) (hB : Oka 30 bd B) (sc : Nat → Int32) (ar : Nat → Nat → Int32) (bl : Int64) (ms : Nat → Int32) (ma : Nat → Nat → Int32) (la : Nat → Int64) (hr : Rll sc ar bl ms ma) (x : Int32) (y : Int32) : Step l E A B ad bd yX11_field (.code yX11_field cX11_field 3 (some .int)) ({ frames := 2, cells := 0, slots := 0, locals := 43 }) yX12_field (.code yX12_field cX12_field 4 (some .int)) ({ frames := 1, cells := 0, slots := 0, locals := 22 }) [.int x, .int y] sc ar bl ms ma la := by
  obtain ⟨wd, hg, nW, nF, tL, nL, gD, gW, gF, gT, gL, gS, gK, gB, gP, gH⟩ := id hr
  obtain ⟨d1, d2, d3, d4, d5, d6, d7, d8⟩ := id gD
  obtain ⟨w1, w2, w3, w4, w5, w6, w7⟩ := id gW
  obtain ⟨f1, f2, f3, f4, f5, f6, f7, f8, f9, f10⟩ := id gF
  obtain ⟨t1, t2, t3, t4⟩ := id gT
  obtain ⟨l1, l2, l3, l4, l5, l6, l7, l8, l9, l10, l11⟩ := id gL
  obtain ⟨s1, s2, s3⟩ := id gS
  have k1 : ar 15 = ma 1 := gK
  obtain ⟨b1, b2⟩ := id gB
  obtain ⟨p1, p2⟩ := id gP
  obtain ⟨h1, h2, h3, h4⟩ := id gH
  have hm := prod64 d2 d4
  have u1 := c_X11_field l E ad hA sc ar bl x y
  have u2 := c_X12_field l E bd hB ms ma la x y
  by_cases c : ok2 (inr x (nI 2) (nI 8)) (inr y (nI 2) (nI 8)) = true
  · rw [if_pos c, if_pos c] at u1 u2
    obtain ⟨c1, c2⟩ := ok2_of c
    obtain ⟨a, a1, a2, rfl⟩ := inr_of (by decide) c1 (by decide)
    obtain ⟨b, a3, a4, rfl⟩ := inr_of (by decide) c2 (by decide)
    refine Step.mk hA u1 rfl u2 rfl ⟨a, b, 0, 0, tL, nL, ⟨a1, a2, a3, a4, rfl, rfl, rfl, rfl⟩, ⟨by omega, rfl, rfl, w4, w5, w6, fun i hi => absurd hi (Nat.not_lt_zero i)⟩, ⟨by omega, rfl, rfl, f4, f5, f6, f7, ?_, ?_, fun f hf => absurd hf (Nat.not_lt_zero f)⟩, gT, gL, gS, gK, ⟨?_, ?_⟩, gP, gH⟩
    · intro i j hi hj
      show fil (nI 0) (ar 19) 240 (i * 4 + j) = 0
      rw [fil_in _ _ (by omega)]; rfl
    · intro i c j hi hc hj
      show fil (nI 0) (ar 20) 1920 ((i * 8 + c) * 4 + j) = 0
      rw [fil_in _ _ (by omega)]; rfl
    · intro p hp
      show brb 0 (nI p) = !decide (fil (vp_nar .boolean (nI 0)) (ma 9) 64 p = 0)
      rw [brb_0 hp, fil_in _ _ hp]; decide
    · intro p _ hp
      show fil (vp_nar .boolean (nI 0)) (ma 9) 64 p = 0
      rw [fil_in _ _ hp]; decide
  · rw [if_neg c, if_neg c] at u1 u2
    exact Step.mk hA u1 rfl u2 rfl hr
set_option maxHeartbeats 4000000 in
theorem st_sort (l : Launch) (E : Ev) {A B : Nat → Prop} (ad bd : Nat → Nat) (hA : Oka 39 ad A) (hB : Oka 30 bd B) (sc : Nat → Int32) (ar : Nat → Nat → Int32) (bl : Int64) (ms : Nat → Int32) (ma : Nat → Nat → Int32) (la : Nat → Int64) (hr : Rll sc ar bl ms ma) (x : Int32) (y : Int32) : Step l E A B ad bd yX11_sort (.code yX11_sort cX11_sort 3 (some .int)) ({ frames := 2, cells := 0, slots := 0, locals := 42 }) yX12_sort (.code yX12_sort cX12_sort 4 (some .int)) ({ frames := 2, cells := 0, slots := 0, locals := 42 }) [.int x, .int y] sc ar bl ms ma la := by
  obtain ⟨wd, hg, nW, nF, tL, nL, gD, gW, gF, gT, gL, gS, gK, gB, gP, gH⟩ := id hr
  obtain ⟨d1, d2, d3, d4, d5, d6, d7, d8⟩ := id gD
  obtain ⟨w1, w2, w3, w4, w5, w6, w7⟩ := id gW
  obtain ⟨f1, f2, f3, f4, f5, f6, f7, f8, f9, f10⟩ := id gF
  obtain ⟨t1, t2, t3, t4⟩ := id gT
  obtain ⟨l1, l2, l3, l4, l5, l6, l7, l8, l9, l10, l11⟩ := id gL
  obtain ⟨s1, s2, s3⟩ := id gS
  have k1 : ar 15 = ma 1 := gK
  obtain ⟨b1, b2⟩ := id gB
  obtain ⟨p1, p2⟩ := id gP
  obtain ⟨h1, h2, h3, h4⟩ := id gH
  have hm := prod64 d2 d4
  have u1 := c_X11_sort l E ad hA sc ar bl x y
  have u2 := c_X12_sort l E bd hB ms ma la x y
  by_cases c : ok2 (inr x (nI 0) (nI 3)) (inr y (nI 0) (nI 3)) = true
  · rw [if_pos c, if_pos c] at u1 u2
    exact Step.mk hA u1 rfl u2 (by rw [k1]) ⟨wd, hg, nW, nF, tL, nL, gD, gW, gF, gT, gL, gS, congrArg (fun f => upd f (tn x) y) k1, gB, gP, gH⟩
  · rw [if_neg c, if_neg c] at u1 u2
    exact Step.mk hA u1 rfl u2 rfl hr
set_option maxHeartbeats 4000000 in
theorem st_isOf (l : Launch) (E : Ev) {A B : Nat → Prop} (ad bd : Nat → Nat) (hA : Oka 39 ad A) (hB : Oka 30 bd B) (sc : Nat → Int32) (ar : Nat → Nat → Int32) (bl : Int64) (ms : Nat → Int32) (ma : Nat → Nat → Int32) (la : Nat → Int64) (hr : Rll sc ar bl ms ma) (x : Int32) (y : Int32) : Step l E A B ad bd yX11_isOf (.code yX11_isOf cX11_isOf 3 (some .int)) ({ frames := 2, cells := 0, slots := 0, locals := 42 }) yX12_isOf (.code yX12_isOf cX12_isOf 3 (some .int)) ({ frames := 2, cells := 0, slots := 0, locals := 42 }) [.int x, .int y] sc ar bl ms ma la := by
  obtain ⟨wd, hg, nW, nF, tL, nL, gD, gW, gF, gT, gL, gS, gK, gB, gP, gH⟩ := id hr
  obtain ⟨d1, d2, d3, d4, d5, d6, d7, d8⟩ := id gD
  obtain ⟨w1, w2, w3, w4, w5, w6, w7⟩ := id gW
  obtain ⟨f1, f2, f3, f4, f5, f6, f7, f8, f9, f10⟩ := id gF
  obtain ⟨t1, t2, t3, t4⟩ := id gT
  obtain ⟨l1, l2, l3, l4, l5, l6, l7, l8, l9, l10, l11⟩ := id gL
  obtain ⟨s1, s2, s3⟩ := id gS
  have k1 : ar 15 = ma 1 := gK
  obtain ⟨b1, b2⟩ := id gB
  obtain ⟨p1, p2⟩ := id gP
  obtain ⟨h1, h2, h3, h4⟩ := id gH
  have hm := prod64 d2 d4
  have u1 := c_X11_isOf l E ad hA sc ar bl x y
  have u2 := c_X12_isOf l E bd hB ms ma la x y
  exact Step.mk hA u1 rfl u2 (by rw [k1]) hr
set_option maxHeartbeats 4000000 in
theorem st_walk (l : Launch) (E : Ev) {A B : Nat → Prop} (ad bd : Nat → Nat) (hA : Oka 39 ad A) (hB : Oka 30 bd B) (sc : Nat → Int32) (ar : Nat → Nat → Int32) (bl : Int64) (ms : Nat → Int32) (ma : Nat → Nat → Int32) (la : Nat → Int64) (hr : Rll sc ar bl ms ma) (x : Int32) (y : Int32) : Step l E A B ad bd yX11_walk (.code yX11_walk cX11_walk 3 (some .int)) ({ frames := 3, cells := 0, slots := 0, locals := 69 }) yX12_walk (.code yX12_walk cX12_walk 3 (some .int)) ({ frames := 3, cells := 0, slots := 0, locals := 71 }) [.int x, .int y] sc ar bl ms ma la := by
  obtain ⟨wd, hg, nW, nF, tL, nL, gD, gW, gF, gT, gL, gS, gK, gB, gP, gH⟩ := id hr
  obtain ⟨d1, d2, d3, d4, d5, d6, d7, d8⟩ := id gD
  obtain ⟨w1, w2, w3, w4, w5, w6, w7⟩ := id gW
  obtain ⟨f1, f2, f3, f4, f5, f6, f7, f8, f9, f10⟩ := id gF
  obtain ⟨t1, t2, t3, t4⟩ := id gT
  obtain ⟨l1, l2, l3, l4, l5, l6, l7, l8, l9, l10, l11⟩ := id gL
  obtain ⟨s1, s2, s3⟩ := id gS
  have k1 : ar 15 = ma 1 := gK
  obtain ⟨b1, b2⟩ := id gB
  obtain ⟨p1, p2⟩ := id gP
  obtain ⟨h1, h2, h3, h4⟩ := id gH
  have hm := prod64 d2 d4
  have u1 := c_X11_walk l E ad hA sc ar bl x y w2 w1 d5 d1 d2 d6 d3 d4 l2 l1
  have u2 := c_X12_walk l E bd hB ms ma la x y w3 w1 d7 d1 d2 d8 d3 d4 l3 l1
  have e : letok (sc 16) (lok (ar 31) (ar 32) (ar 33) (ar 34) (ar 35) (ar 36) x y (sc 0)) nL = letok (ms 8) (mok (ma 12) (ma 13) (ma 14) (ma 15) (ma 16) (ma 17) x y (ms 2)) nL := by
    rw [l2, l3, l4, l5, l6, l7, l8, l9, s1, lok_mok]
  rw [e, w2] at u1
  rw [w3] at u2
  by_cases c : ok2 (inr x (nI 0) (nI 4)) (inx y (nI hg)) = true
  · rw [if_pos c, if_pos c] at u1 u2
    by_cases c2 : letok (ms 8) (mok (ma 12) (ma 13) (ma 14) (ma 15) (ma 16) (ma 17) x y (ms 2)) nL = true
    · rw [if_pos c2, if_pos c2] at u1 u2
      by_cases c3 : nI nW < nI 60
      · rw [if_pos c3, if_pos c3] at u1 u2
        have hn : nW < 60 := (nI_lt_iff (by omega) (by decide)).mp c3
        obtain ⟨v, -, hv, ev⟩ := inr_of (by decide) (ok2_of c).1 (by decide)
        refine Step.mk hA u1 rfl u2 rfl ⟨wd, hg, nW + 1, nF, tL, nL, gD, ⟨by omega, rfl, rfl, congrArg (fun f => upd f nW x) w4, congrArg (fun f => upd f nW y) w5, ?_, ?_⟩, ⟨f1, f2, f3, f4, f5, f6, f7, f8, f9, f10.walk y⟩, gT, gL, gS, gK, gB, gP, gH⟩
        · show upd (ar 18) nW (sc 0) = upd (ma 4) nW (ms 2)
          rw [w6, s1]
        · intro i hi
          show ∃ v, v < 5 ∧ upd (ma 2) nW x i = nI v
          by_cases ei : i = nW
          · rw [ei, pk_us]; exact ⟨v, by omega, ev⟩
          · rw [pk_un ei]; exact w7 i (by omega)
      · rw [if_neg c3, if_neg c3] at u1 u2
        exact Step.mk hA u1 rfl u2 rfl hr
    · rw [if_neg c2, if_neg c2] at u1 u2
      exact Step.mk hA u1 rfl u2 rfl hr
  · rw [if_neg c, if_neg c] at u1 u2
    exact Step.mk hA u1 rfl u2 rfl hr
set_option maxHeartbeats 4000000 in
theorem st_find (l : Launch) (E : Ev) {A B : Nat → Prop} (ad bd : Nat → Nat) (hA : Oka 39 ad A) (hB : Oka 30 bd B) (sc : Nat → Int32) (ar : Nat → Nat → Int32) (bl : Int64) (ms : Nat → Int32) (ma : Nat → Nat → Int32) (la : Nat → Int64) (hr : Rll sc ar bl ms ma) (x : Int32) (y : Int32) (z : Int32) (u : Int32) : Step l E A B ad bd yX11_find (.code yX11_find cX11_find 5 (some .int)) ({ frames := 2, cells := 0, slots := 0, locals := 46 }) yX12_find (.code yX12_find cX12_find 5 (some .int)) ({ frames := 2, cells := 0, slots := 0, locals := 43 }) [.int x, .int y, .int z, .int u] sc ar bl ms ma la := by
  obtain ⟨wd, hg, nW, nF, tL, nL, gD, gW, gF, gT, gL, gS, gK, gB, gP, gH⟩ := id hr
  obtain ⟨d1, d2, d3, d4, d5, d6, d7, d8⟩ := id gD
  obtain ⟨w1, w2, w3, w4, w5, w6, w7⟩ := id gW
  obtain ⟨f1, f2, f3, f4, f5, f6, f7, f8, f9, f10⟩ := id gF
  obtain ⟨t1, t2, t3, t4⟩ := id gT
  obtain ⟨l1, l2, l3, l4, l5, l6, l7, l8, l9, l10, l11⟩ := id gL
  obtain ⟨s1, s2, s3⟩ := id gS
  have k1 : ar 15 = ma 1 := gK
  obtain ⟨b1, b2⟩ := id gB
  obtain ⟨p1, p2⟩ := id gP
  obtain ⟨h1, h2, h3, h4⟩ := id gH
  have hm := prod64 d2 d4
  have u1 := c_X11_find l E ad hA sc ar bl x y z u w2 w1 f2 f1 d5 d1 d2 d6 d3 d4
  have u2 := c_X12_find l E bd hB ms ma la x y z u w3 w1 f3 f1 d7 d1 d2 d8 d3 d4
  rw [w5, f2] at u1
  rw [f3] at u2
  by_cases c : ok2 (inx x (nI nW)) (ok2 (inr z (nI 0) (nI 3)) (inr u (nI 1) (nI 99))) = true
  · rw [if_pos c, if_pos c] at u1 u2
    by_cases c2 : ok2 (inx y (nI (wd * hg))) (decide (nI (tn y / wd) = ma 3 (tn x))) = true
    · rw [if_pos c2, if_pos c2] at u1 u2
      by_cases c3 : nI nF < nI 200
      · rw [if_pos c3, if_pos c3] at u1 u2
        have hn : nF < 200 := (nI_lt_iff (by omega) (by decide)).mp c3
        obtain ⟨g1, g2⟩ := ok2_of c
        obtain ⟨g2, g3⟩ := ok2_of g2
        obtain ⟨g4, g5⟩ := ok2_of c2
        obtain ⟨w, hw, rfl⟩ := inx_of (by omega) g1
        obtain ⟨k, -, hk, rfl⟩ := inr_of (by decide) g2 (by decide)
        obtain ⟨n, hn1, hn2, rfl⟩ := inr_of (by decide) g3 (by decide)
        obtain ⟨p, hp, rfl⟩ := inx_of (by omega) g4
        have g5 := of_decide_eq_true g5
        have q1 : tn (nI w) = w := nI_clamp (by omega)
        have q2 : tn (nI k) = k := nI_clamp (by omega)
        have q3 : tn (nI p) = p := nI_clamp (by omega)
        rw [q1, q3] at g5
        rw [q1, q2, q3] at u1
        refine Step.mk hA u1 rfl u2 rfl ⟨wd, hg, nW, nF + 1, tL, nL, gD, gW, ⟨by omega, rfl, rfl, congrArg (fun f => upd f nF (nI w)) f4, congrArg (fun f => upd f nF (nI p)) f5, congrArg (fun f => upd f nF (nI k)) f6, congrArg (fun f => upd f nF (nI n)) f7, f8.add (by omega) (by omega), f9.add (by omega) (by omega) (by omega) d1 d2, f10.add hw hp (by omega) hn1 hn2 g5⟩, gT, gL, gS, gK, gB, gP, gH⟩
      · rw [if_neg c3, if_neg c3] at u1 u2
        exact Step.mk hA u1 rfl u2 rfl hr
    · rw [if_neg c2, if_neg c2] at u1 u2
      exact Step.mk hA u1 rfl u2 rfl hr
  · rw [if_neg c, if_neg c] at u1 u2
    exact Step.mk hA u1 rfl u2 rfl hr
set_option maxHeartbeats 4000000 in
theorem st_told (l : Launch) (E : Ev) {A B : Nat → Prop} (ad bd : Nat → Nat) (hA : Oka 39 ad A) (hB : Oka 30 bd B) (sc : Nat → Int32) (ar : Nat → Nat → Int32) (bl : Int64) (ms : Nat → Int32) (ma : Nat → Nat → Int32) (la : Nat → Int64) (hr : Rll sc ar bl ms ma) (x : Int32) (y : Int32) : Step l E A B ad bd yX11_told (.code yX11_told cX11_told 3 (some .int)) ({ frames := 4, cells := 0, slots := 0, locals := 90 }) yX12_told (.code yX12_told cX12_told 3 (some .int)) ({ frames := 2, cells := 0, slots := 0, locals := 49 }) [.int x, .int y] sc ar bl ms ma la := by
  obtain ⟨wd, hg, nW, nF, tL, nL, gD, gW, gF, gT, gL, gS, gK, gB, gP, gH⟩ := id hr
  obtain ⟨d1, d2, d3, d4, d5, d6, d7, d8⟩ := id gD
  obtain ⟨w1, w2, w3, w4, w5, w6, w7⟩ := id gW
  obtain ⟨f1, f2, f3, f4, f5, f6, f7, f8, f9, f10⟩ := id gF
  obtain ⟨t1, t2, t3, t4⟩ := id gT
  obtain ⟨l1, l2, l3, l4, l5, l6, l7, l8, l9, l10, l11⟩ := id gL
  obtain ⟨s1, s2, s3⟩ := id gS
  have k1 : ar 15 = ma 1 := gK
  obtain ⟨b1, b2⟩ := id gB
  obtain ⟨p1, p2⟩ := id gP
  obtain ⟨h1, h2, h3, h4⟩ := id gH
  have hm := prod64 d2 d4
  have u1 := c_X11_told l E ad hA sc ar bl x y w2 w1
  have u2 := c_X12_told l E bd hB ms ma la x y w3 w1 f3 f1
  refine Step.mk hA u1 rfl u2 ?_ hr
  by_cases c : inx x (nI nW) = true
  · obtain ⟨i, hi, rfl⟩ := inx_of (by omega) c
    rw [if_pos c, w4, w5, w6, ctel_mtl f8 f10 w1, show tn (nI i) = i from nI_clamp (by omega), ctot_fnd f8 f10 (show i < 60 by omega)]
    by_cases e0 : y = nI 0
    · rw [if_pos e0, if_pos (ok2_t c (by rw [e0]; exact in_t (by omega) (by decide))), if_pos e0]
    rw [if_neg e0]
    by_cases e1 : y = nI 1
    · rw [if_pos e1, if_pos (ok2_t c (by rw [e1]; exact in_t (by omega) (by decide))), if_neg e0, if_pos e1]
    rw [if_neg e1]
    by_cases e2 : y = nI 2
    · rw [if_pos e2, if_pos (ok2_t c (by rw [e2]; exact in_t (by omega) (by decide))), if_neg e0, if_neg e1, if_pos e2]
    rw [if_neg e2]
    by_cases e3 : y = nI 3
    · rw [if_pos e3, if_pos (ok2_t c (by rw [e3]; exact in_t (by omega) (by decide))), if_neg e0, if_neg e1, if_neg e2, if_pos e3]
    rw [if_neg e3]
    by_cases e4 : y = nI 4
    · rw [if_pos e4, if_pos (ok2_t c (by rw [e4]; exact in_t (by omega) (by decide))), if_neg e0, if_neg e1, if_neg e2, if_neg e3]
    rw [if_neg e4, if_neg (nt (ok2_f2 c (inr_out (by decide) (fun k hk => ?_))))]
    rcases (show k = 0 ∨ k = 1 ∨ k = 2 ∨ k = 3 ∨ k = 4 by omega) with rfl | rfl | rfl | rfl | rfl
    · exact e0
    · exact e1
    · exact e2
    · exact e3
    · exact e4
  · rw [if_neg c, if_neg (fun z => c (ok2_of z).1)]
set_option maxHeartbeats 4000000 in
theorem st_of (l : Launch) (E : Ev) {A B : Nat → Prop} (ad bd : Nat → Nat) (hA : Oka 39 ad A) (hB : Oka 30 bd B) (sc : Nat → Int32) (ar : Nat → Nat → Int32) (bl : Int64) (ms : Nat → Int32) (ma : Nat → Nat → Int32) (la : Nat → Int64) (hr : Rll sc ar bl ms ma) (x : Int32) (y : Int32) : Step l E A B ad bd yX11_of (.code yX11_of cX11_of 3 (some .int)) ({ frames := 1, cells := 0, slots := 0, locals := 21 }) yX12_of (.code yX12_of cX12_of 3 (some .int)) ({ frames := 1, cells := 0, slots := 0, locals := 22 }) [.int x, .int y] sc ar bl ms ma la := by
  obtain ⟨wd, hg, nW, nF, tL, nL, gD, gW, gF, gT, gL, gS, gK, gB, gP, gH⟩ := id hr
  obtain ⟨d1, d2, d3, d4, d5, d6, d7, d8⟩ := id gD
  obtain ⟨w1, w2, w3, w4, w5, w6, w7⟩ := id gW
  obtain ⟨f1, f2, f3, f4, f5, f6, f7, f8, f9, f10⟩ := id gF
  obtain ⟨t1, t2, t3, t4⟩ := id gT
  obtain ⟨l1, l2, l3, l4, l5, l6, l7, l8, l9, l10, l11⟩ := id gL
  obtain ⟨s1, s2, s3⟩ := id gS
  have k1 : ar 15 = ma 1 := gK
  obtain ⟨b1, b2⟩ := id gB
  obtain ⟨p1, p2⟩ := id gP
  obtain ⟨h1, h2, h3, h4⟩ := id gH
  have hm := prod64 d2 d4
  have u1 := c_X11_of l E ad hA sc ar bl x y f2 f1
  have u2 := c_X12_of l E bd hB ms ma la x y f3 f1
  refine Step.mk hA u1 rfl u2 ?_ hr
  by_cases c : inx x (nI nF) = true
  · rw [if_pos c, f4, f5, f6, f7]
    by_cases e0 : y = nI 0
    · rw [if_pos e0, if_pos (ok2_t c (by rw [e0]; exact in_t (by omega) (by decide))), if_pos (show y = 0 from e0)]
    have e0' : ¬ y = 0 := e0
    rw [if_neg e0]
    by_cases e1 : y = nI 1
    · rw [if_pos e1, if_pos (ok2_t c (by rw [e1]; exact in_t (by omega) (by decide))), if_neg e0', if_pos e1]
    rw [if_neg e1]
    by_cases e2 : y = nI 2
    · rw [if_pos e2, if_pos (ok2_t c (by rw [e2]; exact in_t (by omega) (by decide))), if_neg e0', if_neg e1, if_pos e2]
    rw [if_neg e2]
    by_cases e3 : y = nI 3
    · rw [if_pos e3, if_pos (ok2_t c (by rw [e3]; exact in_t (by omega) (by decide))), if_neg e0', if_neg e1, if_neg e2]
    rw [if_neg e3, if_neg (nt (ok2_f2 c (inr_out (by decide) (fun k hk => ?_))))]
    rcases (show k = 0 ∨ k = 1 ∨ k = 2 ∨ k = 3 by omega) with rfl | rfl | rfl | rfl
    · exact e0
    · exact e1
    · exact e2
    · exact e3
  · rw [if_neg c, if_neg (fun z => c (ok2_of z).1)]
set_option maxHeartbeats 4000000 in
theorem st_count (l : Launch) (E : Ev) {A B : Nat → Prop} (ad bd : Nat → Nat) (hA : Oka 39 ad A) (hB : Oka 30 bd B) (sc : Nat → Int32) (ar : Nat → Nat → Int32) (bl : Int64) (ms : Nat → Int32) (ma : Nat → Nat → Int32) (la : Nat → Int64) (hr : Rll sc ar bl ms ma) (x : Int32) (y : Int32) : Step l E A B ad bd yX11_count (.code yX11_count cX11_count 3 (some .int)) ({ frames := 5, cells := 0, slots := 0, locals := 111 }) yX12_count (.code yX12_count cX12_count 3 (some .int)) ({ frames := 2, cells := 0, slots := 0, locals := 49 }) [.int x, .int y] sc ar bl ms ma la := by
  obtain ⟨wd, hg, nW, nF, tL, nL, gD, gW, gF, gT, gL, gS, gK, gB, gP, gH⟩ := id hr
  obtain ⟨d1, d2, d3, d4, d5, d6, d7, d8⟩ := id gD
  obtain ⟨w1, w2, w3, w4, w5, w6, w7⟩ := id gW
  obtain ⟨f1, f2, f3, f4, f5, f6, f7, f8, f9, f10⟩ := id gF
  obtain ⟨t1, t2, t3, t4⟩ := id gT
  obtain ⟨l1, l2, l3, l4, l5, l6, l7, l8, l9, l10, l11⟩ := id gL
  obtain ⟨s1, s2, s3⟩ := id gS
  have k1 : ar 15 = ma 1 := gK
  obtain ⟨b1, b2⟩ := id gB
  obtain ⟨p1, p2⟩ := id gP
  obtain ⟨h1, h2, h3, h4⟩ := id gH
  have hm := prod64 d2 d4
  have u1 := c_X11_count l E ad hA sc ar bl x y w2 w1 d5 d1 d2 d6 d3 d4
  have u2 := c_X12_count l E bd hB ms ma la x y w3 w1 f3 f1 d7 d1 d2 d8 d3 d4
  refine Step.mk hA u1 rfl u2 ?_ hr
  by_cases c : ok2 (inx x (nI (wd * hg))) (inr y (nI 0) (nI 3)) = true
  · rw [if_pos c, if_pos c]
    obtain ⟨c1, c2⟩ := ok2_of c
    obtain ⟨p, hp, rfl⟩ := inx_of (by omega) c1
    obtain ⟨k, -, hk, rfl⟩ := inr_of (by decide) c2 (by decide)
    have q := borne_eq f9 f10 w1 d1 d2 hm (r := p / wd) (c := p % wd) (j := k) (row_lt hp d1) (Nat.mod_lt _ (by omega)) (by omega)
    rw [← p_eq wd p] at q
    rw [w2, w5, ctel_mtl f8 f10 w1, show tn (nI p) = p from nI_clamp (by omega), show tn (nI k) = k from nI_clamp (by omega)]
    exact q
  · rw [if_neg c, if_neg c]
set_option maxHeartbeats 4000000 in
theorem st_gap (l : Launch) (E : Ev) {A B : Nat → Prop} (ad bd : Nat → Nat) (hA : Oka 39 ad A) (hB : Oka 30 bd B) (sc : Nat → Int32) (ar : Nat → Nat → Int32) (bl : Int64) (ms : Nat → Int32) (ma : Nat → Nat → Int32) (la : Nat → Int64) (hr : Rll sc ar bl ms ma) : Step l E A B ad bd yX11_gap (.code yX11_gap cX11_gap 2 (some .int)) ({ frames := 4, cells := 0, slots := 0, locals := 90 }) yX12_gap (.code yX12_gap cX12_gap 2 (some .int)) ({ frames := 2, cells := 0, slots := 0, locals := 49 }) [] sc ar bl ms ma la := by
  obtain ⟨wd, hg, nW, nF, tL, nL, gD, gW, gF, gT, gL, gS, gK, gB, gP, gH⟩ := id hr
  obtain ⟨d1, d2, d3, d4, d5, d6, d7, d8⟩ := id gD
  obtain ⟨w1, w2, w3, w4, w5, w6, w7⟩ := id gW
  obtain ⟨f1, f2, f3, f4, f5, f6, f7, f8, f9, f10⟩ := id gF
  obtain ⟨t1, t2, t3, t4⟩ := id gT
  obtain ⟨l1, l2, l3, l4, l5, l6, l7, l8, l9, l10, l11⟩ := id gL
  obtain ⟨s1, s2, s3⟩ := id gS
  have k1 : ar 15 = ma 1 := gK
  obtain ⟨b1, b2⟩ := id gB
  obtain ⟨p1, p2⟩ := id gP
  obtain ⟨h1, h2, h3, h4⟩ := id gH
  have hm := prod64 d2 d4
  have u1 := c_X11_gap l E ad hA sc ar bl w2 w1 d5 d1 d2 d6 d3 d4
  have u2 := c_X12_gap l E bd hB ms ma la w3 w1 f3 f1 d7 d1 d2 d8 d3 d4
  have e : fstL (fun r => decide (ctel nW (ar 17) (ar 19) (nI r) = (-1))) hg = fstL (fun r => decide (mtl nW nF (ma 3) (ma 5) (ma 8) (nI r) < 0)) hg := fstL_cg (fun k _ => by
    rw [w5, ctel_mtl f8 f10 w1]
    rcases mtl_in nW nF (ma 3) (ma 5) (ma 8) (nI k) with e | ⟨i, hi, e⟩
    · rw [e]; decide
    · rw [e, decide_eq_false (nI_ne_m1 (by omega)), decide_eq_false (nI_pos (by omega))])
  exact Step.mk hA u1 rfl u2 (by rw [e]) hr
set_option maxHeartbeats 4000000 in
theorem st_led (l : Launch) (E : Ev) {A B : Nat → Prop} (ad bd : Nat → Nat) (hA : Oka 39 ad A) (hB : Oka 30 bd B) (sc : Nat → Int32) (ar : Nat → Nat → Int32) (bl : Int64) (ms : Nat → Int32) (ma : Nat → Nat → Int32) (la : Nat → Int64) (hr : Rll sc ar bl ms ma) (x : Int32) (y : Int32) : Step l E A B ad bd yX11_led (.code yX11_led cX11_led 4 (some .int)) ({ frames := 5, cells := 0, slots := 0, locals := 111 }) yX12_led (.code yX12_led cX12_led 6 (some .int)) ({ frames := 2, cells := 0, slots := 0, locals := 49 }) [.int x, .int y] sc ar bl ms ma la := by
  obtain ⟨wd, hg, nW, nF, tL, nL, gD, gW, gF, gT, gL, gS, gK, gB, gP, gH⟩ := id hr
  obtain ⟨d1, d2, d3, d4, d5, d6, d7, d8⟩ := id gD
  obtain ⟨w1, w2, w3, w4, w5, w6, w7⟩ := id gW
  obtain ⟨f1, f2, f3, f4, f5, f6, f7, f8, f9, f10⟩ := id gF
  obtain ⟨t1, t2, t3, t4⟩ := id gT
  obtain ⟨l1, l2, l3, l4, l5, l6, l7, l8, l9, l10, l11⟩ := id gL
  obtain ⟨s1, s2, s3⟩ := id gS
  have k1 : ar 15 = ma 1 := gK
  obtain ⟨b1, b2⟩ := id gB
  obtain ⟨p1, p2⟩ := id gP
  obtain ⟨h1, h2, h3, h4⟩ := id gH
  have hm := prod64 d2 d4
  have u1 := c_X11_led l E ad hA sc ar bl x y w2 w1 f2 f1 d5 d1 d2 d6 d3 d4
  have u2 := c_X12_led l E bd hB ms ma la x y w3 w1 f3 f1 d7 d1 d2 d8 d3 d4
  exact Step.mk hA u1 rfl u2 (by rw [f4, f5, w5, ctel_mtl f8 f10 w1, htl_hit]) hr
set_option maxHeartbeats 4000000 in
theorem st_pair (l : Launch) (E : Ev) {A B : Nat → Prop} (ad bd : Nat → Nat) (hA : Oka 39 ad A) (hB : Oka 30 bd B) (sc : Nat → Int32) (ar : Nat → Nat → Int32) (bl : Int64) (ms : Nat → Int32) (ma : Nat → Nat → Int32) (la : Nat → Int64) (hr : Rll sc ar bl ms ma) (x : Int32) (y : Int32) (z : Int32) : Step l E A B ad bd yX11_pair (.code yX11_pair cX11_pair 4 (some .int)) ({ frames := 4, cells := 0, slots := 0, locals := 91 }) yX12_pair (.code yX12_pair cX12_pair 7 (some .int)) ({ frames := 2, cells := 0, slots := 0, locals := 42 }) [.int x, .int y, .int z] sc ar bl ms ma la := by
  obtain ⟨wd, hg, nW, nF, tL, nL, gD, gW, gF, gT, gL, gS, gK, gB, gP, gH⟩ := id hr
  obtain ⟨d1, d2, d3, d4, d5, d6, d7, d8⟩ := id gD
  obtain ⟨w1, w2, w3, w4, w5, w6, w7⟩ := id gW
  obtain ⟨f1, f2, f3, f4, f5, f6, f7, f8, f9, f10⟩ := id gF
  obtain ⟨t1, t2, t3, t4⟩ := id gT
  obtain ⟨l1, l2, l3, l4, l5, l6, l7, l8, l9, l10, l11⟩ := id gL
  obtain ⟨s1, s2, s3⟩ := id gS
  have k1 : ar 15 = ma 1 := gK
  obtain ⟨b1, b2⟩ := id gB
  obtain ⟨p1, p2⟩ := id gP
  obtain ⟨h1, h2, h3, h4⟩ := id gH
  have hm := prod64 d2 d4
  have u1 := c_X11_pair l E ad hA sc ar bl x y z w2 w1
  have u2 := c_X12_pair l E bd hB ms ma la x y z w3 w1 f3 f1 f10.k4
  refine Step.mk hA u1 rfl u2 ?_ hr
  have hF' : ∀ i, i < nW → cseen (ma 1) (ar 19) i = fns (ma 1) (ma 5) (ma 7) (ma 8) (nI i) nF := fun i hi => cseen_fns f8 f10 (by omega)
  by_cases c : ok2 (inr x (nI 0) (nI 4)) (ok2 (inr y (nI 0) (nI 4)) (!decide (x = y))) = true
  · have hne : ¬ x = y := by
      have h := (ok2_of (ok2_of c).2).2
      intro e
      rw [decide_eq_true e] at h
      cases h
    rw [if_pos c, k1, w4, w5]
    by_cases e0 : z = nI 0
    · rw [if_pos e0, if_pos (ok2_t c (by rw [e0]; exact in_t (by omega) (by decide))), e0]
      exact pair0 hne nW nF
    rw [if_neg e0]
    by_cases e1 : z = nI 1
    · rw [if_pos e1, if_pos (ok2_t c (by rw [e1]; exact in_t (by omega) (by decide))), e1]
      exact pair1 hne nW nF hF'
    rw [if_neg e1]
    by_cases e2 : z = nI 2
    · rw [if_pos e2, if_pos (ok2_t c (by rw [e2]; exact in_t (by omega) (by decide))), e2]
      exact pair2 hne nW nF hF'
    rw [if_neg e2, if_neg (nt (ok2_f2 c (inr_out (by decide) (fun k hk => ?_))))]
    rcases (show k = 0 ∨ k = 1 ∨ k = 2 by omega) with rfl | rfl | rfl
    · exact e0
    · exact e1
    · exact e2
  · rw [if_neg c, if_neg (fun z => c (ok2_of z).1)]
set_option maxHeartbeats 4000000 in
theorem st_eye (l : Launch) (E : Ev) {A B : Nat → Prop} (ad bd : Nat → Nat) (hA : Oka 39 ad A) (hB : Oka 30 bd B) (sc : Nat → Int32) (ar : Nat → Nat → Int32) (bl : Int64) (ms : Nat → Int32) (ma : Nat → Nat → Int32) (la : Nat → Int64) (hr : Rll sc ar bl ms ma) (x : Int32) : Step l E A B ad bd yX11_eye (.code yX11_eye cX11_eye 2 (some .int)) ({ frames := 4, cells := 0, slots := 0, locals := 92 }) yX12_eye (.code yX12_eye cX12_eye 2 (some .int)) ({ frames := 2, cells := 0, slots := 0, locals := 49 }) [.int x] sc ar bl ms ma la := by
  obtain ⟨wd, hg, nW, nF, tL, nL, gD, gW, gF, gT, gL, gS, gK, gB, gP, gH⟩ := id hr
  obtain ⟨d1, d2, d3, d4, d5, d6, d7, d8⟩ := id gD
  obtain ⟨w1, w2, w3, w4, w5, w6, w7⟩ := id gW
  obtain ⟨f1, f2, f3, f4, f5, f6, f7, f8, f9, f10⟩ := id gF
  obtain ⟨t1, t2, t3, t4⟩ := id gT
  obtain ⟨l1, l2, l3, l4, l5, l6, l7, l8, l9, l10, l11⟩ := id gL
  obtain ⟨s1, s2, s3⟩ := id gS
  have k1 : ar 15 = ma 1 := gK
  obtain ⟨b1, b2⟩ := id gB
  obtain ⟨p1, p2⟩ := id gP
  obtain ⟨h1, h2, h3, h4⟩ := id gH
  have hm := prod64 d2 d4
  have u1 := c_X11_eye l E ad hA sc ar bl x w2 w1
  have u2 := c_X12_eye l E bd hB ms ma la x w3 w1 f3 f1 f10.k4
  by_cases c : inr x (nI 0) (nI 4) = true
  · rw [if_pos c] at u1
    rw [if_pos c, if_pos c] at u2
    rw [k1, w4, w5] at u1
    exact Step.mk hA u1 rfl u2 (eye_all f8 f10 w1 f1 x).1 hr
  · rw [if_neg c] at u1
    rw [if_neg c, if_neg c] at u2
    exact Step.mk hA u1 rfl u2 rfl hr
set_option maxHeartbeats 4000000 in
theorem st_corrected (l : Launch) (E : Ev) {A B : Nat → Prop} (ad bd : Nat → Nat) (hA : Oka 39 ad A) (hB : Oka 30 bd B) (sc : Nat → Int32) (ar : Nat → Nat → Int32) (bl : Int64) (ms : Nat → Int32) (ma : Nat → Nat → Int32) (la : Nat → Int64) (hr : Rll sc ar bl ms ma) (x : Int32) (y : Int32) : Step l E A B ad bd yX11_corrected (.code yX11_corrected cX11_corrected 5 (some .int)) ({ frames := 5, cells := 0, slots := 0, locals := 113 }) yX12_corrected (.code yX12_corrected cX12_corrected 3 (some .int)) ({ frames := 3, cells := 0, slots := 0, locals := 70 }) [.int x, .int y] sc ar bl ms ma la := by
  obtain ⟨wd, hg, nW, nF, tL, nL, gD, gW, gF, gT, gL, gS, gK, gB, gP, gH⟩ := id hr
  obtain ⟨d1, d2, d3, d4, d5, d6, d7, d8⟩ := id gD
  obtain ⟨w1, w2, w3, w4, w5, w6, w7⟩ := id gW
  obtain ⟨f1, f2, f3, f4, f5, f6, f7, f8, f9, f10⟩ := id gF
  obtain ⟨t1, t2, t3, t4⟩ := id gT
  obtain ⟨l1, l2, l3, l4, l5, l6, l7, l8, l9, l10, l11⟩ := id gL
  obtain ⟨s1, s2, s3⟩ := id gS
  have k1 : ar 15 = ma 1 := gK
  obtain ⟨b1, b2⟩ := id gB
  obtain ⟨p1, p2⟩ := id gP
  obtain ⟨h1, h2, h3, h4⟩ := id gH
  have hm := prod64 d2 d4
  have u1 := c_X11_corrected l E ad hA sc ar bl x y w2 w1 d5 d1 d2 d6 d3 d4
  have u2 := c_X12_corrected l E bd hB ms ma la x y w3 w1 f3 f1 f10.k4 d7 d1 d2 d8 d3 d4 w7
  by_cases c : ok2 (inx x (nI (wd * hg))) (inr y (nI 0) (nI 3)) = true
  · rw [if_pos c] at u1
    rw [if_pos c, if_pos c] at u2
    refine Step.mk hA u1 rfl u2 ?_ hr
    obtain ⟨c1, c2⟩ := ok2_of c
    obtain ⟨p, hp, rfl⟩ := inx_of (by omega) c1
    obtain ⟨k, -, hk, rfl⟩ := inr_of (by decide) c2 (by decide)
    have q := corr_eq (so := ma 1) (wk := ma 2) (ey0 := ma 21) (ch0 := ma 22) f8 f9 f10 w7 w1 f1 d1 d2 hm (r := p / wd) (c := p % wd) (k := k) (row_lt hp d1) (Nat.mod_lt _ (by omega)) (by omega)
    rw [← p_eq wd p] at q
    rw [w2, k1, w4, w5, ctel_mtl f8 f10 w1, show tn (nI p) = p from nI_clamp (by omega), show tn (nI k) = k from nI_clamp (by omega)]
    exact q
  · rw [if_neg c] at u1
    rw [if_neg c, if_neg c] at u2
    exact Step.mk hA u1 rfl u2 rfl hr
