/-! operations, the last part -/
set_option maxHeartbeats 4000000 in
theorem st_feed (l : Launch) (E : Ev) {A B : Nat → Prop} (ad bd : Nat → Nat) (hA : Oka 39 ad A) (hB : Oka 30 bd B) (sc : Nat → Int32) (ar : Nat → Nat → Int32) (bl : Int64) (ms : Nat → Int32) (ma : Nat → Nat → Int32) (la : Nat → Int64) (hr : Rll sc ar bl ms ma) (x : Int32) (y : Int32) (z : Int32) : Step l E A B ad bd yX11_feed (.code yX11_feed cX11_feed 4 (some .int)) ({ frames := 1, cells := 0, slots := 0, locals := 22 }) yX12_feed (.code yX12_feed cX12_feed 4 (some .int)) ({ frames := 1, cells := 0, slots := 0, locals := 22 }) [.int x, .int y, .int z] sc ar bl ms ma la := by
  obtain ⟨wd, hg, nW, nF, tL, nL, gD, gW, gF, gT, gL, gS, gK, gB, gP, gH⟩ := id hr
  obtain ⟨d1, d2, d3, d4, d5, d6, d7, d8⟩ := id gD
  obtain ⟨w1, w2, w3, w4, w5, w6, w7⟩ := id gW
  obtain ⟨f1, f2, f3, f4, f5, f6, f7, f8, f9, f10⟩ := id gF
  obtain ⟨t1, t2, t3, t4⟩ := id gT
  obtain ⟨l1, l2, l3, l4, l5, l6, l7, l8, l9, l10, l11⟩ := id gL
  obtain ⟨s1, s2, s3⟩ := id gS
  have k1 : ar 15 = ma 1 := gK
  obtain ⟨b1, b2⟩ := id gB
  obtain ⟨p1, p2⟩ := id gP
  obtain ⟨h1, h2, h3, h4⟩ := id gH
  have hm := prod64 d2 d4
  have u1 := c_X11_feed l E ad hA sc ar bl x y z t2 t1
  have u2 := c_X12_feed l E bd hB ms ma la x y z t3 t1
  rw [t2, nI_add] at u1
  by_cases c : tL + 12 ≤ 60
  · have c1 : (!decide (nI 60 < nI (tL + 12))) = true := by rw [decide_eq_false (nI_nlt c (by omega))]; rfl
    rw [if_pos c1, if_pos c1] at u1
    rw [if_pos c, if_pos c] at u2
    exact Step.mk hA u1 rfl u2 rfl ⟨wd, hg, nW, nF, tL + 4 + 4 + 4, nL, gD, gW, gF, ⟨by omega, rfl, rfl, tp_eq (tp_eq (tp_eq t4 tL x) (tL + 4) y) (tL + 4 + 4) z⟩, gL, gS, gK, gB, gP, gH⟩
  · have c1 : ¬ (!decide (nI 60 < nI (tL + 12))) = true := by rw [decide_eq_true (nI_lt (by omega) (by omega))]; decide
    rw [if_neg c1, if_neg c1] at u1
    rw [if_neg c, if_neg c] at u2
    exact Step.mk hA u1 rfl u2 rfl hr
set_option maxHeartbeats 4000000 in
theorem st_trim (l : Launch) (E : Ev) {A B : Nat → Prop} (ad bd : Nat → Nat) (hA : Oka 39 ad A) (hB : Oka 30 bd B) (sc : Nat → Int32) (ar : Nat → Nat → Int32) (bl : Int64) (ms : Nat → Int32) (ma : Nat → Nat → Int32) (la : Nat → Int64) (hr : Rll sc ar bl ms ma) (x : Int32) : Step l E A B ad bd yX11_trim (.code yX11_trim cX11_trim 2 (some .int)) ({ frames := 1, cells := 0, slots := 0, locals := 22 }) yX12_trim (.code yX12_trim cX12_trim 2 (some .int)) ({ frames := 1, cells := 0, slots := 0, locals := 22 }) [.int x] sc ar bl ms ma la := by
  obtain ⟨wd, hg, nW, nF, tL, nL, gD, gW, gF, gT, gL, gS, gK, gB, gP, gH⟩ := id hr
  obtain ⟨d1, d2, d3, d4, d5, d6, d7, d8⟩ := id gD
  obtain ⟨w1, w2, w3, w4, w5, w6, w7⟩ := id gW
  obtain ⟨f1, f2, f3, f4, f5, f6, f7, f8, f9, f10⟩ := id gF
  obtain ⟨t1, t2, t3, t4⟩ := id gT
  obtain ⟨l1, l2, l3, l4, l5, l6, l7, l8, l9, l10, l11⟩ := id gL
  obtain ⟨s1, s2, s3⟩ := id gS
  have k1 : ar 15 = ma 1 := gK
  obtain ⟨b1, b2⟩ := id gB
  obtain ⟨p1, p2⟩ := id gP
  obtain ⟨h1, h2, h3, h4⟩ := id gH
  have hm := prod64 d2 d4
  have u1 := c_X11_trim l E ad hA sc ar bl x
  have u2 := c_X12_trim l E bd hB ms ma la x
  rw [t2] at u1
  rw [t3] at u2
  by_cases c : inr x (nI 0) (nI tL) = true
  · rw [if_pos c, if_pos c] at u1 u2
    obtain ⟨j, -, hj, rfl⟩ := inr_of (by omega) c (by decide)
    exact Step.mk hA u1 rfl u2 rfl ⟨wd, hg, nW, nF, j, nL, gD, gW, gF, ⟨by omega, rfl, rfl, t4⟩, gL, gS, gK, gB, gP, gH⟩
  · rw [if_neg c, if_neg c] at u1 u2
    exact Step.mk hA u1 rfl u2 rfl hr
set_option maxHeartbeats 4000000 in
theorem st_leave (l : Launch) (E : Ev) {A B : Nat → Prop} (ad bd : Nat → Nat) (hA : Oka 39 ad A) (hB : Oka 30 bd B) (sc : Nat → Int32) (ar : Nat → Nat → Int32) (bl : Int64) (ms : Nat → Int32) (ma : Nat → Nat → Int32) (la : Nat → Int64) (hr : Rll sc ar bl ms ma) : Step l E A B ad bd yX11_leave (.code yX11_leave cX11_leave 2 (some .int)) ({ frames := 9, cells := 0, slots := 0, locals := 191 }) yX12_leave (.code yX12_leave cX12_leave 3 (some .int)) ({ frames := 4, cells := 0, slots := 0, locals := 89 }) [] sc ar bl ms ma la := by
  obtain ⟨wd, hg, nW, nF, tL, nL, gD, gW, gF, gT, gL, gS, gK, gB, gP, gH⟩ := id hr
  obtain ⟨d1, d2, d3, d4, d5, d6, d7, d8⟩ := id gD
  obtain ⟨w1, w2, w3, w4, w5, w6, w7⟩ := id gW
  obtain ⟨f1, f2, f3, f4, f5, f6, f7, f8, f9, f10⟩ := id gF
  obtain ⟨t1, t2, t3, t4⟩ := id gT
  obtain ⟨l1, l2, l3, l4, l5, l6, l7, l8, l9, l10, l11⟩ := id gL
  obtain ⟨s1, s2, s3⟩ := id gS
  have k1 : ar 15 = ma 1 := gK
  obtain ⟨b1, b2⟩ := id gB
  obtain ⟨p1, p2⟩ := id gP
  obtain ⟨h1, h2, h3, h4⟩ := id gH
  have hm := prod64 d2 d4
  have hB0 : ∀ i, ma 11 i &&& nI 255 = ma 11 i := fun i => by
    obtain ⟨z, hz, e⟩ := and255 (ar 30 i)
    rw [← t4 i, e, nx255 hz]
  have hBy : Byt (ma 11) := fun i => by rw [← t4 i]; exact and255 _
  have hcg : ∀ i, ar 30 i &&& nI 255 = ma 11 i &&& nI 255 := fun i => by rw [hB0 i]; exact t4 i
  have u1 := c_X11_leave l E ad hA sc ar bl t2 t1 l2 l1
  rw [rd5_cg hcg, rd1_cg hcg, rd2_cg hcg, rd3_cg hcg, spA_cg hcg, spB_cg hcg, dyA_cg hcg, dyB_cg hcg, bwB_cg hcg, l2] at u1
  by_cases hlt : nL < 12
  · have u2 := c_X12_leave1 l E bd hB ms ma la t3 t1 l3 hlt hB0
    obtain ⟨q1, q2, q3⟩ := read_eq hBy t1 (ms 12) (ms 13) (ma 12 nL) (ma 13 nL) (ma 14 nL) (ma 15 nL) (ma 16 nL)
    generalize rL (ma 11) tL (ms 12) (ms 13) (ma 12 nL) (ma 13 nL) (ma 14 nL) (ma 15 nL) (ma 16 nL) = Z at q1 q2 q3 u2
    rw [q1] at u1
    rcases q2 with e | ⟨n, hn, e⟩
    · have c12 : nI nL < nI 12 := nI_lt hlt (by decide)
      have cn : ¬ 0 ≤ Z.1 := by rw [e]; decide
      rw [if_pos e, if_pos e, if_pos c12, if_pos c12] at u1
      rw [if_neg cn, if_neg cn] at u2
      obtain ⟨x1, x2, x3, x4, x5⟩ := q3 e
      rw [x1, x2, x3, x4, x5] at u1
      have e0 : vp_nar .boolean (nI 0) = 0 := by decide
      refine Step.mk hA u1 rfl u2 rfl ⟨wd, hg, nW, nF, 0, nL + 1, gD, gW, gF, ⟨by omega, rfl, rfl, t4⟩, ⟨by omega, rfl, rfl, congrArg (fun f => upd f nL Z.2.2.1.1) l4, congrArg (fun f => upd f nL Z.2.2.1.2.1) l5, congrArg (fun f => upd f nL Z.2.2.1.2.2.1) l6, congrArg (fun f => upd f nL Z.2.2.1.2.2.2.1) l7, congrArg (fun f => upd f nL Z.2.2.1.2.2.2.2) l8, ?_, ?_, ?_⟩, gS, gK, gB, gP, gH⟩
      · show ar 36 = upd (ma 17) nL (vp_nar .boolean (nI 0))
        rw [l9, e0]
        funext k
        by_cases ek : k = nL
        · rw [ek, pk_us]; exact l10 nL (Nat.le_refl _)
        · rw [pk_un ek]
      · intro j hj
        show upd (ma 17) nL (vp_nar .boolean (nI 0)) j = 0
        rw [pk_un (by omega)]; exact l10 j (by omega)
      · intro j
        show upd (ma 17) nL (vp_nar .boolean (nI 0)) j = 0 ∨ upd (ma 17) nL (vp_nar .boolean (nI 0)) j = 1
        by_cases ej : j = nL
        · rw [ej, pk_us]; exact Or.inl e0
        · rw [pk_un ej]; exact l11 j
    · have c1 : ¬ Z.1 = -1 := by rw [e]; exact nI_ne_m1 (by omega)
      have c2 : 0 ≤ Z.1 := by rw [e]; exact Int32.not_lt.mp (nI_pos (by omega))
      rw [if_neg c1, if_neg c1] at u1
      rw [if_pos c2, if_pos c2] at u2
      exact Step.mk hA u1 rfl u2 rfl ⟨wd, hg, nW, nF, 0, nL, gD, gW, gF, ⟨by omega, rfl, rfl, t4⟩, gL, gS, gK, gB, gP, gH⟩
  · have u2 := c_X12_leave0 l E bd hB ms ma la t3 t1 l3 (show nL = 12 by omega) hB0
    obtain ⟨q1, q2, q3⟩ := read_eq hBy t1 (ms 12) (ms 13) (ma 12 11) (ma 13 11) (ma 14 11) (ma 15 11) (ma 16 11)
    generalize rL (ma 11) tL (ms 12) (ms 13) (ma 12 11) (ma 13 11) (ma 14 11) (ma 15 11) (ma 16 11) = Z at q1 q2 q3 u2
    rw [q1] at u1
    rcases q2 with e | ⟨n, hn, e⟩
    · have c12 : ¬ nI nL < nI 12 := nI_nlt (by omega) (by omega)
      have cn : ¬ 0 ≤ Z.1 := by rw [e]; decide
      rw [if_pos e, if_pos e, if_neg c12, if_neg c12] at u1
      rw [if_neg cn] at u2
      exact Step.mk hA u1 rfl u2 rfl ⟨wd, hg, nW, nF, 0, nL, gD, gW, gF, ⟨by omega, rfl, rfl, t4⟩, gL, gS, gK, gB, gP, gH⟩
    · have c1 : ¬ Z.1 = -1 := by rw [e]; exact nI_ne_m1 (by omega)
      have c2 : 0 ≤ Z.1 := by rw [e]; exact Int32.not_lt.mp (nI_pos (by omega))
      rw [if_neg c1, if_neg c1] at u1
      rw [if_pos c2] at u2
      exact Step.mk hA u1 rfl u2 rfl ⟨wd, hg, nW, nF, 0, nL, gD, gW, gF, ⟨by omega, rfl, rfl, t4⟩, gL, gS, gK, gB, gP, gH⟩
set_option maxHeartbeats 4000000 in
theorem st_withdraw (l : Launch) (E : Ev) {A B : Nat → Prop} (ad bd : Nat → Nat) (hA : Oka 39 ad A) (hB : Oka 30 bd B) (sc : Nat → Int32) (ar : Nat → Nat → Int32) (bl : Int64) (ms : Nat → Int32) (ma : Nat → Nat → Int32) (la : Nat → Int64) (hr : Rll sc ar bl ms ma) (x : Int32) : Step l E A B ad bd yX11_withdraw (.code yX11_withdraw cX11_withdraw 2 (some .int)) ({ frames := 1, cells := 0, slots := 0, locals := 21 }) yX12_withdraw (.code yX12_withdraw cX12_withdraw 2 (some .int)) ({ frames := 1, cells := 0, slots := 0, locals := 22 }) [.int x] sc ar bl ms ma la := by
  obtain ⟨wd, hg, nW, nF, tL, nL, gD, gW, gF, gT, gL, gS, gK, gB, gP, gH⟩ := id hr
  obtain ⟨d1, d2, d3, d4, d5, d6, d7, d8⟩ := id gD
  obtain ⟨w1, w2, w3, w4, w5, w6, w7⟩ := id gW
  obtain ⟨f1, f2, f3, f4, f5, f6, f7, f8, f9, f10⟩ := id gF
  obtain ⟨t1, t2, t3, t4⟩ := id gT
  obtain ⟨l1, l2, l3, l4, l5, l6, l7, l8, l9, l10, l11⟩ := id gL
  obtain ⟨s1, s2, s3⟩ := id gS
  have k1 : ar 15 = ma 1 := gK
  obtain ⟨b1, b2⟩ := id gB
  obtain ⟨p1, p2⟩ := id gP
  obtain ⟨h1, h2, h3, h4⟩ := id gH
  have hm := prod64 d2 d4
  have u1 := c_X11_withdraw l E ad hA sc ar bl x l2 l1 (fun j _ => by rw [l9]; rcases l11 j with e | e <;> rw [e] <;> decide)
  have u2 := c_X12_withdraw l E bd hB ms ma la x l3 l1
  rw [l9] at u1
  by_cases c : inx x (nI nL) = true
  · rw [if_pos c, if_pos c] at u1 u2
    by_cases c2 : ma 17 (tn x) = 0
    · rw [if_pos c2, if_pos c2] at u1 u2
      obtain ⟨i, hi, rfl⟩ := inx_of (by omega) c
      rw [show tn (nI i) = i from nI_clamp (by omega)] at u1 u2
      refine Step.mk hA u1 rfl u2 rfl ⟨wd, hg, nW, nF, tL, nL, gD, gW, gF, gT, ⟨l1, l2, l3, l4, l5, l6, l7, l8, rfl, ?_, ?_⟩, gS, gK, gB, gP, gH⟩
      · intro j hj
        show upd (ma 17) i (vp_nar .boolean (nI 1)) j = 0
        rw [pk_un (by omega)]; exact l10 j hj
      · intro j
        show upd (ma 17) i (vp_nar .boolean (nI 1)) j = 0 ∨ upd (ma 17) i (vp_nar .boolean (nI 1)) j = 1
        by_cases ej : j = i
        · rw [ej, pk_us]; exact Or.inr (by decide)
        · rw [pk_un ej]; exact l11 j
    · rw [if_neg c2, if_neg c2] at u1 u2
      exact Step.mk hA u1 rfl u2 rfl hr
  · rw [if_neg c, if_neg c] at u1 u2
    exact Step.mk hA u1 rfl u2 rfl hr
set_option maxHeartbeats 4000000 in
theorem st_lets (l : Launch) (E : Ev) {A B : Nat → Prop} (ad bd : Nat → Nat) (hA : Oka 39 ad A) (hB : Oka 30 bd B) (sc : Nat → Int32) (ar : Nat → Nat → Int32) (bl : Int64) (ms : Nat → Int32) (ma : Nat → Nat → Int32) (la : Nat → Int64) (hr : Rll sc ar bl ms ma) (x : Int32) (y : Int32) (z : Int32) : Step l E A B ad bd yX11_lets (.code yX11_lets cX11_lets 5 (some .int)) ({ frames := 3, cells := 0, slots := 0, locals := 69 }) yX12_lets (.code yX12_lets cX12_lets 4 (some .int)) ({ frames := 3, cells := 0, slots := 0, locals := 71 }) [.int x, .int y, .int z] sc ar bl ms ma la := by
  obtain ⟨wd, hg, nW, nF, tL, nL, gD, gW, gF, gT, gL, gS, gK, gB, gP, gH⟩ := id hr
  obtain ⟨d1, d2, d3, d4, d5, d6, d7, d8⟩ := id gD
  obtain ⟨w1, w2, w3, w4, w5, w6, w7⟩ := id gW
  obtain ⟨f1, f2, f3, f4, f5, f6, f7, f8, f9, f10⟩ := id gF
  obtain ⟨t1, t2, t3, t4⟩ := id gT
  obtain ⟨l1, l2, l3, l4, l5, l6, l7, l8, l9, l10, l11⟩ := id gL
  obtain ⟨s1, s2, s3⟩ := id gS
  have k1 : ar 15 = ma 1 := gK
  obtain ⟨b1, b2⟩ := id gB
  obtain ⟨p1, p2⟩ := id gP
  obtain ⟨h1, h2, h3, h4⟩ := id gH
  have hm := prod64 d2 d4
  have u1 := c_X11_lets l E ad hA sc ar bl x y z l2 l1
  have u2 := c_X12_lets l E bd hB ms ma la x y z l3 l1
  exact Step.mk hA u1 rfl u2 (by rw [l4, l5, l6, l7, l8, l9, lok_mok]) hr
set_option maxHeartbeats 4000000 in
theorem st_days (l : Launch) (E : Ev) {A B : Nat → Prop} (ad bd : Nat → Nat) (hA : Oka 39 ad A) (hB : Oka 30 bd B) (sc : Nat → Int32) (ar : Nat → Nat → Int32) (bl : Int64) (ms : Nat → Int32) (ma : Nat → Nat → Int32) (la : Nat → Int64) (hr : Rll sc ar bl ms ma) (x : Int32) : Step l E A B ad bd yX11_days (.code yX11_days cX11_days 2 (some .int)) ({ frames := 1, cells := 0, slots := 0, locals := 22 }) yX12_days (.code yX12_days cX12_days 2 (some .int)) ({ frames := 1, cells := 0, slots := 0, locals := 22 }) [.int x] sc ar bl ms ma la := by
  obtain ⟨wd, hg, nW, nF, tL, nL, gD, gW, gF, gT, gL, gS, gK, gB, gP, gH⟩ := id hr
  obtain ⟨d1, d2, d3, d4, d5, d6, d7, d8⟩ := id gD
  obtain ⟨w1, w2, w3, w4, w5, w6, w7⟩ := id gW
  obtain ⟨f1, f2, f3, f4, f5, f6, f7, f8, f9, f10⟩ := id gF
  obtain ⟨t1, t2, t3, t4⟩ := id gT
  obtain ⟨l1, l2, l3, l4, l5, l6, l7, l8, l9, l10, l11⟩ := id gL
  obtain ⟨s1, s2, s3⟩ := id gS
  have k1 : ar 15 = ma 1 := gK
  obtain ⟨b1, b2⟩ := id gB
  obtain ⟨p1, p2⟩ := id gP
  obtain ⟨h1, h2, h3, h4⟩ := id gH
  have hm := prod64 d2 d4
  have u1 := c_X11_days l E ad hA sc ar bl x
  have u2 := c_X12_days l E bd hB ms ma la x
  rw [s1] at u1
  by_cases c : ok2 (inr x (nI 1) (nI 60)) (decide (ms 2 + x ≤ nI 400)) = true
  · rw [if_pos c, if_pos c] at u1 u2
    exact Step.mk hA u1 rfl u2 rfl ⟨wd, hg, nW, nF, tL, nL, gD, gW, gF, gT, gL, ⟨rfl, s2, s3⟩, gK, gB, gP, gH⟩
  · rw [if_neg c, if_neg c] at u1 u2
    exact Step.mk hA u1 rfl u2 rfl hr
set_option maxHeartbeats 4000000 in
theorem st_sheet (l : Launch) (E : Ev) {A B : Nat → Prop} (ad bd : Nat → Nat) (hA : Oka 39 ad A) (hB : Oka 30 bd B) (sc : Nat → Int32) (ar : Nat → Nat → Int32) (bl : Int64) (ms : Nat → Int32) (ma : Nat → Nat → Int32) (la : Nat → Int64) (hr : Rll sc ar bl ms ma) (x : Int32) (y : Int32) : Step l E A B ad bd yX11_sheet (.code yX11_sheet cX11_sheet 3 (some .int)) ({ frames := 2, cells := 0, slots := 0, locals := 44 }) yX12_sheet (.code yX12_sheet cX12_sheet 4 (some .int)) ({ frames := 2, cells := 0, slots := 0, locals := 42 }) [.int x, .int y] sc ar bl ms ma la := by
  obtain ⟨wd, hg, nW, nF, tL, nL, gD, gW, gF, gT, gL, gS, gK, gB, gP, gH⟩ := id hr
  obtain ⟨d1, d2, d3, d4, d5, d6, d7, d8⟩ := id gD
  obtain ⟨w1, w2, w3, w4, w5, w6, w7⟩ := id gW
  obtain ⟨f1, f2, f3, f4, f5, f6, f7, f8, f9, f10⟩ := id gF
  obtain ⟨t1, t2, t3, t4⟩ := id gT
  obtain ⟨l1, l2, l3, l4, l5, l6, l7, l8, l9, l10, l11⟩ := id gL
  obtain ⟨s1, s2, s3⟩ := id gS
  have k1 : ar 15 = ma 1 := gK
  obtain ⟨b1, b2⟩ := id gB
  obtain ⟨p1, p2⟩ := id gP
  obtain ⟨h1, h2, h3, h4⟩ := id gH
  have hm := prod64 d2 d4
  cases e : inr x (nI 0) (nI 1) with
  | false =>
    exact Step.mk hA (c_X11_sheet_b l E ad hA sc ar bl x y e) rfl (c_X12_sheet_b l E bd hB ms ma la x y e) rfl hr
  | true =>
    obtain ⟨j, -, hj, rfl⟩ := inr_of (by decide) e (by decide)
    rcases (show j = 0 ∨ j = 1 by omega) with rfl | rfl
    · have u1 := c_X11_sheet_0 l E ad hA sc ar bl y
      have u2 := c_X12_sheet_0 l E bd hB ms ma la y
      by_cases c : y ≤ nI 64
      · rw [if_pos c, if_pos c] at u1 u2
        by_cases c2 : 0 ≤ y
        · rw [if_pos c2, if_pos c2] at u1 u2
          obtain ⟨n, hn, rfl⟩ := sh_of c2 c
          rw [show tn (nI n) = n from nI_clamp (by omega)] at u2
          exact Step.mk hA u1 rfl u2 rfl ⟨wd, hg, nW, nF, tL, nL, gD, gW, gF, gT, gL, gS, gK, gB, gP, ⟨rfl, h2, h3.new hn, h4.cg (fun i hi => by show ma 19 (64 + i) = zrs (ma 19) (64 * 0) n (64 + i); rw [zrs_at, if_neg (by omega)])⟩⟩
        · rw [if_neg c2, if_neg c2] at u1 u2
          exact Step.mk hA u1 rfl u2 rfl hr
      · rw [if_neg c, if_neg c] at u1 u2
        exact Step.mk hA u1 rfl u2 rfl hr
    · have u1 := c_X11_sheet_1 l E ad hA sc ar bl y
      have u2 := c_X12_sheet_1 l E bd hB ms ma la y
      by_cases c : y ≤ nI 64
      · rw [if_pos c, if_pos c] at u1 u2
        by_cases c2 : 0 ≤ y
        · rw [if_pos c2, if_pos c2] at u1 u2
          obtain ⟨n, hn, rfl⟩ := sh_of c2 c
          rw [show tn (nI n) = n from nI_clamp (by omega)] at u2
          exact Step.mk hA u1 rfl u2 rfl ⟨wd, hg, nW, nF, tL, nL, gD, gW, gF, gT, gL, gS, gK, gB, gP, ⟨h1, rfl, h3.cg (fun i hi => by show ma 19 (0 + i) = zrs (ma 19) (64 * 1) n (0 + i); rw [zrs_at, if_neg (by omega)]), h4.new hn⟩⟩
        · rw [if_neg c2, if_neg c2] at u1 u2
          exact Step.mk hA u1 rfl u2 rfl hr
      · rw [if_neg c, if_neg c] at u1 u2
        exact Step.mk hA u1 rfl u2 rfl hr
set_option maxHeartbeats 4000000 in
theorem st_mark (l : Launch) (E : Ev) {A B : Nat → Prop} (ad bd : Nat → Nat) (hA : Oka 39 ad A) (hB : Oka 30 bd B) (sc : Nat → Int32) (ar : Nat → Nat → Int32) (bl : Int64) (ms : Nat → Int32) (ma : Nat → Nat → Int32) (la : Nat → Int64) (hr : Rll sc ar bl ms ma) (x : Int32) (y : Int32) (z : Int32) : Step l E A B ad bd yX11_mark (.code yX11_mark cX11_mark 5 (some .int)) ({ frames := 2, cells := 0, slots := 0, locals := 42 }) yX12_mark (.code yX12_mark cX12_mark 5 (some .int)) ({ frames := 2, cells := 0, slots := 0, locals := 42 }) [.int x, .int y, .int z] sc ar bl ms ma la := by
  obtain ⟨wd, hg, nW, nF, tL, nL, gD, gW, gF, gT, gL, gS, gK, gB, gP, gH⟩ := id hr
  obtain ⟨d1, d2, d3, d4, d5, d6, d7, d8⟩ := id gD
  obtain ⟨w1, w2, w3, w4, w5, w6, w7⟩ := id gW
  obtain ⟨f1, f2, f3, f4, f5, f6, f7, f8, f9, f10⟩ := id gF
  obtain ⟨t1, t2, t3, t4⟩ := id gT
  obtain ⟨l1, l2, l3, l4, l5, l6, l7, l8, l9, l10, l11⟩ := id gL
  obtain ⟨s1, s2, s3⟩ := id gS
  have k1 : ar 15 = ma 1 := gK
  obtain ⟨b1, b2⟩ := id gB
  obtain ⟨p1, p2⟩ := id gP
  obtain ⟨h1, h2, h3, h4⟩ := id gH
  have hm := prod64 d2 d4
  cases e : inr x (nI 0) (nI 1) with
  | false =>
    exact Step.mk hA (c_X11_mark_b l E ad hA sc ar bl x y z e) rfl (c_X12_mark_b l E bd hB ms ma la x y z e) rfl hr
  | true =>
    obtain ⟨j, -, hj, rfl⟩ := inr_of (by decide) e (by decide)
    rcases (show j = 0 ∨ j = 1 by omega) with rfl | rfl
    · have hsz : ma 18 0 = -1 ∨ ∃ n, n ≤ 64 ∧ ma 18 0 = nI n := by
        rcases h3.1 with q | ⟨n, hn, q, -⟩
        · exact Or.inl q
        · exact Or.inr ⟨n, hn, q⟩
      have u1 := c_X11_mark_0 l E ad hA sc ar bl y z (fun c => by
        rw [h1] at c
        rcases hsz with q | ⟨n, hn, q⟩
        · rw [q, inx_neg] at c; cases c
        · rw [q] at c
          obtain ⟨j, hj, e⟩ := inx_of (by omega) c
          exact ⟨j, by omega, e⟩)
      have u2 := c_X12_mark_0 l E bd hB ms ma la y z (fun c => by
        rcases hsz with q | ⟨n, hn, q⟩
        · rw [q, inr_neg] at c; cases c
        · rw [q, inr_pred y (by omega)] at c
          obtain ⟨j, hj, e⟩ := inx_of (by omega) c
          exact ⟨j, by omega, e⟩)
      rw [h1] at u1
      rcases hsz with ee | ⟨n, hn, ee⟩
      · have c1 : ma 18 0 < 0 := by rw [ee]; decide
        rw [if_pos ee, if_pos ee] at u1
        rw [if_pos c1, if_pos c1] at u2
        exact Step.mk hA u1 rfl u2 rfl hr
      · have c0 : ¬ ma 18 0 = -1 := by rw [ee]; exact nI_ne_m1 (by omega)
        have c1 : ¬ ma 18 0 < 0 := by rw [ee]; exact nI_pos (by omega)
        rw [if_neg c0, if_neg c0, ee] at u1
        rw [if_neg c1, if_neg c1, ee, inr_pred y (by omega)] at u2
        by_cases c : inx y (nI n) = true
        · rw [if_pos c, if_pos c] at u1 u2
          obtain ⟨q, hj2, rfl⟩ := inx_of (by omega) c
          rw [show tn (nI q) = q from nI_clamp (by omega)] at u1 u2
          refine Step.mk hA u1 rfl u2 ?_ ⟨wd, hg, nW, nF, tL, nL, gD, gW, gF, gT, gL, gS, gK, gB, gP, ⟨h1, h2, ?_, ?_⟩⟩
          · rw [ee] at h3
            exact h3.at hn hj2
          · show Sz (ma 18 0) (upd (ar 37) q (vp_nar .short z.toInt16.toInt32)) (upd (ma 19) (64 * 0 + q) z.toInt16.toInt32) 0
            rw [ee] at h3 ⊢
            exact h3.put hn hj2 z
          · exact h4.cg (fun i hi => (pk_un (by omega)).symm)
        · rw [if_neg c, if_neg c] at u1 u2
          exact Step.mk hA u1 rfl u2 rfl hr
    · have hsz : ma 18 1 = -1 ∨ ∃ n, n ≤ 64 ∧ ma 18 1 = nI n := by
        rcases h4.1 with q | ⟨n, hn, q, -⟩
        · exact Or.inl q
        · exact Or.inr ⟨n, hn, q⟩
      have u1 := c_X11_mark_1 l E ad hA sc ar bl y z (fun c => by
        rw [h2] at c
        rcases hsz with q | ⟨n, hn, q⟩
        · rw [q, inx_neg] at c; cases c
        · rw [q] at c
          obtain ⟨j, hj, e⟩ := inx_of (by omega) c
          exact ⟨j, by omega, e⟩)
      have u2 := c_X12_mark_1 l E bd hB ms ma la y z (fun c => by
        rcases hsz with q | ⟨n, hn, q⟩
        · rw [q, inr_neg] at c; cases c
        · rw [q, inr_pred y (by omega)] at c
          obtain ⟨j, hj, e⟩ := inx_of (by omega) c
          exact ⟨j, by omega, e⟩)
      rw [h2] at u1
      rcases hsz with ee | ⟨n, hn, ee⟩
      · have c1 : ma 18 1 < 0 := by rw [ee]; decide
        rw [if_pos ee, if_pos ee] at u1
        rw [if_pos c1, if_pos c1] at u2
        exact Step.mk hA u1 rfl u2 rfl hr
      · have c0 : ¬ ma 18 1 = -1 := by rw [ee]; exact nI_ne_m1 (by omega)
        have c1 : ¬ ma 18 1 < 0 := by rw [ee]; exact nI_pos (by omega)
        rw [if_neg c0, if_neg c0, ee] at u1
        rw [if_neg c1, if_neg c1, ee, inr_pred y (by omega)] at u2
        by_cases c : inx y (nI n) = true
        · rw [if_pos c, if_pos c] at u1 u2
          obtain ⟨q, hj2, rfl⟩ := inx_of (by omega) c
          rw [show tn (nI q) = q from nI_clamp (by omega)] at u1 u2
          refine Step.mk hA u1 rfl u2 ?_ ⟨wd, hg, nW, nF, tL, nL, gD, gW, gF, gT, gL, gS, gK, gB, gP, ⟨h1, h2, ?_, ?_⟩⟩
          · rw [ee] at h4
            exact h4.at hn hj2
          · exact h3.cg (fun i hi => (pk_un (by omega)).symm)
          · show Sz (ma 18 1) (upd (ar 38) q (vp_nar .short z.toInt16.toInt32)) (upd (ma 19) (64 * 1 + q) z.toInt16.toInt32) 64
            rw [ee] at h4 ⊢
            exact h4.put hn hj2 z
        · rw [if_neg c, if_neg c] at u1 u2
          exact Step.mk hA u1 rfl u2 rfl hr
set_option maxHeartbeats 4000000 in
theorem st_lose (l : Launch) (E : Ev) {A B : Nat → Prop} (ad bd : Nat → Nat) (hA : Oka 39 ad A) (hB : Oka 30 bd B) (sc : Nat → Int32) (ar : Nat → Nat → Int32) (bl : Int64) (ms : Nat → Int32) (ma : Nat → Nat → Int32) (la : Nat → Int64) (hr : Rll sc ar bl ms ma) (x : Int32) : Step l E A B ad bd yX11_lose (.code yX11_lose cX11_lose 3 (some .int)) ({ frames := 2, cells := 0, slots := 0, locals := 42 }) yX12_lose (.code yX12_lose cX12_lose 3 (some .int)) ({ frames := 2, cells := 0, slots := 0, locals := 42 }) [.int x] sc ar bl ms ma la := by
  obtain ⟨wd, hg, nW, nF, tL, nL, gD, gW, gF, gT, gL, gS, gK, gB, gP, gH⟩ := id hr
  obtain ⟨d1, d2, d3, d4, d5, d6, d7, d8⟩ := id gD
  obtain ⟨w1, w2, w3, w4, w5, w6, w7⟩ := id gW
  obtain ⟨f1, f2, f3, f4, f5, f6, f7, f8, f9, f10⟩ := id gF
  obtain ⟨t1, t2, t3, t4⟩ := id gT
  obtain ⟨l1, l2, l3, l4, l5, l6, l7, l8, l9, l10, l11⟩ := id gL
  obtain ⟨s1, s2, s3⟩ := id gS
  have k1 : ar 15 = ma 1 := gK
  obtain ⟨b1, b2⟩ := id gB
  obtain ⟨p1, p2⟩ := id gP
  obtain ⟨h1, h2, h3, h4⟩ := id gH
  have hm := prod64 d2 d4
  cases e : inr x (nI 0) (nI 1) with
  | false =>
    exact Step.mk hA (c_X11_lose_b l E ad hA sc ar bl x e) rfl (c_X12_lose_b l E bd hB ms ma la x e) rfl hr
  | true =>
    obtain ⟨j, -, hj, rfl⟩ := inr_of (by decide) e (by decide)
    rcases (show j = 0 ∨ j = 1 by omega) with rfl | rfl
    · have u1 := c_X11_lose_0 l E ad hA sc ar bl
      have u2 := c_X12_lose_0 l E bd hB ms ma la
      rw [h1] at u1
      rcases h3.1 with q | ⟨n, hn, q, -⟩
      · have c1 : ma 18 0 < 0 := by rw [q]; decide
        rw [if_pos q, if_pos q] at u1
        rw [if_pos c1, if_pos c1] at u2
        exact Step.mk hA u1 rfl u2 rfl hr
      · have c0 : ¬ ma 18 0 = -1 := by rw [q]; exact nI_ne_m1 (by omega)
        have c1 : ¬ ma 18 0 < 0 := by rw [q]; exact nI_pos (by omega)
        rw [if_neg c0, if_neg c0] at u1
        rw [if_neg c1, if_neg c1] at u2
        exact Step.mk hA u1 rfl u2 rfl ⟨wd, hg, nW, nF, tL, nL, gD, gW, gF, gT, gL, gS, gK, gB, gP, ⟨rfl, h2, h3.lost, h4⟩⟩
    · have u1 := c_X11_lose_1 l E ad hA sc ar bl
      have u2 := c_X12_lose_1 l E bd hB ms ma la
      rw [h2] at u1
      rcases h4.1 with q | ⟨n, hn, q, -⟩
      · have c1 : ma 18 1 < 0 := by rw [q]; decide
        rw [if_pos q, if_pos q] at u1
        rw [if_pos c1, if_pos c1] at u2
        exact Step.mk hA u1 rfl u2 rfl hr
      · have c0 : ¬ ma 18 1 = -1 := by rw [q]; exact nI_ne_m1 (by omega)
        have c1 : ¬ ma 18 1 < 0 := by rw [q]; exact nI_pos (by omega)
        rw [if_neg c0, if_neg c0] at u1
        rw [if_neg c1, if_neg c1] at u2
        exact Step.mk hA u1 rfl u2 rfl ⟨wd, hg, nW, nF, tL, nL, gD, gW, gF, gT, gL, gS, gK, gB, gP, ⟨h1, rfl, h3, h4.lost⟩⟩
set_option maxHeartbeats 4000000 in
theorem st_copy_00 (l : Launch) (E : Ev) {A B : Nat → Prop} (ad bd : Nat → Nat) (hA : Oka 39 ad A) (hB : Oka 30 bd B) (sc : Nat → Int32) (ar : Nat → Nat → Int32) (bl : Int64) (ms : Nat → Int32) (ma : Nat → Nat → Int32) (la : Nat → Int64) (hr : Rll sc ar bl ms ma) (y : Int32) (u : Int32) (t : Int32) : Step l E A B ad bd yX11_copy (.code yX11_copy cX11_copy 8 (some .int)) ({ frames := 2, cells := 0, slots := 0, locals := 54 }) yX12_copy (.code yX12_copy cX12_copy 7 (some .int)) ({ frames := 2, cells := 0, slots := 0, locals := 42 }) [.int (nI 0), .int y, .int (nI 0), .int u, .int t] sc ar bl ms ma la := by
  obtain ⟨wd, hg, nW, nF, tL, nL, gD, gW, gF, gT, gL, gS, gK, gB, gP, gH⟩ := id hr
  obtain ⟨d1, d2, d3, d4, d5, d6, d7, d8⟩ := id gD
  obtain ⟨w1, w2, w3, w4, w5, w6, w7⟩ := id gW
  obtain ⟨f1, f2, f3, f4, f5, f6, f7, f8, f9, f10⟩ := id gF
  obtain ⟨t1, t2, t3, t4⟩ := id gT
  obtain ⟨l1, l2, l3, l4, l5, l6, l7, l8, l9, l10, l11⟩ := id gL
  obtain ⟨s1, s2, s3⟩ := id gS
  have k1 : ar 15 = ma 1 := gK
  obtain ⟨b1, b2⟩ := id gB
  obtain ⟨p1, p2⟩ := id gP
  obtain ⟨h1, h2, h3, h4⟩ := id gH
  have hm := prod64 d2 d4
  have u1 := c_X11_copy_00 l E ad hA sc ar bl y u t (fun c => by rw [h1] at c; exact hrun_64 h3 c) (fun c => by rw [h1] at c; exact hrun_64 h3 c) (fun i _ => h3.2 i)
  have u2 := c_X12_copy_00 l E bd hB ms ma la y u t (fun c => cok_64 h3 h3 c)
  rw [h1, ms_eq h3 h3] at u1
  by_cases c : cms (ma 18 0) (ma 18 0) = true
  · rw [if_pos c, if_pos c] at u1 u2
    exact Step.mk hA u1 rfl u2 rfl hr
  · rw [if_neg c, if_neg c] at u1 u2
    obtain ⟨n, m, hn, hm', e1, e2⟩ := cms_f h3 h3 c
    have k1' : Sz (nI n) (ar 37) (ma 19) 0 := by rw [← e1]; exact h3
    have k2' : Sz (nI m) (ar 37) (ma 19) 0 := by rw [← e2]; exact h3
    have er : ok2 (hrun y t (ma 18 0)) (hrun u t (ma 18 0)) = cok y u t (ma 18 0) (ma 18 0) := by
      first
        | (rw [e1, e2]; exact runs_eq hn hm')
        | (rw [e1]; exact runs_eq hn hn)
    rw [er] at u1
    by_cases c2 : cok y u t (ma 18 0) (ma 18 0) = true
    · rw [if_pos c2, if_pos c2] at u1 u2
      have c3 : cok y u t (nI n) (nI m) = true := by rw [← e1, ← e2]; exact c2
      obtain ⟨Y, U, T, rfl, rfl, rfl, r1, r2⟩ := (cok_iff hn hm').mp c3
      rw [show tn (nI Y) = Y from nI_clamp (by omega), show tn (nI U) = U from nI_clamp (by omega), show tn (nI T) = T from nI_clamp (by omega)] at u1 u2
      refine Step.mk hA u1 rfl u2 rfl ⟨wd, hg, nW, nF, tL, nL, gD, gW, gF, gT, gL, gS, gK, gB, gP, ⟨h1, h2, ?_, ?_⟩⟩
      · show Sz (ma 18 0) (va_cpy (ar 37) (ar 37) Y U T) (cpO (cotI (fun i => ma 19 (64 * 0 + Y + i)) (ma 29) T) (ma 19) (64 * 0 + U) T) 0
        rw [e2]
        exact k1'.copy k2' hn hm' (ma 29) r1 r2
      · exact h4.far (by omega)
    · rw [if_neg c2, if_neg c2] at u1 u2
      exact Step.mk hA u1 rfl u2 rfl hr
set_option maxHeartbeats 4000000 in
theorem st_copy_01 (l : Launch) (E : Ev) {A B : Nat → Prop} (ad bd : Nat → Nat) (hA : Oka 39 ad A) (hB : Oka 30 bd B) (sc : Nat → Int32) (ar : Nat → Nat → Int32) (bl : Int64) (ms : Nat → Int32) (ma : Nat → Nat → Int32) (la : Nat → Int64) (hr : Rll sc ar bl ms ma) (y : Int32) (u : Int32) (t : Int32) : Step l E A B ad bd yX11_copy (.code yX11_copy cX11_copy 8 (some .int)) ({ frames := 2, cells := 0, slots := 0, locals := 54 }) yX12_copy (.code yX12_copy cX12_copy 7 (some .int)) ({ frames := 2, cells := 0, slots := 0, locals := 42 }) [.int (nI 0), .int y, .int (nI 1), .int u, .int t] sc ar bl ms ma la := by
  obtain ⟨wd, hg, nW, nF, tL, nL, gD, gW, gF, gT, gL, gS, gK, gB, gP, gH⟩ := id hr
  obtain ⟨d1, d2, d3, d4, d5, d6, d7, d8⟩ := id gD
  obtain ⟨w1, w2, w3, w4, w5, w6, w7⟩ := id gW
  obtain ⟨f1, f2, f3, f4, f5, f6, f7, f8, f9, f10⟩ := id gF
  obtain ⟨t1, t2, t3, t4⟩ := id gT
  obtain ⟨l1, l2, l3, l4, l5, l6, l7, l8, l9, l10, l11⟩ := id gL
  obtain ⟨s1, s2, s3⟩ := id gS
  have k1 : ar 15 = ma 1 := gK
  obtain ⟨b1, b2⟩ := id gB
  obtain ⟨p1, p2⟩ := id gP
  obtain ⟨h1, h2, h3, h4⟩ := id gH
  have hm := prod64 d2 d4
  have u1 := c_X11_copy_01 l E ad hA sc ar bl y u t (fun c => by rw [h1] at c; exact hrun_64 h3 c) (fun c => by rw [h2] at c; exact hrun_64 h4 c) (fun i _ => h3.2 i)
  have u2 := c_X12_copy_01 l E bd hB ms ma la y u t (fun c => cok_64 h3 h4 c)
  rw [h1, h2, ms_eq h3 h4] at u1
  by_cases c : cms (ma 18 0) (ma 18 1) = true
  · rw [if_pos c, if_pos c] at u1 u2
    exact Step.mk hA u1 rfl u2 rfl hr
  · rw [if_neg c, if_neg c] at u1 u2
    obtain ⟨n, m, hn, hm', e1, e2⟩ := cms_f h3 h4 c
    have k1' : Sz (nI n) (ar 37) (ma 19) 0 := by rw [← e1]; exact h3
    have k2' : Sz (nI m) (ar 38) (ma 19) 64 := by rw [← e2]; exact h4
    have er : ok2 (hrun y t (ma 18 0)) (hrun u t (ma 18 1)) = cok y u t (ma 18 0) (ma 18 1) := by
      first
        | (rw [e1, e2]; exact runs_eq hn hm')
        | (rw [e1]; exact runs_eq hn hn)
    rw [er] at u1
    by_cases c2 : cok y u t (ma 18 0) (ma 18 1) = true
    · rw [if_pos c2, if_pos c2] at u1 u2
      have c3 : cok y u t (nI n) (nI m) = true := by rw [← e1, ← e2]; exact c2
      obtain ⟨Y, U, T, rfl, rfl, rfl, r1, r2⟩ := (cok_iff hn hm').mp c3
      rw [show tn (nI Y) = Y from nI_clamp (by omega), show tn (nI U) = U from nI_clamp (by omega), show tn (nI T) = T from nI_clamp (by omega)] at u1 u2
      refine Step.mk hA u1 rfl u2 rfl ⟨wd, hg, nW, nF, tL, nL, gD, gW, gF, gT, gL, gS, gK, gB, gP, ⟨h1, h2, ?_, ?_⟩⟩
      · exact h3.far (by omega)
      · show Sz (ma 18 1) (va_cpy (ar 37) (ar 38) Y U T) (cpO (cotI (fun i => ma 19 (64 * 0 + Y + i)) (ma 29) T) (ma 19) (64 * 1 + U) T) 64
        rw [e2]
        exact k1'.copy k2' hn hm' (ma 29) r1 r2
    · rw [if_neg c2, if_neg c2] at u1 u2
      exact Step.mk hA u1 rfl u2 rfl hr
set_option maxHeartbeats 4000000 in
theorem st_copy_10 (l : Launch) (E : Ev) {A B : Nat → Prop} (ad bd : Nat → Nat) (hA : Oka 39 ad A) (hB : Oka 30 bd B) (sc : Nat → Int32) (ar : Nat → Nat → Int32) (bl : Int64) (ms : Nat → Int32) (ma : Nat → Nat → Int32) (la : Nat → Int64) (hr : Rll sc ar bl ms ma) (y : Int32) (u : Int32) (t : Int32) : Step l E A B ad bd yX11_copy (.code yX11_copy cX11_copy 8 (some .int)) ({ frames := 2, cells := 0, slots := 0, locals := 54 }) yX12_copy (.code yX12_copy cX12_copy 7 (some .int)) ({ frames := 2, cells := 0, slots := 0, locals := 42 }) [.int (nI 1), .int y, .int (nI 0), .int u, .int t] sc ar bl ms ma la := by
  obtain ⟨wd, hg, nW, nF, tL, nL, gD, gW, gF, gT, gL, gS, gK, gB, gP, gH⟩ := id hr
  obtain ⟨d1, d2, d3, d4, d5, d6, d7, d8⟩ := id gD
  obtain ⟨w1, w2, w3, w4, w5, w6, w7⟩ := id gW
  obtain ⟨f1, f2, f3, f4, f5, f6, f7, f8, f9, f10⟩ := id gF
  obtain ⟨t1, t2, t3, t4⟩ := id gT
  obtain ⟨l1, l2, l3, l4, l5, l6, l7, l8, l9, l10, l11⟩ := id gL
  obtain ⟨s1, s2, s3⟩ := id gS
  have k1 : ar 15 = ma 1 := gK
  obtain ⟨b1, b2⟩ := id gB
  obtain ⟨p1, p2⟩ := id gP
  obtain ⟨h1, h2, h3, h4⟩ := id gH
  have hm := prod64 d2 d4
  have u1 := c_X11_copy_10 l E ad hA sc ar bl y u t (fun c => by rw [h2] at c; exact hrun_64 h4 c) (fun c => by rw [h1] at c; exact hrun_64 h3 c) (fun i _ => h4.2 i)
  have u2 := c_X12_copy_10 l E bd hB ms ma la y u t (fun c => cok_64 h4 h3 c)
  rw [h2, h1, ms_eq h4 h3] at u1
  by_cases c : cms (ma 18 1) (ma 18 0) = true
  · rw [if_pos c, if_pos c] at u1 u2
    exact Step.mk hA u1 rfl u2 rfl hr
  · rw [if_neg c, if_neg c] at u1 u2
    obtain ⟨n, m, hn, hm', e1, e2⟩ := cms_f h4 h3 c
    have k1' : Sz (nI n) (ar 38) (ma 19) 64 := by rw [← e1]; exact h4
    have k2' : Sz (nI m) (ar 37) (ma 19) 0 := by rw [← e2]; exact h3
    have er : ok2 (hrun y t (ma 18 1)) (hrun u t (ma 18 0)) = cok y u t (ma 18 1) (ma 18 0) := by
      first
        | (rw [e1, e2]; exact runs_eq hn hm')
        | (rw [e1]; exact runs_eq hn hn)
    rw [er] at u1
    by_cases c2 : cok y u t (ma 18 1) (ma 18 0) = true
    · rw [if_pos c2, if_pos c2] at u1 u2
      have c3 : cok y u t (nI n) (nI m) = true := by rw [← e1, ← e2]; exact c2
      obtain ⟨Y, U, T, rfl, rfl, rfl, r1, r2⟩ := (cok_iff hn hm').mp c3
      rw [show tn (nI Y) = Y from nI_clamp (by omega), show tn (nI U) = U from nI_clamp (by omega), show tn (nI T) = T from nI_clamp (by omega)] at u1 u2
      refine Step.mk hA u1 rfl u2 rfl ⟨wd, hg, nW, nF, tL, nL, gD, gW, gF, gT, gL, gS, gK, gB, gP, ⟨h1, h2, ?_, ?_⟩⟩
      · show Sz (ma 18 0) (va_cpy (ar 38) (ar 37) Y U T) (cpO (cotI (fun i => ma 19 (64 * 1 + Y + i)) (ma 29) T) (ma 19) (64 * 0 + U) T) 0
        rw [e2]
        exact k1'.copy k2' hn hm' (ma 29) r1 r2
      · exact h4.far (by omega)
    · rw [if_neg c2, if_neg c2] at u1 u2
      exact Step.mk hA u1 rfl u2 rfl hr
set_option maxHeartbeats 4000000 in
theorem st_copy_11 (l : Launch) (E : Ev) {A B : Nat → Prop} (ad bd : Nat → Nat) (hA : Oka 39 ad A) (hB : Oka 30 bd B) (sc : Nat → Int32) (ar : Nat → Nat → Int32) (bl : Int64) (ms : Nat → Int32) (ma : Nat → Nat → Int32) (la : Nat → Int64) (hr : Rll sc ar bl ms ma) (y : Int32) (u : Int32) (t : Int32) : Step l E A B ad bd yX11_copy (.code yX11_copy cX11_copy 8 (some .int)) ({ frames := 2, cells := 0, slots := 0, locals := 54 }) yX12_copy (.code yX12_copy cX12_copy 7 (some .int)) ({ frames := 2, cells := 0, slots := 0, locals := 42 }) [.int (nI 1), .int y, .int (nI 1), .int u, .int t] sc ar bl ms ma la := by
  obtain ⟨wd, hg, nW, nF, tL, nL, gD, gW, gF, gT, gL, gS, gK, gB, gP, gH⟩ := id hr
  obtain ⟨d1, d2, d3, d4, d5, d6, d7, d8⟩ := id gD
  obtain ⟨w1, w2, w3, w4, w5, w6, w7⟩ := id gW
  obtain ⟨f1, f2, f3, f4, f5, f6, f7, f8, f9, f10⟩ := id gF
  obtain ⟨t1, t2, t3, t4⟩ := id gT
  obtain ⟨l1, l2, l3, l4, l5, l6, l7, l8, l9, l10, l11⟩ := id gL
  obtain ⟨s1, s2, s3⟩ := id gS
  have k1 : ar 15 = ma 1 := gK
  obtain ⟨b1, b2⟩ := id gB
  obtain ⟨p1, p2⟩ := id gP
  obtain ⟨h1, h2, h3, h4⟩ := id gH
  have hm := prod64 d2 d4
  have u1 := c_X11_copy_11 l E ad hA sc ar bl y u t (fun c => by rw [h2] at c; exact hrun_64 h4 c) (fun c => by rw [h2] at c; exact hrun_64 h4 c) (fun i _ => h4.2 i)
  have u2 := c_X12_copy_11 l E bd hB ms ma la y u t (fun c => cok_64 h4 h4 c)
  rw [h2, ms_eq h4 h4] at u1
  by_cases c : cms (ma 18 1) (ma 18 1) = true
  · rw [if_pos c, if_pos c] at u1 u2
    exact Step.mk hA u1 rfl u2 rfl hr
  · rw [if_neg c, if_neg c] at u1 u2
    obtain ⟨n, m, hn, hm', e1, e2⟩ := cms_f h4 h4 c
    have k1' : Sz (nI n) (ar 38) (ma 19) 64 := by rw [← e1]; exact h4
    have k2' : Sz (nI m) (ar 38) (ma 19) 64 := by rw [← e2]; exact h4
    have er : ok2 (hrun y t (ma 18 1)) (hrun u t (ma 18 1)) = cok y u t (ma 18 1) (ma 18 1) := by
      first
        | (rw [e1, e2]; exact runs_eq hn hm')
        | (rw [e1]; exact runs_eq hn hn)
    rw [er] at u1
    by_cases c2 : cok y u t (ma 18 1) (ma 18 1) = true
    · rw [if_pos c2, if_pos c2] at u1 u2
      have c3 : cok y u t (nI n) (nI m) = true := by rw [← e1, ← e2]; exact c2
      obtain ⟨Y, U, T, rfl, rfl, rfl, r1, r2⟩ := (cok_iff hn hm').mp c3
      rw [show tn (nI Y) = Y from nI_clamp (by omega), show tn (nI U) = U from nI_clamp (by omega), show tn (nI T) = T from nI_clamp (by omega)] at u1 u2
      refine Step.mk hA u1 rfl u2 rfl ⟨wd, hg, nW, nF, tL, nL, gD, gW, gF, gT, gL, gS, gK, gB, gP, ⟨h1, h2, ?_, ?_⟩⟩
      · exact h3.far (by omega)
      · show Sz (ma 18 1) (va_cpy (ar 38) (ar 38) Y U T) (cpO (cotI (fun i => ma 19 (64 * 1 + Y + i)) (ma 29) T) (ma 19) (64 * 1 + U) T) 64
        rw [e2]
        exact k1'.copy k2' hn hm' (ma 29) r1 r2
    · rw [if_neg c2, if_neg c2] at u1 u2
      exact Step.mk hA u1 rfl u2 rfl hr
set_option maxHeartbeats 4000000 in
theorem st_copy (l : Launch) (E : Ev) {A B : Nat → Prop} (ad bd : Nat → Nat) (hA : Oka 39 ad A) (hB : Oka 30 bd B) (sc : Nat → Int32) (ar : Nat → Nat → Int32) (bl : Int64) (ms : Nat → Int32) (ma : Nat → Nat → Int32) (la : Nat → Int64) (hr : Rll sc ar bl ms ma) (x : Int32) (y : Int32) (z : Int32) (u : Int32) (t : Int32) : Step l E A B ad bd yX11_copy (.code yX11_copy cX11_copy 8 (some .int)) ({ frames := 2, cells := 0, slots := 0, locals := 54 }) yX12_copy (.code yX12_copy cX12_copy 7 (some .int)) ({ frames := 2, cells := 0, slots := 0, locals := 42 }) [.int x, .int y, .int z, .int u, .int t] sc ar bl ms ma la := by
  obtain ⟨wd, hg, nW, nF, tL, nL, gD, gW, gF, gT, gL, gS, gK, gB, gP, gH⟩ := id hr
  obtain ⟨d1, d2, d3, d4, d5, d6, d7, d8⟩ := id gD
  obtain ⟨w1, w2, w3, w4, w5, w6, w7⟩ := id gW
  obtain ⟨f1, f2, f3, f4, f5, f6, f7, f8, f9, f10⟩ := id gF
  obtain ⟨t1, t2, t3, t4⟩ := id gT
  obtain ⟨l1, l2, l3, l4, l5, l6, l7, l8, l9, l10, l11⟩ := id gL
  obtain ⟨s1, s2, s3⟩ := id gS
  have k1 : ar 15 = ma 1 := gK
  obtain ⟨b1, b2⟩ := id gB
  obtain ⟨p1, p2⟩ := id gP
  obtain ⟨h1, h2, h3, h4⟩ := id gH
  have hm := prod64 d2 d4
  cases e : ok2 (inr x (nI 0) (nI 1)) (inr z (nI 0) (nI 1)) with
  | false => exact Step.mk hA (c_X11_copy_b l E ad hA sc ar bl x y z u t e) rfl (c_X12_copy_b l E bd hB ms ma la x y z u t e) rfl hr
  | true =>
    obtain ⟨e1, e2⟩ := ok2_of e
    obtain ⟨j, -, hj, rfl⟩ := inr_of (by decide) e1 (by decide)
    obtain ⟨k, -, hk, rfl⟩ := inr_of (by decide) e2 (by decide)
    rcases (show j = 0 ∨ j = 1 by omega) with rfl | rfl <;> rcases (show k = 0 ∨ k = 1 by omega) with rfl | rfl
    · exact st_copy_00 l E ad bd hA hB sc ar bl ms ma la hr y u t
    · exact st_copy_01 l E ad bd hA hB sc ar bl ms ma la hr y u t
    · exact st_copy_10 l E ad bd hA hB sc ar bl ms ma la hr y u t
    · exact st_copy_11 l E ad bd hA hB sc ar bl ms ma la hr y u t
set_option maxHeartbeats 4000000 in
theorem st_many (l : Launch) (E : Ev) {A B : Nat → Prop} (ad bd : Nat → Nat) (hA : Oka 39 ad A) (hB : Oka 30 bd B) (sc : Nat → Int32) (ar : Nat → Nat → Int32) (bl : Int64) (ms : Nat → Int32) (ma : Nat → Nat → Int32) (la : Nat → Int64) (hr : Rll sc ar bl ms ma) (x : Int32) : Step l E A B ad bd yX11_many (.code yX11_many cX11_many 2 (some .int)) ({ frames := 5, cells := 0, slots := 0, locals := 112 }) yX12_many (.code yX12_many cX12_many 4 (some .int)) ({ frames := 2, cells := 0, slots := 0, locals := 49 }) [.int x] sc ar bl ms ma la := by
  obtain ⟨wd, hg, nW, nF, tL, nL, gD, gW, gF, gT, gL, gS, gK, gB, gP, gH⟩ := id hr
  obtain ⟨d1, d2, d3, d4, d5, d6, d7, d8⟩ := id gD
  obtain ⟨w1, w2, w3, w4, w5, w6, w7⟩ := id gW
  obtain ⟨f1, f2, f3, f4, f5, f6, f7, f8, f9, f10⟩ := id gF
  obtain ⟨t1, t2, t3, t4⟩ := id gT
  obtain ⟨l1, l2, l3, l4, l5, l6, l7, l8, l9, l10, l11⟩ := id gL
  obtain ⟨s1, s2, s3⟩ := id gS
  have k1 : ar 15 = ma 1 := gK
  obtain ⟨b1, b2⟩ := id gB
  obtain ⟨p1, p2⟩ := id gP
  obtain ⟨h1, h2, h3, h4⟩ := id gH
  have hm := prod64 d2 d4
  have u1 := c_X11_many l E ad hA sc ar bl x w2 w1 d5 d1 d2 d6 d3 d4 l2 l1
  have u2 := c_X12_many l E bd hB ms ma la x w3 w1 f3 f1 d7 d1 d2 d8 d3 d4 l3 l1
  refine Step.mk hA u1 rfl u2 ?_ hr
  rw [w2, w3, f2, f3, w5, gps_mgs f8 f10 w1 hg, l9, stg_bks, s1, t2, t3, bct_ems hm b1 b2]
