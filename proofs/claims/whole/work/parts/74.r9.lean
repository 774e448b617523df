/-! THE RELATION between the class's state and the reference's -/
def Rd_ (sc ms : Nat → Int32) (wd hg : Nat) : Prop := 2 ≤ wd ∧ wd ≤ 8 ∧ 2 ≤ hg ∧ hg ≤ 8 ∧ sc 3 = nI wd ∧ sc 4 = nI hg ∧ ms 0 = nI wd ∧ ms 1 = nI hg
def Rw_ (sc : Nat → Int32) (ar : Nat → Nat → Int32) (ms : Nat → Int32) (ma : Nat → Nat → Int32) (nW : Nat) : Prop := nW ≤ 60 ∧ sc 5 = nI nW ∧ ms 3 = nI nW ∧ ar 16 = ma 2 ∧ ar 17 = ma 3 ∧ ar 18 = ma 4 ∧ ∀ i, i < nW → ∃ v, v < 5 ∧ ma 2 i = nI v
def Rf_ (sc : Nat → Int32) (ar : Nat → Nat → Int32) (ms : Nat → Int32) (ma : Nat → Nat → Int32) (wd hg nW nF : Nat) : Prop := nF ≤ 200 ∧ sc 6 = nI nF ∧ ms 4 = nI nF ∧ ar 21 = ma 5 ∧ ar 22 = ma 6 ∧ ar 23 = ma 7 ∧ ar 24 = ma 8 ∧ Sok (ar 19) (ma 5) (ma 7) (ma 8) nF ∧ Tok (ar 20) (ma 5) (ma 6) (ma 7) (ma 8) wd nF ∧ Fin_ wd hg nW nF (ma 3) (ma 5) (ma 6) (ma 7) (ma 8)
def Rt_ (sc : Nat → Int32) (ar : Nat → Nat → Int32) (ms : Nat → Int32) (ma : Nat → Nat → Int32) (tL : Nat) : Prop := tL ≤ 60 ∧ sc 7 = nI tL ∧ ms 7 = nI tL ∧ ∀ i, ar 30 i &&& nI 255 = ma 11 i
def Rl_ (sc : Nat → Int32) (ar : Nat → Nat → Int32) (ms : Nat → Int32) (ma : Nat → Nat → Int32) (nL : Nat) : Prop := nL ≤ 12 ∧ sc 16 = nI nL ∧ ms 8 = nI nL ∧ ar 31 = ma 12 ∧ ar 32 = ma 13 ∧ ar 33 = ma 14 ∧ ar 34 = ma 15 ∧ ar 35 = ma 16 ∧ ar 36 = ma 17 ∧ (∀ j, nL ≤ j → ma 17 j = 0) ∧ ∀ j, ma 17 j = 0 ∨ ma 17 j = 1
def Rs_ (sc ms : Nat → Int32) : Prop := sc 0 = ms 2 ∧ sc 1 = ms 5 ∧ sc 2 = ms 6
def Rk_ (ar ma : Nat → Nat → Int32) : Prop := ar 15 = ma 1
def Rb_ (bl : Int64) (ma : Nat → Nat → Int32) (wd hg : Nat) : Prop := (∀ p, p < 64 → brb bl (nI p) = !decide (ma 9 p = 0)) ∧ ∀ p, wd * hg ≤ p → p < 64 → ma 9 p = 0
def Rp_ (ar ma : Nat → Nat → Int32) : Prop := ar 27 = ma 10 ∧ ∀ i, ∃ n, n ≤ 100 ∧ ma 10 i = nI n
/-- a sheet: missing, or of some places that are alike -/
def Sz (s : Int32) (f g : Nat → Int32) (o : Nat) : Prop := (s = -1 ∨ ∃ n, n ≤ 64 ∧ s = nI n ∧ ∀ i, i < n → f i = g (o + i)) ∧ ∀ i, fits .short (.int (f i)) = true
def Rh_ (sc : Nat → Int32) (ar ma : Nat → Nat → Int32) : Prop := sc 17 = ma 18 0 ∧ sc 18 = ma 18 1 ∧ Sz (ma 18 0) (ar 37) (ma 19) 0 ∧ Sz (ma 18 1) (ar 38) (ma 19) 64
def Rel (sc : Nat → Int32) (ar : Nat → Nat → Int32) (bl : Int64) (ms : Nat → Int32) (ma : Nat → Nat → Int32) (wd hg nW nF tL nL : Nat) : Prop := Rd_ sc ms wd hg ∧ Rw_ sc ar ms ma nW ∧ Rf_ sc ar ms ma wd hg nW nF ∧ Rt_ sc ar ms ma tL ∧ Rl_ sc ar ms ma nL ∧ Rs_ sc ms ∧ Rk_ ar ma ∧ Rb_ bl ma wd hg ∧ Rp_ ar ma ∧ Rh_ sc ar ma
def Rll (sc : Nat → Int32) (ar : Nat → Nat → Int32) (bl : Int64) (ms : Nat → Int32) (ma : Nat → Nat → Int32) : Prop := ∃ wd hg nW nF tL nL, Rel sc ar bl ms ma wd hg nW nF tL nL
/-- one call in both: the answers are alike, and so are the states behind it -/
def Step (l : Launch) (E : Ev) (A B : Nat → Prop) (ad bd : Nat → Nat) (y1 : MethodName) (c1 : Cond) (r1 : Room) (y2 : MethodName) (c2 : Cond) (r2 : Room) (av : List Value) (sc : Nat → Int32) (ar : Nat → Nat → Int32) (bl : Int64) (ms : Nat → Int32) (ma : Nat → Nat → Int32) (la : Nat → Int64) : Prop :=
  ∃ (r : Int32) (ad' : Nat → Nat) (sc' : Nat → Int32) (ar' : Nat → Nat → Int32) (bl' : Int64) (ms' : Nat → Int32) (ma' : Nat → Nat → Int32) (la' : Nat → Int64), Ct l E y1 c1 r1 A (cw E ad sc ar bl) (.ref (ad 0) :: av) (some (.int r)) (cw E ad' sc' ar' bl') ∧ ad' 0 = ad 0 ∧ Oka 39 ad' A ∧ Ct l E y2 c2 r2 B (mw E bd ms ma la) (.ref (bd 0) :: av) (some (.int r)) (mw E bd ms' ma' la') ∧ Rll sc' ar' bl' ms' ma'
section ST
variable {l : Launch} {E : Ev} {A B : Nat → Prop} {ad bd ad' : Nat → Nat} {y1 y2 : MethodName} {c1 c2 : Cond} {r1 r2 : Room} {av : List Value} {sc sc' ms ms' : Nat → Int32} {ar ar' ma ma' : Nat → Nat → Int32} {bl bl' : Int64} {la la' : Nat → Int64} {r r' : Int32}
theorem Step.mk (hA : Oka 39 ad' A) (h1 : Ct l E y1 c1 r1 A (cw E ad sc ar bl) (.ref (ad 0) :: av) (some (.int r)) (cw E ad' sc' ar' bl')) (h0 : ad' 0 = ad 0) (h2 : Ct l E y2 c2 r2 B (mw E bd ms ma la) (.ref (bd 0) :: av) (some (.int r')) (mw E bd ms' ma' la')) (er : r = r') (hr : Rll sc' ar' bl' ms' ma') : Step l E A B ad bd y1 c1 r1 y2 c2 r2 av sc ar bl ms ma la := by
  subst er
  exact ⟨r, ad', sc', ar', bl', ms', ma', la', h1, h0, hA, h2, hr⟩
end ST
theorem nt {b : Bool} (h : b = false) : ¬ b = true := by rw [h]; decide
/-! what finds leave of sums -/
theorem msk_cong {fw fk fm fw' fk' fm' : Nat → Int32} {x z : Int32} : ∀ {n : Nat}, (∀ f, f < n → fw f = fw' f ∧ fk f = fk' f ∧ fm f = fm' f) → msk fw fk fm x z n = msk fw' fk' fm' x z n
  | 0, _ => rfl
  | n + 1, h => by
    obtain ⟨h1, h2, h3⟩ := h n (by omega)
    rw [msk_succ, msk_succ, msk_cong (fun f hf => h f (by omega)), h1, h2, h3]
theorem tly_cong {fw fp fk fm fw' fp' fk' fm' : Nat → Int32} {wd c : Nat} {x z : Int32} : ∀ {n : Nat}, (∀ f, f < n → fw f = fw' f ∧ fp f = fp' f ∧ fk f = fk' f ∧ fm f = fm' f) → tly fw fp fk fm wd x c z n = tly fw' fp' fk' fm' wd x c z n
  | 0, _ => rfl
  | n + 1, h => by
    obtain ⟨h1, h2, h3, h4⟩ := h n (by omega)
    rw [tly_succ, tly_succ, tly_cong (fun f hf => h f (by omega)), h1, h2, h3, h4]
section FN
variable {wd hg nW nF w p k n : Nat} {ro fw fp fk fm su ta : Nat → Int32}
theorem Sok.add (h : Sok su fw fk fm nF) (hw : w < 60) (hk : k < 4) : Sok (upd su (w * 4 + k) (su (w * 4 + k) + nI n)) (upd fw nF (nI w)) (upd fk nF (nI k)) (upd fm nF (nI n)) (nF + 1) := by
  intro i j hi hj
  rw [msk_succ, pk_us, pk_us, pk_us, msk_cong (fw' := fw) (fk' := fk) (fm' := fm) (fun f hf => ⟨pk_un (by omega), pk_un (by omega), pk_un (by omega)⟩), ← h i j hi hj]
  by_cases e : i = w
  · subst e
    rw [if_pos rfl]
    by_cases e2 : j = k
    · subst e2; rw [if_pos rfl, pk_us]
    · rw [if_neg (fun z => e2 (nI_inj (by omega) (by omega) z).symm), pk_un (by omega)]
  · rw [if_neg (fun z => e (nI_inj (by omega) (by omega) z).symm), pk_un (by omega)]
theorem Tok.add (h : Tok ta fw fp fk fm wd nF) (hw : w < 60) (hk : k < 4) (hp : p < 64) (hwd : 2 ≤ wd) (hw8 : wd ≤ 8) : Tok (upd ta ((w * 8 + p % wd) * 4 + k) (ta ((w * 8 + p % wd) * 4 + k) + nI n)) (upd fw nF (nI w)) (upd fp nF (nI p)) (upd fk nF (nI k)) (upd fm nF (nI n)) wd (nF + 1) := by
  intro i c j hi hc hj
  have hm : p % wd < wd := Nat.mod_lt _ (by omega)
  rw [tly_succ, pk_us, pk_us, pk_us, pk_us, tly_cong (fw' := fw) (fp' := fp) (fk' := fk) (fm' := fm) (fun f hf => ⟨pk_un (by omega), pk_un (by omega), pk_un (by omega), pk_un (by omega)⟩), ← h i c j hi hc hj, tn, nI_clamp (by omega)]
  by_cases e : i = w
  · subst e
    rw [if_pos rfl]
    by_cases e1 : p % wd = c
    · rw [if_pos e1]
      by_cases e2 : j = k
      · subst e2; rw [if_pos rfl, ← e1, pk_us]
      · rw [if_neg (fun z => e2 (nI_inj (by omega) (by omega) z).symm), pk_un (by omega)]
    · rw [if_neg e1, pk_un (by omega)]
  · rw [if_neg (fun z => e (nI_inj (by omega) (by omega) z).symm), pk_un (by omega)]
theorem Fin_.add (h : Fin_ wd hg nW nF ro fw fp fk fm) (hw : w < nW) (hp : p < wd * hg) (hk : k < 4) (hn1 : 1 ≤ n) (hn2 : n ≤ 99) (hr : nI (p / wd) = ro w) : Fin_ wd hg nW (nF + 1) ro (upd fw nF (nI w)) (upd fp nF (nI p)) (upd fk nF (nI k)) (upd fm nF (nI n)) := by
  intro f hf
  by_cases e : f = nF
  · subst e
    exact ⟨w, p, k, n, hw, hp, hk, hn1, hn2, pk_us, pk_us, pk_us, pk_us, hr.symm⟩
  · obtain ⟨w', p', k', n', h1, h2, h3, h4, h5, h6, h7, h8, h9, h10⟩ := h f (by omega)
    exact ⟨w', p', k', n', h1, h2, h3, h4, h5, by rw [pk_un e]; exact h6, by rw [pk_un e]; exact h7, by rw [pk_un e]; exact h8, by rw [pk_un e]; exact h9, h10⟩
theorem Fin_.walk (h : Fin_ wd hg nW nF ro fw fp fk fm) (y : Int32) : Fin_ wd hg (nW + 1) nF (upd ro nW y) fw fp fk fm := by
  intro f hf
  obtain ⟨w', p', k', n', h1, h2, h3, h4, h5, h6, h7, h8, h9, h10⟩ := h f hf
  exact ⟨w', p', k', n', by omega, h2, h3, h4, h5, h6, h7, h8, h9, by rw [pk_un (by omega)]; exact h10⟩
end FN
theorem fstL_cg {p q : Nat → Bool} : ∀ {n : Nat}, (∀ k, k < n → p k = q k) → fstL p n = fstL q n
  | 0, _ => rfl
  | n + 1, h => by rw [fstL, fstL, fstL_cg (fun k hk => h k (by omega)), h n (by omega)]
theorem ok2_of {a b : Bool} (h : ok2 a b = true) : a = true ∧ b = true := by
  cases a
  · cases h
  · exact ⟨rfl, h⟩
theorem lt_in {a N : Nat} (h : a < N) (hN : N < 2 ^ 31) : nI a < nI N := nI_lt h hN
