theorem cotI_in (F f : Nat → Int32) : ∀ {n i : Nat}, i < n → cotI F f n i = F i
  | 0, i, h => absurd h (Nat.not_lt_zero i)
  | n + 1, i, h => by
    show upd (cotI F f n) n (F n) i = F i
    by_cases e : i = n
    · rw [e, pk_us]
    · rw [pk_un e]; exact cotI_in F f (by omega)
def m1s (F wk ro : Nat → Int32) (w : Int32) (a : Nat) (s : Int32) : Nat → Int32
  | 0 => s
  | b + 1 => if wk b = w then m1s F wk ro w a s b else if ro a = ro b then m1s F wk ro w a s b + F a else m1s F wk ro w a s b
theorem m1s_succ (F wk ro : Nat → Int32) (w : Int32) (a : Nat) (s : Int32) (b : Nat) : m1s F wk ro w a s (b + 1) = if wk b = w then m1s F wk ro w a s b else if ro a = ro b then m1s F wk ro w a s b + F a else m1s F wk ro w a s b := rfl
def m1b (F wk ro : Nat → Int32) (w : Int32) (a : Nat) (s : Int32) : Nat → Int32
  | 0 => s
  | b + 1 => if wk b = w then m1b F wk ro w a s b else if ro a = ro b then (if F a ≤ F b then m1b F wk ro w a s b + F b else m1b F wk ro w a s b + F a) else m1b F wk ro w a s b
theorem m1b_succ (F wk ro : Nat → Int32) (w : Int32) (a : Nat) (s : Int32) (b : Nat) : m1b F wk ro w a s (b + 1) = if wk b = w then m1b F wk ro w a s b else if ro a = ro b then (if F a ≤ F b then m1b F wk ro w a s b + F b else m1b F wk ro w a s b + F a) else m1b F wk ro w a s b := rfl
def m0s (F wk ro : Nat → Int32) (w : Int32) (n : Nat) : Nat → Int32
  | 0 => 0
  | a + 1 => if wk a = w then m1s F wk ro w a (m0s F wk ro w n a) n else m0s F wk ro w n a
theorem m0s_succ (F wk ro : Nat → Int32) (w : Int32) (n a : Nat) : m0s F wk ro w n (a + 1) = if wk a = w then m1s F wk ro w a (m0s F wk ro w n a) n else m0s F wk ro w n a := rfl
def m0b (F wk ro : Nat → Int32) (w : Int32) (n : Nat) : Nat → Int32
  | 0 => 0
  | a + 1 => if wk a = w then m1b F wk ro w a (m0b F wk ro w n a) n else m0b F wk ro w n a
theorem m0b_succ (F wk ro : Nat → Int32) (w : Int32) (n a : Nat) : m0b F wk ro w n (a + 1) = if wk a = w then m1b F wk ro w a (m0b F wk ro w n a) n else m0b F wk ro w n a := rfl
def mey (F wk ro : Nat → Int32) (n : Nat) (w : Int32) : Int32 := if m0b F wk ro w n n = 0 then nI 100 else nI 100 * m0s F wk ro w n n / m0b F wk ro w n n
def fiI (F : Nat → Int32) (n : Nat) (f : Nat → Int32) : Nat → Nat → Int32
  | 0 => f
  | w + 1 => cotI F (fiI F n f w) n
def mcn (fw fp fk fm : Nat → Int32) (nF : Nat) (w : Int32) (p j : Nat) : Int32 := if w < 0 then nI 0 else mat fw fp fk fm w (nI p) (nI j) nF
def mcv (n e : Int32) : Int32 := if e = 0 then nI 9999 else n * nI 100 / e
def mco (so wk ey : Nat → Int32) (n w : Int32) (j : Nat) : Int32 := if n = 0 then n else if so j = nI 1 then n else if mcv n (ey (tn (wk (tn w)))) ≤ nI 9999 then mcv n (ey (tn (wk (tn w)))) else nI 9999
def mwt (so : Nat → Int32) (j : Nat) : Int32 := if so j = nI 2 then nI 2 else if so j = nI 3 then nI 3 else nI 1
/-- the worth of a pace, by kinds -/
def mwa (C : Nat → Int32) (so : Nat → Int32) : Nat → Int32
  | 0 => nI 0
  | k + 1 => mwa C so k + C k * mwt so k
def mwv (C : Nat → Nat → Int32) (so em : Nat → Int32) (p : Nat) : Int32 := if em p = 0 then mwa (C p) so 4 else nI 0
theorem upd2 (f : Nat → Int32) (i : Nat) (x y : Int32) : upd (upd f i x) i y = upd f i y := by
  funext k
  by_cases h : k = i
  · rw [h, pk_us, pk_us]
  · rw [pk_un h, pk_un h, pk_un h]
/-- rows and columns around -/
def yv (r a : Nat) : Int32 := nI (r + a) - nI 1
theorem yv_pos {r a : Nat} (h : 1 ≤ r + a) : yv r a = nI (r + a - 1) := pk_sub h
theorem yv_succ (r a : Nat) : yv r a + 1 = yv r (a + 1) := by
  unfold yv
  rw [show r + (a + 1) = (r + a) + 1 from rfl, show nI (r + a + 1) - nI 1 = nI (r + a) from nI_pred _]
  have h : ∀ x : Int32, x - nI 1 + 1 = x := by
    intro x
    apply Int32.toBitVec_inj.mp
    show x.toBitVec - 1#32 + 1#32 = x.toBitVec
    bv_omega
  exact h _
theorem yv_x {r : Nat} (h : r < 100) : nI (r + 1) < yv r 3 := by rw [yv_pos (by omega)]; exact nI_lt (by omega) (by omega)
theorem yv_b {r a : Nat} (h : r < 100) (ha : a < 3) : ¬ nI (r + 1) < yv r a := by
  by_cases h1 : 1 ≤ r + a
  · rw [yv_pos h1]; exact nI_nlt (by omega) (by omega)
  · have h2 : r = 0 := by omega
    have h3 : a = 0 := by omega
    subst h2; subst h3
    decide
def cellv (v : Nat → Int32) (wd hg r c a b : Nat) : Int32 := if inx (yv r a) (nI hg) = true then (if inx (yv c b) (nI wd) = true then v (wd * tn (yv r a) + tn (yv c b)) else nI 0) else nI 0
def rmI (v : Nat → Int32) (wd hg r c a : Nat) (s : Int32) : Nat → Int32
  | 0 => s
  | b + 1 => rmI v wd hg r c a s b + cellv v wd hg r c a b
def rmO (v : Nat → Int32) (wd hg r c : Nat) : Nat → Int32
  | 0 => 0
  | a + 1 => rmI v wd hg r c a (rmO v wd hg r c a) 3
def rm (v : Nat → Int32) (wd hg p : Nat) : Int32 := rmO v wd hg (p / wd) (p % wd) 3
def mbs (v : Nat → Int32) (wd hg : Nat) : Nat → Nat
  | 0 => 0
  | t + 1 => if rm v wd hg (t + 1) ≤ rm v wd hg (mbs v wd hg t) then mbs v wd hg t else t + 1
theorem mbs_succ (v : Nat → Int32) (wd hg t : Nat) : mbs v wd hg (t + 1) = if rm v wd hg (t + 1) ≤ rm v wd hg (mbs v wd hg t) then mbs v wd hg t else t + 1 := rfl
theorem mbs_le (v : Nat → Int32) (wd hg : Nat) : ∀ t, mbs v wd hg t ≤ t
  | 0 => Nat.le_refl 0
  | t + 1 => by
    rw [mbs_succ]
    split
    · exact Nat.le_succ_of_le (mbs_le v wd hg t)
    · exact Nat.le_refl _
def mbb (v : Nat → Int32) (wd hg : Nat) : Nat := mbs v wd hg (wd * hg - 1)
theorem mbb_lt (v : Nat → Int32) {wd hg : Nat} (hw : 2 ≤ wd) (hh : 2 ≤ hg) : mbb v wd hg < wd * hg := by
  have := mbs_le v wd hg (wd * hg - 1)
  have := prod4 hw hh
  unfold mbb
  omega
/-- gathering the paces of walked rows -/
def gm (ch : Nat → Int32) (wd : Nat) (f : Nat → Int32) : Nat → Nat × (Nat → Int32)
  | 0 => (0, f)
  | t + 1 => if ch (t / wd) < 0 then gm ch wd f t else ((gm ch wd f t).1 + 1, upd (gm ch wd f t).2 (gm ch wd f t).1 (nI t))
theorem gm_succ (ch : Nat → Int32) (wd : Nat) (f : Nat → Int32) (t : Nat) : gm ch wd f (t + 1) = if ch (t / wd) < 0 then gm ch wd f t else ((gm ch wd f t).1 + 1, upd (gm ch wd f t).2 (gm ch wd f t).1 (nI t)) := rfl
theorem gm_le (ch : Nat → Int32) (wd : Nat) (f : Nat → Int32) : ∀ t, (gm ch wd f t).1 ≤ t
  | 0 => Nat.le_refl 0
  | t + 1 => by
    have ih := gm_le ch wd f t
    rw [gm_succ]
    split
    · omega
    · show (gm ch wd f t).1 + 1 ≤ t + 1
      omega
theorem gm_v (ch : Nat → Int32) (wd : Nat) (f : Nat → Int32) : ∀ t, t ≤ 64 → ∀ a, a < (gm ch wd f t).1 → ∃ z, z < 64 ∧ (gm ch wd f t).2 a = nI z
  | 0, _, a, ha => absurd ha (Nat.not_lt_zero a)
  | t + 1, ht, a, ha => by
    rw [gm_succ] at ha ⊢
    split at ha
    · rename_i h; rw [if_pos h]; exact gm_v ch wd f t (by omega) a ha
    · rename_i h
      rw [if_neg h]
      show ∃ z, z < 64 ∧ upd (gm ch wd f t).2 (gm ch wd f t).1 (nI t) a = nI z
      have ha' : a < (gm ch wd f t).1 + 1 := ha
      by_cases e : a = (gm ch wd f t).1
      · rw [e, pk_us]; exact ⟨t, by omega, rfl⟩
      · rw [pk_un e]; exact gm_v ch wd f t (by omega) a (by omega)
theorem dn_le0 {n : Nat} (h : n < 1000000) : dn n (n - 1 + 1) ≤ 0 := by
  cases n with
  | zero => decide
  | succ n =>
    rw [show n + 1 - 1 + 1 = n + 1 by omega, dn_eq (Nat.le_refl _), Nat.sub_self]
    decide
theorem dn_nle {n t : Nat} (h : t < n - 1) (hn : n < 2 ^ 31) : ¬ dn n (t + 1) ≤ 0 := by
  rw [dn_eq (by omega)]
  exact nI_nle (by omega) (by omega)
def mto (wk : Nat → Int32) (n wd hg : Nat) (own : Int32) (w0 : Int32) (f0 : Nat → Int32) : Nat → (Int32 × Nat) × (Nat → Int32)
  | 0 => ((w0, 0), f0)
  | d + 1 => (((shs wk (n - 1) (mto wk n wd hg own w0 f0 d).1.1 (mto wk n wd hg own w0 f0 d).2 (n - 1)).1, if own ≤ rm (shs wk (n - 1) (mto wk n wd hg own w0 f0 d).1.1 (mto wk n wd hg own w0 f0 d).2 (n - 1)).2 wd hg (mbb (shs wk (n - 1) (mto wk n wd hg own w0 f0 d).1.1 (mto wk n wd hg own w0 f0 d).2 (n - 1)).2 wd hg) then (mto wk n wd hg own w0 f0 d).1.2 + 1 else (mto wk n wd hg own w0 f0 d).1.2 + 0), (shs wk (n - 1) (mto wk n wd hg own w0 f0 d).1.1 (mto wk n wd hg own w0 f0 d).2 (n - 1)).2)
theorem mto_succ (wk : Nat → Int32) (n wd hg : Nat) (own : Int32) (w0 : Int32) (f0 : Nat → Int32) (d : Nat) : mto wk n wd hg own w0 f0 (d + 1) = (((shs wk (n - 1) (mto wk n wd hg own w0 f0 d).1.1 (mto wk n wd hg own w0 f0 d).2 (n - 1)).1, if own ≤ rm (shs wk (n - 1) (mto wk n wd hg own w0 f0 d).1.1 (mto wk n wd hg own w0 f0 d).2 (n - 1)).2 wd hg (mbb (shs wk (n - 1) (mto wk n wd hg own w0 f0 d).1.1 (mto wk n wd hg own w0 f0 d).2 (n - 1)).2 wd hg) then (mto wk n wd hg own w0 f0 d).1.2 + 1 else (mto wk n wd hg own w0 f0 d).1.2 + 0), (shs wk (n - 1) (mto wk n wd hg own w0 f0 d).1.1 (mto wk n wd hg own w0 f0 d).2 (n - 1)).2) := rfl
