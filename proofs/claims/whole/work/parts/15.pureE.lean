theorem sto_succ (wk : Nat → Int32) (n wd hg : Nat) (own : Int32) (w0 : Int32) (f0 : Nat → Int32) (d : Nat) : sto wk n wd hg own w0 f0 (d + 1) = (((shf wk n (sto wk n wd hg own w0 f0 d).1.1 (sto wk n wd hg own w0 f0 d).2).1, if rgs (shf wk n (sto wk n wd hg own w0 f0 d).1.1 (sto wk n wd hg own w0 f0 d).2).2 wd hg (grb (shf wk n (sto wk n wd hg own w0 f0 d).1.1 (sto wk n wd hg own w0 f0 d).2).2 wd hg) < own then (sto wk n wd hg own w0 f0 d).1.2 else (sto wk n wd hg own w0 f0 d).1.2 + 1), (shf wk n (sto wk n wd hg own w0 f0 d).1.1 (sto wk n wd hg own w0 f0 d).2).2) := rfl
theorem gwO_le {nW : Nat} {ro su : Nat → Int32} {wd hg : Nat} {f : Nat → Int32} (hw : wd ≤ 8) (hh : hg ≤ 8) : (gwO nW ro su wd f hg).1 ≤ 64 := by
  have h1 := gwO_n nW ro su wd f hg
  have h2 : hg * wd ≤ 8 * 8 := Nat.mul_le_mul hh hw
  omega
/-- runs -/
def hrun (x y n : Int32) : Bool := if x < 0 then false else if y < 0 then false else if n - y < x then false else true
/-- the parts that fit best -/
def mis (co pr : Nat → Int32) (a b c : Nat) : Nat → Int64
  | 0 => 0
  | k + 1 => mis co pr a b c k + (nI 20 * co k - nI a * pr k - nI b * pr (4 + k) - nI c * pr (8 + k)).toInt64 * (nI 20 * co k - nI a * pr k - nI b * pr (4 + k) - nI c * pr (8 + k)).toInt64
def dn (n t : Nat) : Int32 := nI n - nI t
theorem dn_eq {n t : Nat} (h : t ≤ n) : dn n t = nI (n - t) := pk_sub h
theorem dn_succ (n t : Nat) : dn n t + Int32.ofInt (-1) = dn n (t + 1) := by
  unfold dn
  rw [nI_succ]
  have h : ∀ a b : Int32, a - b + Int32.ofInt (-1) = a - (b + 1) := by
    intro a b
    apply Int32.toBitVec_inj.mp
    show a.toBitVec - b.toBitVec + 4294967295#32 = a.toBitVec - (b.toBitVec + 1#32)
    bv_omega
  exact h _ _
theorem dn_neg {n : Nat} (h : n < 1000000) : dn n (n + 1) < 0 := by
  show nI n - nI (n + 1) < 0
  exact pk_sneg (by omega) (Nat.lt_succ_self n)
theorem dn_pos {n t : Nat} (h : t ≤ n) (hn : n < 2 ^ 31) : ¬ dn n t < 0 := by rw [dn_eq h]; exact nI_pos (by omega)
def skI (co pr : Nat → Int32) (t : Nat) (q : Int64 × (Nat → Int32)) : Nat → Int64 × (Nat → Int32)
  | 0 => q
  | u + 1 => if lg_cmp (skI co pr t q u).1 (-1) = 0 then (mis co pr (20 - t) (t - u) u 4, upd (upd (upd (skI co pr t q u).2 0 (nI (20 - t))) 1 (nI (t - u))) 2 (nI u))
    else if 0 ≤ lg_cmp (mis co pr (20 - t) (t - u) u 4) (skI co pr t q u).1 then skI co pr t q u else (mis co pr (20 - t) (t - u) u 4, upd (upd (upd (skI co pr t q u).2 0 (nI (20 - t))) 1 (nI (t - u))) 2 (nI u))
theorem skI_succ (co pr : Nat → Int32) (t : Nat) (q : Int64 × (Nat → Int32)) (u : Nat) : skI co pr t q (u + 1) = if lg_cmp (skI co pr t q u).1 (-1) = 0 then (mis co pr (20 - t) (t - u) u 4, upd (upd (upd (skI co pr t q u).2 0 (nI (20 - t))) 1 (nI (t - u))) 2 (nI u))
    else if 0 ≤ lg_cmp (mis co pr (20 - t) (t - u) u 4) (skI co pr t q u).1 then skI co pr t q u else (mis co pr (20 - t) (t - u) u 4, upd (upd (upd (skI co pr t q u).2 0 (nI (20 - t))) 1 (nI (t - u))) 2 (nI u)) := rfl
def skO (co pr : Nat → Int32) (f : Nat → Int32) : Nat → Int64 × (Nat → Int32)
  | 0 => (-1, f)
  | t + 1 => skI co pr t (skO co pr f t) (t + 1)
/-- four bytes -/
def by8 (x : Int32) (s : Nat) : Int32 := vp_nar .byte (x.toUInt32 >>> ((nI s).toUInt32 &&& Int32.toUInt32 31)).toInt32.toInt8.toInt32
def tpa (f : Nat → Int32) (n : Nat) (x : Int32) : Nat → Int32 := upd (upd (upd (upd f n (by8 x 24)) (n + 1) (by8 x 16)) (n + 1 + 1) (by8 x 8)) (n + 1 + 1 + 1) (by8 x 0)
/-- leaves -/
def cov (r1 r2 d1 d2 : Nat → Int32) (l : Nat) (row day : Int32) : Bool := if inr row (r1 l) (r2 l) = true then (if inr day (d1 l) (d2 l) = true then true else false) else false
def lok (r1 r2 d1 d2 ba wi : Nat → Int32) (w row day : Int32) (l : Nat) : Bool := if wi l = 0 then (if cov r1 r2 d1 d2 l row day = true then (if (ba l >>> (w &&& 31)) &&& nI 1 = 0 then true else false) else false) else false
/-- the first of n, or -1 -/
def fstL (p : Nat → Bool) : Nat → Int32
  | 0 => -1
  | n + 1 => if fstL p n = -1 then (if p n = true then nI n else -1) else fstL p n
theorem fstL_none {p : Nat → Bool} : ∀ {n : Nat}, (∀ k, k < n → p k = false) → fstL p n = -1
  | 0, _ => rfl
  | n + 1, h => by rw [fstL, if_pos (fstL_none (fun k hk => h k (by omega))), if_neg (by rw [h n (by omega)]; decide)]
theorem nI_ne_m1 {n : Nat} (h : n < 2 ^ 31) : ¬ nI n = -1 := fun e => by
  have := nI_pos h
  rw [e] at this
  exact this (by decide)
theorem fstL_some {p : Nat → Bool} {i : Nat} (h0 : ∀ k, k < i → p k = false) (h1 : p i = true) (hi : i < 2 ^ 31) : ∀ {n : Nat}, i < n → fstL p n = nI i
  | 0, h => absurd h (Nat.not_lt_zero i)
  | n + 1, h => by
    rcases Nat.lt_or_ge i n with q | q
    · have e := fstL_some h0 h1 hi q
      rw [fstL, if_neg (by rw [e]; exact nI_ne_m1 hi), e]
    · have e : i = n := by omega
      subst e
      rw [fstL, if_pos (fstL_none h0), if_pos h1]
def stg (wi : Nat → Int32) : Nat → Int32
  | 0 => 0
  | l + 1 => if wi l = 0 then stg wi l + nI 1 else stg wi l + nI 0
theorem stg_succ (wi : Nat → Int32) (l : Nat) : stg wi (l + 1) = if wi l = 0 then stg wi l + nI 1 else stg wi l + nI 0 := rfl
theorem toI_1 : bI (!decide (nI 1 = 0)) = nI 1 := by decide
theorem toI_0 : bI (!decide (nI 0 = 0)) = nI 0 := by decide
