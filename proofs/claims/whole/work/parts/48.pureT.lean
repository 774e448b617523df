/-! the reference: rules, ploughs, periods, tape -/
def rlo (x y : Int32) : Bool := if inr x (nI 0) (nI 1) = true then (if x = nI 1 then inr y (nI 0) (nI 9) else true) else false
theorem nI_lt_iff {a b : Nat} (ha : a < 2 ^ 31) (hb : b < 2 ^ 31) : nI a < nI b ↔ a < b := by
  rw [Int32.lt_iff_toInt_lt, nI_toInt ha, nI_toInt hb]; omega
theorem nI_le_iff {a b : Nat} (ha : a < 2 ^ 31) (hb : b < 2 ^ 31) : nI a ≤ nI b ↔ a ≤ b := by
  rw [Int32.le_iff_toInt_le, nI_toInt ha, nI_toInt hb]; omega
theorem sL_f {wd p : Nat} (c : nI (p % wd) ≤ 0) (h : p % wd < 2 ^ 31) : sdL wd p = false := by
  unfold sdL
  have : ¬ 0 < p % wd := fun z => nI_nle z h c
  exact decide_eq_false this
theorem sL_t {wd p : Nat} (c : ¬ nI (p % wd) ≤ 0) : sdL wd p = true := by
  unfold sdL
  have : 0 < p % wd := by
    rcases Nat.eq_zero_or_pos (p % wd) with h | h
    · rw [h] at c; exact absurd (by decide) c
    · exact h
  exact decide_eq_true this
theorem sR_f {wd p : Nat} (c : nI (wd - 1) ≤ nI (p % wd)) (h : p % wd < 2 ^ 31) (h2 : wd < 2 ^ 31) : sdR wd p = false := by
  unfold sdR
  exact decide_eq_false (by have := (nI_le_iff (by omega) h).mp c; omega)
theorem sR_t {wd p : Nat} (c : ¬ nI (wd - 1) ≤ nI (p % wd)) (h : p % wd < 2 ^ 31) (h2 : wd < 2 ^ 31) : sdR wd p = true := by
  unfold sdR
  exact decide_eq_true (by rw [nI_le_iff (by omega) h] at c; omega)
theorem sU_f {wd p : Nat} (c : nI p < nI wd) (h : p < 2 ^ 31) (h2 : wd < 2 ^ 31) : sdU wd p = false := by
  unfold sdU
  have := (nI_lt_iff h h2).mp c
  rw [Nat.div_eq_of_lt this]; rfl
theorem sU_t {wd p : Nat} (c : ¬ nI p < nI wd) (h : p < 2 ^ 31) (h2 : wd < 2 ^ 31) (h3 : 2 ≤ wd) : sdU wd p = true := by
  unfold sdU
  rw [nI_lt_iff h h2] at c
  exact decide_eq_true (Nat.div_pos (by omega) (by omega))
theorem dD_iff {wd hg p : Nat} (h : p < wd * hg) (hw : 2 ≤ wd) : p + wd < wd * hg ↔ p / wd < hg - 1 := by
  rw [← Nat.add_lt_iff_lt_sub_right, ← Nat.add_div_right p (show 0 < wd by omega), Nat.div_lt_iff_lt_mul (by omega), Nat.mul_comm]
theorem sD_f {wd hg p : Nat} (c : nI (wd * hg) ≤ nI (p + wd)) (h : p < wd * hg) (hw : 2 ≤ wd) (h2 : wd * hg ≤ 64) (h3 : wd ≤ 8) : sdD wd hg p = false := by
  unfold sdD
  rw [nI_le_iff (by omega) (by omega)] at c
  exact decide_eq_false (fun z => by rw [← dD_iff h hw] at z; omega)
theorem sD_t {wd hg p : Nat} (c : ¬ nI (wd * hg) ≤ nI (p + wd)) (h : p < wd * hg) (hw : 2 ≤ wd) (h2 : wd * hg ≤ 64) (h3 : wd ≤ 8) : sdD wd hg p = true := by
  unfold sdD
  rw [nI_le_iff (by omega) (by omega)] at c
  exact decide_eq_true (by rw [← dD_iff h hw]; omega)
theorem mbI_t {b : Bool} (h : b = true) : nI 1 = bI b := by rw [h]; rfl
theorem mbI_f {b : Bool} (h : b = false) : nI 0 = bI b := by rw [h]; rfl
def msv (sz : Int32) (nm : Nat → Int32) (p : Nat) : Int32 := if sz ≤ nI p then nI 0 else if inr (nm p) (nI 0) (nI 9999) = true then nm p else nI 0
def mpn (s n : Nat → Int32) (wd hg : Nat) : Nat → Int32 := plo s wd hg (fil (nI 0) n (wd * hg)) (wd * hg)
def mpl (wd hg : Nat) (q : (Nat → Int32) × (Nat → Int32)) : Nat → (Nat → Int32) × (Nat → Int32)
  | 0 => q
  | d + 1 => (cotI (mpn (mpl wd hg q d).1 (mpl wd hg q d).2 wd hg) (mpl wd hg q d).1 (wd * hg), mpn (mpl wd hg q d).1 (mpl wd hg q d).2 wd hg)
def mfv (la : Nat → Int64) (pr : Nat → Int32) (a b c k : Nat) : Int64 := 20 * la k - (nI a * pr k).toInt64 - (nI b * pr (4 + k)).toInt64 - (nI c * pr (8 + k)).toInt64
def mfa (la : Nat → Int64) (pr : Nat → Int32) (a b c : Nat) : Nat → Int64
  | 0 => 0
  | k + 1 => mfa la pr a b c k + mfv la pr a b c k * mfv la pr a b c k
def fiL (la : Nat → Int64) : Nat → Nat → Int64
  | 0 => la
  | t + 1 => vp_updL (fiL la t) t 0
def cnv (nW nF wd : Nat) (ro fw fp fm : Nat → Int32) (f : Nat) : Int64 := if mtl nW nF ro fw fm (nI (tn (fp f) / wd)) = fw f then (fm f).toInt64 else 0
def cnL (nW nF wd : Nat) (ro fw fp fk fm : Nat → Int32) (la : Nat → Int64) : Nat → Nat → Int64
  | 0 => la
  | f + 1 => vp_updL (cnL nW nF wd ro fw fp fk fm la f) (tn (fk f)) (cnL nW nF wd ro fw fp fk fm la f (tn (fk f)) + cnv nW nF wd ro fw fp fm f)
def mkI (la : Nat → Int64) (pr : Nat → Int32) (t : Nat) (q : Int64 × Nat × Nat) : Nat → Int64 × Nat × Nat
  | 0 => q
  | u + 1 => if 0 ≤ lg_cmp (mfa la pr (20 - t) (t - u) u 4) (mkI la pr t q u).1 then mkI la pr t q u else (mfa la pr (20 - t) (t - u) u 4, 20 - t, t - u)
theorem mkI_succ (la : Nat → Int64) (pr : Nat → Int32) (t : Nat) (q : Int64 × Nat × Nat) (u : Nat) : mkI la pr t q (u + 1) = if 0 ≤ lg_cmp (mfa la pr (20 - t) (t - u) u 4) (mkI la pr t q u).1 then mkI la pr t q u else (mfa la pr (20 - t) (t - u) u 4, 20 - t, t - u) := rfl
def mkO (la : Nat → Int64) (pr : Nat → Int32) : Nat → Int64 × Nat × Nat
  | 0 => (mfa la pr 20 0 0 4, 20, 0)
  | t + 1 => mkI la pr t (mkO la pr t) (t + 1)
def m8 (x : Int32) (s : Nat) : Int32 := (x >>> (nI s &&& 31)) &&& nI 255
def mta (f : Nat → Int32) (n : Nat) (x : Int32) : Nat → Int32 := upd (upd (upd (upd f n (m8 x 24)) (n + 1) (m8 x 16)) (n + 1 + 1) (m8 x 8)) (n + 1 + 1 + 1) (m8 x 0)
