theorem mx_pred (a : Nat) (h : a < 2 ^ 30) : mxI (nI a - nI 1) (nI 0) = nI (a - 1) := by
  cases a with
  | zero => decide
  | succ n =>
    rw [show nI (n + 1) - nI 1 = nI n from nI_pred n]
    unfold mxI
    rw [if_neg (nI_nlt (Nat.zero_le n) (by omega))]
    rfl
theorem mn_nI {a b : Nat} (ha : a < 2 ^ 31) (hb : b < 2 ^ 31) : mnI (nI a) (nI b) = nI (min a b) := by
  unfold mnI
  rcases Nat.lt_or_ge b a with h | h
  · rw [if_pos (nI_lt h ha), Nat.min_eq_right (Nat.le_of_lt h)]
  · rw [if_neg (nI_nlt h hb), Nat.min_eq_left h]
theorem idx64 {r c wd hg : Nat} (hr : r < hg) (hc : c < wd) (hw : wd ≤ 8) (hh : hg ≤ 8) : r * wd + c < 64 := by
  have : r * wd ≤ 7 * 8 := Nat.mul_le_mul (by omega) hw
  omega
theorem row_lt {p wd hg : Nat} (h : p < wd * hg) (h1 : 2 ≤ wd) : p / wd < hg := by
  rw [Nat.div_lt_iff_lt_mul (by omega)]
  rw [Nat.mul_comm]; exact h
theorem prod64 {wd hg : Nat} (hw : wd ≤ 8) (hh : hg ≤ 8) : wd * hg ≤ 64 := Nat.mul_le_mul hw hh
theorem prod4 {wd hg : Nat} (hw : 2 ≤ wd) (hh : 2 ≤ hg) : 4 ≤ wd * hg := Nat.mul_le_mul hw hh
theorem idx_in {r c wd hg : Nat} (hr : r < hg) (hc : c < wd) : r * wd + c < wd * hg := by
  have : (r + 1) * wd ≤ hg * wd := Nat.mul_le_mul_right wd hr
  rw [Nat.succ_mul] at this
  rw [Nat.mul_comm wd hg]
  omega
/-- the sum of a ring -/
def rgi (v : Nat → Int32) (wd tp lf a : Nat) (b0 : Int32) : Nat → Int32
  | 0 => b0
  | b + 1 => rgi v wd tp lf a b0 b + v ((tp + a) * wd + (lf + b))
def rgo (v : Nat → Int32) (wd tp lf nc : Nat) : Nat → Int32
  | 0 => 0
  | a + 1 => rgi v wd tp lf a (rgo v wd tp lf nc a) nc
def rgs (v : Nat → Int32) (wd hg p : Nat) : Int32 := rgo v wd (p / wd - 1) (p % wd - 1) (min (p % wd + 1) (wd - 1) + 1 - (p % wd - 1)) (min (p / wd + 1) (hg - 1) + 1 - (p / wd - 1))
/-- the pace with the greatest ring -/
def gr (v : Nat → Int32) (wd hg : Nat) : Nat → Nat × Int32
  | 0 => (0, rgs v wd hg 0)
  | t + 1 => if rgs v wd hg (t + 1) ≤ (gr v wd hg t).2 then gr v wd hg t else (t + 1, rgs v wd hg (t + 1))
theorem gr_succ (v : Nat → Int32) (wd hg t : Nat) : gr v wd hg (t + 1) = if rgs v wd hg (t + 1) ≤ (gr v wd hg t).2 then gr v wd hg t else (t + 1, rgs v wd hg (t + 1)) := rfl
theorem gr_le (v : Nat → Int32) (wd hg : Nat) : ∀ t, (gr v wd hg t).1 ≤ t
  | 0 => Nat.le_refl 0
  | t + 1 => by
    rw [gr_succ]
    split
    · exact Nat.le_succ_of_le (gr_le v wd hg t)
    · exact Nat.le_refl _
def grb (v : Nat → Int32) (wd hg : Nat) : Nat := (gr v wd hg (wd * hg - 1)).1
theorem grb_lt (v : Nat → Int32) {wd hg : Nat} (hw : 2 ≤ wd) (hh : 2 ≤ hg) : grb v wd hg < wd * hg := by
  have := gr_le v wd hg (wd * hg - 1)
  have := prod4 hw hh
  unfold grb
  omega
/-- worths -/
def wz (n : Int32) (so ta : Nat → Int32) (x : Int32) (c : Nat) (e : Int32) : Nat → Int32
  | 0 => 0
  | k + 1 => wz n so ta x c e k + wgt so k * amd so k (brn n ta x c k) e
def cel (n : Int32) (nW : Nat) (so wk ro su ta : Nat → Int32) (b : Int64) (wd r c : Nat) : Int32 := if brb b (nI (r * wd + c)) = true then nI 0 else wz n so ta (ctel nW ro su (nI r)) c (oft so wk ro su nW (ctel nW ro su (nI r))) 4
def layI (F : Nat → Nat → Int32) (wd r : Nat) (f : Nat → Int32) : Nat → Nat → Int32
  | 0 => f
  | c + 1 => upd (layI F wd r f c) (r * wd + c) (F r c)
def layO (F : Nat → Nat → Int32) (wd : Nat) (f : Nat → Int32) : Nat → Nat → Int32
  | 0 => f
  | r + 1 => layI F wd r (layO F wd f r) wd
/-- the paces of walked rows -/
def gwI (wd r : Nat) (q : Nat × (Nat → Int32)) : Nat → Nat × (Nat → Int32)
  | 0 => q
  | c + 1 => ((gwI wd r q c).1 + 1, upd (gwI wd r q c).2 (gwI wd r q c).1 (nI (r * wd + c)))
def gwO (nW : Nat) (ro su : Nat → Int32) (wd : Nat) (f : Nat → Int32) : Nat → Nat × (Nat → Int32)
  | 0 => (0, f)
  | r + 1 => if ctel nW ro su (nI r) = (-1) then gwO nW ro su wd f r else gwI wd r (gwO nW ro su wd f r) wd
theorem gwO_succ (nW : Nat) (ro su : Nat → Int32) (wd : Nat) (f : Nat → Int32) (r : Nat) : gwO nW ro su wd f (r + 1) = if ctel nW ro su (nI r) = (-1) then gwO nW ro su wd f r else gwI wd r (gwO nW ro su wd f r) wd := rfl
theorem gwI_n (wd r : Nat) (q : Nat × (Nat → Int32)) : ∀ c, (gwI wd r q c).1 = q.1 + c
  | 0 => rfl
  | c + 1 => by show (gwI wd r q c).1 + 1 = _; rw [gwI_n wd r q c]; omega
theorem gwO_n (nW : Nat) (ro su : Nat → Int32) (wd : Nat) (f : Nat → Int32) : ∀ r, (gwO nW ro su wd f r).1 ≤ r * wd
  | 0 => by simp [gwO]
  | r + 1 => by
    have ih := gwO_n nW ro su wd f r
    rw [gwO_succ, Nat.succ_mul]
    split
    · omega
    · rw [gwI_n]; omega
theorem gwI_v (wd r hg : Nat) (hw : wd ≤ 8) (hh : hg ≤ 8) (hr : r < hg) (q : Nat × (Nat → Int32)) (hq : ∀ a, a < q.1 → ∃ z, z < 64 ∧ q.2 a = nI z) : ∀ c, c ≤ wd → ∀ a, a < (gwI wd r q c).1 → ∃ z, z < 64 ∧ (gwI wd r q c).2 a = nI z
  | 0, _, a, ha => hq a ha
  | c + 1, hc, a, ha => by
    show ∃ z, z < 64 ∧ upd (gwI wd r q c).2 (gwI wd r q c).1 (nI (r * wd + c)) a = nI z
    have ha' : a < (gwI wd r q c).1 + 1 := ha
    by_cases h : a = (gwI wd r q c).1
    · rw [h, pk_us]
      exact ⟨_, idx64 hr (by omega) hw hh, rfl⟩
    · rw [pk_un h]
      exact gwI_v wd r hg hw hh hr q hq c (by omega) a (by omega)
theorem gwO_v (nW : Nat) (ro su : Nat → Int32) (wd hg : Nat) (hw : wd ≤ 8) (hh : hg ≤ 8) (f : Nat → Int32) : ∀ r, r ≤ hg → ∀ a, a < (gwO nW ro su wd f r).1 → ∃ z, z < 64 ∧ (gwO nW ro su wd f r).2 a = nI z
  | 0, _, a, ha => absurd ha (Nat.not_lt_zero a)
  | r + 1, hr, a, ha => by
    rw [gwO_succ] at ha ⊢
    split at ha
    · rename_i h; rw [if_pos h]; exact gwO_v nW ro su wd hg hw hh f r (by omega) a ha
    · rename_i h; rw [if_neg h]; exact gwI_v wd r hg hw hh (by omega) _ (gwO_v nW ro su wd hg hw hh f r (by omega)) wd (Nat.le_refl _) a ha
/-- shuffles -/
def shX (w : Int32) : Nat := w.toBitVec.toNat / 256
theorem shX_lt (w : Int32) : shX w < 16777216 := by
  unfold shX
  have : w.toBitVec.toNat < 4294967296 := w.toBitVec.isLt
  omega
theorem sh_u (w : Int32) : (w.toUInt32 >>> ((nI 8 : Int32).toUInt32 &&& Int32.toUInt32 31)).toInt32 = nI (shX w) := by
  have h := pk_ushr w (nI 8) 8 (by decide)
  have hx := shX_lt w
  apply Int32.toBitVec_inj.mp
  apply BitVec.eq_of_toNat_eq
  rw [h, pk_tn (by omega)]
  rfl
def swp (f : Nat → Int32) (a b : Nat) : Nat → Int32 := upd (upd f a (f b)) b (f a)
def shw (w : Int32) : Int32 := w * 1103515245 + nI 12345
def shs (wk : Nat → Int32) (n : Nat) (w0 : Int32) (f0 : Nat → Int32) : Nat → Int32 × (Nat → Int32)
  | 0 => (w0, f0)
  | t + 1 => (shw (shs wk n w0 f0 t).1, swp (shs wk n w0 f0 t).2 (wk (n - t)).toNatClampNeg (wk (shX (shw (shs wk n w0 f0 t).1) % (n - t + 1))).toNatClampNeg)
def shf (wk : Nat → Int32) (n : Nat) (w : Int32) (f : Nat → Int32) : Int32 × (Nat → Int32) := match n with
  | 0 => (w, f)
  | n + 1 => shs wk n w f n
theorem tn_of {x : Int32} (h : ∃ q, q < 64 ∧ x = nI q) : x = nI x.toNatClampNeg ∧ x.toNatClampNeg < 64 := by
  obtain ⟨q, hq, rfl⟩ := h
  rw [nI_clamp (by omega)]
  exact ⟨rfl, hq⟩
/-- the state behind d shuffles: w, the misses, the worths -/
def sto (wk : Nat → Int32) (n wd hg : Nat) (own : Int32) (w0 : Int32) (f0 : Nat → Int32) : Nat → (Int32 × Nat) × (Nat → Int32)
  | 0 => ((w0, 0), f0)
  | d + 1 => (((shf wk n (sto wk n wd hg own w0 f0 d).1.1 (sto wk n wd hg own w0 f0 d).2).1, if rgs (shf wk n (sto wk n wd hg own w0 f0 d).1.1 (sto wk n wd hg own w0 f0 d).2).2 wd hg (grb (shf wk n (sto wk n wd hg own w0 f0 d).1.1 (sto wk n wd hg own w0 f0 d).2).2 wd hg) < own then (sto wk n wd hg own w0 f0 d).1.2 else (sto wk n wd hg own w0 f0 d).1.2 + 1), (shf wk n (sto wk n wd hg own w0 f0 d).1.1 (sto wk n wd hg own w0 f0 d).2).2)
theorem sto_m (wk : Nat → Int32) (n wd hg : Nat) (own : Int32) (w0 : Int32) (f0 : Nat → Int32) (d : Nat) : (sto wk n wd hg own w0 f0 d).1.2 ≤ (sto wk n wd hg own w0 f0 (d + 1)).1.2 ∧ (sto wk n wd hg own w0 f0 (d + 1)).1.2 ≤ (sto wk n wd hg own w0 f0 d).1.2 + 1 := by
  show _ ≤ (if _ < own then _ else _) ∧ (if _ < own then _ else _) ≤ _
  split <;> omega
theorem sto_le (wk : Nat → Int32) (n wd hg : Nat) (own : Int32) (w0 : Int32) (f0 : Nat → Int32) : ∀ d, (sto wk n wd hg own w0 f0 d).1.2 ≤ d
  | 0 => Nat.le_refl 0
  | d + 1 => by have h1 := sto_le wk n wd hg own w0 f0 d; have h2 := (sto_m wk n wd hg own w0 f0 d).2; omega
theorem sto_mono (wk : Nat → Int32) (n wd hg : Nat) (own : Int32) (w0 : Int32) (f0 : Nat → Int32) (d : Nat) : ∀ k, (sto wk n wd hg own w0 f0 d).1.2 ≤ (sto wk n wd hg own w0 f0 (d + k)).1.2
  | 0 => Nat.le_refl _
  | k + 1 => Nat.le_trans (sto_mono wk n wd hg own w0 f0 d k) (sto_m wk n wd hg own w0 f0 (d + k)).1
theorem lt_nI_mono {x : Int32} {a b : Nat} (h : x < nI a) (hab : a ≤ b) (hb : b < 2 ^ 31) : x < nI b := by
  rw [Int32.lt_iff_toInt_lt] at h ⊢
  rw [nI_toInt (by omega)] at h ⊢
  omega
theorem gw_lt {nW : Nat} {ro su : Nat → Int32} {wd hg i c : Nat} {f : Nat → Int32} (hi : i < hg) (hc : c < wd) (hw : wd ≤ 8) (hh : hg ≤ 8) : (gwI wd i (gwO nW ro su wd f i) c).1 < 64 := by
  rw [gwI_n]
  have h1 := gwO_n nW ro su wd f i
  have h2 := idx64 hi hc hw hh
  omega
