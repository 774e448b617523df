/-- where the shuffles end -/
def fe (F : Nat → Nat) (y : Int32) : Nat → Nat → Nat
  | 0, d => d
  | k + 1, d => if y < nI (F d) then d else fe F y k (d + 1)
theorem fe_t {F : Nat → Nat} {y : Int32} {m d : Nat} (h : d < m) (c : y < nI (F d)) : fe F y (m - d) d = d := by
  obtain ⟨k, hk⟩ : ∃ k, m - d = k + 1 := ⟨m - d - 1, by omega⟩
  rw [hk, fe, if_pos c]
theorem fe_f {F : Nat → Nat} {y : Int32} {m d : Nat} (h : d < m) (c : ¬ y < nI (F d)) : fe F y (m - d) d = fe F y (m - (d + 1)) (d + 1) := by
  obtain ⟨k, hk⟩ : ∃ k, m - d = k + 1 := ⟨m - d - 1, by omega⟩
  rw [hk, fe, if_neg c, show m - (d + 1) = k by omega]
theorem fe_x {F : Nat → Nat} {y : Int32} {m : Nat} : fe F y (m - m) m = m := by rw [Nat.sub_self]; rfl
/-- a plough -/
def bN (b : Bool) : Nat := if b then 1 else 0
theorem bI_bN (b : Bool) : bI b = nI (bN b) := by cases b <;> rfl
theorem toI_b (b : Bool) : bI (!decide (bI b = 0)) = bI b := by cases b <;> decide
theorem dm_le0 {a : Nat} (c : nI a ≤ 0) (ha : a < 2 ^ 31) : nI 0 = bI (decide (0 < a)) := by
  have : ¬ 0 < a := fun z => nI_nle z ha c
  rw [decide_eq_false this]; rfl
theorem dm_le1 {a : Nat} (c : ¬ nI a ≤ 0) : nI 1 = bI (decide (0 < a)) := by
  have : 0 < a := by
    rcases Nat.eq_zero_or_pos a with h | h
    · rw [h] at c; exact absurd (by decide) c
    · exact h
  rw [decide_eq_true this]; rfl
theorem dm_ge0 {a b : Nat} (c : nI b ≤ nI a) (ha : a < 2 ^ 31) (hb : b < 2 ^ 31) : nI 0 = bI (decide (a < b)) := by
  have : ¬ a < b := fun z => nI_ge z hb c
  rw [decide_eq_false this]; rfl
theorem dm_ge1 {a b : Nat} (c : ¬ nI b ≤ nI a) (ha : a < 2 ^ 31) : nI 1 = bI (decide (a < b)) := by
  have : a < b := by
    rcases Nat.lt_or_ge a b with h | h
    · exact h
    · exact absurd (nI_le h ha) c
  rw [decide_eq_true this]; rfl
def sdL (wd p : Nat) : Bool := decide (0 < p % wd)
def sdR (wd p : Nat) : Bool := decide (p % wd < wd - 1)
def sdU (wd p : Nat) : Bool := decide (0 < p / wd)
def sdD (wd hg p : Nat) : Bool := decide (p / wd < hg - 1)
def sdN (wd hg p : Nat) : Nat := bN (sdL wd p) + bN (sdR wd p) + bN (sdU wd p) + bN (sdD wd hg p)
theorem sdN_pos {wd hg p : Nat} (hw : 2 ≤ wd) (hp : p % wd < wd) : 0 < sdN wd hg p ∧ sdN wd hg p ≤ 4 := by
  unfold sdN
  have h4 : ∀ b, bN b ≤ 1 := fun b => by cases b <;> decide
  have h1 := h4 (sdL wd p); have h2 := h4 (sdR wd p); have h3 := h4 (sdU wd p); have h5 := h4 (sdD wd hg p)
  refine ⟨?_, by omega⟩
  by_cases h : 0 < p % wd
  · have : bN (sdL wd p) = 1 := by unfold sdL; rw [decide_eq_true h]; rfl
    omega
  · have h6 : p % wd < wd - 1 := by omega
    have : bN (sdR wd p) = 1 := by unfold sdR; rw [decide_eq_true h6]; rfl
    omega
def cup (b : Bool) (f : Nat → Int32) (i : Nat) (x : Int32) : Nat → Int32 := if b = true then upd f i (f i + x) else f
/-- what a pace gives away to each side -/
def prt (so : Nat → Int32) (wd hg p : Nat) : Int32 := so p / nI 2 / nI (sdN wd hg p)
def sp0 (so : Nat → Int32) (wd hg : Nat) (f : Nat → Int32) (p : Nat) : Nat → Int32 := upd f p (f p + (so p - prt so wd hg p * nI (sdN wd hg p)))
def sp1 (so : Nat → Int32) (wd hg : Nat) (f : Nat → Int32) (p : Nat) : Nat → Int32 :=
  cup (sdD wd hg p) (cup (sdU wd p) (cup (sdR wd p) (cup (sdL wd p) (sp0 so wd hg f p) (p - 1) (prt so wd hg p)) (p + 1) (prt so wd hg p)) (p - wd) (prt so wd hg p)) (p + wd) (prt so wd hg p)
theorem nb_l {wd p : Nat} (h : sdL wd p = true) : 1 ≤ p := by
  have h1 := of_decide_eq_true h
  have := Nat.mod_le p wd
  omega
theorem p_eq (wd p : Nat) : p = p / wd * wd + p % wd := by
  have := Nat.div_add_mod p wd
  rw [Nat.mul_comm] at this
  exact this.symm
theorem nb_r {wd hg p : Nat} (h : sdR wd p = true) (hr : p / wd < hg) : p + 1 < wd * hg := by
  have h1 := of_decide_eq_true h
  have h2 := p_eq wd p
  have h3 := idx_in (r := p / wd) (c := p % wd + 1) (wd := wd) (hg := hg) hr (by omega)
  omega
theorem nb_u {wd p : Nat} (h : sdU wd p = true) : wd ≤ p := by
  have h1 := of_decide_eq_true h
  have h2 := p_eq wd p
  have h3 : 1 * wd ≤ p / wd * wd := Nat.mul_le_mul_right wd h1
  omega
theorem nb_d {wd hg p : Nat} (h : sdD wd hg p = true) (hc : p % wd < wd) : p + wd < wd * hg := by
  have h1 := of_decide_eq_true h
  have h2 := p_eq wd p
  have h3 := idx_in (r := p / wd + 1) (c := p % wd) (wd := wd) (hg := hg) (Nat.add_lt_of_lt_sub h1) hc
  rw [Nat.succ_mul] at h3
  omega
def plo (so : Nat → Int32) (wd hg : Nat) (f : Nat → Int32) : Nat → Nat → Int32
  | 0 => f
  | t + 1 => sp1 so wd hg (plo so wd hg f t) t
/-- lying and spread change places -/
def swB (b : Bool) (ad : Nat → Nat) : Nat → Nat := fun k => if k = 13 then (if b = true then ad 14 else ad 13) else if k = 14 then (if b = true then ad 13 else ad 14) else ad k
def par : Nat → Bool
  | 0 => false
  | d + 1 => !par d
abbrev swN (ad : Nat → Nat) (d : Nat) : Nat → Nat := swB (par d) ad
abbrev swA (ad : Nat → Nat) : Nat → Nat := swB true ad
theorem swB_f (ad : Nat → Nat) : swB false ad = ad := by
  funext k
  unfold swB
  by_cases h : k = 13
  · rw [if_pos h, if_neg (by decide), h]
  · by_cases h2 : k = 14
    · rw [if_neg h, if_pos h2, if_neg (by decide), h2]
    · rw [if_neg h, if_neg h2]
theorem swA_sw (ad : Nat → Nat) (d : Nat) : swA (swN ad d) = swN ad (d + 1) := by
  funext k
  show swB true (swB (par d) ad) k = swB (!par d) ad k
  unfold swB
  by_cases h : k = 13
  · rw [if_pos h, if_pos h, if_pos rfl, if_neg (by decide), if_pos rfl]
    cases par d <;> rfl
  · by_cases h2 : k = 14
    · rw [if_neg h, if_pos h2, if_neg h, if_pos h2, if_pos rfl, if_pos rfl]
      cases par d <;> rfl
    · rw [if_neg h, if_neg h2, if_neg h, if_neg h2, if_neg h, if_neg h2]
theorem oka_swB {ad : Nat → Nat} {A : Nat → Prop} (b : Bool) (h : Oka 39 ad A) : Oka 39 (swB b ad) A := by
  cases b with
  | false => rw [swB_f]; exact h
  | true =>
    have key : ∀ i, i < 39 → ∃ j, j < 39 ∧ swB true ad i = ad j ∧ (i = 13 → j = 14) ∧ (i = 14 → j = 13) ∧ (i ≠ 13 → i ≠ 14 → j = i) := by
      intro i hi
      unfold swB
      by_cases h1 : i = 13
      · exact ⟨14, by omega, by rw [if_pos h1, if_pos rfl], fun _ => rfl, fun z => by omega, fun z => absurd h1 z⟩
      · by_cases h2 : i = 14
        · exact ⟨13, by omega, by rw [if_neg h1, if_pos h2, if_pos rfl], fun z => absurd z h1, fun _ => rfl, fun _ z => absurd h2 z⟩
        · exact ⟨i, hi, by rw [if_neg h1, if_neg h2], fun z => absurd z h1, fun z => absurd z h2, fun _ _ => rfl⟩
    refine ⟨fun i j hi hj e => ?_, fun i hi => ?_⟩
    · obtain ⟨a, a1, a2, a3, a4, a5⟩ := key i hi
      obtain ⟨b, b1, b2, b3, b4, b5⟩ := key j hj
      rw [a2, b2] at e
      have e2 := h.1 a b a1 b1 e
      by_cases i13 : i = 13 <;> by_cases j13 : j = 13 <;> by_cases i14 : i = 14 <;> by_cases j14 : j = 14 <;> simp_all
    · obtain ⟨a, a1, a2, -⟩ := key i hi
      rw [a2]; exact h.2 a a1
abbrev oka_sw {ad : Nat → Nat} {A : Nat → Prop} (h : Oka 39 ad A) (d : Nat) : Oka 39 (swN ad d) A := oka_swB (par d) h
section PS
variable {p : Program} {l : Launch} {e : Env} {R : Room} {s : State} {m : MethodId} {args : Array Value} {below : List Frame} {meth : Method} {c : Code} {cells slots : Nat} {Q : State → Prop}
variable {E : Ev} {A : Nat → Prop} {nL : Nat} {ws ws' : va_W} {pc : Nat} {lv lv' : List (Nat × Value)} {st : List Value} {own : String} {cc : ByteArray} {ret : Option FieldType}
theorem g_ws (h : ∀ q ∈ ws', q ∈ ws) (k : G p l e R s m args below meth c cells slots Q E A nL ws' (pc) lv (st)) : G p l e R s m args below meth c cells slots Q E A nL ws (pc) lv (st) := fun H locs ls h1 h2 h3 => k H locs ls (fun i q hq => by
  obtain ⟨j, hj⟩ := List.getElem?_of_mem (h q (List.mem_of_getElem? hq))
  exact h1 j q hj) h2 h3
end PS
/-- what ploughs begin with -/
def lyv (sz : Int32) (pl : Nat → Int32) (p : Nat) : Int32 := if inx (nI p) sz = true then (if inr (pl p) (nI 0) (nI 9999) = true then pl p else nI 0) else (if inr (nI 0) (nI 0) (nI 9999) = true then nI 0 else nI 0)
def lyf (sz : Int32) (pl f : Nat → Int32) : Nat → Nat → Int32
  | 0 => f
  | t + 1 => upd (lyf sz pl f t) t (lyv sz pl t)
/-- (lying, spread) behind d ploughs -/
def pls (wd hg : Nat) (q : (Nat → Int32) × (Nat → Int32)) : Nat → (Nat → Int32) × (Nat → Int32)
  | 0 => q
  | d + 1 => (plo (pls wd hg q d).1 wd hg (fil (nI 0) (pls wd hg q d).2 64) (wd * hg), (pls wd hg q d).1)
