/-! a long's ones -/
theorem dg_and {k a b c d : Nat} (ha : a < 2 ^ k) (hc : c < 2 ^ k) : (a + 2 ^ k * b) &&& (c + 2 ^ k * d) = (a &&& c) + 2 ^ k * (b &&& d) := by
  have hac : a &&& c < 2 ^ k := Nat.lt_of_le_of_lt Nat.and_le_left ha
  apply Nat.eq_of_testBit_eq
  intro i
  rw [Nat.testBit_and, Nat.add_comm a, Nat.add_comm c, Nat.add_comm (a &&& c), Nat.testBit_two_pow_mul_add _ ha, Nat.testBit_two_pow_mul_add _ hc, Nat.testBit_two_pow_mul_add _ hac]
  by_cases h : i < k
  · rw [if_pos h, if_pos h, if_pos h, Nat.testBit_and]
  · rw [if_neg h, if_neg h, if_neg h, Nat.testBit_and]
/-- eight bytes -/
def n8 (a b c d e f g h : Nat) : Nat := a + 256 * (b + 256 * (c + 256 * (d + 256 * (e + 256 * (f + 256 * (g + 256 * h))))))
theorem n8_and {a b c d e f g h : Nat} (m : Nat) (ha : a < 256) (hb : b < 256) (hc : c < 256) (hd : d < 256) (he : e < 256) (hf : f < 256) (hg : g < 256) (hm : m < 256) : n8 a b c d e f g h &&& n8 m m m m m m m m = n8 (a &&& m) (b &&& m) (c &&& m) (d &&& m) (e &&& m) (f &&& m) (g &&& m) (h &&& m) := by
  unfold n8
  rw [show (256 : Nat) = 2 ^ 8 from rfl] at *
  rw [dg_and ha hm, dg_and hb hm, dg_and hc hm, dg_and hd hm, dg_and he hm, dg_and hf hm, dg_and hg hm]
theorem n8_lt {a b c d e f g h : Nat} (ha : a < 256) (hb : b < 256) (hc : c < 256) (hd : d < 256) (he : e < 256) (hf : f < 256) (hg : g < 256) (hh : h < 256) : n8 a b c d e f g h < 18446744073709551616 := by unfold n8; omega
theorem n8_low (a b c d e f g h : Nat) : ∃ X, n8 a b c d e f g h = a + 256 * X := ⟨_, rfl⟩
theorem and_255 {a m : Nat} (hm : m < 256) : a &&& m < 256 := Nat.lt_of_le_of_lt Nat.and_le_right hm
def by1 (a : Nat) : Nat := a - (a / 2 &&& 85)
def by2 (a : Nat) : Nat := (a &&& 51) + (a / 4 &&& 51)
def by3 (a : Nat) : Nat := (a + a / 16) &&& 15
def pc8 (a : Nat) : Nat := a % 2 + a / 2 % 2 + a / 4 % 2 + a / 8 % 2 + a / 16 % 2 + a / 32 % 2 + a / 64 % 2 + a / 128 % 2
set_option maxRecDepth 100000 in
theorem by_ok : ∀ a, a < 256 → (a / 2 &&& 85 ≤ a) ∧ by1 a < 256 ∧ by2 (by1 a) ≤ 68 ∧ by2 (by1 a) % 16 ≤ 4 ∧ by3 (by2 (by1 a)) = pc8 a := by decide +kernel
set_option maxRecDepth 100000 in
theorem sh_1 : ∀ a, a < 256 → ((a / 2 + 128 * 0) &&& 85 = a / 2 &&& 85) ∧ ((a / 2 + 128 * 1) &&& 85 = a / 2 &&& 85) := by decide +kernel
set_option maxRecDepth 100000 in
theorem sh_2 : ∀ a, a < 256 → ((a / 4 + 64 * 0) &&& 51 = a / 4 &&& 51) ∧ ((a / 4 + 64 * 1) &&& 51 = a / 4 &&& 51) ∧ ((a / 4 + 64 * 2) &&& 51 = a / 4 &&& 51) ∧ ((a / 4 + 64 * 3) &&& 51 = a / 4 &&& 51) := by decide +kernel
theorem sh1 {a : Nat} (x : Nat) (h : a < 256) : (a / 2 + 128 * (x % 2)) &&& 85 = a / 2 &&& 85 := by
  rcases (show x % 2 = 0 ∨ x % 2 = 1 by omega) with e | e <;> rw [e]
  · exact (sh_1 a h).1
  · exact (sh_1 a h).2
theorem sh2 {a : Nat} (x : Nat) (h : a < 256) : (a / 4 + 64 * (x % 4)) &&& 51 = a / 4 &&& 51 := by
  rcases (show x % 4 = 0 ∨ x % 4 = 1 ∨ x % 4 = 2 ∨ x % 4 = 3 by omega) with e | e | e | e <;> rw [e]
  · exact (sh_2 a h).1
  · exact (sh_2 a h).2.1
  · exact (sh_2 a h).2.2.1
  · exact (sh_2 a h).2.2.2
theorem and15 (n : Nat) : n &&& 15 = n % 16 := Nat.and_two_pow_sub_one_eq_mod n 4
section N8
variable {a b c d e f g h : Nat}
theorem n8_h1 (ha : a < 256) (hb : b < 256) (hc : c < 256) (hd : d < 256) (he : e < 256) (hf : f < 256) (hg : g < 256) (hh : h < 256) : n8 a b c d e f g h / 2 = n8 (a / 2 + 128 * (b % 2)) (b / 2 + 128 * (c % 2)) (c / 2 + 128 * (d % 2)) (d / 2 + 128 * (e % 2)) (e / 2 + 128 * (f % 2)) (f / 2 + 128 * (g % 2)) (g / 2 + 128 * (h % 2)) (h / 2 + 128 * (0 % 2)) := by unfold n8; omega
theorem n8_h2 (ha : a < 256) (hb : b < 256) (hc : c < 256) (hd : d < 256) (he : e < 256) (hf : f < 256) (hg : g < 256) (hh : h < 256) : n8 a b c d e f g h / 4 = n8 (a / 4 + 64 * (b % 4)) (b / 4 + 64 * (c % 4)) (c / 4 + 64 * (d % 4)) (d / 4 + 64 * (e % 4)) (e / 4 + 64 * (f % 4)) (f / 4 + 64 * (g % 4)) (g / 4 + 64 * (h % 4)) (h / 4 + 64 * (0 % 4)) := by unfold n8; omega
theorem n8_h4 (ha : a < 256) (hb : b < 256) (hc : c < 256) (hd : d < 256) (he : e < 256) (hf : f < 256) (hg : g < 256) (hh : h < 256) : n8 a b c d e f g h / 16 = n8 (a / 16 + 16 * (b % 16)) (b / 16 + 16 * (c % 16)) (c / 16 + 16 * (d % 16)) (d / 16 + 16 * (e % 16)) (e / 16 + 16 * (f % 16)) (f / 16 + 16 * (g % 16)) (g / 16 + 16 * (h % 16)) (h / 16 + 16 * (0 % 16)) := by unfold n8; omega
theorem n8_add {a' b' c' d' e' f' g' h' : Nat} : n8 a b c d e f g h + n8 a' b' c' d' e' f' g' h' = n8 (a + a') (b + b') (c + c') (d + d') (e + e') (f + f') (g + g') (h + h') := by unfold n8; omega
theorem n8_sub {a' b' c' d' e' f' g' h' : Nat} (h1 : a' ≤ a) (h2 : b' ≤ b) (h3 : c' ≤ c) (h4 : d' ≤ d) (h5 : e' ≤ e) (h6 : f' ≤ f) (h7 : g' ≤ g) (h8 : h' ≤ h) : n8 a b c d e f g h - n8 a' b' c' d' e' f' g' h' = n8 (a - a') (b - b') (c - c') (d - d') (e - e') (f - f') (g - g') (h - h') ∧ n8 a' b' c' d' e' f' g' h' ≤ n8 a b c d e f g h := by unfold n8; omega
end N8
theorem lN_bv (n : Nat) : (lN n).toBitVec = BitVec.ofNat 64 n := rfl
theorem lN_nat {n : Nat} (h : n < 18446744073709551616) : (lN n).toBitVec.toNat = n := by rw [lN_bv, BitVec.toNat_ofNat]; exact Nat.mod_eq_of_lt h
theorem lN_e {x : Int64} {n : Nat} (h : x.toBitVec.toNat = n % 18446744073709551616) : x = lN n := by
  apply Int64.toBitVec_inj.mp
  apply BitVec.eq_of_toNat_eq
  rw [h, lN_bv, BitVec.toNat_ofNat]
theorem lN_and {a b : Nat} (ha : a < 18446744073709551616) (hb : b < 18446744073709551616) : lN a &&& lN b = lN (a &&& b) := by
  apply lN_e
  rw [Int64.toBitVec_and, BitVec.toNat_and, lN_nat ha, lN_nat hb, Nat.mod_eq_of_lt (Nat.lt_of_le_of_lt Nat.and_le_left ha)]
theorem cu64 : ∀ k, k < 64 → ((nI k).toInt64.toUInt64 &&& Int64.toUInt64 63) = UInt64.ofNat k := by decide +kernel
theorem lN_shr {n : Nat} (k : Nat) (hn : n < 18446744073709551616) (hk : k < 64) : ((lN n).toUInt64 >>> ((nI k).toInt64.toUInt64 &&& Int64.toUInt64 63)).toInt64 = lN (n / 2 ^ k) := by
  rw [cu64 k hk]
  apply lN_e
  show ((lN n).toUInt64 >>> UInt64.ofNat k).toNat = _
  have h1 : (UInt64.ofNat k).toNat = k := by
    show (BitVec.ofNat 64 k).toNat = k
    rw [BitVec.toNat_ofNat, Nat.mod_eq_of_lt (by omega)]
  have h2 : (lN n).toUInt64.toNat = n := lN_nat hn
  rw [UInt64.toNat_shiftRight, h1, h2, Nat.mod_eq_of_lt hk, Nat.shiftRight_eq_div_pow, Nat.mod_eq_of_lt (Nat.lt_of_le_of_lt (Nat.div_le_self _ _) hn)]
theorem lN_of (x : Int64) : ∃ n, n < 18446744073709551616 ∧ x = lN n := ⟨x.toBitVec.toNat, x.toBitVec.isLt, lN_e (by rw [Nat.mod_eq_of_lt x.toBitVec.isLt])⟩
theorem i32n (x : Int64) : x.toInt32.toBitVec.toNat = x.toBitVec.toNat % 4294967296 := by
  rw [Int64.toBitVec_toInt32, BitVec.signExtend_eq_setWidth_of_le _ (by decide)]
  exact BitVec.toNat_setWidth 32 x.toBitVec
theorem bct_n8 {a b c d e f g h : Nat} (ha : a < 256) (hb : b < 256) (hc : c < 256) (hd : d < 256) (he : e < 256) (hf : f < 256) (hg : g < 256) (hh : h < 256) : bct (lN (n8 a b c d e f g h)) = nI (pc8 a + pc8 b + pc8 c + pc8 d + pc8 e + pc8 f + pc8 g + pc8 h) := by
  have e1 : bc1 (lN (n8 a b c d e f g h)) = lN (n8 (by1 a) (by1 b) (by1 c) (by1 d) (by1 e) (by1 f) (by1 g) (by1 h)) := by
    unfold bc1
    rw [lN_shr 1 (n8_lt ha hb hc hd he hf hg hh) (by decide), show 2 ^ 1 = 2 from rfl, n8_h1 ha hb hc hd he hf hg hh, show (6148914691236517205 : Int64) = lN (n8 85 85 85 85 85 85 85 85) from rfl, lN_and (n8_lt (by omega) (by omega) (by omega) (by omega) (by omega) (by omega) (by omega) (by omega)) (by decide), n8_and 85 (by omega) (by omega) (by omega) (by omega) (by omega) (by omega) (by omega) (by omega), sh1 _ ha, sh1 _ hb, sh1 _ hc, sh1 _ hd, sh1 _ he, sh1 _ hf, sh1 _ hg, sh1 _ hh]
    have k := n8_sub (by_ok a ha).1 (by_ok b hb).1 (by_ok c hc).1 (by_ok d hd).1 (by_ok e he).1 (by_ok f hf).1 (by_ok g hg).1 (by_ok h hh).1
    rw [lN_sub k.2, k.1]
    rfl
  have e2 : ∀ {a b c d e f g h : Nat}, a < 256 → b < 256 → c < 256 → d < 256 → e < 256 → f < 256 → g < 256 → h < 256 → bc2 (lN (n8 a b c d e f g h)) = lN (n8 (by2 a) (by2 b) (by2 c) (by2 d) (by2 e) (by2 f) (by2 g) (by2 h)) := by
    intro a b c d e f g h ha hb hc hd he hf hg hh
    unfold bc2
    rw [lN_shr 2 (n8_lt ha hb hc hd he hf hg hh) (by decide), show 2 ^ 2 = 4 from rfl, n8_h2 ha hb hc hd he hf hg hh, show (3689348814741910323 : Int64) = lN (n8 51 51 51 51 51 51 51 51) from rfl, lN_and (n8_lt ha hb hc hd he hf hg hh) (show n8 51 51 51 51 51 51 51 51 < 18446744073709551616 by decide), lN_and (n8_lt (by omega) (by omega) (by omega) (by omega) (by omega) (by omega) (by omega) (by omega)) (show n8 51 51 51 51 51 51 51 51 < 18446744073709551616 by decide), n8_and 51 ha hb hc hd he hf hg (by omega), n8_and 51 (by omega) (by omega) (by omega) (by omega) (by omega) (by omega) (by omega) (by omega), sh2 _ ha, sh2 _ hb, sh2 _ hc, sh2 _ hd, sh2 _ he, sh2 _ hf, sh2 _ hg, sh2 _ hh, lN_add, n8_add]
    rfl
  have e3 : ∀ {a b c d e f g h : Nat}, (a ≤ 68 ∧ a % 16 ≤ 4) → (b ≤ 68 ∧ b % 16 ≤ 4) → (c ≤ 68 ∧ c % 16 ≤ 4) → (d ≤ 68 ∧ d % 16 ≤ 4) → (e ≤ 68 ∧ e % 16 ≤ 4) → (f ≤ 68 ∧ f % 16 ≤ 4) → (g ≤ 68 ∧ g % 16 ≤ 4) → (h ≤ 68 ∧ h % 16 ≤ 4) → bc3 (lN (n8 a b c d e f g h)) = lN (n8 (by3 a) (by3 b) (by3 c) (by3 d) (by3 e) (by3 f) (by3 g) (by3 h)) := by
    intro a b c d e f g h ha hb hc hd he hf hg hh
    unfold bc3
    rw [lN_shr 4 (n8_lt (by omega) (by omega) (by omega) (by omega) (by omega) (by omega) (by omega) (by omega)) (by decide), show 2 ^ 4 = 16 from rfl, n8_h4 (by omega) (by omega) (by omega) (by omega) (by omega) (by omega) (by omega) (by omega), lN_add, n8_add, show (1085102592571150095 : Int64) = lN (n8 15 15 15 15 15 15 15 15) from rfl, lN_and (n8_lt (by omega) (by omega) (by omega) (by omega) (by omega) (by omega) (by omega) (by omega)) (by decide), n8_and 15 (by omega) (by omega) (by omega) (by omega) (by omega) (by omega) (by omega) (by omega)]
    unfold by3
    simp only [and15]
    congr 1
    congr 1 <;> omega
  unfold bct
  have k := fun x hx => by_ok x hx
  rw [e1, e2 (k a ha).2.1 (k b hb).2.1 (k c hc).2.1 (k d hd).2.1 (k e he).2.1 (k f hf).2.1 (k g hg).2.1 (k h hh).2.1, e3 ⟨(k a ha).2.2.1, (k a ha).2.2.2.1⟩ ⟨(k b hb).2.2.1, (k b hb).2.2.2.1⟩ ⟨(k c hc).2.2.1, (k c hc).2.2.2.1⟩ ⟨(k d hd).2.2.1, (k d hd).2.2.2.1⟩ ⟨(k e he).2.2.1, (k e he).2.2.2.1⟩ ⟨(k f hf).2.2.1, (k f hf).2.2.2.1⟩ ⟨(k g hg).2.2.1, (k g hg).2.2.2.1⟩ ⟨(k h hh).2.2.1, (k h hh).2.2.2.1⟩, (k a ha).2.2.2.2, (k b hb).2.2.2.2, (k c hc).2.2.2.2, (k d hd).2.2.2.2, (k e he).2.2.2.2, (k f hf).2.2.2.2, (k g hg).2.2.2.2, (k h hh).2.2.2.2]
  have p8 : ∀ x, pc8 x ≤ 8 := fun x => by unfold pc8; omega
  have q1 := p8 a; have q2 := p8 b; have q3 := p8 c; have q4 := p8 d; have q5 := p8 e; have q6 := p8 f; have q7 := p8 g; have q8 := p8 h
  generalize pc8 a = a at *; generalize pc8 b = b at *; generalize pc8 c = c at *; generalize pc8 d = d at *; generalize pc8 e = e at *; generalize pc8 f = f at *; generalize pc8 g = g at *; generalize pc8 h = h at *
  have e4 : bc4 (lN (n8 a b c d e f g h)) = lN (n8 (a + b) (b + c) (c + d) (d + e) (e + f) (f + g) (g + h) h) := by
    unfold bc4
    rw [lN_shr 8 (n8_lt (by omega) (by omega) (by omega) (by omega) (by omega) (by omega) (by omega) (by omega)) (by decide), lN_add]
    congr 1
    unfold n8
    omega
  have e5 : bc5 (lN (n8 (a + b) (b + c) (c + d) (d + e) (e + f) (f + g) (g + h) h)) = lN (n8 (a + b + c + d) (b + c + d + e) (c + d + e + f) (d + e + f + g) (e + f + g + h) (f + g + h) (g + h) h) := by
    unfold bc5
    rw [lN_shr 16 (n8_lt (by omega) (by omega) (by omega) (by omega) (by omega) (by omega) (by omega) (by omega)) (by decide), lN_add]
    congr 1
    unfold n8
    omega
  have e6 : bc6 (lN (n8 (a + b + c + d) (b + c + d + e) (c + d + e + f) (d + e + f + g) (e + f + g + h) (f + g + h) (g + h) h)) = lN (n8 (a + b + c + d + e + f + g + h) (b + c + d + e + f + g + h) (c + d + e + f + g + h) (d + e + f + g + h) (e + f + g + h) (f + g + h) (g + h) h) := by
    unfold bc6
    rw [lN_shr 32 (n8_lt (by omega) (by omega) (by omega) (by omega) (by omega) (by omega) (by omega) (by omega)) (by decide), lN_add]
    congr 1
    unfold n8
    omega
  rw [e4, e5, e6]
  apply Int32.toBitVec_inj.mp
  apply BitVec.eq_of_toNat_eq
  rw [Int32.toBitVec_and, BitVec.toNat_and]
  have t1 : (lN (n8 (a + b + c + d + e + f + g + h) (b + c + d + e + f + g + h) (c + d + e + f + g + h) (d + e + f + g + h) (e + f + g + h) (f + g + h) (g + h) h)).toInt32.toBitVec.toNat = n8 (a + b + c + d + e + f + g + h) (b + c + d + e + f + g + h) (c + d + e + f + g + h) (d + e + f + g + h) (e + f + g + h) (f + g + h) (g + h) h % 4294967296 := by
    rw [i32n, lN_nat (n8_lt (show a + b + c + d + e + f + g + h < 256 by omega) (show b + c + d + e + f + g + h < 256 by omega) (show c + d + e + f + g + h < 256 by omega) (show d + e + f + g + h < 256 by omega) (show e + f + g + h < 256 by omega) (show f + g + h < 256 by omega) (show g + h < 256 by omega) (show h < 256 by omega))]
  rw [t1, show (nI 127).toBitVec.toNat = 2 ^ 7 - 1 from rfl, Nat.and_two_pow_sub_one_eq_mod]
  show _ = (BitVec.ofNat 32 (a + b + c + d + e + f + g + h)).toNat
  rw [BitVec.toNat_ofNat]
  obtain ⟨X, hX⟩ := n8_low (a + b + c + d + e + f + g + h) (b + c + d + e + f + g + h) (c + d + e + f + g + h) (d + e + f + g + h) (e + f + g + h) (f + g + h) (g + h) h
  rw [hX]
  clear hX t1 e4 e5 e6 e1 e2 e3 k
  generalize hS : a + b + c + d + e + f + g + h = S
  have hS64 : S ≤ 64 := by omega
  clear hS
  omega
def ctB (p : Nat → Bool) : Nat → Nat
  | 0 => 0
  | n + 1 => ctB p n + (if p n = true then 1 else 0)
theorem ctB_cong {p q : Nat → Bool} : ∀ {n : Nat}, (∀ k, k < n → p k = q k) → ctB p n = ctB q n
  | 0, _ => rfl
  | n + 1, h => by rw [ctB, ctB, ctB_cong (fun k hk => h k (by omega)), h n (by omega)]
theorem ctB_split (p : Nat → Bool) (m : Nat) : ∀ n, ctB p (m + n) = ctB p m + ctB (fun k => p (m + k)) n
  | 0 => rfl
  | n + 1 => by
    show ctB p (m + n) + (if p (m + n) = true then 1 else 0) = ctB p m + (ctB (fun k => p (m + k)) n + (if p (m + n) = true then 1 else 0))
    rw [ctB_split p m n, Nat.add_assoc]
theorem ctB_zero {p : Nat → Bool} : ∀ {n : Nat}, (∀ k, k < n → p k = false) → ctB p n = 0
  | 0, _ => rfl
  | n + 1, h => by rw [ctB, ctB_zero (fun k hk => h k (by omega)), h n (by omega)]; rfl
theorem tb_mod (n k : Nat) : (if n.testBit k = true then 1 else 0) = n / 2 ^ k % 2 := by
  rw [Nat.testBit_eq_decide_div_mod_eq]
  rcases (show n / 2 ^ k % 2 = 0 ∨ n / 2 ^ k % 2 = 1 by omega) with e | e <;> rw [e] <;> rfl
theorem ct_byte (n s : Nat) : ctB (fun k => n.testBit (s + k)) 8 = pc8 (n / 2 ^ s % 256) := by
  show 0 + _ + _ + _ + _ + _ + _ + _ + _ = _
  simp only [tb_mod]
  unfold pc8
  have e : ∀ j, n / 2 ^ (s + j) = n / 2 ^ s / 2 ^ j := fun j => by rw [Nat.pow_add, Nat.div_div_eq_div_mul]
  simp only [e]
  generalize n / 2 ^ s = x
  have h1 : (2 : Nat) ^ 0 = 1 := rfl
  have h2 : (2 : Nat) ^ 1 = 2 := rfl
  have h3 : (2 : Nat) ^ 2 = 4 := rfl
  have h4 : (2 : Nat) ^ 3 = 8 := rfl
  have h5 : (2 : Nat) ^ 4 = 16 := rfl
  have h6 : (2 : Nat) ^ 5 = 32 := rfl
  have h7 : (2 : Nat) ^ 6 = 64 := rfl
  have h8 : (2 : Nat) ^ 7 = 128 := rfl
  simp only [h1, h2, h3, h4, h5, h6, h7, h8]
  omega
theorem bct_ct {n : Nat} (hn : n < 18446744073709551616) : bct (lN n) = nI (ctB (fun k => n.testBit k) 64) := by
  have e : n = n8 (n / 2 ^ 0 % 256) (n / 2 ^ 8 % 256) (n / 2 ^ 16 % 256) (n / 2 ^ 24 % 256) (n / 2 ^ 32 % 256) (n / 2 ^ 40 % 256) (n / 2 ^ 48 % 256) (n / 2 ^ 56 % 256) := by unfold n8; omega
  have k := bct_n8 (a := n / 2 ^ 0 % 256) (b := n / 2 ^ 8 % 256) (c := n / 2 ^ 16 % 256) (d := n / 2 ^ 24 % 256) (e := n / 2 ^ 32 % 256) (f := n / 2 ^ 40 % 256) (g := n / 2 ^ 48 % 256) (h := n / 2 ^ 56 % 256) (by omega) (by omega) (by omega) (by omega) (by omega) (by omega) (by omega) (by omega)
  rw [← e] at k
  rw [k]
  congr 1
  have s : ctB (fun k => n.testBit k) 64 = ctB (fun k => n.testBit (0 + k)) 8 + ctB (fun k => n.testBit (8 + k)) 8 + ctB (fun k => n.testBit (16 + k)) 8 + ctB (fun k => n.testBit (24 + k)) 8 + ctB (fun k => n.testBit (32 + k)) 8 + ctB (fun k => n.testBit (40 + k)) 8 + ctB (fun k => n.testBit (48 + k)) 8 + ctB (fun k => n.testBit (56 + k)) 8 := by
    rw [show (64 : Nat) = 56 + 8 from rfl, ctB_split, show (56 : Nat) = 48 + 8 from rfl, ctB_split, show (48 : Nat) = 40 + 8 from rfl, ctB_split, show (40 : Nat) = 32 + 8 from rfl, ctB_split, show (32 : Nat) = 24 + 8 from rfl, ctB_split, show (24 : Nat) = 16 + 8 from rfl, ctB_split, show (16 : Nat) = 8 + 8 from rfl, ctB_split]
    simp only [Nat.zero_add]
  rw [s, ct_byte, ct_byte, ct_byte, ct_byte, ct_byte, ct_byte, ct_byte, ct_byte]
/-! bits told and changed -/
theorem lg_cmp0 (x : Int64) : lg_cmp x 0 = 0 ↔ x = 0 := lg_cmp_eq x 0
theorem brb_tb {n p : Nat} (hn : n < 18446744073709551616) (hp : p < 64) : brb (lN n) (nI p) = n.testBit p := by
  unfold brb
  rw [lN_shr p hn hp, show (1 : Int64) = lN 1 from rfl, lN_and (Nat.lt_of_le_of_lt (Nat.div_le_self _ _) hn) (by decide), show (1 : Nat) = 2 ^ 1 - 1 from rfl, Nat.and_two_pow_sub_one_eq_mod, Nat.testBit_eq_decide_div_mod_eq]
  show (!decide (lg_cmp (lN (n / 2 ^ p % 2)) 0 = 0)) = _
  rcases (show n / 2 ^ p % 2 = 0 ∨ n / 2 ^ p % 2 = 1 by omega) with e | e <;> rw [e]
  · rw [decide_eq_true ((lg_cmp0 (lN 0)).mpr rfl)]; rfl
  · rw [decide_eq_false (fun z => absurd ((lg_cmp0 (lN 1)).mp z) (by decide))]; rfl
theorem bit1 : ∀ p, p < 64 → ((1 : Int64) <<< ((nI p).toInt64 &&& 63)).toBitVec = BitVec.twoPow 64 p := by decide +kernel
theorem brb_get (b : Int64) {p : Nat} (hp : p < 64) : brb b (nI p) = b.toBitVec.getLsbD p := by
  obtain ⟨n, hn, rfl⟩ := lN_of b
  rw [brb_tb hn hp]
  show _ = (BitVec.ofNat 64 n).getLsbD p
  rw [BitVec.getLsbD_ofNat, decide_eq_true hp]
  simp
theorem dgb_get (b : Int64) {p q : Nat} (z : Bool) (hp : p < 64) (hq : q < 64) : brb (dgb b (nI p) (bI z)) (nI q) = if q = p then z else brb b (nI q) := by
  rw [brb_get _ hq, brb_get _ hq]
  unfold dgb
  have h1 : ∀ j, j < 64 → (-1 : Int64).toBitVec.getLsbD j = true := by decide +kernel
  cases z with
  | false =>
    rw [if_pos (show bI false = 0 from rfl), Int64.toBitVec_and, Int64.toBitVec_xor, bit1 p hp, BitVec.getLsbD_and, BitVec.getLsbD_xor, BitVec.getLsbD_twoPow, h1 q hq]
    by_cases e : q = p
    · subst e; simp [hq]
    · have e2 : ¬ p = q := fun z => e z.symm
      simp [e, e2]
  | true =>
    rw [if_neg (show ¬ bI true = 0 by decide), Int64.toBitVec_or, bit1 p hp, BitVec.getLsbD_or, BitVec.getLsbD_twoPow]
    by_cases e : q = p
    · subst e; simp [hq]
    · have e2 : ¬ p = q := fun z => e z.symm
      simp [e, e2]
theorem brb_0 {p : Nat} (hp : p < 64) : brb 0 (nI p) = false := by rw [brb_get _ hp]; exact BitVec.getLsbD_zero
theorem ems_ct (em : Nat → Int32) : ∀ n, ems em n = nI (ctB (fun p => !decide (em p = 0)) n)
  | 0 => rfl
  | n + 1 => by
    rw [ems_succ, ems_ct em n, ctB]
    by_cases h : em n = 0
    · rw [if_pos h, nI_add]; simp [h]
    · rw [if_neg h, nI_add]; simp [h]
theorem bct_ems {bl : Int64} {em : Nat → Int32} {n : Nat} (hn : n ≤ 64) (h : ∀ p, p < 64 → brb bl (nI p) = !decide (em p = 0)) (h0 : ∀ p, n ≤ p → p < 64 → em p = 0) : bct bl = ems em n := by
  obtain ⟨m, hm, rfl⟩ := lN_of bl
  rw [bct_ct hm, ems_ct, ctB_cong (q := fun p => !decide (em p = 0)) (fun k hk => by rw [← h k hk, brb_tb hm hk])]
  congr 1
  rw [show (64 : Nat) = n + (64 - n) by omega, ctB_split, ctB_zero (n := 64 - n) (fun k hk => by rw [h0 (n + k) (by omega) (by omega)]; rfl)]
  rfl
