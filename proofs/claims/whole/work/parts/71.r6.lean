/-! the reader of leaves: bytes alone count -/
theorem and255 (y : Int32) : ∃ x, x < 256 ∧ y &&& nI 255 = nI x := by
  refine ⟨(y &&& nI 255).toBitVec.toNat, ?_, ?_⟩
  · show (y.toBitVec &&& 255#32).toNat < 256
    rw [BitVec.toNat_and]
    exact Nat.lt_of_le_of_lt Nat.and_le_right (by decide)
  · apply Int32.toBitVec_inj.mp
    show _ = BitVec.ofNat 32 (y &&& nI 255).toBitVec.toNat
    rw [BitVec.ofNat_toNat, BitVec.setWidth_eq]
theorem nx255 {x : Nat} (h : x < 256) : nI x &&& nI 255 = nI x := by
  apply Int32.toBitVec_inj.mp
  show BitVec.ofNat 32 x &&& 255#32 = BitVec.ofNat 32 x
  apply BitVec.eq_of_toNat_eq
  rw [BitVec.toNat_and, BitVec.toNat_ofNat, Nat.mod_eq_of_lt (by omega), show (255#32).toNat = 2 ^ 8 - 1 from rfl, Nat.and_two_pow_sub_one_eq_mod]
  omega
section CG
variable {f g : Nat → Int32}
theorem nb_cg (h : ∀ i, f i &&& nI 255 = g i &&& nI 255) : ∀ k j, nb f k j = nb g k j
  | 0, _ => rfl
  | k + 1, j => by rw [nb, nb, h j, nb_cg h k (j + 1)]
theorem nw_cg (h : ∀ i, f i &&& nI 255 = g i &&& nI 255) : ∀ k j, nw f k j = nw g k j
  | 0, _ => rfl
  | k + 1, j => by rw [nw, nw, h j, nw_cg h k (j + 1)]
theorem goT_cg (h : ∀ i, f i &&& nI 255 = g i &&& nI 255) : goT f = goT g := by
  funext L q
  unfold goT gE gS
  simp only [nb_cg h, nw_cg h]
theorem wat_cg (h : ∀ i, f i &&& nI 255 = g i &&& nI 255) : wat f = wat g := by
  funext q i
  unfold wat
  simp only [h]
theorem dig_cg (h : ∀ i, f i &&& nI 255 = g i &&& nI 255) : dig f = dig g := by
  funext i
  unfold dig
  rw [h]
theorem vac_cg (h : ∀ i, f i &&& nI 255 = g i &&& nI 255) (s : Nat) : ∀ k, vac f s k = vac g s k
  | 0 => rfl
  | k + 1 => by
    show mnI (vac f s k * nI 10 + dig f (s + k)) 100000 = mnI (vac g s k * nI 10 + dig g (s + k)) 100000
    rw [vac_cg h s k, dig_cg h]
theorem vah_cg (h : ∀ i, f i &&& nI 255 = g i &&& nI 255) : vah f = vah g := by
  funext q
  unfold vah bdd
  simp only [vac_cg h, dig_cg h]
theorem exT_cg (h : ∀ i, f i &&& nI 255 = g i &&& nI 255) : exT f = exT g := by
  funext L i q; unfold exT; rw [goT_cg h, wat_cg h]
theorem enO_cg (h : ∀ i, f i &&& nI 255 = g i &&& nI 255) : enO f = enO g := by
  funext a b q; unfold enO; rw [vah_cg h]
theorem enT_cg (h : ∀ i, f i &&& nI 255 = g i &&& nI 255) : enT f = enT g := by
  funext L a b q; unfold enT; rw [enO_cg h, goT_cg h]
theorem enV_cg (h : ∀ i, f i &&& nI 255 = g i &&& nI 255) : enV f = enV g := by
  funext a b q; unfold enV; rw [enO_cg h, vah_cg h]
theorem spT_cg (h : ∀ i, f i &&& nI 255 = g i &&& nI 255) : spT f = spT g := by
  funext L m q; unfold spT; rw [enT_cg h, enV_cg h, exT_cg h]
theorem spA_cg (h : ∀ i, f i &&& nI 255 = g i &&& nI 255) : spA f = spA g := by
  funext m q; unfold spA; rw [enV_cg h]
theorem spB_cg (h : ∀ i, f i &&& nI 255 = g i &&& nI 255) : spB f = spB g := by
  funext L m q; unfold spB; rw [enT_cg h, enV_cg h, exT_cg h]
theorem dyO_cg (h : ∀ i, f i &&& nI 255 = g i &&& nI 255) : dyO f = dyO g := by
  funext i q; unfold dyO; rw [wat_cg h]
theorem dyT_cg (h : ∀ i, f i &&& nI 255 = g i &&& nI 255) : dyT f = dyT g := by
  funext L q; unfold dyT; rw [dyO_cg h, spT_cg h, goT_cg h]
theorem dyA_cg (h : ∀ i, f i &&& nI 255 = g i &&& nI 255) : dyA f = dyA g := by
  funext L q; unfold dyA; rw [dyO_cg h, spA_cg h, goT_cg h]
theorem dyB_cg (h : ∀ i, f i &&& nI 255 = g i &&& nI 255) : dyB f = dyB g := by
  funext L q; unfold dyB; rw [dyO_cg h, spB_cg h, goT_cg h]
theorem b0_cg (h : ∀ i, f i &&& nI 255 = g i &&& nI 255) : b0 f = b0 g := by
  funext L q; unfold b0; rw [enV_cg h, enT_cg h, exT_cg h, goT_cg h]
theorem b1_cg (h : ∀ i, f i &&& nI 255 = g i &&& nI 255) : b1 f = b1 g := by
  funext L q; unfold b1; rw [enV_cg h, enT_cg h, goT_cg h]
theorem bS_cg (h : ∀ i, f i &&& nI 255 = g i &&& nI 255) (L : Nat) (z : Bq) : ∀ t, bS f L z t = bS g L z t
  | 0 => rfl
  | t + 1 => by rw [bS_succ, bS_succ, bS_cg h L z t, dyO_cg h, b1_cg h]
theorem bwT_cg (h : ∀ i, f i &&& nI 255 = g i &&& nI 255) : bwT f = bwT g := by
  funext L q; unfold bwT; rw [dyO_cg h, bS_cg h, b0_cg h]
theorem bwB_cg (h : ∀ i, f i &&& nI 255 = g i &&& nI 255) : bwB f = bwB g := by
  funext L q; unfold bwB; rw [dyO_cg h, bS_cg h, b0_cg h]
theorem rd1_cg (h : ∀ i, f i &&& nI 255 = g i &&& nI 255) : rd1 f = rd1 g := by
  funext L; unfold rd1 rd0; rw [exT_cg h, goT_cg h]
theorem rd2_cg (h : ∀ i, f i &&& nI 255 = g i &&& nI 255) : rd2 f = rd2 g := by
  funext L; unfold rd2; rw [spT_cg h, rd1_cg h]
theorem rd3_cg (h : ∀ i, f i &&& nI 255 = g i &&& nI 255) : rd3 f = rd3 g := by
  funext L; unfold rd3; rw [dyT_cg h, rd2_cg h]
theorem rd4_cg (h : ∀ i, f i &&& nI 255 = g i &&& nI 255) : rd4 f = rd4 g := by
  funext L; unfold rd4; rw [bwT_cg h, rd3_cg h]
theorem rd5_cg (h : ∀ i, f i &&& nI 255 = g i &&& nI 255) : rd5 f = rd5 g := by
  funext L; unfold rd5; rw [rd4_cg h]
end CG
/-! numbers -/
section NU
variable {g : Nat → Int32}
def Byt (g : Nat → Int32) : Prop := ∀ i, ∃ x, x < 256 ∧ g i = nI x
theorem Byt.b (h : Byt g) (i : Nat) : g i &&& nI 255 = g i := by
  obtain ⟨x, hx, e⟩ := h i
  rw [e, nx255 hx]
theorem bdd_inr (h : Byt g) (i : Nat) : (!bdd g i) = inr (g i) (nI 48) (nI 57) ∧ (inr (g i) (nI 48) (nI 57) = true → ∃ d, d ≤ 9 ∧ dig g i = nI d ∧ g i = nI (d + 48)) := by
  obtain ⟨x, hx, e⟩ := h i
  have ed : dig g i = nI x - nI 48 := by unfold dig; rw [h.b, e]
  unfold bdd inr
  rw [ed, e]
  rcases Nat.lt_or_ge x 48 with h1 | h1
  · have c1 : nI x - nI 48 < 0 := pk_sneg (by omega) h1
    rw [if_pos c1, decide_eq_true (nI_lt h1 (by omega))]
    exact ⟨rfl, fun z => by simp at z⟩
  · rw [pk_sub h1, if_neg (nI_pos (by omega)), decide_eq_false (nI_nlt h1 (by omega))]
    rcases Nat.lt_or_ge 57 x with h2 | h2
    · rw [if_neg (fun z => by have := (nI_le_iff (a := x - 48) (b := 9) (by omega) (by omega)).mp z; omega), decide_eq_true (nI_lt h2 (by omega))]
      exact ⟨rfl, fun z => by simp at z⟩
    · rw [if_pos (nI_le (by omega) (by omega)), decide_eq_false (nI_nlt h2 (by omega))]
      exact ⟨rfl, fun _ => ⟨x - 48, by omega, rfl, by rw [show x - 48 + 48 = x by omega]⟩⟩
theorem allB_cg {p q : Nat → Bool} : ∀ {n : Nat}, (∀ k, k < n → p k = q k) → allB p n = allB q n
  | 0, _ => rfl
  | n + 1, h => by rw [allB, allB, allB_cg (fun k hk => h k (by omega)), h n (by omega)]
theorem allB_at {p : Nat → Bool} : ∀ {n : Nat}, allB p n = true → ∀ k, k < n → p k = true
  | 0, _, k, hk => absurd hk (Nat.not_lt_zero k)
  | n + 1, h, k, hk => by
    rw [allB] at h
    split at h
    · rename_i h2
      rcases Nat.lt_or_ge k n with h3 | h3
      · exact allB_at h2 k h3
      · rw [show k = n by omega]; exact h
    · cases h
theorem vac_mva (h : Byt g) (s : Nat) : ∀ n, (∀ k, k < n → inr (g (s + k)) (nI 48) (nI 57) = true) → ∃ V, V ≤ 100000 ∧ vac g s n = nI V ∧ mva g s n = nI (min V 1000)
  | 0, _ => ⟨0, by omega, rfl, rfl⟩
  | n + 1, hk => by
    obtain ⟨V, h1, h2, h3⟩ := vac_mva h s n (fun k hk2 => hk k (by omega))
    obtain ⟨d, d1, d2, d3⟩ := (bdd_inr h (s + n)).2 (hk n (by omega))
    refine ⟨min (V * 10 + d) 100000, by omega, ?_, ?_⟩
    · show mnI (vac g s n * nI 10 + dig g (s + n)) 100000 = _
      rw [h2, d2, pk_mul, nI_add, show (100000 : Int32) = nI 100000 from rfl, mn_nI (by omega) (by omega)]
    · rw [mva_succ, h3, d3, pk_mul, nI_add, pk_sub (by omega)]
      have e : 10 * min V 1000 + (d + 48) - 48 = 10 * min V 1000 + d := by omega
      rw [e]
      by_cases c : 10 * min V 1000 + d ≤ 1000
      · rw [if_pos (nI_le c (by omega))]; congr 1; omega
      · rw [if_neg (fun z => c ((nI_le_iff (by omega) (by omega)).mp z))]; congr 1; omega
theorem num_eq (h : Byt g) (q : Rq) : (vah g q = -1 ∧ mvh g q = -1) ∨ ∃ V, V ≤ 100000 ∧ vah g q = nI V ∧ mvh g q = nI (min V 1000) := by
  unfold vah mvh
  by_cases h1 : q.1 < q.2.1
  · rw [if_pos h1, if_pos h1, allB_cg (q := fun k => inr (g (q.1 + k)) (nI 48) (nI 57)) (fun k _ => (bdd_inr h (q.1 + k)).1)]
    by_cases h2 : allB (fun k => inr (g (q.1 + k)) (nI 48) (nI 57)) (q.2.1 - q.1) = true
    · rw [if_pos h2, if_pos h2]
      exact Or.inr (vac_mva h q.1 _ (allB_at h2))
    · rw [if_neg h2, if_neg h2]; exact Or.inl ⟨rfl, rfl⟩
  · rw [if_neg h1, if_neg h1]; exact Or.inl ⟨rfl, rfl⟩
theorem en_eq (h : Byt g) {q : Rq} (hs : snd q = true) {A B : Nat} (hA : A < 1000) (hB : B < 1000) : enO g (nI A) (nI B) q = inr (mvh g q) (nI A) (nI B) ∧ (inr (mvh g q) (nI A) (nI B) = true → vah g q = mvh g q ∧ ∃ V, A ≤ V ∧ V ≤ B ∧ mvh g q = nI V) := by
  unfold enO inr
  rw [if_pos hs]
  rcases num_eq h q with ⟨e1, e2⟩ | ⟨V, hV, e1, e2⟩
  · rw [e1, e2]
    have c : (-1 : Int32) < nI A := by
      rw [Int32.lt_iff_toInt_lt, nI_toInt (by omega)]
      have : (-1 : Int32).toInt = -1 := by decide
      omega
    rw [if_pos c, decide_eq_true c]
    exact ⟨rfl, fun z => by simp at z⟩
  · rw [e1, e2]
    rcases Nat.lt_or_ge V A with c1 | c1
    · rw [if_pos (nI_lt c1 (by omega)), decide_eq_true (nI_lt (show min V 1000 < A by omega) (by omega))]
      exact ⟨rfl, fun z => by simp at z⟩
    · rw [if_neg (nI_nlt c1 (by omega)), decide_eq_false (nI_nlt (show A ≤ min V 1000 by omega) (by omega))]
      rcases Nat.lt_or_ge B V with c2 | c2
      · rw [if_pos (nI_lt c2 (by omega)), decide_eq_true (nI_lt (show B < min V 1000 by omega) (by omega))]
        exact ⟨rfl, fun z => by simp at z⟩
      · rw [if_neg (nI_nlt c2 (by omega)), decide_eq_false (nI_nlt (show min V 1000 ≤ B by omega) (by omega)), show min V 1000 = V by omega]
        exact ⟨rfl, fun _ => ⟨rfl, V, c1, c2, rfl⟩⟩
end NU
/-! places -/
theorem nb_end (f : Nat → Int32) : ∀ (k j : Nat), nb f k j < j + k → ¬ f (nb f k j) &&& nI 255 = nI 32
  | 0, j, h => by
    exfalso
    have : nb f 0 j = j := rfl
    omega
  | k + 1, j, h => by
    rw [nb] at h ⊢
    split at h
    · rename_i c
      rw [if_pos c]
      exact nb_end f k (j + 1) (by omega)
    · rename_i c
      rw [if_neg c]; exact c
theorem go_here (f : Nat → Int32) {L e : Nat} (h : e ≤ L) : gE f L e - gS f L e = 0 ↔ L ≤ gS f L e := by
  have h1 := g_in f h
  constructor
  · intro hz
    rcases Nat.lt_or_ge (gS f L e) L with h2 | h2
    · exfalso
      have h3 : ¬ f (gS f L e) &&& nI 255 = nI 32 := nb_end f (L - e) e (by show gS f L e < _; omega)
      have h4 : gE f L e = nw f (L - gS f L e) (gS f L e) := rfl
      rw [show L - gS f L e = (L - gS f L e - 1) + 1 by omega, nw, if_neg h3] at h4
      have h5 := nw_in f (L - gS f L e - 1) (gS f L e + 1)
      omega
    · exact h2
  · intro hz; omega
theorem mhr_eq (f : Nat → Int32) {L : Nat} {q : Rq} (hL : L ≤ 60) (h : rdok L q) : mhr L (goT f L q) = nI (goT f L q).1 := by
  have h1 := g_in f h.2
  have h2 := go_here f h.2
  show (if nI (gE f L q.2.1 - gS f L q.2.1) = 0 then nI L else nI (gS f L q.2.1)) = nI (gS f L q.2.1)
  by_cases c : gE f L q.2.1 - gS f L q.2.1 = 0
  · rw [if_pos (by rw [c]; rfl), show gS f L q.2.1 = L by have := h2.mp c; omega]
  · rw [if_neg (nI_ne0 (by omega) (by omega))]
theorem mfl_eq (f : Nat → Int32) {L : Nat} {q : Rq} (hL : L ≤ 60) (h : rdok L q) : mfl (goT f L q) = if nI L ≤ nI (goT f L q).1 then (-1) else nI (goT f L q).1 := by
  have h1 := g_in f h.2
  have h2 := go_here f h.2
  show (if nI (gE f L q.2.1 - gS f L q.2.1) = 0 then (-1) else nI (gS f L q.2.1)) = if nI L ≤ nI (gS f L q.2.1) then (-1) else nI (gS f L q.2.1)
  by_cases c : gE f L q.2.1 - gS f L q.2.1 = 0
  · rw [if_pos (by rw [c]; rfl), if_pos (nI_le (h2.mp c) (by omega))]
  · rw [if_neg (nI_ne0 (by omega) (by omega)), if_neg (fun z => c (h2.mpr ((nI_le_iff (by omega) (by omega)).mp z)))]
/-! states with a fault stay -/
theorem tfl_f {q : Rq} (h : snd q = false) : tfl q = q := by unfold tfl; rw [if_neg (by rw [h]; decide)]
theorem tfl_t {q : Rq} (h : snd q = true) : tfl q = (q.1, q.2.1, nI q.1) := by unfold tfl; rw [if_pos h]
theorem exT_f {f : Nat → Int32} {L i : Nat} {q : Rq} (h : snd q = false) : exT f L i q = q := by unfold exT; rw [if_neg (by rw [h]; decide), tfl_f h]
theorem enO_f {f : Nat → Int32} {a b : Int32} {q : Rq} (h : snd q = false) : enO f a b q = false := by unfold enO; rw [if_neg (by rw [h]; decide)]
theorem enT_f {f : Nat → Int32} {L : Nat} {a b : Int32} {q : Rq} (h : snd q = false) : enT f L a b q = q := by unfold enT; rw [enO_f h, if_neg (by decide), tfl_f h]
theorem spT_f {f : Nat → Int32} {L : Nat} {m : Int32} {q : Rq} (h : snd q = false) : spT f L m q = q := by
  unfold spT
  rw [enT_f (a := nI 0) h, exT_f h, enT_f h]
theorem dyO_f {f : Nat → Int32} {i : Nat} {q : Rq} (h : snd q = false) : dyO f i q = false := by unfold dyO; rw [if_neg (by rw [h]; decide)]
theorem dyT_f {f : Nat → Int32} {L : Nat} {q : Rq} (h : snd q = false) : dyT f L q = q := by unfold dyT; rw [dyO_f h, if_neg (by decide)]
theorem bwT_f {f : Nat → Int32} {L : Nat} {q : Rq} (h : snd q = false) : bwT f L q = q := by unfold bwT; rw [dyO_f h, if_neg (by decide)]
theorem snd_go {f : Nat → Int32} {L : Nat} {q : Rq} (h : snd q = true) : snd (goT f L q) = true := h
theorem snd_nI {a b n : Nat} (h : n < 2 ^ 31) : snd (a, b, nI n) = false := decide_eq_false (nI_ne_m1 h)
