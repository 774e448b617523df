/-! strings and the reader of leaves -/
def chS (i k : Nat) : Int32 := (bytS.getD i []).getD k 0 &&& nI 255
theorem lenS_le : ∀ i, i < 6 → lenS.getD i 0 ≤ 4 ∧ 2 ≤ lenS.getD i 0 := by decide
def allB (p : Nat → Bool) : Nat → Bool
  | 0 => true
  | n + 1 => if allB p n = true then p n else false
theorem allB_t {p : Nat → Bool} : ∀ {n : Nat}, (∀ k, k < n → p k = true) → allB p n = true
  | 0, _ => rfl
  | n + 1, h => by rw [allB, if_pos (allB_t (fun k hk => h k (by omega)))]; exact h n (by omega)
theorem allB_f {p : Nat → Bool} {i : Nat} (h : p i = false) : ∀ {n : Nat}, i < n → allB p n = false
  | 0, h2 => absurd h2 (Nat.not_lt_zero i)
  | n + 1, h2 => by
    rcases Nat.lt_or_ge i n with q | q
    · rw [allB, if_neg (by rw [allB_f h q]; decide)]
    · have e : i = n := by omega
      subst e
      rw [allB, h]
      split <;> rfl
/-- the next place that is no blank; the next one that is -/
def nb (f : Nat → Int32) : Nat → Nat → Nat
  | 0, j => j
  | k + 1, j => if f j &&& nI 255 = nI 32 then nb f k (j + 1) else j
def nw (f : Nat → Int32) : Nat → Nat → Nat
  | 0, j => j
  | k + 1, j => if f j &&& nI 255 = nI 32 then j else nw f k (j + 1)
theorem nb_b {f : Nat → Int32} {L i : Nat} (h : i < L) (c : f i &&& nI 255 = nI 32) : nb f (L - i) i = nb f (L - (i + 1)) (i + 1) := by
  rw [show L - i = (L - (i + 1)) + 1 by omega, nb, if_pos c]
theorem nb_x {f : Nat → Int32} {L i : Nat} (h : i < L) (c : ¬ f i &&& nI 255 = nI 32) : nb f (L - i) i = i := by
  rw [show L - i = (L - (i + 1)) + 1 by omega, nb, if_neg c]
theorem nb_e {f : Nat → Int32} {L : Nat} : nb f (L - L) L = L := by rw [Nat.sub_self]; rfl
theorem nw_b {f : Nat → Int32} {L i : Nat} (h : i < L) (c : ¬ f i &&& nI 255 = nI 32) : nw f (L - i) i = nw f (L - (i + 1)) (i + 1) := by
  rw [show L - i = (L - (i + 1)) + 1 by omega, nw, if_neg c]
theorem nw_x {f : Nat → Int32} {L i : Nat} (h : i < L) (c : f i &&& nI 255 = nI 32) : nw f (L - i) i = i := by
  rw [show L - i = (L - (i + 1)) + 1 by omega, nw, if_pos c]
theorem nw_e {f : Nat → Int32} {L : Nat} : nw f (L - L) L = L := by rw [Nat.sub_self]; rfl
theorem nb_in (f : Nat → Int32) : ∀ (k j : Nat), j ≤ nb f k j ∧ nb f k j ≤ j + k
  | 0, j => ⟨Nat.le_refl _, Nat.le_refl _⟩
  | k + 1, j => by
    rw [nb]
    split
    · have := nb_in f k (j + 1); omega
    · omega
theorem nw_in (f : Nat → Int32) : ∀ (k j : Nat), j ≤ nw f k j ∧ nw f k j ≤ j + k
  | 0, j => ⟨Nat.le_refl _, Nat.le_refl _⟩
  | k + 1, j => by
    rw [nw]
    split
    · omega
    · have := nw_in f k (j + 1); omega
def gS (f : Nat → Int32) (L e : Nat) : Nat := nb f (L - e) e
def gE (f : Nat → Int32) (L e : Nat) : Nat := nw f (L - gS f L e) (gS f L e)
theorem g_in (f : Nat → Int32) {L e : Nat} (h : e ≤ L) : e ≤ gS f L e ∧ gS f L e ≤ gE f L e ∧ gE f L e ≤ L := by
  have h1 := nb_in f (L - e) e
  have h2 := nw_in f (L - gS f L e) (gS f L e)
  have h3 : gS f L e = nb f (L - e) e := rfl
  have h4 : gE f L e = nw f (L - gS f L e) (gS f L e) := rfl
  omega
/-- start, end, fault -/
abbrev Rq : Type := Nat × Nat × Int32
def rdok (L : Nat) (q : Rq) : Prop := q.1 ≤ q.2.1 ∧ q.2.1 ≤ L
def goT (f : Nat → Int32) (L : Nat) (q : Rq) : Rq := (gS f L q.2.1, gE f L q.2.1, q.2.2)
theorem goT_ok {f : Nat → Int32} {L : Nat} {q : Rq} (h : rdok L q) : rdok L (goT f L q) := by
  have := g_in f h.2
  exact ⟨this.2.1, this.2.2⟩
/-- the word at hand is that of place i -/
def wat (f : Nat → Int32) (q : Rq) (i : Nat) : Bool := if nI (q.2.1 - q.1) = nI (lenS.getD i 0) then allB (fun k => decide (f (q.1 + k) &&& nI 255 = chS i k)) (lenS.getD i 0) else false
def snd (q : Rq) : Bool := decide (q.2.2 = (-1))
def tfl (q : Rq) : Rq := if snd q = true then (q.1, q.2.1, nI q.1) else q
theorem tfl_ok {L : Nat} {q : Rq} (h : rdok L q) : rdok L (tfl q) := by unfold tfl; split <;> exact h
def exT (f : Nat → Int32) (L i : Nat) (q : Rq) : Rq := if snd q = true then (if wat f q i = true then goT f L q else tfl q) else tfl q
theorem exT_ok {f : Nat → Int32} {L i : Nat} {q : Rq} (h : rdok L q) : rdok L (exT f L i q) := by
  unfold exT
  split
  · split
    · exact goT_ok h
    · exact tfl_ok h
  · exact tfl_ok h
def dig (f : Nat → Int32) (i : Nat) : Int32 := (f i &&& nI 255) - nI 48
def bdd (f : Nat → Int32) (i : Nat) : Bool := if dig f i < 0 then true else if dig f i ≤ nI 9 then false else true
def vac (f : Nat → Int32) (s : Nat) : Nat → Int32
  | 0 => nI 0
  | k + 1 => mnI (vac f s k * nI 10 + dig f (s + k)) 100000
def vah (f : Nat → Int32) (q : Rq) : Int32 := if q.1 < q.2.1 then (if allB (fun k => !bdd f (q.1 + k)) (q.2.1 - q.1) = true then vac f q.1 (q.2.1 - q.1) else (-1)) else (-1)
def enO (f : Nat → Int32) (a b : Int32) (q : Rq) : Bool := if snd q = true then (if vah f q < a then false else if b < vah f q then false else true) else false
def enT (f : Nat → Int32) (L : Nat) (a b : Int32) (q : Rq) : Rq := if enO f a b q = true then goT f L q else tfl q
def enV (f : Nat → Int32) (a b : Int32) (q : Rq) : Int32 := if enO f a b q = true then vah f q else nI 0
theorem enT_ok {f : Nat → Int32} {L : Nat} {a b : Int32} {q : Rq} (h : rdok L q) : rdok L (enT f L a b q) := by
  unfold enT
  split
  · exact goT_ok h
  · exact tfl_ok h
/-- A to B -/
def spT (f : Nat → Int32) (L : Nat) (m : Int32) (q : Rq) : Rq := enT f L (enV f (nI 0) m q) m (exT f L 1 (enT f L (nI 0) m q))
def spA (f : Nat → Int32) (m : Int32) (q : Rq) : Int32 := enV f (nI 0) m q
def spB (f : Nat → Int32) (L : Nat) (m : Int32) (q : Rq) : Int32 := enV f (enV f (nI 0) m q) m (exT f L 1 (enT f L (nI 0) m q))
theorem spT_ok {f : Nat → Int32} {L : Nat} {m : Int32} {q : Rq} (h : rdok L q) : rdok L (spT f L m q) := enT_ok (exT_ok (enT_ok h))
def dyO (f : Nat → Int32) (i : Nat) (q : Rq) : Bool := if snd q = true then wat f q i else false
def dyT (f : Nat → Int32) (L : Nat) (q : Rq) : Rq := if dyO f 2 q = true then spT f L (nI 400) (goT f L q) else q
def dyA (f : Nat → Int32) (L : Nat) (q : Rq) : Int32 := if dyO f 2 q = true then spA f (nI 400) (goT f L q) else nI 0
def dyB (f : Nat → Int32) (L : Nat) (q : Rq) : Int32 := if dyO f 2 q = true then spB f L (nI 400) (goT f L q) else nI 400
theorem dyT_ok {f : Nat → Int32} {L : Nat} {q : Rq} (h : rdok L q) : rdok L (dyT f L q) := by
  unfold dyT
  split
  · exact spT_ok (goT_ok h)
  · exact h
/-- but who: walker, barred, reader -/
abbrev Bq : Type := Int32 × Int32 × Rq
def b0 (f : Nat → Int32) (L : Nat) (q : Rq) : Bq := (enV f (nI 0) (nI 4) (exT f L 4 (goT f L q)), nI 1 <<< (enV f (nI 0) (nI 4) (exT f L 4 (goT f L q)) &&& 31), enT f L (nI 0) (nI 4) (exT f L 4 (goT f L q)))
def b1 (f : Nat → Int32) (L : Nat) (z : Bq) : Bq := (enV f (z.1 + nI 1) (nI 4) (goT f L z.2.2), z.2.1 ||| (nI 1 <<< (enV f (z.1 + nI 1) (nI 4) (goT f L z.2.2) &&& 31)), enT f L (z.1 + nI 1) (nI 4) (goT f L z.2.2))
def bS (f : Nat → Int32) (L : Nat) (z : Bq) : Nat → Bq
  | 0 => z
  | t + 1 => if dyO f 5 (bS f L z t).2.2 = true then b1 f L (bS f L z t) else bS f L z t
theorem bS_succ (f : Nat → Int32) (L : Nat) (z : Bq) (t : Nat) : bS f L z (t + 1) = if dyO f 5 (bS f L z t).2.2 = true then b1 f L (bS f L z t) else bS f L z t := rfl
theorem bS_stay {f : Nat → Int32} {L : Nat} {z : Bq} {t : Nat} (h : dyO f 5 (bS f L z t).2.2 = false) : ∀ k, bS f L z (t + k) = bS f L z t
  | 0 => rfl
  | k + 1 => by
    have ih := bS_stay h k
    rw [show t + (k + 1) = (t + k) + 1 from rfl, bS_succ, ih, if_neg (by rw [h]; decide)]
theorem b0_ok {f : Nat → Int32} {L : Nat} {q : Rq} (h : rdok L q) : rdok L (b0 f L q).2.2 := enT_ok (exT_ok (goT_ok h))
theorem bS_ok {f : Nat → Int32} {L : Nat} {z : Bq} (h : rdok L z.2.2) : ∀ t, rdok L (bS f L z t).2.2
  | 0 => h
  | t + 1 => by
    rw [bS_succ]
    split
    · exact enT_ok (goT_ok (bS_ok h t))
    · exact bS_ok h t
def bwO (f : Nat → Int32) (q : Rq) : Bool := dyO f 3 q
def bwT (f : Nat → Int32) (L : Nat) (q : Rq) : Rq := if dyO f 3 q = true then (bS f L (b0 f L q) 5).2.2 else q
def bwB (f : Nat → Int32) (L : Nat) (q : Rq) : Int32 := if dyO f 3 q = true then (bS f L (b0 f L q) 5).2.1 else nI 0
theorem bwT_ok {f : Nat → Int32} {L : Nat} {q : Rq} (h : rdok L q) : rdok L (bwT f L q) := by
  unfold bwT
  split
  · exact bS_ok (b0_ok h) 5
  · exact h
def rd0 (f : Nat → Int32) (L : Nat) : Rq := goT f L (0, 0, (-1))
def rd1 (f : Nat → Int32) (L : Nat) : Rq := exT f L 0 (rd0 f L)
def rd2 (f : Nat → Int32) (L : Nat) : Rq := spT f L (nI 7) (rd1 f L)
def rd3 (f : Nat → Int32) (L : Nat) : Rq := dyT f L (rd2 f L)
def rd4 (f : Nat → Int32) (L : Nat) : Rq := bwT f L (rd3 f L)
def rd5 (f : Nat → Int32) (L : Nat) : Rq := if nI L ≤ nI (rd4 f L).1 then rd4 f L else tfl (rd4 f L)
theorem rd0_ok (f : Nat → Int32) (L : Nat) : rdok L (rd0 f L) := goT_ok ⟨Nat.le_refl _, Nat.zero_le _⟩
theorem rd4_ok (f : Nat → Int32) (L : Nat) : rdok L (rd4 f L) := bwT_ok (dyT_ok (spT_ok (exT_ok (rd0_ok f L))))
/-- ones in a long -/
def bc1 (x : Int64) : Int64 := x - ((x.toUInt64 >>> ((nI 1 : Int32).toInt64.toUInt64 &&& Int64.toUInt64 63)).toInt64 &&& 6148914691236517205)
def bc2 (x : Int64) : Int64 := (x &&& 3689348814741910323) + ((x.toUInt64 >>> ((nI 2 : Int32).toInt64.toUInt64 &&& Int64.toUInt64 63)).toInt64 &&& 3689348814741910323)
def bc3 (x : Int64) : Int64 := (x + (x.toUInt64 >>> ((nI 4 : Int32).toInt64.toUInt64 &&& Int64.toUInt64 63)).toInt64) &&& 1085102592571150095
def bc4 (x : Int64) : Int64 := x + (x.toUInt64 >>> ((nI 8 : Int32).toInt64.toUInt64 &&& Int64.toUInt64 63)).toInt64
def bc5 (x : Int64) : Int64 := x + (x.toUInt64 >>> ((nI 16 : Int32).toInt64.toUInt64 &&& Int64.toUInt64 63)).toInt64
def bc6 (x : Int64) : Int64 := x + (x.toUInt64 >>> ((nI 32 : Int32).toInt64.toUInt64 &&& Int64.toUInt64 63)).toInt64
def bct (x : Int64) : Int32 := (bc6 (bc5 (bc4 (bc3 (bc2 (bc1 x)))))).toInt32 &&& nI 127
