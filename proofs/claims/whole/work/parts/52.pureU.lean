/-! the reference: the reader of leaves -/
theorem va_upS {α : Type} (f : Nat → α) (i : Nat) : va_up f i (f i) = f := by
  funext k
  unfold va_up
  split
  · rename_i h; first | rw [h] | (have h2 := eq_of_beq h; rw [h2])
  · rfl
theorem upd_self (f : Nat → Int32) (i : Nat) : upd f i (f i) = f := by
  funext k
  by_cases h : k = i
  · rw [h, pk_us]
  · rw [pk_un h]
theorem wat_eq {f : Nat → Int32} (hB : ∀ i, f i &&& nI 255 = f i) (q : Rq) (i : Nat) : wat f q i = if nI (q.2.1 - q.1) = nI (lenS.getD i 0) then allB (fun k => decide (f (q.1 + k) = chS i k)) (lenS.getD i 0) else false := by
  unfold wat
  simp only [hB]
theorem wat_0 {f : Nat → Int32} (hB : ∀ i, f i &&& nI 255 = f i) (q : Rq) : wat f q 0 = if nI (q.2.1 - q.1) = nI 4 then (if f q.1 = nI 114 then (if f (q.1 + 1) = nI 111 then (if f (q.1 + 2) = nI 119 then (if f (q.1 + 3) = nI 115 then true else false) else false) else false) else false) else false := by
  rw [wat_eq hB]
  have e0 : chS 0 0 = nI 114 := by decide
  have e1 : chS 0 1 = nI 111 := by decide
  have e2 : chS 0 2 = nI 119 := by decide
  have e3 : chS 0 3 = nI 115 := by decide
  show (if nI (q.2.1 - q.1) = nI 4 then allB (fun k => decide (f (q.1 + k) = chS 0 k)) 4 else false) = _
  simp only [allB, e0, e1, e2, e3, Nat.add_zero]
  by_cases h0 : f q.1 = nI 114 <;> by_cases h1 : f (q.1 + 1) = nI 111 <;> by_cases h2 : f (q.1 + 2) = nI 119 <;> by_cases h3 : f (q.1 + 3) = nI 115 <;> simp [h0, h1, h2, h3]
theorem wat_1 {f : Nat → Int32} (hB : ∀ i, f i &&& nI 255 = f i) (q : Rq) : wat f q 1 = if nI (q.2.1 - q.1) = nI 2 then (if f q.1 = nI 116 then (if f (q.1 + 1) = nI 111 then true else false) else false) else false := by
  rw [wat_eq hB]
  have e0 : chS 1 0 = nI 116 := by decide
  have e1 : chS 1 1 = nI 111 := by decide
  show (if nI (q.2.1 - q.1) = nI 2 then allB (fun k => decide (f (q.1 + k) = chS 1 k)) 2 else false) = _
  simp only [allB, e0, e1, Nat.add_zero]
  by_cases h0 : f q.1 = nI 116 <;> by_cases h1 : f (q.1 + 1) = nI 111 <;> simp [h0, h1]
theorem wat_2 {f : Nat → Int32} (hB : ∀ i, f i &&& nI 255 = f i) (q : Rq) : wat f q 2 = if nI (q.2.1 - q.1) = nI 4 then (if f q.1 = nI 100 then (if f (q.1 + 1) = nI 97 then (if f (q.1 + 2) = nI 121 then (if f (q.1 + 3) = nI 115 then true else false) else false) else false) else false) else false := by
  rw [wat_eq hB]
  have e0 : chS 2 0 = nI 100 := by decide
  have e1 : chS 2 1 = nI 97 := by decide
  have e2 : chS 2 2 = nI 121 := by decide
  have e3 : chS 2 3 = nI 115 := by decide
  show (if nI (q.2.1 - q.1) = nI 4 then allB (fun k => decide (f (q.1 + k) = chS 2 k)) 4 else false) = _
  simp only [allB, e0, e1, e2, e3, Nat.add_zero]
  by_cases h0 : f q.1 = nI 100 <;> by_cases h1 : f (q.1 + 1) = nI 97 <;> by_cases h2 : f (q.1 + 2) = nI 121 <;> by_cases h3 : f (q.1 + 3) = nI 115 <;> simp [h0, h1, h2, h3]
theorem wat_3 {f : Nat → Int32} (hB : ∀ i, f i &&& nI 255 = f i) (q : Rq) : wat f q 3 = if nI (q.2.1 - q.1) = nI 3 then (if f q.1 = nI 98 then (if f (q.1 + 1) = nI 117 then (if f (q.1 + 2) = nI 116 then true else false) else false) else false) else false := by
  rw [wat_eq hB]
  have e0 : chS 3 0 = nI 98 := by decide
  have e1 : chS 3 1 = nI 117 := by decide
  have e2 : chS 3 2 = nI 116 := by decide
  show (if nI (q.2.1 - q.1) = nI 3 then allB (fun k => decide (f (q.1 + k) = chS 3 k)) 3 else false) = _
  simp only [allB, e0, e1, e2, Nat.add_zero]
  by_cases h0 : f q.1 = nI 98 <;> by_cases h1 : f (q.1 + 1) = nI 117 <;> by_cases h2 : f (q.1 + 2) = nI 116 <;> simp [h0, h1, h2]
theorem wat_4 {f : Nat → Int32} (hB : ∀ i, f i &&& nI 255 = f i) (q : Rq) : wat f q 4 = if nI (q.2.1 - q.1) = nI 3 then (if f q.1 = nI 119 then (if f (q.1 + 1) = nI 104 then (if f (q.1 + 2) = nI 111 then true else false) else false) else false) else false := by
  rw [wat_eq hB]
  have e0 : chS 4 0 = nI 119 := by decide
  have e1 : chS 4 1 = nI 104 := by decide
  have e2 : chS 4 2 = nI 111 := by decide
  show (if nI (q.2.1 - q.1) = nI 3 then allB (fun k => decide (f (q.1 + k) = chS 4 k)) 3 else false) = _
  simp only [allB, e0, e1, e2, Nat.add_zero]
  by_cases h0 : f q.1 = nI 119 <;> by_cases h1 : f (q.1 + 1) = nI 104 <;> by_cases h2 : f (q.1 + 2) = nI 111 <;> simp [h0, h1, h2]
theorem wat_5 {f : Nat → Int32} (hB : ∀ i, f i &&& nI 255 = f i) (q : Rq) : wat f q 5 = if nI (q.2.1 - q.1) = nI 2 then (if f q.1 = nI 111 then (if f (q.1 + 1) = nI 114 then true else false) else false) else false := by
  rw [wat_eq hB]
  have e0 : chS 5 0 = nI 111 := by decide
  have e1 : chS 5 1 = nI 114 := by decide
  show (if nI (q.2.1 - q.1) = nI 2 then allB (fun k => decide (f (q.1 + k) = chS 5 k)) 2 else false) = _
  simp only [allB, e0, e1, Nat.add_zero]
  by_cases h0 : f q.1 = nI 111 <;> by_cases h1 : f (q.1 + 1) = nI 114 <;> simp [h0, h1]
def mva (f : Nat → Int32) (s : Nat) : Nat → Int32
  | 0 => nI 0
  | k + 1 => if nI 10 * mva f s k + f (s + k) - nI 48 ≤ nI 1000 then nI 10 * mva f s k + f (s + k) - nI 48 else nI 1000
theorem mva_succ (f : Nat → Int32) (s k : Nat) : mva f s (k + 1) = if nI 10 * mva f s k + f (s + k) - nI 48 ≤ nI 1000 then nI 10 * mva f s k + f (s + k) - nI 48 else nI 1000 := rfl
def mvh (f : Nat → Int32) (q : Rq) : Int32 := if q.1 < q.2.1 then (if allB (fun k => inr (f (q.1 + k)) (nI 48) (nI 57)) (q.2.1 - q.1) = true then mva f q.1 (q.2.1 - q.1) else (-1)) else (-1)
def mhr (L : Nat) (q : Rq) : Int32 := if nI (q.2.1 - q.1) = 0 then nI L else nI q.1
def mfl (q : Rq) : Int32 := if nI (q.2.1 - q.1) = 0 then (-1) else nI q.1
theorem len0 {a b : Nat} (c : nI (b - a) = 0) (hb : b < 2 ^ 31) : ¬ a < b := fun z => by
  have := (nI_eq (a := b - a) (b := 0) (by omega) (by decide)).mp c
  omega
theorem len1 {a b : Nat} (c : ¬ nI (b - a) = 0) : a < b := by
  rcases Nat.lt_or_ge a b with h | h
  · exact h
  · rw [show b - a = 0 by omega] at c; exact absurd rfl c
def msO (f : Nat → Int32) (L : Nat) (m : Int32) (q : Rq) : Bool := if inr (mvh f (goT f L q)) (nI 0) m = true then (if wat f (goT f L (goT f L q)) 1 = true then inr (mvh f (goT f L (goT f L (goT f L q)))) (mvh f (goT f L q)) m else false) else false
def msT (f : Nat → Int32) (L : Nat) (m : Int32) (q : Rq) : Rq := if inr (mvh f (goT f L q)) (nI 0) m = true then (if wat f (goT f L (goT f L q)) 1 = true then goT f L (goT f L (goT f L q)) else goT f L (goT f L q)) else goT f L q
def msB (f : Nat → Int32) (L : Nat) (m : Int32) (q : Rq) (o : Int32) : Int32 := if inr (mvh f (goT f L q)) (nI 0) m = true then (if wat f (goT f L (goT f L q)) 1 = true then mvh f (goT f L (goT f L (goT f L q))) else o) else o
theorem msT_ok {f : Nat → Int32} {L : Nat} {m : Int32} {q : Rq} (h : rdok L q) : rdok L (msT f L m q) := by
  unfold msT
  split
  · split
    · exact goT_ok (goT_ok (goT_ok h))
    · exact goT_ok (goT_ok h)
  · exact goT_ok h
abbrev Wz : Type := Rq × Int32 × Int32 × Bool
def w1 (f : Nat → Int32) (L : Nat) (z : Wz) : Wz := (goT f L (goT f L z.1), mvh f (goT f L z.1) + nI 1, z.2.2.1 ||| (nI 1 <<< (mvh f (goT f L z.1) &&& 31)), wat f (goT f L (goT f L z.1)) 5)
def wS (f : Nat → Int32) (L : Nat) (z : Wz) : Nat → Wz
  | 0 => z
  | t + 1 => w1 f L (wS f L z t)
def wE (f : Nat → Int32) (L : Nat) : Nat → Wz → Int32 × Rq × Int32
  | 0, z => (0, z.1, z.2.2.1)
  | k + 1, z => if z.2.2.2 = true then (if inr (mvh f (goT f L z.1)) z.2.1 (nI 4) = true then wE f L k (w1 f L z) else (mhr L (goT f L z.1), goT f L z.1, z.2.2.1)) else (mfl z.1, z.1, z.2.2.1)
theorem wS_0 (f : Nat → Int32) (L : Nat) (z : Wz) : wS f L z 0 = z := rfl
theorem wS_succ (f : Nat → Int32) (L : Nat) (z : Wz) (t : Nat) : wS f L z (t + 1) = w1 f L (wS f L z t) := rfl
theorem wE_b {f : Nat → Int32} {L n t : Nat} {z : Wz} (ht : t ≤ n) (c : z.2.2.2 = true) (c2 : inr (mvh f (goT f L z.1)) z.2.1 (nI 4) = true) : wE f L (n + 1 - t) z = wE f L (n + 1 - (t + 1)) (w1 f L z) := by
  rw [show n + 1 - t = (n + 1 - (t + 1)) + 1 by omega, wE, if_pos c, if_pos c2]
theorem wE_r {f : Nat → Int32} {L n t : Nat} {z : Wz} (ht : t ≤ n) (c : z.2.2.2 = true) (c2 : inr (mvh f (goT f L z.1)) z.2.1 (nI 4) = false) : wE f L (n + 1 - t) z = (mhr L (goT f L z.1), goT f L z.1, z.2.2.1) := by
  rw [show n + 1 - t = (n + 1 - (t + 1)) + 1 by omega, wE, if_pos c, if_neg (ne_true_of_eq_false c2)]
theorem wE_x {f : Nat → Int32} {L n t : Nat} {z : Wz} (ht : t ≤ n) (c : z.2.2.2 = false) : wE f L (n + 1 - t) z = (mfl z.1, z.1, z.2.2.1) := by
  rw [show n + 1 - t = (n + 1 - (t + 1)) + 1 by omega, wE, if_neg (ne_true_of_eq_false c)]
theorem wle {w le : Int32} {t : Nat} (h : ∃ a, t ≤ a ∧ a ≤ 5 ∧ le = nI a) (c : inr w le (nI 4) = true) : ∃ a, t + 1 ≤ a ∧ a ≤ 5 ∧ w + nI 1 = nI a := by
  obtain ⟨a, h1, h2, rfl⟩ := h
  obtain ⟨j, h3, h4, rfl⟩ := inr_of (by decide) c (by omega)
  exact ⟨j + 1, by omega, by omega, nI_add j 1⟩
def rB (f : Nat → Int32) (L : Nat) (q : Rq) (n : Int32) : Int32 × Rq × Int32 := if wat f q 3 = true then (if wat f (goT f L q) 4 = true then wE f L 6 (goT f L q, nI 0, n, wat f q 3) else (mhr L (goT f L q), goT f L q, n)) else wE f L 6 (q, nI 0, n, wat f q 3)
abbrev Az : Type := Int32 × Rq × Int32 × Int32 × Int32
/-- fault, state, not, first day, last day -/
def rA (f : Nat → Int32) (L : Nat) (q : Rq) (n d1 d2 o : Int32) : Az :=
  if wat f (goT f L q) 2 = true then
    (if msO f L (nI 400) (goT f L q) = true then ((rB f L (goT f L (msT f L (nI 400) (goT f L q))) n).1, (rB f L (goT f L (msT f L (nI 400) (goT f L q))) n).2.1, (rB f L (goT f L (msT f L (nI 400) (goT f L q))) n).2.2, mvh f (goT f L (goT f L q)), msB f L (nI 400) (goT f L q) o)
    else (mhr L (msT f L (nI 400) (goT f L q)), msT f L (nI 400) (goT f L q), n, d1, d2))
  else ((rB f L (goT f L q) n).1, (rB f L (goT f L q) n).2.1, (rB f L (goT f L q) n).2.2, d1, d2)
def rAa (f : Nat → Int32) (L : Nat) (q : Rq) (o : Int32) : Int32 := if wat f (goT f L q) 2 = true then mvh f (goT f L (goT f L q)) else o
def rAb (f : Nat → Int32) (L : Nat) (q : Rq) (o : Int32) : Int32 := if wat f (goT f L q) 2 = true then msB f L (nI 400) (goT f L q) o else o
section GQ
variable {p : Program} {l : Launch} {e : Env} {R : Room} {s : State} {m : MethodId} {args : Array Value} {below : List Frame} {meth : Method} {c : Code} {cells slots : Nat}
variable {E : Ev} {A : Nat → Prop} {nL : Nat} {ws w w' : va_W} {pc : Nat} {lv : List (Nat × Value)} {st : List Value} {v v' : Option Value}
theorem g_q (hv : v' = v) (hw : w' = w) (k : G p l e R s m args below meth c cells slots (MQ below (Qz E A v' w') args s cells slots A) E A nL ws (pc) lv (st)) : G p l e R s m args below meth c cells slots (MQ below (Qz E A v w) args s cells slots A) E A nL ws (pc) lv (st) := by
  subst hv; subst hw; exact k
end GQ
def asd (f : Nat → Int32) (a b c d e : Int32) : Nat → Int32 := upd (upd (upd (upd (upd f 0 a) 1 b) 2 c) 3 d) 4 e
theorem asd_0 (f : Nat → Int32) (a b c d e : Int32) : asd f a b c d e 0 = a ∧ asd f a b c d e 1 = b ∧ asd f a b c d e 2 = c ∧ asd f a b c d e 3 = d ∧ asd f a b c d e 4 = e := ⟨rfl, rfl, rfl, rfl, rfl⟩
