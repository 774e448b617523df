/-! numbers and ranges -/
def inr (x a b : Int32) : Bool := !decide (x < a) && !decide (b < x)
def inx (x n : Int32) : Bool := !decide (x < 0) && !decide (n ≤ x)
theorem inx_of {x : Int32} {n : Nat} (hn : n < 2 ^ 31) (h : inx x (nI n) = true) : ∃ j : Nat, j < n ∧ x = nI j := by
  simp only [inx, Bool.and_eq_true, Bool.not_eq_true', decide_eq_false_iff_not] at h
  rcases pk_ix x hn with h1 | h1 | h1
  · exact absurd h1 h.1
  · exact absurd h1 h.2
  · exact h1
theorem inx_nI {j n : Nat} (hj : j < n) (hn : n < 2 ^ 31) : inx (nI j) (nI n) = true := by
  simp only [inx, Bool.and_eq_true, Bool.not_eq_true', decide_eq_false_iff_not]
  exact ⟨nI_pos (by omega), nI_ge hj hn⟩
theorem inr_of {x : Int32} {a b : Nat} (hb : b < 2 ^ 31) (h : inr x (nI a) (nI b) = true) (ha : a < 2 ^ 31) : ∃ j : Nat, a ≤ j ∧ j ≤ b ∧ x = nI j := by
  simp only [inr, Bool.and_eq_true, Bool.not_eq_true', decide_eq_false_iff_not] at h
  have h0 : ¬ x < 0 := fun z => h.1 (by
    rw [Int32.lt_iff_toInt_lt] at z ⊢
    rw [nI_toInt ha]
    have : (0 : Int32).toInt = 0 := rfl
    omega)
  obtain ⟨j, hj, rfl⟩ := nI_of h0
  refine ⟨j, ?_, ?_, rfl⟩
  · rcases Nat.lt_or_ge j a with q | q
    · exact absurd (nI_lt q ha) h.1
    · exact q
  · rcases Nat.lt_or_ge b j with q | q
    · exact absurd (nI_lt q hj) h.2
    · exact q
theorem inr_nI {j a b : Nat} (h1 : a ≤ j) (h2 : j ≤ b) (hb : b < 2 ^ 31) : inr (nI j) (nI a) (nI b) = true := by
  simp only [inr, Bool.and_eq_true, Bool.not_eq_true', decide_eq_false_iff_not]
  exact ⟨nI_nlt h1 (by omega), nI_nlt h2 hb⟩
theorem tsw_b {x : Int32} {n : Int} (h : ∀ k : Nat, (k : Int) ≤ n → ¬ x = nI k) (hn : n < 2147483648) : x.toInt < 0 ∨ n < x.toInt := by
  by_cases h0 : x.toInt < 0
  · exact Or.inl h0
  · by_cases h1 : n < x.toInt
    · exact Or.inr h1
    · refine absurd ?_ (h x.toInt.toNat (by omega))
      apply Int32.toInt_inj.mp
      rw [nI_toInt (by omega)]
      omega
theorem tsw_out4 {x : Int32} (c0 : ¬ x = 0) (c1 : ¬ x = 1) (c2 : ¬ x = 2) (c3 : ¬ x = 3) : x.toInt < 0 ∨ 3 < x.toInt := tsw_b (fun k hk => by
  rcases (show k = 0 ∨ k = 1 ∨ k = 2 ∨ k = 3 by omega) with rfl | rfl | rfl | rfl
  · exact c0
  · exact c1
  · exact c2
  · exact c3) (by decide)
theorem tsw_out3 {x : Int32} (c0 : ¬ x = 0) (c1 : ¬ x = 1) (c2 : ¬ x = 2) : x.toInt < 0 ∨ 2 < x.toInt := tsw_b (fun k hk => by
  rcases (show k = 0 ∨ k = 1 ∨ k = 2 by omega) with rfl | rfl | rfl
  · exact c0
  · exact c1
  · exact c2) (by decide)
theorem tsw_out5 {x : Int32} (c0 : ¬ x = 0) (c1 : ¬ x = 1) (c2 : ¬ x = 2) (c3 : ¬ x = 3) (c4 : ¬ x = 4) : x.toInt < 0 ∨ 4 < x.toInt := tsw_b (fun k hk => by
  rcases (show k = 0 ∨ k = 1 ∨ k = 2 ∨ k = 3 ∨ k = 4 by omega) with rfl | rfl | rfl | rfl | rfl
  · exact c0
  · exact c1
  · exact c2
  · exact c3
  · exact c4) (by decide)
theorem tsw_out8 {x : Int32} (c0 : ¬ x = 0) (c1 : ¬ x = 1) (c2 : ¬ x = 2) (c3 : ¬ x = 3) (c4 : ¬ x = 4) (c5 : ¬ x = 5) (c6 : ¬ x = 6) (c7 : ¬ x = 7) : x.toInt < 0 ∨ 7 < x.toInt := tsw_b (fun k hk => by
  rcases (show k = 0 ∨ k = 1 ∨ k = 2 ∨ k = 3 ∨ k = 4 ∨ k = 5 ∨ k = 6 ∨ k = 7 by omega) with rfl | rfl | rfl | rfl | rfl | rfl | rfl | rfl
  · exact c0
  · exact c1
  · exact c2
  · exact c3
  · exact c4
  · exact c5
  · exact c6
  · exact c7) (by decide)
/-- the sum of the first n -/
def sm (f : Nat → Int32) : Nat → Int32
  | 0 => 0
  | n + 1 => sm f n + f n
theorem sm_cong {f g : Nat → Int32} : ∀ {n : Nat}, (∀ k, k < n → f k = g k) → sm f n = sm g n
  | 0, _ => rfl
  | n + 1, h => by rw [sm, sm, sm_cong (fun k hk => h k (by omega)), h n (by omega)]
/-- of the first n the one with the greatest number among those that are told; of several the first -/
def bst (p : Nat → Bool) (t : Nat → Int32) : Nat → Int32 × Int32
  | 0 => (-1, -1)
  | n + 1 => if p n = true then (if t n ≤ (bst p t n).2 then bst p t n else (nI n, t n)) else bst p t n
theorem nI0e : nI 0 = 0 := rfl
theorem nI1e : nI 1 = 1 := rfl
def mxI (x y : Int32) : Int32 := if x < y then y else x
def mnI (x y : Int32) : Int32 := if y < x then y else x
def fil (v : Int32) (g : Nat → Int32) (i : Nat) : Nat → Int32 := fun k => if k < i then v else g k
theorem fil_0 (v : Int32) (g : Nat → Int32) : fil v g 0 = g := by funext k; simp [fil]
theorem fil_succ (v : Int32) (g : Nat → Int32) (i : Nat) : upd (fil v g i) i v = fil v g (i + 1) := by
  funext k
  by_cases h : k = i
  · simp [upd, fil, h]
  · by_cases h2 : k < i
    · simp [upd, fil, h, h2, Nat.lt_succ_of_lt h2]
    · simp [upd, fil, h, h2, show ¬ k < i + 1 by omega]
theorem tmx : Cond.code Lib.Math.max.name Lib.Math.max.code 2 (some .int) ∈ gtb := gtb_t 553 (by decide +kernel) (by decide +kernel)
theorem tmn : Cond.code Lib.Math.min.name Lib.Math.min.code 2 (some .int) ∈ gtb := gtb_t 570 (by decide +kernel) (by decide +kernel)
section MM
variable {p : Program} {l : Launch} {e : Env} {R : Room} {s : State} {m : MethodId} {args : Array Value} {below : List Frame} {meth : Method} {c : Code} {cells slots : Nat} {Q : State → Prop} {E : Ev} {A : Nat → Prop} {nL : Nat} {ws ws' : va_W} {pc : Nat} {lv lv' : List (Nat × Value)} {st : List Value} {own : String} {cc : ByteArray} {ret : Option FieldType} {index : Nat}
theorem g_mmax (hc : Cx p s m args meth c E A own cc nL ret) {x y v : Int32} (hl : Cond.methodLink own index Lib.Math.max.name ∈ gtb) (hv : mxI x y = v) (hR : 1 ≤ R.frames ∧ (st.map fun v => v.category).sum + 13 ≤ R.locals) (hcs : cells ≤ R.cells ∧ slots ≤ R.slots) (hd : decode cc pc = .ok (.invokestatic index, 3)) (k : G p l e R s m args below meth c cells slots Q E A nL ws (pc + 3) lv (.int v :: st)) : G p l e R s m args below meth c cells slots Q E A nL ws (pc) lv (.int y :: .int x :: st) := by
  subst hv
  exact fun H locs ls h1 h2 h3 => va_mmax hc.1.1 hc.1.2.1 (hc.1.2.2.1.trans h3.1.symm) hc.1.2.2.2.1 (hc.1.2.2.2.2 _ hl) (hc.1.2.2.2.2 _ tw_552) (hc.1.2.2.2.2 _ tw_15) (hc.1.2.2.2.2 _ tmx) hR.1 hR.2 hcs.1 hcs.2 hd (k H locs ls h1 h2 h3)
theorem g_mmin (hc : Cx p s m args meth c E A own cc nL ret) {x y v : Int32} (hl : Cond.methodLink own index Lib.Math.min.name ∈ gtb) (hv : mnI x y = v) (hR : 1 ≤ R.frames ∧ (st.map fun v => v.category).sum + 13 ≤ R.locals) (hcs : cells ≤ R.cells ∧ slots ≤ R.slots) (hd : decode cc pc = .ok (.invokestatic index, 3)) (k : G p l e R s m args below meth c cells slots Q E A nL ws (pc + 3) lv (.int v :: st)) : G p l e R s m args below meth c cells slots Q E A nL ws (pc) lv (.int y :: .int x :: st) := by
  subst hv
  exact fun H locs ls h1 h2 h3 => va_mmin hc.1.1 hc.1.2.1 (hc.1.2.2.1.trans h3.1.symm) hc.1.2.2.2.1 (hc.1.2.2.2.2 _ hl) (hc.1.2.2.2.2 _ tw_569) (hc.1.2.2.2.2 _ tw_15) (hc.1.2.2.2.2 _ tmn) hR.1 hR.2 hcs.1 hcs.2 hd (k H locs ls h1 h2 h3)
end MM
