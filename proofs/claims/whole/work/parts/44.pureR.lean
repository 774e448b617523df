/-! the reference: worths and heaps -/
theorem tn_ch {x : Int32} {n : Nat} (h : x = -1 ∨ ∃ i, i < n ∧ x = nI i) (c : 0 ≤ x) (hn : n < 2 ^ 31) : x = nI (tn x) ∧ tn x < n := by
  rcases h with e | h
  · rw [e] at c; exact absurd c (by decide)
  · exact tn_lt h hn
def mcc (so wk fw fp fk fm ey ch : Nat → Int32) (nF wd : Nat) (p j : Nat) : Int32 := mco so wk ey (mcn fw fp fk fm nF (ch (p / wd)) p j) (ch (p / wd)) j
theorem bst_in (p : Nat → Bool) (t : Nat → Int32) : ∀ n, (bst p t n).1 = -1 ∨ ∃ i, i < n ∧ (bst p t n).1 = nI i
  | 0 => Or.inl rfl
  | n + 1 => by
    rw [bst]
    have ih := bst_in p t n
    have ih2 : (bst p t n).1 = -1 ∨ ∃ i, i < n + 1 ∧ (bst p t n).1 = nI i := ih.imp id (fun ⟨i, hi, e⟩ => ⟨i, by omega, e⟩)
    split
    · split
      · exact ih2
      · exact Or.inr ⟨n, by omega, rfl⟩
    · exact ih2
theorem mtl_in (nW nF : Nat) (ro fw fm : Nat → Int32) (r : Int32) : mtl nW nF ro fw fm r = -1 ∨ ∃ i, i < nW ∧ mtl nW nF ro fw fm r = nI i := bst_in _ _ nW
theorem cho_in (nW nF hg : Nat) (ro fw fm f : Nat → Int32) : ∀ r, r < hg → cotI (fun r => mtl nW nF ro fw fm (nI r)) f hg r = -1 ∨ ∃ i, i < nW ∧ cotI (fun r => mtl nW nF ro fw fm (nI r)) f hg r = nI i := fun r hr => by
  rw [cotI_in _ _ hr]; exact mtl_in nW nF ro fw fm (nI r)
