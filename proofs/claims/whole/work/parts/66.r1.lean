/-! the two states side by side: sums -/
theorem i0 (x : Int32) : x + nI 0 = x := by
  apply Int32.toBitVec_inj.mp
  show x.toBitVec + 0#32 = x.toBitVec
  exact BitVec.add_zero _
theorem iac (a b c : Int32) : a + b + c = a + c + b := by rw [Int32.add_assoc, Int32.add_comm b c, ← Int32.add_assoc]
/-- finds of a walk and a kind -/
def msk (fw fk fm : Nat → Int32) (x z : Int32) : Nat → Int32
  | 0 => 0
  | f + 1 => if fw f = x then (if fk f = z then msk fw fk fm x z f + fm f else msk fw fk fm x z f) else msk fw fk fm x z f
theorem msk_succ (fw fk fm : Nat → Int32) (x z : Int32) (f : Nat) : msk fw fk fm x z (f + 1) = if fw f = x then (if fk f = z then msk fw fk fm x z f + fm f else msk fw fk fm x z f) else msk fw fk fm x z f := rfl
/-- finds of a walk, a column and a kind -/
def tly (fw fp fk fm : Nat → Int32) (wd : Nat) (x : Int32) (c : Nat) (z : Int32) : Nat → Int32
  | 0 => 0
  | f + 1 => if fw f = x then (if tn (fp f) % wd = c then (if fk f = z then tly fw fp fk fm wd x c z f + fm f else tly fw fp fk fm wd x c z f) else tly fw fp fk fm wd x c z f) else tly fw fp fk fm wd x c z f
theorem tly_succ (fw fp fk fm : Nat → Int32) (wd : Nat) (x : Int32) (c : Nat) (z : Int32) (f : Nat) : tly fw fp fk fm wd x c z (f + 1) = if fw f = x then (if tn (fp f) % wd = c then (if fk f = z then tly fw fp fk fm wd x c z f + fm f else tly fw fp fk fm wd x c z f) else tly fw fp fk fm wd x c z f) else tly fw fp fk fm wd x c z f := rfl
/-- what holds of the first n finds -/
def Fin_ (wd hg nW nF : Nat) (ro fw fp fk fm : Nat → Int32) : Prop := ∀ f, f < nF → ∃ w p k n : Nat, w < nW ∧ p < wd * hg ∧ k < 4 ∧ 1 ≤ n ∧ n ≤ 99 ∧ fw f = nI w ∧ fp f = nI p ∧ fk f = nI k ∧ fm f = nI n ∧ ro w = nI (p / wd)
theorem nI_inj {a b : Nat} (ha : a < 2 ^ 31) (hb : b < 2 ^ 31) (h : nI a = nI b) : a = b := (nI_eq ha hb).mp h
theorem msk4 {nF : Nat} (fw fk fm : Nat → Int32) (x : Int32) (hk : ∀ f, f < nF → ∃ k, k < 4 ∧ fk f = nI k) : ∀ n, n ≤ nF → msk fw fk fm x (nI 0) n + msk fw fk fm x (nI 1) n + msk fw fk fm x (nI 2) n + msk fw fk fm x (nI 3) n = fnd fw fm x n
  | 0, _ => rfl
  | n + 1, h => by
    have ih := msk4 fw fk fm x hk n (by omega)
    rw [fnd_succ, ← ih]
    simp only [msk_succ]
    by_cases h1 : fw n = x
    · simp only [h1, if_true]
      obtain ⟨k, hk4, e⟩ := hk n (by omega)
      rw [e]
      have e0 : ∀ a b : Nat, a < 4 → b < 4 → (nI a = nI b ↔ a = b) := fun a b ha hb => nI_eq (by omega) (by omega)
      rcases (show k = 0 ∨ k = 1 ∨ k = 2 ∨ k = 3 by omega) with rfl | rfl | rfl | rfl
      · simp only [e0, if_true, show ¬ (0 = 1) by decide, show ¬ (0 = 2) by decide, show ¬ (0 = 3) by decide, if_false, show (0:Nat) < 4 by decide, show (1:Nat) < 4 by decide, show (2:Nat) < 4 by decide, show (3:Nat) < 4 by decide]
        rw [iac (msk fw fk fm x (nI 0) n) (fm n), iac (msk fw fk fm x (nI 0) n + _) (fm n), iac (msk fw fk fm x (nI 0) n + _ + _) (fm n)]
      · simp only [e0, if_true, show ¬ (1 = 0) by decide, show ¬ (1 = 2) by decide, show ¬ (1 = 3) by decide, if_false, show (0:Nat) < 4 by decide, show (1:Nat) < 4 by decide, show (2:Nat) < 4 by decide, show (3:Nat) < 4 by decide]
        rw [← Int32.add_assoc, iac (msk fw fk fm x (nI 0) n + _) (fm n), iac (msk fw fk fm x (nI 0) n + _ + _) (fm n)]
      · simp only [e0, if_true, show ¬ (2 = 0) by decide, show ¬ (2 = 1) by decide, show ¬ (2 = 3) by decide, if_false, show (0:Nat) < 4 by decide, show (1:Nat) < 4 by decide, show (2:Nat) < 4 by decide, show (3:Nat) < 4 by decide]
        rw [← Int32.add_assoc, iac (msk fw fk fm x (nI 0) n + _ + _) (fm n)]
      · simp only [e0, if_true, show ¬ (3 = 0) by decide, show ¬ (3 = 1) by decide, show ¬ (3 = 2) by decide, if_false, show (0:Nat) < 4 by decide, show (1:Nat) < 4 by decide, show (2:Nat) < 4 by decide, show (3:Nat) < 4 by decide]
        rw [← Int32.add_assoc]
    · simp only [h1, if_false, i0]
/-- kinds that are not coarse -/
def csm (so : Nat → Int32) (m : Nat → Int32) : Nat → Int32
  | 0 => 0
  | j + 1 => if so j = nI 1 then csm so m j else csm so m j + m j
theorem csm_add (so m : Nat → Int32) (j0 : Nat) (v : Int32) : ∀ n, csm so (fun j => if j = j0 then m j + v else m j) n = if j0 < n then (if so j0 = nI 1 then csm so m n else csm so m n + v) else csm so m n
  | 0 => by simp [csm]
  | n + 1 => by
    show (if so n = nI 1 then csm so (fun j => if j = j0 then m j + v else m j) n else csm so (fun j => if j = j0 then m j + v else m j) n + (if n = j0 then m n + v else m n)) = _
    rw [csm_add so m j0 v n]
    show _ = if j0 < n + 1 then (if so j0 = nI 1 then (if so n = nI 1 then csm so m n else csm so m n + m n) else (if so n = nI 1 then csm so m n else csm so m n + m n) + v) else (if so n = nI 1 then csm so m n else csm so m n + m n)
    rcases Nat.lt_trichotomy j0 n with h | h | h
    · simp only [h, if_true, show ¬ n = j0 by omega, if_false, show j0 < n + 1 by omega]
      by_cases h1 : so n = nI 1 <;> by_cases h2 : so j0 = nI 1 <;> simp only [h1, h2, if_true, if_false]
      rw [iac]
    · subst h
      simp only [Nat.lt_irrefl, if_false, if_true, show j0 < j0 + 1 by omega]
      by_cases h1 : so j0 = nI 1
      · simp only [h1, if_true]
      · simp only [h1, if_false]; rw [Int32.add_assoc]
    · simp only [show ¬ j0 < n by omega, show ¬ n = j0 by omega, show ¬ j0 < n + 1 by omega, if_false]
theorem csm_fns {nF : Nat} (so fw fk fm : Nat → Int32) (x : Int32) (hk : ∀ f, f < nF → ∃ k, k < 4 ∧ fk f = nI k) : ∀ n, n ≤ nF → csm so (fun j => msk fw fk fm x (nI j) n) 4 = fns so fw fk fm x n
  | 0, _ => by
    have : ∀ j, csm so (fun j => msk fw fk fm x (nI j) 0) j = 0 := fun j => by
      induction j with
      | zero => rfl
      | succ j ih =>
        show (if so j = nI 1 then _ else _ + 0) = _
        rw [ih]
        split <;> rfl
    exact this 4
  | n + 1, h => by
    have ih := csm_fns so fw fk fm x hk n (by omega)
    rw [fns_succ]
    by_cases h1 : fw n = x
    · rw [if_pos h1]
      obtain ⟨k, hk4, e⟩ := hk n (by omega)
      have e1 : tn (fk n) = k := by rw [e, tn, nI_clamp (by omega)]
      have e2 : ∀ j, j ≤ 4 → csm so (fun j => msk fw fk fm x (nI j) (n + 1)) j = csm so (fun j => if j = k then msk fw fk fm x (nI j) n + fm n else msk fw fk fm x (nI j) n) j := by
        intro j
        induction j with
        | zero => intro _; rfl
        | succ j ih2 =>
          intro hj
          show (if so j = nI 1 then _ else _ + msk fw fk fm x (nI j) (n + 1)) = (if so j = nI 1 then _ else _ + (if j = k then msk fw fk fm x (nI j) n + fm n else msk fw fk fm x (nI j) n))
          rw [ih2 (by omega), msk_succ, if_pos h1, e]
          by_cases hj2 : j = k
          · subst hj2; simp only [if_true]
          · rw [if_neg (fun z => hj2 (nI_inj (by omega) (by omega) z).symm), if_neg hj2]
      rw [e2 4 (by omega), csm_add, if_pos hk4, e1, ih]
      by_cases h2 : so k = nI 1
      · simp only [h2, if_true, i0]
      · simp only [h2, if_false]
    · rw [if_neg h1, i0, ← ih]
      congr 1
      funext j
      rw [msk_succ, if_neg h1]
theorem csn_csm (so su : Nat → Int32) (i : Nat) : ∀ n, csn so su i n = csm so (fun j => su (i * 4 + j)) n
  | 0 => rfl
  | n + 1 => by
    rw [csn_succ, csn_csm so su i n]
    show _ = if so n = nI 1 then _ else _ + su (i * 4 + n)
    by_cases h : so n = nI 1 <;> simp [h]
theorem bst_cong {p q : Nat → Bool} {s t : Nat → Int32} : ∀ {n : Nat}, (∀ k, k < n → p k = q k) → (∀ k, k < n → s k = t k) → bst p s n = bst q t n
  | 0, _, _ => rfl
  | n + 1, h1, h2 => by rw [bst, bst, bst_cong (fun k hk => h1 k (by omega)) (fun k hk => h2 k (by omega)), h1 n (by omega), h2 n (by omega)]
theorem bst_p {p : Nat → Bool} {s : Nat → Int32} : ∀ {n i : Nat}, n < 2 ^ 31 → (bst p s n).1 = nI i → i < 2 ^ 31 → p i = true
  | 0, i, _, h, hi => absurd h.symm (nI_ne_m1 hi)
  | n + 1, i, hn, h, hi => by
    rw [bst] at h
    split at h
    · rename_i hp
      split at h
      · exact bst_p (by omega) h hi
      · rw [← nI_inj (by omega) hi h]; exact hp
    · exact bst_p (by omega) h hi
theorem csm_cong {so m1 m2 : Nat → Int32} : ∀ {n : Nat}, (∀ j, j < n → m1 j = m2 j) → csm so m1 n = csm so m2 n
  | 0, _ => rfl
  | n + 1, h => by
    show (if so n = nI 1 then csm so m1 n else csm so m1 n + m1 n) = (if so n = nI 1 then csm so m2 n else csm so m2 n + m2 n)
    rw [csm_cong (fun j hj => h j (by omega)), h n (by omega)]
/-- sums as they should be -/
def Sok (su fw fk fm : Nat → Int32) (nF : Nat) : Prop := ∀ i j, i < 60 → j < 4 → su (i * 4 + j) = msk fw fk fm (nI i) (nI j) nF
def Tok (ta fw fp fk fm : Nat → Int32) (wd nF : Nat) : Prop := ∀ i c j, i < 60 → c < 8 → j < 4 → ta ((i * 8 + c) * 4 + j) = tly fw fp fk fm wd (nI i) c (nI j) nF
section S
variable {wd hg nW nF : Nat} {ro fw fp fk fm su ta so wk : Nat → Int32}
theorem Fin_.k4 (h : Fin_ wd hg nW nF ro fw fp fk fm) : ∀ f, f < nF → ∃ k, k < 4 ∧ fk f = nI k := fun f hf => by
  obtain ⟨w, p, k, n, h1, h2, h3, h4, h5, h6, h7, h8, h9, h10⟩ := h f hf
  exact ⟨k, h3, h8⟩
theorem Fin_.pc (h : Fin_ wd hg nW nF ro fw fp fk fm) : ∀ f, f < nF → ∃ p, p < wd * hg ∧ fp f = nI p := fun f hf => by
  obtain ⟨w, p, k, n, h1, h2, h3, h4, h5, h6, h7, h8, h9, h10⟩ := h f hf
  exact ⟨p, h2, h7⟩
theorem ctot_fnd (hS : Sok su fw fk fm nF) (hF : Fin_ wd hg nW nF ro fw fp fk fm) {i : Nat} (hi : i < 60) : ctot su i = fnd fw fm (nI i) nF := by
  rw [← msk4 fw fk fm (nI i) hF.k4 nF (Nat.le_refl _), ← hS i 0 hi (by omega), ← hS i 1 hi (by omega), ← hS i 2 hi (by omega), ← hS i 3 hi (by omega)]
  show 0 + su (i * 4 + 0) + su (i * 4 + 1) + su (i * 4 + 2) + su (i * 4 + 3) = _
  rw [show (0 : Int32) + su (i * 4 + 0) = su (i * 4 + 0) from by rw [Int32.add_comm]; exact i0 _]
theorem ctel_mtl (hS : Sok su fw fk fm nF) (hF : Fin_ wd hg nW nF ro fw fp fk fm) (hW : nW ≤ 60) (r : Int32) : ctel nW ro su r = mtl nW nF ro fw fm r := by
  unfold ctel mtl tls tel
  rw [bst_cong (fun _ _ => rfl) (fun k hk => ctot_fnd hS hF (by omega))]
theorem cseen_fns (hS : Sok su fw fk fm nF) (hF : Fin_ wd hg nW nF ro fw fp fk fm) {i : Nat} (hi : i < 60) : cseen so su i = fns so fw fk fm (nI i) nF := by
  unfold cseen
  rw [csn_csm, csm_cong (fun j hj => hS i j hi hj), csm_fns so fw fk fm (nI i) hF.k4 nF (Nat.le_refl _)]
theorem mtl_row (hW : nW ≤ 60) {r i : Nat} (hi : i < 2 ^ 31) (h : mtl nW nF ro fw fm (nI r) = nI i) : ro i = nI r := by
  have := bst_p (n := nW) (by omega) h hi
  exact of_decide_eq_true this
theorem mat_m1 (hF : Fin_ wd hg nW nF ro fw fp fk fm) (hW : nW ≤ 60) (y z : Int32) : ∀ n, n ≤ nF → mat fw fp fk fm (-1) y z n = 0
  | 0, _ => rfl
  | n + 1, h => by
    rw [mat_succ]
    obtain ⟨w, p, k, m, h1, h2, h3, h4, h5, h6, h7, h8, h9, h10⟩ := hF n (by omega)
    rw [if_neg (by rw [h6]; exact nI_ne_m1 (by omega)), mat_m1 hF hW y z n (by omega)]
    rfl
theorem tly_mat (hF : Fin_ wd hg nW nF ro fw fp fk fm) (hW : nW ≤ 60) (hwd : 2 ≤ wd) (hm : wd * hg ≤ 64) {i r c : Nat} (hi : i < 60) (hr : ro i = nI r) (hr64 : r < hg) (hc : c < wd) (z : Int32) : ∀ n, n ≤ nF → tly fw fp fk fm wd (nI i) c z n = mat fw fp fk fm (nI i) (nI (r * wd + c)) z n
  | 0, _ => rfl
  | n + 1, h => by
    rw [tly_succ, mat_succ, tly_mat hF hW hwd hm hi hr hr64 hc z n (by omega)]
    obtain ⟨w, p, k, m, h1, h2, h3, h4, h5, h6, h7, h8, h9, h10⟩ := hF n (by omega)
    by_cases e : fw n = nI i
    · rw [if_pos e, if_pos e]
      have ew : w = i := nI_inj (by omega) (by omega) (h6.symm.trans e)
      subst ew
      have hrow := row_lt h2 hwd
      have hhg : hg ≤ 64 := Nat.le_trans (Nat.le_mul_of_pos_left hg (by omega)) hm
      have er : p / wd = r := nI_inj (by omega) (by omega) (h10.symm.trans hr)
      have hp := p_eq wd p
      rw [er] at hp
      have hidx := idx_in (wd := wd) hr64 hc
      rw [h7, tn, nI_clamp (by omega)]
      by_cases ec : p % wd = c
      · have ep : p = r * wd + c := by omega
        rw [if_pos ec, if_pos (congrArg nI ep)]
        by_cases ek : fk n = z
        · rw [if_pos ek, if_pos ek]
        · rw [if_neg ek, if_neg ek, i0]
      · rw [if_neg ec, if_neg (fun q => ec (by have := nI_inj (by omega) (by omega) q; omega)), i0]
    · rw [if_neg e, if_neg e, i0]
end S
