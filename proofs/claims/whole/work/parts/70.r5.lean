/-! mixed periods -/
def Nk (nW nF wd : Nat) (ro fw fp fk fm : Nat → Int32) (k : Nat) : Nat → Nat
  | 0 => 0
  | f + 1 => if mtl nW nF ro fw fm (nI (tn (fp f) / wd)) = fw f then (if fk f = nI k then Nk nW nF wd ro fw fp fk fm k f + tn (fm f) else Nk nW nF wd ro fw fp fk fm k f) else Nk nW nF wd ro fw fp fk fm k f
theorem Nk_succ (nW nF wd : Nat) (ro fw fp fk fm : Nat → Int32) (k f : Nat) : Nk nW nF wd ro fw fp fk fm k (f + 1) = if mtl nW nF ro fw fm (nI (tn (fp f) / wd)) = fw f then (if fk f = nI k then Nk nW nF wd ro fw fp fk fm k f + tn (fm f) else Nk nW nF wd ro fw fp fk fm k f) else Nk nW nF wd ro fw fp fk fm k f := rfl
theorem sm_one {f g : Nat → Int32} {R N : Nat} {c : Int32} (h : ∀ r, r < N → r ≠ R → f r = g r) (hR : f R = g R + c) : ∀ n, n ≤ N → R < n → sm f n = sm g n + c
  | 0, _, h0 => absurd h0 (Nat.not_lt_zero R)
  | n + 1, hN, hn => by
    rw [sm, sm]
    by_cases e : n = R
    · subst e
      rw [sm_cong (fun k hk => h k (by omega) (by omega)), hR, Int32.add_assoc]
    · rw [sm_one h hR n (by omega) (by omega), h n (by omega) e, iac]
theorem cfo_sm (n : Int32) (nW : Nat) (ro su : Nat → Int32) (k : Nat) : ∀ r, cfo n nW ro su k r = sm (fun r => smo n su (ctel nW ro su (nI r)) k) r
  | 0 => rfl
  | r + 1 => by
    show cfo n nW ro su k r + _ = _
    rw [cfo_sm n nW ro su k r]; rfl
section M
variable {wd hg nW nF : Nat} {ro fw fp fk fm su ta so wk : Nat → Int32}
theorem Nk_le (hF : Fin_ wd hg nW nF ro fw fp fk fm) (k : Nat) : ∀ n, n ≤ nF → Nk nW nF wd ro fw fp fk fm k n ≤ 99 * n
  | 0, _ => Nat.le_refl 0
  | n + 1, h => by
    have ih := Nk_le hF k n (by omega)
    obtain ⟨w, p, q, m, h1, h2, h3, h4, h5, h6, h7, h8, h9, h10⟩ := hF n (by omega)
    have em : tn (fm n) = m := by rw [h9, tn, nI_clamp (by omega)]
    rw [Nk_succ, em]
    split
    · split <;> omega
    · omega
theorem msk_sum (hF : Fin_ wd hg nW nF ro fw fp fk fm) (hW : nW ≤ 60) (hwd : 2 ≤ wd) (hh : hg ≤ 8) (hm : wd * hg ≤ 64) (k : Nat) : ∀ n, n ≤ nF → sm (fun r => msk fw fk fm (mtl nW nF ro fw fm (nI r)) (nI k) n) hg = nI (Nk nW nF wd ro fw fp fk fm k n)
  | 0, _ => by
    rw [show (fun r => msk fw fk fm (mtl nW nF ro fw fm (nI r)) (nI k) 0) = (fun _ => (0 : Int32)) from rfl, sm_0]; rfl
  | n + 1, h => by
    have ih := msk_sum hF hW hwd hh hm k n (by omega)
    obtain ⟨w, p, q, m, h1, h2, h3, h4, h5, h6, h7, h8, h9, h10⟩ := hF n (by omega)
    have hr := row_lt h2 hwd
    have ep : tn (fp n) = p := by rw [h7, tn, nI_clamp (by omega)]
    have em : tn (fm n) = m := by rw [h9, tn, nI_clamp (by omega)]
    rw [Nk_succ, ep, em]
    have key := sm_one (f := fun r => msk fw fk fm (mtl nW nF ro fw fm (nI r)) (nI k) (n + 1)) (g := fun r => msk fw fk fm (mtl nW nF ro fw fm (nI r)) (nI k) n) (R := p / wd) (c := if mtl nW nF ro fw fm (nI (p / wd)) = fw n then (if fk n = nI k then fm n else 0) else 0) (N := hg) (fun r hrN hrn => by
      show msk _ _ _ _ _ (n + 1) = _
      rw [msk_succ]
      rw [if_neg (fun z => hrn (nI_inj (by omega) (by omega) ((mtl_row hW (show w < 2 ^ 31 by omega) (by rw [← h6]; exact z.symm)).symm.trans h10)))]) (by
      show msk _ _ _ _ _ (n + 1) = _
      rw [msk_succ]
      by_cases e1 : mtl nW nF ro fw fm (nI (p / wd)) = fw n
      · rw [if_pos e1.symm, if_pos e1]
        split
        · rfl
        · exact (i0 _).symm
      · rw [if_neg (fun z => e1 z.symm), if_neg e1]; exact (i0 _).symm) hg (Nat.le_refl _) hr
    rw [key, ih]
    by_cases e1 : mtl nW nF ro fw fm (nI (p / wd)) = fw n
    · rw [if_pos e1, if_pos e1]
      split
      · rw [h9, nI_add]
      · exact i0 _
    · rw [if_neg e1, if_neg e1]; exact i0 _
theorem fiL_0 (la : Nat → Int64) : ∀ n k, k < n → fiL la n k = 0
  | 0, k, h => absurd h (Nat.not_lt_zero k)
  | n + 1, k, h => by
    show (if k = n then 0 else fiL la n k) = 0
    split
    · rfl
    · exact fiL_0 la n k (by omega)
theorem cnL_Nk (hF : Fin_ wd hg nW nF ro fw fp fk fm) (la : Nat → Int64) {k : Nat} (hk : k < 4) : ∀ n, n ≤ nF → cnL nW nF wd ro fw fp fk fm (fiL la 4) n k = lN (Nk nW nF wd ro fw fp fk fm k n)
  | 0, _ => fiL_0 la 4 k hk
  | n + 1, h => by
    have ih := cnL_Nk hF la hk n (by omega)
    obtain ⟨w, p, q, m, h1, h2, h3, h4, h5, h6, h7, h8, h9, h10⟩ := hF n (by omega)
    have eq : tn (fk n) = q := by rw [h8, tn, nI_clamp (by omega)]
    have em : tn (fm n) = m := by rw [h9, tn, nI_clamp (by omega)]
    show (if k = tn (fk n) then cnL nW nF wd ro fw fp fk fm (fiL la 4) n (tn (fk n)) + cnv nW nF wd ro fw fp fm n else cnL nW nF wd ro fw fp fk fm (fiL la 4) n k) = _
    rw [Nk_succ, eq, em]
    by_cases e1 : k = q
    · subst e1
      rw [if_pos rfl, ih]
      unfold cnv
      by_cases e2 : mtl nW nF ro fw fm (nI (tn (fp n) / wd)) = fw n
      · rw [if_pos e2, if_pos e2, if_pos h8, h9, nI_l (by omega), lN_add]
      · rw [if_neg e2, if_neg e2]
        exact lN_add _ 0
    · rw [if_neg e1, ih, if_neg (show ¬ fk n = nI k from fun z => e1 (nI_inj (by omega) (by omega) (z.symm.trans h8)))]
      split <;> rfl
theorem count_eq (hS : Sok su fw fk fm nF) (hF : Fin_ wd hg nW nF ro fw fp fk fm) (hW : nW ≤ 60) (hwd : 2 ≤ wd) (hh : hg ≤ 8) (hm : wd * hg ≤ 64) {k : Nat} (hk : k < 4) : cfo (nI nW) nW ro su k hg = nI (Nk nW nF wd ro fw fp fk fm k nF) := by
  rw [cfo_sm, ← msk_sum hF hW hwd hh hm k nF (Nat.le_refl _)]
  refine sm_cong (fun r hr => ?_)
  rw [ctel_mtl hS hF hW, smo_eq hS hF hW _ hk]
end M
theorem nI_ofI (n : Nat) : nI n = Int32.ofInt (n : Int) := rfl
theorem lN_ofI (n : Nat) : lN n = Int64.ofInt (n : Int) := rfl
theorem dif4 {A x y z : Nat} (hA : A ≤ 400000) (hx : x ≤ 2000) (hy : y ≤ 2000) (hz : z ≤ 2000) : (nI A - nI x - nI y - nI z).toInt64 = lN A - lN x - lN y - lN z ∧ (lN A - lN x - lN y - lN z).toInt = (A : Int) - x - y - z := by
  have e1 : nI A - nI x - nI y - nI z = Int32.ofInt ((A : Int) - x - y - z) := by
    rw [nI_ofI, nI_ofI, nI_ofI, nI_ofI, ← Int32.ofInt_sub, ← Int32.ofInt_sub, ← Int32.ofInt_sub]
  have e2 : lN A - lN x - lN y - lN z = Int64.ofInt ((A : Int) - x - y - z) := by
    rw [lN_ofI, lN_ofI, lN_ofI, lN_ofI, ← Int64.ofInt_sub, ← Int64.ofInt_sub, ← Int64.ofInt_sub]
  have e3 : (Int64.ofInt ((A : Int) - x - y - z)).toInt = (A : Int) - x - y - z := Int64.toInt_ofInt_of_le (by omega) (by omega)
  rw [e1, e2]
  refine ⟨Int64.toInt_inj.mp ?_, e3⟩
  rw [Int32.toInt_toInt64, e3]
  exact Int32.toInt_ofInt_of_le (by omega) (by omega)
theorem sq_add {s v : Int64} {B : Int} (h1 : 0 ≤ s.toInt ∧ s.toInt ≤ B) (h2 : -500000 ≤ v.toInt ∧ v.toInt ≤ 500000) (hB : B ≤ 1000000000000) : 0 ≤ (s + v * v).toInt ∧ (s + v * v).toInt ≤ B + 250000000000 := by
  have h3 : 0 ≤ v.toInt * v.toInt := by
    rcases Int.le_total 0 v.toInt with h | h
    · exact Int.mul_nonneg h h
    · exact Int.mul_nonneg_of_nonpos_of_nonpos h h
  have h4 : v.toInt * v.toInt ≤ 250000000000 := by
    rcases Int.le_total 0 v.toInt with h | h
    · exact Int.le_trans (Int.mul_le_mul h2.2 h2.2 h (by decide)) (by decide)
    · have := Int.mul_le_mul (show -v.toInt ≤ 500000 by omega) (show -v.toInt ≤ 500000 by omega) (show 0 ≤ -v.toInt by omega) (by decide)
      rw [Int.neg_mul_neg] at this
      exact Int.le_trans this (by decide)
  have e : (s + v * v) = Int64.ofInt (s.toInt + v.toInt * v.toInt) := by
    rw [Int64.ofInt_add, Int64.ofInt_mul, Int64.ofInt_toInt, Int64.ofInt_toInt]
  rw [e, Int64.toInt_ofInt_of_le (by omega) (by omega)]
  omega
section F
variable {co pr : Nat → Int32} {la : Nat → Int64} {N : Nat → Nat}
theorem mis_mfa (hc : ∀ k, k < 4 → co k = nI (N k)) (hl : ∀ k, k < 4 → la k = lN (N k)) (hN : ∀ k, k < 4 → N k ≤ 19800) (hp : ∀ i, ∃ n, n ≤ 100 ∧ pr i = nI n) {a b c : Nat} (ha : a ≤ 20) (hb : b ≤ 20) (hcc : c ≤ 20) : ∀ n, n ≤ 4 → mis co pr a b c n = mfa la pr a b c n ∧ 0 ≤ (mfa la pr a b c n).toInt ∧ (mfa la pr a b c n).toInt ≤ n * 250000000000
  | 0, _ => ⟨rfl, by show 0 ≤ (0 : Int64).toInt; decide, by show (0 : Int64).toInt ≤ ((0 : Nat) : Int) * 250000000000; decide⟩
  | n + 1, h => by
    obtain ⟨i1, i2, i3⟩ := mis_mfa hc hl hN hp ha hb hcc n (by omega)
    obtain ⟨p0, q0, r0⟩ := hp n
    obtain ⟨p1, q1, r1⟩ := hp (4 + n)
    obtain ⟨p2, q2, r2⟩ := hp (8 + n)
    have hn := hN n (by omega)
    have b0 : a * p0 ≤ 20 * 100 := Nat.mul_le_mul ha q0
    have b1 : b * p1 ≤ 20 * 100 := Nat.mul_le_mul hb q1
    have b2 : c * p2 ≤ 20 * 100 := Nat.mul_le_mul hcc q2
    obtain ⟨d1, d2⟩ := dif4 (A := 20 * N n) (x := a * p0) (y := b * p1) (z := c * p2) (by omega) (by omega) (by omega) (by omega)
    have e1 : nI 20 * co n - nI a * pr n - nI b * pr (4 + n) - nI c * pr (8 + n) = nI (20 * N n) - nI (a * p0) - nI (b * p1) - nI (c * p2) := by
      rw [hc n (by omega), r0, r1, r2, pk_mul, pk_mul, pk_mul, pk_mul]
    have e2 : mfv la pr a b c n = lN (20 * N n) - lN (a * p0) - lN (b * p1) - lN (c * p2) := by
      unfold mfv
      rw [hl n (by omega), r0, r1, r2, pk_mul, pk_mul, pk_mul, nI_l (by omega), nI_l (by omega), nI_l (by omega), show (20 : Int64) = lN 20 from rfl, lN_mul]
    have e3 : (nI 20 * co n - nI a * pr n - nI b * pr (4 + n) - nI c * pr (8 + n)).toInt64 = mfv la pr a b c n := by rw [e1, d1, e2]
    show mis co pr a b c n + _ * _ = mfa la pr a b c n + _ * _ ∧ 0 ≤ (mfa la pr a b c n + mfv la pr a b c n * mfv la pr a b c n).toInt ∧ (mfa la pr a b c n + mfv la pr a b c n * mfv la pr a b c n).toInt ≤ _
    rw [e3, i1]
    have := sq_add (B := n * 250000000000) ⟨i2, i3⟩ (v := mfv la pr a b c n) (by rw [e2, d2]; omega) (by omega)
    refine ⟨rfl, this.1, ?_⟩
    have h2 := this.2
    rw [Int.natCast_add, Int.add_mul]
    omega
/-- the two searches stand alike -/
def Pk (q : Int64 × (Nat → Int32)) (z : Int64 × Nat × Nat) : Prop := q.1 = z.1 ∧ ¬ q.1 = -1 ∧ q.2 0 = nI z.2.1 ∧ q.2 1 = nI z.2.2 ∧ q.2 2 = nI (20 - z.2.1 - z.2.2) ∧ z.2.1 + z.2.2 ≤ 20
theorem Pk_new {m m' : Int64} {f : Nat → Int32} {a b c : Nat} (h : m = m') (h1 : 0 ≤ m'.toInt) (hs : a + b ≤ 20) (hc : 20 - a - b = c) : Pk (m, upd (upd (upd f 0 (nI a)) 1 (nI b)) 2 (nI c)) (m', a, b) := by
  refine ⟨h, fun z => ?_, ?_, ?_, ?_, hs⟩
  · have e : m = -1 := z
    rw [← h, e] at h1
    exact absurd h1 (by decide)
  · show upd (upd (upd f 0 (nI a)) 1 (nI b)) 2 (nI c) 0 = nI a
    rw [pk_un (by decide), pk_un (by decide), pk_us]
  · show upd (upd (upd f 0 (nI a)) 1 (nI b)) 2 (nI c) 1 = nI b
    rw [pk_un (by decide), pk_us]
  · show upd (upd (upd f 0 (nI a)) 1 (nI b)) 2 (nI c) 2 = nI (20 - a - b)
    rw [pk_us, hc]
theorem skI_mkI (hc : ∀ k, k < 4 → co k = nI (N k)) (hl : ∀ k, k < 4 → la k = lN (N k)) (hN : ∀ k, k < 4 → N k ≤ 19800) (hp : ∀ i, ∃ n, n ≤ 100 ∧ pr i = nI n) {t : Nat} (ht : t ≤ 20) {q : Int64 × (Nat → Int32)} {z : Int64 × Nat × Nat} (hq : Pk q z) : ∀ u, u ≤ t + 1 → Pk (skI co pr t q u) (mkI la pr t z u)
  | 0, _ => hq
  | u + 1, h => by
    have ih := skI_mkI hc hl hN hp ht hq u (by omega)
    obtain ⟨m1, m2, -⟩ := mis_mfa hc hl hN hp (show 20 - t ≤ 20 by omega) (show t - u ≤ 20 by omega) (show u ≤ 20 by omega) 4 (Nat.le_refl _)
    rw [skI_succ, mkI_succ, if_neg (fun e => ih.2.1 ((lg_cmp_eq _ _).mp e)), m1, ih.1]
    by_cases e : 0 ≤ lg_cmp (mfa la pr (20 - t) (t - u) u 4) (mkI la pr t z u).1
    · rw [if_pos e, if_pos e]; exact ih
    · rw [if_neg e, if_neg e]; exact Pk_new rfl m2 (by omega) (by omega)
theorem skO_mkO (hc : ∀ k, k < 4 → co k = nI (N k)) (hl : ∀ k, k < 4 → la k = lN (N k)) (hN : ∀ k, k < 4 → N k ≤ 19800) (hp : ∀ i, ∃ n, n ≤ 100 ∧ pr i = nI n) (f : Nat → Int32) : ∀ t, t ≤ 20 → Pk (skO co pr f (t + 1)) (mkO la pr (t + 1))
  | 0, _ => by
    obtain ⟨m1, m2, -⟩ := mis_mfa hc hl hN hp (show 20 ≤ 20 by omega) (show 0 ≤ 20 by omega) (show 0 ≤ 20 by omega) 4 (Nat.le_refl _)
    show Pk (skI co pr 0 (-1, f) (0 + 1)) (mkI la pr 0 (mfa la pr 20 0 0 4, 20, 0) (0 + 1))
    rw [skI_succ, mkI_succ, if_pos (show lg_cmp (skI co pr 0 (-1, f) 0).fst (-1) = 0 from (lg_cmp_eq _ _).mpr rfl), if_pos (show 0 ≤ lg_cmp (mfa la pr (20 - 0) (0 - 0) 0 4) (mkI la pr 0 (mfa la pr 20 0 0 4, 20, 0) 0).fst from (lg_cmp_ge _ _).mpr (Int64.le_refl _))]
    exact Pk_new m1 m2 (by decide) rfl
  | t + 1, h => skI_mkI hc hl hN hp (by omega) (skO_mkO hc hl hN hp f t (by omega)) (t + 1 + 1) (Nat.le_refl _)
end F
