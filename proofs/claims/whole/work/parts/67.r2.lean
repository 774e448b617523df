/-! the two states side by side: counts, leaves, eyes -/
section S
variable {wd hg nW nF : Nat} {ro fw fp fk fm su ta so wk : Nat → Int32}
theorem msk_m1 (hF : Fin_ wd hg nW nF ro fw fp fk fm) (hW : nW ≤ 60) (z : Int32) : ∀ n, n ≤ nF → msk fw fk fm (-1) z n = 0
  | 0, _ => rfl
  | n + 1, h => by
    rw [msk_succ]
    obtain ⟨w, p, k, m, h1, h2, h3, h4, h5, h6, h7, h8, h9, h10⟩ := hF n (by omega)
    rw [if_neg (by rw [h6]; exact nI_ne_m1 (by omega)), msk_m1 hF hW z n (by omega)]
theorem inx_m1 (n : Int32) : inx (-1) n = false := by
  unfold inx
  rw [decide_eq_true (show (-1 : Int32) < 0 by decide)]
  rfl
theorem borne_eq (hT : Tok ta fw fp fk fm wd nF) (hF : Fin_ wd hg nW nF ro fw fp fk fm) (hW : nW ≤ 60) (hwd : 2 ≤ wd) (hw8 : wd ≤ 8) (hm : wd * hg ≤ 64) {r c j : Nat} (hr : r < hg) (hc : c < wd) (hj : j < 4) : brn (nI nW) ta (mtl nW nF ro fw fm (nI r)) c j = mat fw fp fk fm (mtl nW nF ro fw fm (nI r)) (nI (r * wd + c)) (nI j) nF := by
  rcases mtl_in nW nF ro fw fm (nI r) with e | ⟨i, hi, e⟩
  · rw [e, mat_m1 hF hW _ _ nF (Nat.le_refl _), brn, if_neg (by rw [inx_m1]; decide)]
  · have hro := mtl_row hW (by omega) e
    rw [e, brn_nI rfl hW hi, hT i c j (by omega) (by omega) hj, tly_mat hF hW hwd hm (by omega) hro hr hc (nI j) nF (Nat.le_refl _)]
theorem smo_eq (hS : Sok su fw fk fm nF) (hF : Fin_ wd hg nW nF ro fw fp fk fm) (hW : nW ≤ 60) (r : Int32) {j : Nat} (hj : j < 4) : smo (nI nW) su (mtl nW nF ro fw fm r) j = msk fw fk fm (mtl nW nF ro fw fm r) (nI j) nF := by
  rcases mtl_in nW nF ro fw fm r with e | ⟨i, hi, e⟩
  · rw [e, msk_m1 hF hW _ nF (Nat.le_refl _), smo, if_neg (by rw [inx_m1]; decide)]
  · rw [e, smo_nI rfl hW hi, hS i j (by omega) hj]
end S
theorem lok_mok (a b c d e f : Nat → Int32) (x y z : Int32) : lok a b c d e f x y z = mok a b c d e f x y z := by
  funext l
  unfold lok mok cov
  by_cases h1 : f l = 0 <;> by_cases h2 : inr y (a l) (b l) = true <;> by_cases h3 : inr z (c l) (d l) = true <;> simp [h1, h2, h3]
/-! led -/
theorem isub1 (a b : Int32) : a - b + Int32.ofInt (-1) = a - (b + 1) := by
  apply Int32.toBitVec_inj.mp
  show a.toBitVec - b.toBitVec + 4294967295#32 = a.toBitVec - (b.toBitVec + 1#32)
  bv_omega
theorem iwl_iwa (wk pa : Nat → Int32) (x y z : Int32) : ∀ f, iwl wk pa x y z f = z - iwa wk pa x y f
  | 0 => by
    show z = z - 0
    apply Int32.toBitVec_inj.mp
    show z.toBitVec = z.toBitVec - 0#32
    exact (BitVec.sub_zero _).symm
  | f + 1 => by
    rw [iwl_succ, iwa_succ, iwl_iwa wk pa x y z f]
    by_cases h1 : wk f = x <;> by_cases h2 : pa f = y <;> simp only [h1, h2, if_true, if_false, isub1]
theorem isub0 (a b : Int32) : a - b = 0 ↔ b = a := by
  constructor
  · intro h
    have : a.toBitVec - b.toBitVec = 0#32 := congrArg Int32.toBitVec h
    apply Int32.toBitVec_inj.mp
    bv_omega
  · intro h
    rw [h]
    apply Int32.toBitVec_inj.mp
    show a.toBitVec - a.toBitVec = 0#32
    bv_omega
theorem htl_hit (wk pa : Nat → Int32) (x y z : Int32) : htl wk pa x y z = hit wk pa x y z := by
  funext f
  unfold htl hit
  rw [iwl_iwa]
  simp only [isub0]
/-! sums of numbers -/
def nsm (f : Nat → Nat) : Nat → Nat
  | 0 => 0
  | n + 1 => nsm f n + f n
theorem nsm_cong {f g : Nat → Nat} : ∀ {n : Nat}, (∀ k, k < n → f k = g k) → nsm f n = nsm g n
  | 0, _ => rfl
  | n + 1, h => by show nsm f n + f n = nsm g n + g n; rw [nsm_cong (fun k hk => h k (by omega)), h n (by omega)]
theorem nsm_one (f g : Nat → Nat) (w c : Nat) (h : ∀ k, k ≠ w → f k = g k) (hw : f w ≤ g w + c) : ∀ n, nsm f n ≤ nsm g n + (if w < n then c else 0)
  | 0 => by simp [nsm]
  | n + 1 => by
    have ih := nsm_one f g w c h hw n
    show nsm f n + f n ≤ nsm g n + g n + _
    by_cases e : n = w
    · subst e
      simp only [Nat.lt_irrefl, if_false] at ih
      simp only [show n < n + 1 by omega, if_true]
      omega
    · rw [h n e]
      by_cases h2 : w < n
      · simp only [h2, if_true] at ih
        simp only [show w < n + 1 by omega, if_true]
        omega
      · simp only [h2, if_false] at ih
        simp only [show ¬ w < n + 1 by omega, if_false]
        omega
def fnN (so fw fk fm : Nat → Int32) (i : Nat) : Nat → Nat
  | 0 => 0
  | f + 1 => if fw f = nI i then (if so (tn (fk f)) = nI 1 then fnN so fw fk fm i f else fnN so fw fk fm i f + tn (fm f)) else fnN so fw fk fm i f
section S
variable {wd hg nW nF : Nat} {ro fw fp fk fm su ta so wk : Nat → Int32}
theorem fns_fnN (hF : Fin_ wd hg nW nF ro fw fp fk fm) (i : Nat) : ∀ n, n ≤ nF → fns so fw fk fm (nI i) n = nI (fnN so fw fk fm i n)
  | 0, _ => rfl
  | n + 1, h => by
    rw [fns_succ, fns_fnN hF i n (by omega), fnN]
    obtain ⟨w, p, k, m, h1, h2, h3, h4, h5, h6, h7, h8, h9, h10⟩ := hF n (by omega)
    by_cases e1 : fw n = nI i <;> by_cases e2 : so (tn (fk n)) = nI 1 <;> simp only [e1, e2, if_true, if_false, i0]
    rw [h9, tn, nI_clamp (by omega), nI_add]
theorem fnN_sum (hF : Fin_ wd hg nW nF ro fw fp fk fm) (hW : nW ≤ 60) {q : Nat} (hq : q ≤ 60) : ∀ n, n ≤ nF → nsm (fun i => fnN so fw fk fm i n) q ≤ 99 * n
  | 0, _ => by
    have : ∀ q, nsm (fun _ => 0) q = 0 := fun q => by
      induction q with
      | zero => rfl
      | succ q ih => show nsm _ q + 0 = 0; rw [ih]
    rw [show (fun i => fnN so fw fk fm i 0) = (fun _ => 0) from rfl, this]
    omega
  | n + 1, h => by
    have ih := fnN_sum hF hW hq n (by omega)
    obtain ⟨w, p, k, m, h1, h2, h3, h4, h5, h6, h7, h8, h9, h10⟩ := hF n (by omega)
    have key := nsm_one (fun i => if i < 60 then fnN so fw fk fm i (n + 1) else 0) (fun i => if i < 60 then fnN so fw fk fm i n else 0) w 99 (fun i hi => by
      by_cases hi60 : i < 60
      · simp only [hi60, if_true]
        rw [fnN, if_neg (by rw [h6]; exact fun z => hi (nI_inj (by omega) (by omega) z).symm)]
      · simp only [hi60, if_false]) (by
      simp only [show w < 60 by omega, if_true]
      rw [fnN, if_pos h6]
      split
      · omega
      · rw [h9, tn, nI_clamp (by omega)]; omega) q
    have c1 : nsm (fun i => if i < 60 then fnN so fw fk fm i (n + 1) else 0) q = nsm (fun i => fnN so fw fk fm i (n + 1)) q := nsm_cong (fun k hk => by simp only [show k < 60 by omega, if_true])
    have c2 : nsm (fun i => if i < 60 then fnN so fw fk fm i n else 0) q = nsm (fun i => fnN so fw fk fm i n) q := nsm_cong (fun k hk => by simp only [show k < 60 by omega, if_true])
    rw [c1, c2] at key
    split at key <;> omega
end S
/-! eyes -/
theorem mx_le (x y : Int32) : mxI x y = if x ≤ y then y else x := by
  unfold mxI
  by_cases h : x < y
  · rw [if_pos h, if_pos (Int32.le_of_lt h)]
  · rw [if_neg h]
    by_cases h2 : x ≤ y
    · rw [if_pos h2]; exact Int32.le_antisymm h2 (Int32.not_lt.mp h)
    · rw [if_neg h2]
section EY
variable {n : Nat} {F wk ro so su : Nat → Int32} {w : Int32}
theorem hs1_m1s (hF : ∀ i, i < n → cseen so su i = F i) {a : Nat} (ha : a < n) (hw : wk a = w) (s : Int32) : ∀ b, b ≤ n → hs1 so wk ro su a s b = m1s F wk ro w a s b
  | 0, _ => rfl
  | b + 1, h => by
    rw [hs1_succ, m1s_succ, hs1_m1s hF ha hw s b (by omega), hF a ha]
    unfold prb
    rw [hw]
    by_cases e1 : wk b = w
    · rw [if_pos e1, e1]; simp
    · rw [if_neg e1]
      by_cases e2 : ro a = ro b
      · have e3 : ¬ w = wk b := fun z => e1 z.symm
        rw [if_pos e2, if_pos e2, if_neg e3, if_pos rfl]
      · rw [if_neg e2, if_neg e2]; simp
theorem hb1_m1b (hF : ∀ i, i < n → cseen so su i = F i) {a : Nat} (ha : a < n) (hw : wk a = w) (s : Int32) : ∀ b, b ≤ n → hb1 so wk ro su a s b = m1b F wk ro w a s b
  | 0, _ => rfl
  | b + 1, h => by
    rw [hb1_succ, m1b_succ, hb1_m1b hF ha hw s b (by omega), hF a ha, hF b (by omega), mx_le]
    unfold prb
    rw [hw]
    by_cases e1 : wk b = w
    · rw [if_pos e1, e1]; simp
    · rw [if_neg e1]
      by_cases e2 : ro a = ro b
      · have e4 : ¬ w = wk b := fun z => e1 z.symm
        rw [if_pos e2, if_pos e2, if_neg e4, if_pos rfl]
        by_cases e3 : F a ≤ F b <;> simp only [e3, if_true, if_false]
      · rw [if_neg e2, if_neg e2]; simp
theorem hS_m0s (hF : ∀ i, i < n → cseen so su i = F i) : ∀ a, a ≤ n → hS so wk ro su w n a = m0s F wk ro w n a
  | 0, _ => rfl
  | a + 1, h => by
    rw [hS_succ, m0s_succ, hS_m0s hF a (by omega)]
    by_cases e : wk a = w
    · rw [if_pos e, if_pos e, hs1_m1s hF (by omega) e _ n (Nat.le_refl _)]
    · rw [if_neg e, if_neg e]
theorem hB_m0b (hF : ∀ i, i < n → cseen so su i = F i) : ∀ a, a ≤ n → hB so wk ro su w n a = m0b F wk ro w n a
  | 0, _ => rfl
  | a + 1, h => by
    rw [hB_succ, m0b_succ, hB_m0b hF a (by omega)]
    by_cases e : wk a = w
    · rw [if_pos e, if_pos e, hb1_m1b hF (by omega) e _ n (Nat.le_refl _)]
    · rw [if_neg e, if_neg e]
variable {ph : Nat → Nat}
theorem m1s_N (hp : ∀ i, i < n → F i = nI (ph i)) {a : Nat} (ha : a < n) (s : Nat) : ∀ b, b ≤ n → ∃ z, m1s F wk ro w a (nI s) b = nI z ∧ z ≤ s + b * ph a
  | 0, _ => ⟨s, rfl, by omega⟩
  | b + 1, h => by
    obtain ⟨z, e, hz⟩ := m1s_N hp ha s b (by omega)
    rw [m1s_succ, e, Nat.succ_mul]
    split
    · exact ⟨z, rfl, by omega⟩
    · split
      · rw [hp a ha, nI_add]; exact ⟨z + ph a, rfl, by omega⟩
      · exact ⟨z, rfl, by omega⟩
theorem m1b_N (hp : ∀ i, i < n → F i = nI (ph i)) {a : Nat} (ha : a < n) (s : Nat) : ∀ b, b ≤ n → ∃ z, m1b F wk ro w a (nI s) b = nI z ∧ z ≤ s + b * ph a + nsm ph b
  | 0, _ => ⟨s, rfl, by omega⟩
  | b + 1, h => by
    obtain ⟨z, e, hz⟩ := m1b_N hp ha s b (by omega)
    rw [m1b_succ, e, Nat.succ_mul]
    show ∃ z, _ ∧ z ≤ s + (b * ph a + ph a) + (nsm ph b + ph b)
    split
    · exact ⟨z, rfl, by omega⟩
    · split
      · split
        · rw [hp b (by omega), nI_add]; exact ⟨z + ph b, rfl, by omega⟩
        · rw [hp a ha, nI_add]; exact ⟨z + ph a, rfl, by omega⟩
      · exact ⟨z, rfl, by omega⟩
theorem m0s_N (hp : ∀ i, i < n → F i = nI (ph i)) : ∀ a, a ≤ n → ∃ z, m0s F wk ro w n a = nI z ∧ z ≤ n * nsm ph a
  | 0, _ => ⟨0, rfl, by omega⟩
  | a + 1, h => by
    obtain ⟨z, e, hz⟩ := m0s_N hp a (by omega)
    rw [m0s_succ, e]
    show ∃ z, _ ∧ z ≤ n * (nsm ph a + ph a)
    rw [Nat.mul_add]
    split
    · obtain ⟨z2, e2, hz2⟩ := m1s_N (wk := wk) (ro := ro) (w := w) hp (show a < n by omega) z n (Nat.le_refl _)
      exact ⟨z2, e2, by omega⟩
    · exact ⟨z, rfl, by omega⟩
theorem m0b_N (hp : ∀ i, i < n → F i = nI (ph i)) : ∀ a, a ≤ n → ∃ z, m0b F wk ro w n a = nI z ∧ z ≤ n * nsm ph a + a * nsm ph n
  | 0, _ => ⟨0, rfl, by omega⟩
  | a + 1, h => by
    obtain ⟨z, e, hz⟩ := m0b_N hp a (by omega)
    rw [m0b_succ, e]
    show ∃ z, _ ∧ z ≤ n * (nsm ph a + ph a) + (a + 1) * nsm ph n
    rw [Nat.mul_add, Nat.succ_mul]
    split
    · obtain ⟨z2, e2, hz2⟩ := m1b_N (wk := wk) (ro := ro) (w := w) hp (show a < n by omega) z n (Nat.le_refl _)
      exact ⟨z2, e2, by omega⟩
    · exact ⟨z, rfl, by omega⟩
theorem mey_N (hp : ∀ i, i < n → F i = nI (ph i)) (hn : n ≤ 60) (hs : nsm ph n ≤ 19800) : ∃ s b : Nat, m0s F wk ro w n n = nI s ∧ m0b F wk ro w n n = nI b ∧ s ≤ 1188000 ∧ b ≤ 2376000 := by
  obtain ⟨s, e1, h1⟩ := m0s_N (wk := wk) (ro := ro) (w := w) hp n (Nat.le_refl _)
  obtain ⟨b, e2, h2⟩ := m0b_N (wk := wk) (ro := ro) (w := w) hp n (Nat.le_refl _)
  have h3 : n * nsm ph n ≤ 60 * 19800 := Nat.mul_le_mul hn hs
  exact ⟨s, b, e1, e2, by omega, by omega⟩
theorem hund_mey (hF : ∀ i, i < n → cseen so su i = F i) (hp : ∀ i, i < n → F i = nI (ph i)) (hn : n ≤ 60) (hs : nsm ph n ≤ 19800) : hund so wk ro su w n = mey F wk ro n w := by
  obtain ⟨s, b, e1, e2, h1, h2⟩ := mey_N (wk := wk) (ro := ro) (w := w) hp hn hs
  unfold hund mey
  rw [hS_m0s hF n (Nat.le_refl _), hB_m0b hF n (Nat.le_refl _), e1, e2]
  rcases Nat.eq_zero_or_pos b with h | h
  · subst h; rfl
  · rw [if_neg (nI_nle h (by omega)), if_neg (nI_ne0 h (by omega))]
theorem mey_pos (hp : ∀ i, i < n → F i = nI (ph i)) (hn : n ≤ 60) (hs : nsm ph n ≤ 19800) : ∃ e, e < 2 ^ 31 ∧ mey F wk ro n w = nI e := by
  obtain ⟨s, b, e1, e2, h1, h2⟩ := mey_N (wk := wk) (ro := ro) (w := w) hp hn hs
  unfold mey
  rw [e1, e2]
  rcases Nat.eq_zero_or_pos b with h | h
  · subst h; exact ⟨100, by decide, rfl⟩
  · rw [if_neg (nI_ne0 h (by omega)), pk_mul, pk_div (by omega) h (by omega)]
    have : 100 * s / b ≤ 100 * s := Nat.div_le_self _ _
    exact ⟨_, by omega, rfl⟩
end EY
theorem amd_mco {so wk ey : Nat → Int32} {j : Nat} {n w : Int32} {e : Nat} (he : e < 2 ^ 31) (h : ey (tn (wk (tn w))) = nI e) : amd so j n (nI e) = mco so wk ey n w j := by
  unfold amd mco mcv
  rw [h]
  by_cases h1 : n = 0
  · rw [if_pos h1, if_pos h1]
  · rw [if_neg h1, if_neg h1]
    by_cases h2 : so j = nI 1
    · rw [if_pos (decide_eq_true h2), if_pos h2]
    · rw [if_neg (by rw [decide_eq_false h2]; decide), if_neg h2]
      rcases Nat.eq_zero_or_pos e with h3 | h3
      · subst h3; rfl
      · rw [if_neg (nI_nle h3 he), if_neg (nI_ne0 h3 he)]
        unfold mnI
        by_cases h4 : n * nI 100 / nI e ≤ nI 9999
        · rw [if_pos h4, if_neg (Int32.not_lt.mpr h4)]
        · rw [if_neg h4, if_pos (Int32.not_le.mp h4)]
