/-! bytes -/
def bt (x : Int32) (i : Nat) : Bool := x.toBitVec.getLsbD i
theorem b_ext {x y : Int32} (h : ∀ i, i < 32 → bt x i = bt y i) : x = y := Int32.toBitVec_inj.mp (BitVec.eq_of_getLsbD_eq (fun i hi => h i hi))
theorem b_and (x y : Int32) (i : Nat) : bt (x &&& y) i = (bt x i && bt y i) := by unfold bt; rw [Int32.toBitVec_and, BitVec.getLsbD_and]
theorem b_255 : ∀ i, i < 32 → bt (nI 255) i = decide (i < 8) := by decide +kernel
theorem s_l : ∀ n, n < 32 → ((nI n &&& 31).toBitVec.smod 32).toNat = n := by decide +kernel
theorem s_u : ∀ n, n < 32 → (((nI n).toUInt32 &&& Int32.toUInt32 31).toBitVec % 32).toNat = n := by decide +kernel
theorem b_ushr (n : Nat) (hn : n < 32) (x : Int32) (i : Nat) : bt ((x.toUInt32 >>> ((nI n).toUInt32 &&& Int32.toUInt32 31)).toInt32) i = bt x (n + i) := by
  show (x.toUInt32 >>> ((nI n).toUInt32 &&& Int32.toUInt32 31)).toBitVec.getLsbD i = x.toUInt32.toBitVec.getLsbD (n + i)
  rw [UInt32.toBitVec_shiftRight]
  show (x.toUInt32.toBitVec >>> (((nI n).toUInt32 &&& Int32.toUInt32 31).toBitVec % 32).toNat).getLsbD i = _
  rw [s_u n hn, BitVec.getLsbD_ushiftRight]
theorem b_sshr (n : Nat) (hn : n < 32) (x : Int32) {i : Nat} (hi : i < 32) : bt (x >>> (nI n &&& 31)) i = if n + i < 32 then bt x (n + i) else bt x 31 := by
  unfold bt
  rw [Int32.toBitVec_shiftRight]
  show (x.toBitVec.sshiftRight ((nI n &&& 31).toBitVec.smod 32).toNat).getLsbD i = _
  rw [s_l n hn, BitVec.getLsbD_sshiftRight, BitVec.msb_eq_getLsbD_last]
  simp [hi]
theorem bp_b (x : Int32) : x.toInt8.toInt32 &&& nI 255 = x &&& nI 255 := by
  apply Int32.toBitVec_inj.mp
  rw [Int32.toBitVec_and, Int32.toBitVec_and, Int8.toBitVec_toInt32, Int32.toBitVec_toInt8]
  apply BitVec.eq_of_getLsbD_eq
  intro i hi
  rw [BitVec.getLsbD_and, BitVec.getLsbD_and]
  have hm : ∀ i < 32, 8 ≤ i → (nI 255).toBitVec.getLsbD i = false := by decide
  rcases Nat.lt_or_ge i 8 with z | z
  · rw [BitVec.getLsbD_signExtend, BitVec.getLsbD_signExtend, if_pos z, if_pos hi]
    simp only [z, hi, decide_true, Bool.true_and]
  · rw [hm i hi z]; simp
theorem by8_m8 (x : Int32) (s : Nat) (hs : s ≤ 24) : by8 x s &&& nI 255 = m8 x s := by
  show (x.toUInt32 >>> ((nI s).toUInt32 &&& Int32.toUInt32 31)).toInt32.toInt8.toInt32.toInt8.toInt32 &&& nI 255 = (x >>> (nI s &&& 31)) &&& nI 255
  rw [bp_b, bp_b]
  refine b_ext (fun i hi => ?_)
  rw [b_and, b_and, b_255 i hi, b_ushr s (by omega), b_sshr s (by omega) x hi]
  by_cases h : i < 8
  · rw [if_pos (by omega)]
  · rw [decide_eq_false h, Bool.and_false, Bool.and_false]
theorem tp_eq {f g : Nat → Int32} (h : ∀ i, f i &&& nI 255 = g i) (n : Nat) (x : Int32) : ∀ i, tpa f n x i &&& nI 255 = mta g n x i := by
  intro i
  unfold tpa mta
  by_cases e3 : i = n + 1 + 1 + 1
  · rw [e3, pk_us, pk_us]; exact by8_m8 x 0 (by omega)
  rw [pk_un e3, pk_un e3]
  by_cases e2 : i = n + 1 + 1
  · rw [e2, pk_us, pk_us]; exact by8_m8 x 8 (by omega)
  rw [pk_un e2, pk_un e2]
  by_cases e1 : i = n + 1
  · rw [e1, pk_us, pk_us]; exact by8_m8 x 16 (by omega)
  rw [pk_un e1, pk_un e1]
  by_cases e0 : i = n
  · rw [e0, pk_us, pk_us]; exact by8_m8 x 24 (by omega)
  rw [pk_un e0, pk_un e0]
  exact h i
/-! sheets -/
theorem zrs_at (f : Nat → Int32) (o k : Nat) : ∀ n, zrs f o n k = if o ≤ k ∧ k < o + n then nI 0 else f k
  | 0 => by rw [if_neg (by omega)]; rfl
  | n + 1 => by
    show upd (zrs f o n) (o + n) (nI 0) k = _
    by_cases e : k = o + n
    · rw [e, pk_us, if_pos (by omega)]
    · rw [pk_un e, zrs_at f o k n]
      by_cases c : o ≤ k ∧ k < o + n
      · rw [if_pos c, if_pos (by omega)]
      · rw [if_neg c, if_neg (by omega)]
theorem cpO_at (h f : Nat → Int32) (o k : Nat) : ∀ n, cpO h f o n k = if o ≤ k ∧ k < o + n then h (k - o) else f k
  | 0 => by rw [if_neg (by omega)]; rfl
  | n + 1 => by
    show upd (cpO h f o n) (o + n) (h n) k = _
    by_cases e : k = o + n
    · rw [e, pk_us, if_pos (by omega), show o + n - o = n by omega]
    · rw [pk_un e, cpO_at h f o k n]
      by_cases c : o ≤ k ∧ k < o + n
      · rw [if_pos c, if_pos (by omega)]
      · rw [if_neg c, if_neg (by omega)]
theorem Sz.cg {s : Int32} {f g g' : Nat → Int32} {o : Nat} (h : Sz s f g o) (e : ∀ i, i < 64 → g (o + i) = g' (o + i)) : Sz s f g' o := by
  refine ⟨?_, h.2⟩
  rcases h.1 with h1 | ⟨n, hn, h1, h2⟩
  · exact Or.inl h1
  · exact Or.inr ⟨n, hn, h1, fun i hi => by rw [h2 i hi, e i (by omega)]⟩
theorem Sz.lost {s : Int32} {f g : Nat → Int32} {o : Nat} (h : Sz s f g o) : Sz (-1) f g o := ⟨Or.inl rfl, h.2⟩
theorem Sz.new {s : Int32} {f g : Nat → Int32} {o : Nat} (h : Sz s f g o) {n : Nat} (hn : n ≤ 64) : Sz (nI n) (fil (vp_nar .short (nI 0)) f 64) (zrs g o n) o := by
  refine ⟨Or.inr ⟨n, hn, rfl, fun i hi => ?_⟩, fun i => ?_⟩
  · rw [fil_in _ _ (by omega), zrs_at, if_pos (by omega)]; decide
  · by_cases c : i < 64
    · rw [fil_in _ _ c]; decide
    · rw [show fil (vp_nar .short (nI 0)) f 64 i = f i from if_neg c]; exact h.2 i
theorem nar16 (z : Int32) : vp_nar .short z.toInt16.toInt32 = z.toInt16.toInt32 := by
  show z.toInt16.toInt32.toInt16.toInt32 = _
  rw [Int16.toInt16_toInt32]
theorem fit16 (z : Int32) : fits .short (.int z.toInt16.toInt32) = true := by
  show (decide (-32768 ≤ z.toInt16.toInt32) && decide (z.toInt16.toInt32 ≤ 32767)) = true
  have h1 := Int16.le_toInt z.toInt16
  have h2 := Int16.toInt_lt z.toInt16
  have e1 : (-32768 : Int32).toInt = -32768 := by decide
  have e2 : (32767 : Int32).toInt = 32767 := by decide
  rw [decide_eq_true (by rw [Int32.le_iff_toInt_le, Int16.toInt_toInt32, e1]; omega), decide_eq_true (by rw [Int32.le_iff_toInt_le, Int16.toInt_toInt32, e2]; omega)]
  rfl
theorem Sz.put {f g : Nat → Int32} {o n : Nat} (h : Sz (nI n) f g o) (hn : n ≤ 64) {j : Nat} (hj : j < n) (z : Int32) : Sz (nI n) (upd f j (vp_nar .short z.toInt16.toInt32)) (upd g (o + j) z.toInt16.toInt32) o := by
  refine ⟨Or.inr ⟨n, hn, rfl, fun i hi => ?_⟩, fun i => ?_⟩
  · by_cases e : i = j
    · rw [e, pk_us, pk_us, nar16]
    · rw [pk_un e, pk_un (by omega)]
      rcases h.1 with h1 | ⟨m, hm, h1, h2⟩
      · exact absurd h1 (nI_ne_m1 (by omega))
      · exact h2 i (by rw [← nI_inj (by omega) (by omega) h1]; exact hi)
  · by_cases e : i = j
    · rw [e, pk_us, nar16]; exact fit16 z
    · rw [pk_un e]; exact h.2 i
theorem Sz.at {f g : Nat → Int32} {o n : Nat} (h : Sz (nI n) f g o) (hn : n ≤ 64) {j : Nat} (hj : j < n) : f j = g (o + j) := by
  rcases h.1 with h1 | ⟨m, hm, h1, h2⟩
  · exact absurd h1 (nI_ne_m1 (by omega))
  · exact h2 j (by rw [← nI_inj (by omega) (by omega) h1]; exact hj)
theorem inx_neg (x : Int32) : inx x (-1) = false := by
  unfold inx
  by_cases h : x < 0
  · rw [decide_eq_true h]; rfl
  · rw [decide_eq_true (show (-1 : Int32) ≤ x from by
      obtain ⟨n, hn, rfl⟩ := nI_of h
      rw [Int32.le_iff_toInt_le, nI_toInt hn]
      have : (-1 : Int32).toInt = -1 := by decide
      omega)]
    simp
theorem inr_neg (x : Int32) : inr x (nI 0) (-1 - nI 1) = false := by
  unfold inr
  by_cases h : x < nI 0
  · rw [decide_eq_true h]; rfl
  · rw [decide_eq_true (show (-1 - nI 1 : Int32) < x from by
      obtain ⟨n, hn, rfl⟩ := nI_of (show ¬ x < 0 from h)
      rw [Int32.lt_iff_toInt_lt, nI_toInt hn]
      have : (-1 - nI 1 : Int32).toInt = -2 := by decide
      omega)]
    simp
theorem hrun_iff {y t : Int32} {n : Nat} (hn : n ≤ 64) : hrun y t (nI n) = true ↔ ∃ Y T, y = nI Y ∧ t = nI T ∧ Y + T ≤ n := by
  unfold hrun
  constructor
  · intro h
    split at h
    · cases h
    rename_i h1
    split at h
    · cases h
    rename_i h2
    split at h
    · cases h
    rename_i h3
    obtain ⟨Y, hY, rfl⟩ := nI_of h1
    obtain ⟨T, hT, rfl⟩ := nI_of h2
    refine ⟨Y, T, rfl, rfl, ?_⟩
    rw [Int32.lt_iff_toInt_lt, nI_ofI n, nI_ofI T, ← Int32.ofInt_sub, Int32.toInt_ofInt_of_le (by omega) (by omega), nI_toInt hY] at h3
    omega
  · rintro ⟨Y, T, rfl, rfl, h⟩
    rw [if_neg (nI_pos (by omega)), if_neg (nI_pos (by omega)), if_neg]
    rw [pk_sub (by omega)]
    exact nI_nlt (by omega) (by omega)
theorem lcmp_iff (a b : Nat) (ha : a < 2 ^ 33) (hb : b < 2 ^ 33) : (0 < lg_cmp (lN a) (lN b) ↔ b < a) ∧ (lg_cmp (lN a) (lN b) ≤ 0 ↔ a ≤ b) := by
  have h1 : (lN a).toInt = (a : Int) := lg_ofNat_toInt (by omega)
  have h2 : (lN b).toInt = (b : Int) := lg_ofNat_toInt (by omega)
  unfold lg_cmp
  have e1 : (lN a > lN b) ↔ b < a := by
    show lN b < lN a ↔ _
    rw [Int64.lt_iff_toInt_lt, h1, h2]; omega
  have e2 : lN a = lN b ↔ a = b := by
    rw [← Int64.toInt_inj, h1, h2]; omega
  rcases Nat.lt_trichotomy a b with h | h | h
  · rw [if_neg (fun z => by have := e1.mp z; omega), if_neg (fun z => by have := e2.mp z; omega)]
    exact ⟨⟨fun z => absurd z (by decide), fun z => by omega⟩, ⟨fun _ => by omega, fun _ => by decide⟩⟩
  · rw [if_neg (fun z => by have := e1.mp z; omega), if_pos (e2.mpr h)]
    exact ⟨⟨fun z => absurd z (by decide), fun z => by omega⟩, ⟨fun _ => by omega, fun _ => by decide⟩⟩
  · rw [if_pos (e1.mpr h)]
    exact ⟨⟨fun _ => h, fun _ => by decide⟩, ⟨fun z => absurd z (by decide), fun z => by omega⟩⟩
theorem cok_iff {y u t : Int32} {n m : Nat} (hn : n ≤ 64) (hm : m ≤ 64) : cok y u t (nI n) (nI m) = true ↔ ∃ Y U T, y = nI Y ∧ u = nI U ∧ t = nI T ∧ Y + T ≤ n ∧ U + T ≤ m := by
  unfold cok
  constructor
  · intro h
    split at h
    · cases h
    rename_i h1
    split at h
    · cases h
    rename_i h2
    split at h
    · cases h
    rename_i h3
    obtain ⟨Y, hY, rfl⟩ := nI_of h1
    obtain ⟨U, hU, rfl⟩ := nI_of h2
    obtain ⟨T, hT, rfl⟩ := nI_of h3
    rw [nI_l hY, nI_l hU, nI_l hT, nI_l (show n < 2 ^ 31 by omega), nI_l (show m < 2 ^ 31 by omega), lN_add, lN_add] at h
    split at h
    · cases h
    rename_i h4
    split at h
    · rename_i h5
      rw [(lcmp_iff _ _ (by omega) (by omega)).1] at h4
      rw [(lcmp_iff _ _ (by omega) (by omega)).2] at h5
      exact ⟨Y, U, T, rfl, rfl, rfl, by omega, h5⟩
    · cases h
  · rintro ⟨Y, U, T, rfl, rfl, rfl, h1, h2⟩
    rw [if_neg (nI_pos (by omega)), if_neg (nI_pos (by omega)), if_neg (nI_pos (by omega)), nI_l (show Y < 2 ^ 31 by omega), nI_l (show U < 2 ^ 31 by omega), nI_l (show T < 2 ^ 31 by omega), nI_l (show n < 2 ^ 31 by omega), nI_l (show m < 2 ^ 31 by omega), lN_add, lN_add, if_neg (by rw [(lcmp_iff _ _ (by omega) (by omega)).1]; omega), if_pos ((lcmp_iff _ _ (by omega) (by omega)).2.mpr h2)]
theorem runs_eq {y u t : Int32} {n m : Nat} (hn : n ≤ 64) (hm : m ≤ 64) : ok2 (hrun y t (nI n)) (hrun u t (nI m)) = cok y u t (nI n) (nI m) := by
  rw [Bool.eq_iff_iff, cok_iff hn hm]
  constructor
  · intro h
    obtain ⟨h1, h2⟩ := ok2_of h
    obtain ⟨Y, T, rfl, e1, h3⟩ := (hrun_iff hn).mp h1
    obtain ⟨U, T2, rfl, e2, h4⟩ := (hrun_iff hm).mp h2
    have e3 : T = T2 := nI_inj (by omega) (by omega) (e1.symm.trans e2)
    subst e3
    exact ⟨Y, U, T, rfl, rfl, e1, h3, h4⟩
  · rintro ⟨Y, U, T, rfl, rfl, rfl, h1, h2⟩
    exact ok2_t ((hrun_iff hn).mpr ⟨Y, T, rfl, rfl, h1⟩) ((hrun_iff hm).mpr ⟨U, T, rfl, rfl, h2⟩)
theorem hrun_neg (y t : Int32) : hrun y t (-1) = false := by
  cases e : hrun y t (-1) with
  | false => rfl
  | true =>
    unfold hrun at e
    split at e
    · cases e
    rename_i h1
    split at e
    · cases e
    rename_i h2
    split at e
    · cases e
    rename_i h3
    obtain ⟨Y, hY, rfl⟩ := nI_of h1
    obtain ⟨T, hT, rfl⟩ := nI_of h2
    exfalso
    apply h3
    rw [Int32.lt_iff_toInt_lt, nI_toInt hY, nI_ofI T, show (-1 : Int32) = Int32.ofInt (-1) from rfl, ← Int32.ofInt_sub, Int32.toInt_ofInt_of_le (by omega) (by omega)]
    omega
theorem hrun_64 {y t s : Int32} {f g : Nat → Int32} {o : Nat} (h : Sz s f g o) (c : hrun y t s = true) : ∃ a n : Nat, a + n ≤ 64 ∧ y = nI a ∧ t = nI n := by
  rcases h.1 with e | ⟨n, hn, e, -⟩
  · rw [e, hrun_neg] at c; cases c
  · rw [e] at c
    obtain ⟨Y, T, e1, e2, h3⟩ := (hrun_iff hn).mp c
    exact ⟨Y, T, by omega, e1, e2⟩
theorem cok_neg1 (y u t b : Int32) : cok y u t (-1) b = false := by
  cases e : cok y u t (-1) b with
  | false => rfl
  | true =>
    unfold cok at e
    split at e
    · cases e
    rename_i h1
    split at e
    · cases e
    split at e
    · cases e
    rename_i h3
    split at e
    · cases e
    rename_i h4
    obtain ⟨Y, hY, rfl⟩ := nI_of h1
    obtain ⟨T, hT, rfl⟩ := nI_of h3
    exfalso
    apply h4
    rw [nI_l hY, nI_l hT, lN_add]
    unfold lg_cmp
    rw [if_pos]
    · decide
    · show (-1 : Int32).toInt64 < lN (Y + T)
      rw [Int64.lt_iff_toInt_lt, show (lN (Y + T)).toInt = ((Y + T : Nat) : Int) from lg_ofNat_toInt (by omega)]
      have : ((-1 : Int32).toInt64).toInt = -1 := by decide
      omega
theorem cok_neg2 (y u t : Int32) (a : Int32) : cok y u t a (-1) = false := by
  cases e : cok y u t a (-1) with
  | false => rfl
  | true =>
    unfold cok at e
    split at e
    · cases e
    split at e
    · cases e
    rename_i h1
    split at e
    · cases e
    rename_i h3
    split at e
    · cases e
    split at e
    · rename_i h4
      obtain ⟨Y, hY, rfl⟩ := nI_of h1
      obtain ⟨T, hT, rfl⟩ := nI_of h3
      exfalso
      rw [nI_l hY, nI_l hT, lN_add] at h4
      unfold lg_cmp at h4
      rw [if_pos] at h4
      · exact absurd h4 (by decide)
      · show (-1 : Int32).toInt64 < lN (Y + T)
        rw [Int64.lt_iff_toInt_lt, show (lN (Y + T)).toInt = ((Y + T : Nat) : Int) from lg_ofNat_toInt (by omega)]
        have : ((-1 : Int32).toInt64).toInt = -1 := by decide
        omega
    · cases e
theorem cok_64 {y u t s s' : Int32} {f g f' g' : Nat → Int32} {o o' : Nat} (h : Sz s f g o) (h' : Sz s' f' g' o') (c : cok y u t s s' = true) : ∃ a b n : Nat, a + n ≤ 64 ∧ b + n ≤ 64 ∧ y = nI a ∧ u = nI b ∧ t = nI n := by
  rcases h.1 with e | ⟨n, hn, e, -⟩
  · rw [e, cok_neg1] at c; cases c
  rcases h'.1 with e' | ⟨m, hm, e', -⟩
  · rw [e', cok_neg2] at c; cases c
  · rw [e, e'] at c
    obtain ⟨Y, U, T, e1, e2, e3, h3, h4⟩ := (cok_iff hn hm).mp c
    exact ⟨Y, U, T, by omega, by omega, e1, e2, e3⟩
/-- a run copied into a sheet -/
theorem Sz.copy {f f' g : Nat → Int32} {o o' n m : Nat} (h : Sz (nI n) f g o) (h' : Sz (nI m) f' g o') (hn : n ≤ 64) (hm : m ≤ 64) (c0 : Nat → Int32) {Y U T : Nat} (h1 : Y + T ≤ n) (h2 : U + T ≤ m) : Sz (nI m) (va_cpy f f' Y U T) (cpO (cotI (fun i => g (o + Y + i)) c0 T) g (o' + U) T) o' := by
  refine ⟨Or.inr ⟨m, hm, rfl, fun i hi => ?_⟩, fun i => ?_⟩
  · rw [cpO_at]
    show (if U ≤ i ∧ i < U + T then f (Y + (i - U)) else f' i) = _
    by_cases c : U ≤ i ∧ i < U + T
    · rw [if_pos c, if_pos (by omega), cotI_in _ _ (by omega), h.at hn (by omega)]
      congr 1
      omega
    · rw [if_neg c, if_neg (by omega)]; exact h'.at hm hi
  · show fits .short (.int (if U ≤ i ∧ i < U + T then f (Y + (i - U)) else f' i)) = true
    split
    · exact h.2 _
    · exact h'.2 _
/-- the other sheet stays -/
theorem Sz.far {s : Int32} {f g h : Nat → Int32} {o p n : Nat} (q : Sz s f g o) (hp : p + n ≤ o ∨ o + 64 ≤ p) : Sz s f (cpO h g p n) o := q.cg (fun i hi => by rw [cpO_at, if_neg (by omega)])
theorem ms_eq {a b : Int32} {f g f' g' : Nat → Int32} {o o' : Nat} (h : Sz a f g o) (h' : Sz b f' g' o') : (if decide (a = (-1)) = true then true else decide (b = (-1))) = cms a b := by
  unfold cms
  rcases h.1 with e | ⟨n, hn, e, -⟩
  · rw [e, if_pos (by decide), if_pos (by decide)]
  · rw [e, if_neg (by rw [decide_eq_false (nI_ne_m1 (by omega))]; decide), if_neg (nI_pos (by omega))]
    rcases h'.1 with e' | ⟨m, hm, e', -⟩
    · rw [e', if_neg (by decide)]; decide
    · rw [e', decide_eq_false (nI_ne_m1 (by omega)), if_pos (Int32.not_lt.mp (nI_pos (by omega)))]
theorem cms_f {a b : Int32} {f g f' g' : Nat → Int32} {o o' : Nat} (h : Sz a f g o) (h' : Sz b f' g' o') (c : ¬ cms a b = true) : ∃ n m, n ≤ 64 ∧ m ≤ 64 ∧ a = nI n ∧ b = nI m := by
  rcases h.1 with e | ⟨n, hn, e, -⟩
  · rw [e] at c; exact absurd (by unfold cms; rw [if_pos (by decide)]) c
  rcases h'.1 with e' | ⟨m, hm, e', -⟩
  · rw [e, e'] at c
    exact absurd (by unfold cms; rw [if_neg (nI_pos (by omega)), if_neg (by decide)]) c
  · exact ⟨n, m, hn, hm, e, e'⟩
theorem gps_mgs {wd hg nW nF : Nat} {ro fw fp fk fm su : Nat → Int32} (hS : Sok su fw fk fm nF) (hF : Fin_ wd hg nW nF ro fw fp fk fm) (hW : nW ≤ 60) : ∀ r, gps nW ro su r = mgs nW nF ro fw fm r
  | 0 => rfl
  | r + 1 => by
    rw [gps_succ, mgs_succ, gps_mgs hS hF hW r, ctel_mtl hS hF hW]
    rcases mtl_in nW nF ro fw fm (nI r) with e | ⟨i, hi, e⟩
    · rw [e, if_pos rfl, if_neg (by decide)]; rfl
    · rw [e, if_neg (nI_ne_m1 (by omega)), if_pos (Int32.not_lt.mp (nI_pos (by omega))), i0]
theorem stg_bks (w : Nat → Int32) : ∀ n, stg w n = bks w n
  | 0 => rfl
  | n + 1 => by rw [stg_succ, bks_succ, stg_bks w n]
