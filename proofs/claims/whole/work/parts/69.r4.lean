/-! worths, gathering, shuffles -/
theorem wgt_mwt (so : Nat → Int32) (j : Nat) : wgt so j = mwt so j := by
  unfold wgt mwt
  by_cases h1 : so j = nI 3
  · rw [if_pos h1, if_neg (by rw [h1]; decide), if_pos h1]
  · rw [if_neg h1]
    by_cases h2 : so j = nI 2
    · rw [if_pos h2, if_pos h2]
    · rw [if_neg h2, if_neg h2, if_neg h1]
section W
variable {wd hg nW nF : Nat} {ro fw fp fk fm su ta so wk ey0 ch0 : Nat → Int32}
def MEYf (so wk ro fw fk fm : Nat → Int32) (nW nF : Nat) (v : Nat) : Int32 := mey (fun k => fns so fw fk fm (nI k) nF) wk ro nW (nI v)
def CHOf (ro fw fm : Nat → Int32) (nW nF : Nat) (r : Nat) : Int32 := mtl nW nF ro fw fm (nI r)
theorem eye_all (hS : Sok su fw fk fm nF) (hF : Fin_ wd hg nW nF ro fw fp fk fm) (hW : nW ≤ 60) (hN : nF ≤ 200) (w : Int32) : hund so wk ro su w nW = mey (fun k => fns so fw fk fm (nI k) nF) wk ro nW w ∧ ∃ e, e < 2 ^ 31 ∧ mey (fun k => fns so fw fk fm (nI k) nF) wk ro nW w = nI e := by
  have hs : nsm (fun i => fnN so fw fk fm i nF) nW ≤ 19800 := Nat.le_trans (fnN_sum hF hW hW nF (Nat.le_refl _)) (by omega)
  exact ⟨hund_mey (fun i hi => cseen_fns hS hF (by omega)) (fun i hi => fns_fnN hF i nF (Nat.le_refl _)) hW hs, mey_pos (fun i hi => fns_fnN hF i nF (Nat.le_refl _)) hW hs⟩
theorem corr_eq (hS : Sok su fw fk fm nF) (hT : Tok ta fw fp fk fm wd nF) (hF : Fin_ wd hg nW nF ro fw fp fk fm) (hV : ∀ i, i < nW → ∃ v, v < 5 ∧ wk i = nI v) (hW : nW ≤ 60) (hN : nF ≤ 200) (hwd : 2 ≤ wd) (hw8 : wd ≤ 8) (hm : wd * hg ≤ 64) {r c k : Nat} (hr : r < hg) (hc : c < wd) (hk : k < 4) : amd so k (brn (nI nW) ta (mtl nW nF ro fw fm (nI r)) c k) (oft so wk ro su nW (mtl nW nF ro fw fm (nI r))) = mcc so wk fw fp fk fm (cotI (MEYf so wk ro fw fk fm nW nF) ey0 5) (cotI (CHOf ro fw fm nW nF) ch0 hg) nF wd (r * wd + c) k := by
  have er : (r * wd + c) / wd = r := by rw [Nat.mul_comm, Nat.mul_add_div (by omega), Nat.div_eq_of_lt hc]; rfl
  unfold mcc
  rw [er, cotI_in _ _ hr]
  show _ = mco so wk _ (mcn fw fp fk fm nF (mtl nW nF ro fw fm (nI r)) (r * wd + c) k) (mtl nW nF ro fw fm (nI r)) k
  rw [borne_eq hT hF hW hwd hw8 hm hr hc hk]
  rcases mtl_in nW nF ro fw fm (nI r) with e | ⟨i, hi, e⟩
  · rw [e, mat_m1 hF hW _ _ nF (Nat.le_refl _)]
    unfold mcn mco amd
    rw [if_pos rfl, if_pos (show (-1 : Int32) < 0 by decide), if_pos (show nI 0 = 0 from rfl)]
    rfl
  · rw [e]
    obtain ⟨v, hv, ev⟩ := hV i hi
    obtain ⟨q1, e2, he2, q2⟩ := eye_all (so := so) (wk := wk) hS hF hW hN (nI v)
    have q3 : oft so wk ro su nW (nI i) = nI e2 := by
      rw [oft, if_pos (inx_nI hi (by omega)), nI_clamp (by omega), ev, q1, q2]
    rw [q3, show mcn fw fp fk fm nF (nI i) (r * wd + c) k = mat fw fp fk fm (nI i) (nI (r * wd + c)) (nI k) nF from if_neg (nI_pos (by omega))]
    refine amd_mco he2 ?_
    rw [tn, tn, nI_clamp (by omega), ev, nI_clamp (by omega), cotI_in _ _ hv]
    exact q2
theorem wz_mwa (hS : Sok su fw fk fm nF) (hT : Tok ta fw fp fk fm wd nF) (hF : Fin_ wd hg nW nF ro fw fp fk fm) (hV : ∀ i, i < nW → ∃ v, v < 5 ∧ wk i = nI v) (hW : nW ≤ 60) (hN : nF ≤ 200) (hwd : 2 ≤ wd) (hw8 : wd ≤ 8) (hm : wd * hg ≤ 64) {r c : Nat} (hr : r < hg) (hc : c < wd) : ∀ k, k ≤ 4 → wz (nI nW) so ta (mtl nW nF ro fw fm (nI r)) c (oft so wk ro su nW (mtl nW nF ro fw fm (nI r))) k = mwa (mcc so wk fw fp fk fm (cotI (MEYf so wk ro fw fk fm nW nF) ey0 5) (cotI (CHOf ro fw fm nW nF) ch0 hg) nF wd (r * wd + c)) so k
  | 0, _ => rfl
  | k + 1, h => by
    show wz _ _ _ _ _ _ k + _ * _ = mwa _ _ k + _ * _
    rw [wz_mwa hS hT hF hV hW hN hwd hw8 hm hr hc k (by omega), corr_eq (ey0 := ey0) (ch0 := ch0) hS hT hF hV hW hN hwd hw8 hm hr hc (by omega), wgt_mwt, Int32.mul_comm]
theorem layI_at (F : Nat → Nat → Int32) (wd r : Nat) (f : Nat → Int32) (p : Nat) : ∀ n, layI F wd r f n p = if r * wd ≤ p ∧ p < r * wd + n then F r (p - r * wd) else f p
  | 0 => by rw [if_neg (by omega)]; rfl
  | n + 1 => by
    show upd (layI F wd r f n) (r * wd + n) (F r n) p = _
    by_cases h : p = r * wd + n
    · rw [h, pk_us, if_pos (by omega), show r * wd + n - r * wd = n by omega]
    · rw [pk_un h, layI_at F wd r f p n]
      by_cases h2 : r * wd ≤ p ∧ p < r * wd + n
      · rw [if_pos h2, if_pos (by omega)]
      · rw [if_neg h2, if_neg (by omega)]
theorem layO_at (F : Nat → Nat → Int32) {wd : Nat} (hwd : 0 < wd) (f : Nat → Int32) (p : Nat) : ∀ n, layO F wd f n p = if p < n * wd then F (p / wd) (p % wd) else f p
  | 0 => by rw [if_neg (by omega)]; rfl
  | n + 1 => by
    show layI F wd n (layO F wd f n) wd p = _
    rw [layI_at, layO_at F hwd f p n, Nat.succ_mul]
    by_cases h : n * wd ≤ p ∧ p < n * wd + wd
    · have e1 : p / wd = n := by
        rw [Nat.div_eq_of_lt_le]
        · exact h.1
        · rw [Nat.succ_mul]; exact h.2
      have e2 := p_eq wd p
      rw [e1] at e2
      rw [if_pos h, if_pos h.2, e1, show p - n * wd = p % wd by omega]
    · rw [if_neg h]
      by_cases h2 : p < n * wd
      · rw [if_pos h2, if_pos (by omega)]
      · rw [if_neg h2, if_neg (by omega)]
theorem worth_eq {bl : Int64} {em f f' : Nat → Int32} (hS : Sok su fw fk fm nF) (hT : Tok ta fw fp fk fm wd nF) (hF : Fin_ wd hg nW nF ro fw fp fk fm) (hV : ∀ i, i < nW → ∃ v, v < 5 ∧ wk i = nI v) (hW : nW ≤ 60) (hN : nF ≤ 200) (hwd : 2 ≤ wd) (hw8 : wd ≤ 8) (hm : wd * hg ≤ 64) (hb : ∀ p, p < 64 → brb bl (nI p) = !decide (em p = 0)) {p : Nat} (hp : p < wd * hg) : layO (cel (nI nW) nW so wk ro su ta bl wd) wd f hg p = cotI (mwv (mcc so wk fw fp fk fm (cotI (MEYf so wk ro fw fk fm nW nF) ey0 5) (cotI (CHOf ro fw fm nW nF) ch0 hg) nF wd) so em) f' (wd * hg) p := by
  have hr := row_lt hp hwd
  have hc : p % wd < wd := Nat.mod_lt _ (by omega)
  have hpe := p_eq wd p
  rw [cotI_in _ _ hp, layO_at _ (by omega), if_pos (by rw [Nat.mul_comm]; exact hp)]
  unfold cel mwv
  rw [← hpe, hb p (by omega), ctel_mtl hS hF hW]
  by_cases h : em p = 0
  · rw [if_neg (by rw [decide_eq_true h]; decide), if_pos h, wz_mwa (ey0 := ey0) (ch0 := ch0) hS hT hF hV hW hN hwd hw8 hm hr hc 4 (Nat.le_refl _), ← hpe]
  · rw [if_pos (by rw [decide_eq_false h]; decide), if_neg h]
/-! gathering -/
theorem gm_row (ch : Nat → Int32) {wd : Nat} (hwd : 0 < wd) (f : Nat → Int32) (r : Nat) : ∀ c, c ≤ wd → gm ch wd f (r * wd + c) = if ch r < 0 then gm ch wd f (r * wd) else gwI wd r (gm ch wd f (r * wd)) c
  | 0, _ => by
    show gm ch wd f (r * wd) = _
    split <;> rfl
  | c + 1, h => by
    have er : (r * wd + c) / wd = r := by rw [Nat.mul_comm, Nat.mul_add_div hwd, Nat.div_eq_of_lt (by omega)]; rfl
    rw [show r * wd + (c + 1) = (r * wd + c) + 1 from rfl, gm_succ, er, gm_row ch hwd f r c (by omega)]
    by_cases e : ch r < 0
    · simp only [e, if_true]
    · simp only [e, if_false]; rfl
theorem gather_eq (hS : Sok su fw fk fm nF) (hF : Fin_ wd hg nW nF ro fw fp fk fm) (hW : nW ≤ 60) (hwd : 0 < wd) (f : Nat → Int32) : ∀ r, r ≤ hg → gwO nW ro su wd f r = gm (cotI (CHOf ro fw fm nW nF) ch0 hg) wd f (r * wd)
  | 0, _ => by rw [Nat.zero_mul]; rfl
  | r + 1, h => by
    rw [gwO_succ, Nat.succ_mul, gm_row _ hwd f r wd (Nat.le_refl _), gather_eq hS hF hW hwd f r (by omega), cotI_in _ _ (by omega), ctel_mtl hS hF hW]
    show _ = if mtl nW nF ro fw fm (nI r) < 0 then _ else _
    rcases mtl_in nW nF ro fw fm (nI r) with e | ⟨i, hi, e⟩
    · rw [e]; simp only [if_true]; rw [if_pos (by decide)]
    · rw [e, if_neg (nI_ne_m1 (by omega)), if_neg (nI_pos (by omega))]
end W
theorem gm_lt (ch : Nat → Int32) (wd : Nat) (f : Nat → Int32) : ∀ t, ∀ a, a < (gm ch wd f t).1 → ∃ z, z < t ∧ (gm ch wd f t).2 a = nI z
  | 0, a, ha => absurd ha (Nat.not_lt_zero a)
  | t + 1, a, ha => by
    rw [gm_succ] at ha ⊢
    split at ha
    · rename_i h; rw [if_pos h]
      obtain ⟨z, hz, e⟩ := gm_lt ch wd f t a ha
      exact ⟨z, by omega, e⟩
    · rename_i h
      rw [if_neg h]
      show ∃ z, z < t + 1 ∧ upd (gm ch wd f t).2 (gm ch wd f t).1 (nI t) a = nI z
      have ha' : a < (gm ch wd f t).1 + 1 := ha
      by_cases e : a = (gm ch wd f t).1
      · rw [e, pk_us]; exact ⟨t, by omega, rfl⟩
      · rw [pk_un e]
        obtain ⟨z, hz, e2⟩ := gm_lt ch wd f t a (by omega)
        exact ⟨z, by omega, e2⟩
/-! shuffles -/
theorem shf_shs (wk : Nat → Int32) (n : Nat) (w : Int32) (f : Nat → Int32) : shf wk n w f = shs wk (n - 1) w f (n - 1) := by
  cases n with
  | zero => rfl
  | succ n => rfl
theorem swp_cong {f g : Nat → Int32} {n a b : Nat} (h : ∀ p, p < n → f p = g p) (ha : a < n) (hb : b < n) : ∀ p, p < n → swp f a b p = swp g a b p := by
  intro p hp
  unfold swp
  by_cases e1 : p = b
  · rw [e1, pk_us, pk_us, h a ha]
  · rw [pk_un e1, pk_un e1]
    by_cases e2 : p = a
    · rw [e2, pk_us, pk_us, h b hb]
    · rw [pk_un e2, pk_un e2, h p hp]
theorem shs_cong {wk : Nat → Int32} {n N : Nat} {w : Int32} {f g : Nat → Int32} (hk : ∀ a, a < n + 1 → ∃ z, z < N ∧ wk a = nI z) (hN : N ≤ 64) (h : ∀ p, p < N → f p = g p) : ∀ t, t ≤ n → (shs wk n w f t).1 = (shs wk n w g t).1 ∧ ∀ p, p < N → (shs wk n w f t).2 p = (shs wk n w g t).2 p
  | 0, _ => ⟨rfl, h⟩
  | t + 1, ht => by
    obtain ⟨h1, h2⟩ := shs_cong (w := w) hk hN h t (by omega)
    refine ⟨?_, ?_⟩
    · show shw _ = shw _
      rw [h1]
    · show ∀ p, p < N → swp _ _ (wk (shX (shw (shs wk n w f t).1) % (n - t + 1))).toNatClampNeg p = swp _ _ (wk (shX (shw (shs wk n w g t).1) % (n - t + 1))).toNatClampNeg p
      rw [h1]
      obtain ⟨z1, hz1, e1⟩ := hk (n - t) (by omega)
      obtain ⟨z2, hz2, e2⟩ := hk (shX (shw (shs wk n w g t).1) % (n - t + 1)) (by have := Nat.mod_lt (shX (shw (shs wk n w g t).1)) (show 0 < n - t + 1 by omega); omega)
      exact swp_cong h2 (by rw [e1, nI_clamp (by omega)]; exact hz1) (by rw [e2, nI_clamp (by omega)]; exact hz2)
theorem sto_mto {wk : Nat → Int32} {n wd hg : Nat} {own w : Int32} {f g : Nat → Int32} (hk : ∀ a, a < n → ∃ z, z < wd * hg ∧ wk a = nI z) (hw2 : 2 ≤ wd) (hw : wd ≤ 8) (hh2 : 2 ≤ hg) (hh : hg ≤ 8) (h : ∀ p, p < wd * hg → f p = g p) : ∀ d, (sto wk n wd hg own w f d).1 = (mto wk n wd hg own w g d).1 ∧ ∀ p, p < wd * hg → (sto wk n wd hg own w f d).2 p = (mto wk n wd hg own w g d).2 p
  | 0 => ⟨rfl, h⟩
  | d + 1 => by
    have hm := prod64 hw hh
    obtain ⟨h1, h2⟩ := sto_mto (own := own) (w := w) hk hw2 hw hh2 hh h d
    have key : (shf wk n (sto wk n wd hg own w f d).1.1 (sto wk n wd hg own w f d).2).1 = (shs wk (n - 1) (mto wk n wd hg own w g d).1.1 (mto wk n wd hg own w g d).2 (n - 1)).1 ∧ ∀ p, p < wd * hg → (shf wk n (sto wk n wd hg own w f d).1.1 (sto wk n wd hg own w f d).2).2 p = (shs wk (n - 1) (mto wk n wd hg own w g d).1.1 (mto wk n wd hg own w g d).2 (n - 1)).2 p := by
      rw [shf_shs, h1]
      cases n with
      | zero => exact ⟨rfl, h2⟩
      | succ n => exact shs_cong hk hm h2 n (Nat.le_refl _)
    rw [sto_succ, mto_succ]
    refine ⟨?_, key.2⟩
    show ((shf wk n (sto wk n wd hg own w f d).1.1 (sto wk n wd hg own w f d).2).1, _) = ((shs wk (n - 1) (mto wk n wd hg own w g d).1.1 (mto wk n wd hg own w g d).2 (n - 1)).1, _)
    rw [key.1, best_eq key.2 hw2 hw hh2 hh, ring_eq key.2 (mbb_lt _ hw2 hh2) hw2 hw hh2 hh, h1]
    congr 1
    by_cases e : rm (shs wk (n - 1) (mto wk n wd hg own w g d).1.1 (mto wk n wd hg own w g d).2 (n - 1)).2 wd hg (mbb (shs wk (n - 1) (mto wk n wd hg own w g d).1.1 (mto wk n wd hg own w g d).2 (n - 1)).2 wd hg) < own
    · rw [if_pos e, if_neg (Int32.not_le.mpr e)]; rfl
    · rw [if_neg e, if_pos (Int32.not_lt.mp e)]
/-! ploughs -/
theorem upd_cong {f g : Nat → Int32} {n i : Nat} {x y : Int32} (h : ∀ p, p < n → f p = g p) (e : x = y) : ∀ p, p < n → upd f i x p = upd g i y p := by
  intro p hp
  by_cases h1 : p = i
  · rw [h1, pk_us, pk_us, e]
  · rw [pk_un h1, pk_un h1, h p hp]
theorem cup_cong {f g : Nat → Int32} {n i : Nat} {b : Bool} {x : Int32} (h : ∀ p, p < n → f p = g p) (hi : b = true → i < n) : ∀ p, p < n → cup b f i x p = cup b g i x p := by
  unfold cup
  split
  · rename_i hb
    exact upd_cong h (by rw [h i (hi hb)])
  · exact h
theorem plo_cong {so so' f g : Nat → Int32} {wd hg : Nat} (hw2 : 2 ≤ wd) (hs : ∀ p, p < wd * hg → so p = so' p) (h : ∀ p, p < wd * hg → f p = g p) : ∀ t, t ≤ wd * hg → ∀ p, p < wd * hg → plo so wd hg f t p = plo so' wd hg g t p
  | 0, _ => h
  | t + 1, ht => by
    have ih := plo_cong hw2 hs h t (by omega)
    have hr := row_lt (show t < wd * hg by omega) hw2
    have hc : t % wd < wd := Nat.mod_lt _ (by omega)
    have e : prt so wd hg t = prt so' wd hg t := by unfold prt; rw [hs t (by omega)]
    show ∀ p, p < wd * hg → sp1 so wd hg (plo so wd hg f t) t p = sp1 so' wd hg (plo so' wd hg g t) t p
    unfold sp1 sp0
    rw [e]
    refine cup_cong (cup_cong (cup_cong (cup_cong (upd_cong ih (by rw [ih t (by omega), hs t (by omega)])) ?_) ?_) ?_) ?_
    · intro hb; have := nb_l hb; omega
    · intro hb; exact nb_r hb hr
    · intro hb; have := nb_u hb; omega
    · intro hb; exact nb_d hb hc
theorem fil_in (v : Int32) (g : Nat → Int32) {n p : Nat} (h : p < n) : fil v g n p = v := if_pos h
theorem pls_mpl {wd hg : Nat} {q q' : (Nat → Int32) × (Nat → Int32)} (hw2 : 2 ≤ wd) (hm : wd * hg ≤ 64) (h : ∀ p, p < wd * hg → q.1 p = q'.1 p) : ∀ d, ∀ p, p < wd * hg → (pls wd hg q d).1 p = (mpl wd hg q' d).1 p
  | 0 => h
  | d + 1 => by
    intro p hp
    have ih := pls_mpl hw2 hm h d
    show plo (pls wd hg q d).1 wd hg (fil (nI 0) (pls wd hg q d).2 64) (wd * hg) p = cotI (mpn (mpl wd hg q' d).1 (mpl wd hg q' d).2 wd hg) (mpl wd hg q' d).1 (wd * hg) p
    rw [cotI_in _ _ hp]
    exact plo_cong hw2 ih (fun p hp => by rw [fil_in _ _ (by omega), fil_in _ _ hp]) (wd * hg) (Nat.le_refl _) p hp
theorem lyf_at (sz : Int32) (pl f : Nat → Int32) (p : Nat) : ∀ n, p < n → lyf sz pl f n p = lyv sz pl p
  | 0, h => absurd h (Nat.not_lt_zero p)
  | n + 1, h => by
    show upd (lyf sz pl f n) n (lyv sz pl n) p = _
    by_cases e : p = n
    · rw [e, pk_us]
    · rw [pk_un e]; exact lyf_at sz pl f p n (by omega)
