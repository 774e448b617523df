/-! pairs -/
theorem sm_0 : ∀ n, sm (fun _ => (0 : Int32)) n = 0
  | 0 => rfl
  | n + 1 => by rw [sm, sm_0 n]; rfl
theorem sm_add (f g : Nat → Int32) : ∀ n, sm (fun k => f k + g k) n = sm f n + sm g n
  | 0 => rfl
  | n + 1 => by
    rw [sm, sm, sm, sm_add f g n]
    rw [← Int32.add_assoc, ← Int32.add_assoc, iac (sm f n) (sm g n) (f n)]
theorem sm_swap (f : Nat → Nat → Int32) (m : Nat) : ∀ n, sm (fun a => sm (fun b => f a b) m) n = sm (fun b => sm (fun a => f a b) n) m
  | 0 => by rw [show (fun b => sm (fun a => f a b) 0) = (fun _ => (0 : Int32)) from rfl, sm_0]; rfl
  | n + 1 => by
    rw [sm, sm_swap f m n]
    show _ = sm (fun b => sm (fun a => f a b) n + f n b) m
    rw [sm_add]
theorem sm_mul (c : Int32) (f : Nat → Int32) : ∀ n, c * sm f n = sm (fun k => c * f k) n
  | 0 => by
    show c * 0 = 0
    exact Int32.mul_zero
  | n + 1 => by rw [sm, sm, Int32.mul_add, sm_mul c f n]
theorem zi (x : Int32) : 0 + x = x := by rw [Int32.add_comm]; exact i0 x
/-- one pair's part -/
def tp1 (wk ro : Nat → Int32) (u : Int32) (a : Nat) (g : Nat → Int32) (b : Nat) : Int32 := if wk b = u then (if ro a = ro b then g b else 0) else 0
theorem wbs_sm {wk ro : Nat → Int32} {u : Int32} {a : Nat} (h : ¬ wk a = u) : ∀ n, wbs wk ro a u n = sm (tp1 wk ro u a (fun _ => 1)) n
  | 0 => rfl
  | n + 1 => by
    rw [wbs_succ, sm, wbs_sm h n]
    unfold tp1 prb
    by_cases e1 : wk n = u
    · rw [if_pos e1, if_pos e1]
      by_cases e2 : ro a = ro n
      · rw [if_pos e2, if_pos e2, if_neg (show ¬ wk a = wk n by rw [e1]; exact h), if_pos rfl]
      · rw [if_neg e2, if_neg e2, if_neg (by decide)]; exact (i0 _).symm
    · rw [if_neg e1, if_neg e1]; exact (i0 _).symm
theorem tp1_mul (wk ro : Nat → Int32) (u : Int32) (a : Nat) (c : Int32) : (fun b => c * tp1 wk ro u a (fun _ => 1) b) = tp1 wk ro u a (fun _ => c) := by
  funext b
  unfold tp1
  split
  · split
    · exact Int32.mul_one _
    · exact Int32.mul_zero
  · exact Int32.mul_zero
theorem mp1_sm (so wk ro fw fk fm : Nat → Int32) (nF : Nat) (u z : Int32) (a : Nat) (s : Int32) : ∀ n, mp1 so wk ro fw fk fm nF u z a s n = s + sm (tp1 wk ro u a (fun b => if z = 0 then 1 else if z = nI 1 then fns so fw fk fm (nI a) nF else fns so fw fk fm (nI b) nF)) n
  | 0 => (i0 s).symm
  | n + 1 => by
    rw [mp1_succ, mp1_sm so wk ro fw fk fm nF u z a s n, sm, show tp1 wk ro u a (fun b => if z = 0 then 1 else if z = nI 1 then fns so fw fk fm (nI a) nF else fns so fw fk fm (nI b) nF) n = (if wk n = u then (if ro a = ro n then (if z = 0 then 1 else if z = nI 1 then fns so fw fk fm (nI a) nF else fns so fw fk fm (nI n) nF) else 0) else 0) from rfl]
    by_cases e1 : wk n = u
    · rw [if_pos e1, if_pos e1]
      by_cases e2 : ro a = ro n
      · rw [if_pos e2, if_pos e2]
        by_cases e3 : z = 0
        · rw [if_pos e3, if_pos e3, Int32.add_assoc]; rfl
        · rw [if_neg e3, if_neg e3]
          by_cases e4 : z = nI 1
          · rw [if_pos e4, if_pos e4, Int32.add_assoc]
          · rw [if_neg e4, if_neg e4, Int32.add_assoc]
      · rw [if_neg e2, if_neg e2, show ∀ x : Int32, x + 0 = x from i0]
    · rw [if_neg e1, if_neg e1, show ∀ x : Int32, x + 0 = x from i0]
theorem mp0_sm (so wk ro fw fk fm : Nat → Int32) (nW nF : Nat) (v u z : Int32) : ∀ n, mp0 so wk ro fw fk fm nW nF v u z n = sm (fun a => if wk a = v then sm (tp1 wk ro u a (fun b => if z = 0 then 1 else if z = nI 1 then fns so fw fk fm (nI a) nF else fns so fw fk fm (nI b) nF)) nW else 0) n
  | 0 => rfl
  | n + 1 => by
    rw [mp0_succ, mp0_sm so wk ro fw fk fm nW nF v u z n, sm]
    by_cases e : wk n = v
    · rw [if_pos e, if_pos e, mp1_sm]
    · rw [if_neg e, if_neg e]; exact (i0 _).symm
theorem prs_sm {wk ro : Nat → Int32} {v u : Int32} (h : ¬ v = u) (nW : Nat) : ∀ n, prs wk ro v u nW n = sm (fun a => if wk a = v then sm (tp1 wk ro u a (fun _ => 1)) nW else 0) n
  | 0 => rfl
  | n + 1 => by
    rw [prs_succ, prs_sm h nW n, sm]
    by_cases e : wk n = v
    · rw [if_pos e, if_pos e, wbs_sm (by rw [e]; exact h)]
    · rw [if_neg e, if_neg e]; exact (i0 _).symm
theorem sbs_sm {so wk ro su F : Nat → Int32} {v u : Int32} (h : ¬ v = u) (nW : Nat) : ∀ n, n ≤ nW → (∀ i, i < nW → cseen so su i = F i) → sbs so wk ro su v u nW n = sm (fun a => if wk a = v then sm (tp1 wk ro u a (fun _ => F a)) nW else 0) n
  | 0, _, _ => rfl
  | n + 1, hn, hF => by
    rw [sbs_succ, sbs_sm h nW n (by omega) hF, sm]
    by_cases e : wk n = v
    · rw [if_pos e, if_pos e, wbs_sm (by rw [e]; exact h), hF n (by omega), sm_mul, tp1_mul]
    · rw [if_neg e, if_neg e]; exact (i0 _).symm
theorem pair0 {so wk ro fw fk fm : Nat → Int32} {v u : Int32} (h : ¬ v = u) (nW nF : Nat) : prs wk ro v u nW nW = mp0 so wk ro fw fk fm nW nF v u (nI 0) nW := by
  rw [prs_sm h, mp0_sm]
  congr 1
theorem pair1 {so wk ro su fw fk fm : Nat → Int32} {v u : Int32} (h : ¬ v = u) (nW nF : Nat) (hF : ∀ i, i < nW → cseen so su i = fns so fw fk fm (nI i) nF) : sbs so wk ro su v u nW nW = mp0 so wk ro fw fk fm nW nF v u (nI 1) nW := by
  rw [sbs_sm (F := fun i => fns so fw fk fm (nI i) nF) h nW nW (Nat.le_refl _) hF, mp0_sm]
  congr 1
theorem pair2 {so wk ro su fw fk fm : Nat → Int32} {v u : Int32} (h : ¬ v = u) (nW nF : Nat) (hF : ∀ i, i < nW → cseen so su i = fns so fw fk fm (nI i) nF) : sbs so wk ro su u v nW nW = mp0 so wk ro fw fk fm nW nF v u (nI 2) nW := by
  rw [sbs_sm (F := fun i => fns so fw fk fm (nI i) nF) (fun z => h z.symm) nW nW (Nat.le_refl _) hF, mp0_sm]
  have e1 : ∀ a, (if wk a = u then sm (tp1 wk ro v a (fun _ => fns so fw fk fm (nI a) nF)) nW else 0) = sm (fun b => if wk a = u then tp1 wk ro v a (fun _ => fns so fw fk fm (nI a) nF) b else 0) nW := fun a => by
    by_cases e : wk a = u
    · simp only [e, if_true]
    · simp only [e, if_false, sm_0]
  have e2 : ∀ a, (if wk a = v then sm (tp1 wk ro u a (fun b => if nI 2 = 0 then 1 else if nI 2 = nI 1 then fns so fw fk fm (nI a) nF else fns so fw fk fm (nI b) nF)) nW else 0) = sm (fun b => if wk a = v then tp1 wk ro u a (fun b => if nI 2 = 0 then 1 else if nI 2 = nI 1 then fns so fw fk fm (nI a) nF else fns so fw fk fm (nI b) nF) b else 0) nW := fun a => by
    by_cases e : wk a = v
    · simp only [e, if_true]
    · simp only [e, if_false, sm_0]
  rw [show (fun a => if wk a = u then sm (tp1 wk ro v a (fun _ => fns so fw fk fm (nI a) nF)) nW else 0) = _ from funext e1, show (fun a => if wk a = v then sm (tp1 wk ro u a (fun b => if nI 2 = 0 then 1 else if nI 2 = nI 1 then fns so fw fk fm (nI a) nF else fns so fw fk fm (nI b) nF)) nW else 0) = _ from funext e2, sm_swap]
  congr 1
  funext b
  congr 1
  funext a
  unfold tp1
  dsimp only
  rw [if_neg (show ¬ nI 2 = 0 by decide), if_neg (show ¬ nI 2 = nI 1 by decide)]
  by_cases h1 : wk a = u <;> by_cases h2 : wk b = v <;> by_cases h3 : ro a = ro b
  all_goals simp [h1, h2, h3]
  all_goals (try (intro z; exact absurd z.symm h3))
/-! rings -/
theorem cell_in {v : Nat → Int32} {wd hg r c a b : Nat} (h1 : 1 ≤ r + a) (h2 : r + a - 1 < hg) (h3 : 1 ≤ c + b) (h4 : c + b - 1 < wd) (hh : hg ≤ 8) (hw : wd ≤ 8) : cellv v wd hg r c a b = v ((r + a - 1) * wd + (c + b - 1)) := by
  unfold cellv
  rw [yv_pos h1, yv_pos h3, if_pos (inx_nI h2 (by omega)), if_pos (inx_nI h4 (by omega)), tn, tn, nI_clamp (by omega), nI_clamp (by omega), Nat.mul_comm]
theorem inx_ge {n k : Nat} (h : n ≤ k) (hk : k < 2 ^ 31) : inx (nI k) (nI n) = false := by
  unfold inx
  rw [decide_eq_true (nI_le h hk)]
  simp
theorem row_o {v : Nat → Int32} {wd hg r c a : Nat} (h : r + a = 0 ∨ hg + 1 ≤ r + a) (hr : r + a < 100) (b : Nat) : cellv v wd hg r c a b = nI 0 := by
  unfold cellv
  rw [if_neg]
  rcases h with h | h
  · have h1 : r = 0 := by omega
    have h2 : a = 0 := by omega
    subst h1; subst h2
    rw [show yv 0 0 = -1 by decide, inx_m1]; decide
  · rw [yv_pos (by omega), inx_ge (by omega) (by omega)]; decide
theorem col_o {v : Nat → Int32} {wd hg r c a b : Nat} (h : c + b = 0 ∨ wd + 1 ≤ c + b) (hr : c + b < 100) : cellv v wd hg r c a b = nI 0 := by
  unfold cellv
  split
  · rw [if_neg]
    rcases h with h | h
    · have h1 : c = 0 := by omega
      have h2 : b = 0 := by omega
      subst h1; subst h2
      rw [show yv 0 0 = -1 by decide, inx_m1]; decide
    · rw [yv_pos (by omega), inx_ge (by omega) (by omega)]; decide
  · rfl
theorem rmI3 (v : Nat → Int32) (wd hg r c a : Nat) (s : Int32) : rmI v wd hg r c a s 3 = s + cellv v wd hg r c a 0 + cellv v wd hg r c a 1 + cellv v wd hg r c a 2 := rfl
theorem row_out {v : Nat → Int32} {wd hg r c a : Nat} (s : Int32) (h : r + a = 0 ∨ hg + 1 ≤ r + a) (hr : r + a < 100) : rmI v wd hg r c a s 3 = s := by
  rw [rmI3, row_o h hr, row_o h hr, row_o h hr, i0, i0, i0]
theorem row_in {v : Nat → Int32} {wd hg r c a tp a0 : Nat} (s : Int32) (h1 : 1 ≤ r + a) (h2 : r + a - 1 < hg) (he : tp + a0 = r + a - 1) (hc : c < wd) (hw2 : 2 ≤ wd) (hh : hg ≤ 8) (hw : wd ≤ 8) : rmI v wd hg r c a s 3 = rgi v wd tp (c - 1) a0 s (min (c + 1) (wd - 1) + 1 - (c - 1)) := by
  rw [rmI3]
  rcases Nat.eq_zero_or_pos c with h0 | h0
  · subst h0
    rw [col_o (b := 0) (Or.inl rfl) (by omega), i0, cell_in (b := 1) h1 h2 (by omega) (by omega) hh hw, cell_in (b := 2) h1 h2 (by omega) (by omega) hh hw, show min (0 + 1) (wd - 1) + 1 - (0 - 1) = 2 by omega]
    show _ = s + v ((tp + a0) * wd + (0 - 1 + 0)) + v ((tp + a0) * wd + (0 - 1 + 1))
    rw [he]
  · rcases Nat.lt_or_ge (c + 1) wd with h3 | h3
    · rw [cell_in (b := 0) h1 h2 (by omega) (by omega) hh hw, cell_in (b := 1) h1 h2 (by omega) (by omega) hh hw, cell_in (b := 2) h1 h2 (by omega) (by omega) hh hw, show min (c + 1) (wd - 1) + 1 - (c - 1) = 3 by omega]
      show _ = s + v ((tp + a0) * wd + (c - 1 + 0)) + v ((tp + a0) * wd + (c - 1 + 1)) + v ((tp + a0) * wd + (c - 1 + 2))
      rw [he, show c + 0 - 1 = c - 1 + 0 by omega, show c + 1 - 1 = c - 1 + 1 by omega, show c + 2 - 1 = c - 1 + 2 by omega]
    · rw [cell_in (b := 0) h1 h2 (by omega) (by omega) hh hw, cell_in (b := 1) h1 h2 (by omega) (by omega) hh hw, col_o (b := 2) (Or.inr (by omega)) (by omega), i0, show min (c + 1) (wd - 1) + 1 - (c - 1) = 2 by omega]
      show _ = s + v ((tp + a0) * wd + (c - 1 + 0)) + v ((tp + a0) * wd + (c - 1 + 1))
      rw [he, show c + 0 - 1 = c - 1 + 0 by omega, show c + 1 - 1 = c - 1 + 1 by omega]
theorem rmO3 (v : Nat → Int32) (wd hg r c : Nat) : rmO v wd hg r c 3 = rmI v wd hg r c 2 (rmI v wd hg r c 1 (rmI v wd hg r c 0 0 3) 3) 3 := rfl
theorem rgs_rm (v : Nat → Int32) {wd hg p : Nat} (hp : p < wd * hg) (hw2 : 2 ≤ wd) (hw : wd ≤ 8) (hh2 : 2 ≤ hg) (hh : hg ≤ 8) : rgs v wd hg p = rm v wd hg p := by
  have hr := row_lt hp hw2
  have hc : p % wd < wd := Nat.mod_lt _ (by omega)
  unfold rgs rm
  generalize p / wd = r at hr ⊢
  generalize p % wd = c at hc ⊢
  rw [rmO3]
  rcases Nat.eq_zero_or_pos r with h0 | h0
  · subst h0
    rw [row_out 0 (Or.inl rfl) (by omega), row_in (a := 1) (tp := 0) (a0 := 0) 0 (by omega) (by omega) (by omega) hc hw2 hh hw, row_in (a := 2) (tp := 0) (a0 := 1) _ (by omega) (by omega) (by omega) hc hw2 hh hw, show min (0 + 1) (hg - 1) + 1 - (0 - 1) = 2 by omega]
    rfl
  · rcases Nat.lt_or_ge (r + 1) hg with h3 | h3
    · rw [row_in (a := 0) (tp := r - 1) (a0 := 0) 0 (by omega) (by omega) (by omega) hc hw2 hh hw, row_in (a := 1) (tp := r - 1) (a0 := 1) _ (by omega) (by omega) (by omega) hc hw2 hh hw, row_in (a := 2) (tp := r - 1) (a0 := 2) _ (by omega) (by omega) (by omega) hc hw2 hh hw, show min (r + 1) (hg - 1) + 1 - (r - 1) = 3 by omega]
      rfl
    · rw [row_in (a := 0) (tp := r - 1) (a0 := 0) 0 (by omega) (by omega) (by omega) hc hw2 hh hw, row_in (a := 1) (tp := r - 1) (a0 := 1) _ (by omega) (by omega) (by omega) hc hw2 hh hw, row_out _ (Or.inr (by omega)) (by omega), show min (r + 1) (hg - 1) + 1 - (r - 1) = 2 by omega]
      rfl
theorem cell_cong {v v' : Nat → Int32} {wd hg r c a b : Nat} (h : ∀ p, p < wd * hg → v p = v' p) (hh : hg ≤ 8) (hw : wd ≤ 8) (hr : r + a < 100) (hc : c + b < 100) : cellv v wd hg r c a b = cellv v' wd hg r c a b := by
  by_cases h1 : r + a = 0 ∨ hg + 1 ≤ r + a
  · rw [row_o h1 hr, row_o h1 hr]
  · by_cases h2 : c + b = 0 ∨ wd + 1 ≤ c + b
    · rw [col_o h2 hc, col_o h2 hc]
    · rw [cell_in (by omega) (by omega) (by omega) (by omega) hh hw, cell_in (by omega) (by omega) (by omega) (by omega) hh hw]
      exact h _ (idx_in (by omega) (by omega))
theorem rm_cong {v v' : Nat → Int32} {wd hg p : Nat} (h : ∀ p, p < wd * hg → v p = v' p) (hp : p < wd * hg) (hw2 : 2 ≤ wd) (hh : hg ≤ 8) (hw : wd ≤ 8) : rm v wd hg p = rm v' wd hg p := by
  have hr := row_lt hp hw2
  have hc : p % wd < wd := Nat.mod_lt _ (by omega)
  unfold rm
  generalize p / wd = r at hr ⊢
  generalize p % wd = c at hc ⊢
  rw [rmO3, rmO3]
  simp only [rmI3]
  simp only [cell_cong (b := 0) h hh hw (show r + 0 < 100 by omega) (show c + 0 < 100 by omega), cell_cong (b := 1) h hh hw (show r + 0 < 100 by omega) (show c + 1 < 100 by omega), cell_cong (b := 2) h hh hw (show r + 0 < 100 by omega) (show c + 2 < 100 by omega), cell_cong (b := 0) h hh hw (show r + 1 < 100 by omega) (show c + 0 < 100 by omega), cell_cong (b := 1) h hh hw (show r + 1 < 100 by omega) (show c + 1 < 100 by omega), cell_cong (b := 2) h hh hw (show r + 1 < 100 by omega) (show c + 2 < 100 by omega), cell_cong (b := 0) h hh hw (show r + 2 < 100 by omega) (show c + 0 < 100 by omega), cell_cong (b := 1) h hh hw (show r + 2 < 100 by omega) (show c + 1 < 100 by omega), cell_cong (b := 2) h hh hw (show r + 2 < 100 by omega) (show c + 2 < 100 by omega)]
theorem gr_mbs {v v' : Nat → Int32} {wd hg : Nat} (h : ∀ p, p < wd * hg → rgs v wd hg p = rm v' wd hg p) : ∀ t, t < wd * hg → gr v wd hg t = (mbs v' wd hg t, rm v' wd hg (mbs v' wd hg t))
  | 0, h0 => by
    show (0, rgs v wd hg 0) = (0, rm v' wd hg 0)
    rw [h 0 h0]
  | t + 1, ht => by
    rw [gr_succ, mbs_succ, gr_mbs h t (by omega), h (t + 1) ht]
    show (if rm v' wd hg (t + 1) ≤ rm v' wd hg (mbs v' wd hg t) then _ else _) = _
    by_cases e : rm v' wd hg (t + 1) ≤ rm v' wd hg (mbs v' wd hg t) <;> simp only [e, if_true, if_false]
theorem ring_eq {v v' : Nat → Int32} {wd hg p : Nat} (h : ∀ p, p < wd * hg → v p = v' p) (hp : p < wd * hg) (hw2 : 2 ≤ wd) (hw : wd ≤ 8) (hh2 : 2 ≤ hg) (hh : hg ≤ 8) : rgs v wd hg p = rm v' wd hg p := by
  rw [rgs_rm v hp hw2 hw hh2 hh, rm_cong h hp hw2 hh hw]
theorem best_eq {v v' : Nat → Int32} {wd hg : Nat} (h : ∀ p, p < wd * hg → v p = v' p) (hw2 : 2 ≤ wd) (hw : wd ≤ 8) (hh2 : 2 ≤ hg) (hh : hg ≤ 8) : grb v wd hg = mbb v' wd hg := by
  have := prod4 hw2 hh2
  unfold grb mbb
  rw [gr_mbs (fun p hp => ring_eq h hp hw2 hw hh2 hh) (wd * hg - 1) (by omega)]
