/-! the reference -/
theorem inr_pred (x : Int32) {n : Nat} (h : n < 2 ^ 30) : inr x (nI 0) (nI n - nI 1) = inx x (nI n) := by
  unfold inr inx
  congr 1
  congr 1
  apply decide_eq_decide.mpr
  cases n with
  | zero =>
    show (-1 : Int32) < x ↔ (0 : Int32) ≤ x
    rw [Int32.lt_iff_toInt_lt, Int32.le_iff_toInt_le]
    have h1 : (-1 : Int32).toInt = -1 := by decide
    have h2 : (0 : Int32).toInt = 0 := by decide
    omega
  | succ n =>
    rw [show nI (n + 1) - nI 1 = nI n from nI_pred n, Int32.lt_iff_toInt_lt, Int32.le_iff_toInt_le, nI_toInt (by omega), nI_toInt (by omega)]
    omega
def fnd (fw fm : Nat → Int32) (x : Int32) : Nat → Int32
  | 0 => 0
  | f + 1 => if fw f = x then fnd fw fm x f + fm f else fnd fw fm x f + nI 0
theorem fnd_succ (fw fm : Nat → Int32) (x : Int32) (f : Nat) : fnd fw fm x (f + 1) = if fw f = x then fnd fw fm x f + fm f else fnd fw fm x f + nI 0 := rfl
def fns (so fw fk fm : Nat → Int32) (x : Int32) : Nat → Int32
  | 0 => 0
  | f + 1 => if fw f = x then (if so (tn (fk f)) = nI 1 then fns so fw fk fm x f + nI 0 else fns so fw fk fm x f + fm f) else fns so fw fk fm x f + nI 0
theorem fns_succ (so fw fk fm : Nat → Int32) (x : Int32) (f : Nat) : fns so fw fk fm x (f + 1) = if fw f = x then (if so (tn (fk f)) = nI 1 then fns so fw fk fm x f + nI 0 else fns so fw fk fm x f + fm f) else fns so fw fk fm x f + nI 0 := rfl
theorem tn_lt {x : Int32} {m : Nat} (h : ∃ q, q < m ∧ x = nI q) (hm : m < 2 ^ 31) : x = nI (tn x) ∧ tn x < m := by
  obtain ⟨q, hq, rfl⟩ := h
  rw [tn, nI_clamp (by omega)]
  exact ⟨rfl, hq⟩
def tel (n : Nat) (ro tot : Nat → Int32) (r : Int32) : Int32 × Int32 := bst (fun k => decide (ro k = r)) tot n
theorem tel_succ (ro tot : Nat → Int32) (r : Int32) (i : Nat) : tel (i + 1) ro tot r = if ro i = r then (if tot i ≤ (tel i ro tot r).2 then tel i ro tot r else (nI i, tot i)) else tel i ro tot r := by
  unfold tel
  rw [bst]
  by_cases h : ro i = r <;> simp [h]
def mat (fw fp fk fm : Nat → Int32) (x y z : Int32) : Nat → Int32
  | 0 => 0
  | f + 1 => if fw f = x then (if fp f = y then (if fk f = z then mat fw fp fk fm x y z f + fm f else mat fw fp fk fm x y z f + nI 0) else mat fw fp fk fm x y z f + nI 0) else mat fw fp fk fm x y z f + nI 0
theorem mat_succ (fw fp fk fm : Nat → Int32) (x y z : Int32) (f : Nat) : mat fw fp fk fm x y z (f + 1) = if fw f = x then (if fp f = y then (if fk f = z then mat fw fp fk fm x y z f + fm f else mat fw fp fk fm x y z f + nI 0) else mat fw fp fk fm x y z f + nI 0) else mat fw fp fk fm x y z f + nI 0 := rfl
/-- the walk whose counts are the row's own, in the reference -/
def mtl (nW nF : Nat) (ro fw fm : Nat → Int32) (r : Int32) : Int32 := (tel nW ro (fun i => fnd fw fm (nI i) nF) r).1
def mok (r1 r2 d1 d2 nt bk : Nat → Int32) (w row day : Int32) (l : Nat) : Bool := if inr row (r1 l) (r2 l) = true then (if inr day (d1 l) (d2 l) = true then (if bk l = 0 then (if (nt l >>> (w &&& 31)) &&& nI 1 = 0 then true else false) else false) else false) else false
theorem ldiv_nI {p wd : Nat} (h1 : 2 ≤ wd) (h2 : wd ≤ 8) (hp : p < 64) : nI p / nI wd = nI (p / wd) := pk_div (by omega) (by omega) (by omega)
/-- pairs -/
def mp1 (so wk ro fw fk fm : Nat → Int32) (nF : Nat) (u z : Int32) (a : Nat) (s : Int32) : Nat → Int32
  | 0 => s
  | b + 1 => if wk b = u then (if ro a = ro b then (if z = 0 then mp1 so wk ro fw fk fm nF u z a s b + nI 1 else if z = nI 1 then mp1 so wk ro fw fk fm nF u z a s b + fns so fw fk fm (nI a) nF else mp1 so wk ro fw fk fm nF u z a s b + fns so fw fk fm (nI b) nF) else mp1 so wk ro fw fk fm nF u z a s b) else mp1 so wk ro fw fk fm nF u z a s b
theorem mp1_succ (so wk ro fw fk fm : Nat → Int32) (nF : Nat) (u z : Int32) (a : Nat) (s : Int32) (b : Nat) : mp1 so wk ro fw fk fm nF u z a s (b + 1) = if wk b = u then (if ro a = ro b then (if z = 0 then mp1 so wk ro fw fk fm nF u z a s b + nI 1 else if z = nI 1 then mp1 so wk ro fw fk fm nF u z a s b + fns so fw fk fm (nI a) nF else mp1 so wk ro fw fk fm nF u z a s b + fns so fw fk fm (nI b) nF) else mp1 so wk ro fw fk fm nF u z a s b) else mp1 so wk ro fw fk fm nF u z a s b := rfl
def mp0 (so wk ro fw fk fm : Nat → Int32) (nW nF : Nat) (v u z : Int32) : Nat → Int32
  | 0 => 0
  | a + 1 => if wk a = v then mp1 so wk ro fw fk fm nF u z a (mp0 so wk ro fw fk fm nW nF v u z a) nW else mp0 so wk ro fw fk fm nW nF v u z a
theorem mp0_succ (so wk ro fw fk fm : Nat → Int32) (nW nF : Nat) (v u z : Int32) (a : Nat) : mp0 so wk ro fw fk fm nW nF v u z (a + 1) = if wk a = v then mp1 so wk ro fw fk fm nF u z a (mp0 so wk ro fw fk fm nW nF v u z a) nW else mp0 so wk ro fw fk fm nW nF v u z a := rfl
