theorem nI_di {a : Nat} (h : 0 < a) : nI a + Int32.ofInt (-1) = nI (a - 1) := sb_m1 h
theorem col_eq (p wd : Nat) : nI p - nI (p / wd * wd) = nI (p % wd) := by
  have h : p / wd * wd ≤ p := Nat.div_mul_le_self p wd
  rw [pk_sub h]
  congr 1
  have := Nat.div_add_mod p wd
  rw [Nat.mul_comm] at this
  omega
def brb (b : Int64) (x : Int32) : Bool := !decide (lg_cmp ((b.toUInt64 >>> (x.toInt64.toUInt64 &&& Int64.toUInt64 63)).toInt64 &&& 1) 0 = 0)
def dgb (b : Int64) (x y : Int32) : Int64 := if y = 0 then b &&& ((1 <<< (x.toInt64 &&& 63)) ^^^ (-1)) else b ||| (1 <<< (x.toInt64 &&& 63))
def prb (wk ro : Nat → Int32) (i j : Nat) : Bool := if ro i = ro j then (if wk i = wk j then false else true) else false
def wbs (wk ro : Nat → Int32) (i : Nat) (v : Int32) : Nat → Int32
  | 0 => 0
  | j + 1 => if wk j = v then (if prb wk ro i j = true then wbs wk ro i v j + 1 else wbs wk ro i v j) else wbs wk ro i v j
theorem wbs_succ (wk ro : Nat → Int32) (i : Nat) (v : Int32) (j : Nat) : wbs wk ro i v (j + 1) = if wk j = v then (if prb wk ro i j = true then wbs wk ro i v j + 1 else wbs wk ro i v j) else wbs wk ro i v j := rfl
def csn (so su : Nat → Int32) (i : Nat) : Nat → Int32
  | 0 => 0
  | j + 1 => if decide (so j = nI 1) = true then csn so su i j else csn so su i j + su (i * 4 + j)
theorem csn_succ (so su : Nat → Int32) (i j : Nat) : csn so su i (j + 1) = if decide (so j = nI 1) = true then csn so su i j else csn so su i j + su (i * 4 + j) := rfl
def cseen (so su : Nat → Int32) (i : Nat) : Int32 := csn so su i 4
def prs (wk ro : Nat → Int32) (v u : Int32) (n : Nat) : Nat → Int32
  | 0 => 0
  | i + 1 => if wk i = v then prs wk ro v u n i + wbs wk ro i u n else prs wk ro v u n i
theorem prs_succ (wk ro : Nat → Int32) (v u : Int32) (n i : Nat) : prs wk ro v u n (i + 1) = if wk i = v then prs wk ro v u n i + wbs wk ro i u n else prs wk ro v u n i := rfl
def sbs (so wk ro su : Nat → Int32) (v u : Int32) (n : Nat) : Nat → Int32
  | 0 => 0
  | i + 1 => if wk i = v then sbs so wk ro su v u n i + cseen so su i * wbs wk ro i u n else sbs so wk ro su v u n i
theorem sbs_succ (so wk ro su : Nat → Int32) (v u : Int32) (n i : Nat) : sbs so wk ro su v u n (i + 1) = if wk i = v then sbs so wk ro su v u n i + cseen so su i * wbs wk ro i u n else sbs so wk ro su v u n i := rfl
def hs1 (so wk ro su : Nat → Int32) (i : Nat) (b : Int32) : Nat → Int32
  | 0 => b
  | j + 1 => if prb wk ro i j = true then hs1 so wk ro su i b j + cseen so su i else hs1 so wk ro su i b j
theorem hs1_succ (so wk ro su : Nat → Int32) (i : Nat) (b : Int32) (j : Nat) : hs1 so wk ro su i b (j + 1) = if prb wk ro i j = true then hs1 so wk ro su i b j + cseen so su i else hs1 so wk ro su i b j := rfl
def hb1 (so wk ro su : Nat → Int32) (i : Nat) (b : Int32) : Nat → Int32
  | 0 => b
  | j + 1 => if prb wk ro i j = true then hb1 so wk ro su i b j + mxI (cseen so su i) (cseen so su j) else hb1 so wk ro su i b j
theorem hb1_succ (so wk ro su : Nat → Int32) (i : Nat) (b : Int32) (j : Nat) : hb1 so wk ro su i b (j + 1) = if prb wk ro i j = true then hb1 so wk ro su i b j + mxI (cseen so su i) (cseen so su j) else hb1 so wk ro su i b j := rfl
def hS (so wk ro su : Nat → Int32) (v : Int32) (n : Nat) : Nat → Int32
  | 0 => 0
  | i + 1 => if wk i = v then hs1 so wk ro su i (hS so wk ro su v n i) n else hS so wk ro su v n i
theorem hS_succ (so wk ro su : Nat → Int32) (v : Int32) (n i : Nat) : hS so wk ro su v n (i + 1) = if wk i = v then hs1 so wk ro su i (hS so wk ro su v n i) n else hS so wk ro su v n i := rfl
def hB (so wk ro su : Nat → Int32) (v : Int32) (n : Nat) : Nat → Int32
  | 0 => 0
  | i + 1 => if wk i = v then hb1 so wk ro su i (hB so wk ro su v n i) n else hB so wk ro su v n i
theorem hB_succ (so wk ro su : Nat → Int32) (v : Int32) (n i : Nat) : hB so wk ro su v n (i + 1) = if wk i = v then hb1 so wk ro su i (hB so wk ro su v n i) n else hB so wk ro su v n i := rfl
def hund (so wk ro su : Nat → Int32) (v : Int32) (n : Nat) : Int32 := if hB so wk ro su v n n ≤ 0 then nI 100 else nI 100 * hS so wk ro su v n n / hB so wk ro su v n n
def oft (so wk ro su : Nat → Int32) (n : Nat) (x : Int32) : Int32 := if inx x (nI n) = true then hund so wk ro su (wk x.toNatClampNeg) n else nI 100
def amd (so : Nat → Int32) (j : Nat) (x e : Int32) : Int32 := if x = 0 then x else if decide (so j = nI 1) = true then x else if e ≤ 0 then nI 9999 else mnI (x * nI 100 / e) (nI 9999)
