/-! the reference: sheets and what is left -/
def zrs (f : Nat → Int32) (o : Nat) : Nat → Nat → Int32
  | 0 => f
  | i + 1 => upd (zrs f o i) (o + i) (nI 0)
def cpO (h f : Nat → Int32) (o : Nat) : Nat → Nat → Int32
  | 0 => f
  | i + 1 => upd (cpO h f o i) (o + i) (h i)
def cms (a b : Int32) : Bool := if a < 0 then true else if 0 ≤ b then false else true
def cok (y u t a b : Int32) : Bool := if y < 0 then false else if u < 0 then false else if t < 0 then false else if 0 < lg_cmp (y.toInt64 + t.toInt64) a.toInt64 then false else if lg_cmp (u.toInt64 + t.toInt64) b.toInt64 ≤ 0 then true else false
def mgs (nW nF : Nat) (ro fw fm : Nat → Int32) : Nat → Int32
  | 0 => nI 0
  | r + 1 => if 0 ≤ mtl nW nF ro fw fm (nI r) then mgs nW nF ro fw fm r + nI 0 else mgs nW nF ro fw fm r + nI 1
theorem mgs_succ (nW nF : Nat) (ro fw fm : Nat → Int32) (r : Nat) : mgs nW nF ro fw fm (r + 1) = if 0 ≤ mtl nW nF ro fw fm (nI r) then mgs nW nF ro fw fm r + nI 0 else mgs nW nF ro fw fm r + nI 1 := rfl
def bks (bk : Nat → Int32) : Nat → Int32
  | 0 => nI 0
  | l + 1 => if bk l = 0 then bks bk l + nI 1 else bks bk l + nI 0
theorem bks_succ (bk : Nat → Int32) (l : Nat) : bks bk (l + 1) = if bk l = 0 then bks bk l + nI 1 else bks bk l + nI 0 := rfl
def ems (em : Nat → Int32) : Nat → Int32
  | 0 => nI 0
  | p + 1 => if em p = 0 then ems em p + nI 0 else ems em p + nI 1
theorem ems_succ (em : Nat → Int32) (p : Nat) : ems em (p + 1) = if em p = 0 then ems em p + nI 0 else ems em p + nI 1 := rfl
theorem sh_of {x : Int32} (h1 : 0 ≤ x) (h2 : x ≤ nI 64) : ∃ n, n ≤ 64 ∧ x = nI n := by
  obtain ⟨n, hn, rfl⟩ := nI_of (Int32.not_lt.mpr h1)
  exact ⟨n, (nI_le_iff hn (by decide)).mp h2, rfl⟩
