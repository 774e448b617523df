def cts (so : Nat → Int32) (j : Nat) (v : Int32) : Bool := if v = 0 then true else if so j = v then true else if v = nI 2 then (if so j = nI 3 then true else false) else false
def wgt (so : Nat → Int32) (j : Nat) : Int32 := if so j = nI 3 then nI 3 else if so j = nI 2 then nI 2 else nI 1
def brn (n : Int32) (ta : Nat → Int32) (x : Int32) (c j : Nat) : Int32 := if inx x n = true then ta ((x.toNatClampNeg * 8 + c) * 4 + j) else 0
def smo (n : Int32) (su : Nat → Int32) (x : Int32) (j : Nat) : Int32 := if inx x n = true then su (x.toNatClampNeg * 4 + j) else 0
theorem smo_nI {n : Int32} {nW : Nat} {su : Nat → Int32} {i j : Nat} (hW : n = nI nW) (h60 : nW ≤ 60) (hi : i < nW) : smo n su (nI i) j = su (i * 4 + j) := by
  rw [smo, hW, if_pos (inx_nI hi (by omega)), nI_clamp (by omega)]
theorem brn_nI {n : Int32} {nW : Nat} {ta : Nat → Int32} {i c j : Nat} (hW : n = nI nW) (h60 : nW ≤ 60) (hi : i < nW) : brn n ta (nI i) c j = ta ((i * 8 + c) * 4 + j) := by
  rw [brn, hW, if_pos (inx_nI hi (by omega)), nI_clamp (by omega)]
def ctot (su : Nat → Int32) (i : Nat) : Int32 := sm (fun k => su (i * 4 + k)) 4
def tls (ro su : Nat → Int32) (r : Int32) (i : Nat) : Int32 × Int32 := bst (fun k => decide (ro k = r)) (ctot su) i
theorem tls_succ (ro su : Nat → Int32) (r : Int32) (i : Nat) : tls ro su r (i + 1) = if ro i = r then (if ctot su i ≤ (tls ro su r i).2 then tls ro su r i else (nI i, ctot su i)) else tls ro su r i := by
  unfold tls
  rw [bst]
  by_cases h : ro i = r <;> simp [h]
def ctel (n : Nat) (ro su : Nat → Int32) (r : Int32) : Int32 := (tls ro su r n).1
