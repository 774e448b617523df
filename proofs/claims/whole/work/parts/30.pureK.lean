section AR
variable {p : Program} {l : Launch} {e : Env} {R : Room} {s : State} {m : MethodId} {args : Array Value} {below : List Frame} {meth : Method} {c : Code} {cells slots : Nat}
variable {E : Ev} {A : Nat → Prop} {nL : Nat} {ws ws' : va_W} {pc : Nat} {lv : List (Nat × Value)} {own : String} {cc : ByteArray} {rt : FieldType} {v : Option Value}
theorem g_aret (hc : Cx p s m args meth c E A own cc nL (some rt)) {x : Nat} (hd : decode cc pc = .ok (.areturn, 1)) (hn : ∃ n, rt = .object n) (hv : v = some (.ref x)) (hw : ws = ws') : G p l e R s m args below meth c cells slots (MQ below (Qz E A v ws') args s cells slots A) E A nL ws (pc) lv [.ref x] := by
  subst hv; subst hw
  exact fun H locs ls h1 h2 h3 => W.aret hc.1.1 hc.1.2.1 hc.2.2.1 (Or.inl hn) (Or.inr ⟨_, rfl⟩) (fun t ht _ => ⟨rfl, by rw [ht]; exact h1, h2.F ht⟩) h2.2.2 hd hc.2.2.2.1
end AR
abbrev tn (x : Int32) : Nat := x.toNatClampNeg
def ok2 (a b : Bool) : Bool := if a = true then b else false
theorem ok2_t {a b : Bool} (h1 : a = true) (h2 : b = true) : ok2 a b = true := by rw [ok2, if_pos h1]; exact h2
theorem ok2_f1 {a b : Bool} (h1 : a = false) : ok2 a b = false := by rw [ok2, if_neg (ne_true_of_eq_false h1)]
theorem ok2_f2 {a b : Bool} (h1 : a = true) (h2 : b = false) : ok2 a b = false := by rw [ok2, if_pos h1]; exact h2
def letok (g : Int32) (p : Nat → Bool) (n : Nat) : Bool := if g ≤ 0 then true else if fstL p n = (-1) then false else true
def cfo (n : Int32) (nW : Nat) (ro su : Nat → Int32) (k : Nat) : Nat → Int32
  | 0 => 0
  | r + 1 => cfo n nW ro su k r + smo n su (ctel nW ro su (nI r)) k
def gps (nW : Nat) (ro su : Nat → Int32) : Nat → Int32
  | 0 => 0
  | r + 1 => if ctel nW ro su (nI r) = (-1) then gps nW ro su r + 1 else gps nW ro su r
theorem gps_succ (nW : Nat) (ro su : Nat → Int32) (r : Nat) : gps nW ro su (r + 1) = if ctel nW ro su (nI r) = (-1) then gps nW ro su r + 1 else gps nW ro su r := rfl
/-- the i-th find of a walk at a pace, or -1: (its number or -1, how many are ahead) -/
def iwa (wk pa : Nat → Int32) (x y : Int32) : Nat → Int32
  | 0 => 0
  | f + 1 => if wk f = x then (if pa f = y then iwa wk pa x y f + 1 else iwa wk pa x y f) else iwa wk pa x y f
theorem iwa_succ (wk pa : Nat → Int32) (x y : Int32) (f : Nat) : iwa wk pa x y (f + 1) = if wk f = x then (if pa f = y then iwa wk pa x y f + 1 else iwa wk pa x y f) else iwa wk pa x y f := rfl
def hit (wk pa : Nat → Int32) (x y z : Int32) (f : Nat) : Bool := if wk f = x then (if pa f = y then (if iwa wk pa x y f = z then true else false) else false) else false
def cotI (F : Nat → Int32) (f : Nat → Int32) : Nat → Nat → Int32
  | 0 => f
  | k + 1 => upd (cotI F f k) k (F k)
