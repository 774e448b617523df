/-! making cells -/
def zf : Nat → Int32 := fun _ => 0
def zl : Nat → Int64 := fun _ => 0
def PzN (E : Ev) (A : Nat → Prop) (av : List Value) (ws : va_W) : Array Value → State → Prop := va_Pc av (fun U => va_P (dG E) vwCl ws U.heap ∧ va_K (dG E) vwCl (tyl E.2.2.1) U ∧ Ez E A U ∧ ∀ q : Nat, U.heap.size ≤ q → A q)
def QzN (E : Ev) (A : Nat → Prop) (post : va_W → Prop) : Array Value → State → Outcome → State → Prop := fun _ st oc t => oc = .returned none ∧ (∃ ws', post ws' ∧ va_P (dG E) vwCl ws' t.heap ∧ va_D A ws') ∧ va_F A st t
def CtN (l : Launch) (E : Ev) (y : MethodName) (cd : Cond) (rm : Room) (A : Nat → Prop) (ws : va_W) (av : List Value) (post : va_W → Prop) (mc ms : Nat) : Prop := Met l y (cd :: gtb) rm (PzN E A av ws) (QzN E A post) mc ms A
section NW
variable {p : Program} {l : Launch} {e : Env} {R : Room} {s : State} {m : MethodId} {args : Array Value} {below : List Frame} {meth : Method} {c : Code} {cells slots : Nat} {Q : State → Prop}
variable {E : Ev} {A : Nat → Prop} {nL : Nat} {ws ws' : va_W} {pc : Nat} {lv lv' : List (Nat × Value)} {st : List Value} {own : String} {cc : ByteArray} {ret : Option FieldType}
variable {y : MethodName} {bytes : ByteArray} {maxL n index : Nat} {ret' : Option FieldType} {rm : Room} {As av rest : List Value} {v : Option Value} {b : Nat} {C : String} {mc ms : Nat} {post : va_W → Prop}
theorem pzN_blind : FrameBlind (PzN E A av ws) := fun a U g mk q => ⟨q.1, q.2.1, va_K.moved (u := U) (U := U.calling g mk a) (Vm.Alike.refl U.vm) q.2.2.1, q.2.2.2.1.blind, q.2.2.2.2⟩
theorem CtN.of (hy : plainName y.cls = true) (hlen : (lg_sl av).length ≤ nL) (hlv : lv_args 0 av = lv)
    (body : ∀ (p : Program) (e : Env) (s : State) (m : MethodId) (args : Array Value) (below : List Frame) (meth : Method) (c : Code), Cx p s m args meth c E A y.cls cc nL none → meth.name = y.name → (∀ q : Nat, s.heap.size ≤ q → A q) → G p l e rm s m args below meth c 0 0 (MQ below (QzN E A post) args s mc ms A) E A nL ws (0) lv ([])) : CtN l E y (.code y cc nL none) rm A ws av post mc ms := by
  refine Met.ofW (cc := cc) (maxL := nL) (ret := none) hy rfl ?_
  intro p e s m args below meth c s₁ B hml hv
  obtain ⟨rfl, hP, hK, hE, hA⟩ := hv
  have hts := atoms_spec (ws := .code y cc nL none :: gtb) B.pre
  have hown : s.vm.findClass y.cls = some m.cls := findClass_of_methodNamed B.named
  have hl := lv_entry av (n := nL) hlen
  rw [lg_entry_eq]
  exact body p e s m av.toArray below meth c ⟨⟨B.exec, B.bytes, hml, hown, fun w hw => hts w (List.mem_cons_of_mem _ hw)⟩, hK, B.returns, B.notSynchronized, hE⟩ (name_of_methodNamed B.named B.method).1 hA s.heap [] _ hP va_S.rf (hlv ▸ hl)
theorem g_vretN (hc : Cx p s m args meth c E A own cc nL (none)) (hd : decode cc pc = .ok (.return_, 1)) (hD : va_D A ws) (hp : post ws) (h1 : cells = mc) (h2 : slots = ms) : G p l e R s m args below meth c cells slots (MQ below (QzN E A post) args s mc ms A) E A nL ws (pc) lv ([]) := by
  subst h1; subst h2
  exact fun H locs ls h1 h2 h3 => W.vret hc.1.1 hc.1.2.1 hc.2.2.1 (fun t ht _ => ⟨rfl, ⟨ws, hp, by rw [ht]; exact h1, hD⟩, h2.F ht⟩) h2.2.2 hd hc.2.2.2.1
theorem g_objI (hc : Cx p s m args meth c E A own cc nL ret) {idx a : Nat} (hl : Cond.methodLink own idx Lib.objectInit ∈ gtb) (hd : decode cc pc = .ok (.invokespecial idx, 3)) (hR : 1 ≤ R.frames ∧ (st.map fun v => v.category).sum + 12 ≤ R.locals) (k : G p l e R s m args below meth c cells slots Q E A nL ws (pc + 3) lv (st)) : G p l e R s m args below meth c cells slots Q E A nL ws (pc) lv (.ref a :: st) := fun H locs ls h1 h2 h3 => W.objInit hc.1.1 hc.1.2.1 hc.1.2.2.2.1 (hc.1.2.2.2.2 _ hl) (hc.1.2.2.2.2 _ tw_28) (hc.1.2.2.2.2 _ tw_29) rfl (by rw [hc.1.2.2.1]; exact h3.1) rfl hd hR.1 (by have h := hR.2; show 2 * 0 + _ + 12 ≤ _; omega) (k H locs ls h1 h2 h3)
theorem g_new (hc : Cx p s m args meth c E A own cc nL ret) (hA : ∀ q : Nat, s.heap.size ≤ q → A q) (hD : va_D A ws) {T : u_T} {N ci : Nat} {fs : List Value} (hin : ∀ w ∈ u_ws C T N, w ∈ gtb) (ty : Nat → FieldType) (hty : ∀ k, k < N → parseFieldDescriptor (T k).2.2.1 = some (ty k)) (h1 : Cond.classLink own index C ∈ gtb) (h2 : Cond.instantiable C N ∈ gtb) (h3 : Cond.initialized C ∈ gtb) (hcl : vwCl[ci]? = some (C, T, N)) (hfs : ∀ j, j < N → defaultValue (ty j) = vp_V fs j) (hcells : cells + 1 ≤ R.cells) (hslots : slots + N ≤ R.slots) (hd : decode cc pc = .ok (.new index, 3)) (k : ∀ q : Nat, va_D A (ws ++ [(q, .inr (ci, fs))]) → G p l e R s m args below meth c (cells + 1) (slots + N) Q E A nL (ws ++ [(q, .inr (ci, fs))]) (pc + 3) lv (.ref q :: st)) : G p l e R s m args below meth c cells slots Q E A nL ws (pc) lv (st) := fun H locs ls a1 a2 a3 => va_new hc.1.1 hc.1.2.1 hc.1.2.2.2.2 hin ty hty hc.1.2.2.2.1 (hc.1.2.2.2.2 _ h1) (hc.1.2.2.2.2 _ h2) (hc.1.2.2.2.2 _ h3) hc.2.1 a1 hD a2 hA hcl hfs hcells hslots hd (fun q H1 b1 b2 b3 => k q b2 H1 locs ls b1 b3 a3)
theorem g_newa (hc : Cx p s m args meth c E A own cc nL ret) (hA : ∀ q : Nat, s.heap.size ≤ q → A q) (hD : va_D A ws) {atype : ArrayType} {ty : FieldType} (t0 : Nat) (ht : (tyl E.2.2.1)[t0]? = some (E.2.2.1 t0, ty)) (hra : ∀ (U : State) (cA : ClassId), va_RA U cA ty = (U.vm.findClass ("[" ++ ty.toString) = some cA)) (harr : Cond.arrayClass ty ∈ gtb) (hty : newarray.typeOf atype = ty) {x : Int32} {N' : Nat} (a0 : vp_A) (ha : ∀ cA : ClassId, vp_cell cA a0 = arrV cA N' (fun _ => defaultValue ty)) (hx : x = nI N') (hN : N' < 2 ^ 31) (hb : N' * componentBytes ty ≤ 536870912) (hcells : cells + 1 ≤ R.cells) (hslots : slots + N' ≤ R.slots) (hd : decode cc pc = .ok (.newarray atype, 2)) (k : ∀ q : Nat, va_D A (ws ++ [(q, .inl (E.2.2.1 t0, a0))]) → G p l e R s m args below meth c (cells + 1) (slots + N') Q E A nL (ws ++ [(q, .inl (E.2.2.1 t0, a0))]) (pc + 2) lv (.ref q :: st)) : G p l e R s m args below meth c cells slots Q E A nL ws (pc) lv (.int x :: st) := by
  subst hx
  intro H locs ls a1 a2 a3
  refine va_newa hc.1.1 hc.1.2.1 (by rw [hty]; exact hc.1.2.2.2.2 _ harr) hty hc.2.1 a1 hD a2 hA ha (nI_pos hN) (nI_clamp hN) hb hcells hslots hd (fun q cA H1 b0 b1 b2 b3 => ?_)
  have e1 := (b0.2 5 (cA, ty) rfl).2
  have e2 := (hc.2.1.2 t0 _ ht).2
  rw [hra] at e1 e2
  have e : cA = E.2.2.1 t0 := Option.some.inj (e1.symm.trans e2)
  subst e
  exact k q b2 H1 locs ls b1 b3 a3
theorem g_putF (hc : Cx p s m args meth c E A own cc nL ret) (hin2 : meth.name = "<init>") {ref : String} {T : u_T} {N ci a : Nat} {fs : List Value} {v : Value} {ty : FieldType} (hD : va_D A ws) (hin : ∀ w ∈ u_ws C T N, w ∈ gtb) (ty0 : Nat → FieldType) (hty : ∀ k, k < N → parseFieldDescriptor (T k).2.2.1 = some (ty0 k)) (hnm : ∀ a, a < N → ∀ b, b < N → a ≠ b → (T a).2.1 ≠ (T b).2.1) (q0 : Nat) (he : ws[q0]? = some (a, .inr (ci, fs))) (hcl : vwCl[ci]? = some (C, T, N)) (k0 : Nat) (hk : k0 < N) (hlink : Cond.fieldLink own index ref (T k0).2.1 (T k0).2.2.1 ∈ gtb) (hrf : (T k0).1 = ref) (hfin : (T k0).2.2.2 = true) (hdecl : (T k0).1 = own) (hdd : parseFieldDescriptor (T k0).2.2.1 = some ty) (hn : narrow ty v = v) (hfit : fits ty v = true) (hl : k0 < fs.length) (hw : ws.set q0 (a, .inr (ci, fs.set k0 v)) = ws') (hd : decode cc pc = .ok (.putfield index, 3)) (k : va_D A ws' → G p l e R s m args below meth c cells slots Q E A nL ws' (pc + 3) lv (st)) : G p l e R s m args below meth c cells slots Q E A nL ws (pc) lv (v :: .ref a :: st) := fun H locs ls h1 h2 h3 => va_putF hc.1.1 hc.1.2.1 hc.1.2.2.2.2 hin ty0 hty hnm hc.1.2.2.2.1 hc.2.1 h1 hD h2 q0 he hcl k0 hk (hc.1.2.2.2.2 _ hlink) (fun _ h9 => hrf ▸ h9) hfin hin2 hdecl hdd hn hfit hl hd (fun H1 locs1 a1 a2 a3 => k (hw ▸ a2) H1 locs1 ls (hw ▸ a1) a3 h3)
theorem g_putN (hc : Cx p s m args meth c E A own cc nL ret) {ref : String} {T : u_T} {N ci a : Nat} {fs : List Value} {v : Value} {ty : FieldType} (hD : va_D A ws) (hin : ∀ w ∈ u_ws C T N, w ∈ gtb) (ty0 : Nat → FieldType) (hty : ∀ k, k < N → parseFieldDescriptor (T k).2.2.1 = some (ty0 k)) (hnm : ∀ a, a < N → ∀ b, b < N → a ≠ b → (T a).2.1 ≠ (T b).2.1) (q0 : Nat) (he : ws[q0]? = some (a, .inr (ci, fs))) (hcl : vwCl[ci]? = some (C, T, N)) (k0 : Nat) (hk : k0 < N) (hlink : Cond.fieldLink own index ref (T k0).2.1 (T k0).2.2.1 ∈ gtb) (hrf : (T k0).1 = ref) (hfin : (T k0).2.2.2 = false) (hdd : parseFieldDescriptor (T k0).2.2.1 = some ty) (hn : narrow ty v = v) (hfit : fits ty v = true) (hl : k0 < fs.length) (hw : ws.set q0 (a, .inr (ci, fs.set k0 v)) = ws') (hd : decode cc pc = .ok (.putfield index, 3)) (k : va_D A ws' → G p l e R s m args below meth c cells slots Q E A nL ws' (pc + 3) lv (st)) : G p l e R s m args below meth c cells slots Q E A nL ws (pc) lv (v :: .ref a :: st) := fun H locs ls h1 h2 h3 => va_put hc.1.1 hc.1.2.1 hc.1.2.2.2.2 hin ty0 hty hnm hc.1.2.2.2.1 hc.2.1 h1 hD h2 q0 he hcl k0 hk (hc.1.2.2.2.2 _ hlink) (fun _ h9 => hrf ▸ h9) hfin hdd hn hfit hl hd (fun H1 locs1 a1 a2 a3 => k (hw ▸ a2) H1 locs1 ls (hw ▸ a1) a3 h3)
theorem va_D_set {a : Nat} {x y : va_E} (hD : va_D A ws) (q0 : Nat) (he : ws[q0]? = some (a, x)) (hw : ws.set q0 (a, y) = ws') : va_D A ws' := by rw [← hw]; exact va_D.set hD he
theorem w_runN {H : Heap} {locs : List Loc} {ls : Array Slot} {st0 : List Value} {a : Array Value} (hr : va_Run p l e R s m args below meth c H locs cells slots mc ms (F0 m pc ls st0) rest (QzN E A post a) A) (hS : va_S A s.heap H locs)
    (kk : ∀ (ws' : va_W) (H1 : Heap) (locs1 : List Loc), post ws' → va_D A ws' → va_P (dG E) vwCl ws' H1 → va_S A s.heap H1 locs1 → W p l e R s m args below meth c H1 locs1 (cells + mc) (slots + ms) Q (F0 m (pc + 3) ls (rest))) : W p l e R s m args below meth c H locs cells slots Q (F0 m pc ls st0) := by
  intro T hT X
  obtain ⟨v', st₀, t, T', L, h0, X', hL, e1, e2, ⟨hv, ⟨ws', hp0, hp, hD⟩, hz, hk⟩, st⟩ := hr T hT X
  cases hv
  rw [h0] at hz hk
  obtain ⟨t2, a1, b1⟩ := kk ws' T'.heap (locs ++ L) hp0 hD (by rw [e1]; exact hp) ⟨Nat.le_trans hS.1 (by rw [e1]; exact hz), fun q h1 h2 => by rw [e1, hk q (Nat.lt_of_lt_of_le h1 hS.1) h2]; exact hS.2.1 q h1 h2, fun q hq => by
      rcases List.mem_append.mp hq with h | h
      · exact hS.2.2 q h
      · exact hL q h⟩ T' rfl X'
  exact ⟨t2, st t2 a1, b1⟩
theorem g_callI {st0 : List Value} (hc : Cx p s m args meth c E A own cc nL ret) (hA : ∀ q : Nat, s.heap.size ≤ q → A q) (hM : CtN l E y (.code y bytes maxL none) rm A ws (.ref b :: As) post mc ms) (hi : Mi y bytes maxL none n) (hni : y.name = "<init>") (him : Cond.instanceMethod y ∈ gtb) (hl : Cond.methodLink own index y ∈ gtb) (hn : As.length = n) (hR : rm.cells = mc ∧ rm.slots = ms ∧ rm.frames + 1 ≤ R.frames ∧ 8 + (maxL + 11) + rm.locals ≤ R.locals) (hW : (rest.map fun v => v.category).sum ≤ 8) (hcs : cells + mc ≤ R.cells ∧ slots + ms ≤ R.slots) (hst : st0 = As.reverse ++ .ref b :: rest) (hd : decode cc pc = .ok (.invokespecial index, 3)) (k : ∀ ws' : va_W, post ws' → va_D A ws' → G p l e R s m args below meth c (cells + mc) (slots + ms) Q E A nL ws' (pc + 3) lv (rest)) : G p l e R s m args below meth c cells slots Q E A nL ws (pc) lv (st0) := by
  subst hst
  intro H locs ls h1 h2 h3
  exact w_runN (rest := rest) (va_runI (As := As) (rest := rest) (b := b) hc.1 hM ⟨callB_of n hc.1.2.2.2.2 (gtb_good (fun _ h => h) hi.1) rfl hR.1 hR.2.1 (hc.1.2.2.2.2 _ hi.2.1) (hc.1.2.2.2.2 _ hl) hi.2.2 ⟨hR.2.2.1, hR.2.2.2⟩, hni, hc.1.2.2.2.2 _ him⟩ ⟨pzN_blind, fun U hU hW => ⟨rfl, by rw [hU]; exact h1, va_K.moved hW.alike hc.2.1, hc.2.2.2.2.at h2 hU hW, fun q hq => hA q (Nat.le_trans h2.1 (by rw [← hU]; exact hq))⟩⟩ rfl hn h3.1 rfl (lv_room hW) hd hcs) h2 (fun ws' H1 locs1 a0 aD a1 a2 => k ws' a0 aD H1 locs1 ls a1 a2 h3)
theorem g_callIN {st0 : List Value} {host : String} (hc : Cx p s m args meth c E A own cc nL ret) (hA : ∀ q : Nat, s.heap.size ≤ q → A q) (hM : CtN l E y (.code y bytes maxL none) rm A ws (.ref b :: As) post mc ms) (hi : Mi y bytes maxL none n) (hni : y.name = "<init>") (him : Cond.instanceMethod y ∈ gtb) (hl : (own, index, y, host) ∈ nst) (hn : As.length = n) (hR : rm.cells = mc ∧ rm.slots = ms ∧ rm.frames + 1 ≤ R.frames ∧ 8 + (maxL + 11) + rm.locals ≤ R.locals) (hW : (rest.map fun v => v.category).sum ≤ 8) (hcs : cells + mc ≤ R.cells ∧ slots + ms ≤ R.slots) (hst : st0 = As.reverse ++ .ref b :: rest) (hd : decode cc pc = .ok (.invokespecial index, 3)) (k : ∀ ws' : va_W, post ws' → va_D A ws' → G p l e R s m args below meth c (cells + mc) (slots + ms) Q E A nL ws' (pc + 3) lv (rest)) : G p l e R s m args below meth c cells slots Q E A nL ws (pc) lv (st0) := by
  subst hst
  intro H locs ls h1 h2 h3
  exact w_runN (rest := rest) (va_runIN (host := host) (As := As) (rest := rest) (b := b) hc.1 hM ⟨⟨⟨hR.1, hR.2.1, hR.2.2.1, hR.2.2.2, pay_in hc.1.2.2.2.2 (gtb_good (fun _ h => h) hi.1), List.mem_cons_self⟩, hc.1.2.2.2.2 _ hi.1, hc.1.2.2.2.2 _ hi.2.1, ⟨hi.2.2.1, hi.2.2.2.1⟩, fun sig h => by have h2 := hi.2.2.2.2; rw [h] at h2; exact (Option.some.inj h2).symm, va_Nw.use rfl (hc.2.2.2.2.1 _ hl)⟩, hni, hc.1.2.2.2.2 _ him⟩ ⟨pzN_blind, fun U hU hW => ⟨rfl, by rw [hU]; exact h1, va_K.moved hW.alike hc.2.1, hc.2.2.2.2.at h2 hU hW, fun q hq => hA q (Nat.le_trans h2.1 (by rw [← hU]; exact hq))⟩⟩ rfl hn h3.1 rfl (lv_room hW) hd hcs) h2 (fun ws' H1 locs1 a0 aD a1 a2 => k ws' a0 aD H1 locs1 ls a1 a2 h3)
end NW
theorem oka_of {n : Nat} {ad : Nat → Nat} {A : Nat → Prop} {ws : va_W} (h : va_D A ws) (hm : ws.map (fun q => q.1) = (List.range n).map ad) : Oka n ad A := by
  have key : ∀ k, k < n → ∃ q : Nat × va_E, ws[k]? = some q ∧ q.1 = ad k := by
    intro k hk
    have h1 : (ws.map (fun q => q.1))[k]? = some (ad k) := by rw [hm, List.getElem?_map, List.getElem?_range hk]; rfl
    rw [List.getElem?_map] at h1
    cases h2 : ws[k]? with
    | none => rw [h2] at h1; cases h1
    | some q => rw [h2] at h1; exact ⟨q, rfl, Option.some.inj h1⟩
  refine ⟨fun i j hi hj e => ?_, fun i hi => ?_⟩
  · obtain ⟨p, p1, p2⟩ := key i hi
    obtain ⟨q, q1, q2⟩ := key j hj
    exact h.1 i j p q p1 q1 (by rw [p2, q2]; exact e)
  · obtain ⟨p, p1, p2⟩ := key i hi
    rw [← p2]; exact h.2 i p p1
