/-! THE CLAIM OUT OF ONE WALK OF THE LAW'S BODY. Your part is whole_start (and what it stands on); all else here is the same for every law, but numbers. -/
def R_law : String := "SherdFieldLaw"
def lw_P (b : Addr) (xs : List Int32) (args : Array Value) (s : State) : Prop := args = #[.ref b] ∧ s.IntsAt b xs ∧ xs.length ≤ 3072 ∧ (Jvm.Cond.and given_1 narrow_1).before args s = true
def lw_Q (_ : Array Value) (s : State) (o : Outcome) (t : State) : Prop := o = .returned (some (.int 1)) ∧ Framed s o t [] 69 5511
def lw_Z (below : List Frame) (a : Array Value) (s : State) : State → Prop := fun t => ∃ o, t.status = .running ∧ Ended t below o ∧ lw_Q a s o t
/-- the law's own end, with 1 on the stack, nothing written that was there before, its room as the claim has it -/
theorem lw_ret {p : Program} {l : Launch} {e : Env} {s : State} {m : MethodId} {below : List Frame} {meth : Method} {c : Code} {b : Nat} (hx : p.tables.exec = Jvm.exec) (hb : c.code = code) (hr : meth.sig.returnType = ret) (hlocks : meth.locks = false) {pc : Nat} {H : Heap} {ls : Array Slot} (hdg : decode code pc = .ok (.ireturn, 1)) : W p l e room_1 s m #[Value.ref b] below meth c H [] 69 5511 (lw_Z below #[Value.ref b] s) (F0 m pc ls [.int 1]) := by
  intro T hT X
  obtain ⟨fs, hret, hrun, hended, hW, hframe⟩ := X.leave (v := some (.int 1)) (hlocks := hlocks) (fun h => by rw [hr] at h; cases h)
  have hmeth' : T.vm.method? m = some meth := X.method'
  refine ⟨T.setFrames fs, ?_, .returned (some (.int 1)), hrun, hended, rfl, ⟨_, rfl⟩, hW, hframe⟩
  jvm_step X.here [X.here.top, hx, hb, hdg, hmeth', hr, ret, narrow_b1]
  (try refine ⟨rfl, ?_⟩); (try refine ⟨rfl, ?_⟩)
  first | (intro acts; rw [hret _ acts rfl rfl rfl]) | rw [hret _ _ rfl rfl rfl]
  exact Steps.refl _
/-- what holds at the law's entry: the machine, the code, the tables' words (any of lw_tbl by 'hts w (by decide +kernel)'), the script of L ints xs at the cell b, what the Statement gives of the start (any of its parts by flat_of_before) -/
def lw_At (p : Program) (s : State) (m : MethodId) (meth : Method) (c : Code) (b L : Nat) (xs : Nat → Int32) : Prop :=
  p.tables.exec = Jvm.exec ∧ c.code = code ∧ meth.sig.returnType = ret ∧ c.maxLocals = 4 ∧ s.vm.findClass R_law = some m.cls ∧ (∀ w ∈ lw_tbl, w.before #[Value.ref b] s = true) ∧ va_X b L xs s s.heap ∧ b < s.heap.size ∧ meth.locks = false ∧ (Jvm.Cond.and given_1 narrow_1).before #[Value.ref b] s = true
/-! the frame rule, and rows for the law -/
theorem Ez.narrow {E : Ev} {A B : Nat → Prop} {U : State} (h : Ez E A U) (hAB : ∀ q, B q → A q) : Ez E B U := ⟨h.1, h.2.1.narrow hAB, h.2.2.1, h.2.2.2.1.narrow hAB, h.2.2.2.2.narrow hAB⟩
theorem mt_conseq {l : Launch} {y : MethodName} {ws : List Cond} {rm : Room} {Pc Pc' : Array Value → State → Prop} {Qc Qc' : Array Value → State → Outcome → State → Prop} {mc ms : Nat} {free free' : Addr → Prop} (h : Met l y ws rm Pc Qc mc ms free) (hp : ∀ a s, Pc' a s → Pc a s) (hq : ∀ a s o t, Pc' a s → Qc a s o t → Qc' a s o t) (hf : ∀ q, free q → free' q) : Met l y ws rm Pc' Qc' mc ms free' := by
  intro p e ha hc hk s m args below hfr happ hP hK
  obtain ⟨n, o, h1, h2, h3, hQ, L, hF, hL⟩ := h p e ha hc hk s m args below hfr happ (hp _ _ hP) hK
  exact ⟨n, o, h1, h2, h3, hq _ _ _ _ hP hQ, L, hF, fun q hq' => hf _ (hL q hq')⟩
section FR
variable {D : va_G} {cl : List vw_C} {w1 w2 w1' w2' : va_W} {H H1 : Heap} {A A' : Nat → Prop} {l : Launch} {E : Ev} {y : MethodName} {cd : Cond} {rm : Room} {av : List Value} {v : Option Value}
theorem va_keep {w : va_W} (h : va_P D cl w H) (hk : ∀ q : Nat, q < H.size → ¬ A q → H1[q]? = H[q]?) (hd : ∀ (k : Nat) (q : Nat × va_E), w[k]? = some q → ¬ A q.1) : va_P D cl w H1 := h.kept (fun k q hq => hk q.1 ((h k q hq).lt) (hd k q hq))
theorem va_P_l (h : va_P D cl (w1 ++ w2) H) : va_P D cl w1 H := fun k q hq => h k q (by rw [List.getElem?_append_left (List.getElem?_eq_some_iff.mp hq).1]; exact hq)
theorem va_P_r (h : va_P D cl (w1 ++ w2) H) : va_P D cl w2 H := fun k q hq => h (w1.length + k) q (by rw [List.getElem?_append_right (by omega), Nat.add_sub_cancel_left]; exact hq)
theorem Ct.frameL (h : Ct l E y cd rm A w1 av v w1') (hA : ∀ q, A q → A' q) (hd : ∀ (k : Nat) (q : Nat × va_E), w2[k]? = some q → ¬ A q.1) : Ct l E y cd rm A' (w1 ++ w2) av v (w1' ++ w2) :=
  mt_conseq h (fun a s hp => ⟨hp.1, va_P_l hp.2.1, hp.2.2.1, hp.2.2.2.narrow hA⟩) (fun a s o t hp hq => ⟨hq.1, hq.2.1.app (va_keep (va_P_r hp.2.1) hq.2.2.2 hd), hq.2.2.1, fun q h1 h2 => hq.2.2.2 q h1 (fun z => h2 (hA q z))⟩) hA
theorem Ct.frameR (h : Ct l E y cd rm A w2 av v w2') (hA : ∀ q, A q → A' q) (hd : ∀ (k : Nat) (q : Nat × va_E), w1[k]? = some q → ¬ A q.1) : Ct l E y cd rm A' (w1 ++ w2) av v (w1 ++ w2') :=
  mt_conseq h (fun a s hp => ⟨hp.1, va_P_r hp.2.1, hp.2.2.1, hp.2.2.2.narrow hA⟩) (fun a s o t hp hq => ⟨hq.1, (va_keep (va_P_l hp.2.1) hq.2.2.2 hd).app hq.2.1, hq.2.2.1, fun q h1 h2 => hq.2.2.2 q h1 (fun z => h2 (hA q z))⟩) hA
/-- the addresses of a world -/
def adr (w : va_W) (q : Nat) : Prop := ∃ (k : Nat) (x : Nat × va_E), w[k]? = some x ∧ x.1 = q
theorem CtN.frameR {post : va_W → Prop} {mc ms : Nat} (h : CtN l E y cd rm (fun q => A' q ∧ ¬ adr w1 q) w2 av post mc ms) (hD : va_D A' w1) : CtN l E y cd rm A' (w1 ++ w2) av (fun wz => ∃ w2', post w2' ∧ wz = w1 ++ w2') mc ms := by
  have hd : ∀ (k : Nat) (q : Nat × va_E), w1[k]? = some q → ¬ (A' q.1 ∧ ¬ adr w1 q.1) := fun k q hq z => z.2 ⟨k, q, hq, rfl⟩
  refine mt_conseq h (fun a s hp => ⟨hp.1, va_P_r hp.2.1, hp.2.2.1, hp.2.2.2.1.narrow (fun q z => z.1), fun q hq => ⟨hp.2.2.2.2 q hq, ?_⟩⟩) (fun a s o t hp hq => ?_) (fun q z => z.1)
  · rintro ⟨k, x, hx, e⟩
    have := ((va_P_l hp.2.1) k x hx).lt
    omega
  · obtain ⟨h1, ⟨ws', p1, p2, p3⟩, h3, h4⟩ := hq
    refine ⟨h1, ⟨w1 ++ ws', ⟨ws', p1, rfl⟩, (va_keep (va_P_l hp.2.1) h4 hd).app p2, hD.app (p3.weaken (fun _ _ _ z => z.1)) (fun i j p q hp hq e => (p3.2 j q hq).2 ⟨i, p, hp, e⟩)⟩, h3, fun q a1 a2 => h4 q a1 (fun z => a2 z.1)⟩
end FR
section GS
variable {p : Program} {l : Launch} {e : Env} {R : Room} {s : State} {m : MethodId} {args : Array Value} {below : List Frame} {meth : Method} {c : Code} {cells slots : Nat} {Q : State → Prop}
variable {E : Ev} {A : Nat → Prop} {nL : Nat} {ws : va_W} {pc : Nat} {lv : List (Nat × Value)} {st : List Value} {own : String} {cc : ByteArray} {ret : Option FieldType}
theorem g_sld (hc : Cx p s m args meth c E A own cc nL ret) {b L : Nat} {xs : Nat → Int32} (hX : va_X b L xs s s.heap) (hbl : b < s.heap.size) (hbA : ¬ A b) (j : Nat) (hj : j < L) (hL : L < 2 ^ 31) (hd : decode cc pc = .ok (.iaload, 1)) (k : G p l e R s m args below meth c cells slots Q E A nL ws (pc + 1) lv (.int (xs j) :: st)) : G p l e R s m args below meth c cells slots Q E A nL ws pc lv (.int (nI j) :: .ref b :: st) := fun H locs ls h1 h2 h3 => va_sld hc.1.1 hc.1.2.1 hX hbl hbA h2 (vp_in_nI hj hL) hd (by rw [nI_clamp (Nat.lt_trans hj hL)]; exact k H locs ls h1 h2 h3)
theorem g_sln (hc : Cx p s m args meth c E A own cc nL ret) {b L : Nat} {xs : Nat → Int32} (hX : va_X b L xs s s.heap) (hbl : b < s.heap.size) (hbA : ¬ A b) (hd : decode cc pc = .ok (.arraylength, 1)) (k : G p l e R s m args below meth c cells slots Q E A nL ws (pc + 1) lv (.int (nI L) :: st)) : G p l e R s m args below meth c cells slots Q E A nL ws pc lv (.ref b :: st) := fun H locs ls h1 h2 h3 => va_slen hc.1.1 hc.1.2.1 hX hbl hbA h2 hd (k H locs ls h1 h2 h3)
theorem g_tsw (hc : Cx p s m args meth c E A own cc nL ret) {dflt hi off : Int} {offs : Array Int} {len n : Nat} (tgt : Nat) (hd : decode cc pc = .ok (.tableswitch dflt 0 hi offs, len)) (hn : n < 2 ^ 31) (hh : (n : Int) ≤ hi) (ho : offs[n]? = some off) (ht : (pc : Int) + off = (tgt : Int)) (k : G p l e R s m args below meth c cells slots Q E A nL ws tgt lv st) : G p l e R s m args below meth c cells slots Q E A nL ws pc lv (.int (nI n) :: st) := fun H locs ls h1 h2 h3 => lv_tableIn hc.1.1 hc.1.2.1 hd (by rw [nI_toInt hn]; omega) (by rw [nI_toInt hn]; omega) (by rw [nI_toInt hn, Int.sub_zero, Int.toNat_natCast]; exact ho) ht (k H locs ls h1 h2 h3)
end GS
/-! what a case of the law rests on -/
abbrev A0 (s : State) : Nat → Prop := fun q => s.heap.size ≤ q
abbrev GL (p : Program) (l : Launch) (e : Env) (s : State) (m : MethodId) (below : List Frame) (meth : Method) (c : Code) (b : Nat) (E : Ev) (ws : va_W) (pc : Nat) (lv : List (Nat × Value)) (st : List Value) : Prop := G p l e room_1 s m #[Value.ref b] below meth c 69 5511 (lw_Z below #[Value.ref b] s) E (A0 s) 4 ws pc lv st
def LX (p : Program) (s : State) (m : MethodId) (meth : Method) (c : Code) (E : Ev) (b L : Nat) (xs : Nat → Int32) (A B : Nat → Prop) : Prop := Cx p s m #[Value.ref b] meth c E (A0 s) R_law code 4 ret ∧ va_X b L xs s s.heap ∧ b < s.heap.size ∧ L ≤ 3072 ∧ (∀ q, A q → s.heap.size ≤ q) ∧ (∀ q, B q → s.heap.size ≤ q) ∧ ∀ q, A q → ¬ B q
abbrev lwL (b a0 b0 i : Nat) : List (Nat × Value) := [(0, .ref b), (1, .ref a0), (2, .ref b0), (3, .int (nI i))]
def LK (p : Program) (l : Launch) (e : Env) (s : State) (m : MethodId) (below : List Frame) (meth : Method) (c : Code) (b : Nat) (E : Ev) (A : Nat → Prop) (bd : Nat → Nat) (a0 i : Nat) : Prop := ∀ (ad : Nat → Nat) (sc : Nat → Int32) (ar : Nat → Nat → Int32) (bl : Int64) (ms : Nat → Int32) (ma : Nat → Nat → Int32) (la : Nat → Int64), ad 0 = a0 → Oka 39 ad A → Rll sc ar bl ms ma → GL p l e s m below meth c b E (cw E ad sc ar bl ++ mw E bd ms ma la) 1202 (lwL b a0 (bd 0) i) []
abbrev lwA (pc j : Nat) : Prop := decode code pc = .ok (.aload_n 0, 1) ∧ decode code (pc + 1) = .ok (.iload_n 3, 1) ∧ decode code (pc + 1 + 1) = .ok (.iconst (j : Int), 1) ∧ decode code (pc + 1 + 1 + 1) = .ok (.iadd, 1) ∧ decode code (pc + 1 + 1 + 1 + 1) = .ok (.iaload, 1)
abbrev lwD (pc n idx1 idx2 : Nat) (off : Int) : Prop := decode code pc = .ok (.aload_n 1, 1) ∧ (∀ j, j < n → lwA (pc + 1 + 5 * j) (j + 1)) ∧ decode code (pc + 1 + 5 * n) = .ok (.invokevirtual idx1, 3) ∧ decode code (pc + 1 + 5 * n + 3) = .ok (.aload_n 2, 1) ∧ (∀ j, j < n → lwA (pc + 1 + 5 * n + 3 + 1 + 5 * j) (j + 1)) ∧ decode code (pc + 1 + 5 * n + 3 + 1 + 5 * n) = .ok (.invokevirtual idx2, 3) ∧ decode code (pc + 1 + 5 * n + 3 + 1 + 5 * n + 3) = .ok (.if_icmp .eq off, 3) ∧ ((pc + 1 + 5 * n + 3 + 1 + 5 * n + 3 : Nat) : Int) + off = ((1202 : Nat) : Int)
def lwR (xs : Nat → Int32) (i : Nat) : Nat → List Value
  | 0 => []
  | n + 1 => .int (xs (i + (n + 1))) :: lwR xs i n
section LC
variable {p : Program} {l : Launch} {e : Env} {s : State} {m : MethodId} {below : List Frame} {meth : Method} {c : Code} {E : Ev} {b L i : Nat} {xs : Nat → Int32} {A B : Nat → Prop} {ad bd : Nat → Nat} {sc ms : Nat → Int32} {ar ma : Nat → Nat → Int32} {bl : Int64} {la : Nat → Int64} {a0 : Nat}
theorem lw_nb (C : LX p s m meth c E b L xs A B) : ¬ A0 s b := Nat.not_le.mpr C.2.2.1
theorem lw_args {ws : va_W} {b0 : Nat} (C : LX p s m meth c E b L xs A B) (hi : i + 6 ≤ L) : ∀ (n pc : Nat) (st : List Value), n ≤ 5 → (∀ j, j < n → lwA (pc + 5 * j) (j + 1)) → GL p l e s m below meth c b E ws (pc + 5 * n) (lwL b a0 b0 i) (lwR xs i n ++ st) → GL p l e s m below meth c b E ws pc (lwL b a0 b0 i) st
  | 0, pc, st, _, _, k => k
  | n + 1, pc, st, hn, hd, k => by
    refine lw_args C hi n pc st (by omega) (fun j hj => hd j (by omega)) ?_
    obtain ⟨d1, d2, d3, d4, d5⟩ := hd n (by omega)
    rw [show pc + 5 * (n + 1) = pc + 5 * n + 1 + 1 + 1 + 1 + 1 by omega] at k
    refine g_aload_n C.1 0 d1 rfl rfl ?_
    refine g_iload_n C.1 3 d2 rfl rfl ?_
    refine g_iconst C.1 d3 rfl ?_
    refine g_iadd C.1 d4 ?_
    refine g_topi (nI_ofi i (n + 1)) ?_
    exact g_sld C.1 C.2.1 C.2.2.1 (lw_nb C) (i + (n + 1)) (by omega) (by have := C.2.2.2.1; omega) d5 k
theorem lw_case {n pc idx1 idx2 : Nat} {off : Int} {y1 y2 : MethodName} {by1 by2 : ByteArray} {mL1 mL2 : Nat} {rm1 rm2 : Room} {av : List Value} (C : LX p s m meth c E b L xs A B) (hi : i + 6 ≤ L) (hA : Oka 39 ad A) (hB : Oka 30 bd B) (h0 : ad 0 = a0)
    (S : Step l E A B ad bd y1 (.code y1 by1 mL1 (some .int)) rm1 y2 (.code y2 by2 mL2 (some .int)) rm2 av sc ar bl ms ma la) (D : lwD pc n idx1 idx2 off) (hn5 : n ≤ 5) (hav : lwR xs i n = av.reverse) (hn : av.length = n)
    (i1 : MiV y1 by1 mL1 (some .int) n) (l1 : Cond.methodLink R_law idx1 y1 ∈ gtb) (c1 : y1.cls = RX11) (r1 : rm1.cells = 0 ∧ rm1.slots = 0 ∧ rm1.frames + 1 ≤ room_1.frames ∧ 8 + (mL1 + 11) + rm1.locals ≤ room_1.locals)
    (i2 : MiV y2 by2 mL2 (some .int) n) (l2 : Cond.methodLink R_law idx2 y2 ∈ gtb) (c2 : y2.cls = RX12) (r2 : rm2.cells = 0 ∧ rm2.slots = 0 ∧ rm2.frames + 1 ≤ room_1.frames ∧ 8 + (mL2 + 11) + rm2.locals ≤ room_1.locals)
    (kk : LK p l e s m below meth c b E A bd a0 i) : GL p l e s m below meth c b E (cw E ad sc ar bl ++ mw E bd ms ma la) pc (lwL b a0 (bd 0) i) [] := by
  obtain ⟨r, ad', sc', ar', bl', ms', ma', la', u1, e0, hA', u2, hr⟩ := S
  obtain ⟨d0, da, d1, d2, db, d3, d4, ht⟩ := D
  obtain ⟨hc, hX, hbl, hL, qA, qB, qAB⟩ := id C
  subst h0
  have v1 : Ct l E y1 (.code y1 by1 mL1 (some .int)) rm1 (A0 s) (cw E ad sc ar bl ++ mw E bd ms ma la) (.ref (ad 0) :: av) (some (.int r)) (cw E ad' sc' ar' bl' ++ mw E bd ms ma la) := u1.frameL qA (fun k q hq z => qAB q.1 z ((mw_D hB ms ma la).2 k q hq))
  have v2 : Ct l E y2 (.code y2 by2 mL2 (some .int)) rm2 (A0 s) (cw E ad' sc' ar' bl' ++ mw E bd ms ma la) (.ref (bd 0) :: av) (some (.int r)) (cw E ad' sc' ar' bl' ++ mw E bd ms' ma' la') := u2.frameR qB (fun k q hq z => qAB q.1 ((cw_D hA' sc' ar' bl').2 k q hq) z)
  refine g_aload_n hc 1 d0 rfl rfl ?_
  refine lw_args C hi n _ _ hn5 da ?_
  refine g_callVi (rest := []) (As := av) (b := ad 0) (C := RX11) (T := TX11) (N := 15) (ci := 11) hc v1 i1 l1 0 rfl rfl c1 hn r1 (Nat.zero_le _) ⟨Nat.le_refl _, Nat.le_refl _⟩ (by rw [hav]) d1 ?_
  refine g_aload_n hc 2 d2 rfl rfl ?_
  refine lw_args C hi n _ _ hn5 db ?_
  refine g_callVi (rest := [.int r]) (As := av) (b := bd 0) (C := RX12) (T := TX12) (N := 43) (ci := 12) hc v2 i2 l2 39 rfl rfl c2 hn r2 (Nat.le_of_ble_eq_true rfl) ⟨Nat.le_refl _, Nat.le_refl _⟩ (by rw [hav]) d3 ?_
  exact g_icmp_eq_t hc 1202 d4 ht rfl (kk ad' sc' ar' bl' ms' ma' la' e0 hA' hr)
end LC
