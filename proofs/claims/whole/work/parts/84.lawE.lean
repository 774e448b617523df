/-! the start: what the machine's tables say of it; the two new objects are alike -/
theorem nst_in : ∀ q ∈ nst, Cond.methodLinkNest q.1 q.2.1 q.2.2.1 q.2.2.2 ∈ tables_1 := by decide +kernel
def stI (i : Nat) : Nat := ([61, 71, 77, 83, 85, 87] : List Nat).getD i 0
abbrev tmS (i : Nat) : Term := Term.string "SherdField$LeaveReader" (stI i)
theorem fl_1 : ∀ i, i < 6 → Cond.exactly (tmS i) "java/lang/String" ∈ flatC (Jvm.Cond.and given_1 narrow_1) := by decide +kernel
theorem fl_2 : ∀ i, i < 6 → Cond.eq (.field (tmS i) "java/lang/String" "coder" "B") (.int 0) ∈ flatC (Jvm.Cond.and given_1 narrow_1) := by decide +kernel
theorem fl_3 : ∀ i, i < 6 → Cond.arrayOf (.field (tmS i) "java/lang/String" "value" "[B") .byte ∈ flatC (Jvm.Cond.and given_1 narrow_1) := by decide +kernel
theorem fl_4 : ∀ i, i < 6 → Cond.eq (.length (.field (tmS i) "java/lang/String" "value" "[B")) (.int (Int32.ofNat (lenS.getD i 0))) ∈ flatC (Jvm.Cond.and given_1 narrow_1) := by decide +kernel
theorem fl_5 : ∀ i, i < 6 → ∀ j, j < lenS.getD i 0 → Cond.eq (.elem (.field (tmS i) "java/lang/String" "value" "[B") (.int (Int32.ofNat j))) (.int ((bytS.getD i []).getD j 0)) ∈ flatC (Jvm.Cond.and given_1 narrow_1) := by decide +kernel
theorem fl_6 : ∀ i, i < 6 → ∀ j, j < 6 → i ≠ j → Cond.not (Cond.eq (tmS i) (tmS j)) ∈ flatC (Jvm.Cond.and given_1 narrow_1) ∨ Cond.not (Cond.eq (tmS j) (tmS i)) ∈ flatC (Jvm.Cond.and given_1 narrow_1) := by decide +kernel
theorem fl_7 : Cond.eq (.static "java/lang/String" "COMPACT_STRINGS" "Z") (.int 1) ∈ flatC (Jvm.Cond.and given_1 narrow_1) := by decide +kernel
theorem fl_8 : Cond.isRef (.static "jdk/internal/util/Preconditions" "SIOOBE_FORMATTER" "Ljava/util/function/BiFunction;") ∈ flatC (Jvm.Cond.and given_1 narrow_1) := by decide +kernel
theorem tb_797 : Cond.laysStatic "java/lang/String" "COMPACT_STRINGS" "Z" ∈ tables_1 := List.mem_of_getElem? (i := 797) (by decide +kernel)
theorem tb_813 : Cond.laysStatic "jdk/internal/util/Preconditions" "SIOOBE_FORMATTER" "Ljava/util/function/BiFunction;" ∈ tables_1 := List.mem_of_getElem? (i := 813) (by decide +kernel)
theorem str_in : ∀ i, i < 6 → ∀ q, strL[i]? = some q → q.1 = stI i ∧ Cond.stringRef "SherdField$LeaveReader" q.1 q.2 ∈ tables_1
  | 0, _, q, h => by cases h; exact ⟨rfl, List.mem_of_getElem? (i := 775) (by decide +kernel)⟩
  | 1, _, q, h => by cases h; exact ⟨rfl, List.mem_of_getElem? (i := 850) (by decide +kernel)⟩
  | 2, _, q, h => by cases h; exact ⟨rfl, List.mem_of_getElem? (i := 855) (by decide +kernel)⟩
  | 3, _, q, h => by cases h; exact ⟨rfl, List.mem_of_getElem? (i := 860) (by decide +kernel)⟩
  | 4, _, q, h => by cases h; exact ⟨rfl, List.mem_of_getElem? (i := 861) (by decide +kernel)⟩
  | 5, _, q, h => by cases h; exact ⟨rfl, List.mem_of_getElem? (i := 862) (by decide +kernel)⟩
  | i + 6, h, _, _ => absurd h (by omega)
theorem law_cl {s : State} {args : Array Value} (hg : ∀ w ∈ gtb, w.before args s = true) : ∀ k : Nat, ∃ q : ClassId × (Nat → Nat), ∀ r : vw_C, vwCl[k]? = some r → u_Kn s r.1 r.2.1 r.2.2 q.1 q.2
  | 0 => by obtain ⟨c0, i0, h0⟩ := u_known (n := 2) hg inX0 (hg _ tw_184); exact ⟨(c0, i0), fun r hr => by cases hr; exact h0⟩
  | 1 => by obtain ⟨c0, i0, h0⟩ := u_known (n := 5) hg inX1 (hg _ tw_89); exact ⟨(c0, i0), fun r hr => by cases hr; exact h0⟩
  | 2 => by obtain ⟨c0, i0, h0⟩ := u_known (n := 5) hg inX2 (hg _ tw_31); exact ⟨(c0, i0), fun r hr => by cases hr; exact h0⟩
  | 3 => by obtain ⟨c0, i0, h0⟩ := u_known (n := 6) hg inX3 (hg _ tw_197); exact ⟨(c0, i0), fun r hr => by cases hr; exact h0⟩
  | 4 => by obtain ⟨c0, i0, h0⟩ := u_known (n := 9) hg inX4 (hg _ tw_222); exact ⟨(c0, i0), fun r hr => by cases hr; exact h0⟩
  | 5 => by obtain ⟨c0, i0, h0⟩ := u_known (n := 7) hg inX5 (hg _ tw_141); exact ⟨(c0, i0), fun r hr => by cases hr; exact h0⟩
  | 6 => by obtain ⟨c0, i0, h0⟩ := u_known (n := 3) hg inX6 (hg _ tw_111); exact ⟨(c0, i0), fun r hr => by cases hr; exact h0⟩
  | 7 => by obtain ⟨c0, i0, h0⟩ := u_known (n := 2) hg inX7 (hg _ tw_170); exact ⟨(c0, i0), fun r hr => by cases hr; exact h0⟩
  | 8 => by obtain ⟨c0, i0, h0⟩ := u_known (n := 1) hg inX8 (hg _ tw_54); exact ⟨(c0, i0), fun r hr => by cases hr; exact h0⟩
  | 9 => by obtain ⟨c0, i0, h0⟩ := u_known (n := 2) hg inX9 (hg _ tw_127); exact ⟨(c0, i0), fun r hr => by cases hr; exact h0⟩
  | 10 => by obtain ⟨c0, i0, h0⟩ := u_known (n := 6) hg inX10 (hg _ tw_64); exact ⟨(c0, i0), fun r hr => by cases hr; exact h0⟩
  | 11 => by obtain ⟨c0, i0, h0⟩ := u_known (n := 15) hg inX11 (hg _ tw_23); exact ⟨(c0, i0), fun r hr => by cases hr; exact h0⟩
  | 12 => by obtain ⟨c0, i0, h0⟩ := u_known (n := 43) hg inX12 (hg _ tw_996); exact ⟨(c0, i0), fun r hr => by cases hr; exact h0⟩
  | k + 13 => ⟨(0, fun _ => 0), fun r hr => absurd (List.getElem?_eq_some_iff.mp hr).1 (Nat.not_lt.mpr (Nat.le_add_left 13 k))⟩
theorem law_ar {s : State} {args : Array Value} (hg : ∀ w ∈ gtb, w.before args s = true) : ∀ k : Nat, ∃ cA : ClassId, ∀ ty : FieldType, ([.byte, .int, .long, .short, .boolean] : List FieldType)[k]? = some ty → ArrOfT s cA ty ∧ va_RA s cA ty
  | 0 => by obtain ⟨cA, kA, comp, h1, h2, h3⟩ := Cond.arrayClass_spec (hg _ tw_139); exact ⟨cA, fun ty ht => by cases ht; exact ⟨fun n z => ⟨fun k h => (by cases h), kA, h2, comp, h3⟩, h1⟩⟩
  | 1 => by obtain ⟨cA, kA, comp, h1, h2, h3⟩ := Cond.arrayClass_spec (hg _ tw_52); exact ⟨cA, fun ty ht => by cases ht; exact ⟨fun n z => ⟨fun k h => (by cases h), kA, h2, comp, h3⟩, h1⟩⟩
  | 2 => by obtain ⟨cA, kA, comp, h1, h2, h3⟩ := Cond.arrayClass_spec (hg _ tw_1131); exact ⟨cA, fun ty ht => by cases ht; exact ⟨fun n z => ⟨fun k h => (by cases h), kA, h2, comp, h3⟩, h1⟩⟩
  | 3 => by obtain ⟨cA, kA, comp, h1, h2, h3⟩ := Cond.arrayClass_spec (hg _ tw_182); exact ⟨cA, fun ty ht => by cases ht; exact ⟨fun n z => ⟨fun k h => (by cases h), kA, h2, comp, h3⟩, h1⟩⟩
  | 4 => by obtain ⟨cA, kA, comp, h1, h2, h3⟩ := Cond.arrayClass_spec (hg _ tw_168); exact ⟨cA, fun ty ht => by cases ht; exact ⟨fun n z => ⟨fun k h => (by cases h), kA, h2, comp, h3⟩, h1⟩⟩
  | k + 5 => ⟨0, fun ty ht => absurd (List.getElem?_eq_some_iff.mp ht).1 (Nat.not_lt.mpr (Nat.le_add_left 5 k))⟩
theorem law_E {s : State} {b : Nat} (hts : ∀ w ∈ lw_tbl, w.before #[Value.ref b] s = true) (hgv : (Jvm.Cond.and given_1 narrow_1).before #[Value.ref b] s = true) : ∃ E : Ev, va_K (dG E) vwCl (tyl E.2.2.1) s ∧ Ez E (A0 s) s := by
  have hg : ∀ w ∈ gtb, w.before #[Value.ref b] s = true := fun w hw => hts w (List.mem_filter.mp hw).1
  have ht : ∀ w ∈ tables_1, w.before #[Value.ref b] s = true := fun w hw => hts w (List.mem_append_right _ hw)
  have hs := flat_of_before _ hgv
  have hA : ∀ a : Nat, a < s.heap.size → ¬ A0 s a := fun a h => Nat.not_le.mpr h
  obtain ⟨fc, hfc⟩ := Classical.axiomOfChoice (law_cl hg)
  obtain ⟨fa, hfa⟩ := Classical.axiomOfChoice (law_ar hg)
  obtain ⟨aK, aV, hS, hev⟩ := vk_Sof (args := #[Value.ref b]) (s := s) (N := 6) (tm := tmS) (len := lenS) (byt := bytS) (A := A0 s) (by decide) (fun i hi => hs _ (fl_1 i hi)) (fun i hi => hs _ (fl_2 i hi)) (fun i hi => hs _ (fl_3 i hi)) (fun i hi => hs _ (fl_4 i hi)) (fun i hi j hj => hs _ (fl_5 i hi j hj)) (fun i j hi hj hij => (fl_6 i hi j hj hij).imp (hs _) (hs _)) hA
  have hZ1 : va_Z "java/lang/String" "COMPACT_STRINGS" "Z" (.int 1) (A0 s) s s.heap := va_Zof (ht _ tb_797) (hg _ tw_16) (va_eqt (hs _ fl_7)) hA
  have hZ2 := va_Zqof (A := A0 s) (ht _ tb_813) (hg _ tw_18) (hs _ fl_8) hA
  obtain ⟨u, hu⟩ : ∃ u : Nat × Nat, va_Z "jdk/internal/util/Preconditions" "SIOOBE_FORMATTER" "Ljava/util/function/BiFunction;" (va_rf (if u.1 = 0 then none else some u.2)) (A0 s) s s.heap := by
    rcases hZ2 with h | ⟨t, h⟩
    · exact ⟨(0, 0), h⟩
    · exact ⟨(1, t), h⟩
  obtain ⟨f, f1, f2, f3, f4⟩ : ∃ f : Nat → Nat, (∀ i, i < 6 → f i = aK i) ∧ (∀ i, i < 6 → f (6 + i) = aV i) ∧ f 12 = u.1 ∧ f 13 = u.2 := by
    refine ⟨fun k => if k < 6 then aK k else if k < 12 then aV (k - 6) else if k = 12 then u.1 else u.2, fun i hi => if_pos hi, fun i hi => ?_, rfl, rfl⟩
    show (if 6 + i < 6 then aK (6 + i) else if 6 + i < 12 then aV (6 + i - 6) else if 6 + i = 12 then u.1 else u.2) = aV i
    rw [if_neg (by omega), if_pos (by omega), show 6 + i - 6 = i by omega]
  refine ⟨(fun k => (fc k).1, fun k => (fc k).2, fa, f), ⟨fun k q hq => hfc k q hq, fun k q hq => ?_⟩, fun q hq => va_Nw.of rfl (ht _ (nst_in q hq)), ⟨fun i hi => ?_, fun i j hi hj e => ?_⟩, fun i q hq => ?_, hZ1, ?_⟩
  · match k, hq with
    | 0, hq =>
      have e : (fa 0, FieldType.byte) = q := Option.some.inj hq
      subst e
      exact hfa 0 _ rfl
    | 1, hq =>
      have e : (fa 1, FieldType.int) = q := Option.some.inj hq
      subst e
      exact hfa 1 _ rfl
    | 2, hq =>
      have e : (fa 2, FieldType.long) = q := Option.some.inj hq
      subst e
      exact hfa 2 _ rfl
    | 3, hq =>
      have e : (fa 3, FieldType.short) = q := Option.some.inj hq
      subst e
      exact hfa 3 _ rfl
    | 4, hq =>
      have e : (fa 4, FieldType.boolean) = q := Option.some.inj hq
      subst e
      exact hfa 4 _ rfl
    | k + 5, hq => exact absurd (List.getElem?_eq_some_iff.mp hq).1 (Nat.not_lt.mpr (Nat.le_add_left 5 k))
  · have h := hS.1 i hi
    show va_O "java/lang/String" (f i) (A0 s) s s.heap ∧ va_OF "java/lang/String" "coder" "B" (.int 0) (f i) (A0 s) s s.heap ∧ va_OF "java/lang/String" "value" "[B" (.ref (f (6 + i))) (f i) (A0 s) s s.heap ∧ va_T .byte (f (6 + i)) (lenS.getD i 0) (fun j => .int ((bytS.getD i []).getD j 0)) (A0 s) s s.heap
    rw [f1 i hi, f2 i hi]
    exact h
  · have e : f i = f j := e
    rw [f1 i hi, f1 j hj] at e
    exact hS.2 i j hi hj e
  · have hi : i < 6 := (List.getElem?_eq_some_iff.mp hq).1
    obtain ⟨e1, e2⟩ := str_in i hi q hq
    show vk_R "SherdField$LeaveReader" q.1 q.2 (f i) s
    rw [f1 i hi]
    refine vk_R.of (A := #[Value.ref b]) (ht _ e2) ?_
    rw [e1]
    exact hev i hi
  · show va_Z "jdk/internal/util/Preconditions" "SIOOBE_FORMATTER" "Ljava/util/function/BiFunction;" (va_rf (if f 12 = 0 then none else some (f 13))) (A0 s) s s.heap
    rw [f3, f4]
    exact hu
theorem rll0 : Rll sc0 ar0 0 msc0 mar0 := by
  refine ⟨5, 4, 0, 0, 0, 0, ⟨by decide, by decide, by decide, by decide, rfl, rfl, rfl, rfl⟩, ⟨by decide, rfl, rfl, rfl, rfl, rfl, fun i hi => absurd hi (Nat.not_lt_zero i)⟩, ⟨by decide, rfl, rfl, rfl, rfl, rfl, rfl, ?_, ?_, fun f hf => absurd hf (Nat.not_lt_zero f)⟩, ⟨by decide, rfl, rfl, fun i => ?_⟩, ⟨by decide, rfl, rfl, rfl, rfl, rfl, rfl, rfl, rfl, fun j _ => rfl, fun j => Or.inl rfl⟩, ⟨rfl, rfl, rfl⟩, rfl, ⟨fun p hp => ?_, fun p _ _ => rfl⟩, ⟨rfl, fun i => ⟨0, by decide, rfl⟩⟩, ⟨rfl, rfl, ⟨Or.inl rfl, fun i => ?_⟩, ⟨Or.inl rfl, fun i => ?_⟩⟩⟩
  · intro i j hi hj
    rfl
  · intro i c j hi hc hj
    rfl
  · show (0 : Int32) &&& nI 255 = 0
    decide
  · rw [brb_0 hp]
    show false = !decide ((0 : Int32) = 0)
    decide
  · show fits .short (.int 0) = true
    decide +kernel
  · show fits .short (.int 0) = true
    decide +kernel
