/-! the two readers side by side -/
theorem en_t {g : Nat → Int32} {L : Nat} (h : Byt g) {q : Rq} (hs : snd q = true) {A B : Nat} (hA : A < 1000) (hB : B < 1000) (c : inr (mvh g q) (nI A) (nI B) = true) : enT g L (nI A) (nI B) q = goT g L q ∧ enV g (nI A) (nI B) q = mvh g q ∧ ∃ V, A ≤ V ∧ V ≤ B ∧ mvh g q = nI V := by
  obtain ⟨e1, e2⟩ := en_eq h hs hA hB
  obtain ⟨e3, e4⟩ := e2 c
  refine ⟨?_, ?_, e4⟩
  · unfold enT; rw [e1, if_pos c]
  · unfold enV; rw [e1, if_pos c, e3]
theorem en_f {g : Nat → Int32} {L : Nat} (h : Byt g) {q : Rq} (hs : snd q = true) {A B : Nat} (hA : A < 1000) (hB : B < 1000) (c : inr (mvh g q) (nI A) (nI B) = false) : enT g L (nI A) (nI B) q = (q.1, q.2.1, nI q.1) := by
  obtain ⟨e1, -⟩ := en_eq h hs hA hB
  unfold enT
  rw [e1, if_neg (by rw [c]; decide), tfl_t hs]
theorem ex_t {g : Nat → Int32} {L i : Nat} {q : Rq} (hs : snd q = true) (c : wat g q i = true) : exT g L i q = goT g L q := by
  unfold exT; rw [if_pos hs, if_pos c]
theorem ex_f {g : Nat → Int32} {L i : Nat} {q : Rq} (hs : snd q = true) (c : wat g q i = false) : exT g L i q = (q.1, q.2.1, nI q.1) := by
  unfold exT; rw [if_pos hs, if_neg (by rw [c]; decide), tfl_t hs]
theorem dy_s {g : Nat → Int32} {i : Nat} {q : Rq} (hs : snd q = true) : dyO g i q = wat g q i := by unfold dyO; rw [if_pos hs]
/-- a span, in both -/
theorem span_eq {g : Nat → Int32} {L M : Nat} (h : Byt g) (hL : L ≤ 60) (hM : M < 1000) {q : Rq} (hq : rdok L q) (hs : snd q = true) (o : Int32) :
    (msO g L (nI M) q = true → spT g L (nI M) (goT g L q) = goT g L (msT g L (nI M) q) ∧ snd (msT g L (nI M) q) = true ∧ rdok L (msT g L (nI M) q) ∧ spA g (nI M) (goT g L q) = mvh g (goT g L q) ∧ spB g L (nI M) (goT g L q) = msB g L (nI M) q o)
    ∧ (msO g L (nI M) q = false → ∃ n, n ≤ 60 ∧ (spT g L (nI M) (goT g L q)).2.2 = nI n ∧ mhr L (msT g L (nI M) q) = nI n) := by
  have k1 : rdok L (goT g L q) := goT_ok hq
  have s1 : snd (goT g L q) = true := hs
  unfold msO msT msB spT spA spB
  by_cases c1 : inr (mvh g (goT g L q)) (nI 0) (nI M) = true
  · obtain ⟨e1, e2, V, hV1, hV2, e3⟩ := en_t (L := L) h s1 (by omega) hM c1
    rw [if_pos c1, if_pos c1, if_pos c1, e1, e2]
    have k2 : rdok L (goT g L (goT g L q)) := goT_ok k1
    have s2 : snd (goT g L (goT g L q)) = true := hs
    by_cases c2 : wat g (goT g L (goT g L q)) 1 = true
    · rw [if_pos c2, if_pos c2, if_pos c2, ex_t s2 c2, e3]
      have k3 : rdok L (goT g L (goT g L (goT g L q))) := goT_ok k2
      have s3 : snd (goT g L (goT g L (goT g L q))) = true := hs
      refine ⟨fun c3 => ?_, fun c3 => ?_⟩
      · obtain ⟨f1, f2, -⟩ := en_t (L := L) h s3 (show V < 1000 by omega) hM c3
        exact ⟨f1, s3, k3, rfl, f2⟩
      · rw [en_f h s3 (show V < 1000 by omega) hM c3]
        exact ⟨(goT g L (goT g L (goT g L q))).1, Nat.le_trans k3.1 (Nat.le_trans k3.2 hL), rfl, mhr_eq g hL k2⟩
    · have c2' : wat g (goT g L (goT g L q)) 1 = false := by simpa using c2
      rw [if_neg c2, if_neg c2, if_neg c2, ex_f s2 c2']
      refine ⟨fun c3 => absurd c3 (by decide), fun _ => ?_⟩
      have hn := Nat.le_trans k2.1 (Nat.le_trans k2.2 hL)
      refine ⟨(goT g L (goT g L q)).1, hn, ?_, mhr_eq g hL k1⟩
      rw [enT_f (snd_nI (by omega))]
  · have c1' : inr (mvh g (goT g L q)) (nI 0) (nI M) = false := by simpa using c1
    rw [if_neg c1, if_neg c1, if_neg c1, en_f h s1 (by omega) hM c1']
    refine ⟨fun c3 => absurd c3 (by decide), fun _ => ?_⟩
    have hn := Nat.le_trans k1.1 (Nat.le_trans k1.2 hL)
    refine ⟨(goT g L q).1, hn, ?_, mhr_eq g hL hq⟩
    rw [exT_f (snd_nI (by omega)), enT_f (snd_nI (by omega))]
theorem bS_left {f : Nat → Int32} {L : Nat} {z : Bq} : ∀ k, bS f L z (k + 1) = if dyO f 5 z.2.2 = true then bS f L (b1 f L z) k else z
  | 0 => rfl
  | k + 1 => by
    rw [bS_succ, bS_left k]
    by_cases c : dyO f 5 z.2.2 = true
    · rw [if_pos c, if_pos c, bS_succ]
    · rw [if_neg c, if_neg c, if_neg c]
theorem bS_fault {f : Nat → Int32} {L : Nat} {z : Bq} (h : snd z.2.2 = false) (k : Nat) : bS f L z k = z := by
  cases k with
  | zero => rfl
  | succ k => rw [bS_left, if_neg (by rw [dyO_f h]; decide)]
/-- what stands behind the words at hand, told of both: the fault, the state, the barred -/
def Ends (g : Nat → Int32) (L : Nat) (s : Rq) (x : Int32) : Prop := (snd s = true ∧ x = mfl s ∧ ∃ q, rdok L q ∧ s = goT g L q) ∨ ∃ n, n ≤ 60 ∧ s.2.2 = nI n ∧ x = nI n
theorem ors_eq {g : Nat → Int32} {L : Nat} (h : Byt g) (hL : L ≤ 60) : ∀ (k a : Nat) (w ba : Int32) (q : Rq), rdok L q → snd q = true → 6 ≤ a + k → a ≤ 5 → 1 ≤ a → w + nI 1 = nI a →
    Ends g L (bS g L (w, ba, goT g L q) k).2.2 (wE g L k (goT g L q, nI a, ba, wat g (goT g L q) 5)).1 ∧ (snd (bS g L (w, ba, goT g L q) k).2.2 = true → (bS g L (w, ba, goT g L q) k).2.1 = (wE g L k (goT g L q, nI a, ba, wat g (goT g L q) 5)).2.2)
  | 0, a, w, ba, q, hq, hs, h1, h2, h3, hw => by omega
  | k + 1, a, w, ba, q, hq, hs, h1, h2, h3, hw => by
    have s1 : snd (goT g L q) = true := hs
    have k1 : rdok L (goT g L q) := goT_ok hq
    rw [bS_left, wE]
    show Ends g L (if dyO g 5 (goT g L q) = true then bS g L (b1 g L (w, ba, goT g L q)) k else (w, ba, goT g L q)).2.2 (if wat g (goT g L q) 5 = true then _ else (mfl (goT g L q), goT g L q, ba)).1 ∧ (snd (if dyO g 5 (goT g L q) = true then bS g L (b1 g L (w, ba, goT g L q)) k else (w, ba, goT g L q)).2.2 = true → _ = (if wat g (goT g L q) 5 = true then _ else (mfl (goT g L q), goT g L q, ba)).2.2)
    rw [dy_s s1]
    by_cases c : wat g (goT g L q) 5 = true
    · rw [if_pos c, if_pos c]
      have s2 : snd (goT g L (goT g L q)) = true := hs
      have k2 : rdok L (goT g L (goT g L q)) := goT_ok k1
      show Ends g L (bS g L (enV g (w + nI 1) (nI 4) (goT g L (goT g L q)), ba ||| (nI 1 <<< (enV g (w + nI 1) (nI 4) (goT g L (goT g L q)) &&& 31)), enT g L (w + nI 1) (nI 4) (goT g L (goT g L q))) k).2.2 (if inr (mvh g (goT g L (goT g L q))) (nI a) (nI 4) = true then wE g L k (goT g L (goT g L (goT g L q)), mvh g (goT g L (goT g L q)) + nI 1, ba ||| (nI 1 <<< (mvh g (goT g L (goT g L q)) &&& 31)), wat g (goT g L (goT g L (goT g L q))) 5) else (mhr L (goT g L (goT g L q)), goT g L (goT g L q), ba)).1 ∧ (snd (bS g L (enV g (w + nI 1) (nI 4) (goT g L (goT g L q)), ba ||| (nI 1 <<< (enV g (w + nI 1) (nI 4) (goT g L (goT g L q)) &&& 31)), enT g L (w + nI 1) (nI 4) (goT g L (goT g L q))) k).2.2 = true → (bS g L (enV g (w + nI 1) (nI 4) (goT g L (goT g L q)), ba ||| (nI 1 <<< (enV g (w + nI 1) (nI 4) (goT g L (goT g L q)) &&& 31)), enT g L (w + nI 1) (nI 4) (goT g L (goT g L q))) k).2.1 = (if inr (mvh g (goT g L (goT g L q))) (nI a) (nI 4) = true then wE g L k (goT g L (goT g L (goT g L q)), mvh g (goT g L (goT g L q)) + nI 1, ba ||| (nI 1 <<< (mvh g (goT g L (goT g L q)) &&& 31)), wat g (goT g L (goT g L (goT g L q))) 5) else (mhr L (goT g L (goT g L q)), goT g L (goT g L q), ba)).2.2)
      rw [hw]
      by_cases c2 : inr (mvh g (goT g L (goT g L q))) (nI a) (nI 4) = true
      · obtain ⟨e1, e2, V, hV1, hV2, e3⟩ := en_t (L := L) h s2 (show a < 1000 by omega) (show 4 < 1000 by omega) c2
        rw [if_pos c2, e1, e2, e3, nI_add]
        exact ors_eq h hL k (V + 1) (nI V) _ (goT g L (goT g L q)) k2 s2 (by omega) (by omega) (by omega) (nI_add V 1)
      · have c2' : inr (mvh g (goT g L (goT g L q))) (nI a) (nI 4) = false := by simpa using c2
        have hn := Nat.le_trans k2.1 (Nat.le_trans k2.2 hL)
        have sf : snd ((goT g L (goT g L q)).1, (goT g L (goT g L q)).2.1, nI (goT g L (goT g L q)).1) = false := snd_nI (by omega)
        rw [if_neg c2, en_f h s2 (show a < 1000 by omega) (show 4 < 1000 by omega) c2', bS_fault sf]
        refine ⟨Or.inr ⟨(goT g L (goT g L q)).1, hn, rfl, mhr_eq g hL k1⟩, fun z => ?_⟩
        rw [show snd _ = false from sf] at z
        cases z
    · rw [if_neg c, if_neg c]
      exact ⟨Or.inl ⟨s1, rfl, q, hq, rfl⟩, fun _ => rfl⟩
/-- but who, in both -/
theorem but_eq {g : Nat → Int32} {L : Nat} (h : Byt g) (hL : L ≤ 60) {q : Rq} (hq : rdok L q) (hs : snd q = true) :
    Ends g L (bwT g L (goT g L q)) (rB g L (goT g L q) (nI 0)).1 ∧ (snd (bwT g L (goT g L q)) = true → bwB g L (goT g L q) = (rB g L (goT g L q) (nI 0)).2.2) := by
  have s1 : snd (goT g L q) = true := hs
  have k1 : rdok L (goT g L q) := goT_ok hq
  unfold bwT bwB rB
  rw [dy_s s1]
  by_cases c : wat g (goT g L q) 3 = true
  · rw [if_pos c, if_pos c, if_pos c]
    have s2 : snd (goT g L (goT g L q)) = true := hs
    have k2 : rdok L (goT g L (goT g L q)) := goT_ok k1
    unfold b0
    by_cases c2 : wat g (goT g L (goT g L q)) 4 = true
    · rw [if_pos c2, ex_t s2 c2, c, wE]
      have s3 : snd (goT g L (goT g L (goT g L q))) = true := hs
      have k3 : rdok L (goT g L (goT g L (goT g L q))) := goT_ok k2
      show Ends g L _ (if true = true then (if inr (mvh g (goT g L (goT g L (goT g L q)))) (nI 0) (nI 4) = true then wE g L 5 (goT g L (goT g L (goT g L (goT g L q))), mvh g (goT g L (goT g L (goT g L q))) + nI 1, nI 0 ||| (nI 1 <<< (mvh g (goT g L (goT g L (goT g L q))) &&& 31)), wat g (goT g L (goT g L (goT g L (goT g L q)))) 5) else (mhr L (goT g L (goT g L (goT g L q))), goT g L (goT g L (goT g L q)), nI 0)) else _).1 ∧ (_ → _ = (if true = true then (if inr (mvh g (goT g L (goT g L (goT g L q)))) (nI 0) (nI 4) = true then wE g L 5 (goT g L (goT g L (goT g L (goT g L q))), mvh g (goT g L (goT g L (goT g L q))) + nI 1, nI 0 ||| (nI 1 <<< (mvh g (goT g L (goT g L (goT g L q))) &&& 31)), wat g (goT g L (goT g L (goT g L (goT g L q)))) 5) else (mhr L (goT g L (goT g L (goT g L q))), goT g L (goT g L (goT g L q)), nI 0)) else _).2.2)
      rw [if_pos rfl]
      by_cases c3 : inr (mvh g (goT g L (goT g L (goT g L q)))) (nI 0) (nI 4) = true
      · obtain ⟨e1, e2, V, hV1, hV2, e3⟩ := en_t (L := L) h s3 (show 0 < 1000 by omega) (show 4 < 1000 by omega) c3
        rw [if_pos c3, e1, e2, e3, nI_add, show ∀ x : Int32, nI 0 ||| x = x from fun x => Int32.zero_or]
        exact ors_eq h hL 5 (V + 1) (nI V) _ (goT g L (goT g L (goT g L q))) k3 s3 (by omega) (by omega) (by omega) (nI_add V 1)
      · have c3' : inr (mvh g (goT g L (goT g L (goT g L q)))) (nI 0) (nI 4) = false := by simpa using c3
        have hn := Nat.le_trans k3.1 (Nat.le_trans k3.2 hL)
        have sf : snd ((goT g L (goT g L (goT g L q))).1, (goT g L (goT g L (goT g L q))).2.1, nI (goT g L (goT g L (goT g L q))).1) = false := snd_nI (by omega)
        rw [if_neg c3, en_f h s3 (show 0 < 1000 by omega) (show 4 < 1000 by omega) c3', bS_fault sf]
        refine ⟨Or.inr ⟨(goT g L (goT g L (goT g L q))).1, hn, rfl, mhr_eq g hL k2⟩, fun z => ?_⟩
        rw [show snd _ = false from sf] at z
        cases z
    · have c2' : wat g (goT g L (goT g L q)) 4 = false := by simpa using c2
      have hn := Nat.le_trans k2.1 (Nat.le_trans k2.2 hL)
      have sf : snd ((goT g L (goT g L q)).1, (goT g L (goT g L q)).2.1, nI (goT g L (goT g L q)).1) = false := snd_nI (by omega)
      rw [if_neg c2, ex_f s2 c2', enT_f sf, bS_fault sf]
      refine ⟨Or.inr ⟨(goT g L (goT g L q)).1, hn, rfl, mhr_eq g hL k1⟩, fun z => ?_⟩
      rw [show snd _ = false from sf] at z
      cases z
  · have c' : wat g (goT g L q) 3 = false := by simpa using c
    rw [if_neg c, if_neg c, if_neg c, c', wE]
    show Ends g L (goT g L q) (if false = true then _ else (mfl (goT g L q), goT g L q, nI 0)).1 ∧ (_ → nI 0 = (if false = true then _ else (mfl (goT g L q), goT g L q, nI 0)).2.2)
    rw [if_neg (by decide)]
    exact ⟨Or.inl ⟨s1, rfl, q, hq, rfl⟩, fun _ => rfl⟩
theorem Ends.last {g : Nat → Int32} {L : Nat} (hL : L ≤ 60) {s : Rq} {x : Int32} (h : Ends g L s x) : (if nI L ≤ nI s.1 then s else tfl s).2.2 = x ∧ (x = -1 ∨ ∃ n, n ≤ 60 ∧ x = nI n) ∧ (x = -1 → snd s = true) := by
  rcases h with ⟨h1, h2, q, hq, h3⟩ | ⟨n, hn, h1, h2⟩
  · have e := mfl_eq g hL hq
    rw [← h3, ← h2] at e
    have k := goT_ok (f := g) hq
    rw [← h3] at k
    rw [e]
    by_cases c : nI L ≤ nI s.1
    · rw [if_pos c, if_pos c]
      exact ⟨of_decide_eq_true h1, Or.inl rfl, fun _ => h1⟩
    · rw [if_neg c, if_neg c, tfl_t h1]
      exact ⟨rfl, Or.inr ⟨s.1, Nat.le_trans k.1 (Nat.le_trans k.2 hL), rfl⟩, fun _ => h1⟩
  · have sf : snd s = false := by unfold snd; rw [h1]; exact decide_eq_false (nI_ne_m1 (by omega))
    rw [tfl_f sf]
    refine ⟨?_, Or.inr ⟨n, hn, h2⟩, fun z => ?_⟩
    · rw [h2]; split <;> exact h1
    · rw [h2] at z; exact absurd z (nI_ne_m1 (by omega))
theorem Ends.f {g : Nat → Int32} {L : Nat} {s : Rq} {x : Int32} {n : Nat} (hn : n ≤ 60) (h1 : s.2.2 = nI n) (h2 : x = nI n) : Ends g L s x ∧ snd s = false := ⟨Or.inr ⟨n, hn, h1, h2⟩, by unfold snd; rw [h1]; exact decide_eq_false (nI_ne_m1 (by omega))⟩
/-- days, in both -/
theorem days_eq {g : Nat → Int32} {L : Nat} (h : Byt g) (hL : L ≤ 60) {q : Rq} (hq : rdok L q) (hs : snd q = true) (o : Int32) :
    Ends g L (bwT g L (dyT g L (goT g L q))) (rA g L q (nI 0) (nI 0) (nI 400) o).1 ∧ (snd (bwT g L (dyT g L (goT g L q))) = true → dyA g L (goT g L q) = (rA g L q (nI 0) (nI 0) (nI 400) o).2.2.2.1 ∧ dyB g L (goT g L q) = (rA g L q (nI 0) (nI 0) (nI 400) o).2.2.2.2 ∧ bwB g L (dyT g L (goT g L q)) = (rA g L q (nI 0) (nI 0) (nI 400) o).2.2.1) := by
  have s1 : snd (goT g L q) = true := hs
  have k1 : rdok L (goT g L q) := goT_ok hq
  unfold dyT dyA dyB rA
  rw [dy_s s1]
  by_cases c : wat g (goT g L q) 2 = true
  · rw [if_pos c, if_pos c, if_pos c, if_pos c]
    obtain ⟨a1, a2⟩ := span_eq h hL (show 400 < 1000 by decide) k1 s1 o
    by_cases c2 : msO g L (nI 400) (goT g L q) = true
    · obtain ⟨e1, e2, e3, e4, e5⟩ := a1 c2
      rw [if_pos c2, e1, e4, e5]
      obtain ⟨b1, b2⟩ := but_eq h hL e3 e2
      exact ⟨b1, fun z => ⟨rfl, rfl, b2 z⟩⟩
    · have c2' : msO g L (nI 400) (goT g L q) = false := by simpa using c2
      obtain ⟨n, hn, e1, e2⟩ := a2 c2'
      rw [if_neg c2]
      have sf : snd (spT g L (nI 400) (goT g L (goT g L q))) = false := by unfold snd; rw [e1]; exact decide_eq_false (nI_ne_m1 (by omega))
      rw [bwT_f sf]
      refine ⟨(Ends.f hn e1 e2).1, fun z => ?_⟩
      rw [sf] at z; cases z
  · rw [if_neg c, if_neg c, if_neg c, if_neg c]
    obtain ⟨b1, b2⟩ := but_eq h hL hq hs
    exact ⟨b1, fun z => ⟨rfl, rfl, b2 z⟩⟩
/-- a leave, in both -/
theorem read_eq {g : Nat → Int32} {L : Nat} (h : Byt g) (hL : L ≤ 60) (o p a b c d e : Int32) :
    (rd5 g L).2.2 = (rL g L o p a b c d e).1 ∧ ((rL g L o p a b c d e).1 = -1 ∨ ∃ n, n ≤ 60 ∧ (rL g L o p a b c d e).1 = nI n) ∧ ((rL g L o p a b c d e).1 = -1 → spA g (nI 7) (rd1 g L) = (rL g L o p a b c d e).2.2.1.1 ∧ spB g L (nI 7) (rd1 g L) = (rL g L o p a b c d e).2.2.1.2.1 ∧ dyA g L (rd2 g L) = (rL g L o p a b c d e).2.2.1.2.2.1 ∧ dyB g L (rd2 g L) = (rL g L o p a b c d e).2.2.1.2.2.2.1 ∧ bwB g L (rd3 g L) = (rL g L o p a b c d e).2.2.1.2.2.2.2) := by
  have s0 : snd (rd0 g L) = true := decide_eq_true rfl
  have k0 : rdok L (rd0 g L) := rd0_ok g L
  have q5 : rd5 g L = if nI L ≤ nI (rd4 g L).1 then rd4 g L else tfl (rd4 g L) := by unfold rd5; rfl
  by_cases c1 : wat g (rd0 g L) 0 = true
  · have q1 : rd1 g L = goT g L (rd0 g L) := by unfold rd1; exact ex_t s0 c1
    obtain ⟨a1, a2⟩ := span_eq h hL (show 7 < 1000 by decide) k0 s0 p
    by_cases c2 : msO g L (nI 7) (rd0 g L) = true
    · obtain ⟨e1, e2, e3, e4, e5⟩ := a1 c2
      have q2 : rd2 g L = goT g L (msT g L (nI 7) (rd0 g L)) := by unfold rd2; rw [q1]; exact e1
      obtain ⟨b1, b2⟩ := days_eq h hL e3 e2 (msB g L (nI 7) (rd0 g L) p)
      rw [← q2] at b1 b2
      have q4 : bwT g L (dyT g L (rd2 g L)) = rd4 g L := by unfold rd4 rd3; rfl
      have q3 : dyT g L (rd2 g L) = rd3 g L := by unfold rd3; rfl
      rw [q4] at b1 b2
      rw [q3] at b2
      obtain ⟨f1, f2, f3⟩ := b1.last hL
      unfold rL
      rw [if_pos c1, if_pos c2]
      generalize rA g L (msT g L (nI 7) (rd0 g L)) (nI 0) (nI 0) (nI 400) (msB g L (nI 7) (rd0 g L) p) = Z at b2 f1 f2 f3 ⊢
      dsimp only
      rw [q5, q1]
      refine ⟨f1, f2, fun z => ?_⟩
      obtain ⟨x1, x2, x3⟩ := b2 (f3 z)
      exact ⟨e4, e5, x1, x2, x3⟩
    · have c2' : msO g L (nI 7) (rd0 g L) = false := by simpa using c2
      obtain ⟨n, hn, e1, e2⟩ := a2 c2'
      have q2 : rd2 g L = spT g L (nI 7) (goT g L (rd0 g L)) := by unfold rd2; rw [q1]
      rw [← q2] at e1
      have sf : snd (rd2 g L) = false := by unfold snd; rw [e1]; exact decide_eq_false (nI_ne_m1 (by omega))
      have q3 : rd3 g L = rd2 g L := by unfold rd3; exact dyT_f sf
      have q4 : rd4 g L = rd2 g L := by unfold rd4; rw [q3]; exact bwT_f sf
      have e6 : (rd5 g L).2.2 = nI n := by
        rw [q5, q4, tfl_f sf]
        split <;> exact e1
      unfold rL
      rw [if_pos c1, if_neg c2]
      dsimp only
      rw [e6, e2]
      exact ⟨rfl, Or.inr ⟨n, hn, rfl⟩, fun z => absurd z (nI_ne_m1 (by omega))⟩
  · have c1' : wat g (rd0 g L) 0 = false := by simpa using c1
    have hn := Nat.le_trans k0.1 (Nat.le_trans k0.2 hL)
    have sf : snd ((rd0 g L).1, (rd0 g L).2.1, nI (rd0 g L).1) = false := snd_nI (by omega)
    have hm : mhr L (rd0 g L) = nI (rd0 g L).1 := mhr_eq g hL (q := (0, 0, (-1))) ⟨Nat.le_refl _, Nat.zero_le _⟩
    have q1 : rd1 g L = ((rd0 g L).1, (rd0 g L).2.1, nI (rd0 g L).1) := by unfold rd1; exact ex_f s0 c1'
    have q2 : rd2 g L = rd1 g L := by unfold rd2; rw [q1]; exact spT_f sf
    have q3 : rd3 g L = rd1 g L := by unfold rd3; rw [q2, q1]; exact dyT_f sf
    have q4 : rd4 g L = rd1 g L := by unfold rd4; rw [q3, q1]; exact bwT_f sf
    have e6 : (rd5 g L).2.2 = nI (rd0 g L).1 := by
      rw [q5, q4, q1, tfl_f sf]
      split <;> rfl
    unfold rL
    rw [if_neg c1]
    dsimp only
    rw [e6, hm]
    exact ⟨rfl, Or.inr ⟨(rd0 g L).1, hn, rfl⟩, fun z => absurd z (nI_ne_m1 (by omega))⟩
