theorem dX4_firstRow_0 : decode cX4_firstRow 0 = .ok (.aload_n 0, 1) := by decide +kernel
theorem dX4_firstRow_1 : decode cX4_firstRow 1 = .ok (.getfield 46, 3) := by decide +kernel
theorem dX4_firstRow_4 : decode cX4_firstRow 4 = .ok (.ireturn, 1) := by decide +kernel

set_option maxHeartbeats 4000000 in
set_option maxRecDepth 100000 in
theorem c_X4_firstRow (l : Launch) (E : Ev) {A : Nat → Prop} (ad : Nat → Nat) (hA : Oka 39 ad A) (sc : Nat → Int32) (ar : Nat → Nat → Int32) (bl : Int64)  : Ct l E yX4_firstRow (.code yX4_firstRow cX4_firstRow 1 (some .int)) ({ frames := 0, cells := 0, slots := 0, locals := 0 }) A (cw E ad sc ar bl) [.ref (ad 9)] (some (.int (sc 11))) (cw E ad sc ar bl) := by
  refine Ct.of (lv := [(0, .ref (ad 9))]) (by decide +kernel) (Nat.le_of_ble_eq_true rfl) rfl ?_
  intro zp ze zs zm za zb zh zc hc
  refine g_aload_n (pc := 0) hc 0 dX4_firstRow_0 rfl rfl ?_
  refine gf_c9_firstRow (pc := 1) hc tw_231 dX4_firstRow_1 ?_
  exact g_iret (pc := 4) hc dX4_firstRow_4 (rfl) (rfl)

theorem dX4_lastRow_0 : decode cX4_lastRow 0 = .ok (.aload_n 0, 1) := by decide +kernel
theorem dX4_lastRow_1 : decode cX4_lastRow 1 = .ok (.getfield 49, 3) := by decide +kernel
theorem dX4_lastRow_4 : decode cX4_lastRow 4 = .ok (.ireturn, 1) := by decide +kernel

set_option maxHeartbeats 4000000 in
set_option maxRecDepth 100000 in
theorem c_X4_lastRow (l : Launch) (E : Ev) {A : Nat → Prop} (ad : Nat → Nat) (hA : Oka 39 ad A) (sc : Nat → Int32) (ar : Nat → Nat → Int32) (bl : Int64)  : Ct l E yX4_lastRow (.code yX4_lastRow cX4_lastRow 1 (some .int)) ({ frames := 0, cells := 0, slots := 0, locals := 0 }) A (cw E ad sc ar bl) [.ref (ad 9)] (some (.int (sc 12))) (cw E ad sc ar bl) := by
  refine Ct.of (lv := [(0, .ref (ad 9))]) (by decide +kernel) (Nat.le_of_ble_eq_true rfl) rfl ?_
  intro zp ze zs zm za zb zh zc hc
  refine g_aload_n (pc := 0) hc 0 dX4_lastRow_0 rfl rfl ?_
  refine gf_c9_lastRow (pc := 1) hc tw_232 dX4_lastRow_1 ?_
  exact g_iret (pc := 4) hc dX4_lastRow_4 (rfl) (rfl)

theorem dX4_firstDay_0 : decode cX4_firstDay 0 = .ok (.aload_n 0, 1) := by decide +kernel
theorem dX4_firstDay_1 : decode cX4_firstDay 1 = .ok (.getfield 52, 3) := by decide +kernel
theorem dX4_firstDay_4 : decode cX4_firstDay 4 = .ok (.ireturn, 1) := by decide +kernel

set_option maxHeartbeats 4000000 in
set_option maxRecDepth 100000 in
theorem c_X4_firstDay (l : Launch) (E : Ev) {A : Nat → Prop} (ad : Nat → Nat) (hA : Oka 39 ad A) (sc : Nat → Int32) (ar : Nat → Nat → Int32) (bl : Int64)  : Ct l E yX4_firstDay (.code yX4_firstDay cX4_firstDay 1 (some .int)) ({ frames := 0, cells := 0, slots := 0, locals := 0 }) A (cw E ad sc ar bl) [.ref (ad 9)] (some (.int (sc 13))) (cw E ad sc ar bl) := by
  refine Ct.of (lv := [(0, .ref (ad 9))]) (by decide +kernel) (Nat.le_of_ble_eq_true rfl) rfl ?_
  intro zp ze zs zm za zb zh zc hc
  refine g_aload_n (pc := 0) hc 0 dX4_firstDay_0 rfl rfl ?_
  refine gf_c9_firstDay (pc := 1) hc tw_233 dX4_firstDay_1 ?_
  exact g_iret (pc := 4) hc dX4_firstDay_4 (rfl) (rfl)

theorem dX4_lastDay_0 : decode cX4_lastDay 0 = .ok (.aload_n 0, 1) := by decide +kernel
theorem dX4_lastDay_1 : decode cX4_lastDay 1 = .ok (.getfield 55, 3) := by decide +kernel
theorem dX4_lastDay_4 : decode cX4_lastDay 4 = .ok (.ireturn, 1) := by decide +kernel

set_option maxHeartbeats 4000000 in
set_option maxRecDepth 100000 in
theorem c_X4_lastDay (l : Launch) (E : Ev) {A : Nat → Prop} (ad : Nat → Nat) (hA : Oka 39 ad A) (sc : Nat → Int32) (ar : Nat → Nat → Int32) (bl : Int64)  : Ct l E yX4_lastDay (.code yX4_lastDay cX4_lastDay 1 (some .int)) ({ frames := 0, cells := 0, slots := 0, locals := 0 }) A (cw E ad sc ar bl) [.ref (ad 9)] (some (.int (sc 14))) (cw E ad sc ar bl) := by
  refine Ct.of (lv := [(0, .ref (ad 9))]) (by decide +kernel) (Nat.le_of_ble_eq_true rfl) rfl ?_
  intro zp ze zs zm za zb zh zc hc
  refine g_aload_n (pc := 0) hc 0 dX4_lastDay_0 rfl rfl ?_
  refine gf_c9_lastDay (pc := 1) hc tw_234 dX4_lastDay_1 ?_
  exact g_iret (pc := 4) hc dX4_lastDay_4 (rfl) (rfl)

theorem dX4_barred_0 : decode cX4_barred 0 = .ok (.aload_n 0, 1) := by decide +kernel
theorem dX4_barred_1 : decode cX4_barred 1 = .ok (.getfield 58, 3) := by decide +kernel
theorem dX4_barred_4 : decode cX4_barred 4 = .ok (.ireturn, 1) := by decide +kernel

set_option maxHeartbeats 4000000 in
set_option maxRecDepth 100000 in
theorem c_X4_barred (l : Launch) (E : Ev) {A : Nat → Prop} (ad : Nat → Nat) (hA : Oka 39 ad A) (sc : Nat → Int32) (ar : Nat → Nat → Int32) (bl : Int64)  : Ct l E yX4_barred (.code yX4_barred cX4_barred 1 (some .int)) ({ frames := 0, cells := 0, slots := 0, locals := 0 }) A (cw E ad sc ar bl) [.ref (ad 9)] (some (.int (sc 15))) (cw E ad sc ar bl) := by
  refine Ct.of (lv := [(0, .ref (ad 9))]) (by decide +kernel) (Nat.le_of_ble_eq_true rfl) rfl ?_
  intro zp ze zs zm za zb zh zc hc
  refine g_aload_n (pc := 0) hc 0 dX4_barred_0 rfl rfl ?_
  refine gf_c9_barred (pc := 1) hc tw_235 dX4_barred_1 ?_
  exact g_iret (pc := 4) hc dX4_barred_4 (rfl) (rfl)

theorem dX4_isSound_0 : decode cX4_isSound 0 = .ok (.aload_n 0, 1) := by decide +kernel
theorem dX4_isSound_1 : decode cX4_isSound 1 = .ok (.getfield 15, 3) := by decide +kernel
theorem dX4_isSound_4 : decode cX4_isSound 4 = .ok (.iconst (-1), 1) := by decide +kernel
theorem dX4_isSound_5 : decode cX4_isSound 5 = .ok (.if_icmp .ne 7, 3) := by decide +kernel
theorem dX4_isSound_8 : decode cX4_isSound 8 = .ok (.iconst 1, 1) := by decide +kernel
theorem dX4_isSound_9 : decode cX4_isSound 9 = .ok (.goto 4, 3) := by decide +kernel
theorem dX4_isSound_12 : decode cX4_isSound 12 = .ok (.iconst 0, 1) := by decide +kernel
theorem dX4_isSound_13 : decode cX4_isSound 13 = .ok (.ireturn, 1) := by decide +kernel

set_option maxHeartbeats 4000000 in
set_option maxRecDepth 100000 in
theorem c_X4_isSound (l : Launch) (E : Ev) {A : Nat → Prop} (ad : Nat → Nat) (hA : Oka 39 ad A) (sc : Nat → Int32) (ar : Nat → Nat → Int32) (bl : Int64) {tL : Nat} (q : Rq)  (hT : sc 7 = nI tL) (hT60 : tL ≤ 60) (h8 : sc 8 = nI q.1) (h9 : sc 9 = nI q.2.1) (h10 : sc 10 = q.2.2) (hq : rdok tL q) : Ct l E yX4_isSound (.code yX4_isSound cX4_isSound 1 (some .boolean)) ({ frames := 0, cells := 0, slots := 0, locals := 0 }) A (cw E ad sc ar bl) [.ref (ad 9)] (some (.int (bI (snd q)))) (cw E ad sc ar bl) := by
  refine Ct.of (lv := [(0, .ref (ad 9))]) (by decide +kernel) (Nat.le_of_ble_eq_true rfl) rfl ?_
  intro zp ze zs zm za zb zh zc hc
  refine g_aload_n (pc := 0) hc 0 dX4_isSound_0 rfl rfl ?_
  refine gf_c9_fault (pc := 1) hc tw_230 dX4_isSound_1 ?_
  refine g_topi (v := q.2.2) (h10) ?_
  refine g_iconst (pc := 4) (v := (-1)) hc dX4_isSound_4 (by decide) ?_
  refine g_icmp_ne (pc := 5) hc 12 dX4_isSound_5 (by decide) (fun c1 => ?_) (fun c1 => ?_)
  · refine g_iconst (pc := 12) (v := nI 0) hc dX4_isSound_12 (by decide) ?_
    exact g_zret (pc := 13) hc dX4_isSound_13 (by decide) (by unfold snd; simp [bI, c1] <;> rfl) (rfl)
  · refine g_iconst (pc := 8) (v := nI 1) hc dX4_isSound_8 (by decide) ?_
    refine g_goto (pc := 9) hc 13 dX4_isSound_9 (by decide) ?_
    exact g_zret (pc := 13) hc dX4_isSound_13 (by decide) (by unfold snd; simp [bI, c1] <;> rfl) (rfl)

theorem dX4_tellFault_0 : decode cX4_tellFault 0 = .ok (.aload_n 0, 1) := by decide +kernel
theorem dX4_tellFault_1 : decode cX4_tellFault 1 = .ok (.invokevirtual 73, 3) := by decide +kernel
theorem dX4_tellFault_4 : decode cX4_tellFault 4 = .ok (.ifCond .eq 11, 3) := by decide +kernel
theorem dX4_tellFault_7 : decode cX4_tellFault 7 = .ok (.aload_n 0, 1) := by decide +kernel
theorem dX4_tellFault_8 : decode cX4_tellFault 8 = .ok (.aload_n 0, 1) := by decide +kernel
theorem dX4_tellFault_9 : decode cX4_tellFault 9 = .ok (.getfield 34, 3) := by decide +kernel
theorem dX4_tellFault_12 : decode cX4_tellFault 12 = .ok (.putfield 15, 3) := by decide +kernel
theorem dX4_tellFault_15 : decode cX4_tellFault 15 = .ok (.return_, 1) := by decide +kernel

set_option maxHeartbeats 4000000 in
set_option maxRecDepth 100000 in
theorem c_X4_tellFault (l : Launch) (E : Ev) {A : Nat → Prop} (ad : Nat → Nat) (hA : Oka 39 ad A) (sc : Nat → Int32) (ar : Nat → Nat → Int32) (bl : Int64) {tL : Nat} (q : Rq)  (hT : sc 7 = nI tL) (hT60 : tL ≤ 60) (h8 : sc 8 = nI q.1) (h9 : sc 9 = nI q.2.1) (h10 : sc 10 = q.2.2) (hq : rdok tL q) : Ct l E yX4_tellFault (.code yX4_tellFault cX4_tellFault 1 none) ({ frames := 1, cells := 0, slots := 0, locals := 20 }) A (cw E ad sc ar bl) [.ref (ad 9)] (none) (cw E ad (va_up (va_up (va_up sc 8 (nI (tfl q).1)) 9 (nI (tfl q).2.1)) 10 (tfl q).2.2) ar bl) := by
  refine Ct.of (lv := [(0, .ref (ad 9))]) (by decide +kernel) (Nat.le_of_ble_eq_true rfl) rfl ?_
  intro zp ze zs zm za zb zh zc hc
  refine g_aload_n (pc := 0) hc 0 dX4_tellFault_0 rfl rfl ?_
  refine g_callVi (pc := 1) (rest := []) (As := []) hc (c_X4_isSound l E ad hA sc ar bl q  hT hT60 h8 h9 h10 (hq)) mi_X4_isSound tw_780 9 rfl rfl rfl rfl ⟨rfl, rfl, by decide, by decide⟩ (Nat.le_of_ble_eq_true rfl) ⟨Nat.le_refl _, Nat.le_refl _⟩ rfl dX4_tellFault_1 ?_
  refine g_if_eq_b (pc := 4) hc 15 dX4_tellFault_4 (by decide) (fun c1 => ?_) (fun c1 => ?_)
  · exact g_vret (pc := 15) hc dX4_tellFault_15 rfl (by rw [tfl, if_neg (ne_true_of_eq_false c1), ← h8, ← h9, ← h10]; rfl)
  · refine g_aload_n (pc := 7) hc 0 dX4_tellFault_7 rfl rfl ?_
    refine g_aload_n (pc := 8) hc 0 dX4_tellFault_8 rfl rfl ?_
    refine gf_c9_start (pc := 9) hc tw_228 dX4_tellFault_9 ?_
    refine g_topi (v := nI q.1) (h8) ?_
    refine pf_c9_fault (pc := 12) hc hA tw_230 dX4_tellFault_12 ?_
    exact g_vret (pc := 15) hc dX4_tellFault_15 rfl (by rw [tfl, if_pos c1, ← h9]; show _ = cw E ad (va_up (va_up (va_up sc 8 (nI q.1)) 9 (sc 9)) 10 (nI q.1)) ar bl; rw [← h8]; rfl)

theorem dX4_goOn_0 : decode cX4_goOn 0 = .ok (.aload_n 0, 1) := by decide +kernel
theorem dX4_goOn_1 : decode cX4_goOn 1 = .ok (.aload_n 0, 1) := by decide +kernel
theorem dX4_goOn_2 : decode cX4_goOn 2 = .ok (.getfield 19, 3) := by decide +kernel
theorem dX4_goOn_5 : decode cX4_goOn 5 = .ok (.putfield 34, 3) := by decide +kernel
theorem dX4_goOn_8 : decode cX4_goOn 8 = .ok (.aload_n 0, 1) := by decide +kernel
theorem dX4_goOn_9 : decode cX4_goOn 9 = .ok (.getfield 34, 3) := by decide +kernel
theorem dX4_goOn_12 : decode cX4_goOn 12 = .ok (.aload_n 0, 1) := by decide +kernel
theorem dX4_goOn_13 : decode cX4_goOn 13 = .ok (.getfield 9, 3) := by decide +kernel
theorem dX4_goOn_16 : decode cX4_goOn 16 = .ok (.invokevirtual 37, 3) := by decide +kernel
theorem dX4_goOn_19 : decode cX4_goOn 19 = .ok (.if_icmp .ge 32, 3) := by decide +kernel
theorem dX4_goOn_22 : decode cX4_goOn 22 = .ok (.aload_n 0, 1) := by decide +kernel
theorem dX4_goOn_23 : decode cX4_goOn 23 = .ok (.getfield 9, 3) := by decide +kernel
theorem dX4_goOn_26 : decode cX4_goOn 26 = .ok (.aload_n 0, 1) := by decide +kernel
theorem dX4_goOn_27 : decode cX4_goOn 27 = .ok (.getfield 34, 3) := by decide +kernel
theorem dX4_goOn_30 : decode cX4_goOn 30 = .ok (.invokevirtual 92, 3) := by decide +kernel
theorem dX4_goOn_33 : decode cX4_goOn 33 = .ok (.bipush 32, 2) := by decide +kernel
theorem dX4_goOn_35 : decode cX4_goOn 35 = .ok (.if_icmp .ne 16, 3) := by decide +kernel
theorem dX4_goOn_38 : decode cX4_goOn 38 = .ok (.aload_n 0, 1) := by decide +kernel
theorem dX4_goOn_39 : decode cX4_goOn 39 = .ok (.dup, 1) := by decide +kernel
theorem dX4_goOn_40 : decode cX4_goOn 40 = .ok (.getfield 34, 3) := by decide +kernel
theorem dX4_goOn_43 : decode cX4_goOn 43 = .ok (.iconst 1, 1) := by decide +kernel
theorem dX4_goOn_44 : decode cX4_goOn 44 = .ok (.iadd, 1) := by decide +kernel
theorem dX4_goOn_45 : decode cX4_goOn 45 = .ok (.putfield 34, 3) := by decide +kernel
theorem dX4_goOn_48 : decode cX4_goOn 48 = .ok (.goto (-40), 3) := by decide +kernel
theorem dX4_goOn_51 : decode cX4_goOn 51 = .ok (.aload_n 0, 1) := by decide +kernel
theorem dX4_goOn_52 : decode cX4_goOn 52 = .ok (.aload_n 0, 1) := by decide +kernel
theorem dX4_goOn_53 : decode cX4_goOn 53 = .ok (.getfield 34, 3) := by decide +kernel
theorem dX4_goOn_56 : decode cX4_goOn 56 = .ok (.putfield 19, 3) := by decide +kernel
theorem dX4_goOn_59 : decode cX4_goOn 59 = .ok (.aload_n 0, 1) := by decide +kernel
theorem dX4_goOn_60 : decode cX4_goOn 60 = .ok (.getfield 19, 3) := by decide +kernel
theorem dX4_goOn_63 : decode cX4_goOn 63 = .ok (.aload_n 0, 1) := by decide +kernel
theorem dX4_goOn_64 : decode cX4_goOn 64 = .ok (.getfield 9, 3) := by decide +kernel
theorem dX4_goOn_67 : decode cX4_goOn 67 = .ok (.invokevirtual 37, 3) := by decide +kernel
theorem dX4_goOn_70 : decode cX4_goOn 70 = .ok (.if_icmp .ge 32, 3) := by decide +kernel
theorem dX4_goOn_73 : decode cX4_goOn 73 = .ok (.aload_n 0, 1) := by decide +kernel
theorem dX4_goOn_74 : decode cX4_goOn 74 = .ok (.getfield 9, 3) := by decide +kernel
theorem dX4_goOn_77 : decode cX4_goOn 77 = .ok (.aload_n 0, 1) := by decide +kernel
theorem dX4_goOn_78 : decode cX4_goOn 78 = .ok (.getfield 19, 3) := by decide +kernel
theorem dX4_goOn_81 : decode cX4_goOn 81 = .ok (.invokevirtual 92, 3) := by decide +kernel
theorem dX4_goOn_84 : decode cX4_goOn 84 = .ok (.bipush 32, 2) := by decide +kernel
theorem dX4_goOn_86 : decode cX4_goOn 86 = .ok (.if_icmp .eq 16, 3) := by decide +kernel
theorem dX4_goOn_89 : decode cX4_goOn 89 = .ok (.aload_n 0, 1) := by decide +kernel
theorem dX4_goOn_90 : decode cX4_goOn 90 = .ok (.dup, 1) := by decide +kernel
theorem dX4_goOn_91 : decode cX4_goOn 91 = .ok (.getfield 19, 3) := by decide +kernel
theorem dX4_goOn_94 : decode cX4_goOn 94 = .ok (.iconst 1, 1) := by decide +kernel
theorem dX4_goOn_95 : decode cX4_goOn 95 = .ok (.iadd, 1) := by decide +kernel
theorem dX4_goOn_96 : decode cX4_goOn 96 = .ok (.putfield 19, 3) := by decide +kernel
theorem dX4_goOn_99 : decode cX4_goOn 99 = .ok (.goto (-40), 3) := by decide +kernel
theorem dX4_goOn_102 : decode cX4_goOn 102 = .ok (.return_, 1) := by decide +kernel

set_option maxHeartbeats 4000000 in
set_option maxRecDepth 100000 in
theorem c_X4_goOn (l : Launch) (E : Ev) {A : Nat → Prop} (ad : Nat → Nat) (hA : Oka 39 ad A) (sc : Nat → Int32) (ar : Nat → Nat → Int32) (bl : Int64) {tL : Nat} (q : Rq)  (hT : sc 7 = nI tL) (hT60 : tL ≤ 60) (h9 : sc 9 = nI q.2.1) (h10 : sc 10 = q.2.2) (hq2 : q.2.1 ≤ tL) : Ct l E yX4_goOn (.code yX4_goOn cX4_goOn 1 none) ({ frames := 1, cells := 0, slots := 0, locals := 21 }) A (cw E ad sc ar bl) [.ref (ad 9)] (none) (cw E ad (va_up (va_up (va_up sc 8 (nI (goT (ar 30) tL q).1)) 9 (nI (goT (ar 30) tL q).2.1)) 10 (goT (ar 30) tL q).2.2) ar bl) := by
  have hg := g_in (ar 30) hq2
  refine Ct.of (lv := [(0, .ref (ad 9))]) (by decide +kernel) (Nat.le_of_ble_eq_true rfl) rfl ?_
  intro zp ze zs zm za zb zh zc hc
  refine g_aload_n (pc := 0) hc 0 dX4_goOn_0 rfl rfl ?_
  refine g_aload_n (pc := 1) hc 0 dX4_goOn_1 rfl rfl ?_
  refine gf_c9_end (pc := 2) hc tw_229 dX4_goOn_2 ?_
  refine g_topi (v := nI q.2.1) (h9) ?_
  have J51_1 : G zp l ze ({ frames := 1, cells := 0, slots := 0, locals := 21 }) zs zm za zb zh zc 0 0 (MQ zb (Qz E A (none) (cw E ad (va_up (va_up (va_up sc 8 (nI (goT (ar 30) tL q).1)) 9 (nI (goT (ar 30) tL q).2.1)) 10 (goT (ar 30) tL q).2.2) ar bl)) za zs 0 0 A) E A 1 (cw E ad (va_up sc 8 (nI (gS (ar 30) tL q.2.1))) ar bl) (51) [(0, .ref (ad 9))] [] := by
    refine g_aload_n (pc := 51) hc 0 dX4_goOn_51 rfl rfl ?_
    refine g_aload_n (pc := 52) hc 0 dX4_goOn_52 rfl rfl ?_
    refine gf_c9_start (pc := 53) hc tw_228 dX4_goOn_53 ?_
    refine g_topi (v := nI (gS (ar 30) tL q.2.1)) rfl ?_
    refine pf_c9_end (pc := 56) hc hA tw_229 dX4_goOn_56 ?_
    have L59_2 : ∀ (ki i : Nat), i + ki = tL → (hnw : nw (ar 30) (tL - (i)) (i) = gE (ar 30) tL q.2.1) → G zp l ze ({ frames := 1, cells := 0, slots := 0, locals := 21 }) zs zm za zb zh zc 0 0 (MQ zb (Qz E A (none) (cw E ad (va_up (va_up (va_up sc 8 (nI (goT (ar 30) tL q).1)) 9 (nI (goT (ar 30) tL q).2.1)) 10 (goT (ar 30) tL q).2.2) ar bl)) za zs 0 0 A) E A 1 (cw E ad (va_up (va_up sc 8 (nI (gS (ar 30) tL q.2.1))) 9 (nI (i))) ar bl) (59) [(0, .ref (ad 9))] [] := by
      intro ki
      induction ki with
      | zero =>
        intro i lhi hnw
        have lhin : tL = i := by omega
        subst lhin
        refine g_aload_n (pc := 59) hc 0 dX4_goOn_59 rfl rfl ?_
        refine gf_c9_end (pc := 60) hc tw_229 dX4_goOn_60 ?_
        refine g_topi (v := nI (tL)) rfl ?_
        refine g_aload_n (pc := 63) hc 0 dX4_goOn_63 rfl rfl ?_
        refine gf_c9_tape (pc := 64) hc tw_227 dX4_goOn_64 ?_
        refine g_callVi (pc := 67) (rest := [.int (nI (tL))]) (As := []) hc (c_X9_length l E ad hA (va_up (va_up sc 8 (nI (gS (ar 30) tL q.2.1))) 9 (nI (tL))) ar bl) mi_X9_length tw_766 8 rfl rfl rfl rfl ⟨rfl, rfl, by decide, by decide⟩ (Nat.le_of_ble_eq_true rfl) ⟨Nat.le_refl _, Nat.le_refl _⟩ rfl dX4_goOn_67 ?_
        refine g_topi (v := sc 7) rfl ?_
        refine g_topi (v := nI tL) (hT) ?_
        refine g_icmp_ge_t (pc := 70) hc 102 dX4_goOn_70 (by decide) (nI_le (by omega) (by omega)) ?_
        exact g_vret (pc := 102) hc dX4_goOn_102 rfl (by show _ = cw E ad (va_up (va_up (va_up sc 8 (nI (gS (ar 30) tL q.2.1))) 9 (nI (gE (ar 30) tL q.2.1))) 10 q.2.2) ar bl; rw [← hnw, nw_e, ← h10]; rfl)
      | succ ki ihi =>
        intro i lhi hnw
        have lhin : i < tL := by omega
        refine g_aload_n (pc := 59) hc 0 dX4_goOn_59 rfl rfl ?_
        refine gf_c9_end (pc := 60) hc tw_229 dX4_goOn_60 ?_
        refine g_topi (v := nI (i)) rfl ?_
        refine g_aload_n (pc := 63) hc 0 dX4_goOn_63 rfl rfl ?_
        refine gf_c9_tape (pc := 64) hc tw_227 dX4_goOn_64 ?_
        refine g_callVi (pc := 67) (rest := [.int (nI (i))]) (As := []) hc (c_X9_length l E ad hA (va_up (va_up sc 8 (nI (gS (ar 30) tL q.2.1))) 9 (nI (i))) ar bl) mi_X9_length tw_766 8 rfl rfl rfl rfl ⟨rfl, rfl, by decide, by decide⟩ (Nat.le_of_ble_eq_true rfl) ⟨Nat.le_refl _, Nat.le_refl _⟩ rfl dX4_goOn_67 ?_
        refine g_topi (v := sc 7) rfl ?_
        refine g_topi (v := nI tL) (hT) ?_
        refine g_icmp_ge_f (pc := 70) hc 102 dX4_goOn_70 (by decide) (nI_ge (by omega) (by omega)) ?_
        refine g_aload_n (pc := 73) hc 0 dX4_goOn_73 rfl rfl ?_
        refine gf_c9_tape (pc := 74) hc tw_227 dX4_goOn_74 ?_
        refine g_aload_n (pc := 77) hc 0 dX4_goOn_77 rfl rfl ?_
        refine gf_c9_end (pc := 78) hc tw_229 dX4_goOn_78 ?_
        refine g_topi (v := nI (i)) rfl ?_
        refine g_callVi (pc := 81) (rest := []) (As := [.int (nI (i))]) hc (c_X9_at l E ad hA (va_up (va_up sc 8 (nI (gS (ar 30) tL q.2.1))) 9 (nI (i))) ar bl i (by omega)) mi_X9_at tw_767 8 rfl rfl rfl rfl ⟨rfl, rfl, by decide, by decide⟩ (Nat.le_of_ble_eq_true rfl) ⟨Nat.le_refl _, Nat.le_refl _⟩ rfl dX4_goOn_81 ?_
        refine g_topi (v := (ar 30) i &&& nI 255) rfl ?_
        refine g_bipush (pc := 84) (v := nI 32) hc dX4_goOn_84 (by decide) ?_
        refine g_icmp_eq (pc := 86) hc 102 dX4_goOn_86 (by decide) (fun c3 => ?_) (fun c3 => ?_)
        · exact g_vret (pc := 102) hc dX4_goOn_102 rfl (by show _ = cw E ad (va_up (va_up (va_up sc 8 (nI (gS (ar 30) tL q.2.1))) 9 (nI (gE (ar 30) tL q.2.1))) 10 q.2.2) ar bl; rw [← hnw, nw_x lhin c3, ← h10]; rfl)
        · refine g_aload_n (pc := 89) hc 0 dX4_goOn_89 rfl rfl ?_
          refine g_dup (pc := 90) hc dX4_goOn_90 rfl ?_
          refine gf_c9_end (pc := 91) hc tw_229 dX4_goOn_91 ?_
          refine g_topi (v := nI (i)) rfl ?_
          refine g_iconst (pc := 94) (v := nI 1) hc dX4_goOn_94 (by decide) ?_
          refine g_iadd (pc := 95) hc dX4_goOn_95 ?_
          refine g_topi (v := nI (i + 1)) (nI_add i 1) ?_
          refine pf_c9_end (pc := 96) hc hA tw_229 dX4_goOn_96 ?_
          refine g_eq (ws' := cw E ad (va_up (va_up sc 8 (nI (gS (ar 30) tL q.2.1))) 9 (nI (i + 1))) ar bl) (lv' := [(0, .ref (ad 9))]) rfl rfl rfl ?_
          refine g_goto (pc := 99) hc 59 dX4_goOn_99 (by decide) ?_
          exact g_eq (ws' := cw E ad (va_up (va_up sc 8 (nI (gS (ar 30) tL q.2.1))) 9 (nI (i + 1))) ar bl) (lv' := [(0, .ref (ad 9))]) (rfl) (rfl) rfl (ihi (i + 1) (by omega) ((nw_b lhin c3).symm.trans hnw))
    exact g_eq (ws' := cw E ad (va_up (va_up sc 8 (nI (gS (ar 30) tL q.2.1))) 9 (nI ((gS (ar 30) tL q.2.1)))) ar bl) (lv' := [(0, .ref (ad 9))]) (rfl) (rfl) rfl (L59_2 (tL - (gS (ar 30) tL q.2.1)) ((gS (ar 30) tL q.2.1)) (by omega) (rfl))
  refine pf_c9_start (pc := 5) hc hA tw_228 dX4_goOn_5 ?_
  have L8_4 : ∀ (ki i : Nat), i + ki = tL → (hnb : nb (ar 30) (tL - (i)) (i) = gS (ar 30) tL q.2.1) → G zp l ze ({ frames := 1, cells := 0, slots := 0, locals := 21 }) zs zm za zb zh zc 0 0 (MQ zb (Qz E A (none) (cw E ad (va_up (va_up (va_up sc 8 (nI (goT (ar 30) tL q).1)) 9 (nI (goT (ar 30) tL q).2.1)) 10 (goT (ar 30) tL q).2.2) ar bl)) za zs 0 0 A) E A 1 (cw E ad (va_up sc 8 (nI (i))) ar bl) (8) [(0, .ref (ad 9))] [] := by
    intro ki
    induction ki with
    | zero =>
      intro i lhi hnb
      have lhin : tL = i := by omega
      subst lhin
      refine g_aload_n (pc := 8) hc 0 dX4_goOn_8 rfl rfl ?_
      refine gf_c9_start (pc := 9) hc tw_228 dX4_goOn_9 ?_
      refine g_topi (v := nI (tL)) rfl ?_
      refine g_aload_n (pc := 12) hc 0 dX4_goOn_12 rfl rfl ?_
      refine gf_c9_tape (pc := 13) hc tw_227 dX4_goOn_13 ?_
      refine g_callVi (pc := 16) (rest := [.int (nI (tL))]) (As := []) hc (c_X9_length l E ad hA (va_up sc 8 (nI (tL))) ar bl) mi_X9_length tw_766 8 rfl rfl rfl rfl ⟨rfl, rfl, by decide, by decide⟩ (Nat.le_of_ble_eq_true rfl) ⟨Nat.le_refl _, Nat.le_refl _⟩ rfl dX4_goOn_16 ?_
      refine g_topi (v := sc 7) rfl ?_
      refine g_topi (v := nI tL) (hT) ?_
      refine g_icmp_ge_t (pc := 19) hc 51 dX4_goOn_19 (by decide) (nI_le (by omega) (by omega)) ?_
      exact g_eq (ws' := cw E ad (va_up sc 8 (nI (gS (ar 30) tL q.2.1))) ar bl) (lv' := [(0, .ref (ad 9))]) (by rw [← hnb, nb_e]) (rfl) (rfl) J51_1
    | succ ki ihi =>
      intro i lhi hnb
      have lhin : i < tL := by omega
      refine g_aload_n (pc := 8) hc 0 dX4_goOn_8 rfl rfl ?_
      refine gf_c9_start (pc := 9) hc tw_228 dX4_goOn_9 ?_
      refine g_topi (v := nI (i)) rfl ?_
      refine g_aload_n (pc := 12) hc 0 dX4_goOn_12 rfl rfl ?_
      refine gf_c9_tape (pc := 13) hc tw_227 dX4_goOn_13 ?_
      refine g_callVi (pc := 16) (rest := [.int (nI (i))]) (As := []) hc (c_X9_length l E ad hA (va_up sc 8 (nI (i))) ar bl) mi_X9_length tw_766 8 rfl rfl rfl rfl ⟨rfl, rfl, by decide, by decide⟩ (Nat.le_of_ble_eq_true rfl) ⟨Nat.le_refl _, Nat.le_refl _⟩ rfl dX4_goOn_16 ?_
      refine g_topi (v := sc 7) rfl ?_
      refine g_topi (v := nI tL) (hT) ?_
      refine g_icmp_ge_f (pc := 19) hc 51 dX4_goOn_19 (by decide) (nI_ge (by omega) (by omega)) ?_
      refine g_aload_n (pc := 22) hc 0 dX4_goOn_22 rfl rfl ?_
      refine gf_c9_tape (pc := 23) hc tw_227 dX4_goOn_23 ?_
      refine g_aload_n (pc := 26) hc 0 dX4_goOn_26 rfl rfl ?_
      refine gf_c9_start (pc := 27) hc tw_228 dX4_goOn_27 ?_
      refine g_topi (v := nI (i)) rfl ?_
      refine g_callVi (pc := 30) (rest := []) (As := [.int (nI (i))]) hc (c_X9_at l E ad hA (va_up sc 8 (nI (i))) ar bl i (by omega)) mi_X9_at tw_767 8 rfl rfl rfl rfl ⟨rfl, rfl, by decide, by decide⟩ (Nat.le_of_ble_eq_true rfl) ⟨Nat.le_refl _, Nat.le_refl _⟩ rfl dX4_goOn_30 ?_
      refine g_topi (v := (ar 30) i &&& nI 255) rfl ?_
      refine g_bipush (pc := 33) (v := nI 32) hc dX4_goOn_33 (by decide) ?_
      refine g_icmp_ne (pc := 35) hc 51 dX4_goOn_35 (by decide) (fun c5 => ?_) (fun c5 => ?_)
      · exact g_eq (ws' := cw E ad (va_up sc 8 (nI (gS (ar 30) tL q.2.1))) ar bl) (lv' := [(0, .ref (ad 9))]) (by rw [← hnb, nb_x lhin c5]) (rfl) (rfl) J51_1
      · refine g_aload_n (pc := 38) hc 0 dX4_goOn_38 rfl rfl ?_
        refine g_dup (pc := 39) hc dX4_goOn_39 rfl ?_
        refine gf_c9_start (pc := 40) hc tw_228 dX4_goOn_40 ?_
        refine g_topi (v := nI (i)) rfl ?_
        refine g_iconst (pc := 43) (v := nI 1) hc dX4_goOn_43 (by decide) ?_
        refine g_iadd (pc := 44) hc dX4_goOn_44 ?_
        refine g_topi (v := nI (i + 1)) (nI_add i 1) ?_
        refine pf_c9_start (pc := 45) hc hA tw_228 dX4_goOn_45 ?_
        refine g_eq (ws' := cw E ad (va_up sc 8 (nI (i + 1))) ar bl) (lv' := [(0, .ref (ad 9))]) rfl rfl rfl ?_
        refine g_goto (pc := 48) hc 8 dX4_goOn_48 (by decide) ?_
        exact g_eq (ws' := cw E ad (va_up sc 8 (nI (i + 1))) ar bl) (lv' := [(0, .ref (ad 9))]) (rfl) (rfl) rfl (ihi (i + 1) (by omega) ((nb_b lhin c5).symm.trans hnb))
  exact g_eq (ws' := cw E ad (va_up sc 8 (nI (q.2.1))) ar bl) (lv' := [(0, .ref (ad 9))]) (rfl) (rfl) rfl (L8_4 (tL - q.2.1) (q.2.1) (by omega) (rfl))

theorem dX4_isAt_0 : decode cX4_isAt 0 = .ok (.aload_n 0, 1) := by decide +kernel
theorem dX4_isAt_1 : decode cX4_isAt 1 = .ok (.getfield 19, 3) := by decide +kernel
theorem dX4_isAt_4 : decode cX4_isAt 4 = .ok (.aload_n 0, 1) := by decide +kernel
theorem dX4_isAt_5 : decode cX4_isAt 5 = .ok (.getfield 34, 3) := by decide +kernel
theorem dX4_isAt_8 : decode cX4_isAt 8 = .ok (.isub, 1) := by decide +kernel
theorem dX4_isAt_9 : decode cX4_isAt 9 = .ok (.aload_n 1, 1) := by decide +kernel
theorem dX4_isAt_10 : decode cX4_isAt 10 = .ok (.invokevirtual 96, 3) := by decide +kernel
theorem dX4_isAt_13 : decode cX4_isAt 13 = .ok (.if_icmp .eq 5, 3) := by decide +kernel
theorem dX4_isAt_16 : decode cX4_isAt 16 = .ok (.iconst 0, 1) := by decide +kernel
theorem dX4_isAt_17 : decode cX4_isAt 17 = .ok (.ireturn, 1) := by decide +kernel
theorem dX4_isAt_18 : decode cX4_isAt 18 = .ok (.iconst 0, 1) := by decide +kernel
theorem dX4_isAt_19 : decode cX4_isAt 19 = .ok (.istore_n 2, 1) := by decide +kernel
theorem dX4_isAt_20 : decode cX4_isAt 20 = .ok (.iload_n 2, 1) := by decide +kernel
theorem dX4_isAt_21 : decode cX4_isAt 21 = .ok (.aload_n 1, 1) := by decide +kernel
theorem dX4_isAt_22 : decode cX4_isAt 22 = .ok (.invokevirtual 96, 3) := by decide +kernel
theorem dX4_isAt_25 : decode cX4_isAt 25 = .ok (.if_icmp .ge 32, 3) := by decide +kernel
theorem dX4_isAt_28 : decode cX4_isAt 28 = .ok (.aload_n 0, 1) := by decide +kernel
theorem dX4_isAt_29 : decode cX4_isAt 29 = .ok (.getfield 9, 3) := by decide +kernel
theorem dX4_isAt_32 : decode cX4_isAt 32 = .ok (.aload_n 0, 1) := by decide +kernel
theorem dX4_isAt_33 : decode cX4_isAt 33 = .ok (.getfield 34, 3) := by decide +kernel
theorem dX4_isAt_36 : decode cX4_isAt 36 = .ok (.iload_n 2, 1) := by decide +kernel
theorem dX4_isAt_37 : decode cX4_isAt 37 = .ok (.iadd, 1) := by decide +kernel
theorem dX4_isAt_38 : decode cX4_isAt 38 = .ok (.invokevirtual 92, 3) := by decide +kernel
theorem dX4_isAt_41 : decode cX4_isAt 41 = .ok (.aload_n 1, 1) := by decide +kernel
theorem dX4_isAt_42 : decode cX4_isAt 42 = .ok (.iload_n 2, 1) := by decide +kernel
theorem dX4_isAt_43 : decode cX4_isAt 43 = .ok (.invokevirtual 99, 3) := by decide +kernel
theorem dX4_isAt_46 : decode cX4_isAt 46 = .ok (.if_icmp .eq 5, 3) := by decide +kernel
theorem dX4_isAt_49 : decode cX4_isAt 49 = .ok (.iconst 0, 1) := by decide +kernel
theorem dX4_isAt_50 : decode cX4_isAt 50 = .ok (.ireturn, 1) := by decide +kernel
theorem dX4_isAt_51 : decode cX4_isAt 51 = .ok (.iinc 2 1, 3) := by decide +kernel
theorem dX4_isAt_54 : decode cX4_isAt 54 = .ok (.goto (-34), 3) := by decide +kernel
theorem dX4_isAt_57 : decode cX4_isAt 57 = .ok (.iconst 1, 1) := by decide +kernel
theorem dX4_isAt_58 : decode cX4_isAt 58 = .ok (.ireturn, 1) := by decide +kernel

set_option maxHeartbeats 4000000 in
set_option maxRecDepth 100000 in
theorem c_X4_isAt (l : Launch) (E : Ev) {A : Nat → Prop} (ad : Nat → Nat) (hA : Oka 39 ad A) (sc : Nat → Int32) (ar : Nat → Nat → Int32) (bl : Int64) {tL : Nat} (q : Rq) (i : Nat) (hT : sc 7 = nI tL) (hT60 : tL ≤ 60) (h8 : sc 8 = nI q.1) (h9 : sc 9 = nI q.2.1) (h10 : sc 10 = q.2.2) (hq : rdok tL q) (hi6 : i < 6) : Ct l E yX4_isAt (.code yX4_isAt cX4_isAt 3 (some .boolean)) ({ frames := 5, cells := 0, slots := 0, locals := 106 }) A (cw E ad sc ar bl) [.ref (ad 9), .ref (E.2.2.2 i)] (some (.int (bI (wat (ar 30) q i)))) (cw E ad sc ar bl) := by
  have hq1 : q.1 ≤ q.2.1 := hq.1
  have hq2 : q.2.1 ≤ tL := hq.2
  have hl4 := lenS_le i hi6
  refine Ct.of (lv := [(0, .ref (ad 9)), (1, .ref (E.2.2.2 i))]) (by decide +kernel) (Nat.le_of_ble_eq_true rfl) rfl ?_
  intro zp ze zs zm za zb zh zc hc
  refine g_aload_n (pc := 0) hc 0 dX4_isAt_0 rfl rfl ?_
  refine gf_c9_end (pc := 1) hc tw_229 dX4_isAt_1 ?_
  refine g_topi (v := nI q.2.1) (h9) ?_
  refine g_aload_n (pc := 4) hc 0 dX4_isAt_4 rfl rfl ?_
  refine gf_c9_start (pc := 5) hc tw_228 dX4_isAt_5 ?_
  refine g_topi (v := nI q.1) (h8) ?_
  refine g_isub (pc := 8) hc dX4_isAt_8 ?_
  refine g_topi (v := nI (q.2.1 - q.1)) (pk_sub hq1) ?_
  refine g_aload_n (pc := 9) hc 1 dX4_isAt_9 rfl rfl ?_
  refine g_callKi (pc := 10) (rest := [.int (nI (q.2.1 - q.1))]) (As := []) hc (c_J0_length_8abf5 l E ad hA sc ar bl i hi6) hi6 mi_J0_length_8abf5 tw_788 rfl rfl ⟨rfl, rfl, by decide, by decide⟩ (Nat.le_of_ble_eq_true rfl) ⟨Nat.le_refl _, Nat.le_refl _⟩ rfl dX4_isAt_10 ?_
  refine g_icmp_eq (pc := 13) hc 18 dX4_isAt_13 (by decide) (fun c1 => ?_) (fun c1 => ?_)
  · have hlen : q.2.1 - q.1 = lenS.getD i 0 := (nI_eq (by omega) (by omega)).mp c1
    refine g_iconst (pc := 18) (v := nI 0) hc dX4_isAt_18 (by decide) ?_
    refine g_istore_n (pc := 19) (lv' := [(0, .ref (ad 9)), (1, .ref (E.2.2.2 i)), (2, .int (nI 0))]) hc dX4_isAt_19 rfl (by decide) rfl ?_
    have L20_2 : ∀ (kj j : Nat), j + kj = (lenS.getD i 0) → (hall : ∀ k, k < j → decide (ar 30 (q.1 + k) &&& nI 255 = chS i k) = true) → G zp l ze ({ frames := 5, cells := 0, slots := 0, locals := 106 }) zs zm za zb zh zc 0 0 (MQ zb (Qz E A (some (.int (bI (wat (ar 30) q i)))) (cw E ad sc ar bl)) za zs 0 0 A) E A 3 (cw E ad sc ar bl) (20) [(0, .ref (ad 9)), (1, .ref (E.2.2.2 i)), (2, .int (nI (j)))] [] := by
      intro kj
      induction kj with
      | zero =>
        intro j lhj hall
        have lhjn : (lenS.getD i 0) = j := by omega
        subst lhjn
        refine g_iload_n (pc := 20) hc 2 dX4_isAt_20 rfl rfl ?_
        refine g_aload_n (pc := 21) hc 1 dX4_isAt_21 rfl rfl ?_
        refine g_callKi (pc := 22) (rest := [.int (nI ((lenS.getD i 0)))]) (As := []) hc (c_J0_length_8abf5 l E ad hA sc ar bl i hi6) hi6 mi_J0_length_8abf5 tw_788 rfl rfl ⟨rfl, rfl, by decide, by decide⟩ (Nat.le_of_ble_eq_true rfl) ⟨Nat.le_refl _, Nat.le_refl _⟩ rfl dX4_isAt_22 ?_
        refine g_icmp_ge_t (pc := 25) hc 57 dX4_isAt_25 (by decide) (nI_le (by omega) (by omega)) ?_
        refine g_iconst (pc := 57) (v := nI 1) hc dX4_isAt_57 (by decide) ?_
        exact g_zret (pc := 58) hc dX4_isAt_58 (by decide) (by rw [wat, if_pos c1, allB_t hall]; rfl) (rfl)
      | succ kj ihj =>
        intro j lhj hall
        have lhjn : j < (lenS.getD i 0) := by omega
        refine g_iload_n (pc := 20) hc 2 dX4_isAt_20 rfl rfl ?_
        refine g_aload_n (pc := 21) hc 1 dX4_isAt_21 rfl rfl ?_
        refine g_callKi (pc := 22) (rest := [.int (nI (j))]) (As := []) hc (c_J0_length_8abf5 l E ad hA sc ar bl i hi6) hi6 mi_J0_length_8abf5 tw_788 rfl rfl ⟨rfl, rfl, by decide, by decide⟩ (Nat.le_of_ble_eq_true rfl) ⟨Nat.le_refl _, Nat.le_refl _⟩ rfl dX4_isAt_22 ?_
        refine g_icmp_ge_f (pc := 25) hc 57 dX4_isAt_25 (by decide) (nI_ge (by omega) (by omega)) ?_
        refine g_aload_n (pc := 28) hc 0 dX4_isAt_28 rfl rfl ?_
        refine gf_c9_tape (pc := 29) hc tw_227 dX4_isAt_29 ?_
        refine g_aload_n (pc := 32) hc 0 dX4_isAt_32 rfl rfl ?_
        refine gf_c9_start (pc := 33) hc tw_228 dX4_isAt_33 ?_
        refine g_topi (v := nI q.1) (h8) ?_
        refine g_iload_n (pc := 36) hc 2 dX4_isAt_36 rfl rfl ?_
        refine g_iadd (pc := 37) hc dX4_isAt_37 ?_
        refine g_topi (v := nI (q.1 + j)) (nI_add q.1 j) ?_
        refine g_callVi (pc := 38) (rest := []) (As := [.int (nI (q.1 + j))]) hc (c_X9_at l E ad hA sc ar bl (q.1 + j) (by omega)) mi_X9_at tw_767 8 rfl rfl rfl rfl ⟨rfl, rfl, by decide, by decide⟩ (Nat.le_of_ble_eq_true rfl) ⟨Nat.le_refl _, Nat.le_refl _⟩ rfl dX4_isAt_38 ?_
        refine g_aload_n (pc := 41) hc 1 dX4_isAt_41 rfl rfl ?_
        refine g_iload_n (pc := 42) hc 2 dX4_isAt_42 rfl rfl ?_
        refine g_callKi (pc := 43) (rest := [.int ((ar 30) (q.1 + j) &&& nI 255)]) (As := [.int (nI (j))]) hc (c_J0_charAt_5068e l E ad hA sc ar bl i j hi6 (by omega)) hi6 mi_J0_charAt_5068e tw_798 rfl rfl ⟨rfl, rfl, by decide, by decide⟩ (Nat.le_of_ble_eq_true rfl) ⟨Nat.le_refl _, Nat.le_refl _⟩ rfl dX4_isAt_43 ?_
        refine g_icmp_eq (pc := 46) hc 51 dX4_isAt_46 (by decide) (fun c3 => ?_) (fun c3 => ?_)
        · refine g_iinc (pc := 51) (v := nI (j + 1)) (lv' := [(0, .ref (ad 9)), (1, .ref (E.2.2.2 i)), (2, .int (nI (j + 1)))]) hc 2 dX4_isAt_51 rfl (nI_ofi j 1) (by decide) rfl ?_
          refine g_goto (pc := 54) hc 20 dX4_isAt_54 (by decide) ?_
          exact g_eq (ws' := cw E ad sc ar bl) (lv' := [(0, .ref (ad 9)), (1, .ref (E.2.2.2 i)), (2, .int (nI (j + 1)))]) (rfl) (rfl) rfl (ihj (j + 1) (by omega) (lt_s hall (decide_eq_true c3)))
        · refine g_iconst (pc := 49) (v := nI 0) hc dX4_isAt_49 (by decide) ?_
          exact g_zret (pc := 50) hc dX4_isAt_50 (by decide) (by rw [wat, if_pos c1, allB_f (i := j) (decide_eq_false c3) lhjn]; rfl) (rfl)
    exact g_eq (ws' := cw E ad sc ar bl) (lv' := [(0, .ref (ad 9)), (1, .ref (E.2.2.2 i)), (2, .int (nI (0)))]) (rfl) (rfl) rfl (L20_2 ((lenS.getD i 0) - 0) (0) (by omega) (fun k hk => absurd hk (Nat.not_lt_zero k)))
  · refine g_iconst (pc := 16) (v := nI 0) hc dX4_isAt_16 (by decide) ?_
    exact g_zret (pc := 17) hc dX4_isAt_17 (by decide) (by rw [wat, if_neg c1]; rfl) (rfl)

theorem dX4_valueAtHand_0 : decode cX4_valueAtHand 0 = .ok (.aload_n 0, 1) := by decide +kernel
theorem dX4_valueAtHand_1 : decode cX4_valueAtHand 1 = .ok (.getfield 34, 3) := by decide +kernel
theorem dX4_valueAtHand_4 : decode cX4_valueAtHand 4 = .ok (.aload_n 0, 1) := by decide +kernel
theorem dX4_valueAtHand_5 : decode cX4_valueAtHand 5 = .ok (.getfield 19, 3) := by decide +kernel
theorem dX4_valueAtHand_8 : decode cX4_valueAtHand 8 = .ok (.if_icmp .lt 5, 3) := by decide +kernel
theorem dX4_valueAtHand_11 : decode cX4_valueAtHand 11 = .ok (.iconst (-1), 1) := by decide +kernel
theorem dX4_valueAtHand_12 : decode cX4_valueAtHand 12 = .ok (.ireturn, 1) := by decide +kernel
theorem dX4_valueAtHand_13 : decode cX4_valueAtHand 13 = .ok (.iconst 0, 1) := by decide +kernel
theorem dX4_valueAtHand_14 : decode cX4_valueAtHand 14 = .ok (.istore_n 1, 1) := by decide +kernel
theorem dX4_valueAtHand_15 : decode cX4_valueAtHand 15 = .ok (.aload_n 0, 1) := by decide +kernel
theorem dX4_valueAtHand_16 : decode cX4_valueAtHand 16 = .ok (.getfield 34, 3) := by decide +kernel
theorem dX4_valueAtHand_19 : decode cX4_valueAtHand 19 = .ok (.istore_n 2, 1) := by decide +kernel
theorem dX4_valueAtHand_20 : decode cX4_valueAtHand 20 = .ok (.iload_n 2, 1) := by decide +kernel
theorem dX4_valueAtHand_21 : decode cX4_valueAtHand 21 = .ok (.aload_n 0, 1) := by decide +kernel
theorem dX4_valueAtHand_22 : decode cX4_valueAtHand 22 = .ok (.getfield 19, 3) := by decide +kernel
theorem dX4_valueAtHand_25 : decode cX4_valueAtHand 25 = .ok (.if_icmp .ge 45, 3) := by decide +kernel
theorem dX4_valueAtHand_28 : decode cX4_valueAtHand 28 = .ok (.aload_n 0, 1) := by decide +kernel
theorem dX4_valueAtHand_29 : decode cX4_valueAtHand 29 = .ok (.getfield 9, 3) := by decide +kernel
theorem dX4_valueAtHand_32 : decode cX4_valueAtHand 32 = .ok (.iload_n 2, 1) := by decide +kernel
theorem dX4_valueAtHand_33 : decode cX4_valueAtHand 33 = .ok (.invokevirtual 92, 3) := by decide +kernel
theorem dX4_valueAtHand_36 : decode cX4_valueAtHand 36 = .ok (.bipush 48, 2) := by decide +kernel
theorem dX4_valueAtHand_38 : decode cX4_valueAtHand 38 = .ok (.isub, 1) := by decide +kernel
theorem dX4_valueAtHand_39 : decode cX4_valueAtHand 39 = .ok (.istore_n 3, 1) := by decide +kernel
theorem dX4_valueAtHand_40 : decode cX4_valueAtHand 40 = .ok (.iload_n 3, 1) := by decide +kernel
theorem dX4_valueAtHand_41 : decode cX4_valueAtHand 41 = .ok (.ifCond .lt 9, 3) := by decide +kernel
theorem dX4_valueAtHand_44 : decode cX4_valueAtHand 44 = .ok (.iload_n 3, 1) := by decide +kernel
theorem dX4_valueAtHand_45 : decode cX4_valueAtHand 45 = .ok (.bipush 9, 2) := by decide +kernel
theorem dX4_valueAtHand_47 : decode cX4_valueAtHand 47 = .ok (.if_icmp .le 5, 3) := by decide +kernel
theorem dX4_valueAtHand_50 : decode cX4_valueAtHand 50 = .ok (.iconst (-1), 1) := by decide +kernel
theorem dX4_valueAtHand_51 : decode cX4_valueAtHand 51 = .ok (.ireturn, 1) := by decide +kernel
theorem dX4_valueAtHand_52 : decode cX4_valueAtHand 52 = .ok (.iload_n 1, 1) := by decide +kernel
theorem dX4_valueAtHand_53 : decode cX4_valueAtHand 53 = .ok (.bipush 10, 2) := by decide +kernel
theorem dX4_valueAtHand_55 : decode cX4_valueAtHand 55 = .ok (.imul, 1) := by decide +kernel
theorem dX4_valueAtHand_56 : decode cX4_valueAtHand 56 = .ok (.iload_n 3, 1) := by decide +kernel
theorem dX4_valueAtHand_57 : decode cX4_valueAtHand 57 = .ok (.iadd, 1) := by decide +kernel
theorem dX4_valueAtHand_58 : decode cX4_valueAtHand 58 = .ok (.ldc 103, 2) := by decide +kernel
theorem dX4_valueAtHand_60 : decode cX4_valueAtHand 60 = .ok (.invokestatic 104, 3) := by decide +kernel
theorem dX4_valueAtHand_63 : decode cX4_valueAtHand 63 = .ok (.istore_n 1, 1) := by decide +kernel
theorem dX4_valueAtHand_64 : decode cX4_valueAtHand 64 = .ok (.iinc 2 1, 3) := by decide +kernel
theorem dX4_valueAtHand_67 : decode cX4_valueAtHand 67 = .ok (.goto (-47), 3) := by decide +kernel
theorem dX4_valueAtHand_70 : decode cX4_valueAtHand 70 = .ok (.iload_n 1, 1) := by decide +kernel
theorem dX4_valueAtHand_71 : decode cX4_valueAtHand 71 = .ok (.ireturn, 1) := by decide +kernel

set_option maxHeartbeats 4000000 in
set_option maxRecDepth 100000 in
theorem c_X4_valueAtHand (l : Launch) (E : Ev) {A : Nat → Prop} (ad : Nat → Nat) (hA : Oka 39 ad A) (sc : Nat → Int32) (ar : Nat → Nat → Int32) (bl : Int64) {tL : Nat} (q : Rq)  (hT : sc 7 = nI tL) (hT60 : tL ≤ 60) (h8 : sc 8 = nI q.1) (h9 : sc 9 = nI q.2.1) (h10 : sc 10 = q.2.2) (hq : rdok tL q) : Ct l E yX4_valueAtHand (.code yX4_valueAtHand cX4_valueAtHand 4 (some .int)) ({ frames := 1, cells := 0, slots := 0, locals := 21 }) A (cw E ad sc ar bl) [.ref (ad 9)] (some (.int (vah (ar 30) q))) (cw E ad sc ar bl) := by
  have hq1 : q.1 ≤ q.2.1 := hq.1
  have hq2 : q.2.1 ≤ tL := hq.2
  refine Ct.of (lv := [(0, .ref (ad 9))]) (by decide +kernel) (Nat.le_of_ble_eq_true rfl) rfl ?_
  intro zp ze zs zm za zb zh zc hc
  refine g_aload_n (pc := 0) hc 0 dX4_valueAtHand_0 rfl rfl ?_
  refine gf_c9_start (pc := 1) hc tw_228 dX4_valueAtHand_1 ?_
  refine g_topi (v := nI q.1) (h8) ?_
  refine g_aload_n (pc := 4) hc 0 dX4_valueAtHand_4 rfl rfl ?_
  refine gf_c9_end (pc := 5) hc tw_229 dX4_valueAtHand_5 ?_
  refine g_topi (v := nI q.2.1) (h9) ?_
  refine g_icmp_lt (pc := 8) hc 13 dX4_valueAtHand_8 (by decide) (fun c1 => ?_) (fun c1 => ?_)
  · have hlt : q.1 < q.2.1 := (nI_ltI (by omega) (by omega)).mp c1
    refine g_iconst (pc := 13) (v := nI 0) hc dX4_valueAtHand_13 (by decide) ?_
    refine g_istore_n (pc := 14) (lv' := [(0, .ref (ad 9)), (1, .int (nI 0))]) hc dX4_valueAtHand_14 rfl (by decide) rfl ?_
    refine g_aload_n (pc := 15) hc 0 dX4_valueAtHand_15 rfl rfl ?_
    refine gf_c9_start (pc := 16) hc tw_228 dX4_valueAtHand_16 ?_
    refine g_topi (v := nI q.1) (h8) ?_
    refine g_istore_n (pc := 19) (lv' := [(0, .ref (ad 9)), (1, .int (nI 0)), (2, .int (nI q.1))]) hc dX4_valueAtHand_19 rfl (by decide) rfl ?_
    have L20_2 : ∀ (kk k : Nat), k + kk = (q.2.1 - q.1) → (hok : ∀ m, m < k → (!bdd (ar 30) (q.1 + m)) = true) → G zp l ze ({ frames := 1, cells := 0, slots := 0, locals := 21 }) zs zm za zb zh zc 0 0 (MQ zb (Qz E A (some (.int (vah (ar 30) q))) (cw E ad sc ar bl)) za zs 0 0 A) E A 4 (cw E ad sc ar bl) (20) [(0, .ref (ad 9)), (1, .int (vac (ar 30) q.1 (k))), (2, .int (nI (q.1 + (k))))] [] := by
      intro kk
      induction kk with
      | zero =>
        intro k lhk hok
        have lhkn : (q.2.1 - q.1) = k := by omega
        subst lhkn
        refine g_iload_n (pc := 20) hc 2 dX4_valueAtHand_20 rfl rfl ?_
        refine g_aload_n (pc := 21) hc 0 dX4_valueAtHand_21 rfl rfl ?_
        refine gf_c9_end (pc := 22) hc tw_229 dX4_valueAtHand_22 ?_
        refine g_topi (v := nI q.2.1) (h9) ?_
        refine g_icmp_ge_t (pc := 25) hc 70 dX4_valueAtHand_25 (by decide) (nI_le (by omega) (by omega)) ?_
        refine g_iload_n (pc := 70) hc 1 dX4_valueAtHand_70 rfl rfl ?_
        exact g_iret (pc := 71) hc dX4_valueAtHand_71 (by rw [vah, if_pos hlt, if_pos (allB_t hok)]) (rfl)
      | succ kk ihk =>
        intro k lhk hok
        have lhkn : k < (q.2.1 - q.1) := by omega
        refine g_iload_n (pc := 20) hc 2 dX4_valueAtHand_20 rfl rfl ?_
        refine g_aload_n (pc := 21) hc 0 dX4_valueAtHand_21 rfl rfl ?_
        refine gf_c9_end (pc := 22) hc tw_229 dX4_valueAtHand_22 ?_
        refine g_topi (v := nI q.2.1) (h9) ?_
        refine g_icmp_ge_f (pc := 25) hc 70 dX4_valueAtHand_25 (by decide) (nI_ge (by omega) (by omega)) ?_
        refine g_aload_n (pc := 28) hc 0 dX4_valueAtHand_28 rfl rfl ?_
        refine gf_c9_tape (pc := 29) hc tw_227 dX4_valueAtHand_29 ?_
        refine g_iload_n (pc := 32) hc 2 dX4_valueAtHand_32 rfl rfl ?_
        refine g_callVi (pc := 33) (rest := []) (As := [.int (nI (q.1 + (k)))]) hc (c_X9_at l E ad hA sc ar bl (q.1 + (k)) (by omega)) mi_X9_at tw_767 8 rfl rfl rfl rfl ⟨rfl, rfl, by decide, by decide⟩ (Nat.le_of_ble_eq_true rfl) ⟨Nat.le_refl _, Nat.le_refl _⟩ rfl dX4_valueAtHand_33 ?_
        refine g_bipush (pc := 36) (v := nI 48) hc dX4_valueAtHand_36 (by decide) ?_
        refine g_isub (pc := 38) hc dX4_valueAtHand_38 ?_
        refine g_topi (v := dig (ar 30) (q.1 + k)) (rfl) ?_
        refine g_istore_n (pc := 39) (lv' := [(0, .ref (ad 9)), (1, .int (vac (ar 30) q.1 (k))), (2, .int (nI (q.1 + (k)))), (3, .int (dig (ar 30) (q.1 + k)))]) hc dX4_valueAtHand_39 rfl (by decide) rfl ?_
        refine g_iload_n (pc := 40) hc 3 dX4_valueAtHand_40 rfl rfl ?_
        refine g_if_lt (pc := 41) hc 50 dX4_valueAtHand_41 (by decide) (fun c3 => ?_) (fun c3 => ?_)
        · refine g_iconst (pc := 50) (v := (-1)) hc dX4_valueAtHand_50 (by decide) ?_
          exact g_iret (pc := 51) hc dX4_valueAtHand_51 (by rw [vah, if_pos hlt, if_neg (by rw [allB_f (i := k) (by simp [bdd, c3]) lhkn]; decide)]) (rfl)
        · refine g_iload_n (pc := 44) hc 3 dX4_valueAtHand_44 rfl rfl ?_
          refine g_bipush (pc := 45) (v := nI 9) hc dX4_valueAtHand_45 (by decide) ?_
          refine g_icmp_le (pc := 47) hc 52 dX4_valueAtHand_47 (by decide) (fun c4 => ?_) (fun c4 => ?_)
          · refine g_iload_n (pc := 52) hc 1 dX4_valueAtHand_52 rfl rfl ?_
            refine g_bipush (pc := 53) (v := nI 10) hc dX4_valueAtHand_53 (by decide) ?_
            refine g_imul (pc := 55) hc dX4_valueAtHand_55 ?_
            refine g_iload_n (pc := 56) hc 3 dX4_valueAtHand_56 rfl rfl ?_
            refine g_iadd (pc := 57) hc dX4_valueAtHand_57 ?_
            refine g_ldc (pc := 58) (v := 100000) hc tw_848 dX4_valueAtHand_58 ?_
            refine g_mmin (pc := 60) (v := mnI (((vac (ar 30) q.1 (k)) * (nI 10)) + (dig (ar 30) (q.1 + k))) 100000) hc tw_849 rfl ⟨by decide, Nat.le_of_ble_eq_true rfl⟩ ⟨Nat.le_refl _, Nat.le_refl _⟩ dX4_valueAtHand_60 ?_
            refine g_istore_n (pc := 63) (lv' := [(0, .ref (ad 9)), (1, .int (mnI (((vac (ar 30) q.1 (k)) * (nI 10)) + (dig (ar 30) (q.1 + k))) 100000)), (2, .int (nI (q.1 + (k)))), (3, .int (dig (ar 30) (q.1 + k)))]) hc dX4_valueAtHand_63 rfl (by decide) rfl ?_
            refine g_iinc (pc := 64) (v := nI (q.1 + (k) + 1)) (lv' := [(0, .ref (ad 9)), (1, .int (mnI (((vac (ar 30) q.1 (k)) * (nI 10)) + (dig (ar 30) (q.1 + k))) 100000)), (2, .int (nI (q.1 + (k) + 1))), (3, .int (dig (ar 30) (q.1 + k)))]) hc 2 dX4_valueAtHand_64 rfl (nI_ofi (q.1 + (k)) 1) (by decide) rfl ?_
            refine g_goto (pc := 67) hc 20 dX4_valueAtHand_67 (by decide) ?_
            refine g_lv [0, 1, 2] (lv' := [(0, .ref (ad 9)), (1, .int (mnI (((vac (ar 30) q.1 (k)) * (nI 10)) + (dig (ar 30) (q.1 + k))) 100000)), (2, .int (nI (q.1 + (k) + 1)))]) rfl ?_
            exact g_eq (ws' := cw E ad sc ar bl) (lv' := [(0, .ref (ad 9)), (1, .int (vac (ar 30) q.1 (k + 1))), (2, .int (nI (q.1 + (k + 1))))]) (rfl) (rfl) rfl (ihk (k + 1) (by omega) (lt_s hok (by simp [bdd, c3, c4])))
          · refine g_iconst (pc := 50) (v := (-1)) hc dX4_valueAtHand_50 (by decide) ?_
            exact g_iret (pc := 51) hc dX4_valueAtHand_51 (by rw [vah, if_pos hlt, if_neg (by rw [allB_f (i := k) (by simp [bdd, c3, c4]) lhkn]; decide)]) (rfl)
    exact g_eq (ws' := cw E ad sc ar bl) (lv' := [(0, .ref (ad 9)), (1, .int (vac (ar 30) q.1 (0))), (2, .int (nI (q.1 + (0))))]) (rfl) (rfl) rfl (L20_2 ((q.2.1 - q.1) - 0) (0) (by omega) (fun k hk => absurd hk (Nat.not_lt_zero k)))
  · have hlt : ¬ q.1 < q.2.1 := fun z => c1 (nI_lt z (by omega))
    refine g_iconst (pc := 11) (v := (-1)) hc dX4_valueAtHand_11 (by decide) ?_
    exact g_iret (pc := 12) hc dX4_valueAtHand_12 (by rw [vah, if_neg hlt]) (rfl)

theorem dX4_expect_0 : decode cX4_expect 0 = .ok (.aload_n 0, 1) := by decide +kernel
theorem dX4_expect_1 : decode cX4_expect 1 = .ok (.invokevirtual 73, 3) := by decide +kernel
theorem dX4_expect_4 : decode cX4_expect 4 = .ok (.ifCond .eq 18, 3) := by decide +kernel
theorem dX4_expect_7 : decode cX4_expect 7 = .ok (.aload_n 0, 1) := by decide +kernel
theorem dX4_expect_8 : decode cX4_expect 8 = .ok (.aload_n 1, 1) := by decide +kernel
theorem dX4_expect_9 : decode cX4_expect 9 = .ok (.invokevirtual 79, 3) := by decide +kernel
theorem dX4_expect_12 : decode cX4_expect 12 = .ok (.ifCond .eq 10, 3) := by decide +kernel
theorem dX4_expect_15 : decode cX4_expect 15 = .ok (.aload_n 0, 1) := by decide +kernel
theorem dX4_expect_16 : decode cX4_expect 16 = .ok (.invokevirtual 22, 3) := by decide +kernel
theorem dX4_expect_19 : decode cX4_expect 19 = .ok (.goto 7, 3) := by decide +kernel
theorem dX4_expect_22 : decode cX4_expect 22 = .ok (.aload_n 0, 1) := by decide +kernel
theorem dX4_expect_23 : decode cX4_expect 23 = .ok (.invokevirtual 43, 3) := by decide +kernel
theorem dX4_expect_26 : decode cX4_expect 26 = .ok (.return_, 1) := by decide +kernel

set_option maxHeartbeats 4000000 in
set_option maxRecDepth 100000 in
theorem c_X4_expect (l : Launch) (E : Ev) {A : Nat → Prop} (ad : Nat → Nat) (hA : Oka 39 ad A) (sc : Nat → Int32) (ar : Nat → Nat → Int32) (bl : Int64) {tL : Nat} (q : Rq) (i : Nat) (hT : sc 7 = nI tL) (hT60 : tL ≤ 60) (h8 : sc 8 = nI q.1) (h9 : sc 9 = nI q.2.1) (h10 : sc 10 = q.2.2) (hq : rdok tL q) (hi6 : i < 6) : Ct l E yX4_expect (.code yX4_expect cX4_expect 2 none) ({ frames := 6, cells := 0, slots := 0, locals := 128 }) A (cw E ad sc ar bl) [.ref (ad 9), .ref (E.2.2.2 i)] (none) (cw E ad (va_up (va_up (va_up sc 8 (nI (exT (ar 30) tL i q).1)) 9 (nI (exT (ar 30) tL i q).2.1)) 10 (exT (ar 30) tL i q).2.2) ar bl) := by
  refine Ct.of (lv := [(0, .ref (ad 9)), (1, .ref (E.2.2.2 i))]) (by decide +kernel) (Nat.le_of_ble_eq_true rfl) rfl ?_
  intro zp ze zs zm za zb zh zc hc
  refine g_aload_n (pc := 0) hc 0 dX4_expect_0 rfl rfl ?_
  refine g_callVi (pc := 1) (rest := []) (As := []) hc (c_X4_isSound l E ad hA sc ar bl q  hT hT60 h8 h9 h10 (hq)) mi_X4_isSound tw_780 9 rfl rfl rfl rfl ⟨rfl, rfl, by decide, by decide⟩ (Nat.le_of_ble_eq_true rfl) ⟨Nat.le_refl _, Nat.le_refl _⟩ rfl dX4_expect_1 ?_
  refine g_if_eq_b (pc := 4) hc 22 dX4_expect_4 (by decide) (fun c1 => ?_) (fun c1 => ?_)
  · refine g_aload_n (pc := 22) hc 0 dX4_expect_22 rfl rfl ?_
    refine g_callVv (pc := 23) (rest := []) (As := []) hc (c_X4_tellFault l E ad hA sc ar bl q  hT hT60 h8 h9 h10 (hq)) mi_X4_tellFault tw_836 9 rfl rfl rfl rfl ⟨rfl, rfl, by decide, by decide⟩ (Nat.le_of_ble_eq_true rfl) ⟨Nat.le_refl _, Nat.le_refl _⟩ rfl dX4_expect_23 ?_
    exact g_vret (pc := 26) hc dX4_expect_26 rfl (by unfold exT; repeat (first | rw [if_pos c1] | rw [if_neg c1] | rw [if_neg (ne_true_of_eq_false c1)]))
  · refine g_aload_n (pc := 7) hc 0 dX4_expect_7 rfl rfl ?_
    refine g_aload_n (pc := 8) hc 1 dX4_expect_8 rfl rfl ?_
    refine g_callVi (pc := 9) (rest := []) (As := [.ref (E.2.2.2 i)]) hc (c_X4_isAt l E ad hA sc ar bl q i hT hT60 h8 h9 h10 (hq) hi6) mi_X4_isAt tw_784 9 rfl rfl rfl rfl ⟨rfl, rfl, by decide, by decide⟩ (Nat.le_of_ble_eq_true rfl) ⟨Nat.le_refl _, Nat.le_refl _⟩ rfl dX4_expect_9 ?_
    refine g_if_eq_b (pc := 12) hc 22 dX4_expect_12 (by decide) (fun c2 => ?_) (fun c2 => ?_)
    · refine g_aload_n (pc := 22) hc 0 dX4_expect_22 rfl rfl ?_
      refine g_callVv (pc := 23) (rest := []) (As := []) hc (c_X4_tellFault l E ad hA sc ar bl q  hT hT60 h8 h9 h10 (hq)) mi_X4_tellFault tw_836 9 rfl rfl rfl rfl ⟨rfl, rfl, by decide, by decide⟩ (Nat.le_of_ble_eq_true rfl) ⟨Nat.le_refl _, Nat.le_refl _⟩ rfl dX4_expect_23 ?_
      exact g_vret (pc := 26) hc dX4_expect_26 rfl (by unfold exT; repeat (first | rw [if_pos c1] | rw [if_neg c1] | rw [if_neg (ne_true_of_eq_false c1)] | rw [if_pos c2] | rw [if_neg c2] | rw [if_neg (ne_true_of_eq_false c2)]))
    · refine g_aload_n (pc := 15) hc 0 dX4_expect_15 rfl rfl ?_
      refine g_callVv (pc := 16) (rest := []) (As := []) hc (c_X4_goOn l E ad hA sc ar bl q hT hT60 h9 h10 (hq.2)) mi_X4_goOn tw_762 9 rfl rfl rfl rfl ⟨rfl, rfl, by decide, by decide⟩ (Nat.le_of_ble_eq_true rfl) ⟨Nat.le_refl _, Nat.le_refl _⟩ rfl dX4_expect_16 ?_
      refine g_goto (pc := 19) hc 26 dX4_expect_19 (by decide) ?_
      exact g_vret (pc := 26) hc dX4_expect_26 rfl (by unfold exT; repeat (first | rw [if_pos c1] | rw [if_neg c1] | rw [if_neg (ne_true_of_eq_false c1)] | rw [if_pos c2] | rw [if_neg c2] | rw [if_neg (ne_true_of_eq_false c2)]))

theorem dX4_expectNumber_0 : decode cX4_expectNumber 0 = .ok (.aload_n 0, 1) := by decide +kernel
theorem dX4_expectNumber_1 : decode cX4_expectNumber 1 = .ok (.invokevirtual 89, 3) := by decide +kernel
theorem dX4_expectNumber_4 : decode cX4_expectNumber 4 = .ok (.istore_n 3, 1) := by decide +kernel
theorem dX4_expectNumber_5 : decode cX4_expectNumber 5 = .ok (.aload_n 0, 1) := by decide +kernel
theorem dX4_expectNumber_6 : decode cX4_expectNumber 6 = .ok (.invokevirtual 73, 3) := by decide +kernel
theorem dX4_expectNumber_9 : decode cX4_expectNumber 9 = .ok (.ifCond .eq 19, 3) := by decide +kernel
theorem dX4_expectNumber_12 : decode cX4_expectNumber 12 = .ok (.iload_n 3, 1) := by decide +kernel
theorem dX4_expectNumber_13 : decode cX4_expectNumber 13 = .ok (.iload_n 1, 1) := by decide +kernel
theorem dX4_expectNumber_14 : decode cX4_expectNumber 14 = .ok (.if_icmp .lt 14, 3) := by decide +kernel
theorem dX4_expectNumber_17 : decode cX4_expectNumber 17 = .ok (.iload_n 3, 1) := by decide +kernel
theorem dX4_expectNumber_18 : decode cX4_expectNumber 18 = .ok (.iload_n 2, 1) := by decide +kernel
theorem dX4_expectNumber_19 : decode cX4_expectNumber 19 = .ok (.if_icmp .gt 9, 3) := by decide +kernel
theorem dX4_expectNumber_22 : decode cX4_expectNumber 22 = .ok (.aload_n 0, 1) := by decide +kernel
theorem dX4_expectNumber_23 : decode cX4_expectNumber 23 = .ok (.invokevirtual 22, 3) := by decide +kernel
theorem dX4_expectNumber_26 : decode cX4_expectNumber 26 = .ok (.iload_n 3, 1) := by decide +kernel
theorem dX4_expectNumber_27 : decode cX4_expectNumber 27 = .ok (.ireturn, 1) := by decide +kernel
theorem dX4_expectNumber_28 : decode cX4_expectNumber 28 = .ok (.aload_n 0, 1) := by decide +kernel
theorem dX4_expectNumber_29 : decode cX4_expectNumber 29 = .ok (.invokevirtual 43, 3) := by decide +kernel
theorem dX4_expectNumber_32 : decode cX4_expectNumber 32 = .ok (.iconst 0, 1) := by decide +kernel
theorem dX4_expectNumber_33 : decode cX4_expectNumber 33 = .ok (.ireturn, 1) := by decide +kernel

set_option maxHeartbeats 4000000 in
set_option maxRecDepth 100000 in
theorem c_X4_expectNumber (l : Launch) (E : Ev) {A : Nat → Prop} (ad : Nat → Nat) (hA : Oka 39 ad A) (sc : Nat → Int32) (ar : Nat → Nat → Int32) (bl : Int64) {tL : Nat} (q : Rq) (a b : Int32) (hT : sc 7 = nI tL) (hT60 : tL ≤ 60) (h8 : sc 8 = nI q.1) (h9 : sc 9 = nI q.2.1) (h10 : sc 10 = q.2.2) (hq : rdok tL q) : Ct l E yX4_expectNumber (.code yX4_expectNumber cX4_expectNumber 4 (some .int)) ({ frames := 2, cells := 0, slots := 0, locals := 44 }) A (cw E ad sc ar bl) [.ref (ad 9), .int a, .int b] (some (.int (enV (ar 30) a b q))) (cw E ad (va_up (va_up (va_up sc 8 (nI (enT (ar 30) tL a b q).1)) 9 (nI (enT (ar 30) tL a b q).2.1)) 10 (enT (ar 30) tL a b q).2.2) ar bl) := by
  refine Ct.of (lv := [(0, .ref (ad 9)), (1, .int a), (2, .int b)]) (by decide +kernel) (Nat.le_of_ble_eq_true rfl) rfl ?_
  intro zp ze zs zm za zb zh zc hc
  refine g_aload_n (pc := 0) hc 0 dX4_expectNumber_0 rfl rfl ?_
  refine g_callVi (pc := 1) (rest := []) (As := []) hc (c_X4_valueAtHand l E ad hA sc ar bl q  hT hT60 h8 h9 h10 (hq)) mi_X4_valueAtHand tw_844 9 rfl rfl rfl rfl ⟨rfl, rfl, by decide, by decide⟩ (Nat.le_of_ble_eq_true rfl) ⟨Nat.le_refl _, Nat.le_refl _⟩ rfl dX4_expectNumber_1 ?_
  refine g_istore_n (pc := 4) (lv' := [(0, .ref (ad 9)), (1, .int a), (2, .int b), (3, .int (vah (ar 30) q))]) hc dX4_expectNumber_4 rfl (by decide) rfl ?_
  refine g_aload_n (pc := 5) hc 0 dX4_expectNumber_5 rfl rfl ?_
  refine g_callVi (pc := 6) (rest := []) (As := []) hc (c_X4_isSound l E ad hA sc ar bl q  hT hT60 h8 h9 h10 (hq)) mi_X4_isSound tw_780 9 rfl rfl rfl rfl ⟨rfl, rfl, by decide, by decide⟩ (Nat.le_of_ble_eq_true rfl) ⟨Nat.le_refl _, Nat.le_refl _⟩ rfl dX4_expectNumber_6 ?_
  refine g_if_eq_b (pc := 9) hc 28 dX4_expectNumber_9 (by decide) (fun c1 => ?_) (fun c1 => ?_)
  · refine g_aload_n (pc := 28) hc 0 dX4_expectNumber_28 rfl rfl ?_
    refine g_callVv (pc := 29) (rest := []) (As := []) hc (c_X4_tellFault l E ad hA sc ar bl q  hT hT60 h8 h9 h10 (hq)) mi_X4_tellFault tw_836 9 rfl rfl rfl rfl ⟨rfl, rfl, by decide, by decide⟩ (Nat.le_of_ble_eq_true rfl) ⟨Nat.le_refl _, Nat.le_refl _⟩ rfl dX4_expectNumber_29 ?_
    refine g_iconst (pc := 32) (v := nI 0) hc dX4_expectNumber_32 (by decide) ?_
    exact g_iret (pc := 33) hc dX4_expectNumber_33 (by rw [enV, if_neg (ne_true_of_eq_false (by unfold enO; repeat (first | rw [if_pos c1] | rw [if_neg c1] | rw [if_neg (ne_true_of_eq_false c1)])))]) (by rw [enT, if_neg (ne_true_of_eq_false (by unfold enO; repeat (first | rw [if_pos c1] | rw [if_neg c1] | rw [if_neg (ne_true_of_eq_false c1)])))])
  · refine g_iload_n (pc := 12) hc 3 dX4_expectNumber_12 rfl rfl ?_
    refine g_iload_n (pc := 13) hc 1 dX4_expectNumber_13 rfl rfl ?_
    refine g_icmp_lt (pc := 14) hc 28 dX4_expectNumber_14 (by decide) (fun c2 => ?_) (fun c2 => ?_)
    · refine g_aload_n (pc := 28) hc 0 dX4_expectNumber_28 rfl rfl ?_
      refine g_callVv (pc := 29) (rest := []) (As := []) hc (c_X4_tellFault l E ad hA sc ar bl q  hT hT60 h8 h9 h10 (hq)) mi_X4_tellFault tw_836 9 rfl rfl rfl rfl ⟨rfl, rfl, by decide, by decide⟩ (Nat.le_of_ble_eq_true rfl) ⟨Nat.le_refl _, Nat.le_refl _⟩ rfl dX4_expectNumber_29 ?_
      refine g_iconst (pc := 32) (v := nI 0) hc dX4_expectNumber_32 (by decide) ?_
      exact g_iret (pc := 33) hc dX4_expectNumber_33 (by rw [enV, if_neg (ne_true_of_eq_false (by unfold enO; repeat (first | rw [if_pos c1] | rw [if_neg c1] | rw [if_neg (ne_true_of_eq_false c1)] | rw [if_pos c2] | rw [if_neg c2] | rw [if_neg (ne_true_of_eq_false c2)])))]) (by rw [enT, if_neg (ne_true_of_eq_false (by unfold enO; repeat (first | rw [if_pos c1] | rw [if_neg c1] | rw [if_neg (ne_true_of_eq_false c1)] | rw [if_pos c2] | rw [if_neg c2] | rw [if_neg (ne_true_of_eq_false c2)])))])
    · refine g_iload_n (pc := 17) hc 3 dX4_expectNumber_17 rfl rfl ?_
      refine g_iload_n (pc := 18) hc 2 dX4_expectNumber_18 rfl rfl ?_
      refine g_icmp_gt (pc := 19) hc 28 dX4_expectNumber_19 (by decide) (fun c3 => ?_) (fun c3 => ?_)
      · refine g_aload_n (pc := 28) hc 0 dX4_expectNumber_28 rfl rfl ?_
        refine g_callVv (pc := 29) (rest := []) (As := []) hc (c_X4_tellFault l E ad hA sc ar bl q  hT hT60 h8 h9 h10 (hq)) mi_X4_tellFault tw_836 9 rfl rfl rfl rfl ⟨rfl, rfl, by decide, by decide⟩ (Nat.le_of_ble_eq_true rfl) ⟨Nat.le_refl _, Nat.le_refl _⟩ rfl dX4_expectNumber_29 ?_
        refine g_iconst (pc := 32) (v := nI 0) hc dX4_expectNumber_32 (by decide) ?_
        exact g_iret (pc := 33) hc dX4_expectNumber_33 (by rw [enV, if_neg (ne_true_of_eq_false (by unfold enO; repeat (first | rw [if_pos c1] | rw [if_neg c1] | rw [if_neg (ne_true_of_eq_false c1)] | rw [if_pos c2] | rw [if_neg c2] | rw [if_neg (ne_true_of_eq_false c2)] | rw [if_pos c3] | rw [if_neg c3] | rw [if_neg (ne_true_of_eq_false c3)])))]) (by rw [enT, if_neg (ne_true_of_eq_false (by unfold enO; repeat (first | rw [if_pos c1] | rw [if_neg c1] | rw [if_neg (ne_true_of_eq_false c1)] | rw [if_pos c2] | rw [if_neg c2] | rw [if_neg (ne_true_of_eq_false c2)] | rw [if_pos c3] | rw [if_neg c3] | rw [if_neg (ne_true_of_eq_false c3)])))])
      · refine g_aload_n (pc := 22) hc 0 dX4_expectNumber_22 rfl rfl ?_
        refine g_callVv (pc := 23) (rest := []) (As := []) hc (c_X4_goOn l E ad hA sc ar bl q hT hT60 h9 h10 (hq.2)) mi_X4_goOn tw_762 9 rfl rfl rfl rfl ⟨rfl, rfl, by decide, by decide⟩ (Nat.le_of_ble_eq_true rfl) ⟨Nat.le_refl _, Nat.le_refl _⟩ rfl dX4_expectNumber_23 ?_
        refine g_iload_n (pc := 26) hc 3 dX4_expectNumber_26 rfl rfl ?_
        exact g_iret (pc := 27) hc dX4_expectNumber_27 (by rw [enV, if_pos (by unfold enO; repeat (first | rw [if_pos c1] | rw [if_neg c1] | rw [if_neg (ne_true_of_eq_false c1)] | rw [if_pos c2] | rw [if_neg c2] | rw [if_neg (ne_true_of_eq_false c2)] | rw [if_pos c3] | rw [if_neg c3] | rw [if_neg (ne_true_of_eq_false c3)]))]) (by rw [enT, if_pos (by unfold enO; repeat (first | rw [if_pos c1] | rw [if_neg c1] | rw [if_neg (ne_true_of_eq_false c1)] | rw [if_pos c2] | rw [if_neg c2] | rw [if_neg (ne_true_of_eq_false c2)] | rw [if_pos c3] | rw [if_neg c3] | rw [if_neg (ne_true_of_eq_false c3)]))])
