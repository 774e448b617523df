theorem rd2_ok (f : Nat → Int32) (L : Nat) : rdok L (rd2 f L) := spT_ok (exT_ok (rd0_ok f L))
theorem rd3_ok (f : Nat → Int32) (L : Nat) : rdok L (rd3 f L) := dyT_ok (rd2_ok f L)

theorem dX4_read_0 : decode cX4_read 0 = .ok (.aload_n 0, 1) := by decide +kernel
theorem dX4_read_1 : decode cX4_read 1 = .ok (.iconst (-1), 1) := by decide +kernel
theorem dX4_read_2 : decode cX4_read 2 = .ok (.putfield 15, 3) := by decide +kernel
theorem dX4_read_5 : decode cX4_read 5 = .ok (.aload_n 0, 1) := by decide +kernel
theorem dX4_read_6 : decode cX4_read 6 = .ok (.iconst 0, 1) := by decide +kernel
theorem dX4_read_7 : decode cX4_read 7 = .ok (.putfield 19, 3) := by decide +kernel
theorem dX4_read_10 : decode cX4_read 10 = .ok (.aload_n 0, 1) := by decide +kernel
theorem dX4_read_11 : decode cX4_read 11 = .ok (.invokevirtual 22, 3) := by decide +kernel
theorem dX4_read_14 : decode cX4_read 14 = .ok (.aload_n 0, 1) := by decide +kernel
theorem dX4_read_15 : decode cX4_read 15 = .ok (.invokevirtual 25, 3) := by decide +kernel
theorem dX4_read_18 : decode cX4_read 18 = .ok (.aload_n 0, 1) := by decide +kernel
theorem dX4_read_19 : decode cX4_read 19 = .ok (.invokevirtual 28, 3) := by decide +kernel
theorem dX4_read_22 : decode cX4_read 22 = .ok (.aload_n 0, 1) := by decide +kernel
theorem dX4_read_23 : decode cX4_read 23 = .ok (.invokevirtual 31, 3) := by decide +kernel
theorem dX4_read_26 : decode cX4_read 26 = .ok (.aload_n 0, 1) := by decide +kernel
theorem dX4_read_27 : decode cX4_read 27 = .ok (.getfield 34, 3) := by decide +kernel
theorem dX4_read_30 : decode cX4_read 30 = .ok (.aload_n 0, 1) := by decide +kernel
theorem dX4_read_31 : decode cX4_read 31 = .ok (.getfield 9, 3) := by decide +kernel
theorem dX4_read_34 : decode cX4_read 34 = .ok (.invokevirtual 37, 3) := by decide +kernel
theorem dX4_read_37 : decode cX4_read 37 = .ok (.if_icmp .ge 7, 3) := by decide +kernel
theorem dX4_read_40 : decode cX4_read 40 = .ok (.aload_n 0, 1) := by decide +kernel
theorem dX4_read_41 : decode cX4_read 41 = .ok (.invokevirtual 43, 3) := by decide +kernel
theorem dX4_read_44 : decode cX4_read 44 = .ok (.aload_n 0, 1) := by decide +kernel
theorem dX4_read_45 : decode cX4_read 45 = .ok (.getfield 15, 3) := by decide +kernel
theorem dX4_read_48 : decode cX4_read 48 = .ok (.ireturn, 1) := by decide +kernel

set_option maxHeartbeats 600000 in
set_option maxRecDepth 100000 in
theorem c_X4_read (l : Launch) (E : Ev) {A : Nat → Prop} (ad : Nat → Nat) (hA : Oka 39 ad A) (sc : Nat → Int32) (ar : Nat → Nat → Int32) (bl : Int64) {tL : Nat} (hT : sc 7 = nI tL) (hT60 : tL ≤ 60) : Ct l E yX4_read (.code yX4_read cX4_read 1 (some .int)) ({ frames := 8, cells := 0, slots := 0, locals := 171 }) A (cw E ad sc ar bl) [.ref (ad 9)] (some (.int (rd5 (ar 30) tL).2.2)) (cw E ad (va_up (va_up (va_up (va_up (va_up (va_up (va_up (va_up sc 11 (spA (ar 30) (nI 7) (rd1 (ar 30) tL))) 12 (spB (ar 30) tL (nI 7) (rd1 (ar 30) tL))) 13 (dyA (ar 30) tL (rd2 (ar 30) tL))) 14 (dyB (ar 30) tL (rd2 (ar 30) tL))) 15 (bwB (ar 30) tL (rd3 (ar 30) tL))) 8 (nI (rd5 (ar 30) tL).1)) 9 (nI (rd5 (ar 30) tL).2.1)) 10 (rd5 (ar 30) tL).2.2) ar bl) := by
  refine Ct.of (lv := [(0, .ref (ad 9))]) (by decide +kernel) (Nat.le_of_ble_eq_true rfl) rfl ?_
  intro zp ze zs zm za zb zh zc hc
  refine g_aload_n (pc := 0) hc 0 dX4_read_0 rfl rfl ?_
  refine g_iconst (pc := 1) (v := (-1)) hc dX4_read_1 (by decide) ?_
  refine pf_c9_fault (pc := 2) hc hA tw_230 dX4_read_2 ?_
  refine g_aload_n (pc := 5) hc 0 dX4_read_5 rfl rfl ?_
  refine g_iconst (pc := 6) (v := nI 0) hc dX4_read_6 (by decide) ?_
  refine pf_c9_end (pc := 7) hc hA tw_229 dX4_read_7 ?_
  refine g_aload_n (pc := 10) hc 0 dX4_read_10 rfl rfl ?_
  refine g_callVv (pc := 11) (rest := []) (As := []) hc (c_X4_goOn l E ad hA (va_up (va_up sc 10 (-1)) 9 (nI 0)) ar bl ((0, 0, (-1)) : Rq) hT hT60 rfl rfl ((⟨Nat.le_refl _, Nat.zero_le _⟩ : rdok tL ((0, 0, (-1)) : Rq)).2)) mi_X4_goOn tw_762 9 rfl rfl rfl rfl ⟨rfl, rfl, by decide, by decide⟩ (Nat.le_of_ble_eq_true rfl) ⟨Nat.le_refl _, Nat.le_refl _⟩ rfl dX4_read_11 ?_
  refine g_eq (ws' := cw E ad (va_up (va_up (va_up sc 8 (nI (goT (ar 30) tL ((0, 0, (-1)) : Rq)).1)) 9 (nI (goT (ar 30) tL ((0, 0, (-1)) : Rq)).2.1)) 10 (goT (ar 30) tL ((0, 0, (-1)) : Rq)).2.2) ar bl) (lv' := [(0, .ref (ad 9))]) (by simp [cw, va_up]) rfl rfl ?_
  obtain ⟨q0, e0⟩ : ∃ z, z = rd0 (ar 30) tL := ⟨_, rfl⟩
  have k0 : rdok tL q0 := by rw [e0]; exact rd0_ok _ _
  refine g_eq (ws' := cw E ad (va_up (va_up (va_up sc 8 (nI q0.1)) 9 (nI q0.2.1)) 10 q0.2.2) ar bl) (lv' := [(0, .ref (ad 9))]) (by rw [e0, rd0]) rfl rfl ?_
  refine g_aload_n (pc := 14) hc 0 dX4_read_14 rfl rfl ?_
  refine g_callVv (pc := 15) (rest := []) (As := []) hc (c_X4_readRows l E ad hA (va_up (va_up (va_up sc 8 (nI q0.1)) 9 (nI q0.2.1)) 10 q0.2.2) ar bl q0  hT hT60 rfl rfl rfl (k0)) mi_X4_readRows tw_771 9 rfl rfl rfl rfl ⟨rfl, rfl, by decide, by decide⟩ (Nat.le_of_ble_eq_true rfl) ⟨Nat.le_refl _, Nat.le_refl _⟩ rfl dX4_read_15 ?_
  refine g_eq (ws' := cw E ad (va_up (va_up (va_up (va_up (va_up sc 11 (spA (ar 30) (nI 7) (exT (ar 30) tL 0 q0))) 12 (spB (ar 30) tL (nI 7) (exT (ar 30) tL 0 q0))) 8 (nI (spT (ar 30) tL (nI 7) (exT (ar 30) tL 0 q0)).1)) 9 (nI (spT (ar 30) tL (nI 7) (exT (ar 30) tL 0 q0)).2.1)) 10 (spT (ar 30) tL (nI 7) (exT (ar 30) tL 0 q0)).2.2) ar bl) (lv' := [(0, .ref (ad 9))]) (by simp [cw, va_up]) rfl rfl ?_
  obtain ⟨q2, e2⟩ : ∃ z, z = rd2 (ar 30) tL := ⟨_, rfl⟩
  have k2 : rdok tL q2 := by rw [e2]; exact rd2_ok _ _
  refine g_eq (ws' := cw E ad (va_up (va_up (va_up (va_up (va_up sc 11 (spA (ar 30) (nI 7) (rd1 (ar 30) tL))) 12 (spB (ar 30) tL (nI 7) (rd1 (ar 30) tL))) 8 (nI q2.1)) 9 (nI q2.2.1)) 10 q2.2.2) ar bl) (lv' := [(0, .ref (ad 9))]) (by rw [e2, rd2, rd1, e0]) rfl rfl ?_
  refine g_aload_n (pc := 18) hc 0 dX4_read_18 rfl rfl ?_
  refine g_callVv (pc := 19) (rest := []) (As := []) hc (c_X4_readDays l E ad hA (va_up (va_up (va_up (va_up (va_up sc 11 (spA (ar 30) (nI 7) (rd1 (ar 30) tL))) 12 (spB (ar 30) tL (nI 7) (rd1 (ar 30) tL))) 8 (nI q2.1)) 9 (nI q2.2.1)) 10 q2.2.2) ar bl q2  hT hT60 rfl rfl rfl (k2)) mi_X4_readDays tw_851 9 rfl rfl rfl rfl ⟨rfl, rfl, by decide, by decide⟩ (Nat.le_of_ble_eq_true rfl) ⟨Nat.le_refl _, Nat.le_refl _⟩ rfl dX4_read_19 ?_
  refine g_eq (ws' := cw E ad (va_up (va_up (va_up (va_up (va_up (va_up (va_up sc 11 (spA (ar 30) (nI 7) (rd1 (ar 30) tL))) 12 (spB (ar 30) tL (nI 7) (rd1 (ar 30) tL))) 13 (dyA (ar 30) tL q2)) 14 (dyB (ar 30) tL q2)) 8 (nI (dyT (ar 30) tL q2).1)) 9 (nI (dyT (ar 30) tL q2).2.1)) 10 (dyT (ar 30) tL q2).2.2) ar bl) (lv' := [(0, .ref (ad 9))]) (by simp [cw, va_up]) rfl rfl ?_
  obtain ⟨q3, e3⟩ : ∃ z, z = rd3 (ar 30) tL := ⟨_, rfl⟩
  have k3 : rdok tL q3 := by rw [e3]; exact rd3_ok _ _
  refine g_eq (ws' := cw E ad (va_up (va_up (va_up (va_up (va_up (va_up (va_up sc 11 (spA (ar 30) (nI 7) (rd1 (ar 30) tL))) 12 (spB (ar 30) tL (nI 7) (rd1 (ar 30) tL))) 13 (dyA (ar 30) tL (rd2 (ar 30) tL))) 14 (dyB (ar 30) tL (rd2 (ar 30) tL))) 8 (nI q3.1)) 9 (nI q3.2.1)) 10 q3.2.2) ar bl) (lv' := [(0, .ref (ad 9))]) (by rw [e3, rd3, e2]) rfl rfl ?_
  refine g_aload_n (pc := 22) hc 0 dX4_read_22 rfl rfl ?_
  refine g_callVv (pc := 23) (rest := []) (As := []) hc (c_X4_readBarred l E ad hA (va_up (va_up (va_up (va_up (va_up (va_up (va_up sc 11 (spA (ar 30) (nI 7) (rd1 (ar 30) tL))) 12 (spB (ar 30) tL (nI 7) (rd1 (ar 30) tL))) 13 (dyA (ar 30) tL (rd2 (ar 30) tL))) 14 (dyB (ar 30) tL (rd2 (ar 30) tL))) 8 (nI q3.1)) 9 (nI q3.2.1)) 10 q3.2.2) ar bl q3  hT hT60 rfl rfl rfl (k3)) mi_X4_readBarred tw_856 9 rfl rfl rfl rfl ⟨rfl, rfl, by decide, by decide⟩ (Nat.le_of_ble_eq_true rfl) ⟨Nat.le_refl _, Nat.le_refl _⟩ rfl dX4_read_23 ?_
  refine g_eq (ws' := cw E ad (va_up (va_up (va_up (va_up (va_up (va_up (va_up (va_up sc 11 (spA (ar 30) (nI 7) (rd1 (ar 30) tL))) 12 (spB (ar 30) tL (nI 7) (rd1 (ar 30) tL))) 13 (dyA (ar 30) tL (rd2 (ar 30) tL))) 14 (dyB (ar 30) tL (rd2 (ar 30) tL))) 15 (bwB (ar 30) tL q3)) 8 (nI (bwT (ar 30) tL q3).1)) 9 (nI (bwT (ar 30) tL q3).2.1)) 10 (bwT (ar 30) tL q3).2.2) ar bl) (lv' := [(0, .ref (ad 9))]) (by simp [cw, va_up]) rfl rfl ?_
  obtain ⟨q4, e4⟩ : ∃ z, z = rd4 (ar 30) tL := ⟨_, rfl⟩
  have k4 : rdok tL q4 := by rw [e4]; exact rd4_ok _ _
  refine g_eq (ws' := cw E ad (va_up (va_up (va_up (va_up (va_up (va_up (va_up (va_up sc 11 (spA (ar 30) (nI 7) (rd1 (ar 30) tL))) 12 (spB (ar 30) tL (nI 7) (rd1 (ar 30) tL))) 13 (dyA (ar 30) tL (rd2 (ar 30) tL))) 14 (dyB (ar 30) tL (rd2 (ar 30) tL))) 15 (bwB (ar 30) tL (rd3 (ar 30) tL))) 8 (nI q4.1)) 9 (nI q4.2.1)) 10 q4.2.2) ar bl) (lv' := [(0, .ref (ad 9))]) (by rw [e4, rd4, e3]) rfl rfl ?_
  refine g_aload_n (pc := 26) hc 0 dX4_read_26 rfl rfl ?_
  refine gf_c9_start (pc := 27) hc tw_228 dX4_read_27 ?_
  refine g_topi (v := nI q4.1) rfl ?_
  refine g_aload_n (pc := 30) hc 0 dX4_read_30 rfl rfl ?_
  refine gf_c9_tape (pc := 31) hc tw_227 dX4_read_31 ?_
  refine g_callVi (pc := 34) (rest := [.int (nI q4.1)]) (As := []) hc (c_X9_length l E ad hA (va_up (va_up (va_up (va_up (va_up (va_up (va_up (va_up sc 11 (spA (ar 30) (nI 7) (rd1 (ar 30) tL))) 12 (spB (ar 30) tL (nI 7) (rd1 (ar 30) tL))) 13 (dyA (ar 30) tL (rd2 (ar 30) tL))) 14 (dyB (ar 30) tL (rd2 (ar 30) tL))) 15 (bwB (ar 30) tL (rd3 (ar 30) tL))) 8 (nI q4.1)) 9 (nI q4.2.1)) 10 q4.2.2) ar bl) mi_X9_length tw_766 8 rfl rfl rfl rfl ⟨rfl, rfl, by decide, by decide⟩ (Nat.le_of_ble_eq_true rfl) ⟨Nat.le_refl _, Nat.le_refl _⟩ rfl dX4_read_34 ?_
  refine g_topi (v := sc 7) rfl ?_
  refine g_topi (v := nI tL) (hT) ?_
  refine g_icmp_ge (pc := 37) hc 44 dX4_read_37 (by decide) (fun c1 => ?_) (fun c1 => ?_)
  · refine g_aload_n (pc := 44) hc 0 dX4_read_44 rfl rfl ?_
    refine gf_c9_fault (pc := 45) hc tw_230 dX4_read_45 ?_
    refine g_topi (v := q4.2.2) rfl ?_
    exact g_iret (pc := 48) hc dX4_read_48 (by (first | rw [rd5, ← e4, if_pos c1] | rw [rd5, ← e4, if_neg c1])) (by (first | rw [rd5, ← e4, if_pos c1] | rw [rd5, ← e4, if_neg c1]))
  · refine g_aload_n (pc := 40) hc 0 dX4_read_40 rfl rfl ?_
    refine g_callVv (pc := 41) (rest := []) (As := []) hc (c_X4_tellFault l E ad hA (va_up (va_up (va_up (va_up (va_up (va_up (va_up (va_up sc 11 (spA (ar 30) (nI 7) (rd1 (ar 30) tL))) 12 (spB (ar 30) tL (nI 7) (rd1 (ar 30) tL))) 13 (dyA (ar 30) tL (rd2 (ar 30) tL))) 14 (dyB (ar 30) tL (rd2 (ar 30) tL))) 15 (bwB (ar 30) tL (rd3 (ar 30) tL))) 8 (nI q4.1)) 9 (nI q4.2.1)) 10 q4.2.2) ar bl q4  hT hT60 rfl rfl rfl (k4)) mi_X4_tellFault tw_836 9 rfl rfl rfl rfl ⟨rfl, rfl, by decide, by decide⟩ (Nat.le_of_ble_eq_true rfl) ⟨Nat.le_refl _, Nat.le_refl _⟩ rfl dX4_read_41 ?_
    refine g_eq (ws' := cw E ad (va_up (va_up (va_up (va_up (va_up (va_up (va_up (va_up sc 11 (spA (ar 30) (nI 7) (rd1 (ar 30) tL))) 12 (spB (ar 30) tL (nI 7) (rd1 (ar 30) tL))) 13 (dyA (ar 30) tL (rd2 (ar 30) tL))) 14 (dyB (ar 30) tL (rd2 (ar 30) tL))) 15 (bwB (ar 30) tL (rd3 (ar 30) tL))) 8 (nI (tfl q4).1)) 9 (nI (tfl q4).2.1)) 10 (tfl q4).2.2) ar bl) (lv' := [(0, .ref (ad 9))]) (by simp [cw, va_up]) rfl rfl ?_
    refine g_aload_n (pc := 44) hc 0 dX4_read_44 rfl rfl ?_
    refine gf_c9_fault (pc := 45) hc tw_230 dX4_read_45 ?_
    refine g_topi (v := (tfl q4).2.2) rfl ?_
    exact g_iret (pc := 48) hc dX4_read_48 (by (first | rw [rd5, ← e4, if_pos c1] | rw [rd5, ← e4, if_neg c1])) (by (first | rw [rd5, ← e4, if_pos c1] | rw [rd5, ← e4, if_neg c1]))

theorem dX5_add_0 : decode cX5_add 0 = .ok (.aload_n 0, 1) := by decide +kernel
theorem dX5_add_1 : decode cX5_add 1 = .ok (.getfield 11, 3) := by decide +kernel
theorem dX5_add_4 : decode cX5_add 4 = .ok (.aload_n 0, 1) := by decide +kernel
theorem dX5_add_5 : decode cX5_add 5 = .ok (.getfield 31, 3) := by decide +kernel
theorem dX5_add_8 : decode cX5_add 8 = .ok (.aload_n 1, 1) := by decide +kernel
theorem dX5_add_9 : decode cX5_add 9 = .ok (.invokevirtual 35, 3) := by decide +kernel
theorem dX5_add_12 : decode cX5_add 12 = .ok (.iastore, 1) := by decide +kernel
theorem dX5_add_13 : decode cX5_add 13 = .ok (.aload_n 0, 1) := by decide +kernel
theorem dX5_add_14 : decode cX5_add 14 = .ok (.getfield 15, 3) := by decide +kernel
theorem dX5_add_17 : decode cX5_add 17 = .ok (.aload_n 0, 1) := by decide +kernel
theorem dX5_add_18 : decode cX5_add 18 = .ok (.getfield 31, 3) := by decide +kernel
theorem dX5_add_21 : decode cX5_add 21 = .ok (.aload_n 1, 1) := by decide +kernel
theorem dX5_add_22 : decode cX5_add 22 = .ok (.invokevirtual 41, 3) := by decide +kernel
theorem dX5_add_25 : decode cX5_add 25 = .ok (.iastore, 1) := by decide +kernel
theorem dX5_add_26 : decode cX5_add 26 = .ok (.aload_n 0, 1) := by decide +kernel
theorem dX5_add_27 : decode cX5_add 27 = .ok (.getfield 18, 3) := by decide +kernel
theorem dX5_add_30 : decode cX5_add 30 = .ok (.aload_n 0, 1) := by decide +kernel
theorem dX5_add_31 : decode cX5_add 31 = .ok (.getfield 31, 3) := by decide +kernel
theorem dX5_add_34 : decode cX5_add 34 = .ok (.aload_n 1, 1) := by decide +kernel
theorem dX5_add_35 : decode cX5_add 35 = .ok (.invokevirtual 44, 3) := by decide +kernel
theorem dX5_add_38 : decode cX5_add 38 = .ok (.iastore, 1) := by decide +kernel
theorem dX5_add_39 : decode cX5_add 39 = .ok (.aload_n 0, 1) := by decide +kernel
theorem dX5_add_40 : decode cX5_add 40 = .ok (.getfield 21, 3) := by decide +kernel
theorem dX5_add_43 : decode cX5_add 43 = .ok (.aload_n 0, 1) := by decide +kernel
theorem dX5_add_44 : decode cX5_add 44 = .ok (.getfield 31, 3) := by decide +kernel
theorem dX5_add_47 : decode cX5_add 47 = .ok (.aload_n 1, 1) := by decide +kernel
theorem dX5_add_48 : decode cX5_add 48 = .ok (.invokevirtual 47, 3) := by decide +kernel
theorem dX5_add_51 : decode cX5_add 51 = .ok (.iastore, 1) := by decide +kernel
theorem dX5_add_52 : decode cX5_add 52 = .ok (.aload_n 0, 1) := by decide +kernel
theorem dX5_add_53 : decode cX5_add 53 = .ok (.getfield 24, 3) := by decide +kernel
theorem dX5_add_56 : decode cX5_add 56 = .ok (.aload_n 0, 1) := by decide +kernel
theorem dX5_add_57 : decode cX5_add 57 = .ok (.getfield 31, 3) := by decide +kernel
theorem dX5_add_60 : decode cX5_add 60 = .ok (.aload_n 1, 1) := by decide +kernel
theorem dX5_add_61 : decode cX5_add 61 = .ok (.invokevirtual 50, 3) := by decide +kernel
theorem dX5_add_64 : decode cX5_add 64 = .ok (.iastore, 1) := by decide +kernel
theorem dX5_add_65 : decode cX5_add 65 = .ok (.aload_n 0, 1) := by decide +kernel
theorem dX5_add_66 : decode cX5_add 66 = .ok (.dup, 1) := by decide +kernel
theorem dX5_add_67 : decode cX5_add 67 = .ok (.getfield 31, 3) := by decide +kernel
theorem dX5_add_70 : decode cX5_add 70 = .ok (.iconst 1, 1) := by decide +kernel
theorem dX5_add_71 : decode cX5_add 71 = .ok (.iadd, 1) := by decide +kernel
theorem dX5_add_72 : decode cX5_add 72 = .ok (.putfield 31, 3) := by decide +kernel
theorem dX5_add_75 : decode cX5_add 75 = .ok (.aload_n 0, 1) := by decide +kernel
theorem dX5_add_76 : decode cX5_add 76 = .ok (.getfield 31, 3) := by decide +kernel
theorem dX5_add_79 : decode cX5_add 79 = .ok (.iconst 1, 1) := by decide +kernel
theorem dX5_add_80 : decode cX5_add 80 = .ok (.isub, 1) := by decide +kernel
theorem dX5_add_81 : decode cX5_add 81 = .ok (.ireturn, 1) := by decide +kernel

set_option maxHeartbeats 600000 in
set_option maxRecDepth 100000 in
theorem c_X5_add (l : Launch) (E : Ev) {A : Nat → Prop} (ad : Nat → Nat) (hA : Oka 39 ad A) (sc : Nat → Int32) (ar : Nat → Nat → Int32) (bl : Int64) {nL : Nat}  (hL : sc 16 = nI nL) (hL1 : nL < 12) : Ct l E yX5_add (.code yX5_add cX5_add 2 (some .int)) ({ frames := 1, cells := 0, slots := 0, locals := 20 }) A (cw E ad sc ar bl) [.ref (ad 10), .ref (ad 9)] (some (.int (nI nL))) (cw E ad (va_up sc 16 (nI (nL + 1))) (va_up (va_up (va_up (va_up (va_up ar 31 (upd (ar 31) nL (sc 11))) 32 (upd (ar 32) nL (sc 12))) 33 (upd (ar 33) nL (sc 13))) 34 (upd (ar 34) nL (sc 14))) 35 (upd (ar 35) nL (sc 15))) bl) := by
  refine Ct.of (lv := [(0, .ref (ad 10)), (1, .ref (ad 9))]) (by decide +kernel) (Nat.le_of_ble_eq_true rfl) rfl ?_
  intro zp ze zs zm za zb zh zc hc
  refine g_aload_n (pc := 0) hc 0 dX5_add_0 rfl rfl ?_
  refine gf_c10_firstRows (pc := 1) hc tw_146 dX5_add_1 ?_
  refine g_aload_n (pc := 4) hc 0 dX5_add_4 rfl rfl ?_
  refine gf_c10_number (pc := 5) hc tw_152 dX5_add_5 ?_
  refine g_topi (v := nI nL) (hL) ?_
  refine g_aload_n (pc := 8) hc 1 dX5_add_8 rfl rfl ?_
  refine g_callVi (pc := 9) (rest := [.int (nI nL), .ref (ad 31)]) (As := []) hc (c_X4_firstRow l E ad hA sc ar bl) mi_X4_firstRow tw_871 9 rfl rfl rfl rfl ⟨rfl, rfl, by decide, by decide⟩ (Nat.le_of_ble_eq_true rfl) ⟨Nat.le_refl _, Nat.le_refl _⟩ rfl dX5_add_9 ?_
  refine sa_c31 (pc := 12) hc hA (nL) (rfl) (by omega) dX5_add_12 ?_
  refine g_aload_n (pc := 13) hc 0 dX5_add_13 rfl rfl ?_
  refine gf_c10_lastRows (pc := 14) hc tw_147 dX5_add_14 ?_
  refine g_aload_n (pc := 17) hc 0 dX5_add_17 rfl rfl ?_
  refine gf_c10_number (pc := 18) hc tw_152 dX5_add_18 ?_
  refine g_topi (v := nI nL) (hL) ?_
  refine g_aload_n (pc := 21) hc 1 dX5_add_21 rfl rfl ?_
  refine g_callVi (pc := 22) (rest := [.int (nI nL), .ref (ad 32)]) (As := []) hc (c_X4_lastRow l E ad hA sc (va_up ar 31 (upd (ar 31) nL (sc 11))) bl) mi_X4_lastRow tw_875 9 rfl rfl rfl rfl ⟨rfl, rfl, by decide, by decide⟩ (Nat.le_of_ble_eq_true rfl) ⟨Nat.le_refl _, Nat.le_refl _⟩ rfl dX5_add_22 ?_
  refine g_topi (v := sc 12) rfl ?_
  refine sa_c32 (pc := 25) hc hA (nL) (rfl) (by omega) dX5_add_25 ?_
  refine g_eq (ws' := cw E ad sc (va_up (va_up ar 31 (upd (ar 31) nL (sc 11))) 32 (upd (ar 32) nL (sc 12))) bl) (lv' := [(0, .ref (ad 10)), (1, .ref (ad 9))]) rfl rfl rfl ?_
  refine g_aload_n (pc := 26) hc 0 dX5_add_26 rfl rfl ?_
  refine gf_c10_firstDays (pc := 27) hc tw_148 dX5_add_27 ?_
  refine g_aload_n (pc := 30) hc 0 dX5_add_30 rfl rfl ?_
  refine gf_c10_number (pc := 31) hc tw_152 dX5_add_31 ?_
  refine g_topi (v := nI nL) (hL) ?_
  refine g_aload_n (pc := 34) hc 1 dX5_add_34 rfl rfl ?_
  refine g_callVi (pc := 35) (rest := [.int (nI nL), .ref (ad 33)]) (As := []) hc (c_X4_firstDay l E ad hA sc (va_up (va_up ar 31 (upd (ar 31) nL (sc 11))) 32 (upd (ar 32) nL (sc 12))) bl) mi_X4_firstDay tw_879 9 rfl rfl rfl rfl ⟨rfl, rfl, by decide, by decide⟩ (Nat.le_of_ble_eq_true rfl) ⟨Nat.le_refl _, Nat.le_refl _⟩ rfl dX5_add_35 ?_
  refine g_topi (v := sc 13) rfl ?_
  refine sa_c33 (pc := 38) hc hA (nL) (rfl) (by omega) dX5_add_38 ?_
  refine g_eq (ws' := cw E ad sc (va_up (va_up (va_up ar 31 (upd (ar 31) nL (sc 11))) 32 (upd (ar 32) nL (sc 12))) 33 (upd (ar 33) nL (sc 13))) bl) (lv' := [(0, .ref (ad 10)), (1, .ref (ad 9))]) rfl rfl rfl ?_
  refine g_aload_n (pc := 39) hc 0 dX5_add_39 rfl rfl ?_
  refine gf_c10_lastDays (pc := 40) hc tw_149 dX5_add_40 ?_
  refine g_aload_n (pc := 43) hc 0 dX5_add_43 rfl rfl ?_
  refine gf_c10_number (pc := 44) hc tw_152 dX5_add_44 ?_
  refine g_topi (v := nI nL) (hL) ?_
  refine g_aload_n (pc := 47) hc 1 dX5_add_47 rfl rfl ?_
  refine g_callVi (pc := 48) (rest := [.int (nI nL), .ref (ad 34)]) (As := []) hc (c_X4_lastDay l E ad hA sc (va_up (va_up (va_up ar 31 (upd (ar 31) nL (sc 11))) 32 (upd (ar 32) nL (sc 12))) 33 (upd (ar 33) nL (sc 13))) bl) mi_X4_lastDay tw_883 9 rfl rfl rfl rfl ⟨rfl, rfl, by decide, by decide⟩ (Nat.le_of_ble_eq_true rfl) ⟨Nat.le_refl _, Nat.le_refl _⟩ rfl dX5_add_48 ?_
  refine g_topi (v := sc 14) rfl ?_
  refine sa_c34 (pc := 51) hc hA (nL) (rfl) (by omega) dX5_add_51 ?_
  refine g_eq (ws' := cw E ad sc (va_up (va_up (va_up (va_up ar 31 (upd (ar 31) nL (sc 11))) 32 (upd (ar 32) nL (sc 12))) 33 (upd (ar 33) nL (sc 13))) 34 (upd (ar 34) nL (sc 14))) bl) (lv' := [(0, .ref (ad 10)), (1, .ref (ad 9))]) rfl rfl rfl ?_
  refine g_aload_n (pc := 52) hc 0 dX5_add_52 rfl rfl ?_
  refine gf_c10_barred (pc := 53) hc tw_150 dX5_add_53 ?_
  refine g_aload_n (pc := 56) hc 0 dX5_add_56 rfl rfl ?_
  refine gf_c10_number (pc := 57) hc tw_152 dX5_add_57 ?_
  refine g_topi (v := nI nL) (hL) ?_
  refine g_aload_n (pc := 60) hc 1 dX5_add_60 rfl rfl ?_
  refine g_callVi (pc := 61) (rest := [.int (nI nL), .ref (ad 35)]) (As := []) hc (c_X4_barred l E ad hA sc (va_up (va_up (va_up (va_up ar 31 (upd (ar 31) nL (sc 11))) 32 (upd (ar 32) nL (sc 12))) 33 (upd (ar 33) nL (sc 13))) 34 (upd (ar 34) nL (sc 14))) bl) mi_X4_barred tw_887 9 rfl rfl rfl rfl ⟨rfl, rfl, by decide, by decide⟩ (Nat.le_of_ble_eq_true rfl) ⟨Nat.le_refl _, Nat.le_refl _⟩ rfl dX5_add_61 ?_
  refine g_topi (v := sc 15) rfl ?_
  refine sa_c35 (pc := 64) hc hA (nL) (rfl) (by omega) dX5_add_64 ?_
  refine g_eq (ws' := cw E ad sc (va_up (va_up (va_up (va_up (va_up ar 31 (upd (ar 31) nL (sc 11))) 32 (upd (ar 32) nL (sc 12))) 33 (upd (ar 33) nL (sc 13))) 34 (upd (ar 34) nL (sc 14))) 35 (upd (ar 35) nL (sc 15))) bl) (lv' := [(0, .ref (ad 10)), (1, .ref (ad 9))]) rfl rfl rfl ?_
  refine g_aload_n (pc := 65) hc 0 dX5_add_65 rfl rfl ?_
  refine g_dup (pc := 66) hc dX5_add_66 rfl ?_
  refine gf_c10_number (pc := 67) hc tw_152 dX5_add_67 ?_
  refine g_topi (v := nI nL) (hL) ?_
  refine g_iconst (pc := 70) (v := nI 1) hc dX5_add_70 (by decide) ?_
  refine g_iadd (pc := 71) hc dX5_add_71 ?_
  refine g_topi (v := nI (nL + 1)) (nI_add nL 1) ?_
  refine pf_c10_number (pc := 72) hc hA tw_152 dX5_add_72 ?_
  refine g_aload_n (pc := 75) hc 0 dX5_add_75 rfl rfl ?_
  refine gf_c10_number (pc := 76) hc tw_152 dX5_add_76 ?_
  refine g_topi (v := nI (nL + 1)) rfl ?_
  refine g_iconst (pc := 79) (v := nI 1) hc dX5_add_79 (by decide) ?_
  refine g_isub (pc := 80) hc dX5_add_80 ?_
  exact g_iret (pc := 81) hc dX5_add_81 (by rw [nI1e, nI_pred]) (rfl)
