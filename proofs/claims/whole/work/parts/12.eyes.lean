theorem dX2_renew_0 : decode cX2_renew 0 = .ok (.aload_n 0, 1) := by decide +kernel
theorem dX2_renew_1 : decode cX2_renew 1 = .ok (.iload_n 1, 1) := by decide +kernel
theorem dX2_renew_2 : decode cX2_renew 2 = .ok (.putfield 9, 3) := by decide +kernel
theorem dX2_renew_5 : decode cX2_renew 5 = .ok (.aload_n 0, 1) := by decide +kernel
theorem dX2_renew_6 : decode cX2_renew 6 = .ok (.iload_n 2, 1) := by decide +kernel
theorem dX2_renew_7 : decode cX2_renew 7 = .ok (.putfield 15, 3) := by decide +kernel
theorem dX2_renew_10 : decode cX2_renew 10 = .ok (.aload_n 0, 1) := by decide +kernel
theorem dX2_renew_11 : decode cX2_renew 11 = .ok (.lconst 0, 1) := by decide +kernel
theorem dX2_renew_12 : decode cX2_renew 12 = .ok (.putfield 18, 3) := by decide +kernel
theorem dX2_renew_15 : decode cX2_renew 15 = .ok (.return_, 1) := by decide +kernel

set_option maxHeartbeats 4000000 in
set_option maxRecDepth 100000 in
theorem c_X2_renew (l : Launch) (E : Ev) {A : Nat → Prop} (ad : Nat → Nat) (hA : Oka 39 ad A) (sc : Nat → Int32) (ar : Nat → Nat → Int32) (bl : Int64) (x : Int32) (y : Int32) : Ct l E yX2_renew (.code yX2_renew cX2_renew 3 none) ({ frames := 0, cells := 0, slots := 0, locals := 0 }) A (cw E ad sc ar bl) [.ref (ad 1), .int x, .int y] (none) (cw E ad (va_up (va_up sc 3 x) 4 y) ar 0) := by
  refine Ct.of (lv := [(0, .ref (ad 1)), (1, .int x), (2, .int y)]) (by decide +kernel) (Nat.le_of_ble_eq_true rfl) rfl ?_
  intro zp ze zs zm za zb zh zc hc
  refine g_aload_n (pc := 0) hc 0 dX2_renew_0 rfl rfl ?_
  refine g_iload_n (pc := 1) hc 1 dX2_renew_1 rfl rfl ?_
  refine pf_c1_wide (pc := 2) hc hA tw_36 dX2_renew_2 ?_
  refine g_aload_n (pc := 5) hc 0 dX2_renew_5 rfl rfl ?_
  refine g_iload_n (pc := 6) hc 2 dX2_renew_6 rfl rfl ?_
  refine pf_c1_high (pc := 7) hc hA tw_37 dX2_renew_7 ?_
  refine g_aload_n (pc := 10) hc 0 dX2_renew_10 rfl rfl ?_
  refine g_lconst (pc := 11) (v := 0) hc dX2_renew_11 (by decide) ?_
  refine pf_c1_barren (pc := 12) hc hA tw_38 dX2_renew_12 ?_
  exact g_vret (pc := 15) hc dX2_renew_15 rfl (rfl)

theorem dX2_paces_0 : decode cX2_paces 0 = .ok (.aload_n 0, 1) := by decide +kernel
theorem dX2_paces_1 : decode cX2_paces 1 = .ok (.getfield 9, 3) := by decide +kernel
theorem dX2_paces_4 : decode cX2_paces 4 = .ok (.aload_n 0, 1) := by decide +kernel
theorem dX2_paces_5 : decode cX2_paces 5 = .ok (.getfield 15, 3) := by decide +kernel
theorem dX2_paces_8 : decode cX2_paces 8 = .ok (.imul, 1) := by decide +kernel
theorem dX2_paces_9 : decode cX2_paces 9 = .ok (.ireturn, 1) := by decide +kernel

set_option maxHeartbeats 4000000 in
set_option maxRecDepth 100000 in
theorem c_X2_paces (l : Launch) (E : Ev) {A : Nat → Prop} (ad : Nat → Nat) (hA : Oka 39 ad A) (sc : Nat → Int32) (ar : Nat → Nat → Int32) (bl : Int64) {wd hg : Nat}  (hwd : sc 3 = nI wd) (hwd1 : 2 ≤ wd) (hwd2 : wd ≤ 8) (hhg : sc 4 = nI hg) (hhg1 : 2 ≤ hg) (hhg2 : hg ≤ 8) : Ct l E yX2_paces (.code yX2_paces cX2_paces 1 (some .int)) ({ frames := 0, cells := 0, slots := 0, locals := 0 }) A (cw E ad sc ar bl) [.ref (ad 1)] (some (.int (nI (wd * hg)))) (cw E ad sc ar bl) := by
  refine Ct.of (lv := [(0, .ref (ad 1))]) (by decide +kernel) (Nat.le_of_ble_eq_true rfl) rfl ?_
  intro zp ze zs zm za zb zh zc hc
  refine g_aload_n (pc := 0) hc 0 dX2_paces_0 rfl rfl ?_
  refine gf_c1_wide (pc := 1) hc tw_36 dX2_paces_1 ?_
  refine g_topi (v := nI wd) (hwd) ?_
  refine g_aload_n (pc := 4) hc 0 dX2_paces_4 rfl rfl ?_
  refine gf_c1_high (pc := 5) hc tw_37 dX2_paces_5 ?_
  refine g_topi (v := nI hg) (hhg) ?_
  refine g_imul (pc := 8) hc dX2_paces_8 ?_
  refine g_topi (v := nI (wd * hg)) (pk_mul wd hg) ?_
  exact g_iret (pc := 9) hc dX2_paces_9 (rfl) (rfl)

theorem dX2_rows_0 : decode cX2_rows 0 = .ok (.aload_n 0, 1) := by decide +kernel
theorem dX2_rows_1 : decode cX2_rows 1 = .ok (.getfield 15, 3) := by decide +kernel
theorem dX2_rows_4 : decode cX2_rows 4 = .ok (.ireturn, 1) := by decide +kernel

set_option maxHeartbeats 4000000 in
set_option maxRecDepth 100000 in
theorem c_X2_rows (l : Launch) (E : Ev) {A : Nat → Prop} (ad : Nat → Nat) (hA : Oka 39 ad A) (sc : Nat → Int32) (ar : Nat → Nat → Int32) (bl : Int64) {wd hg : Nat}  (hwd : sc 3 = nI wd) (hwd1 : 2 ≤ wd) (hwd2 : wd ≤ 8) (hhg : sc 4 = nI hg) (hhg1 : 2 ≤ hg) (hhg2 : hg ≤ 8) : Ct l E yX2_rows (.code yX2_rows cX2_rows 1 (some .int)) ({ frames := 0, cells := 0, slots := 0, locals := 0 }) A (cw E ad sc ar bl) [.ref (ad 1)] (some (.int (nI hg))) (cw E ad sc ar bl) := by
  refine Ct.of (lv := [(0, .ref (ad 1))]) (by decide +kernel) (Nat.le_of_ble_eq_true rfl) rfl ?_
  intro zp ze zs zm za zb zh zc hc
  refine g_aload_n (pc := 0) hc 0 dX2_rows_0 rfl rfl ?_
  refine gf_c1_high (pc := 1) hc tw_37 dX2_rows_1 ?_
  refine g_topi (v := nI hg) (hhg) ?_
  exact g_iret (pc := 4) hc dX2_rows_4 (rfl) (rfl)

theorem dX2_columns_0 : decode cX2_columns 0 = .ok (.aload_n 0, 1) := by decide +kernel
theorem dX2_columns_1 : decode cX2_columns 1 = .ok (.getfield 9, 3) := by decide +kernel
theorem dX2_columns_4 : decode cX2_columns 4 = .ok (.ireturn, 1) := by decide +kernel

set_option maxHeartbeats 4000000 in
set_option maxRecDepth 100000 in
theorem c_X2_columns (l : Launch) (E : Ev) {A : Nat → Prop} (ad : Nat → Nat) (hA : Oka 39 ad A) (sc : Nat → Int32) (ar : Nat → Nat → Int32) (bl : Int64) {wd hg : Nat}  (hwd : sc 3 = nI wd) (hwd1 : 2 ≤ wd) (hwd2 : wd ≤ 8) (hhg : sc 4 = nI hg) (hhg1 : 2 ≤ hg) (hhg2 : hg ≤ 8) : Ct l E yX2_columns (.code yX2_columns cX2_columns 1 (some .int)) ({ frames := 0, cells := 0, slots := 0, locals := 0 }) A (cw E ad sc ar bl) [.ref (ad 1)] (some (.int (nI wd))) (cw E ad sc ar bl) := by
  refine Ct.of (lv := [(0, .ref (ad 1))]) (by decide +kernel) (Nat.le_of_ble_eq_true rfl) rfl ?_
  intro zp ze zs zm za zb zh zc hc
  refine g_aload_n (pc := 0) hc 0 dX2_columns_0 rfl rfl ?_
  refine gf_c1_wide (pc := 1) hc tw_36 dX2_columns_1 ?_
  refine g_topi (v := nI wd) (hwd) ?_
  exact g_iret (pc := 4) hc dX2_columns_4 (rfl) (rfl)

theorem dX2_hasPace_0 : decode cX2_hasPace 0 = .ok (.iload_n 1, 1) := by decide +kernel
theorem dX2_hasPace_1 : decode cX2_hasPace 1 = .ok (.ifCond .lt 15, 3) := by decide +kernel
theorem dX2_hasPace_4 : decode cX2_hasPace 4 = .ok (.iload_n 1, 1) := by decide +kernel
theorem dX2_hasPace_5 : decode cX2_hasPace 5 = .ok (.aload_n 0, 1) := by decide +kernel
theorem dX2_hasPace_6 : decode cX2_hasPace 6 = .ok (.invokevirtual 29, 3) := by decide +kernel
theorem dX2_hasPace_9 : decode cX2_hasPace 9 = .ok (.if_icmp .ge 7, 3) := by decide +kernel
theorem dX2_hasPace_12 : decode cX2_hasPace 12 = .ok (.iconst 1, 1) := by decide +kernel
theorem dX2_hasPace_13 : decode cX2_hasPace 13 = .ok (.goto 4, 3) := by decide +kernel
theorem dX2_hasPace_16 : decode cX2_hasPace 16 = .ok (.iconst 0, 1) := by decide +kernel
theorem dX2_hasPace_17 : decode cX2_hasPace 17 = .ok (.ireturn, 1) := by decide +kernel

set_option maxHeartbeats 4000000 in
set_option maxRecDepth 100000 in
theorem c_X2_hasPace (l : Launch) (E : Ev) {A : Nat → Prop} (ad : Nat → Nat) (hA : Oka 39 ad A) (sc : Nat → Int32) (ar : Nat → Nat → Int32) (bl : Int64) {wd hg : Nat} (x : Int32) (hwd : sc 3 = nI wd) (hwd1 : 2 ≤ wd) (hwd2 : wd ≤ 8) (hhg : sc 4 = nI hg) (hhg1 : 2 ≤ hg) (hhg2 : hg ≤ 8) : Ct l E yX2_hasPace (.code yX2_hasPace cX2_hasPace 2 (some .boolean)) ({ frames := 1, cells := 0, slots := 0, locals := 20 }) A (cw E ad sc ar bl) [.ref (ad 1), .int x] (some (.int (bI (inx x (nI (wd * hg)))))) (cw E ad sc ar bl) := by
  refine Ct.of (lv := [(0, .ref (ad 1)), (1, .int x)]) (by decide +kernel) (Nat.le_of_ble_eq_true rfl) rfl ?_
  intro zp ze zs zm za zb zh zc hc
  refine g_iload_n (pc := 0) hc 1 dX2_hasPace_0 rfl rfl ?_
  refine g_if_lt (pc := 1) hc 16 dX2_hasPace_1 (by decide) (fun c1 => ?_) (fun c1 => ?_)
  · refine g_iconst (pc := 16) (v := nI 0) hc dX2_hasPace_16 (by decide) ?_
    exact g_zret (pc := 17) hc dX2_hasPace_17 (by decide) (by simp [bI, inx, c1] <;> rfl) (rfl)
  · refine g_iload_n (pc := 4) hc 1 dX2_hasPace_4 rfl rfl ?_
    refine g_aload_n (pc := 5) hc 0 dX2_hasPace_5 rfl rfl ?_
    refine g_callVi (pc := 6) (rest := [.int x]) (As := []) hc (c_X2_paces l E ad hA sc ar bl  (hwd) (hwd1) (hwd2) (hhg) (hhg1) (hhg2)) mi_X2_paces tw_400 1 rfl rfl rfl rfl ⟨rfl, rfl, by decide, by decide⟩ (Nat.le_of_ble_eq_true rfl) ⟨Nat.le_refl _, Nat.le_refl _⟩ rfl dX2_hasPace_6 ?_
    refine g_icmp_ge (pc := 9) hc 16 dX2_hasPace_9 (by decide) (fun c2 => ?_) (fun c2 => ?_)
    · refine g_iconst (pc := 16) (v := nI 0) hc dX2_hasPace_16 (by decide) ?_
      exact g_zret (pc := 17) hc dX2_hasPace_17 (by decide) (by simp [bI, inx, c1, c2] <;> rfl) (rfl)
    · refine g_iconst (pc := 12) (v := nI 1) hc dX2_hasPace_12 (by decide) ?_
      refine g_goto (pc := 13) hc 17 dX2_hasPace_13 (by decide) ?_
      exact g_zret (pc := 17) hc dX2_hasPace_17 (by decide) (by simp [bI, inx, c1, c2] <;> rfl) (rfl)

theorem dX2_hasRow_0 : decode cX2_hasRow 0 = .ok (.iload_n 1, 1) := by decide +kernel
theorem dX2_hasRow_1 : decode cX2_hasRow 1 = .ok (.ifCond .lt 15, 3) := by decide +kernel
theorem dX2_hasRow_4 : decode cX2_hasRow 4 = .ok (.iload_n 1, 1) := by decide +kernel
theorem dX2_hasRow_5 : decode cX2_hasRow 5 = .ok (.aload_n 0, 1) := by decide +kernel
theorem dX2_hasRow_6 : decode cX2_hasRow 6 = .ok (.getfield 15, 3) := by decide +kernel
theorem dX2_hasRow_9 : decode cX2_hasRow 9 = .ok (.if_icmp .ge 7, 3) := by decide +kernel
theorem dX2_hasRow_12 : decode cX2_hasRow 12 = .ok (.iconst 1, 1) := by decide +kernel
theorem dX2_hasRow_13 : decode cX2_hasRow 13 = .ok (.goto 4, 3) := by decide +kernel
theorem dX2_hasRow_16 : decode cX2_hasRow 16 = .ok (.iconst 0, 1) := by decide +kernel
theorem dX2_hasRow_17 : decode cX2_hasRow 17 = .ok (.ireturn, 1) := by decide +kernel

set_option maxHeartbeats 4000000 in
set_option maxRecDepth 100000 in
theorem c_X2_hasRow (l : Launch) (E : Ev) {A : Nat → Prop} (ad : Nat → Nat) (hA : Oka 39 ad A) (sc : Nat → Int32) (ar : Nat → Nat → Int32) (bl : Int64) {wd hg : Nat} (x : Int32) (hwd : sc 3 = nI wd) (hwd1 : 2 ≤ wd) (hwd2 : wd ≤ 8) (hhg : sc 4 = nI hg) (hhg1 : 2 ≤ hg) (hhg2 : hg ≤ 8) : Ct l E yX2_hasRow (.code yX2_hasRow cX2_hasRow 2 (some .boolean)) ({ frames := 0, cells := 0, slots := 0, locals := 0 }) A (cw E ad sc ar bl) [.ref (ad 1), .int x] (some (.int (bI (inx x (nI hg))))) (cw E ad sc ar bl) := by
  refine Ct.of (lv := [(0, .ref (ad 1)), (1, .int x)]) (by decide +kernel) (Nat.le_of_ble_eq_true rfl) rfl ?_
  intro zp ze zs zm za zb zh zc hc
  refine g_iload_n (pc := 0) hc 1 dX2_hasRow_0 rfl rfl ?_
  refine g_if_lt (pc := 1) hc 16 dX2_hasRow_1 (by decide) (fun c1 => ?_) (fun c1 => ?_)
  · refine g_iconst (pc := 16) (v := nI 0) hc dX2_hasRow_16 (by decide) ?_
    exact g_zret (pc := 17) hc dX2_hasRow_17 (by decide) (by simp [bI, inx, c1] <;> rfl) (rfl)
  · refine g_iload_n (pc := 4) hc 1 dX2_hasRow_4 rfl rfl ?_
    refine g_aload_n (pc := 5) hc 0 dX2_hasRow_5 rfl rfl ?_
    refine gf_c1_high (pc := 6) hc tw_37 dX2_hasRow_6 ?_
    refine g_topi (v := nI hg) (hhg) ?_
    refine g_icmp_ge (pc := 9) hc 16 dX2_hasRow_9 (by decide) (fun c2 => ?_) (fun c2 => ?_)
    · refine g_iconst (pc := 16) (v := nI 0) hc dX2_hasRow_16 (by decide) ?_
      exact g_zret (pc := 17) hc dX2_hasRow_17 (by decide) (by simp [bI, inx, c1, c2] <;> rfl) (rfl)
    · refine g_iconst (pc := 12) (v := nI 1) hc dX2_hasRow_12 (by decide) ?_
      refine g_goto (pc := 13) hc 17 dX2_hasRow_13 (by decide) ?_
      exact g_zret (pc := 17) hc dX2_hasRow_17 (by decide) (by simp [bI, inx, c1, c2] <;> rfl) (rfl)

theorem dX2_rowOf_0 : decode cX2_rowOf 0 = .ok (.aload_n 0, 1) := by decide +kernel
theorem dX2_rowOf_1 : decode cX2_rowOf 1 = .ok (.getfield 9, 3) := by decide +kernel
theorem dX2_rowOf_4 : decode cX2_rowOf 4 = .ok (.ifCond .le 12, 3) := by decide +kernel
theorem dX2_rowOf_7 : decode cX2_rowOf 7 = .ok (.iload_n 1, 1) := by decide +kernel
theorem dX2_rowOf_8 : decode cX2_rowOf 8 = .ok (.aload_n 0, 1) := by decide +kernel
theorem dX2_rowOf_9 : decode cX2_rowOf 9 = .ok (.getfield 9, 3) := by decide +kernel
theorem dX2_rowOf_12 : decode cX2_rowOf 12 = .ok (.idiv, 1) := by decide +kernel
theorem dX2_rowOf_13 : decode cX2_rowOf 13 = .ok (.goto 4, 3) := by decide +kernel
theorem dX2_rowOf_16 : decode cX2_rowOf 16 = .ok (.iconst 0, 1) := by decide +kernel
theorem dX2_rowOf_17 : decode cX2_rowOf 17 = .ok (.ireturn, 1) := by decide +kernel

set_option maxHeartbeats 4000000 in
set_option maxRecDepth 100000 in
theorem c_X2_rowOf (l : Launch) (E : Ev) {A : Nat → Prop} (ad : Nat → Nat) (hA : Oka 39 ad A) (sc : Nat → Int32) (ar : Nat → Nat → Int32) (bl : Int64) {wd hg : Nat} (p : Nat) (hwd : sc 3 = nI wd) (hwd1 : 2 ≤ wd) (hwd2 : wd ≤ 8) (hhg : sc 4 = nI hg) (hhg1 : 2 ≤ hg) (hhg2 : hg ≤ 8) (hp : p < 64) : Ct l E yX2_rowOf (.code yX2_rowOf cX2_rowOf 2 (some .int)) ({ frames := 0, cells := 0, slots := 0, locals := 0 }) A (cw E ad sc ar bl) [.ref (ad 1), .int (nI p)] (some (.int (nI (p / wd)))) (cw E ad sc ar bl) := by
  refine Ct.of (lv := [(0, .ref (ad 1)), (1, .int (nI p))]) (by decide +kernel) (Nat.le_of_ble_eq_true rfl) rfl ?_
  intro zp ze zs zm za zb zh zc hc
  refine g_aload_n (pc := 0) hc 0 dX2_rowOf_0 rfl rfl ?_
  refine gf_c1_wide (pc := 1) hc tw_36 dX2_rowOf_1 ?_
  refine g_topi (v := nI wd) (hwd) ?_
  refine g_if_le_f (pc := 4) hc 16 dX2_rowOf_4 (by decide) (nI_nle (by omega) (by omega)) ?_
  refine g_iload_n (pc := 7) hc 1 dX2_rowOf_7 rfl rfl ?_
  refine g_aload_n (pc := 8) hc 0 dX2_rowOf_8 rfl rfl ?_
  refine gf_c1_wide (pc := 9) hc tw_36 dX2_rowOf_9 ?_
  refine g_topi (v := nI wd) (hwd) ?_
  refine g_idiv (pc := 12) hc dX2_rowOf_12 (nI_ne0 (by omega) (by omega)) ?_
  refine g_goto (pc := 13) hc 17 dX2_rowOf_13 (by decide) ?_
  refine g_topi (v := nI (p / wd)) (pk_div (by omega) (by omega) (by omega)) ?_
  exact g_iret (pc := 17) hc dX2_rowOf_17 (rfl) (rfl)

theorem dX2_columnOf_0 : decode cX2_columnOf 0 = .ok (.iload_n 1, 1) := by decide +kernel
theorem dX2_columnOf_1 : decode cX2_columnOf 1 = .ok (.aload_n 0, 1) := by decide +kernel
theorem dX2_columnOf_2 : decode cX2_columnOf 2 = .ok (.iload_n 1, 1) := by decide +kernel
theorem dX2_columnOf_3 : decode cX2_columnOf 3 = .ok (.invokevirtual 33, 3) := by decide +kernel
theorem dX2_columnOf_6 : decode cX2_columnOf 6 = .ok (.aload_n 0, 1) := by decide +kernel
theorem dX2_columnOf_7 : decode cX2_columnOf 7 = .ok (.getfield 9, 3) := by decide +kernel
theorem dX2_columnOf_10 : decode cX2_columnOf 10 = .ok (.imul, 1) := by decide +kernel
theorem dX2_columnOf_11 : decode cX2_columnOf 11 = .ok (.isub, 1) := by decide +kernel
theorem dX2_columnOf_12 : decode cX2_columnOf 12 = .ok (.ireturn, 1) := by decide +kernel

set_option maxHeartbeats 4000000 in
set_option maxRecDepth 100000 in
theorem c_X2_columnOf (l : Launch) (E : Ev) {A : Nat → Prop} (ad : Nat → Nat) (hA : Oka 39 ad A) (sc : Nat → Int32) (ar : Nat → Nat → Int32) (bl : Int64) {wd hg : Nat} (p : Nat) (hwd : sc 3 = nI wd) (hwd1 : 2 ≤ wd) (hwd2 : wd ≤ 8) (hhg : sc 4 = nI hg) (hhg1 : 2 ≤ hg) (hhg2 : hg ≤ 8) (hp : p < 64) : Ct l E yX2_columnOf (.code yX2_columnOf cX2_columnOf 2 (some .int)) ({ frames := 1, cells := 0, slots := 0, locals := 21 }) A (cw E ad sc ar bl) [.ref (ad 1), .int (nI p)] (some (.int (nI (p % wd)))) (cw E ad sc ar bl) := by
  refine Ct.of (lv := [(0, .ref (ad 1)), (1, .int (nI p))]) (by decide +kernel) (Nat.le_of_ble_eq_true rfl) rfl ?_
  intro zp ze zs zm za zb zh zc hc
  refine g_iload_n (pc := 0) hc 1 dX2_columnOf_0 rfl rfl ?_
  refine g_aload_n (pc := 1) hc 0 dX2_columnOf_1 rfl rfl ?_
  refine g_iload_n (pc := 2) hc 1 dX2_columnOf_2 rfl rfl ?_
  refine g_callVi (pc := 3) (rest := [.int (nI p)]) (As := [.int (nI p)]) hc (c_X2_rowOf l E ad hA sc ar bl p (hwd) (hwd1) (hwd2) (hhg) (hhg1) (hhg2) (by omega)) mi_X2_rowOf tw_417 1 rfl rfl rfl rfl ⟨rfl, rfl, by decide, by decide⟩ (Nat.le_of_ble_eq_true rfl) ⟨Nat.le_refl _, Nat.le_refl _⟩ rfl dX2_columnOf_3 ?_
  refine g_aload_n (pc := 6) hc 0 dX2_columnOf_6 rfl rfl ?_
  refine gf_c1_wide (pc := 7) hc tw_36 dX2_columnOf_7 ?_
  refine g_topi (v := nI wd) (hwd) ?_
  refine g_imul (pc := 10) hc dX2_columnOf_10 ?_
  refine g_topi (v := nI ((p / wd) * wd)) (pk_mul (p / wd) wd) ?_
  refine g_isub (pc := 11) hc dX2_columnOf_11 ?_
  refine g_topi (v := nI (p % wd)) (col_eq p wd) ?_
  exact g_iret (pc := 12) hc dX2_columnOf_12 (rfl) (rfl)

theorem dX2_isBarren_0 : decode cX2_isBarren 0 = .ok (.aload_n 0, 1) := by decide +kernel
theorem dX2_isBarren_1 : decode cX2_isBarren 1 = .ok (.getfield 18, 3) := by decide +kernel
theorem dX2_isBarren_4 : decode cX2_isBarren 4 = .ok (.iload_n 1, 1) := by decide +kernel
theorem dX2_isBarren_5 : decode cX2_isBarren 5 = .ok (.lushr, 1) := by decide +kernel
theorem dX2_isBarren_6 : decode cX2_isBarren 6 = .ok (.lconst 1, 1) := by decide +kernel
theorem dX2_isBarren_7 : decode cX2_isBarren 7 = .ok (.land, 1) := by decide +kernel
theorem dX2_isBarren_8 : decode cX2_isBarren 8 = .ok (.lconst 0, 1) := by decide +kernel
theorem dX2_isBarren_9 : decode cX2_isBarren 9 = .ok (.lcmp, 1) := by decide +kernel
theorem dX2_isBarren_10 : decode cX2_isBarren 10 = .ok (.ifCond .eq 7, 3) := by decide +kernel
theorem dX2_isBarren_13 : decode cX2_isBarren 13 = .ok (.iconst 1, 1) := by decide +kernel
theorem dX2_isBarren_14 : decode cX2_isBarren 14 = .ok (.goto 4, 3) := by decide +kernel
theorem dX2_isBarren_17 : decode cX2_isBarren 17 = .ok (.iconst 0, 1) := by decide +kernel
theorem dX2_isBarren_18 : decode cX2_isBarren 18 = .ok (.ireturn, 1) := by decide +kernel

set_option maxHeartbeats 4000000 in
set_option maxRecDepth 100000 in
theorem c_X2_isBarren (l : Launch) (E : Ev) {A : Nat → Prop} (ad : Nat → Nat) (hA : Oka 39 ad A) (sc : Nat → Int32) (ar : Nat → Nat → Int32) (bl : Int64) (x : Int32) : Ct l E yX2_isBarren (.code yX2_isBarren cX2_isBarren 2 (some .boolean)) ({ frames := 0, cells := 0, slots := 0, locals := 0 }) A (cw E ad sc ar bl) [.ref (ad 1), .int x] (some (.int (bI (brb bl x)))) (cw E ad sc ar bl) := by
  refine Ct.of (lv := [(0, .ref (ad 1)), (1, .int x)]) (by decide +kernel) (Nat.le_of_ble_eq_true rfl) rfl ?_
  intro zp ze zs zm za zb zh zc hc
  refine g_aload_n (pc := 0) hc 0 dX2_isBarren_0 rfl rfl ?_
  refine gf_c1_barren (pc := 1) hc tw_38 dX2_isBarren_1 ?_
  refine g_iload_n (pc := 4) hc 1 dX2_isBarren_4 rfl rfl ?_
  refine g_lushr (pc := 5) (v := (bl.toUInt64 >>> ((x : Int32).toInt64.toUInt64 &&& Int64.toUInt64 63)).toInt64) hc dX2_isBarren_5 rfl ?_
  refine g_lconst (pc := 6) (v := 1) hc dX2_isBarren_6 (by decide) ?_
  refine g_land (pc := 7) hc dX2_isBarren_7 ?_
  refine g_lconst (pc := 8) (v := 0) hc dX2_isBarren_8 (by decide) ?_
  refine g_lcmp (pc := 9) hc dX2_isBarren_9 ?_
  refine g_if_eq (pc := 10) hc 17 dX2_isBarren_10 (by decide) (fun c1 => ?_) (fun c1 => ?_)
  · refine g_iconst (pc := 17) (v := nI 0) hc dX2_isBarren_17 (by decide) ?_
    exact g_zret (pc := 18) hc dX2_isBarren_18 (by decide) (by simp [bI, brb, c1] <;> rfl) (rfl)
  · refine g_iconst (pc := 13) (v := nI 1) hc dX2_isBarren_13 (by decide) ?_
    refine g_goto (pc := 14) hc 18 dX2_isBarren_14 (by decide) ?_
    exact g_zret (pc := 18) hc dX2_isBarren_18 (by decide) (by simp [bI, brb, c1] <;> rfl) (rfl)

theorem dX2_dig_0 : decode cX2_dig 0 = .ok (.lconst 1, 1) := by decide +kernel
theorem dX2_dig_1 : decode cX2_dig 1 = .ok (.iload_n 1, 1) := by decide +kernel
theorem dX2_dig_2 : decode cX2_dig 2 = .ok (.lshl, 1) := by decide +kernel
theorem dX2_dig_3 : decode cX2_dig 3 = .ok (.lstore_n 3, 1) := by decide +kernel
theorem dX2_dig_4 : decode cX2_dig 4 = .ok (.aload_n 0, 1) := by decide +kernel
theorem dX2_dig_5 : decode cX2_dig 5 = .ok (.iload_n 2, 1) := by decide +kernel
theorem dX2_dig_6 : decode cX2_dig 6 = .ok (.ifCond .eq 12, 3) := by decide +kernel
theorem dX2_dig_9 : decode cX2_dig 9 = .ok (.aload_n 0, 1) := by decide +kernel
theorem dX2_dig_10 : decode cX2_dig 10 = .ok (.getfield 18, 3) := by decide +kernel
theorem dX2_dig_13 : decode cX2_dig 13 = .ok (.lload_n 3, 1) := by decide +kernel
theorem dX2_dig_14 : decode cX2_dig 14 = .ok (.lor, 1) := by decide +kernel
theorem dX2_dig_15 : decode cX2_dig 15 = .ok (.goto 13, 3) := by decide +kernel
theorem dX2_dig_18 : decode cX2_dig 18 = .ok (.aload_n 0, 1) := by decide +kernel
theorem dX2_dig_19 : decode cX2_dig 19 = .ok (.getfield 18, 3) := by decide +kernel
theorem dX2_dig_22 : decode cX2_dig 22 = .ok (.lload_n 3, 1) := by decide +kernel
theorem dX2_dig_23 : decode cX2_dig 23 = .ok (.ldc2_w 37, 3) := by decide +kernel
theorem dX2_dig_26 : decode cX2_dig 26 = .ok (.lxor, 1) := by decide +kernel
theorem dX2_dig_27 : decode cX2_dig 27 = .ok (.land, 1) := by decide +kernel
theorem dX2_dig_28 : decode cX2_dig 28 = .ok (.putfield 18, 3) := by decide +kernel
theorem dX2_dig_31 : decode cX2_dig 31 = .ok (.return_, 1) := by decide +kernel

set_option maxHeartbeats 4000000 in
set_option maxRecDepth 100000 in
theorem c_X2_dig (l : Launch) (E : Ev) {A : Nat → Prop} (ad : Nat → Nat) (hA : Oka 39 ad A) (sc : Nat → Int32) (ar : Nat → Nat → Int32) (bl : Int64) (x : Int32) (y : Int32) : Ct l E yX2_dig (.code yX2_dig cX2_dig 5 none) ({ frames := 0, cells := 0, slots := 0, locals := 0 }) A (cw E ad sc ar bl) [.ref (ad 1), .int x, .int y] (none) (cw E ad sc ar (dgb bl x y)) := by
  refine Ct.of (lv := [(0, .ref (ad 1)), (1, .int x), (2, .int y)]) (by decide +kernel) (Nat.le_of_ble_eq_true rfl) rfl ?_
  intro zp ze zs zm za zb zh zc hc
  refine g_lconst (pc := 0) (v := 1) hc dX2_dig_0 (by decide) ?_
  refine g_iload_n (pc := 1) hc 1 dX2_dig_1 rfl rfl ?_
  refine g_lshl (pc := 2) (v := 1 <<< ((x : Int32).toInt64 &&& 63)) hc dX2_dig_2 rfl ?_
  refine g_lstore_n (pc := 3) (lv' := [(0, .ref (ad 1)), (1, .int x), (2, .int y), (3, .long (1 <<< ((x : Int32).toInt64 &&& 63)))]) hc dX2_dig_3 rfl (by decide) rfl ?_
  refine g_aload_n (pc := 4) hc 0 dX2_dig_4 rfl rfl ?_
  refine g_iload_n (pc := 5) hc 2 dX2_dig_5 rfl rfl ?_
  refine g_if_eq (pc := 6) hc 18 dX2_dig_6 (by decide) (fun c1 => ?_) (fun c1 => ?_)
  · refine g_aload_n (pc := 18) hc 0 dX2_dig_18 rfl rfl ?_
    refine gf_c1_barren (pc := 19) hc tw_38 dX2_dig_19 ?_
    refine g_lload_n (pc := 22) hc 3 dX2_dig_22 rfl rfl ?_
    refine g_ldc2 (pc := 23) (v := (-1)) hc tw_656 dX2_dig_23 ?_
    refine g_lxor (pc := 26) hc dX2_dig_26 ?_
    refine g_land (pc := 27) hc dX2_dig_27 ?_
    refine pf_c1_barren (pc := 28) hc hA tw_38 dX2_dig_28 ?_
    exact g_vret (pc := 31) hc dX2_dig_31 rfl (by unfold dgb; first | rw [if_pos c1] | rw [if_neg c1])
  · refine g_aload_n (pc := 9) hc 0 dX2_dig_9 rfl rfl ?_
    refine gf_c1_barren (pc := 10) hc tw_38 dX2_dig_10 ?_
    refine g_lload_n (pc := 13) hc 3 dX2_dig_13 rfl rfl ?_
    refine g_lor (pc := 14) hc dX2_dig_14 ?_
    refine g_goto (pc := 15) hc 28 dX2_dig_15 (by decide) ?_
    refine pf_c1_barren (pc := 28) hc hA tw_38 dX2_dig_28 ?_
    exact g_vret (pc := 31) hc dX2_dig_31 rfl (by unfold dgb; first | rw [if_pos c1] | rw [if_neg c1])

theorem dX0_arePair_0 : decode cX0_arePair 0 = .ok (.aload_n 0, 1) := by decide +kernel
theorem dX0_arePair_1 : decode cX0_arePair 1 = .ok (.getfield 9, 3) := by decide +kernel
theorem dX0_arePair_4 : decode cX0_arePair 4 = .ok (.iload_n 1, 1) := by decide +kernel
theorem dX0_arePair_5 : decode cX0_arePair 5 = .ok (.invokevirtual 60, 3) := by decide +kernel
theorem dX0_arePair_8 : decode cX0_arePair 8 = .ok (.aload_n 0, 1) := by decide +kernel
theorem dX0_arePair_9 : decode cX0_arePair 9 = .ok (.getfield 9, 3) := by decide +kernel
theorem dX0_arePair_12 : decode cX0_arePair 12 = .ok (.iload_n 2, 1) := by decide +kernel
theorem dX0_arePair_13 : decode cX0_arePair 13 = .ok (.invokevirtual 60, 3) := by decide +kernel
theorem dX0_arePair_16 : decode cX0_arePair 16 = .ok (.if_icmp .ne 26, 3) := by decide +kernel
theorem dX0_arePair_19 : decode cX0_arePair 19 = .ok (.aload_n 0, 1) := by decide +kernel
theorem dX0_arePair_20 : decode cX0_arePair 20 = .ok (.getfield 9, 3) := by decide +kernel
theorem dX0_arePair_23 : decode cX0_arePair 23 = .ok (.iload_n 1, 1) := by decide +kernel
theorem dX0_arePair_24 : decode cX0_arePair 24 = .ok (.invokevirtual 25, 3) := by decide +kernel
theorem dX0_arePair_27 : decode cX0_arePair 27 = .ok (.aload_n 0, 1) := by decide +kernel
theorem dX0_arePair_28 : decode cX0_arePair 28 = .ok (.getfield 9, 3) := by decide +kernel
theorem dX0_arePair_31 : decode cX0_arePair 31 = .ok (.iload_n 2, 1) := by decide +kernel
theorem dX0_arePair_32 : decode cX0_arePair 32 = .ok (.invokevirtual 25, 3) := by decide +kernel
theorem dX0_arePair_35 : decode cX0_arePair 35 = .ok (.if_icmp .eq 7, 3) := by decide +kernel
theorem dX0_arePair_38 : decode cX0_arePair 38 = .ok (.iconst 1, 1) := by decide +kernel
theorem dX0_arePair_39 : decode cX0_arePair 39 = .ok (.goto 4, 3) := by decide +kernel
theorem dX0_arePair_42 : decode cX0_arePair 42 = .ok (.iconst 0, 1) := by decide +kernel
theorem dX0_arePair_43 : decode cX0_arePair 43 = .ok (.ireturn, 1) := by decide +kernel

set_option maxHeartbeats 4000000 in
set_option maxRecDepth 100000 in
theorem c_X0_arePair (l : Launch) (E : Ev) {A : Nat → Prop} (ad : Nat → Nat) (hA : Oka 39 ad A) (sc : Nat → Int32) (ar : Nat → Nat → Int32) (bl : Int64) (i : Nat) (j : Nat) (hi : i < 60) (hj : j < 60) : Ct l E yX0_arePair (.code yX0_arePair cX0_arePair 3 (some .boolean)) ({ frames := 1, cells := 0, slots := 0, locals := 21 }) A (cw E ad sc ar bl) [.ref (ad 5), .int (nI i), .int (nI j)] (some (.int (bI (prb (ar 16) (ar 17) i j)))) (cw E ad sc ar bl) := by
  refine Ct.of (lv := [(0, .ref (ad 5)), (1, .int (nI i)), (2, .int (nI j))]) (by decide +kernel) (Nat.le_of_ble_eq_true rfl) rfl ?_
  intro zp ze zs zm za zb zh zc hc
  refine g_aload_n (pc := 0) hc 0 dX0_arePair_0 rfl rfl ?_
  refine gf_c5_walks (pc := 1) hc tw_189 dX0_arePair_1 ?_
  refine g_iload_n (pc := 4) hc 1 dX0_arePair_4 rfl rfl ?_
  refine g_callVi (pc := 5) (rest := []) (As := [.int (nI i)]) hc (c_X10_rowOf l E ad hA sc ar bl i (by omega)) mi_X10_rowOf tw_529 3 rfl rfl rfl rfl ⟨rfl, rfl, by decide, by decide⟩ (Nat.le_of_ble_eq_true rfl) ⟨Nat.le_refl _, Nat.le_refl _⟩ rfl dX0_arePair_5 ?_
  refine g_aload_n (pc := 8) hc 0 dX0_arePair_8 rfl rfl ?_
  refine gf_c5_walks (pc := 9) hc tw_189 dX0_arePair_9 ?_
  refine g_iload_n (pc := 12) hc 2 dX0_arePair_12 rfl rfl ?_
  refine g_callVi (pc := 13) (rest := [.int ((ar 17) i)]) (As := [.int (nI j)]) hc (c_X10_rowOf l E ad hA sc ar bl j (by omega)) mi_X10_rowOf tw_529 3 rfl rfl rfl rfl ⟨rfl, rfl, by decide, by decide⟩ (Nat.le_of_ble_eq_true rfl) ⟨Nat.le_refl _, Nat.le_refl _⟩ rfl dX0_arePair_13 ?_
  refine g_icmp_ne (pc := 16) hc 42 dX0_arePair_16 (by decide) (fun c1 => ?_) (fun c1 => ?_)
  · refine g_iconst (pc := 42) (v := nI 0) hc dX0_arePair_42 (by decide) ?_
    exact g_zret (pc := 43) hc dX0_arePair_43 (by decide) (by unfold prb; repeat (first | rw [if_pos c1] | rw [if_neg c1] | rw [if_neg (ne_true_of_eq_false c1)]); try rfl) (rfl)
  · refine g_aload_n (pc := 19) hc 0 dX0_arePair_19 rfl rfl ?_
    refine gf_c5_walks (pc := 20) hc tw_189 dX0_arePair_20 ?_
    refine g_iload_n (pc := 23) hc 1 dX0_arePair_23 rfl rfl ?_
    refine g_callVi (pc := 24) (rest := []) (As := [.int (nI i)]) hc (c_X10_walkerOf l E ad hA sc ar bl i (by omega)) mi_X10_walkerOf tw_520 3 rfl rfl rfl rfl ⟨rfl, rfl, by decide, by decide⟩ (Nat.le_of_ble_eq_true rfl) ⟨Nat.le_refl _, Nat.le_refl _⟩ rfl dX0_arePair_24 ?_
    refine g_aload_n (pc := 27) hc 0 dX0_arePair_27 rfl rfl ?_
    refine gf_c5_walks (pc := 28) hc tw_189 dX0_arePair_28 ?_
    refine g_iload_n (pc := 31) hc 2 dX0_arePair_31 rfl rfl ?_
    refine g_callVi (pc := 32) (rest := [.int ((ar 16) i)]) (As := [.int (nI j)]) hc (c_X10_walkerOf l E ad hA sc ar bl j (by omega)) mi_X10_walkerOf tw_520 3 rfl rfl rfl rfl ⟨rfl, rfl, by decide, by decide⟩ (Nat.le_of_ble_eq_true rfl) ⟨Nat.le_refl _, Nat.le_refl _⟩ rfl dX0_arePair_32 ?_
    refine g_icmp_eq (pc := 35) hc 42 dX0_arePair_35 (by decide) (fun c2 => ?_) (fun c2 => ?_)
    · refine g_iconst (pc := 42) (v := nI 0) hc dX0_arePair_42 (by decide) ?_
      exact g_zret (pc := 43) hc dX0_arePair_43 (by decide) (by unfold prb; repeat (first | rw [if_pos c1] | rw [if_neg c1] | rw [if_neg (ne_true_of_eq_false c1)] | rw [if_pos c2] | rw [if_neg c2] | rw [if_neg (ne_true_of_eq_false c2)]); try rfl) (rfl)
    · refine g_iconst (pc := 38) (v := nI 1) hc dX0_arePair_38 (by decide) ?_
      refine g_goto (pc := 39) hc 43 dX0_arePair_39 (by decide) ?_
      exact g_zret (pc := 43) hc dX0_arePair_43 (by decide) (by unfold prb; repeat (first | rw [if_pos c1] | rw [if_neg c1] | rw [if_neg (ne_true_of_eq_false c1)] | rw [if_pos c2] | rw [if_neg c2] | rw [if_neg (ne_true_of_eq_false c2)]); try rfl) (rfl)

theorem dX0_walksBeside_0 : decode cX0_walksBeside 0 = .ok (.iconst 0, 1) := by decide +kernel
theorem dX0_walksBeside_1 : decode cX0_walksBeside 1 = .ok (.istore_n 3, 1) := by decide +kernel
theorem dX0_walksBeside_2 : decode cX0_walksBeside 2 = .ok (.iconst 0, 1) := by decide +kernel
theorem dX0_walksBeside_3 : decode cX0_walksBeside 3 = .ok (.istore 4, 2) := by decide +kernel
theorem dX0_walksBeside_5 : decode cX0_walksBeside 5 = .ok (.iload 4, 2) := by decide +kernel
theorem dX0_walksBeside_7 : decode cX0_walksBeside 7 = .ok (.aload_n 0, 1) := by decide +kernel
theorem dX0_walksBeside_8 : decode cX0_walksBeside 8 = .ok (.getfield 9, 3) := by decide +kernel
theorem dX0_walksBeside_11 : decode cX0_walksBeside 11 = .ok (.invokevirtual 19, 3) := by decide +kernel
theorem dX0_walksBeside_14 : decode cX0_walksBeside 14 = .ok (.if_icmp .ge 35, 3) := by decide +kernel
theorem dX0_walksBeside_17 : decode cX0_walksBeside 17 = .ok (.aload_n 0, 1) := by decide +kernel
theorem dX0_walksBeside_18 : decode cX0_walksBeside 18 = .ok (.getfield 9, 3) := by decide +kernel
theorem dX0_walksBeside_21 : decode cX0_walksBeside 21 = .ok (.iload 4, 2) := by decide +kernel
theorem dX0_walksBeside_23 : decode cX0_walksBeside 23 = .ok (.invokevirtual 25, 3) := by decide +kernel
theorem dX0_walksBeside_26 : decode cX0_walksBeside 26 = .ok (.iload_n 2, 1) := by decide +kernel
theorem dX0_walksBeside_27 : decode cX0_walksBeside 27 = .ok (.if_icmp .ne 16, 3) := by decide +kernel
theorem dX0_walksBeside_30 : decode cX0_walksBeside 30 = .ok (.aload_n 0, 1) := by decide +kernel
theorem dX0_walksBeside_31 : decode cX0_walksBeside 31 = .ok (.iload_n 1, 1) := by decide +kernel
theorem dX0_walksBeside_32 : decode cX0_walksBeside 32 = .ok (.iload 4, 2) := by decide +kernel
theorem dX0_walksBeside_34 : decode cX0_walksBeside 34 = .ok (.invokevirtual 36, 3) := by decide +kernel
theorem dX0_walksBeside_37 : decode cX0_walksBeside 37 = .ok (.ifCond .eq 6, 3) := by decide +kernel
theorem dX0_walksBeside_40 : decode cX0_walksBeside 40 = .ok (.iinc 3 1, 3) := by decide +kernel
theorem dX0_walksBeside_43 : decode cX0_walksBeside 43 = .ok (.iinc 4 1, 3) := by decide +kernel
theorem dX0_walksBeside_46 : decode cX0_walksBeside 46 = .ok (.goto (-41), 3) := by decide +kernel
theorem dX0_walksBeside_49 : decode cX0_walksBeside 49 = .ok (.iload_n 3, 1) := by decide +kernel
theorem dX0_walksBeside_50 : decode cX0_walksBeside 50 = .ok (.ireturn, 1) := by decide +kernel

set_option maxHeartbeats 4000000 in
set_option maxRecDepth 100000 in
theorem c_X0_walksBeside (l : Launch) (E : Ev) {A : Nat → Prop} (ad : Nat → Nat) (hA : Oka 39 ad A) (sc : Nat → Int32) (ar : Nat → Nat → Int32) (bl : Int64) {nW : Nat} (i : Nat) (v : Int32) (hW : sc 5 = nI nW) (hW60 : nW ≤ 60) (hi : i < 60) : Ct l E yX0_walksBeside (.code yX0_walksBeside cX0_walksBeside 5 (some .int)) ({ frames := 2, cells := 0, slots := 0, locals := 43 }) A (cw E ad sc ar bl) [.ref (ad 5), .int (nI i), .int v] (some (.int (wbs (ar 16) (ar 17) i v nW))) (cw E ad sc ar bl) := by
  refine Ct.of (lv := [(0, .ref (ad 5)), (1, .int (nI i)), (2, .int v)]) (by decide +kernel) (Nat.le_of_ble_eq_true rfl) rfl ?_
  intro zp ze zs zm za zb zh zc hc
  refine g_iconst (pc := 0) (v := nI 0) hc dX0_walksBeside_0 (by decide) ?_
  refine g_istore_n (pc := 1) (lv' := [(0, .ref (ad 5)), (1, .int (nI i)), (2, .int v), (3, .int (nI 0))]) hc dX0_walksBeside_1 rfl (by decide) rfl ?_
  refine g_iconst (pc := 2) (v := nI 0) hc dX0_walksBeside_2 (by decide) ?_
  refine g_istore (pc := 3) (lv' := [(0, .ref (ad 5)), (1, .int (nI i)), (2, .int v), (3, .int (nI 0)), (4, .int (nI 0))]) hc dX0_walksBeside_3 (by decide) rfl ?_
  have L5_1 : ∀ (kj j : Nat), j + kj = nW → G zp l ze ({ frames := 2, cells := 0, slots := 0, locals := 43 }) zs zm za zb zh zc 0 0 (MQ zb (Qz E A (some (.int (wbs (ar 16) (ar 17) i v nW))) (cw E ad sc ar bl)) za zs 0 0 A) E A 5 (cw E ad sc ar bl) (5) [(0, .ref (ad 5)), (1, .int (nI i)), (2, .int v), (3, .int (wbs (ar 16) (ar 17) i v (j))), (4, .int (nI (j)))] [] := by
    intro kj
    induction kj with
    | zero =>
      intro j lhj
      have lhjn : nW = j := by omega
      subst lhjn
      refine g_iload (pc := 5) hc 4 dX0_walksBeside_5 rfl ?_
      refine g_aload_n (pc := 7) hc 0 dX0_walksBeside_7 rfl rfl ?_
      refine gf_c5_walks (pc := 8) hc tw_189 dX0_walksBeside_8 ?_
      refine g_callVi (pc := 11) (rest := [.int (nI (nW))]) (As := []) hc (c_X10_number l E ad hA sc ar bl) mi_X10_number tw_516 3 rfl rfl rfl rfl ⟨rfl, rfl, by decide, by decide⟩ (Nat.le_of_ble_eq_true rfl) ⟨Nat.le_refl _, Nat.le_refl _⟩ rfl dX0_walksBeside_11 ?_
      refine g_topi (v := nI nW) (hW) ?_
      refine g_icmp_ge_t (pc := 14) hc 49 dX0_walksBeside_14 (by decide) (nI_le (by omega) (by omega)) ?_
      refine g_iload_n (pc := 49) hc 3 dX0_walksBeside_49 rfl rfl ?_
      exact g_iret (pc := 50) hc dX0_walksBeside_50 (rfl) (rfl)
    | succ kj ihj =>
      intro j lhj
      have lhjn : j < nW := by omega
      refine g_iload (pc := 5) hc 4 dX0_walksBeside_5 rfl ?_
      refine g_aload_n (pc := 7) hc 0 dX0_walksBeside_7 rfl rfl ?_
      refine gf_c5_walks (pc := 8) hc tw_189 dX0_walksBeside_8 ?_
      refine g_callVi (pc := 11) (rest := [.int (nI (j))]) (As := []) hc (c_X10_number l E ad hA sc ar bl) mi_X10_number tw_516 3 rfl rfl rfl rfl ⟨rfl, rfl, by decide, by decide⟩ (Nat.le_of_ble_eq_true rfl) ⟨Nat.le_refl _, Nat.le_refl _⟩ rfl dX0_walksBeside_11 ?_
      refine g_topi (v := nI nW) (hW) ?_
      refine g_icmp_ge_f (pc := 14) hc 49 dX0_walksBeside_14 (by decide) (nI_ge (by omega) (by omega)) ?_
      refine g_aload_n (pc := 17) hc 0 dX0_walksBeside_17 rfl rfl ?_
      refine gf_c5_walks (pc := 18) hc tw_189 dX0_walksBeside_18 ?_
      refine g_iload (pc := 21) hc 4 dX0_walksBeside_21 rfl ?_
      refine g_callVi (pc := 23) (rest := []) (As := [.int (nI (j))]) hc (c_X10_walkerOf l E ad hA sc ar bl j (by omega)) mi_X10_walkerOf tw_520 3 rfl rfl rfl rfl ⟨rfl, rfl, by decide, by decide⟩ (Nat.le_of_ble_eq_true rfl) ⟨Nat.le_refl _, Nat.le_refl _⟩ rfl dX0_walksBeside_23 ?_
      refine g_iload_n (pc := 26) hc 2 dX0_walksBeside_26 rfl rfl ?_
      refine g_icmp_ne (pc := 27) hc 43 dX0_walksBeside_27 (by decide) (fun c2 => ?_) (fun c2 => ?_)
      · refine g_iinc (pc := 43) (v := nI (j + 1)) (lv' := [(0, .ref (ad 5)), (1, .int (nI i)), (2, .int v), (3, .int (wbs (ar 16) (ar 17) i v (j))), (4, .int (nI (j + 1)))]) hc 4 dX0_walksBeside_43 rfl (nI_ofi j 1) (by decide) rfl ?_
        refine g_goto (pc := 46) hc 5 dX0_walksBeside_46 (by decide) ?_
        exact g_eq (ws' := cw E ad sc ar bl) (lv' := [(0, .ref (ad 5)), (1, .int (nI i)), (2, .int v), (3, .int (wbs (ar 16) (ar 17) i v (j + 1))), (4, .int (nI (j + 1)))]) (rfl) (by rw [wbs_succ]; repeat (first | rw [if_pos c2] | rw [if_neg c2] | rw [if_neg (ne_true_of_eq_false c2)])) rfl (ihj (j + 1) (by omega))
      · refine g_aload_n (pc := 30) hc 0 dX0_walksBeside_30 rfl rfl ?_
        refine g_iload_n (pc := 31) hc 1 dX0_walksBeside_31 rfl rfl ?_
        refine g_iload (pc := 32) hc 4 dX0_walksBeside_32 rfl ?_
        refine g_callVi (pc := 34) (rest := []) (As := [.int (nI i), .int (nI (j))]) hc (c_X0_arePair l E ad hA sc ar bl i j (by omega) (by omega)) mi_X0_arePair tw_525 5 rfl rfl rfl rfl ⟨rfl, rfl, by decide, by decide⟩ (Nat.le_of_ble_eq_true rfl) ⟨Nat.le_refl _, Nat.le_refl _⟩ rfl dX0_walksBeside_34 ?_
        refine g_if_eq_b (pc := 37) hc 43 dX0_walksBeside_37 (by decide) (fun c3 => ?_) (fun c3 => ?_)
        · refine g_iinc (pc := 43) (v := nI (j + 1)) (lv' := [(0, .ref (ad 5)), (1, .int (nI i)), (2, .int v), (3, .int (wbs (ar 16) (ar 17) i v (j))), (4, .int (nI (j + 1)))]) hc 4 dX0_walksBeside_43 rfl (nI_ofi j 1) (by decide) rfl ?_
          refine g_goto (pc := 46) hc 5 dX0_walksBeside_46 (by decide) ?_
          exact g_eq (ws' := cw E ad sc ar bl) (lv' := [(0, .ref (ad 5)), (1, .int (nI i)), (2, .int v), (3, .int (wbs (ar 16) (ar 17) i v (j + 1))), (4, .int (nI (j + 1)))]) (rfl) (by rw [wbs_succ]; repeat (first | rw [if_pos c2] | rw [if_neg c2] | rw [if_neg (ne_true_of_eq_false c2)] | rw [if_pos c3] | rw [if_neg c3] | rw [if_neg (ne_true_of_eq_false c3)])) rfl (ihj (j + 1) (by omega))
        · refine g_iinc (pc := 40) (v := (wbs (ar 16) (ar 17) i v (j)) + 1) (lv' := [(0, .ref (ad 5)), (1, .int (nI i)), (2, .int v), (3, .int ((wbs (ar 16) (ar 17) i v (j)) + 1)), (4, .int (nI (j)))]) hc 3 dX0_walksBeside_40 rfl (rfl) (by decide) rfl ?_
          refine g_iinc (pc := 43) (v := nI (j + 1)) (lv' := [(0, .ref (ad 5)), (1, .int (nI i)), (2, .int v), (3, .int ((wbs (ar 16) (ar 17) i v (j)) + 1)), (4, .int (nI (j + 1)))]) hc 4 dX0_walksBeside_43 rfl (nI_ofi j 1) (by decide) rfl ?_
          refine g_goto (pc := 46) hc 5 dX0_walksBeside_46 (by decide) ?_
          exact g_eq (ws' := cw E ad sc ar bl) (lv' := [(0, .ref (ad 5)), (1, .int (nI i)), (2, .int v), (3, .int (wbs (ar 16) (ar 17) i v (j + 1))), (4, .int (nI (j + 1)))]) (rfl) (by rw [wbs_succ]; repeat (first | rw [if_pos c2] | rw [if_neg c2] | rw [if_neg (ne_true_of_eq_false c2)] | rw [if_pos c3] | rw [if_neg c3] | rw [if_neg (ne_true_of_eq_false c3)])) rfl (ihj (j + 1) (by omega))
  exact g_eq (ws' := cw E ad sc ar bl) (lv' := [(0, .ref (ad 5)), (1, .int (nI i)), (2, .int v), (3, .int (wbs (ar 16) (ar 17) i v (0))), (4, .int (nI (0)))]) (rfl) (rfl) rfl (L5_1 (nW - 0) (0) (by omega))

theorem dX0_seenIn_0 : decode cX0_seenIn 0 = .ok (.iconst 0, 1) := by decide +kernel
theorem dX0_seenIn_1 : decode cX0_seenIn 1 = .ok (.istore_n 2, 1) := by decide +kernel
theorem dX0_seenIn_2 : decode cX0_seenIn 2 = .ok (.iconst 0, 1) := by decide +kernel
theorem dX0_seenIn_3 : decode cX0_seenIn 3 = .ok (.istore_n 3, 1) := by decide +kernel
theorem dX0_seenIn_4 : decode cX0_seenIn 4 = .ok (.iload_n 3, 1) := by decide +kernel
theorem dX0_seenIn_5 : decode cX0_seenIn 5 = .ok (.iconst 4, 1) := by decide +kernel
theorem dX0_seenIn_6 : decode cX0_seenIn 6 = .ok (.if_icmp .ge 32, 3) := by decide +kernel
theorem dX0_seenIn_9 : decode cX0_seenIn 9 = .ok (.aload_n 0, 1) := by decide +kernel
theorem dX0_seenIn_10 : decode cX0_seenIn 10 = .ok (.getfield 15, 3) := by decide +kernel
theorem dX0_seenIn_13 : decode cX0_seenIn 13 = .ok (.iload_n 3, 1) := by decide +kernel
theorem dX0_seenIn_14 : decode cX0_seenIn 14 = .ok (.invokevirtual 52, 3) := by decide +kernel
theorem dX0_seenIn_17 : decode cX0_seenIn 17 = .ok (.ifCond .ne 15, 3) := by decide +kernel
theorem dX0_seenIn_20 : decode cX0_seenIn 20 = .ok (.iload_n 2, 1) := by decide +kernel
theorem dX0_seenIn_21 : decode cX0_seenIn 21 = .ok (.aload_n 0, 1) := by decide +kernel
theorem dX0_seenIn_22 : decode cX0_seenIn 22 = .ok (.getfield 9, 3) := by decide +kernel
theorem dX0_seenIn_25 : decode cX0_seenIn 25 = .ok (.iload_n 1, 1) := by decide +kernel
theorem dX0_seenIn_26 : decode cX0_seenIn 26 = .ok (.iload_n 3, 1) := by decide +kernel
theorem dX0_seenIn_27 : decode cX0_seenIn 27 = .ok (.invokevirtual 63, 3) := by decide +kernel
theorem dX0_seenIn_30 : decode cX0_seenIn 30 = .ok (.iadd, 1) := by decide +kernel
theorem dX0_seenIn_31 : decode cX0_seenIn 31 = .ok (.istore_n 2, 1) := by decide +kernel
theorem dX0_seenIn_32 : decode cX0_seenIn 32 = .ok (.iinc 3 1, 3) := by decide +kernel
theorem dX0_seenIn_35 : decode cX0_seenIn 35 = .ok (.goto (-31), 3) := by decide +kernel
theorem dX0_seenIn_38 : decode cX0_seenIn 38 = .ok (.iload_n 2, 1) := by decide +kernel
theorem dX0_seenIn_39 : decode cX0_seenIn 39 = .ok (.ireturn, 1) := by decide +kernel

set_option maxHeartbeats 4000000 in
set_option maxRecDepth 100000 in
theorem c_X0_seenIn (l : Launch) (E : Ev) {A : Nat → Prop} (ad : Nat → Nat) (hA : Oka 39 ad A) (sc : Nat → Int32) (ar : Nat → Nat → Int32) (bl : Int64) {nW : Nat} (i : Nat) (hW : sc 5 = nI nW) (hW60 : nW ≤ 60) (hi : i < nW) : Ct l E yX0_seenIn (.code yX0_seenIn cX0_seenIn 4 (some .int)) ({ frames := 2, cells := 0, slots := 0, locals := 43 }) A (cw E ad sc ar bl) [.ref (ad 5), .int (nI i)] (some (.int (cseen (ar 15) (ar 19) i))) (cw E ad sc ar bl) := by
  refine Ct.of (lv := [(0, .ref (ad 5)), (1, .int (nI i))]) (by decide +kernel) (Nat.le_of_ble_eq_true rfl) rfl ?_
  intro zp ze zs zm za zb zh zc hc
  refine g_iconst (pc := 0) (v := nI 0) hc dX0_seenIn_0 (by decide) ?_
  refine g_istore_n (pc := 1) (lv' := [(0, .ref (ad 5)), (1, .int (nI i)), (2, .int (nI 0))]) hc dX0_seenIn_1 rfl (by decide) rfl ?_
  refine g_iconst (pc := 2) (v := nI 0) hc dX0_seenIn_2 (by decide) ?_
  refine g_istore_n (pc := 3) (lv' := [(0, .ref (ad 5)), (1, .int (nI i)), (2, .int (nI 0)), (3, .int (nI 0))]) hc dX0_seenIn_3 rfl (by decide) rfl ?_
  have L4_1 : ∀ (kj j : Nat), j + kj = 4 → G zp l ze ({ frames := 2, cells := 0, slots := 0, locals := 43 }) zs zm za zb zh zc 0 0 (MQ zb (Qz E A (some (.int (cseen (ar 15) (ar 19) i))) (cw E ad sc ar bl)) za zs 0 0 A) E A 4 (cw E ad sc ar bl) (4) [(0, .ref (ad 5)), (1, .int (nI i)), (2, .int (csn (ar 15) (ar 19) i (j))), (3, .int (nI (j)))] [] := by
    intro kj
    induction kj with
    | zero =>
      intro j lhj
      have lhjn : 4 = j := by omega
      subst lhjn
      refine g_iload_n (pc := 4) hc 3 dX0_seenIn_4 rfl rfl ?_
      refine g_iconst (pc := 5) (v := nI 4) hc dX0_seenIn_5 (by decide) ?_
      refine g_icmp_ge_t (pc := 6) hc 38 dX0_seenIn_6 (by decide) (nI_le (by omega) (by omega)) ?_
      refine g_iload_n (pc := 38) hc 2 dX0_seenIn_38 rfl rfl ?_
      exact g_iret (pc := 39) hc dX0_seenIn_39 (rfl) (rfl)
    | succ kj ihj =>
      intro j lhj
      have lhjn : j < 4 := by omega
      refine g_iload_n (pc := 4) hc 3 dX0_seenIn_4 rfl rfl ?_
      refine g_iconst (pc := 5) (v := nI 4) hc dX0_seenIn_5 (by decide) ?_
      refine g_icmp_ge_f (pc := 6) hc 38 dX0_seenIn_6 (by decide) (nI_ge (by omega) (by omega)) ?_
      refine g_aload_n (pc := 9) hc 0 dX0_seenIn_9 rfl rfl ?_
      refine gf_c5_sorts (pc := 10) hc tw_190 dX0_seenIn_10 ?_
      refine g_iload_n (pc := 13) hc 3 dX0_seenIn_13 rfl rfl ?_
      refine g_callVi (pc := 14) (rest := []) (As := [.int (nI (j))]) hc (c_X8_isCoarse l E ad hA sc ar bl j (by omega)) mi_X8_isCoarse tw_538 2 rfl rfl rfl rfl ⟨rfl, rfl, by decide, by decide⟩ (Nat.le_of_ble_eq_true rfl) ⟨Nat.le_refl _, Nat.le_refl _⟩ rfl dX0_seenIn_14 ?_
      refine g_if_ne_b (pc := 17) hc 32 dX0_seenIn_17 (by decide) (fun c2 => ?_) (fun c2 => ?_)
      · refine g_iinc (pc := 32) (v := nI (j + 1)) (lv' := [(0, .ref (ad 5)), (1, .int (nI i)), (2, .int (csn (ar 15) (ar 19) i (j))), (3, .int (nI (j + 1)))]) hc 3 dX0_seenIn_32 rfl (nI_ofi j 1) (by decide) rfl ?_
        refine g_goto (pc := 35) hc 4 dX0_seenIn_35 (by decide) ?_
        exact g_eq (ws' := cw E ad sc ar bl) (lv' := [(0, .ref (ad 5)), (1, .int (nI i)), (2, .int (csn (ar 15) (ar 19) i (j + 1))), (3, .int (nI (j + 1)))]) (rfl) (by rw [csn_succ]; repeat (first | rw [if_pos c2] | rw [if_neg c2] | rw [if_neg (ne_true_of_eq_false c2)])) rfl (ihj (j + 1) (by omega))
      · refine g_iload_n (pc := 20) hc 2 dX0_seenIn_20 rfl rfl ?_
        refine g_aload_n (pc := 21) hc 0 dX0_seenIn_21 rfl rfl ?_
        refine gf_c5_walks (pc := 22) hc tw_189 dX0_seenIn_22 ?_
        refine g_iload_n (pc := 25) hc 1 dX0_seenIn_25 rfl rfl ?_
        refine g_iload_n (pc := 26) hc 3 dX0_seenIn_26 rfl rfl ?_
        refine g_callVi (pc := 27) (rest := [.int (csn (ar 15) (ar 19) i (j))]) (As := [.int (nI i), .int (nI (j))]) hc (c_X10_sumOf l E ad hA sc ar bl (nI i) j (hW) (hW60) (by omega)) mi_X10_sumOf tw_542 3 rfl rfl rfl rfl ⟨rfl, rfl, by decide, by decide⟩ (Nat.le_of_ble_eq_true rfl) ⟨Nat.le_refl _, Nat.le_refl _⟩ rfl dX0_seenIn_27 ?_
        refine g_topi (v := ar 19 (i * 4 + j)) (smo_nI hW hW60 hi) ?_
        refine g_iadd (pc := 30) hc dX0_seenIn_30 ?_
        refine g_istore_n (pc := 31) (lv' := [(0, .ref (ad 5)), (1, .int (nI i)), (2, .int ((csn (ar 15) (ar 19) i (j)) + (ar 19 (i * 4 + j)))), (3, .int (nI (j)))]) hc dX0_seenIn_31 rfl (by decide) rfl ?_
        refine g_iinc (pc := 32) (v := nI (j + 1)) (lv' := [(0, .ref (ad 5)), (1, .int (nI i)), (2, .int ((csn (ar 15) (ar 19) i (j)) + (ar 19 (i * 4 + j)))), (3, .int (nI (j + 1)))]) hc 3 dX0_seenIn_32 rfl (nI_ofi j 1) (by decide) rfl ?_
        refine g_goto (pc := 35) hc 4 dX0_seenIn_35 (by decide) ?_
        exact g_eq (ws' := cw E ad sc ar bl) (lv' := [(0, .ref (ad 5)), (1, .int (nI i)), (2, .int (csn (ar 15) (ar 19) i (j + 1))), (3, .int (nI (j + 1)))]) (rfl) (by rw [csn_succ]; repeat (first | rw [if_pos c2] | rw [if_neg c2] | rw [if_neg (ne_true_of_eq_false c2)])) rfl (ihj (j + 1) (by omega))
  exact g_eq (ws' := cw E ad sc ar bl) (lv' := [(0, .ref (ad 5)), (1, .int (nI i)), (2, .int (csn (ar 15) (ar 19) i (0))), (3, .int (nI (0)))]) (rfl) (rfl) rfl (L4_1 (4 - 0) (0) (by omega))

theorem dX0_pairs_0 : decode cX0_pairs 0 = .ok (.iconst 0, 1) := by decide +kernel
theorem dX0_pairs_1 : decode cX0_pairs 1 = .ok (.istore_n 3, 1) := by decide +kernel
theorem dX0_pairs_2 : decode cX0_pairs 2 = .ok (.iconst 0, 1) := by decide +kernel
theorem dX0_pairs_3 : decode cX0_pairs 3 = .ok (.istore 4, 2) := by decide +kernel
theorem dX0_pairs_5 : decode cX0_pairs 5 = .ok (.iload 4, 2) := by decide +kernel
theorem dX0_pairs_7 : decode cX0_pairs 7 = .ok (.aload_n 0, 1) := by decide +kernel
theorem dX0_pairs_8 : decode cX0_pairs 8 = .ok (.getfield 9, 3) := by decide +kernel
theorem dX0_pairs_11 : decode cX0_pairs 11 = .ok (.invokevirtual 19, 3) := by decide +kernel
theorem dX0_pairs_14 : decode cX0_pairs 14 = .ok (.if_icmp .ge 32, 3) := by decide +kernel
theorem dX0_pairs_17 : decode cX0_pairs 17 = .ok (.aload_n 0, 1) := by decide +kernel
theorem dX0_pairs_18 : decode cX0_pairs 18 = .ok (.getfield 9, 3) := by decide +kernel
theorem dX0_pairs_21 : decode cX0_pairs 21 = .ok (.iload 4, 2) := by decide +kernel
theorem dX0_pairs_23 : decode cX0_pairs 23 = .ok (.invokevirtual 25, 3) := by decide +kernel
theorem dX0_pairs_26 : decode cX0_pairs 26 = .ok (.iload_n 1, 1) := by decide +kernel
theorem dX0_pairs_27 : decode cX0_pairs 27 = .ok (.if_icmp .ne 13, 3) := by decide +kernel
theorem dX0_pairs_30 : decode cX0_pairs 30 = .ok (.iload_n 3, 1) := by decide +kernel
theorem dX0_pairs_31 : decode cX0_pairs 31 = .ok (.aload_n 0, 1) := by decide +kernel
theorem dX0_pairs_32 : decode cX0_pairs 32 = .ok (.iload 4, 2) := by decide +kernel
theorem dX0_pairs_34 : decode cX0_pairs 34 = .ok (.iload_n 2, 1) := by decide +kernel
theorem dX0_pairs_35 : decode cX0_pairs 35 = .ok (.invokevirtual 29, 3) := by decide +kernel
theorem dX0_pairs_38 : decode cX0_pairs 38 = .ok (.iadd, 1) := by decide +kernel
theorem dX0_pairs_39 : decode cX0_pairs 39 = .ok (.istore_n 3, 1) := by decide +kernel
theorem dX0_pairs_40 : decode cX0_pairs 40 = .ok (.iinc 4 1, 3) := by decide +kernel
theorem dX0_pairs_43 : decode cX0_pairs 43 = .ok (.goto (-38), 3) := by decide +kernel
theorem dX0_pairs_46 : decode cX0_pairs 46 = .ok (.iload_n 3, 1) := by decide +kernel
theorem dX0_pairs_47 : decode cX0_pairs 47 = .ok (.ireturn, 1) := by decide +kernel

set_option maxHeartbeats 4000000 in
set_option maxRecDepth 100000 in
theorem c_X0_pairs (l : Launch) (E : Ev) {A : Nat → Prop} (ad : Nat → Nat) (hA : Oka 39 ad A) (sc : Nat → Int32) (ar : Nat → Nat → Int32) (bl : Int64) {nW : Nat} (v : Int32) (u : Int32) (hW : sc 5 = nI nW) (hW60 : nW ≤ 60) : Ct l E yX0_pairs (.code yX0_pairs cX0_pairs 5 (some .int)) ({ frames := 3, cells := 0, slots := 0, locals := 67 }) A (cw E ad sc ar bl) [.ref (ad 5), .int v, .int u] (some (.int (prs (ar 16) (ar 17) v u nW nW))) (cw E ad sc ar bl) := by
  refine Ct.of (lv := [(0, .ref (ad 5)), (1, .int v), (2, .int u)]) (by decide +kernel) (Nat.le_of_ble_eq_true rfl) rfl ?_
  intro zp ze zs zm za zb zh zc hc
  refine g_iconst (pc := 0) (v := nI 0) hc dX0_pairs_0 (by decide) ?_
  refine g_istore_n (pc := 1) (lv' := [(0, .ref (ad 5)), (1, .int v), (2, .int u), (3, .int (nI 0))]) hc dX0_pairs_1 rfl (by decide) rfl ?_
  refine g_iconst (pc := 2) (v := nI 0) hc dX0_pairs_2 (by decide) ?_
  refine g_istore (pc := 3) (lv' := [(0, .ref (ad 5)), (1, .int v), (2, .int u), (3, .int (nI 0)), (4, .int (nI 0))]) hc dX0_pairs_3 (by decide) rfl ?_
  have L5_1 : ∀ (ki i : Nat), i + ki = nW → G zp l ze ({ frames := 3, cells := 0, slots := 0, locals := 67 }) zs zm za zb zh zc 0 0 (MQ zb (Qz E A (some (.int (prs (ar 16) (ar 17) v u nW nW))) (cw E ad sc ar bl)) za zs 0 0 A) E A 5 (cw E ad sc ar bl) (5) [(0, .ref (ad 5)), (1, .int v), (2, .int u), (3, .int (prs (ar 16) (ar 17) v u nW (i))), (4, .int (nI (i)))] [] := by
    intro ki
    induction ki with
    | zero =>
      intro i lhi
      have lhin : nW = i := by omega
      subst lhin
      refine g_iload (pc := 5) hc 4 dX0_pairs_5 rfl ?_
      refine g_aload_n (pc := 7) hc 0 dX0_pairs_7 rfl rfl ?_
      refine gf_c5_walks (pc := 8) hc tw_189 dX0_pairs_8 ?_
      refine g_callVi (pc := 11) (rest := [.int (nI (nW))]) (As := []) hc (c_X10_number l E ad hA sc ar bl) mi_X10_number tw_516 3 rfl rfl rfl rfl ⟨rfl, rfl, by decide, by decide⟩ (Nat.le_of_ble_eq_true rfl) ⟨Nat.le_refl _, Nat.le_refl _⟩ rfl dX0_pairs_11 ?_
      refine g_topi (v := nI nW) (hW) ?_
      refine g_icmp_ge_t (pc := 14) hc 46 dX0_pairs_14 (by decide) (nI_le (by omega) (by omega)) ?_
      refine g_iload_n (pc := 46) hc 3 dX0_pairs_46 rfl rfl ?_
      exact g_iret (pc := 47) hc dX0_pairs_47 (rfl) (rfl)
    | succ ki ihi =>
      intro i lhi
      have lhin : i < nW := by omega
      refine g_iload (pc := 5) hc 4 dX0_pairs_5 rfl ?_
      refine g_aload_n (pc := 7) hc 0 dX0_pairs_7 rfl rfl ?_
      refine gf_c5_walks (pc := 8) hc tw_189 dX0_pairs_8 ?_
      refine g_callVi (pc := 11) (rest := [.int (nI (i))]) (As := []) hc (c_X10_number l E ad hA sc ar bl) mi_X10_number tw_516 3 rfl rfl rfl rfl ⟨rfl, rfl, by decide, by decide⟩ (Nat.le_of_ble_eq_true rfl) ⟨Nat.le_refl _, Nat.le_refl _⟩ rfl dX0_pairs_11 ?_
      refine g_topi (v := nI nW) (hW) ?_
      refine g_icmp_ge_f (pc := 14) hc 46 dX0_pairs_14 (by decide) (nI_ge (by omega) (by omega)) ?_
      refine g_aload_n (pc := 17) hc 0 dX0_pairs_17 rfl rfl ?_
      refine gf_c5_walks (pc := 18) hc tw_189 dX0_pairs_18 ?_
      refine g_iload (pc := 21) hc 4 dX0_pairs_21 rfl ?_
      refine g_callVi (pc := 23) (rest := []) (As := [.int (nI (i))]) hc (c_X10_walkerOf l E ad hA sc ar bl i (by omega)) mi_X10_walkerOf tw_520 3 rfl rfl rfl rfl ⟨rfl, rfl, by decide, by decide⟩ (Nat.le_of_ble_eq_true rfl) ⟨Nat.le_refl _, Nat.le_refl _⟩ rfl dX0_pairs_23 ?_
      refine g_iload_n (pc := 26) hc 1 dX0_pairs_26 rfl rfl ?_
      refine g_icmp_ne (pc := 27) hc 40 dX0_pairs_27 (by decide) (fun c2 => ?_) (fun c2 => ?_)
      · refine g_iinc (pc := 40) (v := nI (i + 1)) (lv' := [(0, .ref (ad 5)), (1, .int v), (2, .int u), (3, .int (prs (ar 16) (ar 17) v u nW (i))), (4, .int (nI (i + 1)))]) hc 4 dX0_pairs_40 rfl (nI_ofi i 1) (by decide) rfl ?_
        refine g_goto (pc := 43) hc 5 dX0_pairs_43 (by decide) ?_
        exact g_eq (ws' := cw E ad sc ar bl) (lv' := [(0, .ref (ad 5)), (1, .int v), (2, .int u), (3, .int (prs (ar 16) (ar 17) v u nW (i + 1))), (4, .int (nI (i + 1)))]) (rfl) (by rw [prs_succ]; repeat (first | rw [if_pos c2] | rw [if_neg c2] | rw [if_neg (ne_true_of_eq_false c2)])) rfl (ihi (i + 1) (by omega))
      · refine g_iload_n (pc := 30) hc 3 dX0_pairs_30 rfl rfl ?_
        refine g_aload_n (pc := 31) hc 0 dX0_pairs_31 rfl rfl ?_
        refine g_iload (pc := 32) hc 4 dX0_pairs_32 rfl ?_
        refine g_iload_n (pc := 34) hc 2 dX0_pairs_34 rfl rfl ?_
        refine g_callVi (pc := 35) (rest := [.int (prs (ar 16) (ar 17) v u nW (i))]) (As := [.int (nI (i)), .int u]) hc (c_X0_walksBeside l E ad hA sc ar bl i u (hW) (hW60) (by omega)) mi_X0_walksBeside tw_521 5 rfl rfl rfl rfl ⟨rfl, rfl, by decide, by decide⟩ (Nat.le_of_ble_eq_true rfl) ⟨Nat.le_refl _, Nat.le_refl _⟩ rfl dX0_pairs_35 ?_
        refine g_iadd (pc := 38) hc dX0_pairs_38 ?_
        refine g_istore_n (pc := 39) (lv' := [(0, .ref (ad 5)), (1, .int v), (2, .int u), (3, .int ((prs (ar 16) (ar 17) v u nW (i)) + (wbs (ar 16) (ar 17) i u nW))), (4, .int (nI (i)))]) hc dX0_pairs_39 rfl (by decide) rfl ?_
        refine g_iinc (pc := 40) (v := nI (i + 1)) (lv' := [(0, .ref (ad 5)), (1, .int v), (2, .int u), (3, .int ((prs (ar 16) (ar 17) v u nW (i)) + (wbs (ar 16) (ar 17) i u nW))), (4, .int (nI (i + 1)))]) hc 4 dX0_pairs_40 rfl (nI_ofi i 1) (by decide) rfl ?_
        refine g_goto (pc := 43) hc 5 dX0_pairs_43 (by decide) ?_
        exact g_eq (ws' := cw E ad sc ar bl) (lv' := [(0, .ref (ad 5)), (1, .int v), (2, .int u), (3, .int (prs (ar 16) (ar 17) v u nW (i + 1))), (4, .int (nI (i + 1)))]) (rfl) (by rw [prs_succ]; repeat (first | rw [if_pos c2] | rw [if_neg c2] | rw [if_neg (ne_true_of_eq_false c2)])) rfl (ihi (i + 1) (by omega))
  exact g_eq (ws' := cw E ad sc ar bl) (lv' := [(0, .ref (ad 5)), (1, .int v), (2, .int u), (3, .int (prs (ar 16) (ar 17) v u nW (0))), (4, .int (nI (0)))]) (rfl) (rfl) rfl (L5_1 (nW - 0) (0) (by omega))

theorem dX0_seenBeside_0 : decode cX0_seenBeside 0 = .ok (.iconst 0, 1) := by decide +kernel
theorem dX0_seenBeside_1 : decode cX0_seenBeside 1 = .ok (.istore_n 3, 1) := by decide +kernel
theorem dX0_seenBeside_2 : decode cX0_seenBeside 2 = .ok (.iconst 0, 1) := by decide +kernel
theorem dX0_seenBeside_3 : decode cX0_seenBeside 3 = .ok (.istore 4, 2) := by decide +kernel
theorem dX0_seenBeside_5 : decode cX0_seenBeside 5 = .ok (.iload 4, 2) := by decide +kernel
theorem dX0_seenBeside_7 : decode cX0_seenBeside 7 = .ok (.aload_n 0, 1) := by decide +kernel
theorem dX0_seenBeside_8 : decode cX0_seenBeside 8 = .ok (.getfield 9, 3) := by decide +kernel
theorem dX0_seenBeside_11 : decode cX0_seenBeside 11 = .ok (.invokevirtual 19, 3) := by decide +kernel
theorem dX0_seenBeside_14 : decode cX0_seenBeside 14 = .ok (.if_icmp .ge 39, 3) := by decide +kernel
theorem dX0_seenBeside_17 : decode cX0_seenBeside 17 = .ok (.aload_n 0, 1) := by decide +kernel
theorem dX0_seenBeside_18 : decode cX0_seenBeside 18 = .ok (.getfield 9, 3) := by decide +kernel
theorem dX0_seenBeside_21 : decode cX0_seenBeside 21 = .ok (.iload 4, 2) := by decide +kernel
theorem dX0_seenBeside_23 : decode cX0_seenBeside 23 = .ok (.invokevirtual 25, 3) := by decide +kernel
theorem dX0_seenBeside_26 : decode cX0_seenBeside 26 = .ok (.iload_n 1, 1) := by decide +kernel
theorem dX0_seenBeside_27 : decode cX0_seenBeside 27 = .ok (.if_icmp .ne 20, 3) := by decide +kernel
theorem dX0_seenBeside_30 : decode cX0_seenBeside 30 = .ok (.iload_n 3, 1) := by decide +kernel
theorem dX0_seenBeside_31 : decode cX0_seenBeside 31 = .ok (.aload_n 0, 1) := by decide +kernel
theorem dX0_seenBeside_32 : decode cX0_seenBeside 32 = .ok (.iload 4, 2) := by decide +kernel
theorem dX0_seenBeside_34 : decode cX0_seenBeside 34 = .ok (.invokevirtual 33, 3) := by decide +kernel
theorem dX0_seenBeside_37 : decode cX0_seenBeside 37 = .ok (.aload_n 0, 1) := by decide +kernel
theorem dX0_seenBeside_38 : decode cX0_seenBeside 38 = .ok (.iload 4, 2) := by decide +kernel
theorem dX0_seenBeside_40 : decode cX0_seenBeside 40 = .ok (.iload_n 2, 1) := by decide +kernel
theorem dX0_seenBeside_41 : decode cX0_seenBeside 41 = .ok (.invokevirtual 29, 3) := by decide +kernel
theorem dX0_seenBeside_44 : decode cX0_seenBeside 44 = .ok (.imul, 1) := by decide +kernel
theorem dX0_seenBeside_45 : decode cX0_seenBeside 45 = .ok (.iadd, 1) := by decide +kernel
theorem dX0_seenBeside_46 : decode cX0_seenBeside 46 = .ok (.istore_n 3, 1) := by decide +kernel
theorem dX0_seenBeside_47 : decode cX0_seenBeside 47 = .ok (.iinc 4 1, 3) := by decide +kernel
theorem dX0_seenBeside_50 : decode cX0_seenBeside 50 = .ok (.goto (-45), 3) := by decide +kernel
theorem dX0_seenBeside_53 : decode cX0_seenBeside 53 = .ok (.iload_n 3, 1) := by decide +kernel
theorem dX0_seenBeside_54 : decode cX0_seenBeside 54 = .ok (.ireturn, 1) := by decide +kernel

set_option maxHeartbeats 4000000 in
set_option maxRecDepth 100000 in
theorem c_X0_seenBeside (l : Launch) (E : Ev) {A : Nat → Prop} (ad : Nat → Nat) (hA : Oka 39 ad A) (sc : Nat → Int32) (ar : Nat → Nat → Int32) (bl : Int64) {nW : Nat} (v : Int32) (u : Int32) (hW : sc 5 = nI nW) (hW60 : nW ≤ 60) : Ct l E yX0_seenBeside (.code yX0_seenBeside cX0_seenBeside 5 (some .int)) ({ frames := 3, cells := 0, slots := 0, locals := 67 }) A (cw E ad sc ar bl) [.ref (ad 5), .int v, .int u] (some (.int (sbs (ar 15) (ar 16) (ar 17) (ar 19) v u nW nW))) (cw E ad sc ar bl) := by
  refine Ct.of (lv := [(0, .ref (ad 5)), (1, .int v), (2, .int u)]) (by decide +kernel) (Nat.le_of_ble_eq_true rfl) rfl ?_
  intro zp ze zs zm za zb zh zc hc
  refine g_iconst (pc := 0) (v := nI 0) hc dX0_seenBeside_0 (by decide) ?_
  refine g_istore_n (pc := 1) (lv' := [(0, .ref (ad 5)), (1, .int v), (2, .int u), (3, .int (nI 0))]) hc dX0_seenBeside_1 rfl (by decide) rfl ?_
  refine g_iconst (pc := 2) (v := nI 0) hc dX0_seenBeside_2 (by decide) ?_
  refine g_istore (pc := 3) (lv' := [(0, .ref (ad 5)), (1, .int v), (2, .int u), (3, .int (nI 0)), (4, .int (nI 0))]) hc dX0_seenBeside_3 (by decide) rfl ?_
  have L5_1 : ∀ (ki i : Nat), i + ki = nW → G zp l ze ({ frames := 3, cells := 0, slots := 0, locals := 67 }) zs zm za zb zh zc 0 0 (MQ zb (Qz E A (some (.int (sbs (ar 15) (ar 16) (ar 17) (ar 19) v u nW nW))) (cw E ad sc ar bl)) za zs 0 0 A) E A 5 (cw E ad sc ar bl) (5) [(0, .ref (ad 5)), (1, .int v), (2, .int u), (3, .int (sbs (ar 15) (ar 16) (ar 17) (ar 19) v u nW (i))), (4, .int (nI (i)))] [] := by
    intro ki
    induction ki with
    | zero =>
      intro i lhi
      have lhin : nW = i := by omega
      subst lhin
      refine g_iload (pc := 5) hc 4 dX0_seenBeside_5 rfl ?_
      refine g_aload_n (pc := 7) hc 0 dX0_seenBeside_7 rfl rfl ?_
      refine gf_c5_walks (pc := 8) hc tw_189 dX0_seenBeside_8 ?_
      refine g_callVi (pc := 11) (rest := [.int (nI (nW))]) (As := []) hc (c_X10_number l E ad hA sc ar bl) mi_X10_number tw_516 3 rfl rfl rfl rfl ⟨rfl, rfl, by decide, by decide⟩ (Nat.le_of_ble_eq_true rfl) ⟨Nat.le_refl _, Nat.le_refl _⟩ rfl dX0_seenBeside_11 ?_
      refine g_topi (v := nI nW) (hW) ?_
      refine g_icmp_ge_t (pc := 14) hc 53 dX0_seenBeside_14 (by decide) (nI_le (by omega) (by omega)) ?_
      refine g_iload_n (pc := 53) hc 3 dX0_seenBeside_53 rfl rfl ?_
      exact g_iret (pc := 54) hc dX0_seenBeside_54 (rfl) (rfl)
    | succ ki ihi =>
      intro i lhi
      have lhin : i < nW := by omega
      refine g_iload (pc := 5) hc 4 dX0_seenBeside_5 rfl ?_
      refine g_aload_n (pc := 7) hc 0 dX0_seenBeside_7 rfl rfl ?_
      refine gf_c5_walks (pc := 8) hc tw_189 dX0_seenBeside_8 ?_
      refine g_callVi (pc := 11) (rest := [.int (nI (i))]) (As := []) hc (c_X10_number l E ad hA sc ar bl) mi_X10_number tw_516 3 rfl rfl rfl rfl ⟨rfl, rfl, by decide, by decide⟩ (Nat.le_of_ble_eq_true rfl) ⟨Nat.le_refl _, Nat.le_refl _⟩ rfl dX0_seenBeside_11 ?_
      refine g_topi (v := nI nW) (hW) ?_
      refine g_icmp_ge_f (pc := 14) hc 53 dX0_seenBeside_14 (by decide) (nI_ge (by omega) (by omega)) ?_
      refine g_aload_n (pc := 17) hc 0 dX0_seenBeside_17 rfl rfl ?_
      refine gf_c5_walks (pc := 18) hc tw_189 dX0_seenBeside_18 ?_
      refine g_iload (pc := 21) hc 4 dX0_seenBeside_21 rfl ?_
      refine g_callVi (pc := 23) (rest := []) (As := [.int (nI (i))]) hc (c_X10_walkerOf l E ad hA sc ar bl i (by omega)) mi_X10_walkerOf tw_520 3 rfl rfl rfl rfl ⟨rfl, rfl, by decide, by decide⟩ (Nat.le_of_ble_eq_true rfl) ⟨Nat.le_refl _, Nat.le_refl _⟩ rfl dX0_seenBeside_23 ?_
      refine g_iload_n (pc := 26) hc 1 dX0_seenBeside_26 rfl rfl ?_
      refine g_icmp_ne (pc := 27) hc 47 dX0_seenBeside_27 (by decide) (fun c2 => ?_) (fun c2 => ?_)
      · refine g_iinc (pc := 47) (v := nI (i + 1)) (lv' := [(0, .ref (ad 5)), (1, .int v), (2, .int u), (3, .int (sbs (ar 15) (ar 16) (ar 17) (ar 19) v u nW (i))), (4, .int (nI (i + 1)))]) hc 4 dX0_seenBeside_47 rfl (nI_ofi i 1) (by decide) rfl ?_
        refine g_goto (pc := 50) hc 5 dX0_seenBeside_50 (by decide) ?_
        exact g_eq (ws' := cw E ad sc ar bl) (lv' := [(0, .ref (ad 5)), (1, .int v), (2, .int u), (3, .int (sbs (ar 15) (ar 16) (ar 17) (ar 19) v u nW (i + 1))), (4, .int (nI (i + 1)))]) (rfl) (by rw [sbs_succ]; repeat (first | rw [if_pos c2] | rw [if_neg c2] | rw [if_neg (ne_true_of_eq_false c2)])) rfl (ihi (i + 1) (by omega))
      · refine g_iload_n (pc := 30) hc 3 dX0_seenBeside_30 rfl rfl ?_
        refine g_aload_n (pc := 31) hc 0 dX0_seenBeside_31 rfl rfl ?_
        refine g_iload (pc := 32) hc 4 dX0_seenBeside_32 rfl ?_
        refine g_callVi (pc := 34) (rest := [.int (sbs (ar 15) (ar 16) (ar 17) (ar 19) v u nW (i))]) (As := [.int (nI (i))]) hc (c_X0_seenIn l E ad hA sc ar bl i (hW) (hW60) (by omega)) mi_X0_seenIn tw_534 5 rfl rfl rfl rfl ⟨rfl, rfl, by decide, by decide⟩ (Nat.le_of_ble_eq_true rfl) ⟨Nat.le_refl _, Nat.le_refl _⟩ rfl dX0_seenBeside_34 ?_
        refine g_aload_n (pc := 37) hc 0 dX0_seenBeside_37 rfl rfl ?_
        refine g_iload (pc := 38) hc 4 dX0_seenBeside_38 rfl ?_
        refine g_iload_n (pc := 40) hc 2 dX0_seenBeside_40 rfl rfl ?_
        refine g_callVi (pc := 41) (rest := [.int (cseen (ar 15) (ar 19) i), .int (sbs (ar 15) (ar 16) (ar 17) (ar 19) v u nW (i))]) (As := [.int (nI (i)), .int u]) hc (c_X0_walksBeside l E ad hA sc ar bl i u (hW) (hW60) (by omega)) mi_X0_walksBeside tw_521 5 rfl rfl rfl rfl ⟨rfl, rfl, by decide, by decide⟩ (Nat.le_of_ble_eq_true rfl) ⟨Nat.le_refl _, Nat.le_refl _⟩ rfl dX0_seenBeside_41 ?_
        refine g_imul (pc := 44) hc dX0_seenBeside_44 ?_
        refine g_iadd (pc := 45) hc dX0_seenBeside_45 ?_
        refine g_istore_n (pc := 46) (lv' := [(0, .ref (ad 5)), (1, .int v), (2, .int u), (3, .int ((sbs (ar 15) (ar 16) (ar 17) (ar 19) v u nW (i)) + ((cseen (ar 15) (ar 19) i) * (wbs (ar 16) (ar 17) i u nW)))), (4, .int (nI (i)))]) hc dX0_seenBeside_46 rfl (by decide) rfl ?_
        refine g_iinc (pc := 47) (v := nI (i + 1)) (lv' := [(0, .ref (ad 5)), (1, .int v), (2, .int u), (3, .int ((sbs (ar 15) (ar 16) (ar 17) (ar 19) v u nW (i)) + ((cseen (ar 15) (ar 19) i) * (wbs (ar 16) (ar 17) i u nW)))), (4, .int (nI (i + 1)))]) hc 4 dX0_seenBeside_47 rfl (nI_ofi i 1) (by decide) rfl ?_
        refine g_goto (pc := 50) hc 5 dX0_seenBeside_50 (by decide) ?_
        exact g_eq (ws' := cw E ad sc ar bl) (lv' := [(0, .ref (ad 5)), (1, .int v), (2, .int u), (3, .int (sbs (ar 15) (ar 16) (ar 17) (ar 19) v u nW (i + 1))), (4, .int (nI (i + 1)))]) (rfl) (by rw [sbs_succ]; repeat (first | rw [if_pos c2] | rw [if_neg c2] | rw [if_neg (ne_true_of_eq_false c2)])) rfl (ihi (i + 1) (by omega))
  exact g_eq (ws' := cw E ad sc ar bl) (lv' := [(0, .ref (ad 5)), (1, .int v), (2, .int u), (3, .int (sbs (ar 15) (ar 16) (ar 17) (ar 19) v u nW (0))), (4, .int (nI (0)))]) (rfl) (rfl) rfl (L5_1 (nW - 0) (0) (by omega))

theorem dX0_hundredths_0 : decode cX0_hundredths 0 = .ok (.iconst 0, 1) := by decide +kernel
theorem dX0_hundredths_1 : decode cX0_hundredths 1 = .ok (.istore_n 2, 1) := by decide +kernel
theorem dX0_hundredths_2 : decode cX0_hundredths 2 = .ok (.iconst 0, 1) := by decide +kernel
theorem dX0_hundredths_3 : decode cX0_hundredths 3 = .ok (.istore_n 3, 1) := by decide +kernel
theorem dX0_hundredths_4 : decode cX0_hundredths 4 = .ok (.iconst 0, 1) := by decide +kernel
theorem dX0_hundredths_5 : decode cX0_hundredths 5 = .ok (.istore 4, 2) := by decide +kernel
theorem dX0_hundredths_7 : decode cX0_hundredths 7 = .ok (.iload 4, 2) := by decide +kernel
theorem dX0_hundredths_9 : decode cX0_hundredths 9 = .ok (.aload_n 0, 1) := by decide +kernel
theorem dX0_hundredths_10 : decode cX0_hundredths 10 = .ok (.getfield 9, 3) := by decide +kernel
theorem dX0_hundredths_13 : decode cX0_hundredths 13 = .ok (.invokevirtual 19, 3) := by decide +kernel
theorem dX0_hundredths_16 : decode cX0_hundredths 16 = .ok (.if_icmp .ge 81, 3) := by decide +kernel
theorem dX0_hundredths_19 : decode cX0_hundredths 19 = .ok (.aload_n 0, 1) := by decide +kernel
theorem dX0_hundredths_20 : decode cX0_hundredths 20 = .ok (.getfield 9, 3) := by decide +kernel
theorem dX0_hundredths_23 : decode cX0_hundredths 23 = .ok (.iload 4, 2) := by decide +kernel
theorem dX0_hundredths_25 : decode cX0_hundredths 25 = .ok (.invokevirtual 25, 3) := by decide +kernel
theorem dX0_hundredths_28 : decode cX0_hundredths 28 = .ok (.iload_n 1, 1) := by decide +kernel
theorem dX0_hundredths_29 : decode cX0_hundredths 29 = .ok (.if_icmp .ne 62, 3) := by decide +kernel
theorem dX0_hundredths_32 : decode cX0_hundredths 32 = .ok (.aload_n 0, 1) := by decide +kernel
theorem dX0_hundredths_33 : decode cX0_hundredths 33 = .ok (.iload 4, 2) := by decide +kernel
theorem dX0_hundredths_35 : decode cX0_hundredths 35 = .ok (.invokevirtual 33, 3) := by decide +kernel
theorem dX0_hundredths_38 : decode cX0_hundredths 38 = .ok (.istore 5, 2) := by decide +kernel
theorem dX0_hundredths_40 : decode cX0_hundredths 40 = .ok (.iconst 0, 1) := by decide +kernel
theorem dX0_hundredths_41 : decode cX0_hundredths 41 = .ok (.istore 6, 2) := by decide +kernel
theorem dX0_hundredths_43 : decode cX0_hundredths 43 = .ok (.iload 6, 2) := by decide +kernel
theorem dX0_hundredths_45 : decode cX0_hundredths 45 = .ok (.aload_n 0, 1) := by decide +kernel
theorem dX0_hundredths_46 : decode cX0_hundredths 46 = .ok (.getfield 9, 3) := by decide +kernel
theorem dX0_hundredths_49 : decode cX0_hundredths 49 = .ok (.invokevirtual 19, 3) := by decide +kernel
theorem dX0_hundredths_52 : decode cX0_hundredths 52 = .ok (.if_icmp .ge 39, 3) := by decide +kernel
theorem dX0_hundredths_55 : decode cX0_hundredths 55 = .ok (.aload_n 0, 1) := by decide +kernel
theorem dX0_hundredths_56 : decode cX0_hundredths 56 = .ok (.iload 4, 2) := by decide +kernel
theorem dX0_hundredths_58 : decode cX0_hundredths 58 = .ok (.iload 6, 2) := by decide +kernel
theorem dX0_hundredths_60 : decode cX0_hundredths 60 = .ok (.invokevirtual 36, 3) := by decide +kernel
theorem dX0_hundredths_63 : decode cX0_hundredths 63 = .ok (.ifCond .eq 22, 3) := by decide +kernel
theorem dX0_hundredths_66 : decode cX0_hundredths 66 = .ok (.iload_n 2, 1) := by decide +kernel
theorem dX0_hundredths_67 : decode cX0_hundredths 67 = .ok (.iload 5, 2) := by decide +kernel
theorem dX0_hundredths_69 : decode cX0_hundredths 69 = .ok (.iadd, 1) := by decide +kernel
theorem dX0_hundredths_70 : decode cX0_hundredths 70 = .ok (.istore_n 2, 1) := by decide +kernel
theorem dX0_hundredths_71 : decode cX0_hundredths 71 = .ok (.iload_n 3, 1) := by decide +kernel
theorem dX0_hundredths_72 : decode cX0_hundredths 72 = .ok (.iload 5, 2) := by decide +kernel
theorem dX0_hundredths_74 : decode cX0_hundredths 74 = .ok (.aload_n 0, 1) := by decide +kernel
theorem dX0_hundredths_75 : decode cX0_hundredths 75 = .ok (.iload 6, 2) := by decide +kernel
theorem dX0_hundredths_77 : decode cX0_hundredths 77 = .ok (.invokevirtual 33, 3) := by decide +kernel
theorem dX0_hundredths_80 : decode cX0_hundredths 80 = .ok (.invokestatic 40, 3) := by decide +kernel
theorem dX0_hundredths_83 : decode cX0_hundredths 83 = .ok (.iadd, 1) := by decide +kernel
theorem dX0_hundredths_84 : decode cX0_hundredths 84 = .ok (.istore_n 3, 1) := by decide +kernel
theorem dX0_hundredths_85 : decode cX0_hundredths 85 = .ok (.iinc 6 1, 3) := by decide +kernel
theorem dX0_hundredths_88 : decode cX0_hundredths 88 = .ok (.goto (-45), 3) := by decide +kernel
theorem dX0_hundredths_91 : decode cX0_hundredths 91 = .ok (.iinc 4 1, 3) := by decide +kernel
theorem dX0_hundredths_94 : decode cX0_hundredths 94 = .ok (.goto (-87), 3) := by decide +kernel
theorem dX0_hundredths_97 : decode cX0_hundredths 97 = .ok (.iload_n 3, 1) := by decide +kernel
theorem dX0_hundredths_98 : decode cX0_hundredths 98 = .ok (.ifCond .le 12, 3) := by decide +kernel
theorem dX0_hundredths_101 : decode cX0_hundredths 101 = .ok (.bipush 100, 2) := by decide +kernel
theorem dX0_hundredths_103 : decode cX0_hundredths 103 = .ok (.iload_n 2, 1) := by decide +kernel
theorem dX0_hundredths_104 : decode cX0_hundredths 104 = .ok (.imul, 1) := by decide +kernel
theorem dX0_hundredths_105 : decode cX0_hundredths 105 = .ok (.iload_n 3, 1) := by decide +kernel
theorem dX0_hundredths_106 : decode cX0_hundredths 106 = .ok (.idiv, 1) := by decide +kernel
theorem dX0_hundredths_107 : decode cX0_hundredths 107 = .ok (.goto 5, 3) := by decide +kernel
theorem dX0_hundredths_110 : decode cX0_hundredths 110 = .ok (.bipush 100, 2) := by decide +kernel
theorem dX0_hundredths_112 : decode cX0_hundredths 112 = .ok (.ireturn, 1) := by decide +kernel

set_option maxHeartbeats 4000000 in
set_option maxRecDepth 100000 in
theorem c_X0_hundredths (l : Launch) (E : Ev) {A : Nat → Prop} (ad : Nat → Nat) (hA : Oka 39 ad A) (sc : Nat → Int32) (ar : Nat → Nat → Int32) (bl : Int64) {nW : Nat} (v : Int32) (hW : sc 5 = nI nW) (hW60 : nW ≤ 60) : Ct l E yX0_hundredths (.code yX0_hundredths cX0_hundredths 7 (some .int)) ({ frames := 3, cells := 0, slots := 0, locals := 66 }) A (cw E ad sc ar bl) [.ref (ad 5), .int v] (some (.int (hund (ar 15) (ar 16) (ar 17) (ar 19) v nW))) (cw E ad sc ar bl) := by
  refine Ct.of (lv := [(0, .ref (ad 5)), (1, .int v)]) (by decide +kernel) (Nat.le_of_ble_eq_true rfl) rfl ?_
  intro zp ze zs zm za zb zh zc hc
  refine g_iconst (pc := 0) (v := nI 0) hc dX0_hundredths_0 (by decide) ?_
  refine g_istore_n (pc := 1) (lv' := [(0, .ref (ad 5)), (1, .int v), (2, .int (nI 0))]) hc dX0_hundredths_1 rfl (by decide) rfl ?_
  refine g_iconst (pc := 2) (v := nI 0) hc dX0_hundredths_2 (by decide) ?_
  refine g_istore_n (pc := 3) (lv' := [(0, .ref (ad 5)), (1, .int v), (2, .int (nI 0)), (3, .int (nI 0))]) hc dX0_hundredths_3 rfl (by decide) rfl ?_
  refine g_iconst (pc := 4) (v := nI 0) hc dX0_hundredths_4 (by decide) ?_
  refine g_istore (pc := 5) (lv' := [(0, .ref (ad 5)), (1, .int v), (2, .int (nI 0)), (3, .int (nI 0)), (4, .int (nI 0))]) hc dX0_hundredths_5 (by decide) rfl ?_
  have L7_1 : ∀ (ki i : Nat), i + ki = nW → G zp l ze ({ frames := 3, cells := 0, slots := 0, locals := 66 }) zs zm za zb zh zc 0 0 (MQ zb (Qz E A (some (.int (hund (ar 15) (ar 16) (ar 17) (ar 19) v nW))) (cw E ad sc ar bl)) za zs 0 0 A) E A 7 (cw E ad sc ar bl) (7) [(0, .ref (ad 5)), (1, .int v), (2, .int (hS (ar 15) (ar 16) (ar 17) (ar 19) v nW (i))), (3, .int (hB (ar 15) (ar 16) (ar 17) (ar 19) v nW (i))), (4, .int (nI (i)))] [] := by
    intro ki
    induction ki with
    | zero =>
      intro i lhi
      have lhin : nW = i := by omega
      subst lhin
      refine g_iload (pc := 7) hc 4 dX0_hundredths_7 rfl ?_
      refine g_aload_n (pc := 9) hc 0 dX0_hundredths_9 rfl rfl ?_
      refine gf_c5_walks (pc := 10) hc tw_189 dX0_hundredths_10 ?_
      refine g_callVi (pc := 13) (rest := [.int (nI (nW))]) (As := []) hc (c_X10_number l E ad hA sc ar bl) mi_X10_number tw_516 3 rfl rfl rfl rfl ⟨rfl, rfl, by decide, by decide⟩ (Nat.le_of_ble_eq_true rfl) ⟨Nat.le_refl _, Nat.le_refl _⟩ rfl dX0_hundredths_13 ?_
      refine g_topi (v := nI nW) (hW) ?_
      refine g_icmp_ge_t (pc := 16) hc 97 dX0_hundredths_16 (by decide) (nI_le (by omega) (by omega)) ?_
      refine g_iload_n (pc := 97) hc 3 dX0_hundredths_97 rfl rfl ?_
      refine g_if_le (pc := 98) hc 110 dX0_hundredths_98 (by decide) (fun c2 => ?_) (fun c2 => ?_)
      · refine g_bipush (pc := 110) (v := nI 100) hc dX0_hundredths_110 (by decide) ?_
        exact g_iret (pc := 112) hc dX0_hundredths_112 (by unfold hund; repeat (first | rw [if_pos c2] | rw [if_neg c2] | rw [if_neg (ne_true_of_eq_false c2)]); try rfl) (rfl)
      · refine g_bipush (pc := 101) (v := nI 100) hc dX0_hundredths_101 (by decide) ?_
        refine g_iload_n (pc := 103) hc 2 dX0_hundredths_103 rfl rfl ?_
        refine g_imul (pc := 104) hc dX0_hundredths_104 ?_
        refine g_iload_n (pc := 105) hc 3 dX0_hundredths_105 rfl rfl ?_
        refine g_idiv (pc := 106) hc dX0_hundredths_106 (fun z => c2 (by rw [z]; decide)) ?_
        refine g_goto (pc := 107) hc 112 dX0_hundredths_107 (by decide) ?_
        exact g_iret (pc := 112) hc dX0_hundredths_112 (by unfold hund; repeat (first | rw [if_pos c2] | rw [if_neg c2] | rw [if_neg (ne_true_of_eq_false c2)]); try rfl) (rfl)
    | succ ki ihi =>
      intro i lhi
      have lhin : i < nW := by omega
      refine g_iload (pc := 7) hc 4 dX0_hundredths_7 rfl ?_
      refine g_aload_n (pc := 9) hc 0 dX0_hundredths_9 rfl rfl ?_
      refine gf_c5_walks (pc := 10) hc tw_189 dX0_hundredths_10 ?_
      refine g_callVi (pc := 13) (rest := [.int (nI (i))]) (As := []) hc (c_X10_number l E ad hA sc ar bl) mi_X10_number tw_516 3 rfl rfl rfl rfl ⟨rfl, rfl, by decide, by decide⟩ (Nat.le_of_ble_eq_true rfl) ⟨Nat.le_refl _, Nat.le_refl _⟩ rfl dX0_hundredths_13 ?_
      refine g_topi (v := nI nW) (hW) ?_
      refine g_icmp_ge_f (pc := 16) hc 97 dX0_hundredths_16 (by decide) (nI_ge (by omega) (by omega)) ?_
      refine g_aload_n (pc := 19) hc 0 dX0_hundredths_19 rfl rfl ?_
      refine gf_c5_walks (pc := 20) hc tw_189 dX0_hundredths_20 ?_
      refine g_iload (pc := 23) hc 4 dX0_hundredths_23 rfl ?_
      refine g_callVi (pc := 25) (rest := []) (As := [.int (nI (i))]) hc (c_X10_walkerOf l E ad hA sc ar bl i (by omega)) mi_X10_walkerOf tw_520 3 rfl rfl rfl rfl ⟨rfl, rfl, by decide, by decide⟩ (Nat.le_of_ble_eq_true rfl) ⟨Nat.le_refl _, Nat.le_refl _⟩ rfl dX0_hundredths_25 ?_
      refine g_iload_n (pc := 28) hc 1 dX0_hundredths_28 rfl rfl ?_
      refine g_icmp_ne (pc := 29) hc 91 dX0_hundredths_29 (by decide) (fun c3 => ?_) (fun c3 => ?_)
      · refine g_iinc (pc := 91) (v := nI (i + 1)) (lv' := [(0, .ref (ad 5)), (1, .int v), (2, .int (hS (ar 15) (ar 16) (ar 17) (ar 19) v nW (i))), (3, .int (hB (ar 15) (ar 16) (ar 17) (ar 19) v nW (i))), (4, .int (nI (i + 1)))]) hc 4 dX0_hundredths_91 rfl (nI_ofi i 1) (by decide) rfl ?_
        refine g_goto (pc := 94) hc 7 dX0_hundredths_94 (by decide) ?_
        exact g_eq (ws' := cw E ad sc ar bl) (lv' := [(0, .ref (ad 5)), (1, .int v), (2, .int (hS (ar 15) (ar 16) (ar 17) (ar 19) v nW (i + 1))), (3, .int (hB (ar 15) (ar 16) (ar 17) (ar 19) v nW (i + 1))), (4, .int (nI (i + 1)))]) (rfl) (by rw [hS_succ, hB_succ]; repeat (first | rw [if_pos c3] | rw [if_neg c3] | rw [if_neg (ne_true_of_eq_false c3)])) rfl (ihi (i + 1) (by omega))
      · refine g_aload_n (pc := 32) hc 0 dX0_hundredths_32 rfl rfl ?_
        refine g_iload (pc := 33) hc 4 dX0_hundredths_33 rfl ?_
        refine g_callVi (pc := 35) (rest := []) (As := [.int (nI (i))]) hc (c_X0_seenIn l E ad hA sc ar bl i (hW) (hW60) (by omega)) mi_X0_seenIn tw_534 5 rfl rfl rfl rfl ⟨rfl, rfl, by decide, by decide⟩ (Nat.le_of_ble_eq_true rfl) ⟨Nat.le_refl _, Nat.le_refl _⟩ rfl dX0_hundredths_35 ?_
        refine g_istore (pc := 38) (lv' := [(0, .ref (ad 5)), (1, .int v), (2, .int (hS (ar 15) (ar 16) (ar 17) (ar 19) v nW (i))), (3, .int (hB (ar 15) (ar 16) (ar 17) (ar 19) v nW (i))), (4, .int (nI (i))), (5, .int (cseen (ar 15) (ar 19) i))]) hc dX0_hundredths_38 (by decide) rfl ?_
        refine g_iconst (pc := 40) (v := nI 0) hc dX0_hundredths_40 (by decide) ?_
        refine g_istore (pc := 41) (lv' := [(0, .ref (ad 5)), (1, .int v), (2, .int (hS (ar 15) (ar 16) (ar 17) (ar 19) v nW (i))), (3, .int (hB (ar 15) (ar 16) (ar 17) (ar 19) v nW (i))), (4, .int (nI (i))), (5, .int (cseen (ar 15) (ar 19) i)), (6, .int (nI 0))]) hc dX0_hundredths_41 (by decide) rfl ?_
        have L43_4 : ∀ (kj j : Nat), j + kj = nW → G zp l ze ({ frames := 3, cells := 0, slots := 0, locals := 66 }) zs zm za zb zh zc 0 0 (MQ zb (Qz E A (some (.int (hund (ar 15) (ar 16) (ar 17) (ar 19) v nW))) (cw E ad sc ar bl)) za zs 0 0 A) E A 7 (cw E ad sc ar bl) (43) [(0, .ref (ad 5)), (1, .int v), (2, .int (hs1 (ar 15) (ar 16) (ar 17) (ar 19) i (hS (ar 15) (ar 16) (ar 17) (ar 19) v nW i) (j))), (3, .int (hb1 (ar 15) (ar 16) (ar 17) (ar 19) i (hB (ar 15) (ar 16) (ar 17) (ar 19) v nW i) (j))), (4, .int (nI (i))), (5, .int (cseen (ar 15) (ar 19) i)), (6, .int (nI (j)))] [] := by
          intro kj
          induction kj with
          | zero =>
            intro j lhj
            have lhjn : nW = j := by omega
            subst lhjn
            refine g_iload (pc := 43) hc 6 dX0_hundredths_43 rfl ?_
            refine g_aload_n (pc := 45) hc 0 dX0_hundredths_45 rfl rfl ?_
            refine gf_c5_walks (pc := 46) hc tw_189 dX0_hundredths_46 ?_
            refine g_callVi (pc := 49) (rest := [.int (nI (nW))]) (As := []) hc (c_X10_number l E ad hA sc ar bl) mi_X10_number tw_516 3 rfl rfl rfl rfl ⟨rfl, rfl, by decide, by decide⟩ (Nat.le_of_ble_eq_true rfl) ⟨Nat.le_refl _, Nat.le_refl _⟩ rfl dX0_hundredths_49 ?_
            refine g_topi (v := nI nW) (hW) ?_
            refine g_icmp_ge_t (pc := 52) hc 91 dX0_hundredths_52 (by decide) (nI_le (by omega) (by omega)) ?_
            refine g_iinc (pc := 91) (v := nI (i + 1)) (lv' := [(0, .ref (ad 5)), (1, .int v), (2, .int (hs1 (ar 15) (ar 16) (ar 17) (ar 19) i (hS (ar 15) (ar 16) (ar 17) (ar 19) v nW i) (nW))), (3, .int (hb1 (ar 15) (ar 16) (ar 17) (ar 19) i (hB (ar 15) (ar 16) (ar 17) (ar 19) v nW i) (nW))), (4, .int (nI (i + 1))), (5, .int (cseen (ar 15) (ar 19) i)), (6, .int (nI (nW)))]) hc 4 dX0_hundredths_91 rfl (nI_ofi i 1) (by decide) rfl ?_
            refine g_goto (pc := 94) hc 7 dX0_hundredths_94 (by decide) ?_
            refine g_lv [0, 1, 2, 3, 4] (lv' := [(0, .ref (ad 5)), (1, .int v), (2, .int (hs1 (ar 15) (ar 16) (ar 17) (ar 19) i (hS (ar 15) (ar 16) (ar 17) (ar 19) v nW i) (nW))), (3, .int (hb1 (ar 15) (ar 16) (ar 17) (ar 19) i (hB (ar 15) (ar 16) (ar 17) (ar 19) v nW i) (nW))), (4, .int (nI (i + 1)))]) rfl ?_
            exact g_eq (ws' := cw E ad sc ar bl) (lv' := [(0, .ref (ad 5)), (1, .int v), (2, .int (hS (ar 15) (ar 16) (ar 17) (ar 19) v nW (i + 1))), (3, .int (hB (ar 15) (ar 16) (ar 17) (ar 19) v nW (i + 1))), (4, .int (nI (i + 1)))]) (rfl) (by rw [hS_succ, hB_succ]; repeat (first | rw [if_pos c3] | rw [if_neg c3] | rw [if_neg (ne_true_of_eq_false c3)])) rfl (ihi (i + 1) (by omega))
          | succ kj ihj =>
            intro j lhj
            have lhjn : j < nW := by omega
            refine g_iload (pc := 43) hc 6 dX0_hundredths_43 rfl ?_
            refine g_aload_n (pc := 45) hc 0 dX0_hundredths_45 rfl rfl ?_
            refine gf_c5_walks (pc := 46) hc tw_189 dX0_hundredths_46 ?_
            refine g_callVi (pc := 49) (rest := [.int (nI (j))]) (As := []) hc (c_X10_number l E ad hA sc ar bl) mi_X10_number tw_516 3 rfl rfl rfl rfl ⟨rfl, rfl, by decide, by decide⟩ (Nat.le_of_ble_eq_true rfl) ⟨Nat.le_refl _, Nat.le_refl _⟩ rfl dX0_hundredths_49 ?_
            refine g_topi (v := nI nW) (hW) ?_
            refine g_icmp_ge_f (pc := 52) hc 91 dX0_hundredths_52 (by decide) (nI_ge (by omega) (by omega)) ?_
            refine g_aload_n (pc := 55) hc 0 dX0_hundredths_55 rfl rfl ?_
            refine g_iload (pc := 56) hc 4 dX0_hundredths_56 rfl ?_
            refine g_iload (pc := 58) hc 6 dX0_hundredths_58 rfl ?_
            refine g_callVi (pc := 60) (rest := []) (As := [.int (nI (i)), .int (nI (j))]) hc (c_X0_arePair l E ad hA sc ar bl i j (by omega) (by omega)) mi_X0_arePair tw_525 5 rfl rfl rfl rfl ⟨rfl, rfl, by decide, by decide⟩ (Nat.le_of_ble_eq_true rfl) ⟨Nat.le_refl _, Nat.le_refl _⟩ rfl dX0_hundredths_60 ?_
            refine g_if_eq_b (pc := 63) hc 85 dX0_hundredths_63 (by decide) (fun c5 => ?_) (fun c5 => ?_)
            · refine g_iinc (pc := 85) (v := nI (j + 1)) (lv' := [(0, .ref (ad 5)), (1, .int v), (2, .int (hs1 (ar 15) (ar 16) (ar 17) (ar 19) i (hS (ar 15) (ar 16) (ar 17) (ar 19) v nW i) (j))), (3, .int (hb1 (ar 15) (ar 16) (ar 17) (ar 19) i (hB (ar 15) (ar 16) (ar 17) (ar 19) v nW i) (j))), (4, .int (nI (i))), (5, .int (cseen (ar 15) (ar 19) i)), (6, .int (nI (j + 1)))]) hc 6 dX0_hundredths_85 rfl (nI_ofi j 1) (by decide) rfl ?_
              refine g_goto (pc := 88) hc 43 dX0_hundredths_88 (by decide) ?_
              exact g_eq (ws' := cw E ad sc ar bl) (lv' := [(0, .ref (ad 5)), (1, .int v), (2, .int (hs1 (ar 15) (ar 16) (ar 17) (ar 19) i (hS (ar 15) (ar 16) (ar 17) (ar 19) v nW i) (j + 1))), (3, .int (hb1 (ar 15) (ar 16) (ar 17) (ar 19) i (hB (ar 15) (ar 16) (ar 17) (ar 19) v nW i) (j + 1))), (4, .int (nI (i))), (5, .int (cseen (ar 15) (ar 19) i)), (6, .int (nI (j + 1)))]) (rfl) (by rw [hs1_succ, hb1_succ]; repeat (first | rw [if_pos c5] | rw [if_neg c5] | rw [if_neg (ne_true_of_eq_false c5)])) rfl (ihj (j + 1) (by omega))
            · refine g_iload_n (pc := 66) hc 2 dX0_hundredths_66 rfl rfl ?_
              refine g_iload (pc := 67) hc 5 dX0_hundredths_67 rfl ?_
              refine g_iadd (pc := 69) hc dX0_hundredths_69 ?_
              refine g_istore_n (pc := 70) (lv' := [(0, .ref (ad 5)), (1, .int v), (2, .int ((hs1 (ar 15) (ar 16) (ar 17) (ar 19) i (hS (ar 15) (ar 16) (ar 17) (ar 19) v nW i) (j)) + (cseen (ar 15) (ar 19) i))), (3, .int (hb1 (ar 15) (ar 16) (ar 17) (ar 19) i (hB (ar 15) (ar 16) (ar 17) (ar 19) v nW i) (j))), (4, .int (nI (i))), (5, .int (cseen (ar 15) (ar 19) i)), (6, .int (nI (j)))]) hc dX0_hundredths_70 rfl (by decide) rfl ?_
              refine g_iload_n (pc := 71) hc 3 dX0_hundredths_71 rfl rfl ?_
              refine g_iload (pc := 72) hc 5 dX0_hundredths_72 rfl ?_
              refine g_aload_n (pc := 74) hc 0 dX0_hundredths_74 rfl rfl ?_
              refine g_iload (pc := 75) hc 6 dX0_hundredths_75 rfl ?_
              refine g_callVi (pc := 77) (rest := [.int (cseen (ar 15) (ar 19) i), .int (hb1 (ar 15) (ar 16) (ar 17) (ar 19) i (hB (ar 15) (ar 16) (ar 17) (ar 19) v nW i) (j))]) (As := [.int (nI (j))]) hc (c_X0_seenIn l E ad hA sc ar bl j (hW) (hW60) (by omega)) mi_X0_seenIn tw_534 5 rfl rfl rfl rfl ⟨rfl, rfl, by decide, by decide⟩ (Nat.le_of_ble_eq_true rfl) ⟨Nat.le_refl _, Nat.le_refl _⟩ rfl dX0_hundredths_77 ?_
              refine g_mmax (pc := 80) (v := mxI (cseen (ar 15) (ar 19) i) (cseen (ar 15) (ar 19) j)) hc tw_551 rfl ⟨by decide, Nat.le_of_ble_eq_true rfl⟩ ⟨Nat.le_refl _, Nat.le_refl _⟩ dX0_hundredths_80 ?_
              refine g_iadd (pc := 83) hc dX0_hundredths_83 ?_
              refine g_istore_n (pc := 84) (lv' := [(0, .ref (ad 5)), (1, .int v), (2, .int ((hs1 (ar 15) (ar 16) (ar 17) (ar 19) i (hS (ar 15) (ar 16) (ar 17) (ar 19) v nW i) (j)) + (cseen (ar 15) (ar 19) i))), (3, .int ((hb1 (ar 15) (ar 16) (ar 17) (ar 19) i (hB (ar 15) (ar 16) (ar 17) (ar 19) v nW i) (j)) + (mxI (cseen (ar 15) (ar 19) i) (cseen (ar 15) (ar 19) j)))), (4, .int (nI (i))), (5, .int (cseen (ar 15) (ar 19) i)), (6, .int (nI (j)))]) hc dX0_hundredths_84 rfl (by decide) rfl ?_
              refine g_iinc (pc := 85) (v := nI (j + 1)) (lv' := [(0, .ref (ad 5)), (1, .int v), (2, .int ((hs1 (ar 15) (ar 16) (ar 17) (ar 19) i (hS (ar 15) (ar 16) (ar 17) (ar 19) v nW i) (j)) + (cseen (ar 15) (ar 19) i))), (3, .int ((hb1 (ar 15) (ar 16) (ar 17) (ar 19) i (hB (ar 15) (ar 16) (ar 17) (ar 19) v nW i) (j)) + (mxI (cseen (ar 15) (ar 19) i) (cseen (ar 15) (ar 19) j)))), (4, .int (nI (i))), (5, .int (cseen (ar 15) (ar 19) i)), (6, .int (nI (j + 1)))]) hc 6 dX0_hundredths_85 rfl (nI_ofi j 1) (by decide) rfl ?_
              refine g_goto (pc := 88) hc 43 dX0_hundredths_88 (by decide) ?_
              exact g_eq (ws' := cw E ad sc ar bl) (lv' := [(0, .ref (ad 5)), (1, .int v), (2, .int (hs1 (ar 15) (ar 16) (ar 17) (ar 19) i (hS (ar 15) (ar 16) (ar 17) (ar 19) v nW i) (j + 1))), (3, .int (hb1 (ar 15) (ar 16) (ar 17) (ar 19) i (hB (ar 15) (ar 16) (ar 17) (ar 19) v nW i) (j + 1))), (4, .int (nI (i))), (5, .int (cseen (ar 15) (ar 19) i)), (6, .int (nI (j + 1)))]) (rfl) (by rw [hs1_succ, hb1_succ]; repeat (first | rw [if_pos c5] | rw [if_neg c5] | rw [if_neg (ne_true_of_eq_false c5)])) rfl (ihj (j + 1) (by omega))
        exact g_eq (ws' := cw E ad sc ar bl) (lv' := [(0, .ref (ad 5)), (1, .int v), (2, .int (hs1 (ar 15) (ar 16) (ar 17) (ar 19) i (hS (ar 15) (ar 16) (ar 17) (ar 19) v nW i) (0))), (3, .int (hb1 (ar 15) (ar 16) (ar 17) (ar 19) i (hB (ar 15) (ar 16) (ar 17) (ar 19) v nW i) (0))), (4, .int (nI (i))), (5, .int (cseen (ar 15) (ar 19) i)), (6, .int (nI (0)))]) (rfl) (rfl) rfl (L43_4 (nW - 0) (0) (by omega))
  exact g_eq (ws' := cw E ad sc ar bl) (lv' := [(0, .ref (ad 5)), (1, .int v), (2, .int (hS (ar 15) (ar 16) (ar 17) (ar 19) v nW (0))), (3, .int (hB (ar 15) (ar 16) (ar 17) (ar 19) v nW (0))), (4, .int (nI (0)))]) (rfl) (rfl) rfl (L7_1 (nW - 0) (0) (by omega))

theorem dX0_ofTeller_0 : decode cX0_ofTeller 0 = .ok (.aload_n 0, 1) := by decide +kernel
theorem dX0_ofTeller_1 : decode cX0_ofTeller 1 = .ok (.getfield 9, 3) := by decide +kernel
theorem dX0_ofTeller_4 : decode cX0_ofTeller 4 = .ok (.iload_n 1, 1) := by decide +kernel
theorem dX0_ofTeller_5 : decode cX0_ofTeller 5 = .ok (.invokevirtual 45, 3) := by decide +kernel
theorem dX0_ofTeller_8 : decode cX0_ofTeller 8 = .ok (.ifCond .eq 18, 3) := by decide +kernel
theorem dX0_ofTeller_11 : decode cX0_ofTeller 11 = .ok (.aload_n 0, 1) := by decide +kernel
theorem dX0_ofTeller_12 : decode cX0_ofTeller 12 = .ok (.aload_n 0, 1) := by decide +kernel
theorem dX0_ofTeller_13 : decode cX0_ofTeller 13 = .ok (.getfield 9, 3) := by decide +kernel
theorem dX0_ofTeller_16 : decode cX0_ofTeller 16 = .ok (.iload_n 1, 1) := by decide +kernel
theorem dX0_ofTeller_17 : decode cX0_ofTeller 17 = .ok (.invokevirtual 25, 3) := by decide +kernel
theorem dX0_ofTeller_20 : decode cX0_ofTeller 20 = .ok (.invokevirtual 49, 3) := by decide +kernel
theorem dX0_ofTeller_23 : decode cX0_ofTeller 23 = .ok (.goto 5, 3) := by decide +kernel
theorem dX0_ofTeller_26 : decode cX0_ofTeller 26 = .ok (.bipush 100, 2) := by decide +kernel
theorem dX0_ofTeller_28 : decode cX0_ofTeller 28 = .ok (.ireturn, 1) := by decide +kernel

set_option maxHeartbeats 4000000 in
set_option maxRecDepth 100000 in
theorem c_X0_ofTeller (l : Launch) (E : Ev) {A : Nat → Prop} (ad : Nat → Nat) (hA : Oka 39 ad A) (sc : Nat → Int32) (ar : Nat → Nat → Int32) (bl : Int64) {nW : Nat} (x : Int32) (hW : sc 5 = nI nW) (hW60 : nW ≤ 60) : Ct l E yX0_ofTeller (.code yX0_ofTeller cX0_ofTeller 2 (some .int)) ({ frames := 4, cells := 0, slots := 0, locals := 92 }) A (cw E ad sc ar bl) [.ref (ad 5), .int x] (some (.int (oft (ar 15) (ar 16) (ar 17) (ar 19) nW x))) (cw E ad sc ar bl) := by
  refine Ct.of (lv := [(0, .ref (ad 5)), (1, .int x)]) (by decide +kernel) (Nat.le_of_ble_eq_true rfl) rfl ?_
  intro zp ze zs zm za zb zh zc hc
  refine g_aload_n (pc := 0) hc 0 dX0_ofTeller_0 rfl rfl ?_
  refine gf_c5_walks (pc := 1) hc tw_189 dX0_ofTeller_1 ?_
  refine g_iload_n (pc := 4) hc 1 dX0_ofTeller_4 rfl rfl ?_
  refine g_callVi (pc := 5) (rest := []) (As := [.int x]) hc (c_X10_has l E ad hA sc ar bl x) mi_X10_has tw_562 3 rfl rfl rfl rfl ⟨rfl, rfl, by decide, by decide⟩ (Nat.le_of_ble_eq_true rfl) ⟨Nat.le_refl _, Nat.le_refl _⟩ rfl dX0_ofTeller_5 ?_
  refine g_if_eq_b (pc := 8) hc 26 dX0_ofTeller_8 (by decide) (fun c1 => ?_) (fun c1 => ?_)
  · rw [hW] at c1
    refine g_bipush (pc := 26) (v := nI 100) hc dX0_ofTeller_26 (by decide) ?_
    exact g_iret (pc := 28) hc dX0_ofTeller_28 (by rw [oft, if_neg (ne_true_of_eq_false c1)]) (rfl)
  · rw [hW] at c1
    obtain ⟨i, hi, rfl⟩ := inx_of (by omega) c1
    refine g_aload_n (pc := 11) hc 0 dX0_ofTeller_11 rfl rfl ?_
    refine g_aload_n (pc := 12) hc 0 dX0_ofTeller_12 rfl rfl ?_
    refine gf_c5_walks (pc := 13) hc tw_189 dX0_ofTeller_13 ?_
    refine g_iload_n (pc := 16) hc 1 dX0_ofTeller_16 rfl rfl ?_
    refine g_callVi (pc := 17) (rest := [.ref (ad 5)]) (As := [.int (nI i)]) hc (c_X10_walkerOf l E ad hA sc ar bl i (by omega)) mi_X10_walkerOf tw_520 3 rfl rfl rfl rfl ⟨rfl, rfl, by decide, by decide⟩ (Nat.le_of_ble_eq_true rfl) ⟨Nat.le_refl _, Nat.le_refl _⟩ rfl dX0_ofTeller_17 ?_
    refine g_callVi (pc := 20) (rest := []) (As := [.int ((ar 16) i)]) hc (c_X0_hundredths l E ad hA sc ar bl ((ar 16) i) (hW) (hW60)) mi_X0_hundredths tw_563 5 rfl rfl rfl rfl ⟨rfl, rfl, by decide, by decide⟩ (Nat.le_of_ble_eq_true rfl) ⟨Nat.le_refl _, Nat.le_refl _⟩ rfl dX0_ofTeller_20 ?_
    refine g_goto (pc := 23) hc 28 dX0_ofTeller_23 (by decide) ?_
    exact g_iret (pc := 28) hc dX0_ofTeller_28 (by rw [oft, if_pos c1, nI_clamp (by omega)]) (rfl)

theorem dX0_amend_0 : decode cX0_amend 0 = .ok (.iload_n 2, 1) := by decide +kernel
theorem dX0_amend_1 : decode cX0_amend 1 = .ok (.ifCond .eq 14, 3) := by decide +kernel
theorem dX0_amend_4 : decode cX0_amend 4 = .ok (.aload_n 0, 1) := by decide +kernel
theorem dX0_amend_5 : decode cX0_amend 5 = .ok (.getfield 15, 3) := by decide +kernel
theorem dX0_amend_8 : decode cX0_amend 8 = .ok (.iload_n 1, 1) := by decide +kernel
theorem dX0_amend_9 : decode cX0_amend 9 = .ok (.invokevirtual 52, 3) := by decide +kernel
theorem dX0_amend_12 : decode cX0_amend 12 = .ok (.ifCond .eq 5, 3) := by decide +kernel
theorem dX0_amend_15 : decode cX0_amend 15 = .ok (.iload_n 2, 1) := by decide +kernel
theorem dX0_amend_16 : decode cX0_amend 16 = .ok (.ireturn, 1) := by decide +kernel
theorem dX0_amend_17 : decode cX0_amend 17 = .ok (.iload_n 3, 1) := by decide +kernel
theorem dX0_amend_18 : decode cX0_amend 18 = .ok (.ifCond .le 18, 3) := by decide +kernel
theorem dX0_amend_21 : decode cX0_amend 21 = .ok (.iload_n 2, 1) := by decide +kernel
theorem dX0_amend_22 : decode cX0_amend 22 = .ok (.bipush 100, 2) := by decide +kernel
theorem dX0_amend_24 : decode cX0_amend 24 = .ok (.imul, 1) := by decide +kernel
theorem dX0_amend_25 : decode cX0_amend 25 = .ok (.iload_n 3, 1) := by decide +kernel
theorem dX0_amend_26 : decode cX0_amend 26 = .ok (.idiv, 1) := by decide +kernel
theorem dX0_amend_27 : decode cX0_amend 27 = .ok (.sipush 9999, 3) := by decide +kernel
theorem dX0_amend_30 : decode cX0_amend 30 = .ok (.invokestatic 57, 3) := by decide +kernel
theorem dX0_amend_33 : decode cX0_amend 33 = .ok (.goto 6, 3) := by decide +kernel
theorem dX0_amend_36 : decode cX0_amend 36 = .ok (.sipush 9999, 3) := by decide +kernel
theorem dX0_amend_39 : decode cX0_amend 39 = .ok (.ireturn, 1) := by decide +kernel

set_option maxHeartbeats 4000000 in
set_option maxRecDepth 100000 in
theorem c_X0_amend (l : Launch) (E : Ev) {A : Nat → Prop} (ad : Nat → Nat) (hA : Oka 39 ad A) (sc : Nat → Int32) (ar : Nat → Nat → Int32) (bl : Int64) (j : Nat) (x : Int32) (y : Int32) (hj : j < 4) : Ct l E yX0_amend (.code yX0_amend cX0_amend 4 (some .int)) ({ frames := 1, cells := 0, slots := 0, locals := 21 }) A (cw E ad sc ar bl) [.ref (ad 5), .int (nI j), .int x, .int y] (some (.int (amd (ar 15) j x y))) (cw E ad sc ar bl) := by
  refine Ct.of (lv := [(0, .ref (ad 5)), (1, .int (nI j)), (2, .int x), (3, .int y)]) (by decide +kernel) (Nat.le_of_ble_eq_true rfl) rfl ?_
  intro zp ze zs zm za zb zh zc hc
  refine g_iload_n (pc := 0) hc 2 dX0_amend_0 rfl rfl ?_
  refine g_if_eq (pc := 1) hc 15 dX0_amend_1 (by decide) (fun c1 => ?_) (fun c1 => ?_)
  · refine g_iload_n (pc := 15) hc 2 dX0_amend_15 rfl rfl ?_
    exact g_iret (pc := 16) hc dX0_amend_16 (by unfold amd; repeat (first | rw [if_pos c1] | rw [if_neg c1] | rw [if_neg (ne_true_of_eq_false c1)]); try rfl) (rfl)
  · refine g_aload_n (pc := 4) hc 0 dX0_amend_4 rfl rfl ?_
    refine gf_c5_sorts (pc := 5) hc tw_190 dX0_amend_5 ?_
    refine g_iload_n (pc := 8) hc 1 dX0_amend_8 rfl rfl ?_
    refine g_callVi (pc := 9) (rest := []) (As := [.int (nI j)]) hc (c_X8_isCoarse l E ad hA sc ar bl j (by omega)) mi_X8_isCoarse tw_538 2 rfl rfl rfl rfl ⟨rfl, rfl, by decide, by decide⟩ (Nat.le_of_ble_eq_true rfl) ⟨Nat.le_refl _, Nat.le_refl _⟩ rfl dX0_amend_9 ?_
    refine g_if_eq_b (pc := 12) hc 17 dX0_amend_12 (by decide) (fun c2 => ?_) (fun c2 => ?_)
    · refine g_iload_n (pc := 17) hc 3 dX0_amend_17 rfl rfl ?_
      refine g_if_le (pc := 18) hc 36 dX0_amend_18 (by decide) (fun c3 => ?_) (fun c3 => ?_)
      · refine g_sipush (pc := 36) (v := nI 9999) hc dX0_amend_36 (by decide) ?_
        exact g_iret (pc := 39) hc dX0_amend_39 (by unfold amd; repeat (first | rw [if_pos c1] | rw [if_neg c1] | rw [if_neg (ne_true_of_eq_false c1)] | rw [if_pos c2] | rw [if_neg c2] | rw [if_neg (ne_true_of_eq_false c2)] | rw [if_pos c3] | rw [if_neg c3] | rw [if_neg (ne_true_of_eq_false c3)]); try rfl) (rfl)
      · refine g_iload_n (pc := 21) hc 2 dX0_amend_21 rfl rfl ?_
        refine g_bipush (pc := 22) (v := nI 100) hc dX0_amend_22 (by decide) ?_
        refine g_imul (pc := 24) hc dX0_amend_24 ?_
        refine g_iload_n (pc := 25) hc 3 dX0_amend_25 rfl rfl ?_
        refine g_idiv (pc := 26) hc dX0_amend_26 (fun z => c3 (by rw [z]; decide)) ?_
        refine g_sipush (pc := 27) (v := nI 9999) hc dX0_amend_27 (by decide) ?_
        refine g_mmin (pc := 30) (v := mnI ((x * (nI 100)) / y) (nI 9999)) hc tw_568 rfl ⟨by decide, Nat.le_of_ble_eq_true rfl⟩ ⟨Nat.le_refl _, Nat.le_refl _⟩ dX0_amend_30 ?_
        refine g_goto (pc := 33) hc 39 dX0_amend_33 (by decide) ?_
        exact g_iret (pc := 39) hc dX0_amend_39 (by unfold amd; repeat (first | rw [if_pos c1] | rw [if_neg c1] | rw [if_neg (ne_true_of_eq_false c1)] | rw [if_pos c2] | rw [if_neg c2] | rw [if_neg (ne_true_of_eq_false c2)] | rw [if_pos c3] | rw [if_neg c3] | rw [if_neg (ne_true_of_eq_false c3)]); try rfl) (rfl)
    · refine g_iload_n (pc := 15) hc 2 dX0_amend_15 rfl rfl ?_
      exact g_iret (pc := 16) hc dX0_amend_16 (by unfold amd; repeat (first | rw [if_pos c1] | rw [if_neg c1] | rw [if_neg (ne_true_of_eq_false c1)] | rw [if_pos c2] | rw [if_neg c2] | rw [if_neg (ne_true_of_eq_false c2)]); try rfl) (rfl)
