theorem dX12_isIn_0 : decode cX12_isIn 0 = .ok (.iload_n 0, 1) := by decide +kernel
theorem dX12_isIn_1 : decode cX12_isIn 1 = .ok (.iload_n 1, 1) := by decide +kernel
theorem dX12_isIn_2 : decode cX12_isIn 2 = .ok (.if_icmp .lt 12, 3) := by decide +kernel
theorem dX12_isIn_5 : decode cX12_isIn 5 = .ok (.iload_n 0, 1) := by decide +kernel
theorem dX12_isIn_6 : decode cX12_isIn 6 = .ok (.iload_n 2, 1) := by decide +kernel
theorem dX12_isIn_7 : decode cX12_isIn 7 = .ok (.if_icmp .gt 7, 3) := by decide +kernel
theorem dX12_isIn_10 : decode cX12_isIn 10 = .ok (.iconst 1, 1) := by decide +kernel
theorem dX12_isIn_11 : decode cX12_isIn 11 = .ok (.goto 4, 3) := by decide +kernel
theorem dX12_isIn_14 : decode cX12_isIn 14 = .ok (.iconst 0, 1) := by decide +kernel
theorem dX12_isIn_15 : decode cX12_isIn 15 = .ok (.ireturn, 1) := by decide +kernel

set_option maxHeartbeats 4000000 in
set_option maxRecDepth 100000 in
theorem c_X12_isIn (l : Launch) (E : Ev) {A : Nat → Prop} (ad : Nat → Nat) (hA : Oka 30 ad A) (sc : Nat → Int32) (ar : Nat → Nat → Int32) (la : Nat → Int64) (x : Int32) (y : Int32) (z : Int32) : Ct l E yX12_isIn (.code yX12_isIn cX12_isIn 3 (some .boolean)) ({ frames := 0, cells := 0, slots := 0, locals := 0 }) A (mw E ad sc ar la) [.int x, .int y, .int z] (some (.int (bI (inr x y z)))) (mw E ad sc ar la) := by
  refine Ct.of (lv := [(0, .int x), (1, .int y), (2, .int z)]) (by decide +kernel) (Nat.le_of_ble_eq_true rfl) rfl ?_
  intro zp ze zs zm za zb zh zc hc
  refine g_iload_n (pc := 0) hc 0 dX12_isIn_0 rfl rfl ?_
  refine g_iload_n (pc := 1) hc 1 dX12_isIn_1 rfl rfl ?_
  refine g_icmp_lt (pc := 2) hc 14 dX12_isIn_2 (by decide) (fun c1 => ?_) (fun c1 => ?_)
  · refine g_iconst (pc := 14) (v := nI 0) hc dX12_isIn_14 (by decide) ?_
    exact g_zret (pc := 15) hc dX12_isIn_15 (by decide) (by simp [bI, inr, c1] <;> rfl) (rfl)
  · refine g_iload_n (pc := 5) hc 0 dX12_isIn_5 rfl rfl ?_
    refine g_iload_n (pc := 6) hc 2 dX12_isIn_6 rfl rfl ?_
    refine g_icmp_gt (pc := 7) hc 14 dX12_isIn_7 (by decide) (fun c2 => ?_) (fun c2 => ?_)
    · refine g_iconst (pc := 14) (v := nI 0) hc dX12_isIn_14 (by decide) ?_
      exact g_zret (pc := 15) hc dX12_isIn_15 (by decide) (by simp [bI, inr, c1, c2] <;> rfl) (rfl)
    · refine g_iconst (pc := 10) (v := nI 1) hc dX12_isIn_10 (by decide) ?_
      refine g_goto (pc := 11) hc 15 dX12_isIn_11 (by decide) ?_
      exact g_zret (pc := 15) hc dX12_isIn_15 (by decide) (by simp [bI, inr, c1, c2] <;> rfl) (rfl)

theorem dX12_isKind_0 : decode cX12_isKind 0 = .ok (.iload_n 0, 1) := by decide +kernel
theorem dX12_isKind_1 : decode cX12_isKind 1 = .ok (.iconst 0, 1) := by decide +kernel
theorem dX12_isKind_2 : decode cX12_isKind 2 = .ok (.iconst 3, 1) := by decide +kernel
theorem dX12_isKind_3 : decode cX12_isKind 3 = .ok (.invokestatic 113, 3) := by decide +kernel
theorem dX12_isKind_6 : decode cX12_isKind 6 = .ok (.ireturn, 1) := by decide +kernel

set_option maxHeartbeats 4000000 in
set_option maxRecDepth 100000 in
theorem c_X12_isKind (l : Launch) (E : Ev) {A : Nat → Prop} (ad : Nat → Nat) (hA : Oka 30 ad A) (sc : Nat → Int32) (ar : Nat → Nat → Int32) (la : Nat → Int64) (x : Int32) : Ct l E yX12_isKind (.code yX12_isKind cX12_isKind 1 (some .boolean)) ({ frames := 1, cells := 0, slots := 0, locals := 22 }) A (mw E ad sc ar la) [.int x] (some (.int (bI (inr x (nI 0) (nI 3))))) (mw E ad sc ar la) := by
  refine Ct.of (lv := [(0, .int x)]) (by decide +kernel) (Nat.le_of_ble_eq_true rfl) rfl ?_
  intro zp ze zs zm za zb zh zc hc
  refine g_iload_n (pc := 0) hc 0 dX12_isKind_0 rfl rfl ?_
  refine g_iconst (pc := 1) (v := nI 0) hc dX12_isKind_1 (by decide) ?_
  refine g_iconst (pc := 2) (v := nI 3) hc dX12_isKind_2 (by decide) ?_
  refine g_callSi (pc := 3) (rest := []) (As := [.int x, .int (nI 0), .int (nI 3)]) hc (c_X12_isIn l E ad hA sc ar la x (nI 0) (nI 3)) mi_X12_isIn tw_1136 rfl ⟨rfl, rfl, by decide, by decide⟩ (Nat.le_of_ble_eq_true rfl) ⟨Nat.le_refl _, Nat.le_refl _⟩ rfl dX12_isKind_3 ?_
  exact g_zret (pc := 6) hc dX12_isKind_6 (bI_nar _) (rfl) (rfl)

theorem dX12_isWalker_0 : decode cX12_isWalker 0 = .ok (.iload_n 0, 1) := by decide +kernel
theorem dX12_isWalker_1 : decode cX12_isWalker 1 = .ok (.iconst 0, 1) := by decide +kernel
theorem dX12_isWalker_2 : decode cX12_isWalker 2 = .ok (.iconst 4, 1) := by decide +kernel
theorem dX12_isWalker_3 : decode cX12_isWalker 3 = .ok (.invokestatic 113, 3) := by decide +kernel
theorem dX12_isWalker_6 : decode cX12_isWalker 6 = .ok (.ireturn, 1) := by decide +kernel

set_option maxHeartbeats 4000000 in
set_option maxRecDepth 100000 in
theorem c_X12_isWalker (l : Launch) (E : Ev) {A : Nat → Prop} (ad : Nat → Nat) (hA : Oka 30 ad A) (sc : Nat → Int32) (ar : Nat → Nat → Int32) (la : Nat → Int64) (x : Int32) : Ct l E yX12_isWalker (.code yX12_isWalker cX12_isWalker 1 (some .boolean)) ({ frames := 1, cells := 0, slots := 0, locals := 22 }) A (mw E ad sc ar la) [.int x] (some (.int (bI (inr x (nI 0) (nI 4))))) (mw E ad sc ar la) := by
  refine Ct.of (lv := [(0, .int x)]) (by decide +kernel) (Nat.le_of_ble_eq_true rfl) rfl ?_
  intro zp ze zs zm za zb zh zc hc
  refine g_iload_n (pc := 0) hc 0 dX12_isWalker_0 rfl rfl ?_
  refine g_iconst (pc := 1) (v := nI 0) hc dX12_isWalker_1 (by decide) ?_
  refine g_iconst (pc := 2) (v := nI 4) hc dX12_isWalker_2 (by decide) ?_
  refine g_callSi (pc := 3) (rest := []) (As := [.int x, .int (nI 0), .int (nI 4)]) hc (c_X12_isIn l E ad hA sc ar la x (nI 0) (nI 4)) mi_X12_isIn tw_1136 rfl ⟨rfl, rfl, by decide, by decide⟩ (Nat.le_of_ble_eq_true rfl) ⟨Nat.le_refl _, Nat.le_refl _⟩ rfl dX12_isWalker_3 ?_
  exact g_zret (pc := 6) hc dX12_isWalker_6 (bI_nar _) (rfl) (rfl)

theorem dX12_isSheet_0 : decode cX12_isSheet 0 = .ok (.iload_n 0, 1) := by decide +kernel
theorem dX12_isSheet_1 : decode cX12_isSheet 1 = .ok (.iconst 0, 1) := by decide +kernel
theorem dX12_isSheet_2 : decode cX12_isSheet 2 = .ok (.iconst 1, 1) := by decide +kernel
theorem dX12_isSheet_3 : decode cX12_isSheet 3 = .ok (.invokestatic 113, 3) := by decide +kernel
theorem dX12_isSheet_6 : decode cX12_isSheet 6 = .ok (.ireturn, 1) := by decide +kernel

set_option maxHeartbeats 4000000 in
set_option maxRecDepth 100000 in
theorem c_X12_isSheet (l : Launch) (E : Ev) {A : Nat → Prop} (ad : Nat → Nat) (hA : Oka 30 ad A) (sc : Nat → Int32) (ar : Nat → Nat → Int32) (la : Nat → Int64) (x : Int32) : Ct l E yX12_isSheet (.code yX12_isSheet cX12_isSheet 1 (some .boolean)) ({ frames := 1, cells := 0, slots := 0, locals := 22 }) A (mw E ad sc ar la) [.int x] (some (.int (bI (inr x (nI 0) (nI 1))))) (mw E ad sc ar la) := by
  refine Ct.of (lv := [(0, .int x)]) (by decide +kernel) (Nat.le_of_ble_eq_true rfl) rfl ?_
  intro zp ze zs zm za zb zh zc hc
  refine g_iload_n (pc := 0) hc 0 dX12_isSheet_0 rfl rfl ?_
  refine g_iconst (pc := 1) (v := nI 0) hc dX12_isSheet_1 (by decide) ?_
  refine g_iconst (pc := 2) (v := nI 1) hc dX12_isSheet_2 (by decide) ?_
  refine g_callSi (pc := 3) (rest := []) (As := [.int x, .int (nI 0), .int (nI 1)]) hc (c_X12_isIn l E ad hA sc ar la x (nI 0) (nI 1)) mi_X12_isIn tw_1136 rfl ⟨rfl, rfl, by decide, by decide⟩ (Nat.le_of_ble_eq_true rfl) ⟨Nat.le_refl _, Nat.le_refl _⟩ rfl dX12_isSheet_3 ?_
  exact g_zret (pc := 6) hc dX12_isSheet_6 (bI_nar _) (rfl) (rfl)

theorem dX12_paces_0 : decode cX12_paces 0 = .ok (.aload_n 0, 1) := by decide +kernel
theorem dX12_paces_1 : decode cX12_paces 1 = .ok (.getfield 7, 3) := by decide +kernel
theorem dX12_paces_4 : decode cX12_paces 4 = .ok (.aload_n 0, 1) := by decide +kernel
theorem dX12_paces_5 : decode cX12_paces 5 = .ok (.getfield 13, 3) := by decide +kernel
theorem dX12_paces_8 : decode cX12_paces 8 = .ok (.imul, 1) := by decide +kernel
theorem dX12_paces_9 : decode cX12_paces 9 = .ok (.ireturn, 1) := by decide +kernel

set_option maxHeartbeats 4000000 in
set_option maxRecDepth 100000 in
theorem c_X12_paces (l : Launch) (E : Ev) {A : Nat → Prop} (ad : Nat → Nat) (hA : Oka 30 ad A) (sc : Nat → Int32) (ar : Nat → Nat → Int32) (la : Nat → Int64) {wd hg : Nat}  (hwd : sc 0 = nI wd) (hwd1 : 2 ≤ wd) (hwd2 : wd ≤ 8) (hhg : sc 1 = nI hg) (hhg1 : 2 ≤ hg) (hhg2 : hg ≤ 8) : Ct l E yX12_paces (.code yX12_paces cX12_paces 1 (some .int)) ({ frames := 0, cells := 0, slots := 0, locals := 0 }) A (mw E ad sc ar la) [.ref (ad 0)] (some (.int (nI (wd * hg)))) (mw E ad sc ar la) := by
  refine Ct.of (lv := [(0, .ref (ad 0))]) (by decide +kernel) (Nat.le_of_ble_eq_true rfl) rfl ?_
  intro zp ze zs zm za zb zh zc hc
  refine g_aload_n (pc := 0) hc 0 dX12_paces_0 rfl rfl ?_
  refine gf_m0_wide (pc := 1) hc tw_1001 dX12_paces_1 ?_
  refine g_topi (v := nI wd) (hwd) ?_
  refine g_aload_n (pc := 4) hc 0 dX12_paces_4 rfl rfl ?_
  refine gf_m0_high (pc := 5) hc tw_1002 dX12_paces_5 ?_
  refine g_topi (v := nI hg) (hhg) ?_
  refine g_imul (pc := 8) hc dX12_paces_8 ?_
  refine g_topi (v := nI (wd * hg)) (pk_mul wd hg) ?_
  exact g_iret (pc := 9) hc dX12_paces_9 (rfl) (rfl)

theorem dX12_isPace_0 : decode cX12_isPace 0 = .ok (.iload_n 1, 1) := by decide +kernel
theorem dX12_isPace_1 : decode cX12_isPace 1 = .ok (.iconst 0, 1) := by decide +kernel
theorem dX12_isPace_2 : decode cX12_isPace 2 = .ok (.aload_n 0, 1) := by decide +kernel
theorem dX12_isPace_3 : decode cX12_isPace 3 = .ok (.invokevirtual 109, 3) := by decide +kernel
theorem dX12_isPace_6 : decode cX12_isPace 6 = .ok (.iconst 1, 1) := by decide +kernel
theorem dX12_isPace_7 : decode cX12_isPace 7 = .ok (.isub, 1) := by decide +kernel
theorem dX12_isPace_8 : decode cX12_isPace 8 = .ok (.invokestatic 113, 3) := by decide +kernel
theorem dX12_isPace_11 : decode cX12_isPace 11 = .ok (.ireturn, 1) := by decide +kernel

set_option maxHeartbeats 4000000 in
set_option maxRecDepth 100000 in
theorem c_X12_isPace (l : Launch) (E : Ev) {A : Nat → Prop} (ad : Nat → Nat) (hA : Oka 30 ad A) (sc : Nat → Int32) (ar : Nat → Nat → Int32) (la : Nat → Int64) {wd hg : Nat} (x : Int32) (hwd : sc 0 = nI wd) (hwd1 : 2 ≤ wd) (hwd2 : wd ≤ 8) (hhg : sc 1 = nI hg) (hhg1 : 2 ≤ hg) (hhg2 : hg ≤ 8) : Ct l E yX12_isPace (.code yX12_isPace cX12_isPace 2 (some .boolean)) ({ frames := 1, cells := 0, slots := 0, locals := 22 }) A (mw E ad sc ar la) [.ref (ad 0), .int x] (some (.int (bI (inx x (nI (wd * hg)))))) (mw E ad sc ar la) := by
  have hm := prod64 hwd2 hhg2
  refine Ct.of (lv := [(0, .ref (ad 0)), (1, .int x)]) (by decide +kernel) (Nat.le_of_ble_eq_true rfl) rfl ?_
  intro zp ze zs zm za zb zh zc hc
  refine g_iload_n (pc := 0) hc 1 dX12_isPace_0 rfl rfl ?_
  refine g_iconst (pc := 1) (v := nI 0) hc dX12_isPace_1 (by decide) ?_
  refine g_aload_n (pc := 2) hc 0 dX12_isPace_2 rfl rfl ?_
  refine g_callVi (pc := 3) (rest := [.int (nI 0), .int x]) (As := []) hc (c_X12_paces l E ad hA sc ar la  (hwd) (hwd1) (hwd2) (hhg) (hhg1) (hhg2)) mi_X12_paces tw_1140 0 rfl rfl rfl rfl ⟨rfl, rfl, by decide, by decide⟩ (Nat.le_of_ble_eq_true rfl) ⟨Nat.le_refl _, Nat.le_refl _⟩ rfl dX12_isPace_3 ?_
  refine g_iconst (pc := 6) (v := nI 1) hc dX12_isPace_6 (by decide) ?_
  refine g_isub (pc := 7) hc dX12_isPace_7 ?_
  refine g_callSi (pc := 8) (rest := []) (As := [.int x, .int (nI 0), .int ((nI (wd * hg)) - (nI 1))]) hc (c_X12_isIn l E ad hA sc ar la x (nI 0) ((nI (wd * hg)) - (nI 1))) mi_X12_isIn tw_1136 rfl ⟨rfl, rfl, by decide, by decide⟩ (Nat.le_of_ble_eq_true rfl) ⟨Nat.le_refl _, Nat.le_refl _⟩ rfl dX12_isPace_8 ?_
  refine g_topi (v := bI (inx x (nI (wd * hg)))) (by rw [inr_pred _ (by omega)]) ?_
  exact g_zret (pc := 11) hc dX12_isPace_11 (bI_nar _) (rfl) (rfl)

theorem dX12_isRow_0 : decode cX12_isRow 0 = .ok (.iload_n 1, 1) := by decide +kernel
theorem dX12_isRow_1 : decode cX12_isRow 1 = .ok (.iconst 0, 1) := by decide +kernel
theorem dX12_isRow_2 : decode cX12_isRow 2 = .ok (.aload_n 0, 1) := by decide +kernel
theorem dX12_isRow_3 : decode cX12_isRow 3 = .ok (.getfield 13, 3) := by decide +kernel
theorem dX12_isRow_6 : decode cX12_isRow 6 = .ok (.iconst 1, 1) := by decide +kernel
theorem dX12_isRow_7 : decode cX12_isRow 7 = .ok (.isub, 1) := by decide +kernel
theorem dX12_isRow_8 : decode cX12_isRow 8 = .ok (.invokestatic 113, 3) := by decide +kernel
theorem dX12_isRow_11 : decode cX12_isRow 11 = .ok (.ireturn, 1) := by decide +kernel

set_option maxHeartbeats 4000000 in
set_option maxRecDepth 100000 in
theorem c_X12_isRow (l : Launch) (E : Ev) {A : Nat → Prop} (ad : Nat → Nat) (hA : Oka 30 ad A) (sc : Nat → Int32) (ar : Nat → Nat → Int32) (la : Nat → Int64) {wd hg : Nat} (x : Int32) (hwd : sc 0 = nI wd) (hwd1 : 2 ≤ wd) (hwd2 : wd ≤ 8) (hhg : sc 1 = nI hg) (hhg1 : 2 ≤ hg) (hhg2 : hg ≤ 8) : Ct l E yX12_isRow (.code yX12_isRow cX12_isRow 2 (some .boolean)) ({ frames := 1, cells := 0, slots := 0, locals := 22 }) A (mw E ad sc ar la) [.ref (ad 0), .int x] (some (.int (bI (inx x (nI hg))))) (mw E ad sc ar la) := by
  refine Ct.of (lv := [(0, .ref (ad 0)), (1, .int x)]) (by decide +kernel) (Nat.le_of_ble_eq_true rfl) rfl ?_
  intro zp ze zs zm za zb zh zc hc
  refine g_iload_n (pc := 0) hc 1 dX12_isRow_0 rfl rfl ?_
  refine g_iconst (pc := 1) (v := nI 0) hc dX12_isRow_1 (by decide) ?_
  refine g_aload_n (pc := 2) hc 0 dX12_isRow_2 rfl rfl ?_
  refine gf_m0_high (pc := 3) hc tw_1002 dX12_isRow_3 ?_
  refine g_topi (v := nI hg) (hhg) ?_
  refine g_iconst (pc := 6) (v := nI 1) hc dX12_isRow_6 (by decide) ?_
  refine g_isub (pc := 7) hc dX12_isRow_7 ?_
  refine g_callSi (pc := 8) (rest := []) (As := [.int x, .int (nI 0), .int ((nI hg) - (nI 1))]) hc (c_X12_isIn l E ad hA sc ar la x (nI 0) ((nI hg) - (nI 1))) mi_X12_isIn tw_1136 rfl ⟨rfl, rfl, by decide, by decide⟩ (Nat.le_of_ble_eq_true rfl) ⟨Nat.le_refl _, Nat.le_refl _⟩ rfl dX12_isRow_8 ?_
  refine g_topi (v := bI (inx x (nI hg))) (by rw [inr_pred _ (by omega)]) ?_
  exact g_zret (pc := 11) hc dX12_isRow_11 (bI_nar _) (rfl) (rfl)

theorem dX12_isWalk_0 : decode cX12_isWalk 0 = .ok (.iload_n 1, 1) := by decide +kernel
theorem dX12_isWalk_1 : decode cX12_isWalk 1 = .ok (.iconst 0, 1) := by decide +kernel
theorem dX12_isWalk_2 : decode cX12_isWalk 2 = .ok (.aload_n 0, 1) := by decide +kernel
theorem dX12_isWalk_3 : decode cX12_isWalk 3 = .ok (.getfield 117, 3) := by decide +kernel
theorem dX12_isWalk_6 : decode cX12_isWalk 6 = .ok (.iconst 1, 1) := by decide +kernel
theorem dX12_isWalk_7 : decode cX12_isWalk 7 = .ok (.isub, 1) := by decide +kernel
theorem dX12_isWalk_8 : decode cX12_isWalk 8 = .ok (.invokestatic 113, 3) := by decide +kernel
theorem dX12_isWalk_11 : decode cX12_isWalk 11 = .ok (.ireturn, 1) := by decide +kernel

set_option maxHeartbeats 4000000 in
set_option maxRecDepth 100000 in
theorem c_X12_isWalk (l : Launch) (E : Ev) {A : Nat → Prop} (ad : Nat → Nat) (hA : Oka 30 ad A) (sc : Nat → Int32) (ar : Nat → Nat → Int32) (la : Nat → Int64) {nW : Nat} (x : Int32) (hW : sc 3 = nI nW) (hW60 : nW ≤ 60) : Ct l E yX12_isWalk (.code yX12_isWalk cX12_isWalk 2 (some .boolean)) ({ frames := 1, cells := 0, slots := 0, locals := 22 }) A (mw E ad sc ar la) [.ref (ad 0), .int x] (some (.int (bI (inx x (nI nW))))) (mw E ad sc ar la) := by
  refine Ct.of (lv := [(0, .ref (ad 0)), (1, .int x)]) (by decide +kernel) (Nat.le_of_ble_eq_true rfl) rfl ?_
  intro zp ze zs zm za zb zh zc hc
  refine g_iload_n (pc := 0) hc 1 dX12_isWalk_0 rfl rfl ?_
  refine g_iconst (pc := 1) (v := nI 0) hc dX12_isWalk_1 (by decide) ?_
  refine g_aload_n (pc := 2) hc 0 dX12_isWalk_2 rfl rfl ?_
  refine gf_m0_walks (pc := 3) hc tw_1005 dX12_isWalk_3 ?_
  refine g_topi (v := nI nW) (hW) ?_
  refine g_iconst (pc := 6) (v := nI 1) hc dX12_isWalk_6 (by decide) ?_
  refine g_isub (pc := 7) hc dX12_isWalk_7 ?_
  refine g_callSi (pc := 8) (rest := []) (As := [.int x, .int (nI 0), .int ((nI nW) - (nI 1))]) hc (c_X12_isIn l E ad hA sc ar la x (nI 0) ((nI nW) - (nI 1))) mi_X12_isIn tw_1136 rfl ⟨rfl, rfl, by decide, by decide⟩ (Nat.le_of_ble_eq_true rfl) ⟨Nat.le_refl _, Nat.le_refl _⟩ rfl dX12_isWalk_8 ?_
  refine g_topi (v := bI (inx x (nI nW))) (by rw [inr_pred _ (by omega)]) ?_
  exact g_zret (pc := 11) hc dX12_isWalk_11 (bI_nar _) (rfl) (rfl)

theorem dX12_field_0 : decode cX12_field 0 = .ok (.iload_n 1, 1) := by decide +kernel
theorem dX12_field_1 : decode cX12_field 1 = .ok (.iconst 2, 1) := by decide +kernel
theorem dX12_field_2 : decode cX12_field 2 = .ok (.bipush 8, 2) := by decide +kernel
theorem dX12_field_4 : decode cX12_field 4 = .ok (.invokestatic 113, 3) := by decide +kernel
theorem dX12_field_7 : decode cX12_field 7 = .ok (.ifCond .eq 13, 3) := by decide +kernel
theorem dX12_field_10 : decode cX12_field 10 = .ok (.iload_n 2, 1) := by decide +kernel
theorem dX12_field_11 : decode cX12_field 11 = .ok (.iconst 2, 1) := by decide +kernel
theorem dX12_field_12 : decode cX12_field 12 = .ok (.bipush 8, 2) := by decide +kernel
theorem dX12_field_14 : decode cX12_field 14 = .ok (.invokestatic 113, 3) := by decide +kernel
theorem dX12_field_17 : decode cX12_field 17 = .ok (.ifCond .ne 6, 3) := by decide +kernel
theorem dX12_field_20 : decode cX12_field 20 = .ok (.ldc 120, 2) := by decide +kernel
theorem dX12_field_22 : decode cX12_field 22 = .ok (.ireturn, 1) := by decide +kernel
theorem dX12_field_23 : decode cX12_field 23 = .ok (.aload_n 0, 1) := by decide +kernel
theorem dX12_field_24 : decode cX12_field 24 = .ok (.iload_n 1, 1) := by decide +kernel
theorem dX12_field_25 : decode cX12_field 25 = .ok (.putfield 7, 3) := by decide +kernel
theorem dX12_field_28 : decode cX12_field 28 = .ok (.aload_n 0, 1) := by decide +kernel
theorem dX12_field_29 : decode cX12_field 29 = .ok (.iload_n 2, 1) := by decide +kernel
theorem dX12_field_30 : decode cX12_field 30 = .ok (.putfield 13, 3) := by decide +kernel
theorem dX12_field_33 : decode cX12_field 33 = .ok (.aload_n 0, 1) := by decide +kernel
theorem dX12_field_34 : decode cX12_field 34 = .ok (.iconst 0, 1) := by decide +kernel
theorem dX12_field_35 : decode cX12_field 35 = .ok (.putfield 117, 3) := by decide +kernel
theorem dX12_field_38 : decode cX12_field 38 = .ok (.aload_n 0, 1) := by decide +kernel
theorem dX12_field_39 : decode cX12_field 39 = .ok (.iconst 0, 1) := by decide +kernel
theorem dX12_field_40 : decode cX12_field 40 = .ok (.putfield 121, 3) := by decide +kernel
theorem dX12_field_43 : decode cX12_field 43 = .ok (.iconst 0, 1) := by decide +kernel
theorem dX12_field_44 : decode cX12_field 44 = .ok (.istore_n 3, 1) := by decide +kernel
theorem dX12_field_45 : decode cX12_field 45 = .ok (.iload_n 3, 1) := by decide +kernel
theorem dX12_field_46 : decode cX12_field 46 = .ok (.bipush 64, 2) := by decide +kernel
theorem dX12_field_48 : decode cX12_field 48 = .ok (.if_icmp .ge 16, 3) := by decide +kernel
theorem dX12_field_51 : decode cX12_field 51 = .ok (.aload_n 0, 1) := by decide +kernel
theorem dX12_field_52 : decode cX12_field 52 = .ok (.getfield 41, 3) := by decide +kernel
theorem dX12_field_55 : decode cX12_field 55 = .ok (.iload_n 3, 1) := by decide +kernel
theorem dX12_field_56 : decode cX12_field 56 = .ok (.iconst 0, 1) := by decide +kernel
theorem dX12_field_57 : decode cX12_field 57 = .ok (.bastore, 1) := by decide +kernel
theorem dX12_field_58 : decode cX12_field 58 = .ok (.iinc 3 1, 3) := by decide +kernel
theorem dX12_field_61 : decode cX12_field 61 = .ok (.goto (-16), 3) := by decide +kernel
theorem dX12_field_64 : decode cX12_field 64 = .ok (.aload_n 0, 1) := by decide +kernel
theorem dX12_field_65 : decode cX12_field 65 = .ok (.invokevirtual 109, 3) := by decide +kernel
theorem dX12_field_68 : decode cX12_field 68 = .ok (.ireturn, 1) := by decide +kernel

set_option maxHeartbeats 4000000 in
set_option maxRecDepth 100000 in
theorem c_X12_field (l : Launch) (E : Ev) {A : Nat → Prop} (ad : Nat → Nat) (hA : Oka 30 ad A) (sc : Nat → Int32) (ar : Nat → Nat → Int32) (la : Nat → Int64)  (x : Int32) (y : Int32)  : Ct l E yX12_field (.code yX12_field cX12_field 4 (some .int)) ({ frames := 1, cells := 0, slots := 0, locals := 22 }) A (mw E ad sc ar la) [.ref (ad 0), .int x, .int y] (some (.int (if ok2 (inr x (nI 2) (nI 8)) (inr y (nI 2) (nI 8)) = true then x * y else (-1000000001)))) (if ok2 (inr x (nI 2) (nI 8)) (inr y (nI 2) (nI 8)) = true then mw E ad (va_up (va_up (va_up (va_up sc 0 x) 1 y) 3 (nI 0)) 4 (nI 0)) (va_up ar 9 (fil (vp_nar .boolean (nI 0)) (ar 9) 64)) la else mw E ad sc ar la) := by
  refine Ct.of (lv := [(0, .ref (ad 0)), (1, .int x), (2, .int y)]) (by decide +kernel) (Nat.le_of_ble_eq_true rfl) rfl ?_
  intro zp ze zs zm za zb zh zc hc
  refine g_iload_n (pc := 0) hc 1 dX12_field_0 rfl rfl ?_
  refine g_iconst (pc := 1) (v := nI 2) hc dX12_field_1 (by decide) ?_
  refine g_bipush (pc := 2) (v := nI 8) hc dX12_field_2 (by decide) ?_
  refine g_callSi (pc := 4) (rest := []) (As := [.int x, .int (nI 2), .int (nI 8)]) hc (c_X12_isIn l E ad hA sc ar la x (nI 2) (nI 8)) mi_X12_isIn tw_1136 rfl ⟨rfl, rfl, by decide, by decide⟩ (Nat.le_of_ble_eq_true rfl) ⟨Nat.le_refl _, Nat.le_refl _⟩ rfl dX12_field_4 ?_
  refine g_if_eq_b (pc := 7) hc 20 dX12_field_7 (by decide) (fun c1 => ?_) (fun c1 => ?_)
  · refine g_ldc (pc := 20) (v := (-1000000001)) hc tw_1139 dX12_field_20 ?_
    exact g_iret (pc := 22) hc dX12_field_22 (by rw [if_neg (ne_true_of_eq_false (ok2_f1 c1))]) (by rw [if_neg (ne_true_of_eq_false (ok2_f1 c1))])
  · obtain ⟨a, ha1, ha2, ha⟩ := inr_of (by decide) c1 (by decide)
    refine g_eq (ws' := mw E ad sc ar la) (lv' := [(0, .ref (ad 0)), (1, .int (nI a)), (2, .int y)]) rfl (by rw [ha]) rfl ?_
    refine g_iload_n (pc := 10) hc 2 dX12_field_10 rfl rfl ?_
    refine g_iconst (pc := 11) (v := nI 2) hc dX12_field_11 (by decide) ?_
    refine g_bipush (pc := 12) (v := nI 8) hc dX12_field_12 (by decide) ?_
    refine g_callSi (pc := 14) (rest := []) (As := [.int y, .int (nI 2), .int (nI 8)]) hc (c_X12_isIn l E ad hA sc ar la y (nI 2) (nI 8)) mi_X12_isIn tw_1136 rfl ⟨rfl, rfl, by decide, by decide⟩ (Nat.le_of_ble_eq_true rfl) ⟨Nat.le_refl _, Nat.le_refl _⟩ rfl dX12_field_14 ?_
    refine g_if_ne_b (pc := 17) hc 23 dX12_field_17 (by decide) (fun c2 => ?_) (fun c2 => ?_)
    · obtain ⟨b, hb1, hb2, hb⟩ := inr_of (by decide) c2 (by decide)
      refine g_eq (ws' := mw E ad sc ar la) (lv' := [(0, .ref (ad 0)), (1, .int (nI a)), (2, .int (nI b))]) rfl (by rw [hb]) rfl ?_
      refine g_aload_n (pc := 23) hc 0 dX12_field_23 rfl rfl ?_
      refine g_iload_n (pc := 24) hc 1 dX12_field_24 rfl rfl ?_
      refine pf_m0_wide (pc := 25) hc hA tw_1001 dX12_field_25 ?_
      refine g_aload_n (pc := 28) hc 0 dX12_field_28 rfl rfl ?_
      refine g_iload_n (pc := 29) hc 2 dX12_field_29 rfl rfl ?_
      refine pf_m0_high (pc := 30) hc hA tw_1002 dX12_field_30 ?_
      refine g_aload_n (pc := 33) hc 0 dX12_field_33 rfl rfl ?_
      refine g_iconst (pc := 34) (v := nI 0) hc dX12_field_34 (by decide) ?_
      refine pf_m0_walks (pc := 35) hc hA tw_1005 dX12_field_35 ?_
      refine g_aload_n (pc := 38) hc 0 dX12_field_38 rfl rfl ?_
      refine g_iconst (pc := 39) (v := nI 0) hc dX12_field_39 (by decide) ?_
      refine pf_m0_finds (pc := 40) hc hA tw_1009 dX12_field_40 ?_
      refine g_iconst (pc := 43) (v := nI 0) hc dX12_field_43 (by decide) ?_
      refine g_istore_n (pc := 44) (lv' := [(0, .ref (ad 0)), (1, .int (nI a)), (2, .int (nI b)), (3, .int (nI 0))]) hc dX12_field_44 rfl (by decide) rfl ?_
      have L45_3 : ∀ (ki i : Nat), i + ki = 64 → G zp l ze ({ frames := 1, cells := 0, slots := 0, locals := 22 }) zs zm za zb zh zc 0 0 (MQ zb (Qz E A (some (.int (if ok2 (inr x (nI 2) (nI 8)) (inr y (nI 2) (nI 8)) = true then x * y else (-1000000001)))) (if ok2 (inr x (nI 2) (nI 8)) (inr y (nI 2) (nI 8)) = true then mw E ad (va_up (va_up (va_up (va_up sc 0 x) 1 y) 3 (nI 0)) 4 (nI 0)) (va_up ar 9 (fil (vp_nar .boolean (nI 0)) (ar 9) 64)) la else mw E ad sc ar la)) za zs 0 0 A) E A 4 (mw E ad (va_up (va_up (va_up (va_up sc 0 (nI a)) 1 (nI b)) 3 (nI 0)) 4 (nI 0)) (va_up ar 9 (fil (vp_nar .boolean (nI 0)) (ar 9) (i))) la) (45) [(0, .ref (ad 0)), (1, .int (nI a)), (2, .int (nI b)), (3, .int (nI (i)))] [] := by
        intro ki
        induction ki with
        | zero =>
          intro i lhi
          have lhin : 64 = i := by omega
          subst lhin
          refine g_iload_n (pc := 45) hc 3 dX12_field_45 rfl rfl ?_
          refine g_bipush (pc := 46) (v := nI 64) hc dX12_field_46 (by decide) ?_
          refine g_icmp_ge_t (pc := 48) hc 64 dX12_field_48 (by decide) (nI_le (by omega) (by omega)) ?_
          refine g_aload_n (pc := 64) hc 0 dX12_field_64 rfl rfl ?_
          refine g_callVi (pc := 65) (rest := []) (As := []) hc (c_X12_paces l E ad hA (va_up (va_up (va_up (va_up sc 0 (nI a)) 1 (nI b)) 3 (nI 0)) 4 (nI 0)) (va_up ar 9 (fil (vp_nar .boolean (nI 0)) (ar 9) (64))) la (wd := a) (hg := b) rfl ha1 ha2 rfl hb1 hb2) mi_X12_paces tw_1140 0 rfl rfl rfl rfl ⟨rfl, rfl, by decide, by decide⟩ (Nat.le_of_ble_eq_true rfl) ⟨Nat.le_refl _, Nat.le_refl _⟩ rfl dX12_field_65 ?_
          refine g_topi (v := nI (a * b)) rfl ?_
          exact g_iret (pc := 68) hc dX12_field_68 (by rw [if_pos (ok2_t c1 c2), ha, hb, pk_mul]) (by rw [if_pos (ok2_t c1 c2), ha, hb])
        | succ ki ihi =>
          intro i lhi
          have lhin : i < 64 := by omega
          refine g_iload_n (pc := 45) hc 3 dX12_field_45 rfl rfl ?_
          refine g_bipush (pc := 46) (v := nI 64) hc dX12_field_46 (by decide) ?_
          refine g_icmp_ge_f (pc := 48) hc 64 dX12_field_48 (by decide) (nI_ge (by omega) (by omega)) ?_
          refine g_aload_n (pc := 51) hc 0 dX12_field_51 rfl rfl ?_
          refine gf_m0_isEmpty (pc := 52) hc tw_1014 dX12_field_52 ?_
          refine g_iload_n (pc := 55) hc 3 dX12_field_55 rfl rfl ?_
          refine g_iconst (pc := 56) (v := nI 0) hc dX12_field_56 (by decide) ?_
          refine sa_m9 (pc := 57) hc hA (i) (rfl) (by omega) dX12_field_57 ?_
          refine g_eq (ws' := mw E ad (va_up (va_up (va_up (va_up sc 0 (nI a)) 1 (nI b)) 3 (nI 0)) 4 (nI 0)) (va_up ar 9 (upd (fil (vp_nar .boolean (nI 0)) (ar 9) (i)) i (vp_nar .boolean (nI 0)))) la) (lv' := [(0, .ref (ad 0)), (1, .int (nI a)), (2, .int (nI b)), (3, .int (nI (i)))]) rfl rfl rfl ?_
          refine g_iinc (pc := 58) (v := nI (i + 1)) (lv' := [(0, .ref (ad 0)), (1, .int (nI a)), (2, .int (nI b)), (3, .int (nI (i + 1)))]) hc 3 dX12_field_58 rfl (nI_ofi i 1) (by decide) rfl ?_
          refine g_goto (pc := 61) hc 45 dX12_field_61 (by decide) ?_
          exact g_eq (ws' := mw E ad (va_up (va_up (va_up (va_up sc 0 (nI a)) 1 (nI b)) 3 (nI 0)) 4 (nI 0)) (va_up ar 9 (fil (vp_nar .boolean (nI 0)) (ar 9) (i + 1))) la) (lv' := [(0, .ref (ad 0)), (1, .int (nI a)), (2, .int (nI b)), (3, .int (nI (i + 1)))]) (by rw [fil_succ]) (rfl) rfl (ihi (i + 1) (by omega))
      exact g_eq (ws' := mw E ad (va_up (va_up (va_up (va_up sc 0 (nI a)) 1 (nI b)) 3 (nI 0)) 4 (nI 0)) (va_up ar 9 (fil (vp_nar .boolean (nI 0)) (ar 9) (0))) la) (lv' := [(0, .ref (ad 0)), (1, .int (nI a)), (2, .int (nI b)), (3, .int (nI (0)))]) (by rw [fil_0]; rfl) (rfl) rfl (L45_3 (64 - 0) (0) (by omega))
    · refine g_ldc (pc := 20) (v := (-1000000001)) hc tw_1139 dX12_field_20 ?_
      exact g_iret (pc := 22) hc dX12_field_22 (by rw [if_neg (ne_true_of_eq_false (ok2_f2 c1 c2))]) (by rw [if_neg (ne_true_of_eq_false (ok2_f2 c1 c2))])

theorem dX12_sort_0 : decode cX12_sort 0 = .ok (.iload_n 1, 1) := by decide +kernel
theorem dX12_sort_1 : decode cX12_sort 1 = .ok (.invokestatic 124, 3) := by decide +kernel
theorem dX12_sort_4 : decode cX12_sort 4 = .ok (.ifCond .eq 12, 3) := by decide +kernel
theorem dX12_sort_7 : decode cX12_sort 7 = .ok (.iload_n 2, 1) := by decide +kernel
theorem dX12_sort_8 : decode cX12_sort 8 = .ok (.iconst 0, 1) := by decide +kernel
theorem dX12_sort_9 : decode cX12_sort 9 = .ok (.iconst 3, 1) := by decide +kernel
theorem dX12_sort_10 : decode cX12_sort 10 = .ok (.invokestatic 113, 3) := by decide +kernel
theorem dX12_sort_13 : decode cX12_sort 13 = .ok (.ifCond .ne 6, 3) := by decide +kernel
theorem dX12_sort_16 : decode cX12_sort 16 = .ok (.ldc 120, 2) := by decide +kernel
theorem dX12_sort_18 : decode cX12_sort 18 = .ok (.ireturn, 1) := by decide +kernel
theorem dX12_sort_19 : decode cX12_sort 19 = .ok (.aload_n 0, 1) := by decide +kernel
theorem dX12_sort_20 : decode cX12_sort 20 = .ok (.getfield 16, 3) := by decide +kernel
theorem dX12_sort_23 : decode cX12_sort 23 = .ok (.iload_n 1, 1) := by decide +kernel
theorem dX12_sort_24 : decode cX12_sort 24 = .ok (.iaload, 1) := by decide +kernel
theorem dX12_sort_25 : decode cX12_sort 25 = .ok (.istore_n 3, 1) := by decide +kernel
theorem dX12_sort_26 : decode cX12_sort 26 = .ok (.aload_n 0, 1) := by decide +kernel
theorem dX12_sort_27 : decode cX12_sort 27 = .ok (.getfield 16, 3) := by decide +kernel
theorem dX12_sort_30 : decode cX12_sort 30 = .ok (.iload_n 1, 1) := by decide +kernel
theorem dX12_sort_31 : decode cX12_sort 31 = .ok (.iload_n 2, 1) := by decide +kernel
theorem dX12_sort_32 : decode cX12_sort 32 = .ok (.iastore, 1) := by decide +kernel
theorem dX12_sort_33 : decode cX12_sort 33 = .ok (.iload_n 3, 1) := by decide +kernel
theorem dX12_sort_34 : decode cX12_sort 34 = .ok (.ireturn, 1) := by decide +kernel

set_option maxHeartbeats 4000000 in
set_option maxRecDepth 100000 in
theorem c_X12_sort (l : Launch) (E : Ev) {A : Nat → Prop} (ad : Nat → Nat) (hA : Oka 30 ad A) (sc : Nat → Int32) (ar : Nat → Nat → Int32) (la : Nat → Int64)  (x : Int32) (y : Int32)  : Ct l E yX12_sort (.code yX12_sort cX12_sort 4 (some .int)) ({ frames := 2, cells := 0, slots := 0, locals := 42 }) A (mw E ad sc ar la) [.ref (ad 0), .int x, .int y] (some (.int (if ok2 (inr x (nI 0) (nI 3)) (inr y (nI 0) (nI 3)) = true then ar 1 (tn x) else (-1000000001)))) (if ok2 (inr x (nI 0) (nI 3)) (inr y (nI 0) (nI 3)) = true then mw E ad sc (va_up ar 1 (upd (ar 1) (tn x) y)) la else mw E ad sc ar la) := by
  refine Ct.of (lv := [(0, .ref (ad 0)), (1, .int x), (2, .int y)]) (by decide +kernel) (Nat.le_of_ble_eq_true rfl) rfl ?_
  intro zp ze zs zm za zb zh zc hc
  refine g_iload_n (pc := 0) hc 1 dX12_sort_0 rfl rfl ?_
  refine g_callSi (pc := 1) (rest := []) (As := [.int x]) hc (c_X12_isKind l E ad hA sc ar la x) mi_X12_isKind tw_1148 rfl ⟨rfl, rfl, by decide, by decide⟩ (Nat.le_of_ble_eq_true rfl) ⟨Nat.le_refl _, Nat.le_refl _⟩ rfl dX12_sort_1 ?_
  refine g_if_eq_b (pc := 4) hc 16 dX12_sort_4 (by decide) (fun c1 => ?_) (fun c1 => ?_)
  · refine g_ldc (pc := 16) (v := (-1000000001)) hc tw_1139 dX12_sort_16 ?_
    exact g_iret (pc := 18) hc dX12_sort_18 (by rw [if_neg (ne_true_of_eq_false (ok2_f1 c1))]) (by rw [if_neg (ne_true_of_eq_false (ok2_f1 c1))])
  · obtain ⟨j, hj1, hj2, hj⟩ := inr_of (by decide) c1 (by decide)
    refine g_eq (ws' := mw E ad sc ar la) (lv' := [(0, .ref (ad 0)), (1, .int (nI j)), (2, .int y)]) rfl (by rw [hj]) rfl ?_
    refine g_iload_n (pc := 7) hc 2 dX12_sort_7 rfl rfl ?_
    refine g_iconst (pc := 8) (v := nI 0) hc dX12_sort_8 (by decide) ?_
    refine g_iconst (pc := 9) (v := nI 3) hc dX12_sort_9 (by decide) ?_
    refine g_callSi (pc := 10) (rest := []) (As := [.int y, .int (nI 0), .int (nI 3)]) hc (c_X12_isIn l E ad hA sc ar la y (nI 0) (nI 3)) mi_X12_isIn tw_1136 rfl ⟨rfl, rfl, by decide, by decide⟩ (Nat.le_of_ble_eq_true rfl) ⟨Nat.le_refl _, Nat.le_refl _⟩ rfl dX12_sort_10 ?_
    refine g_if_ne_b (pc := 13) hc 19 dX12_sort_13 (by decide) (fun c2 => ?_) (fun c2 => ?_)
    · refine g_aload_n (pc := 19) hc 0 dX12_sort_19 rfl rfl ?_
      refine gf_m0_sorts (pc := 20) hc tw_1003 dX12_sort_20 ?_
      refine g_iload_n (pc := 23) hc 1 dX12_sort_23 rfl rfl ?_
      refine la_m1 (pc := 24) hc (j) (rfl) (by omega) dX12_sort_24 ?_
      refine g_istore_n (pc := 25) (lv' := [(0, .ref (ad 0)), (1, .int (nI j)), (2, .int y), (3, .int ((ar 1) j))]) hc dX12_sort_25 rfl (by decide) rfl ?_
      refine g_aload_n (pc := 26) hc 0 dX12_sort_26 rfl rfl ?_
      refine gf_m0_sorts (pc := 27) hc tw_1003 dX12_sort_27 ?_
      refine g_iload_n (pc := 30) hc 1 dX12_sort_30 rfl rfl ?_
      refine g_iload_n (pc := 31) hc 2 dX12_sort_31 rfl rfl ?_
      refine sa_m1 (pc := 32) hc hA (j) (rfl) (by omega) dX12_sort_32 ?_
      refine g_iload_n (pc := 33) hc 3 dX12_sort_33 rfl rfl ?_
      exact g_iret (pc := 34) hc dX12_sort_34 (by rw [if_pos (ok2_t c1 c2), hj, tn, nI_clamp (by omega)]) (by rw [if_pos (ok2_t c1 c2), hj, tn, nI_clamp (by omega)])
    · refine g_ldc (pc := 16) (v := (-1000000001)) hc tw_1139 dX12_sort_16 ?_
      exact g_iret (pc := 18) hc dX12_sort_18 (by rw [if_neg (ne_true_of_eq_false (ok2_f2 c1 c2))]) (by rw [if_neg (ne_true_of_eq_false (ok2_f2 c1 c2))])

theorem dX12_isOf_0 : decode cX12_isOf 0 = .ok (.iload_n 1, 1) := by decide +kernel
theorem dX12_isOf_1 : decode cX12_isOf 1 = .ok (.invokestatic 124, 3) := by decide +kernel
theorem dX12_isOf_4 : decode cX12_isOf 4 = .ok (.ifCond .eq 12, 3) := by decide +kernel
theorem dX12_isOf_7 : decode cX12_isOf 7 = .ok (.iload_n 2, 1) := by decide +kernel
theorem dX12_isOf_8 : decode cX12_isOf 8 = .ok (.iconst 0, 1) := by decide +kernel
theorem dX12_isOf_9 : decode cX12_isOf 9 = .ok (.iconst 3, 1) := by decide +kernel
theorem dX12_isOf_10 : decode cX12_isOf 10 = .ok (.invokestatic 113, 3) := by decide +kernel
theorem dX12_isOf_13 : decode cX12_isOf 13 = .ok (.ifCond .ne 6, 3) := by decide +kernel
theorem dX12_isOf_16 : decode cX12_isOf 16 = .ok (.ldc 120, 2) := by decide +kernel
theorem dX12_isOf_18 : decode cX12_isOf 18 = .ok (.ireturn, 1) := by decide +kernel
theorem dX12_isOf_19 : decode cX12_isOf 19 = .ok (.iload_n 2, 1) := by decide +kernel
theorem dX12_isOf_20 : decode cX12_isOf 20 = .ok (.ifCond .eq 28, 3) := by decide +kernel
theorem dX12_isOf_23 : decode cX12_isOf 23 = .ok (.aload_n 0, 1) := by decide +kernel
theorem dX12_isOf_24 : decode cX12_isOf 24 = .ok (.getfield 16, 3) := by decide +kernel
theorem dX12_isOf_27 : decode cX12_isOf 27 = .ok (.iload_n 1, 1) := by decide +kernel
theorem dX12_isOf_28 : decode cX12_isOf 28 = .ok (.iaload, 1) := by decide +kernel
theorem dX12_isOf_29 : decode cX12_isOf 29 = .ok (.iload_n 2, 1) := by decide +kernel
theorem dX12_isOf_30 : decode cX12_isOf 30 = .ok (.if_icmp .eq 18, 3) := by decide +kernel
theorem dX12_isOf_33 : decode cX12_isOf 33 = .ok (.iload_n 2, 1) := by decide +kernel
theorem dX12_isOf_34 : decode cX12_isOf 34 = .ok (.iconst 2, 1) := by decide +kernel
theorem dX12_isOf_35 : decode cX12_isOf 35 = .ok (.if_icmp .ne 17, 3) := by decide +kernel
theorem dX12_isOf_38 : decode cX12_isOf 38 = .ok (.aload_n 0, 1) := by decide +kernel
theorem dX12_isOf_39 : decode cX12_isOf 39 = .ok (.getfield 16, 3) := by decide +kernel
theorem dX12_isOf_42 : decode cX12_isOf 42 = .ok (.iload_n 1, 1) := by decide +kernel
theorem dX12_isOf_43 : decode cX12_isOf 43 = .ok (.iaload, 1) := by decide +kernel
theorem dX12_isOf_44 : decode cX12_isOf 44 = .ok (.iconst 3, 1) := by decide +kernel
theorem dX12_isOf_45 : decode cX12_isOf 45 = .ok (.if_icmp .ne 7, 3) := by decide +kernel
theorem dX12_isOf_48 : decode cX12_isOf 48 = .ok (.iconst 1, 1) := by decide +kernel
theorem dX12_isOf_49 : decode cX12_isOf 49 = .ok (.goto 4, 3) := by decide +kernel
theorem dX12_isOf_52 : decode cX12_isOf 52 = .ok (.iconst 0, 1) := by decide +kernel
theorem dX12_isOf_53 : decode cX12_isOf 53 = .ok (.ireturn, 1) := by decide +kernel

set_option maxHeartbeats 4000000 in
set_option maxRecDepth 100000 in
theorem c_X12_isOf (l : Launch) (E : Ev) {A : Nat → Prop} (ad : Nat → Nat) (hA : Oka 30 ad A) (sc : Nat → Int32) (ar : Nat → Nat → Int32) (la : Nat → Int64)  (x : Int32) (y : Int32)  : Ct l E yX12_isOf (.code yX12_isOf cX12_isOf 3 (some .int)) ({ frames := 2, cells := 0, slots := 0, locals := 42 }) A (mw E ad sc ar la) [.ref (ad 0), .int x, .int y] (some (.int (if ok2 (inr x (nI 0) (nI 3)) (inr y (nI 0) (nI 3)) = true then bI (cts (ar 1) (tn x) y) else (-1000000001)))) (mw E ad sc ar la) := by
  refine Ct.of (lv := [(0, .ref (ad 0)), (1, .int x), (2, .int y)]) (by decide +kernel) (Nat.le_of_ble_eq_true rfl) rfl ?_
  intro zp ze zs zm za zb zh zc hc
  refine g_iload_n (pc := 0) hc 1 dX12_isOf_0 rfl rfl ?_
  refine g_callSi (pc := 1) (rest := []) (As := [.int x]) hc (c_X12_isKind l E ad hA sc ar la x) mi_X12_isKind tw_1148 rfl ⟨rfl, rfl, by decide, by decide⟩ (Nat.le_of_ble_eq_true rfl) ⟨Nat.le_refl _, Nat.le_refl _⟩ rfl dX12_isOf_1 ?_
  refine g_if_eq_b (pc := 4) hc 16 dX12_isOf_4 (by decide) (fun c1 => ?_) (fun c1 => ?_)
  · refine g_ldc (pc := 16) (v := (-1000000001)) hc tw_1139 dX12_isOf_16 ?_
    exact g_iret (pc := 18) hc dX12_isOf_18 (by rw [if_neg (ne_true_of_eq_false (ok2_f1 c1))]) (rfl)
  · obtain ⟨j, hj1, hj2, hj⟩ := inr_of (by decide) c1 (by decide)
    refine g_eq (ws' := mw E ad sc ar la) (lv' := [(0, .ref (ad 0)), (1, .int (nI j)), (2, .int y)]) rfl (by rw [hj]) rfl ?_
    refine g_iload_n (pc := 7) hc 2 dX12_isOf_7 rfl rfl ?_
    refine g_iconst (pc := 8) (v := nI 0) hc dX12_isOf_8 (by decide) ?_
    refine g_iconst (pc := 9) (v := nI 3) hc dX12_isOf_9 (by decide) ?_
    refine g_callSi (pc := 10) (rest := []) (As := [.int y, .int (nI 0), .int (nI 3)]) hc (c_X12_isIn l E ad hA sc ar la y (nI 0) (nI 3)) mi_X12_isIn tw_1136 rfl ⟨rfl, rfl, by decide, by decide⟩ (Nat.le_of_ble_eq_true rfl) ⟨Nat.le_refl _, Nat.le_refl _⟩ rfl dX12_isOf_10 ?_
    refine g_if_ne_b (pc := 13) hc 19 dX12_isOf_13 (by decide) (fun c2 => ?_) (fun c2 => ?_)
    · refine g_iload_n (pc := 19) hc 2 dX12_isOf_19 rfl rfl ?_
      refine g_if_eq (pc := 20) hc 48 dX12_isOf_20 (by decide) (fun c3 => ?_) (fun c3 => ?_)
      · refine g_iconst (pc := 48) (v := nI 1) hc dX12_isOf_48 (by decide) ?_
        refine g_goto (pc := 49) hc 53 dX12_isOf_49 (by decide) ?_
        exact g_iret (pc := 53) hc dX12_isOf_53 (by rw [if_pos (ok2_t c1 c2), hj, tn, nI_clamp (by omega), cts]; (repeat (first | rw [if_pos c3] | rw [if_neg c3] | rw [if_neg (ne_true_of_eq_false c3)])); try rfl) (rfl)
      · refine g_aload_n (pc := 23) hc 0 dX12_isOf_23 rfl rfl ?_
        refine gf_m0_sorts (pc := 24) hc tw_1003 dX12_isOf_24 ?_
        refine g_iload_n (pc := 27) hc 1 dX12_isOf_27 rfl rfl ?_
        refine la_m1 (pc := 28) hc (j) (rfl) (by omega) dX12_isOf_28 ?_
        refine g_iload_n (pc := 29) hc 2 dX12_isOf_29 rfl rfl ?_
        refine g_icmp_eq (pc := 30) hc 48 dX12_isOf_30 (by decide) (fun c4 => ?_) (fun c4 => ?_)
        · refine g_iconst (pc := 48) (v := nI 1) hc dX12_isOf_48 (by decide) ?_
          refine g_goto (pc := 49) hc 53 dX12_isOf_49 (by decide) ?_
          exact g_iret (pc := 53) hc dX12_isOf_53 (by rw [if_pos (ok2_t c1 c2), hj, tn, nI_clamp (by omega), cts]; (repeat (first | rw [if_pos c3] | rw [if_neg c3] | rw [if_neg (ne_true_of_eq_false c3)] | rw [if_pos c4] | rw [if_neg c4] | rw [if_neg (ne_true_of_eq_false c4)])); try rfl) (rfl)
        · refine g_iload_n (pc := 33) hc 2 dX12_isOf_33 rfl rfl ?_
          refine g_iconst (pc := 34) (v := nI 2) hc dX12_isOf_34 (by decide) ?_
          refine g_icmp_ne (pc := 35) hc 52 dX12_isOf_35 (by decide) (fun c5 => ?_) (fun c5 => ?_)
          · refine g_iconst (pc := 52) (v := nI 0) hc dX12_isOf_52 (by decide) ?_
            exact g_iret (pc := 53) hc dX12_isOf_53 (by rw [if_pos (ok2_t c1 c2), hj, tn, nI_clamp (by omega), cts]; (repeat (first | rw [if_pos c3] | rw [if_neg c3] | rw [if_neg (ne_true_of_eq_false c3)] | rw [if_pos c4] | rw [if_neg c4] | rw [if_neg (ne_true_of_eq_false c4)] | rw [if_pos c5] | rw [if_neg c5] | rw [if_neg (ne_true_of_eq_false c5)])); try rfl) (rfl)
          · refine g_aload_n (pc := 38) hc 0 dX12_isOf_38 rfl rfl ?_
            refine gf_m0_sorts (pc := 39) hc tw_1003 dX12_isOf_39 ?_
            refine g_iload_n (pc := 42) hc 1 dX12_isOf_42 rfl rfl ?_
            refine la_m1 (pc := 43) hc (j) (rfl) (by omega) dX12_isOf_43 ?_
            refine g_iconst (pc := 44) (v := nI 3) hc dX12_isOf_44 (by decide) ?_
            refine g_icmp_ne (pc := 45) hc 52 dX12_isOf_45 (by decide) (fun c6 => ?_) (fun c6 => ?_)
            · refine g_iconst (pc := 52) (v := nI 0) hc dX12_isOf_52 (by decide) ?_
              exact g_iret (pc := 53) hc dX12_isOf_53 (by rw [if_pos (ok2_t c1 c2), hj, tn, nI_clamp (by omega), cts]; (repeat (first | rw [if_pos c3] | rw [if_neg c3] | rw [if_neg (ne_true_of_eq_false c3)] | rw [if_pos c4] | rw [if_neg c4] | rw [if_neg (ne_true_of_eq_false c4)] | rw [if_pos c5] | rw [if_neg c5] | rw [if_neg (ne_true_of_eq_false c5)] | rw [if_pos c6] | rw [if_neg c6] | rw [if_neg (ne_true_of_eq_false c6)])); try rfl) (rfl)
            · refine g_iconst (pc := 48) (v := nI 1) hc dX12_isOf_48 (by decide) ?_
              refine g_goto (pc := 49) hc 53 dX12_isOf_49 (by decide) ?_
              exact g_iret (pc := 53) hc dX12_isOf_53 (by rw [if_pos (ok2_t c1 c2), hj, tn, nI_clamp (by omega), cts]; (repeat (first | rw [if_pos c3] | rw [if_neg c3] | rw [if_neg (ne_true_of_eq_false c3)] | rw [if_pos c4] | rw [if_neg c4] | rw [if_neg (ne_true_of_eq_false c4)] | rw [if_pos c5] | rw [if_neg c5] | rw [if_neg (ne_true_of_eq_false c5)] | rw [if_pos c6] | rw [if_neg c6] | rw [if_neg (ne_true_of_eq_false c6)])); try rfl) (rfl)
    · refine g_ldc (pc := 16) (v := (-1000000001)) hc tw_1139 dX12_isOf_16 ?_
      exact g_iret (pc := 18) hc dX12_isOf_18 (by rw [if_neg (ne_true_of_eq_false (ok2_f2 c1 c2))]) (rfl)

theorem dX12_isLet_0 : decode cX12_isLet 0 = .ok (.iload_n 3, 1) := by decide +kernel
theorem dX12_isLet_1 : decode cX12_isLet 1 = .ok (.aload_n 0, 1) := by decide +kernel
theorem dX12_isLet_2 : decode cX12_isLet 2 = .ok (.getfield 54, 3) := by decide +kernel
theorem dX12_isLet_5 : decode cX12_isLet 5 = .ok (.iload_n 1, 1) := by decide +kernel
theorem dX12_isLet_6 : decode cX12_isLet 6 = .ok (.iaload, 1) := by decide +kernel
theorem dX12_isLet_7 : decode cX12_isLet 7 = .ok (.aload_n 0, 1) := by decide +kernel
theorem dX12_isLet_8 : decode cX12_isLet 8 = .ok (.getfield 57, 3) := by decide +kernel
theorem dX12_isLet_11 : decode cX12_isLet 11 = .ok (.iload_n 1, 1) := by decide +kernel
theorem dX12_isLet_12 : decode cX12_isLet 12 = .ok (.iaload, 1) := by decide +kernel
theorem dX12_isLet_13 : decode cX12_isLet 13 = .ok (.invokestatic 113, 3) := by decide +kernel
theorem dX12_isLet_16 : decode cX12_isLet 16 = .ok (.ifCond .eq 27, 3) := by decide +kernel
theorem dX12_isLet_19 : decode cX12_isLet 19 = .ok (.iload 4, 2) := by decide +kernel
theorem dX12_isLet_21 : decode cX12_isLet 21 = .ok (.aload_n 0, 1) := by decide +kernel
theorem dX12_isLet_22 : decode cX12_isLet 22 = .ok (.getfield 60, 3) := by decide +kernel
theorem dX12_isLet_25 : decode cX12_isLet 25 = .ok (.iload_n 1, 1) := by decide +kernel
theorem dX12_isLet_26 : decode cX12_isLet 26 = .ok (.iaload, 1) := by decide +kernel
theorem dX12_isLet_27 : decode cX12_isLet 27 = .ok (.aload_n 0, 1) := by decide +kernel
theorem dX12_isLet_28 : decode cX12_isLet 28 = .ok (.getfield 63, 3) := by decide +kernel
theorem dX12_isLet_31 : decode cX12_isLet 31 = .ok (.iload_n 1, 1) := by decide +kernel
theorem dX12_isLet_32 : decode cX12_isLet 32 = .ok (.iaload, 1) := by decide +kernel
theorem dX12_isLet_33 : decode cX12_isLet 33 = .ok (.invokestatic 113, 3) := by decide +kernel
theorem dX12_isLet_36 : decode cX12_isLet 36 = .ok (.ifCond .eq 7, 3) := by decide +kernel
theorem dX12_isLet_39 : decode cX12_isLet 39 = .ok (.iconst 1, 1) := by decide +kernel
theorem dX12_isLet_40 : decode cX12_isLet 40 = .ok (.goto 4, 3) := by decide +kernel
theorem dX12_isLet_43 : decode cX12_isLet 43 = .ok (.iconst 0, 1) := by decide +kernel
theorem dX12_isLet_44 : decode cX12_isLet 44 = .ok (.istore 5, 2) := by decide +kernel
theorem dX12_isLet_46 : decode cX12_isLet 46 = .ok (.iload 5, 2) := by decide +kernel
theorem dX12_isLet_48 : decode cX12_isLet 48 = .ok (.ifCond .eq 29, 3) := by decide +kernel
theorem dX12_isLet_51 : decode cX12_isLet 51 = .ok (.aload_n 0, 1) := by decide +kernel
theorem dX12_isLet_52 : decode cX12_isLet 52 = .ok (.getfield 69, 3) := by decide +kernel
theorem dX12_isLet_55 : decode cX12_isLet 55 = .ok (.iload_n 1, 1) := by decide +kernel
theorem dX12_isLet_56 : decode cX12_isLet 56 = .ok (.baload, 1) := by decide +kernel
theorem dX12_isLet_57 : decode cX12_isLet 57 = .ok (.ifCond .ne 20, 3) := by decide +kernel
theorem dX12_isLet_60 : decode cX12_isLet 60 = .ok (.aload_n 0, 1) := by decide +kernel
theorem dX12_isLet_61 : decode cX12_isLet 61 = .ok (.getfield 66, 3) := by decide +kernel
theorem dX12_isLet_64 : decode cX12_isLet 64 = .ok (.iload_n 1, 1) := by decide +kernel
theorem dX12_isLet_65 : decode cX12_isLet 65 = .ok (.iaload, 1) := by decide +kernel
theorem dX12_isLet_66 : decode cX12_isLet 66 = .ok (.iload_n 2, 1) := by decide +kernel
theorem dX12_isLet_67 : decode cX12_isLet 67 = .ok (.ishr, 1) := by decide +kernel
theorem dX12_isLet_68 : decode cX12_isLet 68 = .ok (.iconst 1, 1) := by decide +kernel
theorem dX12_isLet_69 : decode cX12_isLet 69 = .ok (.iand, 1) := by decide +kernel
theorem dX12_isLet_70 : decode cX12_isLet 70 = .ok (.ifCond .ne 7, 3) := by decide +kernel
theorem dX12_isLet_73 : decode cX12_isLet 73 = .ok (.iconst 1, 1) := by decide +kernel
theorem dX12_isLet_74 : decode cX12_isLet 74 = .ok (.goto 4, 3) := by decide +kernel
theorem dX12_isLet_77 : decode cX12_isLet 77 = .ok (.iconst 0, 1) := by decide +kernel
theorem dX12_isLet_78 : decode cX12_isLet 78 = .ok (.ireturn, 1) := by decide +kernel

set_option maxHeartbeats 4000000 in
set_option maxRecDepth 100000 in
theorem c_X12_isLet (l : Launch) (E : Ev) {A : Nat → Prop} (ad : Nat → Nat) (hA : Oka 30 ad A) (sc : Nat → Int32) (ar : Nat → Nat → Int32) (la : Nat → Int64) (i : Nat) (x : Int32) (y : Int32) (z : Int32) (hi : i < 12) : Ct l E yX12_isLet (.code yX12_isLet cX12_isLet 6 (some .boolean)) ({ frames := 1, cells := 0, slots := 0, locals := 22 }) A (mw E ad sc ar la) [.ref (ad 0), .int (nI i), .int x, .int y, .int z] (some (.int (bI (mok (ar 12) (ar 13) (ar 14) (ar 15) (ar 16) (ar 17) x y z i)))) (mw E ad sc ar la) := by
  refine Ct.of (lv := [(0, .ref (ad 0)), (1, .int (nI i)), (2, .int x), (3, .int y), (4, .int z)]) (by decide +kernel) (Nat.le_of_ble_eq_true rfl) rfl ?_
  intro zp ze zs zm za zb zh zc hc
  refine g_iload_n (pc := 0) hc 3 dX12_isLet_0 rfl rfl ?_
  refine g_aload_n (pc := 1) hc 0 dX12_isLet_1 rfl rfl ?_
  refine gf_m0_lFrom (pc := 2) hc tw_1021 dX12_isLet_2 ?_
  refine g_iload_n (pc := 5) hc 1 dX12_isLet_5 rfl rfl ?_
  refine la_m12 (pc := 6) hc (i) (rfl) (by omega) dX12_isLet_6 ?_
  refine g_aload_n (pc := 7) hc 0 dX12_isLet_7 rfl rfl ?_
  refine gf_m0_lTo (pc := 8) hc tw_1022 dX12_isLet_8 ?_
  refine g_iload_n (pc := 11) hc 1 dX12_isLet_11 rfl rfl ?_
  refine la_m13 (pc := 12) hc (i) (rfl) (by omega) dX12_isLet_12 ?_
  refine g_callSi (pc := 13) (rest := []) (As := [.int y, .int ((ar 12) i), .int ((ar 13) i)]) hc (c_X12_isIn l E ad hA sc ar la y ((ar 12) i) ((ar 13) i)) mi_X12_isIn tw_1136 rfl ⟨rfl, rfl, by decide, by decide⟩ (Nat.le_of_ble_eq_true rfl) ⟨Nat.le_refl _, Nat.le_refl _⟩ rfl dX12_isLet_13 ?_
  refine g_if_eq_b (pc := 16) hc 43 dX12_isLet_16 (by decide) (fun c1 => ?_) (fun c1 => ?_)
  · refine g_iconst (pc := 43) (v := nI 0) hc dX12_isLet_43 (by decide) ?_
    refine g_istore (pc := 44) (lv' := [(0, .ref (ad 0)), (1, .int (nI i)), (2, .int x), (3, .int y), (4, .int z), (5, .int (nI 0))]) hc dX12_isLet_44 (by decide) rfl ?_
    refine g_iload (pc := 46) hc 5 dX12_isLet_46 rfl ?_
    refine g_if_eq_t (pc := 48) hc 77 dX12_isLet_48 (by decide) (by decide) ?_
    refine g_iconst (pc := 77) (v := nI 0) hc dX12_isLet_77 (by decide) ?_
    exact g_zret (pc := 78) hc dX12_isLet_78 (by decide) (by unfold mok; (repeat (first | rw [if_pos c1] | rw [if_neg c1] | rw [if_neg (ne_true_of_eq_false c1)])); try rfl) (rfl)
  · refine g_iload (pc := 19) hc 4 dX12_isLet_19 rfl ?_
    refine g_aload_n (pc := 21) hc 0 dX12_isLet_21 rfl rfl ?_
    refine gf_m0_lFirst (pc := 22) hc tw_1023 dX12_isLet_22 ?_
    refine g_iload_n (pc := 25) hc 1 dX12_isLet_25 rfl rfl ?_
    refine la_m14 (pc := 26) hc (i) (rfl) (by omega) dX12_isLet_26 ?_
    refine g_aload_n (pc := 27) hc 0 dX12_isLet_27 rfl rfl ?_
    refine gf_m0_lLast (pc := 28) hc tw_1024 dX12_isLet_28 ?_
    refine g_iload_n (pc := 31) hc 1 dX12_isLet_31 rfl rfl ?_
    refine la_m15 (pc := 32) hc (i) (rfl) (by omega) dX12_isLet_32 ?_
    refine g_callSi (pc := 33) (rest := []) (As := [.int z, .int ((ar 14) i), .int ((ar 15) i)]) hc (c_X12_isIn l E ad hA sc ar la z ((ar 14) i) ((ar 15) i)) mi_X12_isIn tw_1136 rfl ⟨rfl, rfl, by decide, by decide⟩ (Nat.le_of_ble_eq_true rfl) ⟨Nat.le_refl _, Nat.le_refl _⟩ rfl dX12_isLet_33 ?_
    refine g_if_eq_b (pc := 36) hc 43 dX12_isLet_36 (by decide) (fun c2 => ?_) (fun c2 => ?_)
    · refine g_iconst (pc := 43) (v := nI 0) hc dX12_isLet_43 (by decide) ?_
      refine g_istore (pc := 44) (lv' := [(0, .ref (ad 0)), (1, .int (nI i)), (2, .int x), (3, .int y), (4, .int z), (5, .int (nI 0))]) hc dX12_isLet_44 (by decide) rfl ?_
      refine g_iload (pc := 46) hc 5 dX12_isLet_46 rfl ?_
      refine g_if_eq_t (pc := 48) hc 77 dX12_isLet_48 (by decide) (by decide) ?_
      refine g_iconst (pc := 77) (v := nI 0) hc dX12_isLet_77 (by decide) ?_
      exact g_zret (pc := 78) hc dX12_isLet_78 (by decide) (by unfold mok; (repeat (first | rw [if_pos c1] | rw [if_neg c1] | rw [if_neg (ne_true_of_eq_false c1)] | rw [if_pos c2] | rw [if_neg c2] | rw [if_neg (ne_true_of_eq_false c2)])); try rfl) (rfl)
    · refine g_iconst (pc := 39) (v := nI 1) hc dX12_isLet_39 (by decide) ?_
      refine g_goto (pc := 40) hc 44 dX12_isLet_40 (by decide) ?_
      refine g_istore (pc := 44) (lv' := [(0, .ref (ad 0)), (1, .int (nI i)), (2, .int x), (3, .int y), (4, .int z), (5, .int (nI 1))]) hc dX12_isLet_44 (by decide) rfl ?_
      refine g_iload (pc := 46) hc 5 dX12_isLet_46 rfl ?_
      refine g_if_eq_f (pc := 48) hc 77 dX12_isLet_48 (by decide) (by decide) ?_
      refine g_aload_n (pc := 51) hc 0 dX12_isLet_51 rfl rfl ?_
      refine gf_m0_isBack (pc := 52) hc tw_1026 dX12_isLet_52 ?_
      refine g_iload_n (pc := 55) hc 1 dX12_isLet_55 rfl rfl ?_
      refine la_m17 (pc := 56) hc (i) (rfl) (by omega) dX12_isLet_56 ?_
      refine g_if_ne (pc := 57) hc 77 dX12_isLet_57 (by decide) (fun c3 => ?_) (fun c3 => ?_)
      · refine g_iconst (pc := 77) (v := nI 0) hc dX12_isLet_77 (by decide) ?_
        exact g_zret (pc := 78) hc dX12_isLet_78 (by decide) (by unfold mok; (repeat (first | rw [if_pos c1] | rw [if_neg c1] | rw [if_neg (ne_true_of_eq_false c1)] | rw [if_pos c2] | rw [if_neg c2] | rw [if_neg (ne_true_of_eq_false c2)] | rw [if_pos c3] | rw [if_neg c3] | rw [if_neg (ne_true_of_eq_false c3)])); try rfl) (rfl)
      · refine g_aload_n (pc := 60) hc 0 dX12_isLet_60 rfl rfl ?_
        refine gf_m0_lNot (pc := 61) hc tw_1025 dX12_isLet_61 ?_
        refine g_iload_n (pc := 64) hc 1 dX12_isLet_64 rfl rfl ?_
        refine la_m16 (pc := 65) hc (i) (rfl) (by omega) dX12_isLet_65 ?_
        refine g_iload_n (pc := 66) hc 2 dX12_isLet_66 rfl rfl ?_
        refine g_ishr (pc := 67) hc dX12_isLet_67 ?_
        refine g_iconst (pc := 68) (v := nI 1) hc dX12_isLet_68 (by decide) ?_
        refine g_iand (pc := 69) hc dX12_isLet_69 ?_
        refine g_if_ne (pc := 70) hc 77 dX12_isLet_70 (by decide) (fun c4 => ?_) (fun c4 => ?_)
        · refine g_iconst (pc := 77) (v := nI 0) hc dX12_isLet_77 (by decide) ?_
          exact g_zret (pc := 78) hc dX12_isLet_78 (by decide) (by unfold mok; (repeat (first | rw [if_pos c1] | rw [if_neg c1] | rw [if_neg (ne_true_of_eq_false c1)] | rw [if_pos c2] | rw [if_neg c2] | rw [if_neg (ne_true_of_eq_false c2)] | rw [if_pos c3] | rw [if_neg c3] | rw [if_neg (ne_true_of_eq_false c3)] | rw [if_pos c4] | rw [if_neg c4] | rw [if_neg (ne_true_of_eq_false c4)])); try rfl) (rfl)
        · refine g_iconst (pc := 73) (v := nI 1) hc dX12_isLet_73 (by decide) ?_
          refine g_goto (pc := 74) hc 78 dX12_isLet_74 (by decide) ?_
          exact g_zret (pc := 78) hc dX12_isLet_78 (by decide) (by unfold mok; (repeat (first | rw [if_pos c1] | rw [if_neg c1] | rw [if_neg (ne_true_of_eq_false c1)] | rw [if_pos c2] | rw [if_neg c2] | rw [if_neg (ne_true_of_eq_false c2)] | rw [if_pos c3] | rw [if_neg c3] | rw [if_neg (ne_true_of_eq_false c3)] | rw [if_pos c4] | rw [if_neg c4] | rw [if_neg (ne_true_of_eq_false c4)])); try rfl) (rfl)

theorem dX12_letBy_0 : decode cX12_letBy 0 = .ok (.iconst 0, 1) := by decide +kernel
theorem dX12_letBy_1 : decode cX12_letBy 1 = .ok (.istore 4, 2) := by decide +kernel
theorem dX12_letBy_3 : decode cX12_letBy 3 = .ok (.iload 4, 2) := by decide +kernel
theorem dX12_letBy_5 : decode cX12_letBy 5 = .ok (.aload_n 0, 1) := by decide +kernel
theorem dX12_letBy_6 : decode cX12_letBy 6 = .ok (.getfield 128, 3) := by decide +kernel
theorem dX12_letBy_9 : decode cX12_letBy 9 = .ok (.if_icmp .ge 24, 3) := by decide +kernel
theorem dX12_letBy_12 : decode cX12_letBy 12 = .ok (.aload_n 0, 1) := by decide +kernel
theorem dX12_letBy_13 : decode cX12_letBy 13 = .ok (.iload 4, 2) := by decide +kernel
theorem dX12_letBy_15 : decode cX12_letBy 15 = .ok (.iload_n 1, 1) := by decide +kernel
theorem dX12_letBy_16 : decode cX12_letBy 16 = .ok (.iload_n 2, 1) := by decide +kernel
theorem dX12_letBy_17 : decode cX12_letBy 17 = .ok (.iload_n 3, 1) := by decide +kernel
theorem dX12_letBy_18 : decode cX12_letBy 18 = .ok (.invokevirtual 131, 3) := by decide +kernel
theorem dX12_letBy_21 : decode cX12_letBy 21 = .ok (.ifCond .eq 6, 3) := by decide +kernel
theorem dX12_letBy_24 : decode cX12_letBy 24 = .ok (.iload 4, 2) := by decide +kernel
theorem dX12_letBy_26 : decode cX12_letBy 26 = .ok (.ireturn, 1) := by decide +kernel
theorem dX12_letBy_27 : decode cX12_letBy 27 = .ok (.iinc 4 1, 3) := by decide +kernel
theorem dX12_letBy_30 : decode cX12_letBy 30 = .ok (.goto (-27), 3) := by decide +kernel
theorem dX12_letBy_33 : decode cX12_letBy 33 = .ok (.ldc 135, 2) := by decide +kernel
theorem dX12_letBy_35 : decode cX12_letBy 35 = .ok (.ireturn, 1) := by decide +kernel

set_option maxHeartbeats 4000000 in
set_option maxRecDepth 100000 in
theorem c_X12_letBy (l : Launch) (E : Ev) {A : Nat → Prop} (ad : Nat → Nat) (hA : Oka 30 ad A) (sc : Nat → Int32) (ar : Nat → Nat → Int32) (la : Nat → Int64) {nL : Nat} (x : Int32) (y : Int32) (z : Int32) (hL : sc 8 = nI nL) (hL12 : nL ≤ 12) : Ct l E yX12_letBy (.code yX12_letBy cX12_letBy 5 (some .int)) ({ frames := 2, cells := 0, slots := 0, locals := 47 }) A (mw E ad sc ar la) [.ref (ad 0), .int x, .int y, .int z] (some (.int (if fstL (mok (ar 12) (ar 13) (ar 14) (ar 15) (ar 16) (ar 17) x y z) nL = (-1) then (-1000000005) else fstL (mok (ar 12) (ar 13) (ar 14) (ar 15) (ar 16) (ar 17) x y z) nL))) (mw E ad sc ar la) := by
  refine Ct.of (lv := [(0, .ref (ad 0)), (1, .int x), (2, .int y), (3, .int z)]) (by decide +kernel) (Nat.le_of_ble_eq_true rfl) rfl ?_
  intro zp ze zs zm za zb zh zc hc
  refine g_iconst (pc := 0) (v := nI 0) hc dX12_letBy_0 (by decide) ?_
  refine g_istore (pc := 1) (lv' := [(0, .ref (ad 0)), (1, .int x), (2, .int y), (3, .int z), (4, .int (nI 0))]) hc dX12_letBy_1 (by decide) rfl ?_
  have L3_1 : ∀ (ki i : Nat), i + ki = nL → (hno : ∀ k, k < i → mok (ar 12) (ar 13) (ar 14) (ar 15) (ar 16) (ar 17) x y z k = false) → G zp l ze ({ frames := 2, cells := 0, slots := 0, locals := 47 }) zs zm za zb zh zc 0 0 (MQ zb (Qz E A (some (.int (if fstL (mok (ar 12) (ar 13) (ar 14) (ar 15) (ar 16) (ar 17) x y z) nL = (-1) then (-1000000005) else fstL (mok (ar 12) (ar 13) (ar 14) (ar 15) (ar 16) (ar 17) x y z) nL))) (mw E ad sc ar la)) za zs 0 0 A) E A 5 (mw E ad sc ar la) (3) [(0, .ref (ad 0)), (1, .int x), (2, .int y), (3, .int z), (4, .int (nI (i)))] [] := by
    intro ki
    induction ki with
    | zero =>
      intro i lhi hno
      have lhin : nL = i := by omega
      subst lhin
      refine g_iload (pc := 3) hc 4 dX12_letBy_3 rfl ?_
      refine g_aload_n (pc := 5) hc 0 dX12_letBy_5 rfl rfl ?_
      refine gf_m0_leaves (pc := 6) hc tw_1020 dX12_letBy_6 ?_
      refine g_topi (v := nI nL) (hL) ?_
      refine g_icmp_ge_t (pc := 9) hc 33 dX12_letBy_9 (by decide) (nI_le (by omega) (by omega)) ?_
      refine g_ldc (pc := 33) (v := (-1000000005)) hc tw_1174 dX12_letBy_33 ?_
      exact g_iret (pc := 35) hc dX12_letBy_35 (by rw [fstL_none hno, if_pos rfl]) (rfl)
    | succ ki ihi =>
      intro i lhi hno
      have lhin : i < nL := by omega
      refine g_iload (pc := 3) hc 4 dX12_letBy_3 rfl ?_
      refine g_aload_n (pc := 5) hc 0 dX12_letBy_5 rfl rfl ?_
      refine gf_m0_leaves (pc := 6) hc tw_1020 dX12_letBy_6 ?_
      refine g_topi (v := nI nL) (hL) ?_
      refine g_icmp_ge_f (pc := 9) hc 33 dX12_letBy_9 (by decide) (nI_ge (by omega) (by omega)) ?_
      refine g_aload_n (pc := 12) hc 0 dX12_letBy_12 rfl rfl ?_
      refine g_iload (pc := 13) hc 4 dX12_letBy_13 rfl ?_
      refine g_iload_n (pc := 15) hc 1 dX12_letBy_15 rfl rfl ?_
      refine g_iload_n (pc := 16) hc 2 dX12_letBy_16 rfl rfl ?_
      refine g_iload_n (pc := 17) hc 3 dX12_letBy_17 rfl rfl ?_
      refine g_callVi (pc := 18) (rest := []) (As := [.int (nI (i)), .int x, .int y, .int z]) hc (c_X12_isLet l E ad hA sc ar la i x y z (by omega)) mi_X12_isLet tw_1170 0 rfl rfl rfl rfl ⟨rfl, rfl, by decide, by decide⟩ (Nat.le_of_ble_eq_true rfl) ⟨Nat.le_refl _, Nat.le_refl _⟩ rfl dX12_letBy_18 ?_
      refine g_if_eq_b (pc := 21) hc 27 dX12_letBy_21 (by decide) (fun c2 => ?_) (fun c2 => ?_)
      · refine g_iinc (pc := 27) (v := nI (i + 1)) (lv' := [(0, .ref (ad 0)), (1, .int x), (2, .int y), (3, .int z), (4, .int (nI (i + 1)))]) hc 4 dX12_letBy_27 rfl (nI_ofi i 1) (by decide) rfl ?_
        refine g_goto (pc := 30) hc 3 dX12_letBy_30 (by decide) ?_
        exact g_eq (ws' := mw E ad sc ar la) (lv' := [(0, .ref (ad 0)), (1, .int x), (2, .int y), (3, .int z), (4, .int (nI (i + 1)))]) (rfl) (rfl) rfl (ihi (i + 1) (by omega) (lt_s hno c2))
      · refine g_iload (pc := 24) hc 4 dX12_letBy_24 rfl ?_
        exact g_iret (pc := 26) hc dX12_letBy_26 (by rw [fstL_some hno c2 (by omega) lhin, if_neg (nI_ne_m1 (by omega))]) (rfl)
  exact g_eq (ws' := mw E ad sc ar la) (lv' := [(0, .ref (ad 0)), (1, .int x), (2, .int y), (3, .int z), (4, .int (nI (0)))]) (rfl) (rfl) rfl (L3_1 (nL - 0) (0) (by omega) (fun k hk => absurd hk (Nat.not_lt_zero k)))
