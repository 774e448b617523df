theorem dX12_heap_0 : decode cX12_heap 0 = .ok (.aload_n 0, 1) := by decide +kernel
theorem dX12_heap_1 : decode cX12_heap 1 = .ok (.iload_n 1, 1) := by decide +kernel
theorem dX12_heap_2 : decode cX12_heap 2 = .ok (.invokevirtual 154, 3) := by decide +kernel
theorem dX12_heap_5 : decode cX12_heap 5 = .ok (.ifCond .eq 13, 3) := by decide +kernel
theorem dX12_heap_8 : decode cX12_heap 8 = .ok (.iload_n 2, 1) := by decide +kernel
theorem dX12_heap_9 : decode cX12_heap 9 = .ok (.iconst 1, 1) := by decide +kernel
theorem dX12_heap_10 : decode cX12_heap 10 = .ok (.bipush 99, 2) := by decide +kernel
theorem dX12_heap_12 : decode cX12_heap 12 = .ok (.invokestatic 113, 3) := by decide +kernel
theorem dX12_heap_15 : decode cX12_heap 15 = .ok (.ifCond .ne 6, 3) := by decide +kernel
theorem dX12_heap_18 : decode cX12_heap 18 = .ok (.ldc 120, 2) := by decide +kernel
theorem dX12_heap_20 : decode cX12_heap 20 = .ok (.ireturn, 1) := by decide +kernel
theorem dX12_heap_21 : decode cX12_heap 21 = .ok (.aload_n 0, 1) := by decide +kernel
theorem dX12_heap_22 : decode cX12_heap 22 = .ok (.invokevirtual 178, 3) := by decide +kernel
theorem dX12_heap_25 : decode cX12_heap 25 = .ok (.aload_n 0, 1) := by decide +kernel
theorem dX12_heap_26 : decode cX12_heap 26 = .ok (.iload_n 1, 1) := by decide +kernel
theorem dX12_heap_27 : decode cX12_heap 27 = .ok (.invokevirtual 181, 3) := by decide +kernel
theorem dX12_heap_30 : decode cX12_heap 30 = .ok (.istore_n 3, 1) := by decide +kernel
theorem dX12_heap_31 : decode cX12_heap 31 = .ok (.iconst 0, 1) := by decide +kernel
theorem dX12_heap_32 : decode cX12_heap 32 = .ok (.istore 4, 2) := by decide +kernel
theorem dX12_heap_34 : decode cX12_heap 34 = .ok (.iconst 0, 1) := by decide +kernel
theorem dX12_heap_35 : decode cX12_heap 35 = .ok (.istore 5, 2) := by decide +kernel
theorem dX12_heap_37 : decode cX12_heap 37 = .ok (.iload 5, 2) := by decide +kernel
theorem dX12_heap_39 : decode cX12_heap 39 = .ok (.aload_n 0, 1) := by decide +kernel
theorem dX12_heap_40 : decode cX12_heap 40 = .ok (.invokevirtual 109, 3) := by decide +kernel
theorem dX12_heap_43 : decode cX12_heap 43 = .ok (.if_icmp .ge 36, 3) := by decide +kernel
theorem dX12_heap_46 : decode cX12_heap 46 = .ok (.aload_n 0, 1) := by decide +kernel
theorem dX12_heap_47 : decode cX12_heap 47 = .ok (.getfield 84, 3) := by decide +kernel
theorem dX12_heap_50 : decode cX12_heap 50 = .ok (.iload 5, 2) := by decide +kernel
theorem dX12_heap_52 : decode cX12_heap 52 = .ok (.aload_n 0, 1) := by decide +kernel
theorem dX12_heap_53 : decode cX12_heap 53 = .ok (.getfield 7, 3) := by decide +kernel
theorem dX12_heap_56 : decode cX12_heap 56 = .ok (.idiv, 1) := by decide +kernel
theorem dX12_heap_57 : decode cX12_heap 57 = .ok (.iaload, 1) := by decide +kernel
theorem dX12_heap_58 : decode cX12_heap 58 = .ok (.ifCond .lt 15, 3) := by decide +kernel
theorem dX12_heap_61 : decode cX12_heap 61 = .ok (.aload_n 0, 1) := by decide +kernel
theorem dX12_heap_62 : decode cX12_heap 62 = .ok (.getfield 90, 3) := by decide +kernel
theorem dX12_heap_65 : decode cX12_heap 65 = .ok (.iload 4, 2) := by decide +kernel
theorem dX12_heap_67 : decode cX12_heap 67 = .ok (.iload 5, 2) := by decide +kernel
theorem dX12_heap_69 : decode cX12_heap 69 = .ok (.iastore, 1) := by decide +kernel
theorem dX12_heap_70 : decode cX12_heap 70 = .ok (.iinc 4 1, 3) := by decide +kernel
theorem dX12_heap_73 : decode cX12_heap 73 = .ok (.iinc 5 1, 3) := by decide +kernel
theorem dX12_heap_76 : decode cX12_heap 76 = .ok (.goto (-39), 3) := by decide +kernel
theorem dX12_heap_79 : decode cX12_heap 79 = .ok (.aload_n 0, 1) := by decide +kernel
theorem dX12_heap_80 : decode cX12_heap 80 = .ok (.getfield 45, 3) := by decide +kernel
theorem dX12_heap_83 : decode cX12_heap 83 = .ok (.istore 5, 2) := by decide +kernel
theorem dX12_heap_85 : decode cX12_heap 85 = .ok (.iconst 0, 1) := by decide +kernel
theorem dX12_heap_86 : decode cX12_heap 86 = .ok (.istore 6, 2) := by decide +kernel
theorem dX12_heap_88 : decode cX12_heap 88 = .ok (.iconst 0, 1) := by decide +kernel
theorem dX12_heap_89 : decode cX12_heap 89 = .ok (.istore 7, 2) := by decide +kernel
theorem dX12_heap_91 : decode cX12_heap 91 = .ok (.iload 7, 2) := by decide +kernel
theorem dX12_heap_93 : decode cX12_heap 93 = .ok (.iload_n 2, 1) := by decide +kernel
theorem dX12_heap_94 : decode cX12_heap 94 = .ok (.if_icmp .ge 123, 3) := by decide +kernel
theorem dX12_heap_97 : decode cX12_heap 97 = .ok (.iload 4, 2) := by decide +kernel
theorem dX12_heap_99 : decode cX12_heap 99 = .ok (.iconst 1, 1) := by decide +kernel
theorem dX12_heap_100 : decode cX12_heap 100 = .ok (.isub, 1) := by decide +kernel
theorem dX12_heap_101 : decode cX12_heap 101 = .ok (.istore 8, 2) := by decide +kernel
theorem dX12_heap_103 : decode cX12_heap 103 = .ok (.iload 8, 2) := by decide +kernel
theorem dX12_heap_105 : decode cX12_heap 105 = .ok (.ifCond .le 84, 3) := by decide +kernel
theorem dX12_heap_108 : decode cX12_heap 108 = .ok (.iload 5, 2) := by decide +kernel
theorem dX12_heap_110 : decode cX12_heap 110 = .ok (.ldc 187, 2) := by decide +kernel
theorem dX12_heap_112 : decode cX12_heap 112 = .ok (.imul, 1) := by decide +kernel
theorem dX12_heap_113 : decode cX12_heap 113 = .ok (.sipush 12345, 3) := by decide +kernel
theorem dX12_heap_116 : decode cX12_heap 116 = .ok (.iadd, 1) := by decide +kernel
theorem dX12_heap_117 : decode cX12_heap 117 = .ok (.istore 5, 2) := by decide +kernel
theorem dX12_heap_119 : decode cX12_heap 119 = .ok (.iload 5, 2) := by decide +kernel
theorem dX12_heap_121 : decode cX12_heap 121 = .ok (.bipush 8, 2) := by decide +kernel
theorem dX12_heap_123 : decode cX12_heap 123 = .ok (.iushr, 1) := by decide +kernel
theorem dX12_heap_124 : decode cX12_heap 124 = .ok (.iload 8, 2) := by decide +kernel
theorem dX12_heap_126 : decode cX12_heap 126 = .ok (.iconst 1, 1) := by decide +kernel
theorem dX12_heap_127 : decode cX12_heap 127 = .ok (.iadd, 1) := by decide +kernel
theorem dX12_heap_128 : decode cX12_heap 128 = .ok (.irem, 1) := by decide +kernel
theorem dX12_heap_129 : decode cX12_heap 129 = .ok (.istore 9, 2) := by decide +kernel
theorem dX12_heap_131 : decode cX12_heap 131 = .ok (.aload_n 0, 1) := by decide +kernel
theorem dX12_heap_132 : decode cX12_heap 132 = .ok (.getfield 87, 3) := by decide +kernel
theorem dX12_heap_135 : decode cX12_heap 135 = .ok (.aload_n 0, 1) := by decide +kernel
theorem dX12_heap_136 : decode cX12_heap 136 = .ok (.getfield 90, 3) := by decide +kernel
theorem dX12_heap_139 : decode cX12_heap 139 = .ok (.iload 8, 2) := by decide +kernel
theorem dX12_heap_141 : decode cX12_heap 141 = .ok (.iaload, 1) := by decide +kernel
theorem dX12_heap_142 : decode cX12_heap 142 = .ok (.iaload, 1) := by decide +kernel
theorem dX12_heap_143 : decode cX12_heap 143 = .ok (.istore 10, 2) := by decide +kernel
theorem dX12_heap_145 : decode cX12_heap 145 = .ok (.aload_n 0, 1) := by decide +kernel
theorem dX12_heap_146 : decode cX12_heap 146 = .ok (.getfield 87, 3) := by decide +kernel
theorem dX12_heap_149 : decode cX12_heap 149 = .ok (.aload_n 0, 1) := by decide +kernel
theorem dX12_heap_150 : decode cX12_heap 150 = .ok (.getfield 90, 3) := by decide +kernel
theorem dX12_heap_153 : decode cX12_heap 153 = .ok (.iload 8, 2) := by decide +kernel
theorem dX12_heap_155 : decode cX12_heap 155 = .ok (.iaload, 1) := by decide +kernel
theorem dX12_heap_156 : decode cX12_heap 156 = .ok (.aload_n 0, 1) := by decide +kernel
theorem dX12_heap_157 : decode cX12_heap 157 = .ok (.getfield 87, 3) := by decide +kernel
theorem dX12_heap_160 : decode cX12_heap 160 = .ok (.aload_n 0, 1) := by decide +kernel
theorem dX12_heap_161 : decode cX12_heap 161 = .ok (.getfield 90, 3) := by decide +kernel
theorem dX12_heap_164 : decode cX12_heap 164 = .ok (.iload 9, 2) := by decide +kernel
theorem dX12_heap_166 : decode cX12_heap 166 = .ok (.iaload, 1) := by decide +kernel
theorem dX12_heap_167 : decode cX12_heap 167 = .ok (.iaload, 1) := by decide +kernel
theorem dX12_heap_168 : decode cX12_heap 168 = .ok (.iastore, 1) := by decide +kernel
theorem dX12_heap_169 : decode cX12_heap 169 = .ok (.aload_n 0, 1) := by decide +kernel
theorem dX12_heap_170 : decode cX12_heap 170 = .ok (.getfield 87, 3) := by decide +kernel
theorem dX12_heap_173 : decode cX12_heap 173 = .ok (.aload_n 0, 1) := by decide +kernel
theorem dX12_heap_174 : decode cX12_heap 174 = .ok (.getfield 90, 3) := by decide +kernel
theorem dX12_heap_177 : decode cX12_heap 177 = .ok (.iload 9, 2) := by decide +kernel
theorem dX12_heap_179 : decode cX12_heap 179 = .ok (.iaload, 1) := by decide +kernel
theorem dX12_heap_180 : decode cX12_heap 180 = .ok (.iload 10, 2) := by decide +kernel
theorem dX12_heap_182 : decode cX12_heap 182 = .ok (.iastore, 1) := by decide +kernel
theorem dX12_heap_183 : decode cX12_heap 183 = .ok (.iinc 8 (-1), 3) := by decide +kernel
theorem dX12_heap_186 : decode cX12_heap 186 = .ok (.goto (-83), 3) := by decide +kernel
theorem dX12_heap_189 : decode cX12_heap 189 = .ok (.iload 6, 2) := by decide +kernel
theorem dX12_heap_191 : decode cX12_heap 191 = .ok (.iload_n 3, 1) := by decide +kernel
theorem dX12_heap_192 : decode cX12_heap 192 = .ok (.aload_n 0, 1) := by decide +kernel
theorem dX12_heap_193 : decode cX12_heap 193 = .ok (.aload_n 0, 1) := by decide +kernel
theorem dX12_heap_194 : decode cX12_heap 194 = .ok (.invokevirtual 184, 3) := by decide +kernel
theorem dX12_heap_197 : decode cX12_heap 197 = .ok (.invokevirtual 181, 3) := by decide +kernel
theorem dX12_heap_200 : decode cX12_heap 200 = .ok (.if_icmp .le 7, 3) := by decide +kernel
theorem dX12_heap_203 : decode cX12_heap 203 = .ok (.iconst 0, 1) := by decide +kernel
theorem dX12_heap_204 : decode cX12_heap 204 = .ok (.goto 4, 3) := by decide +kernel
theorem dX12_heap_207 : decode cX12_heap 207 = .ok (.iconst 1, 1) := by decide +kernel
theorem dX12_heap_208 : decode cX12_heap 208 = .ok (.iadd, 1) := by decide +kernel
theorem dX12_heap_209 : decode cX12_heap 209 = .ok (.istore 6, 2) := by decide +kernel
theorem dX12_heap_211 : decode cX12_heap 211 = .ok (.iinc 7 1, 3) := by decide +kernel
theorem dX12_heap_214 : decode cX12_heap 214 = .ok (.goto (-123), 3) := by decide +kernel
theorem dX12_heap_217 : decode cX12_heap 217 = .ok (.iload 6, 2) := by decide +kernel
theorem dX12_heap_219 : decode cX12_heap 219 = .ok (.aload_n 0, 1) := by decide +kernel
theorem dX12_heap_220 : decode cX12_heap 220 = .ok (.getfield 188, 3) := by decide +kernel
theorem dX12_heap_223 : decode cX12_heap 223 = .ok (.if_icmp .gt 7, 3) := by decide +kernel
theorem dX12_heap_226 : decode cX12_heap 226 = .ok (.iconst 1, 1) := by decide +kernel
theorem dX12_heap_227 : decode cX12_heap 227 = .ok (.goto 4, 3) := by decide +kernel
theorem dX12_heap_230 : decode cX12_heap 230 = .ok (.iconst 0, 1) := by decide +kernel
theorem dX12_heap_231 : decode cX12_heap 231 = .ok (.ireturn, 1) := by decide +kernel

set_option maxHeartbeats 4000000 in
set_option maxRecDepth 100000 in
theorem c_X12_heap (l : Launch) (E : Ev) {A : Nat → Prop} (ad : Nat → Nat) (hA : Oka 30 ad A) (sc : Nat → Int32) (ar : Nat → Nat → Int32) (la : Nat → Int64) {nW nF wd hg : Nat} (x : Int32) (y : Int32) (hW : sc 3 = nI nW) (hW60 : nW ≤ 60) (hF : sc 4 = nI nF) (hF200 : nF ≤ 200) (hK4 : ∀ f, f < nF → ∃ k, k < 4 ∧ ar 7 f = nI k) (hwd : sc 0 = nI wd) (hwd1 : 2 ≤ wd) (hwd2 : wd ≤ 8) (hhg : sc 1 = nI hg) (hhg1 : 2 ≤ hg) (hhg2 : hg ≤ 8) (hV : ∀ i, i < nW → ∃ v, v < 5 ∧ ar 2 i = nI v) : Ct l E yX12_heap (.code yX12_heap cX12_heap 11 (some .int)) ({ frames := 4, cells := 0, slots := 0, locals := 92 }) A (mw E ad sc ar la) [.ref (ad 0), .int x, .int y] (some (.int (if ok2 (inx x (nI (wd * hg))) (inr y (nI 1) (nI 99)) = true then bI (!decide (sc 6 < nI (mto (gm (cotI (fun r => mtl nW nF (ar 3) (ar 5) (ar 8) (nI r)) (ar 22) hg) wd (ar 24) (wd * hg)).2 (gm (cotI (fun r => mtl nW nF (ar 3) (ar 5) (ar 8) (nI r)) (ar 22) hg) wd (ar 24) (wd * hg)).1 wd hg (rm (cotI (mwv (mcc (ar 1) (ar 2) (ar 5) (ar 6) (ar 7) (ar 8) (cotI (fun v => mey (fun k => fns (ar 1) (ar 5) (ar 7) (ar 8) (nI k) nF) (ar 2) (ar 3) nW (nI v)) (ar 21) 5) (cotI (fun r => mtl nW nF (ar 3) (ar 5) (ar 8) (nI r)) (ar 22) hg) nF wd) (ar 1) (ar 9)) (ar 23) (wd * hg)) wd hg (tn x)) (sc 5) (cotI (mwv (mcc (ar 1) (ar 2) (ar 5) (ar 6) (ar 7) (ar 8) (cotI (fun v => mey (fun k => fns (ar 1) (ar 5) (ar 7) (ar 8) (nI k) nF) (ar 2) (ar 3) nW (nI v)) (ar 21) 5) (cotI (fun r => mtl nW nF (ar 3) (ar 5) (ar 8) (nI r)) (ar 22) hg) nF wd) (ar 1) (ar 9)) (ar 23) (wd * hg)) (tn y)).1.2)) else (-1000000001)))) (if ok2 (inx x (nI (wd * hg))) (inr y (nI 1) (nI 99)) = true then mw E ad sc (va_up (va_up (va_up (va_up (va_up ar 20 (fiI (fun k => fns (ar 1) (ar 5) (ar 7) (ar 8) (nI k) nF) nW (ar 20) 5)) 21 (cotI (fun v => mey (fun k => fns (ar 1) (ar 5) (ar 7) (ar 8) (nI k) nF) (ar 2) (ar 3) nW (nI v)) (ar 21) 5)) 22 (cotI (fun r => mtl nW nF (ar 3) (ar 5) (ar 8) (nI r)) (ar 22) hg)) 24 (gm (cotI (fun r => mtl nW nF (ar 3) (ar 5) (ar 8) (nI r)) (ar 22) hg) wd (ar 24) (wd * hg)).2) 23 (mto (gm (cotI (fun r => mtl nW nF (ar 3) (ar 5) (ar 8) (nI r)) (ar 22) hg) wd (ar 24) (wd * hg)).2 (gm (cotI (fun r => mtl nW nF (ar 3) (ar 5) (ar 8) (nI r)) (ar 22) hg) wd (ar 24) (wd * hg)).1 wd hg (rm (cotI (mwv (mcc (ar 1) (ar 2) (ar 5) (ar 6) (ar 7) (ar 8) (cotI (fun v => mey (fun k => fns (ar 1) (ar 5) (ar 7) (ar 8) (nI k) nF) (ar 2) (ar 3) nW (nI v)) (ar 21) 5) (cotI (fun r => mtl nW nF (ar 3) (ar 5) (ar 8) (nI r)) (ar 22) hg) nF wd) (ar 1) (ar 9)) (ar 23) (wd * hg)) wd hg (tn x)) (sc 5) (cotI (mwv (mcc (ar 1) (ar 2) (ar 5) (ar 6) (ar 7) (ar 8) (cotI (fun v => mey (fun k => fns (ar 1) (ar 5) (ar 7) (ar 8) (nI k) nF) (ar 2) (ar 3) nW (nI v)) (ar 21) 5) (cotI (fun r => mtl nW nF (ar 3) (ar 5) (ar 8) (nI r)) (ar 22) hg) nF wd) (ar 1) (ar 9)) (ar 23) (wd * hg)) (tn y)).2) la else mw E ad sc ar la) := by
  have hm := prod64 hwd2 hhg2
  have hm4 := prod4 hwd1 hhg1
  refine Ct.of (lv := [(0, .ref (ad 0)), (1, .int x), (2, .int y)]) (by decide +kernel) (Nat.le_of_ble_eq_true rfl) rfl ?_
  intro zp ze zs zm za zb zh zc hc
  refine g_aload_n (pc := 0) hc 0 dX12_heap_0 rfl rfl ?_
  refine g_iload_n (pc := 1) hc 1 dX12_heap_1 rfl rfl ?_
  refine g_callVi (pc := 2) (rest := []) (As := [.int x]) hc (c_X12_isPace l E ad hA sc ar la x (hwd) (hwd1) (hwd2) (hhg) (hhg1) (hhg2)) mi_X12_isPace tw_1185 0 rfl rfl rfl rfl ⟨rfl, rfl, by decide, by decide⟩ (Nat.le_of_ble_eq_true rfl) ⟨Nat.le_refl _, Nat.le_refl _⟩ rfl dX12_heap_2 ?_
  refine g_if_eq_b (pc := 5) hc 18 dX12_heap_5 (by decide) (fun c1 => ?_) (fun c1 => ?_)
  · refine g_ldc (pc := 18) (v := (-1000000001)) hc tw_1139 dX12_heap_18 ?_
    exact g_iret (pc := 20) hc dX12_heap_20 (by rw [if_neg (ne_true_of_eq_false (ok2_f1 c1))]) (by rw [if_neg (ne_true_of_eq_false (ok2_f1 c1))])
  · refine g_iload_n (pc := 8) hc 2 dX12_heap_8 rfl rfl ?_
    refine g_iconst (pc := 9) (v := nI 1) hc dX12_heap_9 (by decide) ?_
    refine g_bipush (pc := 10) (v := nI 99) hc dX12_heap_10 (by decide) ?_
    refine g_callSi (pc := 12) (rest := []) (As := [.int y, .int (nI 1), .int (nI 99)]) hc (c_X12_isIn l E ad hA sc ar la y (nI 1) (nI 99)) mi_X12_isIn tw_1136 rfl ⟨rfl, rfl, by decide, by decide⟩ (Nat.le_of_ble_eq_true rfl) ⟨Nat.le_refl _, Nat.le_refl _⟩ rfl dX12_heap_12 ?_
    refine g_if_ne_b (pc := 15) hc 21 dX12_heap_15 (by decide) (fun c2 => ?_) (fun c2 => ?_)
    · obtain ⟨p, hp, hx⟩ := inx_of (by omega) c1
      obtain ⟨m, hm1, hm2, hy⟩ := inr_of (by decide) c2 (by decide)
      refine g_eq (ws' := mw E ad sc ar la) (lv' := [(0, .ref (ad 0)), (1, .int (nI p)), (2, .int (nI m))]) rfl (by rw [hx, hy]) rfl ?_
      refine g_aload_n (pc := 21) hc 0 dX12_heap_21 rfl rfl ?_
      refine g_callVv (pc := 22) (rest := []) (As := []) hc (c_X12_weigh l E ad hA sc ar la  (hW) (hW60) (hF) (hF200) (hK4) (hwd) (hwd1) (hwd2) (hhg) (hhg1) (hhg2) (hV)) mi_X12_weigh tw_1249 0 rfl rfl rfl rfl ⟨rfl, rfl, by decide, by decide⟩ (Nat.le_of_ble_eq_true rfl) ⟨Nat.le_refl _, Nat.le_refl _⟩ rfl dX12_heap_22 ?_
      obtain ⟨Fi, eFi⟩ : ∃ z, z = fiI (fun k => fns (ar 1) (ar 5) (ar 7) (ar 8) (nI k) nF) nW (ar 20) 5 := ⟨_, rfl⟩
      obtain ⟨Ey, eEy⟩ : ∃ z, z = cotI (fun v => mey (fun k => fns (ar 1) (ar 5) (ar 7) (ar 8) (nI k) nF) (ar 2) (ar 3) nW (nI v)) (ar 21) 5 := ⟨_, rfl⟩
      obtain ⟨Ch, eCh⟩ : ∃ z, z = cotI (fun r => mtl nW nF (ar 3) (ar 5) (ar 8) (nI r)) (ar 22) hg := ⟨_, rfl⟩
      obtain ⟨Wo, eWo⟩ : ∃ z, z = cotI (mwv (mcc (ar 1) (ar 2) (ar 5) (ar 6) (ar 7) (ar 8) (cotI (fun v => mey (fun k => fns (ar 1) (ar 5) (ar 7) (ar 8) (nI k) nF) (ar 2) (ar 3) nW (nI v)) (ar 21) 5) (cotI (fun r => mtl nW nF (ar 3) (ar 5) (ar 8) (nI r)) (ar 22) hg) nF wd) (ar 1) (ar 9)) (ar 23) (wd * hg) := ⟨_, rfl⟩
      refine g_eq (ws' := mw E ad sc (va_up (va_up (va_up (va_up ar 20 Fi) 21 Ey) 22 Ch) 23 Wo) la) (lv' := [(0, .ref (ad 0)), (1, .int (nI p)), (2, .int (nI m))]) (by rw [eFi, eEy, eCh, eWo]) rfl rfl ?_
      refine g_aload_n (pc := 25) hc 0 dX12_heap_25 rfl rfl ?_
      refine g_iload_n (pc := 26) hc 1 dX12_heap_26 rfl rfl ?_
      refine g_callVi (pc := 27) (rest := []) (As := [.int (nI p)]) hc (c_X12_ring l E ad hA sc (va_up (va_up (va_up (va_up ar 20 Fi) 21 Ey) 22 Ch) 23 Wo) la p (hwd) (hwd1) (hwd2) (hhg) (hhg1) (hhg2) (by omega)) mi_X12_ring tw_1253 0 rfl rfl rfl rfl ⟨rfl, rfl, by decide, by decide⟩ (Nat.le_of_ble_eq_true rfl) ⟨Nat.le_refl _, Nat.le_refl _⟩ rfl dX12_heap_27 ?_
      refine g_topi (v := rm Wo wd hg p) rfl ?_
      refine g_istore_n (pc := 30) (lv' := [(0, .ref (ad 0)), (1, .int (nI p)), (2, .int (nI m)), (3, .int (rm Wo wd hg p))]) hc dX12_heap_30 rfl (by decide) rfl ?_
      refine g_iconst (pc := 31) (v := nI 0) hc dX12_heap_31 (by decide) ?_
      refine g_istore (pc := 32) (lv' := [(0, .ref (ad 0)), (1, .int (nI p)), (2, .int (nI m)), (3, .int (rm Wo wd hg p)), (4, .int (nI 0))]) hc dX12_heap_32 (by decide) rfl ?_
      refine g_iconst (pc := 34) (v := nI 0) hc dX12_heap_34 (by decide) ?_
      refine g_istore (pc := 35) (lv' := [(0, .ref (ad 0)), (1, .int (nI p)), (2, .int (nI m)), (3, .int (rm Wo wd hg p)), (4, .int (nI 0)), (5, .int (nI 0))]) hc dX12_heap_35 (by decide) rfl ?_
      have L37_3 : ∀ (kt t : Nat), t + kt = wd * hg → G zp l ze ({ frames := 4, cells := 0, slots := 0, locals := 92 }) zs zm za zb zh zc 0 0 (MQ zb (Qz E A (some (.int (if ok2 (inx x (nI (wd * hg))) (inr y (nI 1) (nI 99)) = true then bI (!decide (sc 6 < nI (mto (gm (cotI (fun r => mtl nW nF (ar 3) (ar 5) (ar 8) (nI r)) (ar 22) hg) wd (ar 24) (wd * hg)).2 (gm (cotI (fun r => mtl nW nF (ar 3) (ar 5) (ar 8) (nI r)) (ar 22) hg) wd (ar 24) (wd * hg)).1 wd hg (rm (cotI (mwv (mcc (ar 1) (ar 2) (ar 5) (ar 6) (ar 7) (ar 8) (cotI (fun v => mey (fun k => fns (ar 1) (ar 5) (ar 7) (ar 8) (nI k) nF) (ar 2) (ar 3) nW (nI v)) (ar 21) 5) (cotI (fun r => mtl nW nF (ar 3) (ar 5) (ar 8) (nI r)) (ar 22) hg) nF wd) (ar 1) (ar 9)) (ar 23) (wd * hg)) wd hg (tn x)) (sc 5) (cotI (mwv (mcc (ar 1) (ar 2) (ar 5) (ar 6) (ar 7) (ar 8) (cotI (fun v => mey (fun k => fns (ar 1) (ar 5) (ar 7) (ar 8) (nI k) nF) (ar 2) (ar 3) nW (nI v)) (ar 21) 5) (cotI (fun r => mtl nW nF (ar 3) (ar 5) (ar 8) (nI r)) (ar 22) hg) nF wd) (ar 1) (ar 9)) (ar 23) (wd * hg)) (tn y)).1.2)) else (-1000000001)))) (if ok2 (inx x (nI (wd * hg))) (inr y (nI 1) (nI 99)) = true then mw E ad sc (va_up (va_up (va_up (va_up (va_up ar 20 (fiI (fun k => fns (ar 1) (ar 5) (ar 7) (ar 8) (nI k) nF) nW (ar 20) 5)) 21 (cotI (fun v => mey (fun k => fns (ar 1) (ar 5) (ar 7) (ar 8) (nI k) nF) (ar 2) (ar 3) nW (nI v)) (ar 21) 5)) 22 (cotI (fun r => mtl nW nF (ar 3) (ar 5) (ar 8) (nI r)) (ar 22) hg)) 24 (gm (cotI (fun r => mtl nW nF (ar 3) (ar 5) (ar 8) (nI r)) (ar 22) hg) wd (ar 24) (wd * hg)).2) 23 (mto (gm (cotI (fun r => mtl nW nF (ar 3) (ar 5) (ar 8) (nI r)) (ar 22) hg) wd (ar 24) (wd * hg)).2 (gm (cotI (fun r => mtl nW nF (ar 3) (ar 5) (ar 8) (nI r)) (ar 22) hg) wd (ar 24) (wd * hg)).1 wd hg (rm (cotI (mwv (mcc (ar 1) (ar 2) (ar 5) (ar 6) (ar 7) (ar 8) (cotI (fun v => mey (fun k => fns (ar 1) (ar 5) (ar 7) (ar 8) (nI k) nF) (ar 2) (ar 3) nW (nI v)) (ar 21) 5) (cotI (fun r => mtl nW nF (ar 3) (ar 5) (ar 8) (nI r)) (ar 22) hg) nF wd) (ar 1) (ar 9)) (ar 23) (wd * hg)) wd hg (tn x)) (sc 5) (cotI (mwv (mcc (ar 1) (ar 2) (ar 5) (ar 6) (ar 7) (ar 8) (cotI (fun v => mey (fun k => fns (ar 1) (ar 5) (ar 7) (ar 8) (nI k) nF) (ar 2) (ar 3) nW (nI v)) (ar 21) 5) (cotI (fun r => mtl nW nF (ar 3) (ar 5) (ar 8) (nI r)) (ar 22) hg) nF wd) (ar 1) (ar 9)) (ar 23) (wd * hg)) (tn y)).2) la else mw E ad sc ar la)) za zs 0 0 A) E A 11 (mw E ad sc (va_up (va_up (va_up (va_up (va_up ar 20 Fi) 21 Ey) 22 Ch) 23 Wo) 24 (gm Ch wd (ar 24) (t)).2) la) (37) [(0, .ref (ad 0)), (1, .int (nI p)), (2, .int (nI m)), (3, .int (rm Wo wd hg p)), (4, .int (nI (gm Ch wd (ar 24) (t)).1)), (5, .int (nI (t)))] [] := by
        intro kt
        induction kt with
        | zero =>
          intro t lht
          have lhtn : wd * hg = t := by omega
          subst lhtn
          refine g_iload (pc := 37) hc 5 dX12_heap_37 rfl ?_
          refine g_aload_n (pc := 39) hc 0 dX12_heap_39 rfl rfl ?_
          refine g_callVi (pc := 40) (rest := [.int (nI (wd * hg))]) (As := []) hc (c_X12_paces l E ad hA sc (va_up (va_up (va_up (va_up (va_up ar 20 Fi) 21 Ey) 22 Ch) 23 Wo) 24 (gm Ch wd (ar 24) (wd * hg)).2) la  (hwd) (hwd1) (hwd2) (hhg) (hhg1) (hhg2)) mi_X12_paces tw_1140 0 rfl rfl rfl rfl ⟨rfl, rfl, by decide, by decide⟩ (Nat.le_of_ble_eq_true rfl) ⟨Nat.le_refl _, Nat.le_refl _⟩ rfl dX12_heap_40 ?_
          refine g_topi (v := nI (wd * hg)) rfl ?_
          refine g_icmp_ge_t (pc := 43) hc 79 dX12_heap_43 (by decide) (nI_le (by omega) (by omega)) ?_
          have hk := gm_v Ch wd (ar 24) (wd * hg) (by omega)
          have hle := gm_le Ch wd (ar 24) (wd * hg)
          obtain ⟨N, eN⟩ : ∃ z, z = (gm Ch wd (ar 24) (wd * hg)).1 := ⟨_, rfl⟩
          obtain ⟨Wk, eWk⟩ : ∃ z, z = (gm Ch wd (ar 24) (wd * hg)).2 := ⟨_, rfl⟩
          rw [← eN] at hle
          rw [← eN, ← eWk] at hk
          refine g_eq (ws' := mw E ad sc (va_up (va_up (va_up (va_up (va_up ar 20 Fi) 21 Ey) 22 Ch) 23 Wo) 24 (gm Ch wd (ar 24) (wd * hg)).2) la) (lv' := [(0, .ref (ad 0)), (1, .int (nI p)), (2, .int (nI m)), (3, .int (rm Wo wd hg p)), (4, .int (nI N)), (5, .int (nI (wd * hg)))]) rfl (by rw [eN]) rfl ?_
          refine g_eq (ws' := mw E ad sc (va_up (va_up (va_up (va_up (va_up ar 20 Fi) 21 Ey) 22 Ch) 23 Wo) 24 Wk) la) (lv' := [(0, .ref (ad 0)), (1, .int (nI p)), (2, .int (nI m)), (3, .int (rm Wo wd hg p)), (4, .int (nI N)), (5, .int (nI (wd * hg)))]) (by rw [eWk]) rfl rfl ?_
          refine g_aload_n (pc := 79) hc 0 dX12_heap_79 rfl rfl ?_
          refine gf_m0_seed (pc := 80) hc tw_1015 dX12_heap_80 ?_
          refine g_istore (pc := 83) (lv' := [(0, .ref (ad 0)), (1, .int (nI p)), (2, .int (nI m)), (3, .int (rm Wo wd hg p)), (4, .int (nI N)), (5, .int (sc 5))]) hc dX12_heap_83 (by decide) rfl ?_
          refine g_iconst (pc := 85) (v := nI 0) hc dX12_heap_85 (by decide) ?_
          refine g_istore (pc := 86) (lv' := [(0, .ref (ad 0)), (1, .int (nI p)), (2, .int (nI m)), (3, .int (rm Wo wd hg p)), (4, .int (nI N)), (5, .int (sc 5)), (6, .int (nI 0))]) hc dX12_heap_86 (by decide) rfl ?_
          refine g_iconst (pc := 88) (v := nI 0) hc dX12_heap_88 (by decide) ?_
          refine g_istore (pc := 89) (lv' := [(0, .ref (ad 0)), (1, .int (nI p)), (2, .int (nI m)), (3, .int (rm Wo wd hg p)), (4, .int (nI N)), (5, .int (sc 5)), (6, .int (nI 0)), (7, .int (nI 0))]) hc dX12_heap_89 (by decide) rfl ?_
          have L91_4 : ∀ (kd d : Nat), d + kd = m → G zp l ze ({ frames := 4, cells := 0, slots := 0, locals := 92 }) zs zm za zb zh zc 0 0 (MQ zb (Qz E A (some (.int (if ok2 (inx x (nI (wd * hg))) (inr y (nI 1) (nI 99)) = true then bI (!decide (sc 6 < nI (mto (gm (cotI (fun r => mtl nW nF (ar 3) (ar 5) (ar 8) (nI r)) (ar 22) hg) wd (ar 24) (wd * hg)).2 (gm (cotI (fun r => mtl nW nF (ar 3) (ar 5) (ar 8) (nI r)) (ar 22) hg) wd (ar 24) (wd * hg)).1 wd hg (rm (cotI (mwv (mcc (ar 1) (ar 2) (ar 5) (ar 6) (ar 7) (ar 8) (cotI (fun v => mey (fun k => fns (ar 1) (ar 5) (ar 7) (ar 8) (nI k) nF) (ar 2) (ar 3) nW (nI v)) (ar 21) 5) (cotI (fun r => mtl nW nF (ar 3) (ar 5) (ar 8) (nI r)) (ar 22) hg) nF wd) (ar 1) (ar 9)) (ar 23) (wd * hg)) wd hg (tn x)) (sc 5) (cotI (mwv (mcc (ar 1) (ar 2) (ar 5) (ar 6) (ar 7) (ar 8) (cotI (fun v => mey (fun k => fns (ar 1) (ar 5) (ar 7) (ar 8) (nI k) nF) (ar 2) (ar 3) nW (nI v)) (ar 21) 5) (cotI (fun r => mtl nW nF (ar 3) (ar 5) (ar 8) (nI r)) (ar 22) hg) nF wd) (ar 1) (ar 9)) (ar 23) (wd * hg)) (tn y)).1.2)) else (-1000000001)))) (if ok2 (inx x (nI (wd * hg))) (inr y (nI 1) (nI 99)) = true then mw E ad sc (va_up (va_up (va_up (va_up (va_up ar 20 (fiI (fun k => fns (ar 1) (ar 5) (ar 7) (ar 8) (nI k) nF) nW (ar 20) 5)) 21 (cotI (fun v => mey (fun k => fns (ar 1) (ar 5) (ar 7) (ar 8) (nI k) nF) (ar 2) (ar 3) nW (nI v)) (ar 21) 5)) 22 (cotI (fun r => mtl nW nF (ar 3) (ar 5) (ar 8) (nI r)) (ar 22) hg)) 24 (gm (cotI (fun r => mtl nW nF (ar 3) (ar 5) (ar 8) (nI r)) (ar 22) hg) wd (ar 24) (wd * hg)).2) 23 (mto (gm (cotI (fun r => mtl nW nF (ar 3) (ar 5) (ar 8) (nI r)) (ar 22) hg) wd (ar 24) (wd * hg)).2 (gm (cotI (fun r => mtl nW nF (ar 3) (ar 5) (ar 8) (nI r)) (ar 22) hg) wd (ar 24) (wd * hg)).1 wd hg (rm (cotI (mwv (mcc (ar 1) (ar 2) (ar 5) (ar 6) (ar 7) (ar 8) (cotI (fun v => mey (fun k => fns (ar 1) (ar 5) (ar 7) (ar 8) (nI k) nF) (ar 2) (ar 3) nW (nI v)) (ar 21) 5) (cotI (fun r => mtl nW nF (ar 3) (ar 5) (ar 8) (nI r)) (ar 22) hg) nF wd) (ar 1) (ar 9)) (ar 23) (wd * hg)) wd hg (tn x)) (sc 5) (cotI (mwv (mcc (ar 1) (ar 2) (ar 5) (ar 6) (ar 7) (ar 8) (cotI (fun v => mey (fun k => fns (ar 1) (ar 5) (ar 7) (ar 8) (nI k) nF) (ar 2) (ar 3) nW (nI v)) (ar 21) 5) (cotI (fun r => mtl nW nF (ar 3) (ar 5) (ar 8) (nI r)) (ar 22) hg) nF wd) (ar 1) (ar 9)) (ar 23) (wd * hg)) (tn y)).2) la else mw E ad sc ar la)) za zs 0 0 A) E A 11 (mw E ad sc (va_up (va_up (va_up (va_up (va_up ar 20 Fi) 21 Ey) 22 Ch) 24 Wk) 23 (mto Wk N wd hg (rm Wo wd hg p) (sc 5) Wo (d)).2) la) (91) [(0, .ref (ad 0)), (1, .int (nI p)), (2, .int (nI m)), (3, .int (rm Wo wd hg p)), (4, .int (nI N)), (5, .int (mto Wk N wd hg (rm Wo wd hg p) (sc 5) Wo (d)).1.1), (6, .int (nI (mto Wk N wd hg (rm Wo wd hg p) (sc 5) Wo (d)).1.2)), (7, .int (nI (d)))] [] := by
            intro kd
            induction kd with
            | zero =>
              intro d lhd
              have lhdn : m = d := by omega
              subst lhdn
              refine g_iload (pc := 91) hc 7 dX12_heap_91 rfl ?_
              refine g_iload_n (pc := 93) hc 2 dX12_heap_93 rfl rfl ?_
              refine g_icmp_ge_t (pc := 94) hc 217 dX12_heap_94 (by decide) (nI_le (by omega) (by omega)) ?_
              refine g_iload (pc := 217) hc 6 dX12_heap_217 rfl ?_
              refine g_aload_n (pc := 219) hc 0 dX12_heap_219 rfl rfl ?_
              refine gf_m0_spare (pc := 220) hc tw_1016 dX12_heap_220 ?_
              refine g_icmp_gt (pc := 223) hc 230 dX12_heap_223 (by decide) (fun c5 => ?_) (fun c5 => ?_)
              · refine g_iconst (pc := 230) (v := nI 0) hc dX12_heap_230 (by decide) ?_
                exact g_iret (pc := 231) hc dX12_heap_231 (by subst eN eWk eFi eEy eCh eWo; rw [if_pos (ok2_t c1 c2), hx, hy, tn, tn, nI_clamp (by omega), nI_clamp (by omega)]; first | (rw [decide_eq_true c5]; rfl) | (rw [decide_eq_false c5]; rfl)) (by subst eN eWk eFi eEy eCh eWo; rw [if_pos (ok2_t c1 c2), hx, hy, tn, tn, nI_clamp (by omega), nI_clamp (by omega)])
              · refine g_iconst (pc := 226) (v := nI 1) hc dX12_heap_226 (by decide) ?_
                refine g_goto (pc := 227) hc 231 dX12_heap_227 (by decide) ?_
                exact g_iret (pc := 231) hc dX12_heap_231 (by subst eN eWk eFi eEy eCh eWo; rw [if_pos (ok2_t c1 c2), hx, hy, tn, tn, nI_clamp (by omega), nI_clamp (by omega)]; first | (rw [decide_eq_true c5]; rfl) | (rw [decide_eq_false c5]; rfl)) (by subst eN eWk eFi eEy eCh eWo; rw [if_pos (ok2_t c1 c2), hx, hy, tn, tn, nI_clamp (by omega), nI_clamp (by omega)])
            | succ kd ihd =>
              intro d lhd
              have lhdn : d < m := by omega
              refine g_iload (pc := 91) hc 7 dX12_heap_91 rfl ?_
              refine g_iload_n (pc := 93) hc 2 dX12_heap_93 rfl rfl ?_
              refine g_icmp_ge_f (pc := 94) hc 217 dX12_heap_94 (by decide) (nI_ge (by omega) (by omega)) ?_
              refine g_iload (pc := 97) hc 4 dX12_heap_97 rfl ?_
              refine g_iconst (pc := 99) (v := nI 1) hc dX12_heap_99 (by decide) ?_
              refine g_isub (pc := 100) hc dX12_heap_100 ?_
              refine g_istore (pc := 101) (lv' := [(0, .ref (ad 0)), (1, .int (nI p)), (2, .int (nI m)), (3, .int (rm Wo wd hg p)), (4, .int (nI N)), (5, .int (mto Wk N wd hg (rm Wo wd hg p) (sc 5) Wo (d)).1.1), (6, .int (nI (mto Wk N wd hg (rm Wo wd hg p) (sc 5) Wo (d)).1.2)), (7, .int (nI (d))), (8, .int ((nI N) - (nI 1)))]) hc dX12_heap_101 (by decide) rfl ?_
              have L103_6 : ∀ (kt t : Nat), t + kt = N - 1 → G zp l ze ({ frames := 4, cells := 0, slots := 0, locals := 92 }) zs zm za zb zh zc 0 0 (MQ zb (Qz E A (some (.int (if ok2 (inx x (nI (wd * hg))) (inr y (nI 1) (nI 99)) = true then bI (!decide (sc 6 < nI (mto (gm (cotI (fun r => mtl nW nF (ar 3) (ar 5) (ar 8) (nI r)) (ar 22) hg) wd (ar 24) (wd * hg)).2 (gm (cotI (fun r => mtl nW nF (ar 3) (ar 5) (ar 8) (nI r)) (ar 22) hg) wd (ar 24) (wd * hg)).1 wd hg (rm (cotI (mwv (mcc (ar 1) (ar 2) (ar 5) (ar 6) (ar 7) (ar 8) (cotI (fun v => mey (fun k => fns (ar 1) (ar 5) (ar 7) (ar 8) (nI k) nF) (ar 2) (ar 3) nW (nI v)) (ar 21) 5) (cotI (fun r => mtl nW nF (ar 3) (ar 5) (ar 8) (nI r)) (ar 22) hg) nF wd) (ar 1) (ar 9)) (ar 23) (wd * hg)) wd hg (tn x)) (sc 5) (cotI (mwv (mcc (ar 1) (ar 2) (ar 5) (ar 6) (ar 7) (ar 8) (cotI (fun v => mey (fun k => fns (ar 1) (ar 5) (ar 7) (ar 8) (nI k) nF) (ar 2) (ar 3) nW (nI v)) (ar 21) 5) (cotI (fun r => mtl nW nF (ar 3) (ar 5) (ar 8) (nI r)) (ar 22) hg) nF wd) (ar 1) (ar 9)) (ar 23) (wd * hg)) (tn y)).1.2)) else (-1000000001)))) (if ok2 (inx x (nI (wd * hg))) (inr y (nI 1) (nI 99)) = true then mw E ad sc (va_up (va_up (va_up (va_up (va_up ar 20 (fiI (fun k => fns (ar 1) (ar 5) (ar 7) (ar 8) (nI k) nF) nW (ar 20) 5)) 21 (cotI (fun v => mey (fun k => fns (ar 1) (ar 5) (ar 7) (ar 8) (nI k) nF) (ar 2) (ar 3) nW (nI v)) (ar 21) 5)) 22 (cotI (fun r => mtl nW nF (ar 3) (ar 5) (ar 8) (nI r)) (ar 22) hg)) 24 (gm (cotI (fun r => mtl nW nF (ar 3) (ar 5) (ar 8) (nI r)) (ar 22) hg) wd (ar 24) (wd * hg)).2) 23 (mto (gm (cotI (fun r => mtl nW nF (ar 3) (ar 5) (ar 8) (nI r)) (ar 22) hg) wd (ar 24) (wd * hg)).2 (gm (cotI (fun r => mtl nW nF (ar 3) (ar 5) (ar 8) (nI r)) (ar 22) hg) wd (ar 24) (wd * hg)).1 wd hg (rm (cotI (mwv (mcc (ar 1) (ar 2) (ar 5) (ar 6) (ar 7) (ar 8) (cotI (fun v => mey (fun k => fns (ar 1) (ar 5) (ar 7) (ar 8) (nI k) nF) (ar 2) (ar 3) nW (nI v)) (ar 21) 5) (cotI (fun r => mtl nW nF (ar 3) (ar 5) (ar 8) (nI r)) (ar 22) hg) nF wd) (ar 1) (ar 9)) (ar 23) (wd * hg)) wd hg (tn x)) (sc 5) (cotI (mwv (mcc (ar 1) (ar 2) (ar 5) (ar 6) (ar 7) (ar 8) (cotI (fun v => mey (fun k => fns (ar 1) (ar 5) (ar 7) (ar 8) (nI k) nF) (ar 2) (ar 3) nW (nI v)) (ar 21) 5) (cotI (fun r => mtl nW nF (ar 3) (ar 5) (ar 8) (nI r)) (ar 22) hg) nF wd) (ar 1) (ar 9)) (ar 23) (wd * hg)) (tn y)).2) la else mw E ad sc ar la)) za zs 0 0 A) E A 11 (mw E ad sc (va_up (va_up (va_up (va_up (va_up ar 20 Fi) 21 Ey) 22 Ch) 24 Wk) 23 (shs Wk (N - 1) (mto Wk N wd hg (rm Wo wd hg p) (sc 5) Wo d).1.1 (mto Wk N wd hg (rm Wo wd hg p) (sc 5) Wo d).2 (t)).2) la) (103) [(0, .ref (ad 0)), (1, .int (nI p)), (2, .int (nI m)), (3, .int (rm Wo wd hg p)), (4, .int (nI N)), (5, .int (shs Wk (N - 1) (mto Wk N wd hg (rm Wo wd hg p) (sc 5) Wo d).1.1 (mto Wk N wd hg (rm Wo wd hg p) (sc 5) Wo d).2 (t)).1), (6, .int (nI (mto Wk N wd hg (rm Wo wd hg p) (sc 5) Wo (d)).1.2)), (7, .int (nI (d))), (8, .int (dn N (t + 1)))] [] := by
                intro kt
                induction kt with
                | zero =>
                  intro t lht
                  have lhtn : N - 1 = t := by omega
                  subst lhtn
                  refine g_iload (pc := 103) hc 8 dX12_heap_103 rfl ?_
                  refine g_if_le_t (pc := 105) hc 189 dX12_heap_105 (by decide) (dn_le0 (by omega)) ?_
                  refine g_iload (pc := 189) hc 6 dX12_heap_189 rfl ?_
                  refine g_iload_n (pc := 191) hc 3 dX12_heap_191 rfl rfl ?_
                  refine g_aload_n (pc := 192) hc 0 dX12_heap_192 rfl rfl ?_
                  refine g_aload_n (pc := 193) hc 0 dX12_heap_193 rfl rfl ?_
                  refine g_callVi (pc := 194) (rest := [.ref (ad 0), .int (rm Wo wd hg p), .int (nI (mto Wk N wd hg (rm Wo wd hg p) (sc 5) Wo (d)).1.2)]) (As := []) hc (c_X12_best l E ad hA sc (va_up (va_up (va_up (va_up (va_up ar 20 Fi) 21 Ey) 22 Ch) 24 Wk) 23 (shs Wk (N - 1) (mto Wk N wd hg (rm Wo wd hg p) (sc 5) Wo d).1.1 (mto Wk N wd hg (rm Wo wd hg p) (sc 5) Wo d).2 (N - 1)).2) la  (hwd) (hwd1) (hwd2) (hhg) (hhg1) (hhg2)) mi_X12_best tw_1261 0 rfl rfl rfl rfl ⟨rfl, rfl, by decide, by decide⟩ (Nat.le_of_ble_eq_true rfl) ⟨Nat.le_refl _, Nat.le_refl _⟩ rfl dX12_heap_194 ?_
                  refine g_topi (v := nI (mbb (shs Wk (N - 1) (mto Wk N wd hg (rm Wo wd hg p) (sc 5) Wo d).1.1 (mto Wk N wd hg (rm Wo wd hg p) (sc 5) Wo d).2 (N - 1)).2 wd hg)) rfl ?_
                  refine g_callVi (pc := 197) (rest := [.int (rm Wo wd hg p), .int (nI (mto Wk N wd hg (rm Wo wd hg p) (sc 5) Wo (d)).1.2)]) (As := [.int (nI (mbb (shs Wk (N - 1) (mto Wk N wd hg (rm Wo wd hg p) (sc 5) Wo d).1.1 (mto Wk N wd hg (rm Wo wd hg p) (sc 5) Wo d).2 (N - 1)).2 wd hg))]) hc (c_X12_ring l E ad hA sc (va_up (va_up (va_up (va_up (va_up ar 20 Fi) 21 Ey) 22 Ch) 24 Wk) 23 (shs Wk (N - 1) (mto Wk N wd hg (rm Wo wd hg p) (sc 5) Wo d).1.1 (mto Wk N wd hg (rm Wo wd hg p) (sc 5) Wo d).2 (N - 1)).2) la (mbb (shs Wk (N - 1) (mto Wk N wd hg (rm Wo wd hg p) (sc 5) Wo d).1.1 (mto Wk N wd hg (rm Wo wd hg p) (sc 5) Wo d).2 (N - 1)).2 wd hg) (hwd) (hwd1) (hwd2) (hhg) (hhg1) (hhg2) (mbb_lt _ hwd1 hhg1)) mi_X12_ring tw_1253 0 rfl rfl rfl rfl ⟨rfl, rfl, by decide, by decide⟩ (Nat.le_of_ble_eq_true rfl) ⟨Nat.le_refl _, Nat.le_refl _⟩ rfl dX12_heap_197 ?_
                  refine g_topi (v := rm (shs Wk (N - 1) (mto Wk N wd hg (rm Wo wd hg p) (sc 5) Wo d).1.1 (mto Wk N wd hg (rm Wo wd hg p) (sc 5) Wo d).2 (N - 1)).2 wd hg (mbb (shs Wk (N - 1) (mto Wk N wd hg (rm Wo wd hg p) (sc 5) Wo d).1.1 (mto Wk N wd hg (rm Wo wd hg p) (sc 5) Wo d).2 (N - 1)).2 wd hg)) rfl ?_
                  refine g_icmp_le (pc := 200) hc 207 dX12_heap_200 (by decide) (fun c7 => ?_) (fun c7 => ?_)
                  · refine g_iconst (pc := 207) (v := nI 1) hc dX12_heap_207 (by decide) ?_
                    refine g_iadd (pc := 208) hc dX12_heap_208 ?_
                    refine g_topi (v := nI ((mto Wk N wd hg (rm Wo wd hg p) (sc 5) Wo (d)).1.2 + 1)) (nI_add (mto Wk N wd hg (rm Wo wd hg p) (sc 5) Wo (d)).1.2 1) ?_
                    refine g_istore (pc := 209) (lv' := [(0, .ref (ad 0)), (1, .int (nI p)), (2, .int (nI m)), (3, .int (rm Wo wd hg p)), (4, .int (nI N)), (5, .int (shs Wk (N - 1) (mto Wk N wd hg (rm Wo wd hg p) (sc 5) Wo d).1.1 (mto Wk N wd hg (rm Wo wd hg p) (sc 5) Wo d).2 (N - 1)).1), (6, .int (nI ((mto Wk N wd hg (rm Wo wd hg p) (sc 5) Wo (d)).1.2 + 1))), (7, .int (nI (d))), (8, .int (dn N (N - 1 + 1)))]) hc dX12_heap_209 (by decide) rfl ?_
                    refine g_iinc (pc := 211) (v := nI (d + 1)) (lv' := [(0, .ref (ad 0)), (1, .int (nI p)), (2, .int (nI m)), (3, .int (rm Wo wd hg p)), (4, .int (nI N)), (5, .int (shs Wk (N - 1) (mto Wk N wd hg (rm Wo wd hg p) (sc 5) Wo d).1.1 (mto Wk N wd hg (rm Wo wd hg p) (sc 5) Wo d).2 (N - 1)).1), (6, .int (nI ((mto Wk N wd hg (rm Wo wd hg p) (sc 5) Wo (d)).1.2 + 1))), (7, .int (nI (d + 1))), (8, .int (dn N (N - 1 + 1)))]) hc 7 dX12_heap_211 rfl (nI_ofi d 1) (by decide) rfl ?_
                    refine g_goto (pc := 214) hc 91 dX12_heap_214 (by decide) ?_
                    refine g_lv [0, 1, 2, 3, 4, 5, 6, 7] (lv' := [(0, .ref (ad 0)), (1, .int (nI p)), (2, .int (nI m)), (3, .int (rm Wo wd hg p)), (4, .int (nI N)), (5, .int (shs Wk (N - 1) (mto Wk N wd hg (rm Wo wd hg p) (sc 5) Wo d).1.1 (mto Wk N wd hg (rm Wo wd hg p) (sc 5) Wo d).2 (N - 1)).1), (6, .int (nI ((mto Wk N wd hg (rm Wo wd hg p) (sc 5) Wo (d)).1.2 + 1))), (7, .int (nI (d + 1)))]) rfl ?_
                    exact g_eq (ws' := mw E ad sc (va_up (va_up (va_up (va_up (va_up ar 20 Fi) 21 Ey) 22 Ch) 24 Wk) 23 (mto Wk N wd hg (rm Wo wd hg p) (sc 5) Wo (d + 1)).2) la) (lv' := [(0, .ref (ad 0)), (1, .int (nI p)), (2, .int (nI m)), (3, .int (rm Wo wd hg p)), (4, .int (nI N)), (5, .int (mto Wk N wd hg (rm Wo wd hg p) (sc 5) Wo (d + 1)).1.1), (6, .int (nI (mto Wk N wd hg (rm Wo wd hg p) (sc 5) Wo (d + 1)).1.2)), (7, .int (nI (d + 1)))]) (by rw [mto_succ]) (by rw [mto_succ]; first | rw [if_pos c7] | rw [if_neg c7]) rfl (ihd (d + 1) (by omega))
                  · refine g_iconst (pc := 203) (v := nI 0) hc dX12_heap_203 (by decide) ?_
                    refine g_goto (pc := 204) hc 208 dX12_heap_204 (by decide) ?_
                    refine g_iadd (pc := 208) hc dX12_heap_208 ?_
                    refine g_topi (v := nI ((mto Wk N wd hg (rm Wo wd hg p) (sc 5) Wo (d)).1.2 + 0)) (nI_add (mto Wk N wd hg (rm Wo wd hg p) (sc 5) Wo (d)).1.2 0) ?_
                    refine g_istore (pc := 209) (lv' := [(0, .ref (ad 0)), (1, .int (nI p)), (2, .int (nI m)), (3, .int (rm Wo wd hg p)), (4, .int (nI N)), (5, .int (shs Wk (N - 1) (mto Wk N wd hg (rm Wo wd hg p) (sc 5) Wo d).1.1 (mto Wk N wd hg (rm Wo wd hg p) (sc 5) Wo d).2 (N - 1)).1), (6, .int (nI ((mto Wk N wd hg (rm Wo wd hg p) (sc 5) Wo (d)).1.2 + 0))), (7, .int (nI (d))), (8, .int (dn N (N - 1 + 1)))]) hc dX12_heap_209 (by decide) rfl ?_
                    refine g_iinc (pc := 211) (v := nI (d + 1)) (lv' := [(0, .ref (ad 0)), (1, .int (nI p)), (2, .int (nI m)), (3, .int (rm Wo wd hg p)), (4, .int (nI N)), (5, .int (shs Wk (N - 1) (mto Wk N wd hg (rm Wo wd hg p) (sc 5) Wo d).1.1 (mto Wk N wd hg (rm Wo wd hg p) (sc 5) Wo d).2 (N - 1)).1), (6, .int (nI ((mto Wk N wd hg (rm Wo wd hg p) (sc 5) Wo (d)).1.2 + 0))), (7, .int (nI (d + 1))), (8, .int (dn N (N - 1 + 1)))]) hc 7 dX12_heap_211 rfl (nI_ofi d 1) (by decide) rfl ?_
                    refine g_goto (pc := 214) hc 91 dX12_heap_214 (by decide) ?_
                    refine g_lv [0, 1, 2, 3, 4, 5, 6, 7] (lv' := [(0, .ref (ad 0)), (1, .int (nI p)), (2, .int (nI m)), (3, .int (rm Wo wd hg p)), (4, .int (nI N)), (5, .int (shs Wk (N - 1) (mto Wk N wd hg (rm Wo wd hg p) (sc 5) Wo d).1.1 (mto Wk N wd hg (rm Wo wd hg p) (sc 5) Wo d).2 (N - 1)).1), (6, .int (nI ((mto Wk N wd hg (rm Wo wd hg p) (sc 5) Wo (d)).1.2 + 0))), (7, .int (nI (d + 1)))]) rfl ?_
                    exact g_eq (ws' := mw E ad sc (va_up (va_up (va_up (va_up (va_up ar 20 Fi) 21 Ey) 22 Ch) 24 Wk) 23 (mto Wk N wd hg (rm Wo wd hg p) (sc 5) Wo (d + 1)).2) la) (lv' := [(0, .ref (ad 0)), (1, .int (nI p)), (2, .int (nI m)), (3, .int (rm Wo wd hg p)), (4, .int (nI N)), (5, .int (mto Wk N wd hg (rm Wo wd hg p) (sc 5) Wo (d + 1)).1.1), (6, .int (nI (mto Wk N wd hg (rm Wo wd hg p) (sc 5) Wo (d + 1)).1.2)), (7, .int (nI (d + 1)))]) (by rw [mto_succ]) (by rw [mto_succ]; first | rw [if_pos c7] | rw [if_neg c7]) rfl (ihd (d + 1) (by omega))
                | succ kt iht =>
                  intro t lht
                  have lhtn : t < N - 1 := by omega
                  refine g_iload (pc := 103) hc 8 dX12_heap_103 rfl ?_
                  refine g_if_le_f (pc := 105) hc 189 dX12_heap_105 (by decide) (dn_nle (by omega) (by omega)) ?_
                  refine g_eq (ws' := mw E ad sc (va_up (va_up (va_up (va_up (va_up ar 20 Fi) 21 Ey) 22 Ch) 24 Wk) 23 (shs Wk (N - 1) (mto Wk N wd hg (rm Wo wd hg p) (sc 5) Wo d).1.1 (mto Wk N wd hg (rm Wo wd hg p) (sc 5) Wo d).2 (t)).2) la) (lv' := [(0, .ref (ad 0)), (1, .int (nI p)), (2, .int (nI m)), (3, .int (rm Wo wd hg p)), (4, .int (nI N)), (5, .int (shs Wk (N - 1) (mto Wk N wd hg (rm Wo wd hg p) (sc 5) Wo d).1.1 (mto Wk N wd hg (rm Wo wd hg p) (sc 5) Wo d).2 (t)).1), (6, .int (nI (mto Wk N wd hg (rm Wo wd hg p) (sc 5) Wo (d)).1.2)), (7, .int (nI (d))), (8, .int (nI (N - 1 - t)))]) rfl (by rw [dn_eq (by omega), show N - (t + 1) = N - 1 - t by omega]) rfl ?_
                  refine g_iload (pc := 108) hc 5 dX12_heap_108 rfl ?_
                  refine g_ldc (pc := 110) (v := 1103515245) hc tw_1269 dX12_heap_110 ?_
                  refine g_imul (pc := 112) hc dX12_heap_112 ?_
                  refine g_sipush (pc := 113) (v := nI 12345) hc dX12_heap_113 (by decide) ?_
                  refine g_iadd (pc := 116) hc dX12_heap_116 ?_
                  refine g_istore (pc := 117) (lv' := [(0, .ref (ad 0)), (1, .int (nI p)), (2, .int (nI m)), (3, .int (rm Wo wd hg p)), (4, .int (nI N)), (5, .int (((shs Wk (N - 1) (mto Wk N wd hg (rm Wo wd hg p) (sc 5) Wo d).1.1 (mto Wk N wd hg (rm Wo wd hg p) (sc 5) Wo d).2 (t)).1 * 1103515245) + (nI 12345))), (6, .int (nI (mto Wk N wd hg (rm Wo wd hg p) (sc 5) Wo (d)).1.2)), (7, .int (nI (d))), (8, .int (nI (N - 1 - t)))]) hc dX12_heap_117 (by decide) rfl ?_
                  refine g_iload (pc := 119) hc 5 dX12_heap_119 rfl ?_
                  refine g_bipush (pc := 121) (v := nI 8) hc dX12_heap_121 (by decide) ?_
                  refine g_iushr (pc := 123) (v := ((((shs Wk (N - 1) (mto Wk N wd hg (rm Wo wd hg p) (sc 5) Wo d).1.1 (mto Wk N wd hg (rm Wo wd hg p) (sc 5) Wo d).2 (t)).1 * 1103515245) + (nI 12345) : Int32).toUInt32 >>> ((nI 8 : Int32).toUInt32 &&& Int32.toUInt32 31)).toInt32) hc dX12_heap_123 rfl ?_
                  refine g_topi (v := nI (shX ((shs Wk (N - 1) (mto Wk N wd hg (rm Wo wd hg p) (sc 5) Wo d).1.1 (mto Wk N wd hg (rm Wo wd hg p) (sc 5) Wo d).2 t).1 * 1103515245 + nI 12345))) (sh_u _) ?_
                  refine g_iload (pc := 124) hc 8 dX12_heap_124 rfl ?_
                  refine g_iconst (pc := 126) (v := nI 1) hc dX12_heap_126 (by decide) ?_
                  refine g_iadd (pc := 127) hc dX12_heap_127 ?_
                  refine g_topi (v := nI ((N - 1 - t) + 1)) (nI_add (N - 1 - t) 1) ?_
                  refine g_irem (pc := 128) hc dX12_heap_128 (nI_ne0 (by omega) (by omega)) ?_
                  refine g_topi (v := nI (shX ((shs Wk (N - 1) (mto Wk N wd hg (rm Wo wd hg p) (sc 5) Wo d).1.1 (mto Wk N wd hg (rm Wo wd hg p) (sc 5) Wo d).2 t).1 * 1103515245 + nI 12345) % (N - 1 - t + 1))) (pk_rem (Nat.lt_trans (shX_lt _) (by decide)) (by omega) (by omega)) ?_
                  have hmod : shX ((shs Wk (N - 1) (mto Wk N wd hg (rm Wo wd hg p) (sc 5) Wo d).1.1 (mto Wk N wd hg (rm Wo wd hg p) (sc 5) Wo d).2 t).1 * 1103515245 + nI 12345) % (N - 1 - t + 1) < N - 1 - t + 1 := Nat.mod_lt _ (by omega)
                  refine g_istore (pc := 129) (lv' := [(0, .ref (ad 0)), (1, .int (nI p)), (2, .int (nI m)), (3, .int (rm Wo wd hg p)), (4, .int (nI N)), (5, .int (((shs Wk (N - 1) (mto Wk N wd hg (rm Wo wd hg p) (sc 5) Wo d).1.1 (mto Wk N wd hg (rm Wo wd hg p) (sc 5) Wo d).2 (t)).1 * 1103515245) + (nI 12345))), (6, .int (nI (mto Wk N wd hg (rm Wo wd hg p) (sc 5) Wo (d)).1.2)), (7, .int (nI (d))), (8, .int (nI (N - 1 - t))), (9, .int (nI (shX ((shs Wk (N - 1) (mto Wk N wd hg (rm Wo wd hg p) (sc 5) Wo d).1.1 (mto Wk N wd hg (rm Wo wd hg p) (sc 5) Wo d).2 t).1 * 1103515245 + nI 12345) % (N - 1 - t + 1))))]) hc dX12_heap_129 (by decide) rfl ?_
                  refine g_aload_n (pc := 131) hc 0 dX12_heap_131 rfl rfl ?_
                  refine gf_m0_worths (pc := 132) hc tw_1032 dX12_heap_132 ?_
                  refine g_aload_n (pc := 135) hc 0 dX12_heap_135 rfl rfl ?_
                  refine gf_m0_walked (pc := 136) hc tw_1033 dX12_heap_136 ?_
                  refine g_iload (pc := 139) hc 8 dX12_heap_139 rfl ?_
                  refine la_m24 (pc := 141) hc (N - 1 - t) (rfl) (by omega) dX12_heap_141 ?_
                  refine g_topi (v := Wk (N - 1 - t)) rfl ?_
                  refine g_topi (v := nI (tn (Wk (N - 1 - t)))) ((tn_of (hk _ (by omega))).1) ?_
                  refine la_m23 (pc := 142) hc (tn (Wk (N - 1 - t))) (rfl) ((tn_of (hk _ (by omega))).2) dX12_heap_142 ?_
                  refine g_topi (v := (shs Wk (N - 1) (mto Wk N wd hg (rm Wo wd hg p) (sc 5) Wo d).1.1 (mto Wk N wd hg (rm Wo wd hg p) (sc 5) Wo d).2 (t)).2 (tn (Wk (N - 1 - t)))) rfl ?_
                  refine g_istore (pc := 143) (lv' := [(0, .ref (ad 0)), (1, .int (nI p)), (2, .int (nI m)), (3, .int (rm Wo wd hg p)), (4, .int (nI N)), (5, .int (((shs Wk (N - 1) (mto Wk N wd hg (rm Wo wd hg p) (sc 5) Wo d).1.1 (mto Wk N wd hg (rm Wo wd hg p) (sc 5) Wo d).2 (t)).1 * 1103515245) + (nI 12345))), (6, .int (nI (mto Wk N wd hg (rm Wo wd hg p) (sc 5) Wo (d)).1.2)), (7, .int (nI (d))), (8, .int (nI (N - 1 - t))), (9, .int (nI (shX ((shs Wk (N - 1) (mto Wk N wd hg (rm Wo wd hg p) (sc 5) Wo d).1.1 (mto Wk N wd hg (rm Wo wd hg p) (sc 5) Wo d).2 t).1 * 1103515245 + nI 12345) % (N - 1 - t + 1)))), (10, .int ((shs Wk (N - 1) (mto Wk N wd hg (rm Wo wd hg p) (sc 5) Wo d).1.1 (mto Wk N wd hg (rm Wo wd hg p) (sc 5) Wo d).2 (t)).2 (tn (Wk (N - 1 - t)))))]) hc dX12_heap_143 (by decide) rfl ?_
                  refine g_aload_n (pc := 145) hc 0 dX12_heap_145 rfl rfl ?_
                  refine gf_m0_worths (pc := 146) hc tw_1032 dX12_heap_146 ?_
                  refine g_aload_n (pc := 149) hc 0 dX12_heap_149 rfl rfl ?_
                  refine gf_m0_walked (pc := 150) hc tw_1033 dX12_heap_150 ?_
                  refine g_iload (pc := 153) hc 8 dX12_heap_153 rfl ?_
                  refine la_m24 (pc := 155) hc (N - 1 - t) (rfl) (by omega) dX12_heap_155 ?_
                  refine g_topi (v := Wk (N - 1 - t)) rfl ?_
                  refine g_topi (v := nI (tn (Wk (N - 1 - t)))) ((tn_of (hk _ (by omega))).1) ?_
                  refine g_aload_n (pc := 156) hc 0 dX12_heap_156 rfl rfl ?_
                  refine gf_m0_worths (pc := 157) hc tw_1032 dX12_heap_157 ?_
                  refine g_aload_n (pc := 160) hc 0 dX12_heap_160 rfl rfl ?_
                  refine gf_m0_walked (pc := 161) hc tw_1033 dX12_heap_161 ?_
                  refine g_iload (pc := 164) hc 9 dX12_heap_164 rfl ?_
                  refine la_m24 (pc := 166) hc (shX ((shs Wk (N - 1) (mto Wk N wd hg (rm Wo wd hg p) (sc 5) Wo d).1.1 (mto Wk N wd hg (rm Wo wd hg p) (sc 5) Wo d).2 t).1 * 1103515245 + nI 12345) % (N - 1 - t + 1)) (rfl) (by omega) dX12_heap_166 ?_
                  refine g_topi (v := Wk (shX ((shs Wk (N - 1) (mto Wk N wd hg (rm Wo wd hg p) (sc 5) Wo d).1.1 (mto Wk N wd hg (rm Wo wd hg p) (sc 5) Wo d).2 t).1 * 1103515245 + nI 12345) % (N - 1 - t + 1))) rfl ?_
                  refine g_topi (v := nI (tn (Wk (shX ((shs Wk (N - 1) (mto Wk N wd hg (rm Wo wd hg p) (sc 5) Wo d).1.1 (mto Wk N wd hg (rm Wo wd hg p) (sc 5) Wo d).2 t).1 * 1103515245 + nI 12345) % (N - 1 - t + 1))))) ((tn_of (hk _ (by omega))).1) ?_
                  refine la_m23 (pc := 167) hc (tn (Wk (shX ((shs Wk (N - 1) (mto Wk N wd hg (rm Wo wd hg p) (sc 5) Wo d).1.1 (mto Wk N wd hg (rm Wo wd hg p) (sc 5) Wo d).2 t).1 * 1103515245 + nI 12345) % (N - 1 - t + 1)))) (rfl) ((tn_of (hk _ (by omega))).2) dX12_heap_167 ?_
                  refine g_topi (v := (shs Wk (N - 1) (mto Wk N wd hg (rm Wo wd hg p) (sc 5) Wo d).1.1 (mto Wk N wd hg (rm Wo wd hg p) (sc 5) Wo d).2 (t)).2 (tn (Wk (shX ((shs Wk (N - 1) (mto Wk N wd hg (rm Wo wd hg p) (sc 5) Wo d).1.1 (mto Wk N wd hg (rm Wo wd hg p) (sc 5) Wo d).2 t).1 * 1103515245 + nI 12345) % (N - 1 - t + 1))))) rfl ?_
                  refine sa_m23 (pc := 168) hc hA (tn (Wk (N - 1 - t))) (rfl) ((tn_of (hk _ (by omega))).2) dX12_heap_168 ?_
                  refine g_eq (ws' := mw E ad sc (va_up (va_up (va_up (va_up (va_up ar 20 Fi) 21 Ey) 22 Ch) 24 Wk) 23 (upd (shs Wk (N - 1) (mto Wk N wd hg (rm Wo wd hg p) (sc 5) Wo d).1.1 (mto Wk N wd hg (rm Wo wd hg p) (sc 5) Wo d).2 (t)).2 (tn (Wk (N - 1 - t))) ((shs Wk (N - 1) (mto Wk N wd hg (rm Wo wd hg p) (sc 5) Wo d).1.1 (mto Wk N wd hg (rm Wo wd hg p) (sc 5) Wo d).2 (t)).2 (tn (Wk (shX ((shs Wk (N - 1) (mto Wk N wd hg (rm Wo wd hg p) (sc 5) Wo d).1.1 (mto Wk N wd hg (rm Wo wd hg p) (sc 5) Wo d).2 t).1 * 1103515245 + nI 12345) % (N - 1 - t + 1))))))) la) (lv' := [(0, .ref (ad 0)), (1, .int (nI p)), (2, .int (nI m)), (3, .int (rm Wo wd hg p)), (4, .int (nI N)), (5, .int (((shs Wk (N - 1) (mto Wk N wd hg (rm Wo wd hg p) (sc 5) Wo d).1.1 (mto Wk N wd hg (rm Wo wd hg p) (sc 5) Wo d).2 (t)).1 * 1103515245) + (nI 12345))), (6, .int (nI (mto Wk N wd hg (rm Wo wd hg p) (sc 5) Wo (d)).1.2)), (7, .int (nI (d))), (8, .int (nI (N - 1 - t))), (9, .int (nI (shX ((shs Wk (N - 1) (mto Wk N wd hg (rm Wo wd hg p) (sc 5) Wo d).1.1 (mto Wk N wd hg (rm Wo wd hg p) (sc 5) Wo d).2 t).1 * 1103515245 + nI 12345) % (N - 1 - t + 1)))), (10, .int ((shs Wk (N - 1) (mto Wk N wd hg (rm Wo wd hg p) (sc 5) Wo d).1.1 (mto Wk N wd hg (rm Wo wd hg p) (sc 5) Wo d).2 (t)).2 (tn (Wk (N - 1 - t)))))]) rfl rfl rfl ?_
                  refine g_aload_n (pc := 169) hc 0 dX12_heap_169 rfl rfl ?_
                  refine gf_m0_worths (pc := 170) hc tw_1032 dX12_heap_170 ?_
                  refine g_aload_n (pc := 173) hc 0 dX12_heap_173 rfl rfl ?_
                  refine gf_m0_walked (pc := 174) hc tw_1033 dX12_heap_174 ?_
                  refine g_iload (pc := 177) hc 9 dX12_heap_177 rfl ?_
                  refine la_m24 (pc := 179) hc (shX ((shs Wk (N - 1) (mto Wk N wd hg (rm Wo wd hg p) (sc 5) Wo d).1.1 (mto Wk N wd hg (rm Wo wd hg p) (sc 5) Wo d).2 t).1 * 1103515245 + nI 12345) % (N - 1 - t + 1)) (rfl) (by omega) dX12_heap_179 ?_
                  refine g_topi (v := Wk (shX ((shs Wk (N - 1) (mto Wk N wd hg (rm Wo wd hg p) (sc 5) Wo d).1.1 (mto Wk N wd hg (rm Wo wd hg p) (sc 5) Wo d).2 t).1 * 1103515245 + nI 12345) % (N - 1 - t + 1))) rfl ?_
                  refine g_topi (v := nI (tn (Wk (shX ((shs Wk (N - 1) (mto Wk N wd hg (rm Wo wd hg p) (sc 5) Wo d).1.1 (mto Wk N wd hg (rm Wo wd hg p) (sc 5) Wo d).2 t).1 * 1103515245 + nI 12345) % (N - 1 - t + 1))))) ((tn_of (hk _ (by omega))).1) ?_
                  refine g_iload (pc := 180) hc 10 dX12_heap_180 rfl ?_
                  refine sa_m23 (pc := 182) hc hA (tn (Wk (shX ((shs Wk (N - 1) (mto Wk N wd hg (rm Wo wd hg p) (sc 5) Wo d).1.1 (mto Wk N wd hg (rm Wo wd hg p) (sc 5) Wo d).2 t).1 * 1103515245 + nI 12345) % (N - 1 - t + 1)))) (rfl) ((tn_of (hk _ (by omega))).2) dX12_heap_182 ?_
                  refine g_eq (ws' := mw E ad sc (va_up (va_up (va_up (va_up (va_up ar 20 Fi) 21 Ey) 22 Ch) 24 Wk) 23 (upd (upd (shs Wk (N - 1) (mto Wk N wd hg (rm Wo wd hg p) (sc 5) Wo d).1.1 (mto Wk N wd hg (rm Wo wd hg p) (sc 5) Wo d).2 (t)).2 (tn (Wk (N - 1 - t))) ((shs Wk (N - 1) (mto Wk N wd hg (rm Wo wd hg p) (sc 5) Wo d).1.1 (mto Wk N wd hg (rm Wo wd hg p) (sc 5) Wo d).2 (t)).2 (tn (Wk (shX ((shs Wk (N - 1) (mto Wk N wd hg (rm Wo wd hg p) (sc 5) Wo d).1.1 (mto Wk N wd hg (rm Wo wd hg p) (sc 5) Wo d).2 t).1 * 1103515245 + nI 12345) % (N - 1 - t + 1)))))) (tn (Wk (shX ((shs Wk (N - 1) (mto Wk N wd hg (rm Wo wd hg p) (sc 5) Wo d).1.1 (mto Wk N wd hg (rm Wo wd hg p) (sc 5) Wo d).2 t).1 * 1103515245 + nI 12345) % (N - 1 - t + 1)))) ((shs Wk (N - 1) (mto Wk N wd hg (rm Wo wd hg p) (sc 5) Wo d).1.1 (mto Wk N wd hg (rm Wo wd hg p) (sc 5) Wo d).2 (t)).2 (tn (Wk (N - 1 - t)))))) la) (lv' := [(0, .ref (ad 0)), (1, .int (nI p)), (2, .int (nI m)), (3, .int (rm Wo wd hg p)), (4, .int (nI N)), (5, .int (((shs Wk (N - 1) (mto Wk N wd hg (rm Wo wd hg p) (sc 5) Wo d).1.1 (mto Wk N wd hg (rm Wo wd hg p) (sc 5) Wo d).2 (t)).1 * 1103515245) + (nI 12345))), (6, .int (nI (mto Wk N wd hg (rm Wo wd hg p) (sc 5) Wo (d)).1.2)), (7, .int (nI (d))), (8, .int (nI (N - 1 - t))), (9, .int (nI (shX ((shs Wk (N - 1) (mto Wk N wd hg (rm Wo wd hg p) (sc 5) Wo d).1.1 (mto Wk N wd hg (rm Wo wd hg p) (sc 5) Wo d).2 t).1 * 1103515245 + nI 12345) % (N - 1 - t + 1)))), (10, .int ((shs Wk (N - 1) (mto Wk N wd hg (rm Wo wd hg p) (sc 5) Wo d).1.1 (mto Wk N wd hg (rm Wo wd hg p) (sc 5) Wo d).2 (t)).2 (tn (Wk (N - 1 - t)))))]) rfl rfl rfl ?_
                  refine g_eq (ws' := mw E ad sc (va_up (va_up (va_up (va_up (va_up ar 20 Fi) 21 Ey) 22 Ch) 24 Wk) 23 (upd (upd (shs Wk (N - 1) (mto Wk N wd hg (rm Wo wd hg p) (sc 5) Wo d).1.1 (mto Wk N wd hg (rm Wo wd hg p) (sc 5) Wo d).2 (t)).2 (tn (Wk (N - 1 - t))) ((shs Wk (N - 1) (mto Wk N wd hg (rm Wo wd hg p) (sc 5) Wo d).1.1 (mto Wk N wd hg (rm Wo wd hg p) (sc 5) Wo d).2 (t)).2 (tn (Wk (shX ((shs Wk (N - 1) (mto Wk N wd hg (rm Wo wd hg p) (sc 5) Wo d).1.1 (mto Wk N wd hg (rm Wo wd hg p) (sc 5) Wo d).2 t).1 * 1103515245 + nI 12345) % (N - 1 - t + 1)))))) (tn (Wk (shX ((shs Wk (N - 1) (mto Wk N wd hg (rm Wo wd hg p) (sc 5) Wo d).1.1 (mto Wk N wd hg (rm Wo wd hg p) (sc 5) Wo d).2 t).1 * 1103515245 + nI 12345) % (N - 1 - t + 1)))) ((shs Wk (N - 1) (mto Wk N wd hg (rm Wo wd hg p) (sc 5) Wo d).1.1 (mto Wk N wd hg (rm Wo wd hg p) (sc 5) Wo d).2 (t)).2 (tn (Wk (N - 1 - t)))))) la) (lv' := [(0, .ref (ad 0)), (1, .int (nI p)), (2, .int (nI m)), (3, .int (rm Wo wd hg p)), (4, .int (nI N)), (5, .int (((shs Wk (N - 1) (mto Wk N wd hg (rm Wo wd hg p) (sc 5) Wo d).1.1 (mto Wk N wd hg (rm Wo wd hg p) (sc 5) Wo d).2 (t)).1 * 1103515245) + (nI 12345))), (6, .int (nI (mto Wk N wd hg (rm Wo wd hg p) (sc 5) Wo (d)).1.2)), (7, .int (nI (d))), (8, .int (dn N (t + 1))), (9, .int (nI (shX ((shs Wk (N - 1) (mto Wk N wd hg (rm Wo wd hg p) (sc 5) Wo d).1.1 (mto Wk N wd hg (rm Wo wd hg p) (sc 5) Wo d).2 t).1 * 1103515245 + nI 12345) % (N - 1 - t + 1)))), (10, .int ((shs Wk (N - 1) (mto Wk N wd hg (rm Wo wd hg p) (sc 5) Wo d).1.1 (mto Wk N wd hg (rm Wo wd hg p) (sc 5) Wo d).2 (t)).2 (tn (Wk (N - 1 - t)))))]) rfl (by rw [dn_eq (by omega), show N - (t + 1) = N - 1 - t by omega]) rfl ?_
                  refine g_iinc (pc := 183) (v := (dn N (t + 1)) + Int32.ofInt (-1)) (lv' := [(0, .ref (ad 0)), (1, .int (nI p)), (2, .int (nI m)), (3, .int (rm Wo wd hg p)), (4, .int (nI N)), (5, .int (((shs Wk (N - 1) (mto Wk N wd hg (rm Wo wd hg p) (sc 5) Wo d).1.1 (mto Wk N wd hg (rm Wo wd hg p) (sc 5) Wo d).2 (t)).1 * 1103515245) + (nI 12345))), (6, .int (nI (mto Wk N wd hg (rm Wo wd hg p) (sc 5) Wo (d)).1.2)), (7, .int (nI (d))), (8, .int ((dn N (t + 1)) + Int32.ofInt (-1))), (9, .int (nI (shX ((shs Wk (N - 1) (mto Wk N wd hg (rm Wo wd hg p) (sc 5) Wo d).1.1 (mto Wk N wd hg (rm Wo wd hg p) (sc 5) Wo d).2 t).1 * 1103515245 + nI 12345) % (N - 1 - t + 1)))), (10, .int ((shs Wk (N - 1) (mto Wk N wd hg (rm Wo wd hg p) (sc 5) Wo d).1.1 (mto Wk N wd hg (rm Wo wd hg p) (sc 5) Wo d).2 (t)).2 (tn (Wk (N - 1 - t)))))]) hc 8 dX12_heap_183 rfl (rfl) (by decide) rfl ?_
                  refine g_goto (pc := 186) hc 103 dX12_heap_186 (by decide) ?_
                  refine g_lv [0, 1, 2, 3, 4, 5, 6, 7, 8] (lv' := [(0, .ref (ad 0)), (1, .int (nI p)), (2, .int (nI m)), (3, .int (rm Wo wd hg p)), (4, .int (nI N)), (5, .int (((shs Wk (N - 1) (mto Wk N wd hg (rm Wo wd hg p) (sc 5) Wo d).1.1 (mto Wk N wd hg (rm Wo wd hg p) (sc 5) Wo d).2 (t)).1 * 1103515245) + (nI 12345))), (6, .int (nI (mto Wk N wd hg (rm Wo wd hg p) (sc 5) Wo (d)).1.2)), (7, .int (nI (d))), (8, .int ((dn N (t + 1)) + Int32.ofInt (-1)))]) rfl ?_
                  exact g_eq (ws' := mw E ad sc (va_up (va_up (va_up (va_up (va_up ar 20 Fi) 21 Ey) 22 Ch) 24 Wk) 23 (shs Wk (N - 1) (mto Wk N wd hg (rm Wo wd hg p) (sc 5) Wo d).1.1 (mto Wk N wd hg (rm Wo wd hg p) (sc 5) Wo d).2 (t + 1)).2) la) (lv' := [(0, .ref (ad 0)), (1, .int (nI p)), (2, .int (nI m)), (3, .int (rm Wo wd hg p)), (4, .int (nI N)), (5, .int (shs Wk (N - 1) (mto Wk N wd hg (rm Wo wd hg p) (sc 5) Wo d).1.1 (mto Wk N wd hg (rm Wo wd hg p) (sc 5) Wo d).2 (t + 1)).1), (6, .int (nI (mto Wk N wd hg (rm Wo wd hg p) (sc 5) Wo (d)).1.2)), (7, .int (nI (d))), (8, .int (dn N (t + 1 + 1)))]) (rfl) (by rw [dn_succ]; rfl) rfl (iht (t + 1) (by omega))
              exact g_eq (ws' := mw E ad sc (va_up (va_up (va_up (va_up (va_up ar 20 Fi) 21 Ey) 22 Ch) 24 Wk) 23 (shs Wk (N - 1) (mto Wk N wd hg (rm Wo wd hg p) (sc 5) Wo d).1.1 (mto Wk N wd hg (rm Wo wd hg p) (sc 5) Wo d).2 (0)).2) la) (lv' := [(0, .ref (ad 0)), (1, .int (nI p)), (2, .int (nI m)), (3, .int (rm Wo wd hg p)), (4, .int (nI N)), (5, .int (shs Wk (N - 1) (mto Wk N wd hg (rm Wo wd hg p) (sc 5) Wo d).1.1 (mto Wk N wd hg (rm Wo wd hg p) (sc 5) Wo d).2 (0)).1), (6, .int (nI (mto Wk N wd hg (rm Wo wd hg p) (sc 5) Wo (d)).1.2)), (7, .int (nI (d))), (8, .int (dn N (0 + 1)))]) (rfl) (rfl) rfl (L103_6 (N - 1 - 0) (0) (by omega))
          exact g_eq (ws' := mw E ad sc (va_up (va_up (va_up (va_up (va_up ar 20 Fi) 21 Ey) 22 Ch) 24 Wk) 23 (mto Wk N wd hg (rm Wo wd hg p) (sc 5) Wo (0)).2) la) (lv' := [(0, .ref (ad 0)), (1, .int (nI p)), (2, .int (nI m)), (3, .int (rm Wo wd hg p)), (4, .int (nI N)), (5, .int (mto Wk N wd hg (rm Wo wd hg p) (sc 5) Wo (0)).1.1), (6, .int (nI (mto Wk N wd hg (rm Wo wd hg p) (sc 5) Wo (0)).1.2)), (7, .int (nI (0)))]) (rfl) (rfl) rfl (L91_4 (m - 0) (0) (by omega))
        | succ kt iht =>
          intro t lht
          have lhtn : t < wd * hg := by omega
          refine g_iload (pc := 37) hc 5 dX12_heap_37 rfl ?_
          refine g_aload_n (pc := 39) hc 0 dX12_heap_39 rfl rfl ?_
          refine g_callVi (pc := 40) (rest := [.int (nI (t))]) (As := []) hc (c_X12_paces l E ad hA sc (va_up (va_up (va_up (va_up (va_up ar 20 Fi) 21 Ey) 22 Ch) 23 Wo) 24 (gm Ch wd (ar 24) (t)).2) la  (hwd) (hwd1) (hwd2) (hhg) (hhg1) (hhg2)) mi_X12_paces tw_1140 0 rfl rfl rfl rfl ⟨rfl, rfl, by decide, by decide⟩ (Nat.le_of_ble_eq_true rfl) ⟨Nat.le_refl _, Nat.le_refl _⟩ rfl dX12_heap_40 ?_
          refine g_topi (v := nI (wd * hg)) rfl ?_
          refine g_icmp_ge_f (pc := 43) hc 79 dX12_heap_43 (by decide) (nI_ge (by omega) (by omega)) ?_
          refine g_aload_n (pc := 46) hc 0 dX12_heap_46 rfl rfl ?_
          refine gf_m0_chosen (pc := 47) hc tw_1031 dX12_heap_47 ?_
          refine g_iload (pc := 50) hc 5 dX12_heap_50 rfl ?_
          refine g_aload_n (pc := 52) hc 0 dX12_heap_52 rfl rfl ?_
          refine gf_m0_wide (pc := 53) hc tw_1001 dX12_heap_53 ?_
          refine g_topi (v := nI wd) (hwd) ?_
          refine g_idiv (pc := 56) hc dX12_heap_56 (nI_ne0 (by omega) (by omega)) ?_
          refine g_topi (v := nI (t / wd)) (ldiv_nI hwd1 hwd2 (by omega)) ?_
          refine la_m22 (pc := 57) hc (t / wd) (rfl) (by have := row_lt (p := t) (hg := hg) (by omega) hwd1; omega) dX12_heap_57 ?_
          refine g_topi (v := Ch (t / wd)) rfl ?_
          refine g_if_lt (pc := 58) hc 73 dX12_heap_58 (by decide) (fun c8 => ?_) (fun c8 => ?_)
          · refine g_iinc (pc := 73) (v := nI (t + 1)) (lv' := [(0, .ref (ad 0)), (1, .int (nI p)), (2, .int (nI m)), (3, .int (rm Wo wd hg p)), (4, .int (nI (gm Ch wd (ar 24) (t)).1)), (5, .int (nI (t + 1)))]) hc 5 dX12_heap_73 rfl (nI_ofi t 1) (by decide) rfl ?_
            refine g_goto (pc := 76) hc 37 dX12_heap_76 (by decide) ?_
            exact g_eq (ws' := mw E ad sc (va_up (va_up (va_up (va_up (va_up ar 20 Fi) 21 Ey) 22 Ch) 23 Wo) 24 (gm Ch wd (ar 24) (t + 1)).2) la) (lv' := [(0, .ref (ad 0)), (1, .int (nI p)), (2, .int (nI m)), (3, .int (rm Wo wd hg p)), (4, .int (nI (gm Ch wd (ar 24) (t + 1)).1)), (5, .int (nI (t + 1)))]) (by rw [gm_succ]; first | rw [if_pos c8] | rw [if_neg c8]) (by rw [gm_succ]; first | rw [if_pos c8] | rw [if_neg c8]) rfl (iht (t + 1) (by omega))
          · refine g_aload_n (pc := 61) hc 0 dX12_heap_61 rfl rfl ?_
            refine gf_m0_walked (pc := 62) hc tw_1033 dX12_heap_62 ?_
            refine g_iload (pc := 65) hc 4 dX12_heap_65 rfl ?_
            refine g_iload (pc := 67) hc 5 dX12_heap_67 rfl ?_
            refine sa_m24 (pc := 69) hc hA ((gm Ch wd (ar 24) t).1) (rfl) (Nat.lt_of_le_of_lt (gm_le _ _ _ _) (by omega)) dX12_heap_69 ?_
            refine g_eq (ws' := mw E ad sc (va_up (va_up (va_up (va_up (va_up ar 20 Fi) 21 Ey) 22 Ch) 23 Wo) 24 (upd (gm Ch wd (ar 24) (t)).2 (gm Ch wd (ar 24) t).1 (nI (t)))) la) (lv' := [(0, .ref (ad 0)), (1, .int (nI p)), (2, .int (nI m)), (3, .int (rm Wo wd hg p)), (4, .int (nI (gm Ch wd (ar 24) (t)).1)), (5, .int (nI (t)))]) rfl rfl rfl ?_
            refine g_iinc (pc := 70) (v := nI ((gm Ch wd (ar 24) (t)).1 + 1)) (lv' := [(0, .ref (ad 0)), (1, .int (nI p)), (2, .int (nI m)), (3, .int (rm Wo wd hg p)), (4, .int (nI ((gm Ch wd (ar 24) (t)).1 + 1))), (5, .int (nI (t)))]) hc 4 dX12_heap_70 rfl (nI_ofi (gm Ch wd (ar 24) (t)).1 1) (by decide) rfl ?_
            refine g_iinc (pc := 73) (v := nI (t + 1)) (lv' := [(0, .ref (ad 0)), (1, .int (nI p)), (2, .int (nI m)), (3, .int (rm Wo wd hg p)), (4, .int (nI ((gm Ch wd (ar 24) (t)).1 + 1))), (5, .int (nI (t + 1)))]) hc 5 dX12_heap_73 rfl (nI_ofi t 1) (by decide) rfl ?_
            refine g_goto (pc := 76) hc 37 dX12_heap_76 (by decide) ?_
            exact g_eq (ws' := mw E ad sc (va_up (va_up (va_up (va_up (va_up ar 20 Fi) 21 Ey) 22 Ch) 23 Wo) 24 (gm Ch wd (ar 24) (t + 1)).2) la) (lv' := [(0, .ref (ad 0)), (1, .int (nI p)), (2, .int (nI m)), (3, .int (rm Wo wd hg p)), (4, .int (nI (gm Ch wd (ar 24) (t + 1)).1)), (5, .int (nI (t + 1)))]) (by rw [gm_succ]; first | rw [if_pos c8] | rw [if_neg c8]) (by rw [gm_succ]; first | rw [if_pos c8] | rw [if_neg c8]) rfl (iht (t + 1) (by omega))
      exact g_eq (ws' := mw E ad sc (va_up (va_up (va_up (va_up (va_up ar 20 Fi) 21 Ey) 22 Ch) 23 Wo) 24 (gm Ch wd (ar 24) (0)).2) la) (lv' := [(0, .ref (ad 0)), (1, .int (nI p)), (2, .int (nI m)), (3, .int (rm Wo wd hg p)), (4, .int (nI (gm Ch wd (ar 24) (0)).1)), (5, .int (nI (0)))]) (rfl) (rfl) rfl (L37_3 (wd * hg - 0) (0) (by omega))
    · refine g_ldc (pc := 18) (v := (-1000000001)) hc tw_1139 dX12_heap_18 ?_
      exact g_iret (pc := 20) hc dX12_heap_20 (by rw [if_neg (ne_true_of_eq_false (ok2_f2 c1 c2))]) (by rw [if_neg (ne_true_of_eq_false (ok2_f2 c1 c2))])
