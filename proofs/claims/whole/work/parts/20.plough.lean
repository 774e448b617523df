theorem cup_t {b : Bool} {f : Nat → Int32} {i : Nat} {x : Int32} (h : b = true) : cup b f i x = upd f i (f i + x) := by unfold cup; rw [if_pos h]
theorem cup_f {b : Bool} {f : Nat → Int32} {i : Nat} {x : Int32} (h : b = false) : cup b f i x = f := by unfold cup; rw [if_neg (ne_true_of_eq_false h)]

theorem dX2_spreadFrom_0 : decode cX2_spreadFrom 0 = .ok (.aload_n 0, 1) := by decide +kernel
theorem dX2_spreadFrom_1 : decode cX2_spreadFrom 1 = .ok (.iload_n 1, 1) := by decide +kernel
theorem dX2_spreadFrom_2 : decode cX2_spreadFrom 2 = .ok (.invokevirtual 45, 3) := by decide +kernel
theorem dX2_spreadFrom_5 : decode cX2_spreadFrom 5 = .ok (.ifCond .le 7, 3) := by decide +kernel
theorem dX2_spreadFrom_8 : decode cX2_spreadFrom 8 = .ok (.iconst 1, 1) := by decide +kernel
theorem dX2_spreadFrom_9 : decode cX2_spreadFrom 9 = .ok (.goto 4, 3) := by decide +kernel
theorem dX2_spreadFrom_12 : decode cX2_spreadFrom 12 = .ok (.iconst 0, 1) := by decide +kernel
theorem dX2_spreadFrom_13 : decode cX2_spreadFrom 13 = .ok (.istore_n 2, 1) := by decide +kernel
theorem dX2_spreadFrom_14 : decode cX2_spreadFrom 14 = .ok (.aload_n 0, 1) := by decide +kernel
theorem dX2_spreadFrom_15 : decode cX2_spreadFrom 15 = .ok (.iload_n 1, 1) := by decide +kernel
theorem dX2_spreadFrom_16 : decode cX2_spreadFrom 16 = .ok (.invokevirtual 45, 3) := by decide +kernel
theorem dX2_spreadFrom_19 : decode cX2_spreadFrom 19 = .ok (.aload_n 0, 1) := by decide +kernel
theorem dX2_spreadFrom_20 : decode cX2_spreadFrom 20 = .ok (.getfield 9, 3) := by decide +kernel
theorem dX2_spreadFrom_23 : decode cX2_spreadFrom 23 = .ok (.iconst 1, 1) := by decide +kernel
theorem dX2_spreadFrom_24 : decode cX2_spreadFrom 24 = .ok (.isub, 1) := by decide +kernel
theorem dX2_spreadFrom_25 : decode cX2_spreadFrom 25 = .ok (.if_icmp .ge 7, 3) := by decide +kernel
theorem dX2_spreadFrom_28 : decode cX2_spreadFrom 28 = .ok (.iconst 1, 1) := by decide +kernel
theorem dX2_spreadFrom_29 : decode cX2_spreadFrom 29 = .ok (.goto 4, 3) := by decide +kernel
theorem dX2_spreadFrom_32 : decode cX2_spreadFrom 32 = .ok (.iconst 0, 1) := by decide +kernel
theorem dX2_spreadFrom_33 : decode cX2_spreadFrom 33 = .ok (.istore_n 3, 1) := by decide +kernel
theorem dX2_spreadFrom_34 : decode cX2_spreadFrom 34 = .ok (.aload_n 0, 1) := by decide +kernel
theorem dX2_spreadFrom_35 : decode cX2_spreadFrom 35 = .ok (.iload_n 1, 1) := by decide +kernel
theorem dX2_spreadFrom_36 : decode cX2_spreadFrom 36 = .ok (.invokevirtual 33, 3) := by decide +kernel
theorem dX2_spreadFrom_39 : decode cX2_spreadFrom 39 = .ok (.ifCond .le 7, 3) := by decide +kernel
theorem dX2_spreadFrom_42 : decode cX2_spreadFrom 42 = .ok (.iconst 1, 1) := by decide +kernel
theorem dX2_spreadFrom_43 : decode cX2_spreadFrom 43 = .ok (.goto 4, 3) := by decide +kernel
theorem dX2_spreadFrom_46 : decode cX2_spreadFrom 46 = .ok (.iconst 0, 1) := by decide +kernel
theorem dX2_spreadFrom_47 : decode cX2_spreadFrom 47 = .ok (.istore 4, 2) := by decide +kernel
theorem dX2_spreadFrom_49 : decode cX2_spreadFrom 49 = .ok (.aload_n 0, 1) := by decide +kernel
theorem dX2_spreadFrom_50 : decode cX2_spreadFrom 50 = .ok (.iload_n 1, 1) := by decide +kernel
theorem dX2_spreadFrom_51 : decode cX2_spreadFrom 51 = .ok (.invokevirtual 33, 3) := by decide +kernel
theorem dX2_spreadFrom_54 : decode cX2_spreadFrom 54 = .ok (.aload_n 0, 1) := by decide +kernel
theorem dX2_spreadFrom_55 : decode cX2_spreadFrom 55 = .ok (.getfield 15, 3) := by decide +kernel
theorem dX2_spreadFrom_58 : decode cX2_spreadFrom 58 = .ok (.iconst 1, 1) := by decide +kernel
theorem dX2_spreadFrom_59 : decode cX2_spreadFrom 59 = .ok (.isub, 1) := by decide +kernel
theorem dX2_spreadFrom_60 : decode cX2_spreadFrom 60 = .ok (.if_icmp .ge 7, 3) := by decide +kernel
theorem dX2_spreadFrom_63 : decode cX2_spreadFrom 63 = .ok (.iconst 1, 1) := by decide +kernel
theorem dX2_spreadFrom_64 : decode cX2_spreadFrom 64 = .ok (.goto 4, 3) := by decide +kernel
theorem dX2_spreadFrom_67 : decode cX2_spreadFrom 67 = .ok (.iconst 0, 1) := by decide +kernel
theorem dX2_spreadFrom_68 : decode cX2_spreadFrom 68 = .ok (.istore 5, 2) := by decide +kernel
theorem dX2_spreadFrom_70 : decode cX2_spreadFrom 70 = .ok (.iload_n 2, 1) := by decide +kernel
theorem dX2_spreadFrom_71 : decode cX2_spreadFrom 71 = .ok (.invokestatic 87, 3) := by decide +kernel
theorem dX2_spreadFrom_74 : decode cX2_spreadFrom 74 = .ok (.iload_n 3, 1) := by decide +kernel
theorem dX2_spreadFrom_75 : decode cX2_spreadFrom 75 = .ok (.invokestatic 87, 3) := by decide +kernel
theorem dX2_spreadFrom_78 : decode cX2_spreadFrom 78 = .ok (.iadd, 1) := by decide +kernel
theorem dX2_spreadFrom_79 : decode cX2_spreadFrom 79 = .ok (.iload 4, 2) := by decide +kernel
theorem dX2_spreadFrom_81 : decode cX2_spreadFrom 81 = .ok (.invokestatic 87, 3) := by decide +kernel
theorem dX2_spreadFrom_84 : decode cX2_spreadFrom 84 = .ok (.iadd, 1) := by decide +kernel
theorem dX2_spreadFrom_85 : decode cX2_spreadFrom 85 = .ok (.iload 5, 2) := by decide +kernel
theorem dX2_spreadFrom_87 : decode cX2_spreadFrom 87 = .ok (.invokestatic 87, 3) := by decide +kernel
theorem dX2_spreadFrom_90 : decode cX2_spreadFrom 90 = .ok (.iadd, 1) := by decide +kernel
theorem dX2_spreadFrom_91 : decode cX2_spreadFrom 91 = .ok (.istore 6, 2) := by decide +kernel
theorem dX2_spreadFrom_93 : decode cX2_spreadFrom 93 = .ok (.iload 6, 2) := by decide +kernel
theorem dX2_spreadFrom_95 : decode cX2_spreadFrom 95 = .ok (.ifCond .le 17, 3) := by decide +kernel
theorem dX2_spreadFrom_98 : decode cX2_spreadFrom 98 = .ok (.aload_n 0, 1) := by decide +kernel
theorem dX2_spreadFrom_99 : decode cX2_spreadFrom 99 = .ok (.getfield 22, 3) := by decide +kernel
theorem dX2_spreadFrom_102 : decode cX2_spreadFrom 102 = .ok (.iload_n 1, 1) := by decide +kernel
theorem dX2_spreadFrom_103 : decode cX2_spreadFrom 103 = .ok (.iaload, 1) := by decide +kernel
theorem dX2_spreadFrom_104 : decode cX2_spreadFrom 104 = .ok (.iconst 2, 1) := by decide +kernel
theorem dX2_spreadFrom_105 : decode cX2_spreadFrom 105 = .ok (.idiv, 1) := by decide +kernel
theorem dX2_spreadFrom_106 : decode cX2_spreadFrom 106 = .ok (.iload 6, 2) := by decide +kernel
theorem dX2_spreadFrom_108 : decode cX2_spreadFrom 108 = .ok (.idiv, 1) := by decide +kernel
theorem dX2_spreadFrom_109 : decode cX2_spreadFrom 109 = .ok (.goto 4, 3) := by decide +kernel
theorem dX2_spreadFrom_112 : decode cX2_spreadFrom 112 = .ok (.iconst 0, 1) := by decide +kernel
theorem dX2_spreadFrom_113 : decode cX2_spreadFrom 113 = .ok (.istore 7, 2) := by decide +kernel
theorem dX2_spreadFrom_115 : decode cX2_spreadFrom 115 = .ok (.aload_n 0, 1) := by decide +kernel
theorem dX2_spreadFrom_116 : decode cX2_spreadFrom 116 = .ok (.getfield 26, 3) := by decide +kernel
theorem dX2_spreadFrom_119 : decode cX2_spreadFrom 119 = .ok (.iload_n 1, 1) := by decide +kernel
theorem dX2_spreadFrom_120 : decode cX2_spreadFrom 120 = .ok (.dup2, 1) := by decide +kernel
theorem dX2_spreadFrom_121 : decode cX2_spreadFrom 121 = .ok (.iaload, 1) := by decide +kernel
theorem dX2_spreadFrom_122 : decode cX2_spreadFrom 122 = .ok (.aload_n 0, 1) := by decide +kernel
theorem dX2_spreadFrom_123 : decode cX2_spreadFrom 123 = .ok (.getfield 22, 3) := by decide +kernel
theorem dX2_spreadFrom_126 : decode cX2_spreadFrom 126 = .ok (.iload_n 1, 1) := by decide +kernel
theorem dX2_spreadFrom_127 : decode cX2_spreadFrom 127 = .ok (.iaload, 1) := by decide +kernel
theorem dX2_spreadFrom_128 : decode cX2_spreadFrom 128 = .ok (.iload 7, 2) := by decide +kernel
theorem dX2_spreadFrom_130 : decode cX2_spreadFrom 130 = .ok (.iload 6, 2) := by decide +kernel
theorem dX2_spreadFrom_132 : decode cX2_spreadFrom 132 = .ok (.imul, 1) := by decide +kernel
theorem dX2_spreadFrom_133 : decode cX2_spreadFrom 133 = .ok (.isub, 1) := by decide +kernel
theorem dX2_spreadFrom_134 : decode cX2_spreadFrom 134 = .ok (.iadd, 1) := by decide +kernel
theorem dX2_spreadFrom_135 : decode cX2_spreadFrom 135 = .ok (.iastore, 1) := by decide +kernel
theorem dX2_spreadFrom_136 : decode cX2_spreadFrom 136 = .ok (.iload_n 2, 1) := by decide +kernel
theorem dX2_spreadFrom_137 : decode cX2_spreadFrom 137 = .ok (.ifCond .eq 16, 3) := by decide +kernel
theorem dX2_spreadFrom_140 : decode cX2_spreadFrom 140 = .ok (.aload_n 0, 1) := by decide +kernel
theorem dX2_spreadFrom_141 : decode cX2_spreadFrom 141 = .ok (.getfield 26, 3) := by decide +kernel
theorem dX2_spreadFrom_144 : decode cX2_spreadFrom 144 = .ok (.iload_n 1, 1) := by decide +kernel
theorem dX2_spreadFrom_145 : decode cX2_spreadFrom 145 = .ok (.iconst 1, 1) := by decide +kernel
theorem dX2_spreadFrom_146 : decode cX2_spreadFrom 146 = .ok (.isub, 1) := by decide +kernel
theorem dX2_spreadFrom_147 : decode cX2_spreadFrom 147 = .ok (.dup2, 1) := by decide +kernel
theorem dX2_spreadFrom_148 : decode cX2_spreadFrom 148 = .ok (.iaload, 1) := by decide +kernel
theorem dX2_spreadFrom_149 : decode cX2_spreadFrom 149 = .ok (.iload 7, 2) := by decide +kernel
theorem dX2_spreadFrom_151 : decode cX2_spreadFrom 151 = .ok (.iadd, 1) := by decide +kernel
theorem dX2_spreadFrom_152 : decode cX2_spreadFrom 152 = .ok (.iastore, 1) := by decide +kernel
theorem dX2_spreadFrom_153 : decode cX2_spreadFrom 153 = .ok (.iload_n 3, 1) := by decide +kernel
theorem dX2_spreadFrom_154 : decode cX2_spreadFrom 154 = .ok (.ifCond .eq 16, 3) := by decide +kernel
theorem dX2_spreadFrom_157 : decode cX2_spreadFrom 157 = .ok (.aload_n 0, 1) := by decide +kernel
theorem dX2_spreadFrom_158 : decode cX2_spreadFrom 158 = .ok (.getfield 26, 3) := by decide +kernel
theorem dX2_spreadFrom_161 : decode cX2_spreadFrom 161 = .ok (.iload_n 1, 1) := by decide +kernel
theorem dX2_spreadFrom_162 : decode cX2_spreadFrom 162 = .ok (.iconst 1, 1) := by decide +kernel
theorem dX2_spreadFrom_163 : decode cX2_spreadFrom 163 = .ok (.iadd, 1) := by decide +kernel
theorem dX2_spreadFrom_164 : decode cX2_spreadFrom 164 = .ok (.dup2, 1) := by decide +kernel
theorem dX2_spreadFrom_165 : decode cX2_spreadFrom 165 = .ok (.iaload, 1) := by decide +kernel
theorem dX2_spreadFrom_166 : decode cX2_spreadFrom 166 = .ok (.iload 7, 2) := by decide +kernel
theorem dX2_spreadFrom_168 : decode cX2_spreadFrom 168 = .ok (.iadd, 1) := by decide +kernel
theorem dX2_spreadFrom_169 : decode cX2_spreadFrom 169 = .ok (.iastore, 1) := by decide +kernel
theorem dX2_spreadFrom_170 : decode cX2_spreadFrom 170 = .ok (.iload 4, 2) := by decide +kernel
theorem dX2_spreadFrom_172 : decode cX2_spreadFrom 172 = .ok (.ifCond .eq 19, 3) := by decide +kernel
theorem dX2_spreadFrom_175 : decode cX2_spreadFrom 175 = .ok (.aload_n 0, 1) := by decide +kernel
theorem dX2_spreadFrom_176 : decode cX2_spreadFrom 176 = .ok (.getfield 26, 3) := by decide +kernel
theorem dX2_spreadFrom_179 : decode cX2_spreadFrom 179 = .ok (.iload_n 1, 1) := by decide +kernel
theorem dX2_spreadFrom_180 : decode cX2_spreadFrom 180 = .ok (.aload_n 0, 1) := by decide +kernel
theorem dX2_spreadFrom_181 : decode cX2_spreadFrom 181 = .ok (.getfield 9, 3) := by decide +kernel
theorem dX2_spreadFrom_184 : decode cX2_spreadFrom 184 = .ok (.isub, 1) := by decide +kernel
theorem dX2_spreadFrom_185 : decode cX2_spreadFrom 185 = .ok (.dup2, 1) := by decide +kernel
theorem dX2_spreadFrom_186 : decode cX2_spreadFrom 186 = .ok (.iaload, 1) := by decide +kernel
theorem dX2_spreadFrom_187 : decode cX2_spreadFrom 187 = .ok (.iload 7, 2) := by decide +kernel
theorem dX2_spreadFrom_189 : decode cX2_spreadFrom 189 = .ok (.iadd, 1) := by decide +kernel
theorem dX2_spreadFrom_190 : decode cX2_spreadFrom 190 = .ok (.iastore, 1) := by decide +kernel
theorem dX2_spreadFrom_191 : decode cX2_spreadFrom 191 = .ok (.iload 5, 2) := by decide +kernel
theorem dX2_spreadFrom_193 : decode cX2_spreadFrom 193 = .ok (.ifCond .eq 19, 3) := by decide +kernel
theorem dX2_spreadFrom_196 : decode cX2_spreadFrom 196 = .ok (.aload_n 0, 1) := by decide +kernel
theorem dX2_spreadFrom_197 : decode cX2_spreadFrom 197 = .ok (.getfield 26, 3) := by decide +kernel
theorem dX2_spreadFrom_200 : decode cX2_spreadFrom 200 = .ok (.iload_n 1, 1) := by decide +kernel
theorem dX2_spreadFrom_201 : decode cX2_spreadFrom 201 = .ok (.aload_n 0, 1) := by decide +kernel
theorem dX2_spreadFrom_202 : decode cX2_spreadFrom 202 = .ok (.getfield 9, 3) := by decide +kernel
theorem dX2_spreadFrom_205 : decode cX2_spreadFrom 205 = .ok (.iadd, 1) := by decide +kernel
theorem dX2_spreadFrom_206 : decode cX2_spreadFrom 206 = .ok (.dup2, 1) := by decide +kernel
theorem dX2_spreadFrom_207 : decode cX2_spreadFrom 207 = .ok (.iaload, 1) := by decide +kernel
theorem dX2_spreadFrom_208 : decode cX2_spreadFrom 208 = .ok (.iload 7, 2) := by decide +kernel
theorem dX2_spreadFrom_210 : decode cX2_spreadFrom 210 = .ok (.iadd, 1) := by decide +kernel
theorem dX2_spreadFrom_211 : decode cX2_spreadFrom 211 = .ok (.iastore, 1) := by decide +kernel
theorem dX2_spreadFrom_212 : decode cX2_spreadFrom 212 = .ok (.return_, 1) := by decide +kernel

set_option maxHeartbeats 4000000 in
set_option maxRecDepth 100000 in
theorem c_X2_spreadFrom (l : Launch) (E : Ev) {A : Nat → Prop} (ad : Nat → Nat) (hA : Oka 39 ad A) (sc : Nat → Int32) (ar : Nat → Nat → Int32) (bl : Int64) {wd hg : Nat} (p : Nat) (hwd : sc 3 = nI wd) (hwd1 : 2 ≤ wd) (hwd2 : wd ≤ 8) (hhg : sc 4 = nI hg) (hhg1 : 2 ≤ hg) (hhg2 : hg ≤ 8) (hp : p < wd * hg) : Ct l E yX2_spreadFrom (.code yX2_spreadFrom cX2_spreadFrom 8 none) ({ frames := 2, cells := 0, slots := 0, locals := 42 }) A (cw E ad sc ar bl) [.ref (ad 1), .int (nI p)] (none) (cw E ad sc (va_up ar 14 (sp1 (ar 13) wd hg (ar 14) p)) bl) := by
  have hrow : p / wd < hg := row_lt hp hwd1
  have hcol : p % wd < wd := Nat.mod_lt _ (by omega)
  have hm := prod64 hwd2 hhg2
  have hsd := sdN_pos (hg := hg) hwd1 hcol
  refine Ct.of (lv := [(0, .ref (ad 1)), (1, .int (nI p))]) (by decide +kernel) (Nat.le_of_ble_eq_true rfl) rfl ?_
  intro zp ze zs zm za zb zh zc hc
  refine g_aload_n (pc := 0) hc 0 dX2_spreadFrom_0 rfl rfl ?_
  refine g_iload_n (pc := 1) hc 1 dX2_spreadFrom_1 rfl rfl ?_
  refine g_callVi (pc := 2) (rest := []) (As := [.int (nI p)]) hc (c_X2_columnOf l E ad hA sc ar bl p (hwd) (hwd1) (hwd2) (hhg) (hhg1) (hhg2) (by omega)) mi_X2_columnOf tw_612 1 rfl rfl rfl rfl ⟨rfl, rfl, by decide, by decide⟩ (Nat.le_of_ble_eq_true rfl) ⟨Nat.le_refl _, Nat.le_refl _⟩ rfl dX2_spreadFrom_2 ?_
  have J13_1 : G zp l ze ({ frames := 2, cells := 0, slots := 0, locals := 42 }) zs zm za zb zh zc 0 0 (MQ zb (Qz E A (none) (cw E ad sc (va_up ar 14 (sp1 (ar 13) wd hg (ar 14) p)) bl)) za zs 0 0 A) E A 8 (cw E ad sc ar bl) (13) [(0, .ref (ad 1)), (1, .int (nI p))] [.int (bI (sdL wd p))] := by
    refine g_istore_n (pc := 13) (lv' := [(0, .ref (ad 1)), (1, .int (nI p)), (2, .int (bI (sdL wd p)))]) hc dX2_spreadFrom_13 rfl (by decide) rfl ?_
    refine g_aload_n (pc := 14) hc 0 dX2_spreadFrom_14 rfl rfl ?_
    refine g_iload_n (pc := 15) hc 1 dX2_spreadFrom_15 rfl rfl ?_
    refine g_callVi (pc := 16) (rest := []) (As := [.int (nI p)]) hc (c_X2_columnOf l E ad hA sc ar bl p (hwd) (hwd1) (hwd2) (hhg) (hhg1) (hhg2) (by omega)) mi_X2_columnOf tw_612 1 rfl rfl rfl rfl ⟨rfl, rfl, by decide, by decide⟩ (Nat.le_of_ble_eq_true rfl) ⟨Nat.le_refl _, Nat.le_refl _⟩ rfl dX2_spreadFrom_16 ?_
    refine g_aload_n (pc := 19) hc 0 dX2_spreadFrom_19 rfl rfl ?_
    refine gf_c1_wide (pc := 20) hc tw_36 dX2_spreadFrom_20 ?_
    refine g_topi (v := nI wd) (hwd) ?_
    refine g_iconst (pc := 23) (v := nI 1) hc dX2_spreadFrom_23 (by decide) ?_
    refine g_isub (pc := 24) hc dX2_spreadFrom_24 ?_
    refine g_topi (v := nI (wd - 1)) (pk_sub (by omega)) ?_
    have J33_2 : G zp l ze ({ frames := 2, cells := 0, slots := 0, locals := 42 }) zs zm za zb zh zc 0 0 (MQ zb (Qz E A (none) (cw E ad sc (va_up ar 14 (sp1 (ar 13) wd hg (ar 14) p)) bl)) za zs 0 0 A) E A 8 (cw E ad sc ar bl) (33) [(0, .ref (ad 1)), (1, .int (nI p)), (2, .int (bI (sdL wd p)))] [.int (bI (sdR wd p))] := by
      refine g_istore_n (pc := 33) (lv' := [(0, .ref (ad 1)), (1, .int (nI p)), (2, .int (bI (sdL wd p))), (3, .int (bI (sdR wd p)))]) hc dX2_spreadFrom_33 rfl (by decide) rfl ?_
      refine g_aload_n (pc := 34) hc 0 dX2_spreadFrom_34 rfl rfl ?_
      refine g_iload_n (pc := 35) hc 1 dX2_spreadFrom_35 rfl rfl ?_
      refine g_callVi (pc := 36) (rest := []) (As := [.int (nI p)]) hc (c_X2_rowOf l E ad hA sc ar bl p (hwd) (hwd1) (hwd2) (hhg) (hhg1) (hhg2) (by omega)) mi_X2_rowOf tw_417 1 rfl rfl rfl rfl ⟨rfl, rfl, by decide, by decide⟩ (Nat.le_of_ble_eq_true rfl) ⟨Nat.le_refl _, Nat.le_refl _⟩ rfl dX2_spreadFrom_36 ?_
      have J47_3 : G zp l ze ({ frames := 2, cells := 0, slots := 0, locals := 42 }) zs zm za zb zh zc 0 0 (MQ zb (Qz E A (none) (cw E ad sc (va_up ar 14 (sp1 (ar 13) wd hg (ar 14) p)) bl)) za zs 0 0 A) E A 8 (cw E ad sc ar bl) (47) [(0, .ref (ad 1)), (1, .int (nI p)), (2, .int (bI (sdL wd p))), (3, .int (bI (sdR wd p)))] [.int (bI (sdU wd p))] := by
        refine g_istore (pc := 47) (lv' := [(0, .ref (ad 1)), (1, .int (nI p)), (2, .int (bI (sdL wd p))), (3, .int (bI (sdR wd p))), (4, .int (bI (sdU wd p)))]) hc dX2_spreadFrom_47 (by decide) rfl ?_
        refine g_aload_n (pc := 49) hc 0 dX2_spreadFrom_49 rfl rfl ?_
        refine g_iload_n (pc := 50) hc 1 dX2_spreadFrom_50 rfl rfl ?_
        refine g_callVi (pc := 51) (rest := []) (As := [.int (nI p)]) hc (c_X2_rowOf l E ad hA sc ar bl p (hwd) (hwd1) (hwd2) (hhg) (hhg1) (hhg2) (by omega)) mi_X2_rowOf tw_417 1 rfl rfl rfl rfl ⟨rfl, rfl, by decide, by decide⟩ (Nat.le_of_ble_eq_true rfl) ⟨Nat.le_refl _, Nat.le_refl _⟩ rfl dX2_spreadFrom_51 ?_
        refine g_aload_n (pc := 54) hc 0 dX2_spreadFrom_54 rfl rfl ?_
        refine gf_c1_high (pc := 55) hc tw_37 dX2_spreadFrom_55 ?_
        refine g_topi (v := nI hg) (hhg) ?_
        refine g_iconst (pc := 58) (v := nI 1) hc dX2_spreadFrom_58 (by decide) ?_
        refine g_isub (pc := 59) hc dX2_spreadFrom_59 ?_
        refine g_topi (v := nI (hg - 1)) (pk_sub (by omega)) ?_
        have J68_4 : G zp l ze ({ frames := 2, cells := 0, slots := 0, locals := 42 }) zs zm za zb zh zc 0 0 (MQ zb (Qz E A (none) (cw E ad sc (va_up ar 14 (sp1 (ar 13) wd hg (ar 14) p)) bl)) za zs 0 0 A) E A 8 (cw E ad sc ar bl) (68) [(0, .ref (ad 1)), (1, .int (nI p)), (2, .int (bI (sdL wd p))), (3, .int (bI (sdR wd p))), (4, .int (bI (sdU wd p)))] [.int (bI (sdD wd hg p))] := by
          refine g_istore (pc := 68) (lv' := [(0, .ref (ad 1)), (1, .int (nI p)), (2, .int (bI (sdL wd p))), (3, .int (bI (sdR wd p))), (4, .int (bI (sdU wd p))), (5, .int (bI (sdD wd hg p)))]) hc dX2_spreadFrom_68 (by decide) rfl ?_
          refine g_iload_n (pc := 70) hc 2 dX2_spreadFrom_70 rfl rfl ?_
          refine g_callSNi (pc := 71) (rest := []) (As := [.int (bI (sdL wd p))]) hc (c_X11_toInt l E ad hA sc ar bl (bI (sdL wd p))) mi_X11_toInt tn_692 rfl ⟨rfl, rfl, by decide, by decide⟩ (Nat.le_of_ble_eq_true rfl) ⟨Nat.le_refl _, Nat.le_refl _⟩ rfl dX2_spreadFrom_71 ?_
          refine g_topi (v := bI (sdL wd p)) (toI_b _) ?_
          refine g_iload_n (pc := 74) hc 3 dX2_spreadFrom_74 rfl rfl ?_
          refine g_callSNi (pc := 75) (rest := [.int (bI (sdL wd p))]) (As := [.int (bI (sdR wd p))]) hc (c_X11_toInt l E ad hA sc ar bl (bI (sdR wd p))) mi_X11_toInt tn_692 rfl ⟨rfl, rfl, by decide, by decide⟩ (Nat.le_of_ble_eq_true rfl) ⟨Nat.le_refl _, Nat.le_refl _⟩ rfl dX2_spreadFrom_75 ?_
          refine g_topi (v := bI (sdR wd p)) (toI_b _) ?_
          refine g_iadd (pc := 78) hc dX2_spreadFrom_78 ?_
          refine g_iload (pc := 79) hc 4 dX2_spreadFrom_79 rfl ?_
          refine g_callSNi (pc := 81) (rest := [.int ((bI (sdL wd p)) + (bI (sdR wd p)))]) (As := [.int (bI (sdU wd p))]) hc (c_X11_toInt l E ad hA sc ar bl (bI (sdU wd p))) mi_X11_toInt tn_692 rfl ⟨rfl, rfl, by decide, by decide⟩ (Nat.le_of_ble_eq_true rfl) ⟨Nat.le_refl _, Nat.le_refl _⟩ rfl dX2_spreadFrom_81 ?_
          refine g_topi (v := bI (sdU wd p)) (toI_b _) ?_
          refine g_iadd (pc := 84) hc dX2_spreadFrom_84 ?_
          refine g_iload (pc := 85) hc 5 dX2_spreadFrom_85 rfl ?_
          refine g_callSNi (pc := 87) (rest := [.int (((bI (sdL wd p)) + (bI (sdR wd p))) + (bI (sdU wd p)))]) (As := [.int (bI (sdD wd hg p))]) hc (c_X11_toInt l E ad hA sc ar bl (bI (sdD wd hg p))) mi_X11_toInt tn_692 rfl ⟨rfl, rfl, by decide, by decide⟩ (Nat.le_of_ble_eq_true rfl) ⟨Nat.le_refl _, Nat.le_refl _⟩ rfl dX2_spreadFrom_87 ?_
          refine g_topi (v := bI (sdD wd hg p)) (toI_b _) ?_
          refine g_iadd (pc := 90) hc dX2_spreadFrom_90 ?_
          refine g_topi (v := nI (sdN wd hg p)) (by rw [bI_bN, bI_bN, bI_bN, bI_bN, nI_add, nI_add, nI_add]; rfl) ?_
          refine g_istore (pc := 91) (lv' := [(0, .ref (ad 1)), (1, .int (nI p)), (2, .int (bI (sdL wd p))), (3, .int (bI (sdR wd p))), (4, .int (bI (sdU wd p))), (5, .int (bI (sdD wd hg p))), (6, .int (nI (sdN wd hg p)))]) hc dX2_spreadFrom_91 (by decide) rfl ?_
          refine g_iload (pc := 93) hc 6 dX2_spreadFrom_93 rfl ?_
          refine g_if_le_f (pc := 95) hc 112 dX2_spreadFrom_95 (by decide) (nI_nle hsd.1 (by omega)) ?_
          refine g_aload_n (pc := 98) hc 0 dX2_spreadFrom_98 rfl rfl ?_
          refine gf_c1_lying (pc := 99) hc tw_39 dX2_spreadFrom_99 ?_
          refine g_iload_n (pc := 102) hc 1 dX2_spreadFrom_102 rfl rfl ?_
          refine la_c13 (pc := 103) hc (p) (rfl) (by omega) dX2_spreadFrom_103 ?_
          refine g_iconst (pc := 104) (v := nI 2) hc dX2_spreadFrom_104 (by decide) ?_
          refine g_idiv (pc := 105) hc dX2_spreadFrom_105 (by decide) ?_
          refine g_iload (pc := 106) hc 6 dX2_spreadFrom_106 rfl ?_
          refine g_idiv (pc := 108) hc dX2_spreadFrom_108 (nI_ne0 hsd.1 (by omega)) ?_
          refine g_goto (pc := 109) hc 113 dX2_spreadFrom_109 (by decide) ?_
          refine g_istore (pc := 113) (lv' := [(0, .ref (ad 1)), (1, .int (nI p)), (2, .int (bI (sdL wd p))), (3, .int (bI (sdR wd p))), (4, .int (bI (sdU wd p))), (5, .int (bI (sdD wd hg p))), (6, .int (nI (sdN wd hg p))), (7, .int ((((ar 13) p) / (nI 2)) / (nI (sdN wd hg p))))]) hc dX2_spreadFrom_113 (by decide) rfl ?_
          refine g_aload_n (pc := 115) hc 0 dX2_spreadFrom_115 rfl rfl ?_
          refine gf_c1_spread (pc := 116) hc tw_40 dX2_spreadFrom_116 ?_
          refine g_iload_n (pc := 119) hc 1 dX2_spreadFrom_119 rfl rfl ?_
          refine g_dup2 (pc := 120) hc dX2_spreadFrom_120 rfl rfl ?_
          refine la_c14 (pc := 121) hc (p) (rfl) (by omega) dX2_spreadFrom_121 ?_
          refine g_aload_n (pc := 122) hc 0 dX2_spreadFrom_122 rfl rfl ?_
          refine gf_c1_lying (pc := 123) hc tw_39 dX2_spreadFrom_123 ?_
          refine g_iload_n (pc := 126) hc 1 dX2_spreadFrom_126 rfl rfl ?_
          refine la_c13 (pc := 127) hc (p) (rfl) (by omega) dX2_spreadFrom_127 ?_
          refine g_iload (pc := 128) hc 7 dX2_spreadFrom_128 rfl ?_
          refine g_iload (pc := 130) hc 6 dX2_spreadFrom_130 rfl ?_
          refine g_imul (pc := 132) hc dX2_spreadFrom_132 ?_
          refine g_isub (pc := 133) hc dX2_spreadFrom_133 ?_
          refine g_iadd (pc := 134) hc dX2_spreadFrom_134 ?_
          refine sa_c14 (pc := 135) hc hA (p) (rfl) (by omega) dX2_spreadFrom_135 ?_
          refine g_eq (ws' := cw E ad sc (va_up ar 14 (sp0 (ar 13) wd hg (ar 14) p)) bl) (lv' := [(0, .ref (ad 1)), (1, .int (nI p)), (2, .int (bI (sdL wd p))), (3, .int (bI (sdR wd p))), (4, .int (bI (sdU wd p))), (5, .int (bI (sdD wd hg p))), (6, .int (nI (sdN wd hg p))), (7, .int ((((ar 13) p) / (nI 2)) / (nI (sdN wd hg p))))]) (rfl) rfl rfl ?_
          refine g_iload_n (pc := 136) hc 2 dX2_spreadFrom_136 rfl rfl ?_
          have J153_5 : G zp l ze ({ frames := 2, cells := 0, slots := 0, locals := 42 }) zs zm za zb zh zc 0 0 (MQ zb (Qz E A (none) (cw E ad sc (va_up ar 14 (sp1 (ar 13) wd hg (ar 14) p)) bl)) za zs 0 0 A) E A 8 (cw E ad sc (va_up ar 14 (cup (sdL wd p) (sp0 (ar 13) wd hg (ar 14) p) (p - 1) (prt (ar 13) wd hg p))) bl) (153) [(0, .ref (ad 1)), (1, .int (nI p)), (2, .int (bI (sdL wd p))), (3, .int (bI (sdR wd p))), (4, .int (bI (sdU wd p))), (5, .int (bI (sdD wd hg p))), (6, .int (nI (sdN wd hg p))), (7, .int ((((ar 13) p) / (nI 2)) / (nI (sdN wd hg p))))] [] := by
            refine g_iload_n (pc := 153) hc 3 dX2_spreadFrom_153 rfl rfl ?_
            have J170_6 : G zp l ze ({ frames := 2, cells := 0, slots := 0, locals := 42 }) zs zm za zb zh zc 0 0 (MQ zb (Qz E A (none) (cw E ad sc (va_up ar 14 (sp1 (ar 13) wd hg (ar 14) p)) bl)) za zs 0 0 A) E A 8 (cw E ad sc (va_up ar 14 (cup (sdR wd p) (cup (sdL wd p) (sp0 (ar 13) wd hg (ar 14) p) (p - 1) (prt (ar 13) wd hg p)) (p + 1) (prt (ar 13) wd hg p))) bl) (170) [(0, .ref (ad 1)), (1, .int (nI p)), (2, .int (bI (sdL wd p))), (3, .int (bI (sdR wd p))), (4, .int (bI (sdU wd p))), (5, .int (bI (sdD wd hg p))), (6, .int (nI (sdN wd hg p))), (7, .int ((((ar 13) p) / (nI 2)) / (nI (sdN wd hg p))))] [] := by
              refine g_iload (pc := 170) hc 4 dX2_spreadFrom_170 rfl ?_
              have J191_7 : G zp l ze ({ frames := 2, cells := 0, slots := 0, locals := 42 }) zs zm za zb zh zc 0 0 (MQ zb (Qz E A (none) (cw E ad sc (va_up ar 14 (sp1 (ar 13) wd hg (ar 14) p)) bl)) za zs 0 0 A) E A 8 (cw E ad sc (va_up ar 14 (cup (sdU wd p) (cup (sdR wd p) (cup (sdL wd p) (sp0 (ar 13) wd hg (ar 14) p) (p - 1) (prt (ar 13) wd hg p)) (p + 1) (prt (ar 13) wd hg p)) (p - wd) (prt (ar 13) wd hg p))) bl) (191) [(0, .ref (ad 1)), (1, .int (nI p)), (2, .int (bI (sdL wd p))), (3, .int (bI (sdR wd p))), (4, .int (bI (sdU wd p))), (5, .int (bI (sdD wd hg p))), (6, .int (nI (sdN wd hg p))), (7, .int ((((ar 13) p) / (nI 2)) / (nI (sdN wd hg p))))] [] := by
                refine g_iload (pc := 191) hc 5 dX2_spreadFrom_191 rfl ?_
                have J212_8 : G zp l ze ({ frames := 2, cells := 0, slots := 0, locals := 42 }) zs zm za zb zh zc 0 0 (MQ zb (Qz E A (none) (cw E ad sc (va_up ar 14 (sp1 (ar 13) wd hg (ar 14) p)) bl)) za zs 0 0 A) E A 8 (cw E ad sc (va_up ar 14 (cup (sdD wd hg p) (cup (sdU wd p) (cup (sdR wd p) (cup (sdL wd p) (sp0 (ar 13) wd hg (ar 14) p) (p - 1) (prt (ar 13) wd hg p)) (p + 1) (prt (ar 13) wd hg p)) (p - wd) (prt (ar 13) wd hg p)) (p + wd) (prt (ar 13) wd hg p))) bl) (212) [(0, .ref (ad 1)), (1, .int (nI p)), (2, .int (bI (sdL wd p))), (3, .int (bI (sdR wd p))), (4, .int (bI (sdU wd p))), (5, .int (bI (sdD wd hg p))), (6, .int (nI (sdN wd hg p))), (7, .int ((((ar 13) p) / (nI 2)) / (nI (sdN wd hg p))))] [] := by
                  exact g_vret (pc := 212) hc dX2_spreadFrom_212 rfl (rfl)
                refine g_if_eq_b (pc := 193) hc 212 dX2_spreadFrom_193 (by decide) (fun c9 => ?_) (fun c9 => ?_)
                · exact g_eq (ws' := cw E ad sc (va_up ar 14 (cup (sdD wd hg p) (cup (sdU wd p) (cup (sdR wd p) (cup (sdL wd p) (sp0 (ar 13) wd hg (ar 14) p) (p - 1) (prt (ar 13) wd hg p)) (p + 1) (prt (ar 13) wd hg p)) (p - wd) (prt (ar 13) wd hg p)) (p + wd) (prt (ar 13) wd hg p))) bl) (lv' := [(0, .ref (ad 1)), (1, .int (nI p)), (2, .int (bI (sdL wd p))), (3, .int (bI (sdR wd p))), (4, .int (bI (sdU wd p))), (5, .int (bI (sdD wd hg p))), (6, .int (nI (sdN wd hg p))), (7, .int ((((ar 13) p) / (nI 2)) / (nI (sdN wd hg p))))]) (by (first | rw [cup_t c9] | rw [cup_f c9]); try rfl) (rfl) (rfl) J212_8
                · refine g_aload_n (pc := 196) hc 0 dX2_spreadFrom_196 rfl rfl ?_
                  refine gf_c1_spread (pc := 197) hc tw_40 dX2_spreadFrom_197 ?_
                  refine g_iload_n (pc := 200) hc 1 dX2_spreadFrom_200 rfl rfl ?_
                  refine g_aload_n (pc := 201) hc 0 dX2_spreadFrom_201 rfl rfl ?_
                  refine gf_c1_wide (pc := 202) hc tw_36 dX2_spreadFrom_202 ?_
                  refine g_topi (v := nI wd) (hwd) ?_
                  refine g_iadd (pc := 205) hc dX2_spreadFrom_205 ?_
                  refine g_topi (v := nI (p + wd)) (nI_add p wd) ?_
                  refine g_dup2 (pc := 206) hc dX2_spreadFrom_206 rfl rfl ?_
                  refine la_c14 (pc := 207) hc (p + wd) (rfl) (by have := nb_d c9 hcol; omega) dX2_spreadFrom_207 ?_
                  refine g_topi (v := (cup (sdU wd p) (cup (sdR wd p) (cup (sdL wd p) (sp0 (ar 13) wd hg (ar 14) p) (p - 1) (prt (ar 13) wd hg p)) (p + 1) (prt (ar 13) wd hg p)) (p - wd) (prt (ar 13) wd hg p)) (p + wd)) rfl ?_
                  refine g_iload (pc := 208) hc 7 dX2_spreadFrom_208 rfl ?_
                  refine g_iadd (pc := 210) hc dX2_spreadFrom_210 ?_
                  refine sa_c14 (pc := 211) hc hA (p + wd) (rfl) (by have := nb_d c9 hcol; omega) dX2_spreadFrom_211 ?_
                  refine g_eq (ws' := cw E ad sc (va_up ar 14 (upd (cup (sdU wd p) (cup (sdR wd p) (cup (sdL wd p) (sp0 (ar 13) wd hg (ar 14) p) (p - 1) (prt (ar 13) wd hg p)) (p + 1) (prt (ar 13) wd hg p)) (p - wd) (prt (ar 13) wd hg p)) (p + wd) (((cup (sdU wd p) (cup (sdR wd p) (cup (sdL wd p) (sp0 (ar 13) wd hg (ar 14) p) (p - 1) (prt (ar 13) wd hg p)) (p + 1) (prt (ar 13) wd hg p)) (p - wd) (prt (ar 13) wd hg p)) (p + wd)) + ((((ar 13) p) / (nI 2)) / (nI (sdN wd hg p)))))) bl) (lv' := [(0, .ref (ad 1)), (1, .int (nI p)), (2, .int (bI (sdL wd p))), (3, .int (bI (sdR wd p))), (4, .int (bI (sdU wd p))), (5, .int (bI (sdD wd hg p))), (6, .int (nI (sdN wd hg p))), (7, .int ((((ar 13) p) / (nI 2)) / (nI (sdN wd hg p))))]) rfl rfl rfl ?_
                  exact g_eq (ws' := cw E ad sc (va_up ar 14 (cup (sdD wd hg p) (cup (sdU wd p) (cup (sdR wd p) (cup (sdL wd p) (sp0 (ar 13) wd hg (ar 14) p) (p - 1) (prt (ar 13) wd hg p)) (p + 1) (prt (ar 13) wd hg p)) (p - wd) (prt (ar 13) wd hg p)) (p + wd) (prt (ar 13) wd hg p))) bl) (lv' := [(0, .ref (ad 1)), (1, .int (nI p)), (2, .int (bI (sdL wd p))), (3, .int (bI (sdR wd p))), (4, .int (bI (sdU wd p))), (5, .int (bI (sdD wd hg p))), (6, .int (nI (sdN wd hg p))), (7, .int ((((ar 13) p) / (nI 2)) / (nI (sdN wd hg p))))]) (by (first | rw [cup_t c9] | rw [cup_f c9]); try rfl) (rfl) (rfl) J212_8
              refine g_if_eq_b (pc := 172) hc 191 dX2_spreadFrom_172 (by decide) (fun c10 => ?_) (fun c10 => ?_)
              · exact g_eq (ws' := cw E ad sc (va_up ar 14 (cup (sdU wd p) (cup (sdR wd p) (cup (sdL wd p) (sp0 (ar 13) wd hg (ar 14) p) (p - 1) (prt (ar 13) wd hg p)) (p + 1) (prt (ar 13) wd hg p)) (p - wd) (prt (ar 13) wd hg p))) bl) (lv' := [(0, .ref (ad 1)), (1, .int (nI p)), (2, .int (bI (sdL wd p))), (3, .int (bI (sdR wd p))), (4, .int (bI (sdU wd p))), (5, .int (bI (sdD wd hg p))), (6, .int (nI (sdN wd hg p))), (7, .int ((((ar 13) p) / (nI 2)) / (nI (sdN wd hg p))))]) (by (first | rw [cup_t c10] | rw [cup_f c10]); try rfl) (rfl) (rfl) J191_7
              · refine g_aload_n (pc := 175) hc 0 dX2_spreadFrom_175 rfl rfl ?_
                refine gf_c1_spread (pc := 176) hc tw_40 dX2_spreadFrom_176 ?_
                refine g_iload_n (pc := 179) hc 1 dX2_spreadFrom_179 rfl rfl ?_
                refine g_aload_n (pc := 180) hc 0 dX2_spreadFrom_180 rfl rfl ?_
                refine gf_c1_wide (pc := 181) hc tw_36 dX2_spreadFrom_181 ?_
                refine g_topi (v := nI wd) (hwd) ?_
                refine g_isub (pc := 184) hc dX2_spreadFrom_184 ?_
                refine g_topi (v := nI (p - wd)) (pk_sub (nb_u c10)) ?_
                refine g_dup2 (pc := 185) hc dX2_spreadFrom_185 rfl rfl ?_
                refine la_c14 (pc := 186) hc (p - wd) (rfl) (by omega) dX2_spreadFrom_186 ?_
                refine g_topi (v := (cup (sdR wd p) (cup (sdL wd p) (sp0 (ar 13) wd hg (ar 14) p) (p - 1) (prt (ar 13) wd hg p)) (p + 1) (prt (ar 13) wd hg p)) (p - wd)) rfl ?_
                refine g_iload (pc := 187) hc 7 dX2_spreadFrom_187 rfl ?_
                refine g_iadd (pc := 189) hc dX2_spreadFrom_189 ?_
                refine sa_c14 (pc := 190) hc hA (p - wd) (rfl) (by omega) dX2_spreadFrom_190 ?_
                refine g_eq (ws' := cw E ad sc (va_up ar 14 (upd (cup (sdR wd p) (cup (sdL wd p) (sp0 (ar 13) wd hg (ar 14) p) (p - 1) (prt (ar 13) wd hg p)) (p + 1) (prt (ar 13) wd hg p)) (p - wd) (((cup (sdR wd p) (cup (sdL wd p) (sp0 (ar 13) wd hg (ar 14) p) (p - 1) (prt (ar 13) wd hg p)) (p + 1) (prt (ar 13) wd hg p)) (p - wd)) + ((((ar 13) p) / (nI 2)) / (nI (sdN wd hg p)))))) bl) (lv' := [(0, .ref (ad 1)), (1, .int (nI p)), (2, .int (bI (sdL wd p))), (3, .int (bI (sdR wd p))), (4, .int (bI (sdU wd p))), (5, .int (bI (sdD wd hg p))), (6, .int (nI (sdN wd hg p))), (7, .int ((((ar 13) p) / (nI 2)) / (nI (sdN wd hg p))))]) rfl rfl rfl ?_
                exact g_eq (ws' := cw E ad sc (va_up ar 14 (cup (sdU wd p) (cup (sdR wd p) (cup (sdL wd p) (sp0 (ar 13) wd hg (ar 14) p) (p - 1) (prt (ar 13) wd hg p)) (p + 1) (prt (ar 13) wd hg p)) (p - wd) (prt (ar 13) wd hg p))) bl) (lv' := [(0, .ref (ad 1)), (1, .int (nI p)), (2, .int (bI (sdL wd p))), (3, .int (bI (sdR wd p))), (4, .int (bI (sdU wd p))), (5, .int (bI (sdD wd hg p))), (6, .int (nI (sdN wd hg p))), (7, .int ((((ar 13) p) / (nI 2)) / (nI (sdN wd hg p))))]) (by (first | rw [cup_t c10] | rw [cup_f c10]); try rfl) (rfl) (rfl) J191_7
            refine g_if_eq_b (pc := 154) hc 170 dX2_spreadFrom_154 (by decide) (fun c11 => ?_) (fun c11 => ?_)
            · exact g_eq (ws' := cw E ad sc (va_up ar 14 (cup (sdR wd p) (cup (sdL wd p) (sp0 (ar 13) wd hg (ar 14) p) (p - 1) (prt (ar 13) wd hg p)) (p + 1) (prt (ar 13) wd hg p))) bl) (lv' := [(0, .ref (ad 1)), (1, .int (nI p)), (2, .int (bI (sdL wd p))), (3, .int (bI (sdR wd p))), (4, .int (bI (sdU wd p))), (5, .int (bI (sdD wd hg p))), (6, .int (nI (sdN wd hg p))), (7, .int ((((ar 13) p) / (nI 2)) / (nI (sdN wd hg p))))]) (by (first | rw [cup_t c11] | rw [cup_f c11]); try rfl) (rfl) (rfl) J170_6
            · refine g_aload_n (pc := 157) hc 0 dX2_spreadFrom_157 rfl rfl ?_
              refine gf_c1_spread (pc := 158) hc tw_40 dX2_spreadFrom_158 ?_
              refine g_iload_n (pc := 161) hc 1 dX2_spreadFrom_161 rfl rfl ?_
              refine g_iconst (pc := 162) (v := nI 1) hc dX2_spreadFrom_162 (by decide) ?_
              refine g_iadd (pc := 163) hc dX2_spreadFrom_163 ?_
              refine g_topi (v := nI (p + 1)) (nI_add p 1) ?_
              refine g_dup2 (pc := 164) hc dX2_spreadFrom_164 rfl rfl ?_
              refine la_c14 (pc := 165) hc (p + 1) (rfl) (by have := nb_r c11 hrow; omega) dX2_spreadFrom_165 ?_
              refine g_topi (v := (cup (sdL wd p) (sp0 (ar 13) wd hg (ar 14) p) (p - 1) (prt (ar 13) wd hg p)) (p + 1)) rfl ?_
              refine g_iload (pc := 166) hc 7 dX2_spreadFrom_166 rfl ?_
              refine g_iadd (pc := 168) hc dX2_spreadFrom_168 ?_
              refine sa_c14 (pc := 169) hc hA (p + 1) (rfl) (by have := nb_r c11 hrow; omega) dX2_spreadFrom_169 ?_
              refine g_eq (ws' := cw E ad sc (va_up ar 14 (upd (cup (sdL wd p) (sp0 (ar 13) wd hg (ar 14) p) (p - 1) (prt (ar 13) wd hg p)) (p + 1) (((cup (sdL wd p) (sp0 (ar 13) wd hg (ar 14) p) (p - 1) (prt (ar 13) wd hg p)) (p + 1)) + ((((ar 13) p) / (nI 2)) / (nI (sdN wd hg p)))))) bl) (lv' := [(0, .ref (ad 1)), (1, .int (nI p)), (2, .int (bI (sdL wd p))), (3, .int (bI (sdR wd p))), (4, .int (bI (sdU wd p))), (5, .int (bI (sdD wd hg p))), (6, .int (nI (sdN wd hg p))), (7, .int ((((ar 13) p) / (nI 2)) / (nI (sdN wd hg p))))]) rfl rfl rfl ?_
              exact g_eq (ws' := cw E ad sc (va_up ar 14 (cup (sdR wd p) (cup (sdL wd p) (sp0 (ar 13) wd hg (ar 14) p) (p - 1) (prt (ar 13) wd hg p)) (p + 1) (prt (ar 13) wd hg p))) bl) (lv' := [(0, .ref (ad 1)), (1, .int (nI p)), (2, .int (bI (sdL wd p))), (3, .int (bI (sdR wd p))), (4, .int (bI (sdU wd p))), (5, .int (bI (sdD wd hg p))), (6, .int (nI (sdN wd hg p))), (7, .int ((((ar 13) p) / (nI 2)) / (nI (sdN wd hg p))))]) (by (first | rw [cup_t c11] | rw [cup_f c11]); try rfl) (rfl) (rfl) J170_6
          refine g_if_eq_b (pc := 137) hc 153 dX2_spreadFrom_137 (by decide) (fun c12 => ?_) (fun c12 => ?_)
          · exact g_eq (ws' := cw E ad sc (va_up ar 14 (cup (sdL wd p) (sp0 (ar 13) wd hg (ar 14) p) (p - 1) (prt (ar 13) wd hg p))) bl) (lv' := [(0, .ref (ad 1)), (1, .int (nI p)), (2, .int (bI (sdL wd p))), (3, .int (bI (sdR wd p))), (4, .int (bI (sdU wd p))), (5, .int (bI (sdD wd hg p))), (6, .int (nI (sdN wd hg p))), (7, .int ((((ar 13) p) / (nI 2)) / (nI (sdN wd hg p))))]) (by (first | rw [cup_t c12] | rw [cup_f c12]); try rfl) (rfl) (rfl) J153_5
          · refine g_aload_n (pc := 140) hc 0 dX2_spreadFrom_140 rfl rfl ?_
            refine gf_c1_spread (pc := 141) hc tw_40 dX2_spreadFrom_141 ?_
            refine g_iload_n (pc := 144) hc 1 dX2_spreadFrom_144 rfl rfl ?_
            refine g_iconst (pc := 145) (v := nI 1) hc dX2_spreadFrom_145 (by decide) ?_
            refine g_isub (pc := 146) hc dX2_spreadFrom_146 ?_
            refine g_topi (v := nI (p - 1)) (pk_sub (nb_l c12)) ?_
            refine g_dup2 (pc := 147) hc dX2_spreadFrom_147 rfl rfl ?_
            refine la_c14 (pc := 148) hc (p - 1) (rfl) (by omega) dX2_spreadFrom_148 ?_
            refine g_topi (v := (sp0 (ar 13) wd hg (ar 14) p) (p - 1)) rfl ?_
            refine g_iload (pc := 149) hc 7 dX2_spreadFrom_149 rfl ?_
            refine g_iadd (pc := 151) hc dX2_spreadFrom_151 ?_
            refine sa_c14 (pc := 152) hc hA (p - 1) (rfl) (by omega) dX2_spreadFrom_152 ?_
            refine g_eq (ws' := cw E ad sc (va_up ar 14 (upd (sp0 (ar 13) wd hg (ar 14) p) (p - 1) (((sp0 (ar 13) wd hg (ar 14) p) (p - 1)) + ((((ar 13) p) / (nI 2)) / (nI (sdN wd hg p)))))) bl) (lv' := [(0, .ref (ad 1)), (1, .int (nI p)), (2, .int (bI (sdL wd p))), (3, .int (bI (sdR wd p))), (4, .int (bI (sdU wd p))), (5, .int (bI (sdD wd hg p))), (6, .int (nI (sdN wd hg p))), (7, .int ((((ar 13) p) / (nI 2)) / (nI (sdN wd hg p))))]) rfl rfl rfl ?_
            exact g_eq (ws' := cw E ad sc (va_up ar 14 (cup (sdL wd p) (sp0 (ar 13) wd hg (ar 14) p) (p - 1) (prt (ar 13) wd hg p))) bl) (lv' := [(0, .ref (ad 1)), (1, .int (nI p)), (2, .int (bI (sdL wd p))), (3, .int (bI (sdR wd p))), (4, .int (bI (sdU wd p))), (5, .int (bI (sdD wd hg p))), (6, .int (nI (sdN wd hg p))), (7, .int ((((ar 13) p) / (nI 2)) / (nI (sdN wd hg p))))]) (by (first | rw [cup_t c12] | rw [cup_f c12]); try rfl) (rfl) (rfl) J153_5
        refine g_icmp_ge (pc := 60) hc 67 dX2_spreadFrom_60 (by decide) (fun c13 => ?_) (fun c13 => ?_)
        · refine g_iconst (pc := 67) (v := nI 0) hc dX2_spreadFrom_67 (by decide) ?_
          exact g_eq (ws' := cw E ad sc ar bl) (lv' := [(0, .ref (ad 1)), (1, .int (nI p)), (2, .int (bI (sdL wd p))), (3, .int (bI (sdR wd p))), (4, .int (bI (sdU wd p)))]) (rfl) (rfl) (congrArg (fun z => [Value.int z]) (dm_ge0 c13 (by omega) (by omega))) J68_4
        · refine g_iconst (pc := 63) (v := nI 1) hc dX2_spreadFrom_63 (by decide) ?_
          refine g_goto (pc := 64) hc 68 dX2_spreadFrom_64 (by decide) ?_
          exact g_eq (ws' := cw E ad sc ar bl) (lv' := [(0, .ref (ad 1)), (1, .int (nI p)), (2, .int (bI (sdL wd p))), (3, .int (bI (sdR wd p))), (4, .int (bI (sdU wd p)))]) (rfl) (rfl) (congrArg (fun z => [Value.int z]) (dm_ge1 c13 (by omega))) J68_4
      refine g_if_le (pc := 39) hc 46 dX2_spreadFrom_39 (by decide) (fun c14 => ?_) (fun c14 => ?_)
      · refine g_iconst (pc := 46) (v := nI 0) hc dX2_spreadFrom_46 (by decide) ?_
        exact g_eq (ws' := cw E ad sc ar bl) (lv' := [(0, .ref (ad 1)), (1, .int (nI p)), (2, .int (bI (sdL wd p))), (3, .int (bI (sdR wd p)))]) (rfl) (rfl) (congrArg (fun z => [Value.int z]) (dm_le0 c14 (by omega))) J47_3
      · refine g_iconst (pc := 42) (v := nI 1) hc dX2_spreadFrom_42 (by decide) ?_
        refine g_goto (pc := 43) hc 47 dX2_spreadFrom_43 (by decide) ?_
        exact g_eq (ws' := cw E ad sc ar bl) (lv' := [(0, .ref (ad 1)), (1, .int (nI p)), (2, .int (bI (sdL wd p))), (3, .int (bI (sdR wd p)))]) (rfl) (rfl) (congrArg (fun z => [Value.int z]) (dm_le1 c14)) J47_3
    refine g_icmp_ge (pc := 25) hc 32 dX2_spreadFrom_25 (by decide) (fun c15 => ?_) (fun c15 => ?_)
    · refine g_iconst (pc := 32) (v := nI 0) hc dX2_spreadFrom_32 (by decide) ?_
      exact g_eq (ws' := cw E ad sc ar bl) (lv' := [(0, .ref (ad 1)), (1, .int (nI p)), (2, .int (bI (sdL wd p)))]) (rfl) (rfl) (congrArg (fun z => [Value.int z]) (dm_ge0 c15 (by omega) (by omega))) J33_2
    · refine g_iconst (pc := 28) (v := nI 1) hc dX2_spreadFrom_28 (by decide) ?_
      refine g_goto (pc := 29) hc 33 dX2_spreadFrom_29 (by decide) ?_
      exact g_eq (ws' := cw E ad sc ar bl) (lv' := [(0, .ref (ad 1)), (1, .int (nI p)), (2, .int (bI (sdL wd p)))]) (rfl) (rfl) (congrArg (fun z => [Value.int z]) (dm_ge1 c15 (by omega))) J33_2
  refine g_if_le (pc := 5) hc 12 dX2_spreadFrom_5 (by decide) (fun c16 => ?_) (fun c16 => ?_)
  · refine g_iconst (pc := 12) (v := nI 0) hc dX2_spreadFrom_12 (by decide) ?_
    exact g_eq (ws' := cw E ad sc ar bl) (lv' := [(0, .ref (ad 1)), (1, .int (nI p))]) (rfl) (rfl) (congrArg (fun z => [Value.int z]) (dm_le0 c16 (by omega))) J13_1
  · refine g_iconst (pc := 8) (v := nI 1) hc dX2_spreadFrom_8 (by decide) ?_
    refine g_goto (pc := 9) hc 13 dX2_spreadFrom_9 (by decide) ?_
    exact g_eq (ws' := cw E ad sc ar bl) (lv' := [(0, .ref (ad 1)), (1, .int (nI p))]) (rfl) (rfl) (congrArg (fun z => [Value.int z]) (dm_le1 c16)) J13_1

theorem dX2_ploughOnce_0 : decode cX2_ploughOnce 0 = .ok (.aload_n 0, 1) := by decide +kernel
theorem dX2_ploughOnce_1 : decode cX2_ploughOnce 1 = .ok (.getfield 26, 3) := by decide +kernel
theorem dX2_ploughOnce_4 : decode cX2_ploughOnce 4 = .ok (.iconst 0, 1) := by decide +kernel
theorem dX2_ploughOnce_5 : decode cX2_ploughOnce 5 = .ok (.invokestatic 77, 3) := by decide +kernel
theorem dX2_ploughOnce_8 : decode cX2_ploughOnce 8 = .ok (.iconst 0, 1) := by decide +kernel
theorem dX2_ploughOnce_9 : decode cX2_ploughOnce 9 = .ok (.istore_n 1, 1) := by decide +kernel
theorem dX2_ploughOnce_10 : decode cX2_ploughOnce 10 = .ok (.iload_n 1, 1) := by decide +kernel
theorem dX2_ploughOnce_11 : decode cX2_ploughOnce 11 = .ok (.aload_n 0, 1) := by decide +kernel
theorem dX2_ploughOnce_12 : decode cX2_ploughOnce 12 = .ok (.invokevirtual 29, 3) := by decide +kernel
theorem dX2_ploughOnce_15 : decode cX2_ploughOnce 15 = .ok (.if_icmp .ge 14, 3) := by decide +kernel
theorem dX2_ploughOnce_18 : decode cX2_ploughOnce 18 = .ok (.aload_n 0, 1) := by decide +kernel
theorem dX2_ploughOnce_19 : decode cX2_ploughOnce 19 = .ok (.iload_n 1, 1) := by decide +kernel
theorem dX2_ploughOnce_20 : decode cX2_ploughOnce 20 = .ok (.invokevirtual 83, 3) := by decide +kernel
theorem dX2_ploughOnce_23 : decode cX2_ploughOnce 23 = .ok (.iinc 1 1, 3) := by decide +kernel
theorem dX2_ploughOnce_26 : decode cX2_ploughOnce 26 = .ok (.goto (-16), 3) := by decide +kernel
theorem dX2_ploughOnce_29 : decode cX2_ploughOnce 29 = .ok (.aload_n 0, 1) := by decide +kernel
theorem dX2_ploughOnce_30 : decode cX2_ploughOnce 30 = .ok (.getfield 22, 3) := by decide +kernel
theorem dX2_ploughOnce_33 : decode cX2_ploughOnce 33 = .ok (.astore_n 1, 1) := by decide +kernel
theorem dX2_ploughOnce_34 : decode cX2_ploughOnce 34 = .ok (.aload_n 0, 1) := by decide +kernel
theorem dX2_ploughOnce_35 : decode cX2_ploughOnce 35 = .ok (.aload_n 0, 1) := by decide +kernel
theorem dX2_ploughOnce_36 : decode cX2_ploughOnce 36 = .ok (.getfield 26, 3) := by decide +kernel
theorem dX2_ploughOnce_39 : decode cX2_ploughOnce 39 = .ok (.putfield 22, 3) := by decide +kernel
theorem dX2_ploughOnce_42 : decode cX2_ploughOnce 42 = .ok (.aload_n 0, 1) := by decide +kernel
theorem dX2_ploughOnce_43 : decode cX2_ploughOnce 43 = .ok (.aload_n 1, 1) := by decide +kernel
theorem dX2_ploughOnce_44 : decode cX2_ploughOnce 44 = .ok (.putfield 26, 3) := by decide +kernel
theorem dX2_ploughOnce_47 : decode cX2_ploughOnce 47 = .ok (.return_, 1) := by decide +kernel

section PSW
variable {p : Program} {l : Launch} {e : Env} {R : Room} {s : State} {m : MethodId} {args : Array Value} {below : List Frame} {meth : Method} {c : Code} {E : Ev} {A : Nat → Prop}
theorem plough_swap {ad : Nat → Nat} (hA : Oka 39 ad A) {sc : Nat → Int32} {ar : Nat → Nat → Int32} {bl : Int64} {x : Value} (hc : Cx p s m args meth c E A yX2_ploughOnce.cls cX2_ploughOnce 2 none) : G p l e R s m args below meth c 0 0 (MQ below (Qz E A none (cw E (swA ad) sc (va_up (va_up ar 13 (ar 14)) 14 (ar 13)) bl)) args s 0 0 A) E A 2 (cw E ad sc ar bl) 29 [(0, .ref (ad 1)), (1, x)] [] := by
  refine g_aload_n (pc := 29) hc 0 dX2_ploughOnce_29 rfl rfl ?_
  refine gf_c1_lying (pc := 30) hc tw_39 dX2_ploughOnce_30 ?_
  refine g_lv [0] (lv' := [(0, .ref (ad 1))]) rfl ?_
  refine g_astore_n (pc := 33) (lv' := [(0, .ref (ad 1)), (1, .ref (ad 13))]) hc dX2_ploughOnce_33 rfl (by decide) rfl ?_
  refine g_aload_n (pc := 34) hc 0 dX2_ploughOnce_34 rfl rfl ?_
  refine g_aload_n (pc := 35) hc 0 dX2_ploughOnce_35 rfl rfl ?_
  refine gf_c1_spread (pc := 36) hc tw_40 dX2_ploughOnce_36 ?_
  refine g_put (pc := 39) (C := RX2) (T := TX2) (N := 5) (ci := 2) (ty := .array .int) hc (cw_D hA _ _ _) inX2 tyX2 tyX2_ok nmX2 1 rfl rfl 3 (by decide) tw_39 rfl rfl (by decide +kernel) rfl rfl (Nat.le_of_ble_eq_true rfl) rfl dX2_ploughOnce_39 ?_
  refine g_aload_n (pc := 42) hc 0 dX2_ploughOnce_42 rfl rfl ?_
  refine g_aload_n (pc := 43) hc 1 dX2_ploughOnce_43 rfl rfl ?_
  refine g_put (pc := 44) (C := RX2) (T := TX2) (N := 5) (ci := 2) (ty := .array .int) hc (va_D.set (cw_D hA _ _ _) (p := 1) rfl) inX2 tyX2 tyX2_ok nmX2 1 rfl rfl 4 (by decide) tw_40 rfl rfl (by decide +kernel) rfl rfl (Nat.le_of_ble_eq_true rfl) rfl dX2_ploughOnce_44 ?_
  refine g_ws (ws' := cw E (swA ad) sc (va_up (va_up ar 13 (ar 14)) 14 (ar 13)) bl) ?_ ?_
  · intro q hq
    obtain ⟨k, hk⟩ := List.getElem?_of_mem hq
    have hk39 : k < 39 := (List.getElem?_eq_some_iff.mp hk).1
    by_cases h13 : k = 13
    · subst h13; exact List.mem_of_getElem? (i := 14) hk
    · by_cases h14 : k = 14
      · subst h14; exact List.mem_of_getElem? (i := 13) hk
      · refine List.mem_of_getElem? (i := k) ?_
        rw [← hk]
        match k, hk39, h13, h14 with
        | 0, _, _, _ => rfl
        | 1, _, _, _ => rfl
        | 2, _, _, _ => rfl
        | 3, _, _, _ => rfl
        | 4, _, _, _ => rfl
        | 5, _, _, _ => rfl
        | 6, _, _, _ => rfl
        | 7, _, _, _ => rfl
        | 8, _, _, _ => rfl
        | 9, _, _, _ => rfl
        | 10, _, _, _ => rfl
        | 11, _, _, _ => rfl
        | 12, _, _, _ => rfl
        | 15, _, _, _ => rfl
        | 16, _, _, _ => rfl
        | 17, _, _, _ => rfl
        | 18, _, _, _ => rfl
        | 19, _, _, _ => rfl
        | 20, _, _, _ => rfl
        | 21, _, _, _ => rfl
        | 22, _, _, _ => rfl
        | 23, _, _, _ => rfl
        | 24, _, _, _ => rfl
        | 25, _, _, _ => rfl
        | 26, _, _, _ => rfl
        | 27, _, _, _ => rfl
        | 28, _, _, _ => rfl
        | 29, _, _, _ => rfl
        | 30, _, _, _ => rfl
        | 31, _, _, _ => rfl
        | 32, _, _, _ => rfl
        | 33, _, _, _ => rfl
        | 34, _, _, _ => rfl
        | 35, _, _, _ => rfl
        | 36, _, _, _ => rfl
        | 37, _, _, _ => rfl
        | 38, _, _, _ => rfl
        | 13, _, h, _ => exact absurd rfl h
        | 14, _, _, h => exact absurd rfl h
        | k + 39, h, _, _ => exact absurd h (by omega)
  · exact g_vret (pc := 47) hc dX2_ploughOnce_47 rfl rfl
end PSW

set_option maxHeartbeats 4000000 in
set_option maxRecDepth 100000 in
theorem c_X2_ploughOnce (l : Launch) (E : Ev) {A : Nat → Prop} (ad : Nat → Nat) (hA : Oka 39 ad A) (sc : Nat → Int32) (ar : Nat → Nat → Int32) (bl : Int64) {wd hg : Nat}  (hwd : sc 3 = nI wd) (hwd1 : 2 ≤ wd) (hwd2 : wd ≤ 8) (hhg : sc 4 = nI hg) (hhg1 : 2 ≤ hg) (hhg2 : hg ≤ 8) : Ct l E yX2_ploughOnce (.code yX2_ploughOnce cX2_ploughOnce 2 none) ({ frames := 3, cells := 0, slots := 0, locals := 69 }) A (cw E ad sc ar bl) [.ref (ad 1)] (none) (cw E (swA ad) sc (va_up (va_up ar 13 (plo (ar 13) wd hg (fil (nI 0) (ar 14) 64) (wd * hg))) 14 (ar 13)) bl) := by
  have hm := prod64 hwd2 hhg2
  have hm4 := prod4 hwd1 hhg1
  refine Ct.of (lv := [(0, .ref (ad 1))]) (by decide +kernel) (Nat.le_of_ble_eq_true rfl) rfl ?_
  intro zp ze zs zm za zb zh zc hc
  refine g_aload_n (pc := 0) hc 0 dX2_ploughOnce_0 rfl rfl ?_
  refine gf_c1_spread (pc := 1) hc tw_40 dX2_ploughOnce_1 ?_
  refine g_iconst (pc := 4) (v := nI 0) hc dX2_ploughOnce_4 (by decide) ?_
  refine g_callSv (pc := 5) (rest := []) (As := [.ref (ad 14), .int (nI 0)]) hc (c_fill14 l E ad hA sc ar bl (nI 0)) mi_J7_fill_53178 tw_687 rfl ⟨rfl, rfl, by decide, by decide⟩ (Nat.le_of_ble_eq_true rfl) ⟨Nat.le_refl _, Nat.le_refl _⟩ rfl dX2_ploughOnce_5 ?_
  refine g_iconst (pc := 8) (v := nI 0) hc dX2_ploughOnce_8 (by decide) ?_
  refine g_istore_n (pc := 9) (lv' := [(0, .ref (ad 1)), (1, .int (nI 0))]) hc dX2_ploughOnce_9 rfl (by decide) rfl ?_
  have L10_1 : ∀ (kt t : Nat), t + kt = wd * hg → G zp l ze ({ frames := 3, cells := 0, slots := 0, locals := 69 }) zs zm za zb zh zc 0 0 (MQ zb (Qz E A (none) (cw E (swA ad) sc (va_up (va_up ar 13 (plo (ar 13) wd hg (fil (nI 0) (ar 14) 64) (wd * hg))) 14 (ar 13)) bl)) za zs 0 0 A) E A 2 (cw E ad sc (va_up ar 14 (plo (ar 13) wd hg (fil (nI 0) (ar 14) 64) (t))) bl) (10) [(0, .ref (ad 1)), (1, .int (nI (t)))] [] := by
    intro kt
    induction kt with
    | zero =>
      intro t lht
      have lhtn : wd * hg = t := by omega
      subst lhtn
      refine g_iload_n (pc := 10) hc 1 dX2_ploughOnce_10 rfl rfl ?_
      refine g_aload_n (pc := 11) hc 0 dX2_ploughOnce_11 rfl rfl ?_
      refine g_callVi (pc := 12) (rest := [.int (nI (wd * hg))]) (As := []) hc (c_X2_paces l E ad hA sc (va_up ar 14 (plo (ar 13) wd hg (fil (nI 0) (ar 14) 64) (wd * hg))) bl  (hwd) (hwd1) (hwd2) (hhg) (hhg1) (hhg2)) mi_X2_paces tw_400 1 rfl rfl rfl rfl ⟨rfl, rfl, by decide, by decide⟩ (Nat.le_of_ble_eq_true rfl) ⟨Nat.le_refl _, Nat.le_refl _⟩ rfl dX2_ploughOnce_12 ?_
      refine g_topi (v := nI (wd * hg)) rfl ?_
      refine g_icmp_ge_t (pc := 15) hc 29 dX2_ploughOnce_15 (by decide) (nI_le (by omega) (by omega)) ?_
      exact plough_swap hA hc
    | succ kt iht =>
      intro t lht
      have lhtn : t < wd * hg := by omega
      refine g_iload_n (pc := 10) hc 1 dX2_ploughOnce_10 rfl rfl ?_
      refine g_aload_n (pc := 11) hc 0 dX2_ploughOnce_11 rfl rfl ?_
      refine g_callVi (pc := 12) (rest := [.int (nI (t))]) (As := []) hc (c_X2_paces l E ad hA sc (va_up ar 14 (plo (ar 13) wd hg (fil (nI 0) (ar 14) 64) (t))) bl  (hwd) (hwd1) (hwd2) (hhg) (hhg1) (hhg2)) mi_X2_paces tw_400 1 rfl rfl rfl rfl ⟨rfl, rfl, by decide, by decide⟩ (Nat.le_of_ble_eq_true rfl) ⟨Nat.le_refl _, Nat.le_refl _⟩ rfl dX2_ploughOnce_12 ?_
      refine g_topi (v := nI (wd * hg)) rfl ?_
      refine g_icmp_ge_f (pc := 15) hc 29 dX2_ploughOnce_15 (by decide) (nI_ge (by omega) (by omega)) ?_
      refine g_aload_n (pc := 18) hc 0 dX2_ploughOnce_18 rfl rfl ?_
      refine g_iload_n (pc := 19) hc 1 dX2_ploughOnce_19 rfl rfl ?_
      refine g_callVv (pc := 20) (rest := []) (As := [.int (nI (t))]) hc (c_X2_spreadFrom l E ad hA sc (va_up ar 14 (plo (ar 13) wd hg (fil (nI 0) (ar 14) 64) (t))) bl t (hwd) (hwd1) (hwd2) (hhg) (hhg1) (hhg2) (by omega)) mi_X2_spreadFrom tw_688 1 rfl rfl rfl rfl ⟨rfl, rfl, by decide, by decide⟩ (Nat.le_of_ble_eq_true rfl) ⟨Nat.le_refl _, Nat.le_refl _⟩ rfl dX2_ploughOnce_20 ?_
      refine g_eq (ws' := cw E ad sc (va_up ar 14 (sp1 (ar 13) wd hg (plo (ar 13) wd hg (fil (nI 0) (ar 14) 64) (t)) t)) bl) (lv' := [(0, .ref (ad 1)), (1, .int (nI (t)))]) (rfl) rfl rfl ?_
      refine g_iinc (pc := 23) (v := nI (t + 1)) (lv' := [(0, .ref (ad 1)), (1, .int (nI (t + 1)))]) hc 1 dX2_ploughOnce_23 rfl (nI_ofi t 1) (by decide) rfl ?_
      refine g_goto (pc := 26) hc 10 dX2_ploughOnce_26 (by decide) ?_
      exact g_eq (ws' := cw E ad sc (va_up ar 14 (plo (ar 13) wd hg (fil (nI 0) (ar 14) 64) (t + 1))) bl) (lv' := [(0, .ref (ad 1)), (1, .int (nI (t + 1)))]) (rfl) (rfl) rfl (iht (t + 1) (by omega))
  exact g_eq (ws' := cw E ad sc (va_up ar 14 (plo (ar 13) wd hg (fil (nI 0) (ar 14) 64) (0))) bl) (lv' := [(0, .ref (ad 1)), (1, .int (nI (0)))]) (rfl) (rfl) rfl (L10_1 (wd * hg - 0) (0) (by omega))
