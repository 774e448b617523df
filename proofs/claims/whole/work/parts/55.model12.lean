theorem dX12_readLeave_0 : decode cX12_readLeave 0 = .ok (.aload_n 0, 1) := by decide +kernel
theorem dX12_readLeave_1 : decode cX12_readLeave 1 = .ok (.iconst 0, 1) := by decide +kernel
theorem dX12_readLeave_2 : decode cX12_readLeave 2 = .ok (.putfield 211, 3) := by decide +kernel
theorem dX12_readLeave_5 : decode cX12_readLeave 5 = .ok (.aload_n 0, 1) := by decide +kernel
theorem dX12_readLeave_6 : decode cX12_readLeave 6 = .ok (.invokevirtual 220, 3) := by decide +kernel
theorem dX12_readLeave_9 : decode cX12_readLeave 9 = .ok (.aload_n 0, 1) := by decide +kernel
theorem dX12_readLeave_10 : decode cX12_readLeave 10 = .ok (.bipush 114, 2) := by decide +kernel
theorem dX12_readLeave_12 : decode cX12_readLeave 12 = .ok (.bipush 111, 2) := by decide +kernel
theorem dX12_readLeave_14 : decode cX12_readLeave 14 = .ok (.bipush 119, 2) := by decide +kernel
theorem dX12_readLeave_16 : decode cX12_readLeave 16 = .ok (.bipush 115, 2) := by decide +kernel
theorem dX12_readLeave_18 : decode cX12_readLeave 18 = .ok (.invokevirtual 228, 3) := by decide +kernel
theorem dX12_readLeave_21 : decode cX12_readLeave 21 = .ok (.ifCond .eq 12, 3) := by decide +kernel
theorem dX12_readLeave_24 : decode cX12_readLeave 24 = .ok (.aload_n 0, 1) := by decide +kernel
theorem dX12_readLeave_25 : decode cX12_readLeave 25 = .ok (.bipush 7, 2) := by decide +kernel
theorem dX12_readLeave_27 : decode cX12_readLeave 27 = .ok (.invokevirtual 234, 3) := by decide +kernel
theorem dX12_readLeave_30 : decode cX12_readLeave 30 = .ok (.ifCond .ne 8, 3) := by decide +kernel
theorem dX12_readLeave_33 : decode cX12_readLeave 33 = .ok (.aload_n 0, 1) := by decide +kernel
theorem dX12_readLeave_34 : decode cX12_readLeave 34 = .ok (.invokevirtual 237, 3) := by decide +kernel
theorem dX12_readLeave_37 : decode cX12_readLeave 37 = .ok (.ireturn, 1) := by decide +kernel
theorem dX12_readLeave_38 : decode cX12_readLeave 38 = .ok (.aload_n 0, 1) := by decide +kernel
theorem dX12_readLeave_39 : decode cX12_readLeave 39 = .ok (.getfield 54, 3) := by decide +kernel
theorem dX12_readLeave_42 : decode cX12_readLeave 42 = .ok (.iload_n 1, 1) := by decide +kernel
theorem dX12_readLeave_43 : decode cX12_readLeave 43 = .ok (.aload_n 0, 1) := by decide +kernel
theorem dX12_readLeave_44 : decode cX12_readLeave 44 = .ok (.getfield 225, 3) := by decide +kernel
theorem dX12_readLeave_47 : decode cX12_readLeave 47 = .ok (.iastore, 1) := by decide +kernel
theorem dX12_readLeave_48 : decode cX12_readLeave 48 = .ok (.aload_n 0, 1) := by decide +kernel
theorem dX12_readLeave_49 : decode cX12_readLeave 49 = .ok (.getfield 57, 3) := by decide +kernel
theorem dX12_readLeave_52 : decode cX12_readLeave 52 = .ok (.iload_n 1, 1) := by decide +kernel
theorem dX12_readLeave_53 : decode cX12_readLeave 53 = .ok (.aload_n 0, 1) := by decide +kernel
theorem dX12_readLeave_54 : decode cX12_readLeave 54 = .ok (.getfield 231, 3) := by decide +kernel
theorem dX12_readLeave_57 : decode cX12_readLeave 57 = .ok (.iastore, 1) := by decide +kernel
theorem dX12_readLeave_58 : decode cX12_readLeave 58 = .ok (.aload_n 0, 1) := by decide +kernel
theorem dX12_readLeave_59 : decode cX12_readLeave 59 = .ok (.getfield 60, 3) := by decide +kernel
theorem dX12_readLeave_62 : decode cX12_readLeave 62 = .ok (.iload_n 1, 1) := by decide +kernel
theorem dX12_readLeave_63 : decode cX12_readLeave 63 = .ok (.iconst 0, 1) := by decide +kernel
theorem dX12_readLeave_64 : decode cX12_readLeave 64 = .ok (.iastore, 1) := by decide +kernel
theorem dX12_readLeave_65 : decode cX12_readLeave 65 = .ok (.aload_n 0, 1) := by decide +kernel
theorem dX12_readLeave_66 : decode cX12_readLeave 66 = .ok (.getfield 63, 3) := by decide +kernel
theorem dX12_readLeave_69 : decode cX12_readLeave 69 = .ok (.iload_n 1, 1) := by decide +kernel
theorem dX12_readLeave_70 : decode cX12_readLeave 70 = .ok (.sipush 400, 3) := by decide +kernel
theorem dX12_readLeave_73 : decode cX12_readLeave 73 = .ok (.iastore, 1) := by decide +kernel
theorem dX12_readLeave_74 : decode cX12_readLeave 74 = .ok (.aload_n 0, 1) := by decide +kernel
theorem dX12_readLeave_75 : decode cX12_readLeave 75 = .ok (.getfield 66, 3) := by decide +kernel
theorem dX12_readLeave_78 : decode cX12_readLeave 78 = .ok (.iload_n 1, 1) := by decide +kernel
theorem dX12_readLeave_79 : decode cX12_readLeave 79 = .ok (.iconst 0, 1) := by decide +kernel
theorem dX12_readLeave_80 : decode cX12_readLeave 80 = .ok (.iastore, 1) := by decide +kernel
theorem dX12_readLeave_81 : decode cX12_readLeave 81 = .ok (.aload_n 0, 1) := by decide +kernel
theorem dX12_readLeave_82 : decode cX12_readLeave 82 = .ok (.invokevirtual 220, 3) := by decide +kernel
theorem dX12_readLeave_85 : decode cX12_readLeave 85 = .ok (.aload_n 0, 1) := by decide +kernel
theorem dX12_readLeave_86 : decode cX12_readLeave 86 = .ok (.bipush 100, 2) := by decide +kernel
theorem dX12_readLeave_88 : decode cX12_readLeave 88 = .ok (.bipush 97, 2) := by decide +kernel
theorem dX12_readLeave_90 : decode cX12_readLeave 90 = .ok (.bipush 121, 2) := by decide +kernel
theorem dX12_readLeave_92 : decode cX12_readLeave 92 = .ok (.bipush 115, 2) := by decide +kernel
theorem dX12_readLeave_94 : decode cX12_readLeave 94 = .ok (.invokevirtual 228, 3) := by decide +kernel
theorem dX12_readLeave_97 : decode cX12_readLeave 97 = .ok (.ifCond .eq 42, 3) := by decide +kernel
theorem dX12_readLeave_100 : decode cX12_readLeave 100 = .ok (.aload_n 0, 1) := by decide +kernel
theorem dX12_readLeave_101 : decode cX12_readLeave 101 = .ok (.sipush 400, 3) := by decide +kernel
theorem dX12_readLeave_104 : decode cX12_readLeave 104 = .ok (.invokevirtual 234, 3) := by decide +kernel
theorem dX12_readLeave_107 : decode cX12_readLeave 107 = .ok (.ifCond .ne 8, 3) := by decide +kernel
theorem dX12_readLeave_110 : decode cX12_readLeave 110 = .ok (.aload_n 0, 1) := by decide +kernel
theorem dX12_readLeave_111 : decode cX12_readLeave 111 = .ok (.invokevirtual 237, 3) := by decide +kernel
theorem dX12_readLeave_114 : decode cX12_readLeave 114 = .ok (.ireturn, 1) := by decide +kernel
theorem dX12_readLeave_115 : decode cX12_readLeave 115 = .ok (.aload_n 0, 1) := by decide +kernel
theorem dX12_readLeave_116 : decode cX12_readLeave 116 = .ok (.getfield 60, 3) := by decide +kernel
theorem dX12_readLeave_119 : decode cX12_readLeave 119 = .ok (.iload_n 1, 1) := by decide +kernel
theorem dX12_readLeave_120 : decode cX12_readLeave 120 = .ok (.aload_n 0, 1) := by decide +kernel
theorem dX12_readLeave_121 : decode cX12_readLeave 121 = .ok (.getfield 225, 3) := by decide +kernel
theorem dX12_readLeave_124 : decode cX12_readLeave 124 = .ok (.iastore, 1) := by decide +kernel
theorem dX12_readLeave_125 : decode cX12_readLeave 125 = .ok (.aload_n 0, 1) := by decide +kernel
theorem dX12_readLeave_126 : decode cX12_readLeave 126 = .ok (.getfield 63, 3) := by decide +kernel
theorem dX12_readLeave_129 : decode cX12_readLeave 129 = .ok (.iload_n 1, 1) := by decide +kernel
theorem dX12_readLeave_130 : decode cX12_readLeave 130 = .ok (.aload_n 0, 1) := by decide +kernel
theorem dX12_readLeave_131 : decode cX12_readLeave 131 = .ok (.getfield 231, 3) := by decide +kernel
theorem dX12_readLeave_134 : decode cX12_readLeave 134 = .ok (.iastore, 1) := by decide +kernel
theorem dX12_readLeave_135 : decode cX12_readLeave 135 = .ok (.aload_n 0, 1) := by decide +kernel
theorem dX12_readLeave_136 : decode cX12_readLeave 136 = .ok (.invokevirtual 220, 3) := by decide +kernel
theorem dX12_readLeave_139 : decode cX12_readLeave 139 = .ok (.aload_n 0, 1) := by decide +kernel
theorem dX12_readLeave_140 : decode cX12_readLeave 140 = .ok (.bipush 98, 2) := by decide +kernel
theorem dX12_readLeave_142 : decode cX12_readLeave 142 = .ok (.bipush 117, 2) := by decide +kernel
theorem dX12_readLeave_144 : decode cX12_readLeave 144 = .ok (.bipush 116, 2) := by decide +kernel
theorem dX12_readLeave_146 : decode cX12_readLeave 146 = .ok (.iconst 0, 1) := by decide +kernel
theorem dX12_readLeave_147 : decode cX12_readLeave 147 = .ok (.invokevirtual 228, 3) := by decide +kernel
theorem dX12_readLeave_150 : decode cX12_readLeave 150 = .ok (.istore_n 2, 1) := by decide +kernel
theorem dX12_readLeave_151 : decode cX12_readLeave 151 = .ok (.iload_n 2, 1) := by decide +kernel
theorem dX12_readLeave_152 : decode cX12_readLeave 152 = .ok (.ifCond .eq 26, 3) := by decide +kernel
theorem dX12_readLeave_155 : decode cX12_readLeave 155 = .ok (.aload_n 0, 1) := by decide +kernel
theorem dX12_readLeave_156 : decode cX12_readLeave 156 = .ok (.invokevirtual 220, 3) := by decide +kernel
theorem dX12_readLeave_159 : decode cX12_readLeave 159 = .ok (.aload_n 0, 1) := by decide +kernel
theorem dX12_readLeave_160 : decode cX12_readLeave 160 = .ok (.bipush 119, 2) := by decide +kernel
theorem dX12_readLeave_162 : decode cX12_readLeave 162 = .ok (.bipush 104, 2) := by decide +kernel
theorem dX12_readLeave_164 : decode cX12_readLeave 164 = .ok (.bipush 111, 2) := by decide +kernel
theorem dX12_readLeave_166 : decode cX12_readLeave 166 = .ok (.iconst 0, 1) := by decide +kernel
theorem dX12_readLeave_167 : decode cX12_readLeave 167 = .ok (.invokevirtual 228, 3) := by decide +kernel
theorem dX12_readLeave_170 : decode cX12_readLeave 170 = .ok (.ifCond .ne 8, 3) := by decide +kernel
theorem dX12_readLeave_173 : decode cX12_readLeave 173 = .ok (.aload_n 0, 1) := by decide +kernel
theorem dX12_readLeave_174 : decode cX12_readLeave 174 = .ok (.invokevirtual 237, 3) := by decide +kernel
theorem dX12_readLeave_177 : decode cX12_readLeave 177 = .ok (.ireturn, 1) := by decide +kernel
theorem dX12_readLeave_178 : decode cX12_readLeave 178 = .ok (.iconst 0, 1) := by decide +kernel
theorem dX12_readLeave_179 : decode cX12_readLeave 179 = .ok (.istore_n 3, 1) := by decide +kernel
theorem dX12_readLeave_180 : decode cX12_readLeave 180 = .ok (.iload_n 2, 1) := by decide +kernel
theorem dX12_readLeave_181 : decode cX12_readLeave 181 = .ok (.ifCond .eq 64, 3) := by decide +kernel
theorem dX12_readLeave_184 : decode cX12_readLeave 184 = .ok (.aload_n 0, 1) := by decide +kernel
theorem dX12_readLeave_185 : decode cX12_readLeave 185 = .ok (.invokevirtual 220, 3) := by decide +kernel
theorem dX12_readLeave_188 : decode cX12_readLeave 188 = .ok (.aload_n 0, 1) := by decide +kernel
theorem dX12_readLeave_189 : decode cX12_readLeave 189 = .ok (.invokevirtual 222, 3) := by decide +kernel
theorem dX12_readLeave_192 : decode cX12_readLeave 192 = .ok (.istore 4, 2) := by decide +kernel
theorem dX12_readLeave_194 : decode cX12_readLeave 194 = .ok (.iload 4, 2) := by decide +kernel
theorem dX12_readLeave_196 : decode cX12_readLeave 196 = .ok (.iload_n 3, 1) := by decide +kernel
theorem dX12_readLeave_197 : decode cX12_readLeave 197 = .ok (.iconst 4, 1) := by decide +kernel
theorem dX12_readLeave_198 : decode cX12_readLeave 198 = .ok (.invokestatic 113, 3) := by decide +kernel
theorem dX12_readLeave_201 : decode cX12_readLeave 201 = .ok (.ifCond .ne 8, 3) := by decide +kernel
theorem dX12_readLeave_204 : decode cX12_readLeave 204 = .ok (.aload_n 0, 1) := by decide +kernel
theorem dX12_readLeave_205 : decode cX12_readLeave 205 = .ok (.invokevirtual 237, 3) := by decide +kernel
theorem dX12_readLeave_208 : decode cX12_readLeave 208 = .ok (.ireturn, 1) := by decide +kernel
theorem dX12_readLeave_209 : decode cX12_readLeave 209 = .ok (.aload_n 0, 1) := by decide +kernel
theorem dX12_readLeave_210 : decode cX12_readLeave 210 = .ok (.getfield 66, 3) := by decide +kernel
theorem dX12_readLeave_213 : decode cX12_readLeave 213 = .ok (.iload_n 1, 1) := by decide +kernel
theorem dX12_readLeave_214 : decode cX12_readLeave 214 = .ok (.dup2, 1) := by decide +kernel
theorem dX12_readLeave_215 : decode cX12_readLeave 215 = .ok (.iaload, 1) := by decide +kernel
theorem dX12_readLeave_216 : decode cX12_readLeave 216 = .ok (.iconst 1, 1) := by decide +kernel
theorem dX12_readLeave_217 : decode cX12_readLeave 217 = .ok (.iload 4, 2) := by decide +kernel
theorem dX12_readLeave_219 : decode cX12_readLeave 219 = .ok (.ishl, 1) := by decide +kernel
theorem dX12_readLeave_220 : decode cX12_readLeave 220 = .ok (.ior, 1) := by decide +kernel
theorem dX12_readLeave_221 : decode cX12_readLeave 221 = .ok (.iastore, 1) := by decide +kernel
theorem dX12_readLeave_222 : decode cX12_readLeave 222 = .ok (.iload 4, 2) := by decide +kernel
theorem dX12_readLeave_224 : decode cX12_readLeave 224 = .ok (.iconst 1, 1) := by decide +kernel
theorem dX12_readLeave_225 : decode cX12_readLeave 225 = .ok (.iadd, 1) := by decide +kernel
theorem dX12_readLeave_226 : decode cX12_readLeave 226 = .ok (.istore_n 3, 1) := by decide +kernel
theorem dX12_readLeave_227 : decode cX12_readLeave 227 = .ok (.aload_n 0, 1) := by decide +kernel
theorem dX12_readLeave_228 : decode cX12_readLeave 228 = .ok (.invokevirtual 220, 3) := by decide +kernel
theorem dX12_readLeave_231 : decode cX12_readLeave 231 = .ok (.aload_n 0, 1) := by decide +kernel
theorem dX12_readLeave_232 : decode cX12_readLeave 232 = .ok (.bipush 111, 2) := by decide +kernel
theorem dX12_readLeave_234 : decode cX12_readLeave 234 = .ok (.bipush 114, 2) := by decide +kernel
theorem dX12_readLeave_236 : decode cX12_readLeave 236 = .ok (.iconst 0, 1) := by decide +kernel
theorem dX12_readLeave_237 : decode cX12_readLeave 237 = .ok (.iconst 0, 1) := by decide +kernel
theorem dX12_readLeave_238 : decode cX12_readLeave 238 = .ok (.invokevirtual 228, 3) := by decide +kernel
theorem dX12_readLeave_241 : decode cX12_readLeave 241 = .ok (.istore_n 2, 1) := by decide +kernel
theorem dX12_readLeave_242 : decode cX12_readLeave 242 = .ok (.goto (-62), 3) := by decide +kernel
theorem dX12_readLeave_245 : decode cX12_readLeave 245 = .ok (.aload_n 0, 1) := by decide +kernel
theorem dX12_readLeave_246 : decode cX12_readLeave 246 = .ok (.getfield 217, 3) := by decide +kernel
theorem dX12_readLeave_249 : decode cX12_readLeave 249 = .ok (.ifCond .ne 7, 3) := by decide +kernel
theorem dX12_readLeave_252 : decode cX12_readLeave 252 = .ok (.iconst (-1), 1) := by decide +kernel
theorem dX12_readLeave_253 : decode cX12_readLeave 253 = .ok (.goto 7, 3) := by decide +kernel
theorem dX12_readLeave_256 : decode cX12_readLeave 256 = .ok (.aload_n 0, 1) := by decide +kernel
theorem dX12_readLeave_257 : decode cX12_readLeave 257 = .ok (.getfield 214, 3) := by decide +kernel
theorem dX12_readLeave_260 : decode cX12_readLeave 260 = .ok (.ireturn, 1) := by decide +kernel

set_option maxHeartbeats 4000000 in
set_option maxRecDepth 100000 in
theorem rl_c (l : Launch) (E : Ev) {A : Nat → Prop} (ad : Nat → Nat) (hA : Oka 30 ad A) (sc : Nat → Int32) (ar : Nat → Nat → Int32) (la : Nat → Int64) {tL : Nat} (q : Rq) (i : Nat) (hi : i < 12) (hT : sc 7 = nI tL) (hT60 : tL ≤ 60) (h9 : sc 9 = nI q.2.1) (h10 : sc 10 = nI q.1) (h11 : sc 11 = nI (q.2.1 - q.1)) (hq : rdok tL q) (hB : ∀ i, ar 11 i &&& nI 255 = ar 11 i) (b : Bool) (n5 : Nat) (h5 : n5 = 5) {zp : Program} {ze : Env} {zs : State} {zm : MethodId} {za : Array Value} {zb : List Frame} {zh : Method} {zc : Code} (hc : Cx zp zs zm za zh zc E A yX12_readLeave.cls cX12_readLeave 5 (some .int)) : G zp l ze ({ frames := 3, cells := 0, slots := 0, locals := 65 }) zs zm za zb zh zc 0 0 (MQ zb (Qz E A (some (.int (wE (ar 11) tL (n5 + 1) (q, nI 0, ar 16 i, b)).1)) (mw E ad (va_up (va_up (va_up sc 9 (nI (wE (ar 11) tL (n5 + 1) (q, nI 0, ar 16 i, b)).2.1.2.1)) 10 (nI (wE (ar 11) tL (n5 + 1) (q, nI 0, ar 16 i, b)).2.1.1)) 11 (nI ((wE (ar 11) tL (n5 + 1) (q, nI 0, ar 16 i, b)).2.1.2.1 - (wE (ar 11) tL (n5 + 1) (q, nI 0, ar 16 i, b)).2.1.1))) (va_up ar 16 (upd (ar 16) i (wE (ar 11) tL (n5 + 1) (q, nI 0, ar 16 i, b)).2.2)) la)) za zs 0 0 A) E A 5 (mw E ad sc ar la) (180) [(0, .ref (ad 0)), (1, .int (nI i)), (2, .int (bI b)), (3, .int (nI 0))] [] := by
  have L180_1 : ∀ (kt t : Nat), t + kt = n5 → (hE : (wE (ar 11) tL (n5 + 1) (q, nI 0, ar 16 i, b)) = wE (ar 11) tL (n5 + 1 - (t)) (wS (ar 11) tL (q, nI 0, ar 16 i, b) (t))) → (hle : ∃ a, t ≤ a ∧ a ≤ 5 ∧ (wS (ar 11) tL (q, nI 0, ar 16 i, b) (t)).2.1 = nI a) → (hok : rdok tL (wS (ar 11) tL (q, nI 0, ar 16 i, b) (t)).1) → G zp l ze ({ frames := 3, cells := 0, slots := 0, locals := 65 }) zs zm za zb zh zc 0 0 (MQ zb (Qz E A (some (.int (wE (ar 11) tL (n5 + 1) (q, nI 0, ar 16 i, b)).1)) (mw E ad (va_up (va_up (va_up sc 9 (nI (wE (ar 11) tL (n5 + 1) (q, nI 0, ar 16 i, b)).2.1.2.1)) 10 (nI (wE (ar 11) tL (n5 + 1) (q, nI 0, ar 16 i, b)).2.1.1)) 11 (nI ((wE (ar 11) tL (n5 + 1) (q, nI 0, ar 16 i, b)).2.1.2.1 - (wE (ar 11) tL (n5 + 1) (q, nI 0, ar 16 i, b)).2.1.1))) (va_up ar 16 (upd (ar 16) i (wE (ar 11) tL (n5 + 1) (q, nI 0, ar 16 i, b)).2.2)) la)) za zs 0 0 A) E A 5 (mw E ad (va_up (va_up (va_up sc 9 (nI (wS (ar 11) tL (q, nI 0, ar 16 i, b) (t)).1.2.1)) 10 (nI (wS (ar 11) tL (q, nI 0, ar 16 i, b) (t)).1.1)) 11 (nI ((wS (ar 11) tL (q, nI 0, ar 16 i, b) (t)).1.2.1 - (wS (ar 11) tL (q, nI 0, ar 16 i, b) (t)).1.1))) (va_up ar 16 (upd (ar 16) i (wS (ar 11) tL (q, nI 0, ar 16 i, b) (t)).2.2.1)) la) (180) [(0, .ref (ad 0)), (1, .int (nI i)), (2, .int (bI (wS (ar 11) tL (q, nI 0, ar 16 i, b) (t)).2.2.2)), (3, .int (wS (ar 11) tL (q, nI 0, ar 16 i, b) (t)).2.1)] [] := by
    intro kt
    induction kt with
    | zero =>
      intro t lht hE hle hok
      have lhtn : n5 = t := by omega
      subst lhtn
      refine g_iload_n (pc := 180) hc 2 dX12_readLeave_180 rfl rfl ?_
      refine g_if_eq_b (pc := 181) hc 245 dX12_readLeave_181 (by decide) (fun c2 => ?_) (fun c2 => ?_)
      · refine g_aload_n (pc := 245) hc 0 dX12_readLeave_245 rfl rfl ?_
        refine gf_m0_long1 (pc := 246) hc tw_1039 dX12_readLeave_246 ?_
        refine g_topi (v := nI ((wS (ar 11) tL (q, nI 0, ar 16 i, b) (n5)).1.2.1 - (wS (ar 11) tL (q, nI 0, ar 16 i, b) (n5)).1.1)) rfl ?_
        refine g_if_ne (pc := 249) hc 256 dX12_readLeave_249 (by decide) (fun c3 => ?_) (fun c3 => ?_)
        · refine g_aload_n (pc := 256) hc 0 dX12_readLeave_256 rfl rfl ?_
          refine gf_m0_from (pc := 257) hc tw_1038 dX12_readLeave_257 ?_
          refine g_topi (v := nI (wS (ar 11) tL (q, nI 0, ar 16 i, b) (n5)).1.1) rfl ?_
          exact g_iret (pc := 260) hc dX12_readLeave_260 (by rw [hE, wE_x (by omega) c2]; show some (Value.int (mfl _)) = _; unfold mfl; (repeat (first | rw [if_pos c3] | rw [if_neg c3] | rw [if_neg (ne_true_of_eq_false c3)]))) (by rw [hE, wE_x (by omega) c2])
        · refine g_iconst (pc := 252) (v := (-1)) hc dX12_readLeave_252 (by decide) ?_
          refine g_goto (pc := 253) hc 260 dX12_readLeave_253 (by decide) ?_
          exact g_iret (pc := 260) hc dX12_readLeave_260 (by rw [hE, wE_x (by omega) c2]; show some (Value.int (mfl _)) = _; unfold mfl; (repeat (first | rw [if_pos c3] | rw [if_neg c3] | rw [if_neg (ne_true_of_eq_false c3)]))) (by rw [hE, wE_x (by omega) c2])
      · refine g_aload_n (pc := 184) hc 0 dX12_readLeave_184 rfl rfl ?_
        refine g_callVv (pc := 185) (rest := []) (As := []) hc (c_X12_next l E ad hA (va_up (va_up (va_up sc 9 (nI (wS (ar 11) tL (q, nI 0, ar 16 i, b) (n5)).1.2.1)) 10 (nI (wS (ar 11) tL (q, nI 0, ar 16 i, b) (n5)).1.1)) 11 (nI ((wS (ar 11) tL (q, nI 0, ar 16 i, b) (n5)).1.2.1 - (wS (ar 11) tL (q, nI 0, ar 16 i, b) (n5)).1.1))) (va_up ar 16 (upd (ar 16) i (wS (ar 11) tL (q, nI 0, ar 16 i, b) (n5)).2.2.1)) la (wS (ar 11) tL (q, nI 0, ar 16 i, b) (n5)).1 hT hT60 rfl (hok) hB) mi_X12_next tw_1324 0 rfl rfl rfl rfl ⟨rfl, rfl, by decide, by decide⟩ (Nat.le_of_ble_eq_true rfl) ⟨Nat.le_refl _, Nat.le_refl _⟩ rfl dX12_readLeave_185 ?_
        refine g_eq (ws' := mw E ad (va_up (va_up (va_up sc 9 (nI (goT (ar 11) tL (wS (ar 11) tL (q, nI 0, ar 16 i, b) (n5)).1).2.1)) 10 (nI (goT (ar 11) tL (wS (ar 11) tL (q, nI 0, ar 16 i, b) (n5)).1).1)) 11 (nI ((goT (ar 11) tL (wS (ar 11) tL (q, nI 0, ar 16 i, b) (n5)).1).2.1 - (goT (ar 11) tL (wS (ar 11) tL (q, nI 0, ar 16 i, b) (n5)).1).1))) (va_up ar 16 (upd (ar 16) i (wS (ar 11) tL (q, nI 0, ar 16 i, b) (n5)).2.2.1)) la) (lv' := [(0, .ref (ad 0)), (1, .int (nI i)), (2, .int (bI (wS (ar 11) tL (q, nI 0, ar 16 i, b) (n5)).2.2.2)), (3, .int (wS (ar 11) tL (q, nI 0, ar 16 i, b) (n5)).2.1)]) (by simp [mw, va_up]) rfl rfl ?_
        obtain ⟨qa, eqa⟩ : ∃ z, z = (goT (ar 11) tL (wS (ar 11) tL (q, nI 0, ar 16 i, b) (n5)).1) := ⟨_, rfl⟩
        have ka : rdok tL qa := by rw [eqa]; exact goT_ok hok
        refine g_eq (ws' := mw E ad (va_up (va_up (va_up sc 9 (nI qa.2.1)) 10 (nI qa.1)) 11 (nI (qa.2.1 - qa.1))) (va_up ar 16 (upd (ar 16) i (wS (ar 11) tL (q, nI 0, ar 16 i, b) (n5)).2.2.1)) la) (lv' := [(0, .ref (ad 0)), (1, .int (nI i)), (2, .int (bI (wS (ar 11) tL (q, nI 0, ar 16 i, b) (n5)).2.2.2)), (3, .int (wS (ar 11) tL (q, nI 0, ar 16 i, b) (n5)).2.1)]) (by rw [eqa]) rfl rfl ?_
        refine g_aload_n (pc := 188) hc 0 dX12_readLeave_188 rfl rfl ?_
        refine g_callVi (pc := 189) (rest := []) (As := []) hc (c_X12_number l E ad hA (va_up (va_up (va_up sc 9 (nI qa.2.1)) 10 (nI qa.1)) 11 (nI (qa.2.1 - qa.1))) (va_up ar 16 (upd (ar 16) i (wS (ar 11) tL (q, nI 0, ar 16 i, b) (n5)).2.2.1)) la qa hT hT60 rfl rfl (ka) hB) mi_X12_number tw_1336 0 rfl rfl rfl rfl ⟨rfl, rfl, by decide, by decide⟩ (Nat.le_of_ble_eq_true rfl) ⟨Nat.le_refl _, Nat.le_refl _⟩ rfl dX12_readLeave_189 ?_
        refine g_topi (v := mvh (ar 11) qa) rfl ?_
        refine g_istore (pc := 192) (lv' := [(0, .ref (ad 0)), (1, .int (nI i)), (2, .int (bI (wS (ar 11) tL (q, nI 0, ar 16 i, b) (n5)).2.2.2)), (3, .int (wS (ar 11) tL (q, nI 0, ar 16 i, b) (n5)).2.1), (4, .int (mvh (ar 11) qa))]) hc dX12_readLeave_192 (by decide) rfl ?_
        refine g_iload (pc := 194) hc 4 dX12_readLeave_194 rfl ?_
        refine g_iload_n (pc := 196) hc 3 dX12_readLeave_196 rfl rfl ?_
        refine g_iconst (pc := 197) (v := nI 4) hc dX12_readLeave_197 (by decide) ?_
        refine g_callSi (pc := 198) (rest := []) (As := [.int (mvh (ar 11) qa), .int (wS (ar 11) tL (q, nI 0, ar 16 i, b) (n5)).2.1, .int (nI 4)]) hc (c_X12_isIn l E ad hA (va_up (va_up (va_up sc 9 (nI qa.2.1)) 10 (nI qa.1)) 11 (nI (qa.2.1 - qa.1))) (va_up ar 16 (upd (ar 16) i (wS (ar 11) tL (q, nI 0, ar 16 i, b) (n5)).2.2.1)) la (mvh (ar 11) qa) (wS (ar 11) tL (q, nI 0, ar 16 i, b) (n5)).2.1 (nI 4)) mi_X12_isIn tw_1136 rfl ⟨rfl, rfl, by decide, by decide⟩ (Nat.le_of_ble_eq_true rfl) ⟨Nat.le_refl _, Nat.le_refl _⟩ rfl dX12_readLeave_198 ?_
        refine g_topi (v := bI (inr (mvh (ar 11) qa) (wS (ar 11) tL (q, nI 0, ar 16 i, b) (n5)).2.1 (nI 4))) rfl ?_
        refine g_if_ne_b (pc := 201) hc 209 dX12_readLeave_201 (by decide) (fun c4 => ?_) (fun c4 => ?_)
        · exact (by obtain ⟨a, h1, h2, _⟩ := wle hle c4; omega : False).elim
        · refine g_aload_n (pc := 204) hc 0 dX12_readLeave_204 rfl rfl ?_
          refine g_callVi (pc := 205) (rest := []) (As := []) hc (c_X12_here l E ad hA (va_up (va_up (va_up sc 9 (nI qa.2.1)) 10 (nI qa.1)) 11 (nI (qa.2.1 - qa.1))) (va_up ar 16 (upd (ar 16) i (wS (ar 11) tL (q, nI 0, ar 16 i, b) (n5)).2.2.1)) la qa hT hT60 rfl rfl (ka) hB) mi_X12_here tw_1340 0 rfl rfl rfl rfl ⟨rfl, rfl, by decide, by decide⟩ (Nat.le_of_ble_eq_true rfl) ⟨Nat.le_refl _, Nat.le_refl _⟩ rfl dX12_readLeave_205 ?_
          refine g_topi (v := mhr tL qa) rfl ?_
          exact g_iret (pc := 208) hc dX12_readLeave_208 (by rw [hE, wE_r (by omega) c2 (by rw [← eqa]; exact c4), ← eqa]) (by rw [hE, wE_r (by omega) c2 (by rw [← eqa]; exact c4), ← eqa])
    | succ kt iht =>
      intro t lht hE hle hok
      have lhtn : t < n5 := by omega
      refine g_iload_n (pc := 180) hc 2 dX12_readLeave_180 rfl rfl ?_
      refine g_if_eq_b (pc := 181) hc 245 dX12_readLeave_181 (by decide) (fun c5 => ?_) (fun c5 => ?_)
      · refine g_aload_n (pc := 245) hc 0 dX12_readLeave_245 rfl rfl ?_
        refine gf_m0_long1 (pc := 246) hc tw_1039 dX12_readLeave_246 ?_
        refine g_topi (v := nI ((wS (ar 11) tL (q, nI 0, ar 16 i, b) (t)).1.2.1 - (wS (ar 11) tL (q, nI 0, ar 16 i, b) (t)).1.1)) rfl ?_
        refine g_if_ne (pc := 249) hc 256 dX12_readLeave_249 (by decide) (fun c6 => ?_) (fun c6 => ?_)
        · refine g_aload_n (pc := 256) hc 0 dX12_readLeave_256 rfl rfl ?_
          refine gf_m0_from (pc := 257) hc tw_1038 dX12_readLeave_257 ?_
          refine g_topi (v := nI (wS (ar 11) tL (q, nI 0, ar 16 i, b) (t)).1.1) rfl ?_
          exact g_iret (pc := 260) hc dX12_readLeave_260 (by rw [hE, wE_x (by omega) c5]; show some (Value.int (mfl _)) = _; unfold mfl; (repeat (first | rw [if_pos c6] | rw [if_neg c6] | rw [if_neg (ne_true_of_eq_false c6)]))) (by rw [hE, wE_x (by omega) c5])
        · refine g_iconst (pc := 252) (v := (-1)) hc dX12_readLeave_252 (by decide) ?_
          refine g_goto (pc := 253) hc 260 dX12_readLeave_253 (by decide) ?_
          exact g_iret (pc := 260) hc dX12_readLeave_260 (by rw [hE, wE_x (by omega) c5]; show some (Value.int (mfl _)) = _; unfold mfl; (repeat (first | rw [if_pos c6] | rw [if_neg c6] | rw [if_neg (ne_true_of_eq_false c6)]))) (by rw [hE, wE_x (by omega) c5])
      · refine g_aload_n (pc := 184) hc 0 dX12_readLeave_184 rfl rfl ?_
        refine g_callVv (pc := 185) (rest := []) (As := []) hc (c_X12_next l E ad hA (va_up (va_up (va_up sc 9 (nI (wS (ar 11) tL (q, nI 0, ar 16 i, b) (t)).1.2.1)) 10 (nI (wS (ar 11) tL (q, nI 0, ar 16 i, b) (t)).1.1)) 11 (nI ((wS (ar 11) tL (q, nI 0, ar 16 i, b) (t)).1.2.1 - (wS (ar 11) tL (q, nI 0, ar 16 i, b) (t)).1.1))) (va_up ar 16 (upd (ar 16) i (wS (ar 11) tL (q, nI 0, ar 16 i, b) (t)).2.2.1)) la (wS (ar 11) tL (q, nI 0, ar 16 i, b) (t)).1 hT hT60 rfl (hok) hB) mi_X12_next tw_1324 0 rfl rfl rfl rfl ⟨rfl, rfl, by decide, by decide⟩ (Nat.le_of_ble_eq_true rfl) ⟨Nat.le_refl _, Nat.le_refl _⟩ rfl dX12_readLeave_185 ?_
        refine g_eq (ws' := mw E ad (va_up (va_up (va_up sc 9 (nI (goT (ar 11) tL (wS (ar 11) tL (q, nI 0, ar 16 i, b) (t)).1).2.1)) 10 (nI (goT (ar 11) tL (wS (ar 11) tL (q, nI 0, ar 16 i, b) (t)).1).1)) 11 (nI ((goT (ar 11) tL (wS (ar 11) tL (q, nI 0, ar 16 i, b) (t)).1).2.1 - (goT (ar 11) tL (wS (ar 11) tL (q, nI 0, ar 16 i, b) (t)).1).1))) (va_up ar 16 (upd (ar 16) i (wS (ar 11) tL (q, nI 0, ar 16 i, b) (t)).2.2.1)) la) (lv' := [(0, .ref (ad 0)), (1, .int (nI i)), (2, .int (bI (wS (ar 11) tL (q, nI 0, ar 16 i, b) (t)).2.2.2)), (3, .int (wS (ar 11) tL (q, nI 0, ar 16 i, b) (t)).2.1)]) (by simp [mw, va_up]) rfl rfl ?_
        obtain ⟨qa, eqa⟩ : ∃ z, z = (goT (ar 11) tL (wS (ar 11) tL (q, nI 0, ar 16 i, b) (t)).1) := ⟨_, rfl⟩
        have ka : rdok tL qa := by rw [eqa]; exact goT_ok hok
        refine g_eq (ws' := mw E ad (va_up (va_up (va_up sc 9 (nI qa.2.1)) 10 (nI qa.1)) 11 (nI (qa.2.1 - qa.1))) (va_up ar 16 (upd (ar 16) i (wS (ar 11) tL (q, nI 0, ar 16 i, b) (t)).2.2.1)) la) (lv' := [(0, .ref (ad 0)), (1, .int (nI i)), (2, .int (bI (wS (ar 11) tL (q, nI 0, ar 16 i, b) (t)).2.2.2)), (3, .int (wS (ar 11) tL (q, nI 0, ar 16 i, b) (t)).2.1)]) (by rw [eqa]) rfl rfl ?_
        refine g_aload_n (pc := 188) hc 0 dX12_readLeave_188 rfl rfl ?_
        refine g_callVi (pc := 189) (rest := []) (As := []) hc (c_X12_number l E ad hA (va_up (va_up (va_up sc 9 (nI qa.2.1)) 10 (nI qa.1)) 11 (nI (qa.2.1 - qa.1))) (va_up ar 16 (upd (ar 16) i (wS (ar 11) tL (q, nI 0, ar 16 i, b) (t)).2.2.1)) la qa hT hT60 rfl rfl (ka) hB) mi_X12_number tw_1336 0 rfl rfl rfl rfl ⟨rfl, rfl, by decide, by decide⟩ (Nat.le_of_ble_eq_true rfl) ⟨Nat.le_refl _, Nat.le_refl _⟩ rfl dX12_readLeave_189 ?_
        refine g_topi (v := mvh (ar 11) qa) rfl ?_
        refine g_istore (pc := 192) (lv' := [(0, .ref (ad 0)), (1, .int (nI i)), (2, .int (bI (wS (ar 11) tL (q, nI 0, ar 16 i, b) (t)).2.2.2)), (3, .int (wS (ar 11) tL (q, nI 0, ar 16 i, b) (t)).2.1), (4, .int (mvh (ar 11) qa))]) hc dX12_readLeave_192 (by decide) rfl ?_
        refine g_iload (pc := 194) hc 4 dX12_readLeave_194 rfl ?_
        refine g_iload_n (pc := 196) hc 3 dX12_readLeave_196 rfl rfl ?_
        refine g_iconst (pc := 197) (v := nI 4) hc dX12_readLeave_197 (by decide) ?_
        refine g_callSi (pc := 198) (rest := []) (As := [.int (mvh (ar 11) qa), .int (wS (ar 11) tL (q, nI 0, ar 16 i, b) (t)).2.1, .int (nI 4)]) hc (c_X12_isIn l E ad hA (va_up (va_up (va_up sc 9 (nI qa.2.1)) 10 (nI qa.1)) 11 (nI (qa.2.1 - qa.1))) (va_up ar 16 (upd (ar 16) i (wS (ar 11) tL (q, nI 0, ar 16 i, b) (t)).2.2.1)) la (mvh (ar 11) qa) (wS (ar 11) tL (q, nI 0, ar 16 i, b) (t)).2.1 (nI 4)) mi_X12_isIn tw_1136 rfl ⟨rfl, rfl, by decide, by decide⟩ (Nat.le_of_ble_eq_true rfl) ⟨Nat.le_refl _, Nat.le_refl _⟩ rfl dX12_readLeave_198 ?_
        refine g_topi (v := bI (inr (mvh (ar 11) qa) (wS (ar 11) tL (q, nI 0, ar 16 i, b) (t)).2.1 (nI 4))) rfl ?_
        refine g_if_ne_b (pc := 201) hc 209 dX12_readLeave_201 (by decide) (fun c7 => ?_) (fun c7 => ?_)
        · refine g_aload_n (pc := 209) hc 0 dX12_readLeave_209 rfl rfl ?_
          refine gf_m0_lNot (pc := 210) hc tw_1025 dX12_readLeave_210 ?_
          refine g_iload_n (pc := 213) hc 1 dX12_readLeave_213 rfl rfl ?_
          refine g_dup2 (pc := 214) hc dX12_readLeave_214 rfl rfl ?_
          refine la_m16 (pc := 215) hc (i) (rfl) (by omega) dX12_readLeave_215 ?_
          refine g_topi (v := (upd (ar 16) i (wS (ar 11) tL (q, nI 0, ar 16 i, b) (t)).2.2.1) i) rfl ?_
          refine g_topi (v := (wS (ar 11) tL (q, nI 0, ar 16 i, b) (t)).2.2.1) (pk_us) ?_
          refine g_iconst (pc := 216) (v := nI 1) hc dX12_readLeave_216 (by decide) ?_
          refine g_iload (pc := 217) hc 4 dX12_readLeave_217 rfl ?_
          refine g_ishl (pc := 219) hc dX12_readLeave_219 ?_
          refine g_ior (pc := 220) hc dX12_readLeave_220 ?_
          refine sa_m16 (pc := 221) hc hA (i) (rfl) (by omega) dX12_readLeave_221 ?_
          refine g_eq (ws' := mw E ad (va_up (va_up (va_up sc 9 (nI qa.2.1)) 10 (nI qa.1)) 11 (nI (qa.2.1 - qa.1))) (va_up ar 16 (upd (upd (ar 16) i (wS (ar 11) tL (q, nI 0, ar 16 i, b) (t)).2.2.1) i ((wS (ar 11) tL (q, nI 0, ar 16 i, b) (t)).2.2.1 ||| ((nI 1) <<< ((mvh (ar 11) qa) &&& 31))))) la) (lv' := [(0, .ref (ad 0)), (1, .int (nI i)), (2, .int (bI (wS (ar 11) tL (q, nI 0, ar 16 i, b) (t)).2.2.2)), (3, .int (wS (ar 11) tL (q, nI 0, ar 16 i, b) (t)).2.1), (4, .int (mvh (ar 11) qa))]) rfl rfl rfl ?_
          refine g_iload (pc := 222) hc 4 dX12_readLeave_222 rfl ?_
          refine g_iconst (pc := 224) (v := nI 1) hc dX12_readLeave_224 (by decide) ?_
          refine g_iadd (pc := 225) hc dX12_readLeave_225 ?_
          refine g_istore_n (pc := 226) (lv' := [(0, .ref (ad 0)), (1, .int (nI i)), (2, .int (bI (wS (ar 11) tL (q, nI 0, ar 16 i, b) (t)).2.2.2)), (3, .int ((mvh (ar 11) qa) + (nI 1))), (4, .int (mvh (ar 11) qa))]) hc dX12_readLeave_226 rfl (by decide) rfl ?_
          refine g_aload_n (pc := 227) hc 0 dX12_readLeave_227 rfl rfl ?_
          refine g_callVv (pc := 228) (rest := []) (As := []) hc (c_X12_next l E ad hA (va_up (va_up (va_up sc 9 (nI qa.2.1)) 10 (nI qa.1)) 11 (nI (qa.2.1 - qa.1))) (va_up ar 16 (upd (upd (ar 16) i (wS (ar 11) tL (q, nI 0, ar 16 i, b) (t)).2.2.1) i ((wS (ar 11) tL (q, nI 0, ar 16 i, b) (t)).2.2.1 ||| ((nI 1) <<< ((mvh (ar 11) qa) &&& 31))))) la qa hT hT60 rfl (ka) hB) mi_X12_next tw_1324 0 rfl rfl rfl rfl ⟨rfl, rfl, by decide, by decide⟩ (Nat.le_of_ble_eq_true rfl) ⟨Nat.le_refl _, Nat.le_refl _⟩ rfl dX12_readLeave_228 ?_
          refine g_eq (ws' := mw E ad (va_up (va_up (va_up sc 9 (nI (goT (ar 11) tL qa).2.1)) 10 (nI (goT (ar 11) tL qa).1)) 11 (nI ((goT (ar 11) tL qa).2.1 - (goT (ar 11) tL qa).1))) (va_up ar 16 (upd (upd (ar 16) i (wS (ar 11) tL (q, nI 0, ar 16 i, b) (t)).2.2.1) i ((wS (ar 11) tL (q, nI 0, ar 16 i, b) (t)).2.2.1 ||| ((nI 1) <<< ((mvh (ar 11) qa) &&& 31))))) la) (lv' := [(0, .ref (ad 0)), (1, .int (nI i)), (2, .int (bI (wS (ar 11) tL (q, nI 0, ar 16 i, b) (t)).2.2.2)), (3, .int ((mvh (ar 11) qa) + (nI 1))), (4, .int (mvh (ar 11) qa))]) (by simp [mw, va_up]) rfl rfl ?_
          obtain ⟨qb, eqb⟩ : ∃ z, z = (goT (ar 11) tL qa) := ⟨_, rfl⟩
          have kb : rdok tL qb := by rw [eqb]; exact goT_ok ka
          refine g_eq (ws' := mw E ad (va_up (va_up (va_up sc 9 (nI qb.2.1)) 10 (nI qb.1)) 11 (nI (qb.2.1 - qb.1))) (va_up ar 16 (upd (upd (ar 16) i (wS (ar 11) tL (q, nI 0, ar 16 i, b) (t)).2.2.1) i ((wS (ar 11) tL (q, nI 0, ar 16 i, b) (t)).2.2.1 ||| ((nI 1) <<< ((mvh (ar 11) qa) &&& 31))))) la) (lv' := [(0, .ref (ad 0)), (1, .int (nI i)), (2, .int (bI (wS (ar 11) tL (q, nI 0, ar 16 i, b) (t)).2.2.2)), (3, .int ((mvh (ar 11) qa) + (nI 1))), (4, .int (mvh (ar 11) qa))]) (by rw [eqb]) rfl rfl ?_
          refine g_aload_n (pc := 231) hc 0 dX12_readLeave_231 rfl rfl ?_
          refine g_bipush (pc := 232) (v := nI 111) hc dX12_readLeave_232 (by decide) ?_
          refine g_bipush (pc := 234) (v := nI 114) hc dX12_readLeave_234 (by decide) ?_
          refine g_iconst (pc := 236) (v := nI 0) hc dX12_readLeave_236 (by decide) ?_
          refine g_iconst (pc := 237) (v := nI 0) hc dX12_readLeave_237 (by decide) ?_
          refine g_callVi (pc := 238) (rest := []) (As := [.int (nI 111), .int (nI 114), .int (nI 0), .int (nI 0)]) hc (c_X12_isWord_5 l E ad hA (va_up (va_up (va_up sc 9 (nI qb.2.1)) 10 (nI qb.1)) 11 (nI (qb.2.1 - qb.1))) (va_up ar 16 (upd (upd (ar 16) i (wS (ar 11) tL (q, nI 0, ar 16 i, b) (t)).2.2.1) i ((wS (ar 11) tL (q, nI 0, ar 16 i, b) (t)).2.2.1 ||| ((nI 1) <<< ((mvh (ar 11) qa) &&& 31))))) la qb hT hT60 rfl rfl (kb) hB) mi_X12_isWord tw_1328 0 rfl rfl rfl rfl ⟨rfl, rfl, by decide, by decide⟩ (Nat.le_of_ble_eq_true rfl) ⟨Nat.le_refl _, Nat.le_refl _⟩ rfl dX12_readLeave_238 ?_
          refine g_topi (v := bI (wat (ar 11) qb 5)) rfl ?_
          refine g_istore_n (pc := 241) (lv' := [(0, .ref (ad 0)), (1, .int (nI i)), (2, .int (bI (wat (ar 11) qb 5))), (3, .int ((mvh (ar 11) qa) + (nI 1))), (4, .int (mvh (ar 11) qa))]) hc dX12_readLeave_241 rfl (by decide) rfl ?_
          refine g_goto (pc := 242) hc 180 dX12_readLeave_242 (by decide) ?_
          refine g_lv [0, 1, 2, 3] (lv' := [(0, .ref (ad 0)), (1, .int (nI i)), (2, .int (bI (wat (ar 11) qb 5))), (3, .int ((mvh (ar 11) qa) + (nI 1)))]) rfl ?_
          exact g_eq (ws' := mw E ad (va_up (va_up (va_up sc 9 (nI (wS (ar 11) tL (q, nI 0, ar 16 i, b) (t + 1)).1.2.1)) 10 (nI (wS (ar 11) tL (q, nI 0, ar 16 i, b) (t + 1)).1.1)) 11 (nI ((wS (ar 11) tL (q, nI 0, ar 16 i, b) (t + 1)).1.2.1 - (wS (ar 11) tL (q, nI 0, ar 16 i, b) (t + 1)).1.1))) (va_up ar 16 (upd (ar 16) i (wS (ar 11) tL (q, nI 0, ar 16 i, b) (t + 1)).2.2.1)) la) (lv' := [(0, .ref (ad 0)), (1, .int (nI i)), (2, .int (bI (wS (ar 11) tL (q, nI 0, ar 16 i, b) (t + 1)).2.2.2)), (3, .int (wS (ar 11) tL (q, nI 0, ar 16 i, b) (t + 1)).2.1)]) (by have hws : (wS (ar 11) tL (q, nI 0, ar 16 i, b) (t + 1)) = (qb, mvh (ar 11) qa + nI 1, (wS (ar 11) tL (q, nI 0, ar 16 i, b) (t)).2.2.1 ||| (nI 1 <<< (mvh (ar 11) qa &&& 31)), wat (ar 11) qb 5) := (by rw [eqb, eqa, wS_succ, w1]); rw [hws, upd2]) (by have hws : (wS (ar 11) tL (q, nI 0, ar 16 i, b) (t + 1)) = (qb, mvh (ar 11) qa + nI 1, (wS (ar 11) tL (q, nI 0, ar 16 i, b) (t)).2.2.1 ||| (nI 1 <<< (mvh (ar 11) qa &&& 31)), wat (ar 11) qb 5) := (by rw [eqb, eqa, wS_succ, w1]); rw [hws]) rfl (iht (t + 1) (by omega) (by rw [wS_succ]; exact hE.trans (wE_b (by omega) c5 (by rw [← eqa]; exact c7))) (by have h := wle hle c7; rw [eqa] at h; rw [wS_succ, w1]; exact h) (by have h := kb; rw [eqb, eqa] at h; rw [wS_succ, w1]; exact h))
        · refine g_aload_n (pc := 204) hc 0 dX12_readLeave_204 rfl rfl ?_
          refine g_callVi (pc := 205) (rest := []) (As := []) hc (c_X12_here l E ad hA (va_up (va_up (va_up sc 9 (nI qa.2.1)) 10 (nI qa.1)) 11 (nI (qa.2.1 - qa.1))) (va_up ar 16 (upd (ar 16) i (wS (ar 11) tL (q, nI 0, ar 16 i, b) (t)).2.2.1)) la qa hT hT60 rfl rfl (ka) hB) mi_X12_here tw_1340 0 rfl rfl rfl rfl ⟨rfl, rfl, by decide, by decide⟩ (Nat.le_of_ble_eq_true rfl) ⟨Nat.le_refl _, Nat.le_refl _⟩ rfl dX12_readLeave_205 ?_
          refine g_topi (v := mhr tL qa) rfl ?_
          exact g_iret (pc := 208) hc dX12_readLeave_208 (by rw [hE, wE_r (by omega) c5 (by rw [← eqa]; exact c7), ← eqa]) (by rw [hE, wE_r (by omega) c5 (by rw [← eqa]; exact c7), ← eqa])
  exact g_eq (ws' := mw E ad (va_up (va_up (va_up sc 9 (nI (wS (ar 11) tL (q, nI 0, ar 16 i, b) (0)).1.2.1)) 10 (nI (wS (ar 11) tL (q, nI 0, ar 16 i, b) (0)).1.1)) 11 (nI ((wS (ar 11) tL (q, nI 0, ar 16 i, b) (0)).1.2.1 - (wS (ar 11) tL (q, nI 0, ar 16 i, b) (0)).1.1))) (va_up ar 16 (upd (ar 16) i (wS (ar 11) tL (q, nI 0, ar 16 i, b) (0)).2.2.1)) la) (lv' := [(0, .ref (ad 0)), (1, .int (nI i)), (2, .int (bI (wS (ar 11) tL (q, nI 0, ar 16 i, b) (0)).2.2.2)), (3, .int (wS (ar 11) tL (q, nI 0, ar 16 i, b) (0)).2.1)]) (by rw [show upd (ar 16) i (wS (ar 11) tL (q, nI 0, ar 16 i, b) (0)).2.2.1 = ar 16 from by rw [wS_0]; exact upd_self _ _, va_upS ar 16, wS_0]; show _ = mw E ad (va_up (va_up (va_up sc 9 (nI q.2.1)) 10 (nI q.1)) 11 (nI (q.2.1 - q.1))) ar la; rw [← h9, ← h10, ← h11, va_upS sc 9, va_upS sc 10, va_upS sc 11]) (by rw [wS_0]) rfl (L180_1 (n5 - 0) (0) (by omega) (by rw [wS_0, Nat.sub_zero]) (⟨0, by omega, by omega, by rw [wS_0]⟩) (by rw [wS_0]; exact hq))

set_option maxHeartbeats 4000000 in
set_option maxRecDepth 100000 in
theorem rl_b (l : Launch) (E : Ev) {A : Nat → Prop} (ad : Nat → Nat) (hA : Oka 30 ad A) (sc : Nat → Int32) (ar : Nat → Nat → Int32) (la : Nat → Int64) {tL : Nat} (q : Rq) (i : Nat) (hi : i < 12) (hT : sc 7 = nI tL) (hT60 : tL ≤ 60) (h9 : sc 9 = nI q.2.1) (h10 : sc 10 = nI q.1) (h11 : sc 11 = nI (q.2.1 - q.1)) (hq : rdok tL q) (hB : ∀ i, ar 11 i &&& nI 255 = ar 11 i) {zp : Program} {ze : Env} {zs : State} {zm : MethodId} {za : Array Value} {zb : List Frame} {zh : Method} {zc : Code} (hc : Cx zp zs zm za zh zc E A yX12_readLeave.cls cX12_readLeave 5 (some .int)) : G zp l ze ({ frames := 3, cells := 0, slots := 0, locals := 65 }) zs zm za zb zh zc 0 0 (MQ zb (Qz E A (some (.int (rB (ar 11) tL q (ar 16 i)).1)) (mw E ad (va_up (va_up (va_up sc 9 (nI (rB (ar 11) tL q (ar 16 i)).2.1.2.1)) 10 (nI (rB (ar 11) tL q (ar 16 i)).2.1.1)) 11 (nI ((rB (ar 11) tL q (ar 16 i)).2.1.2.1 - (rB (ar 11) tL q (ar 16 i)).2.1.1))) (va_up ar 16 (upd (ar 16) i (rB (ar 11) tL q (ar 16 i)).2.2)) la)) za zs 0 0 A) E A 5 (mw E ad sc ar la) (139) [(0, .ref (ad 0)), (1, .int (nI i))] [] := by
  refine g_aload_n (pc := 139) hc 0 dX12_readLeave_139 rfl rfl ?_
  refine g_bipush (pc := 140) (v := nI 98) hc dX12_readLeave_140 (by decide) ?_
  refine g_bipush (pc := 142) (v := nI 117) hc dX12_readLeave_142 (by decide) ?_
  refine g_bipush (pc := 144) (v := nI 116) hc dX12_readLeave_144 (by decide) ?_
  refine g_iconst (pc := 146) (v := nI 0) hc dX12_readLeave_146 (by decide) ?_
  refine g_callVi (pc := 147) (rest := []) (As := [.int (nI 98), .int (nI 117), .int (nI 116), .int (nI 0)]) hc (c_X12_isWord_3 l E ad hA sc ar la q hT hT60 h10 h11 (hq) hB) mi_X12_isWord tw_1328 0 rfl rfl rfl rfl ⟨rfl, rfl, by decide, by decide⟩ (Nat.le_of_ble_eq_true rfl) ⟨Nat.le_refl _, Nat.le_refl _⟩ rfl dX12_readLeave_147 ?_
  refine g_istore_n (pc := 150) (lv' := [(0, .ref (ad 0)), (1, .int (nI i)), (2, .int (bI (wat (ar 11) q 3)))]) hc dX12_readLeave_150 rfl (by decide) rfl ?_
  refine g_iload_n (pc := 151) hc 2 dX12_readLeave_151 rfl rfl ?_
  refine g_if_eq_b (pc := 152) hc 178 dX12_readLeave_152 (by decide) (fun c1 => ?_) (fun c1 => ?_)
  · refine g_iconst (pc := 178) (v := nI 0) hc dX12_readLeave_178 (by decide) ?_
    refine g_istore_n (pc := 179) (lv' := [(0, .ref (ad 0)), (1, .int (nI i)), (2, .int (bI (wat (ar 11) q 3))), (3, .int (nI 0))]) hc dX12_readLeave_179 rfl (by decide) rfl ?_
    exact g_q (by unfold rB; (repeat (first | rw [if_pos c1] | rw [if_neg c1] | rw [if_neg (ne_true_of_eq_false c1)]))) (by unfold rB; (repeat (first | rw [if_pos c1] | rw [if_neg c1] | rw [if_neg (ne_true_of_eq_false c1)])); try simp [mw, va_up]) (rl_c l E ad hA sc ar la q i hi hT hT60 h9 h10 h11 (hq) hB (wat (ar 11) q 3) 5 rfl hc)
  · refine g_aload_n (pc := 155) hc 0 dX12_readLeave_155 rfl rfl ?_
    refine g_callVv (pc := 156) (rest := []) (As := []) hc (c_X12_next l E ad hA sc ar la q hT hT60 h9 (hq) hB) mi_X12_next tw_1324 0 rfl rfl rfl rfl ⟨rfl, rfl, by decide, by decide⟩ (Nat.le_of_ble_eq_true rfl) ⟨Nat.le_refl _, Nat.le_refl _⟩ rfl dX12_readLeave_156 ?_
    obtain ⟨qa, ea⟩ : ∃ z, z = (goT (ar 11) tL q) := ⟨_, rfl⟩
    have ka : rdok tL qa := by rw [ea]; exact goT_ok hq
    refine g_eq (ws' := mw E ad (va_up (va_up (va_up sc 9 (nI qa.2.1)) 10 (nI qa.1)) 11 (nI (qa.2.1 - qa.1))) ar la) (lv' := [(0, .ref (ad 0)), (1, .int (nI i)), (2, .int (bI (wat (ar 11) q 3)))]) (by rw [ea]) rfl rfl ?_
    refine g_aload_n (pc := 159) hc 0 dX12_readLeave_159 rfl rfl ?_
    refine g_bipush (pc := 160) (v := nI 119) hc dX12_readLeave_160 (by decide) ?_
    refine g_bipush (pc := 162) (v := nI 104) hc dX12_readLeave_162 (by decide) ?_
    refine g_bipush (pc := 164) (v := nI 111) hc dX12_readLeave_164 (by decide) ?_
    refine g_iconst (pc := 166) (v := nI 0) hc dX12_readLeave_166 (by decide) ?_
    refine g_callVi (pc := 167) (rest := []) (As := [.int (nI 119), .int (nI 104), .int (nI 111), .int (nI 0)]) hc (c_X12_isWord_4 l E ad hA (va_up (va_up (va_up sc 9 (nI qa.2.1)) 10 (nI qa.1)) 11 (nI (qa.2.1 - qa.1))) ar la qa hT hT60 rfl rfl (ka) hB) mi_X12_isWord tw_1328 0 rfl rfl rfl rfl ⟨rfl, rfl, by decide, by decide⟩ (Nat.le_of_ble_eq_true rfl) ⟨Nat.le_refl _, Nat.le_refl _⟩ rfl dX12_readLeave_167 ?_
    refine g_topi (v := bI (wat (ar 11) qa 4)) rfl ?_
    refine g_if_ne_b (pc := 170) hc 178 dX12_readLeave_170 (by decide) (fun c2 => ?_) (fun c2 => ?_)
    · refine g_iconst (pc := 178) (v := nI 0) hc dX12_readLeave_178 (by decide) ?_
      refine g_istore_n (pc := 179) (lv' := [(0, .ref (ad 0)), (1, .int (nI i)), (2, .int (bI (wat (ar 11) q 3))), (3, .int (nI 0))]) hc dX12_readLeave_179 rfl (by decide) rfl ?_
      exact g_q (by unfold rB; rw [← ea]; (repeat (first | rw [if_pos c1] | rw [if_neg c1] | rw [if_neg (ne_true_of_eq_false c1)] | rw [if_pos c2] | rw [if_neg c2] | rw [if_neg (ne_true_of_eq_false c2)]))) (by unfold rB; rw [← ea]; (repeat (first | rw [if_pos c1] | rw [if_neg c1] | rw [if_neg (ne_true_of_eq_false c1)] | rw [if_pos c2] | rw [if_neg c2] | rw [if_neg (ne_true_of_eq_false c2)])); try simp [mw, va_up]) (rl_c l E ad hA (va_up (va_up (va_up sc 9 (nI qa.2.1)) 10 (nI qa.1)) 11 (nI (qa.2.1 - qa.1))) ar la qa i hi hT hT60 rfl rfl rfl (ka) hB (wat (ar 11) q 3) 5 rfl hc)
    · refine g_aload_n (pc := 173) hc 0 dX12_readLeave_173 rfl rfl ?_
      refine g_callVi (pc := 174) (rest := []) (As := []) hc (c_X12_here l E ad hA (va_up (va_up (va_up sc 9 (nI qa.2.1)) 10 (nI qa.1)) 11 (nI (qa.2.1 - qa.1))) ar la qa hT hT60 rfl rfl (ka) hB) mi_X12_here tw_1340 0 rfl rfl rfl rfl ⟨rfl, rfl, by decide, by decide⟩ (Nat.le_of_ble_eq_true rfl) ⟨Nat.le_refl _, Nat.le_refl _⟩ rfl dX12_readLeave_174 ?_
      refine g_topi (v := mhr tL qa) rfl ?_
      exact g_iret (pc := 177) hc dX12_readLeave_177 (by unfold rB; rw [← ea]; (repeat (first | rw [if_pos c1] | rw [if_neg c1] | rw [if_neg (ne_true_of_eq_false c1)] | rw [if_pos c2] | rw [if_neg c2] | rw [if_neg (ne_true_of_eq_false c2)]))) (by unfold rB; rw [← ea]; (repeat (first | rw [if_pos c1] | rw [if_neg c1] | rw [if_neg (ne_true_of_eq_false c1)] | rw [if_pos c2] | rw [if_neg c2] | rw [if_neg (ne_true_of_eq_false c2)])); rw [upd_self, va_upS ar 16])
