theorem dX12_leave_0 : decode cX12_leave 0 = .ok (.aload_n 0, 1) := by decide +kernel
theorem dX12_leave_1 : decode cX12_leave 1 = .ok (.getfield 128, 3) := by decide +kernel
theorem dX12_leave_4 : decode cX12_leave 4 = .ok (.bipush 12, 2) := by decide +kernel
theorem dX12_leave_6 : decode cX12_leave 6 = .ok (.if_icmp .ge 10, 3) := by decide +kernel
theorem dX12_leave_9 : decode cX12_leave 9 = .ok (.aload_n 0, 1) := by decide +kernel
theorem dX12_leave_10 : decode cX12_leave 10 = .ok (.getfield 128, 3) := by decide +kernel
theorem dX12_leave_13 : decode cX12_leave 13 = .ok (.goto 5, 3) := by decide +kernel
theorem dX12_leave_16 : decode cX12_leave 16 = .ok (.bipush 11, 2) := by decide +kernel
theorem dX12_leave_18 : decode cX12_leave 18 = .ok (.istore_n 1, 1) := by decide +kernel
theorem dX12_leave_19 : decode cX12_leave 19 = .ok (.aload_n 0, 1) := by decide +kernel
theorem dX12_leave_20 : decode cX12_leave 20 = .ok (.getfield 103, 3) := by decide +kernel
theorem dX12_leave_23 : decode cX12_leave 23 = .ok (.iconst 0, 1) := by decide +kernel
theorem dX12_leave_24 : decode cX12_leave 24 = .ok (.aload_n 0, 1) := by decide +kernel
theorem dX12_leave_25 : decode cX12_leave 25 = .ok (.getfield 54, 3) := by decide +kernel
theorem dX12_leave_28 : decode cX12_leave 28 = .ok (.iload_n 1, 1) := by decide +kernel
theorem dX12_leave_29 : decode cX12_leave 29 = .ok (.iaload, 1) := by decide +kernel
theorem dX12_leave_30 : decode cX12_leave 30 = .ok (.iastore, 1) := by decide +kernel
theorem dX12_leave_31 : decode cX12_leave 31 = .ok (.aload_n 0, 1) := by decide +kernel
theorem dX12_leave_32 : decode cX12_leave 32 = .ok (.getfield 103, 3) := by decide +kernel
theorem dX12_leave_35 : decode cX12_leave 35 = .ok (.iconst 1, 1) := by decide +kernel
theorem dX12_leave_36 : decode cX12_leave 36 = .ok (.aload_n 0, 1) := by decide +kernel
theorem dX12_leave_37 : decode cX12_leave 37 = .ok (.getfield 57, 3) := by decide +kernel
theorem dX12_leave_40 : decode cX12_leave 40 = .ok (.iload_n 1, 1) := by decide +kernel
theorem dX12_leave_41 : decode cX12_leave 41 = .ok (.iaload, 1) := by decide +kernel
theorem dX12_leave_42 : decode cX12_leave 42 = .ok (.iastore, 1) := by decide +kernel
theorem dX12_leave_43 : decode cX12_leave 43 = .ok (.aload_n 0, 1) := by decide +kernel
theorem dX12_leave_44 : decode cX12_leave 44 = .ok (.getfield 103, 3) := by decide +kernel
theorem dX12_leave_47 : decode cX12_leave 47 = .ok (.iconst 2, 1) := by decide +kernel
theorem dX12_leave_48 : decode cX12_leave 48 = .ok (.aload_n 0, 1) := by decide +kernel
theorem dX12_leave_49 : decode cX12_leave 49 = .ok (.getfield 60, 3) := by decide +kernel
theorem dX12_leave_52 : decode cX12_leave 52 = .ok (.iload_n 1, 1) := by decide +kernel
theorem dX12_leave_53 : decode cX12_leave 53 = .ok (.iaload, 1) := by decide +kernel
theorem dX12_leave_54 : decode cX12_leave 54 = .ok (.iastore, 1) := by decide +kernel
theorem dX12_leave_55 : decode cX12_leave 55 = .ok (.aload_n 0, 1) := by decide +kernel
theorem dX12_leave_56 : decode cX12_leave 56 = .ok (.getfield 103, 3) := by decide +kernel
theorem dX12_leave_59 : decode cX12_leave 59 = .ok (.iconst 3, 1) := by decide +kernel
theorem dX12_leave_60 : decode cX12_leave 60 = .ok (.aload_n 0, 1) := by decide +kernel
theorem dX12_leave_61 : decode cX12_leave 61 = .ok (.getfield 63, 3) := by decide +kernel
theorem dX12_leave_64 : decode cX12_leave 64 = .ok (.iload_n 1, 1) := by decide +kernel
theorem dX12_leave_65 : decode cX12_leave 65 = .ok (.iaload, 1) := by decide +kernel
theorem dX12_leave_66 : decode cX12_leave 66 = .ok (.iastore, 1) := by decide +kernel
theorem dX12_leave_67 : decode cX12_leave 67 = .ok (.aload_n 0, 1) := by decide +kernel
theorem dX12_leave_68 : decode cX12_leave 68 = .ok (.getfield 103, 3) := by decide +kernel
theorem dX12_leave_71 : decode cX12_leave 71 = .ok (.iconst 4, 1) := by decide +kernel
theorem dX12_leave_72 : decode cX12_leave 72 = .ok (.aload_n 0, 1) := by decide +kernel
theorem dX12_leave_73 : decode cX12_leave 73 = .ok (.getfield 66, 3) := by decide +kernel
theorem dX12_leave_76 : decode cX12_leave 76 = .ok (.iload_n 1, 1) := by decide +kernel
theorem dX12_leave_77 : decode cX12_leave 77 = .ok (.iaload, 1) := by decide +kernel
theorem dX12_leave_78 : decode cX12_leave 78 = .ok (.iastore, 1) := by decide +kernel
theorem dX12_leave_79 : decode cX12_leave 79 = .ok (.aload_n 0, 1) := by decide +kernel
theorem dX12_leave_80 : decode cX12_leave 80 = .ok (.iload_n 1, 1) := by decide +kernel
theorem dX12_leave_81 : decode cX12_leave 81 = .ok (.invokevirtual 240, 3) := by decide +kernel
theorem dX12_leave_84 : decode cX12_leave 84 = .ok (.istore_n 2, 1) := by decide +kernel
theorem dX12_leave_85 : decode cX12_leave 85 = .ok (.aload_n 0, 1) := by decide +kernel
theorem dX12_leave_86 : decode cX12_leave 86 = .ok (.iconst 0, 1) := by decide +kernel
theorem dX12_leave_87 : decode cX12_leave 87 = .ok (.putfield 204, 3) := by decide +kernel
theorem dX12_leave_90 : decode cX12_leave 90 = .ok (.iload_n 2, 1) := by decide +kernel
theorem dX12_leave_91 : decode cX12_leave 91 = .ok (.ifCond .ge 12, 3) := by decide +kernel
theorem dX12_leave_94 : decode cX12_leave 94 = .ok (.aload_n 0, 1) := by decide +kernel
theorem dX12_leave_95 : decode cX12_leave 95 = .ok (.getfield 128, 3) := by decide +kernel
theorem dX12_leave_98 : decode cX12_leave 98 = .ok (.bipush 12, 2) := by decide +kernel
theorem dX12_leave_100 : decode cX12_leave 100 = .ok (.if_icmp .ne 22, 3) := by decide +kernel
theorem dX12_leave_103 : decode cX12_leave 103 = .ok (.aload_n 0, 1) := by decide +kernel
theorem dX12_leave_104 : decode cX12_leave 104 = .ok (.iload_n 1, 1) := by decide +kernel
theorem dX12_leave_105 : decode cX12_leave 105 = .ok (.invokevirtual 243, 3) := by decide +kernel
theorem dX12_leave_108 : decode cX12_leave 108 = .ok (.iload_n 2, 1) := by decide +kernel
theorem dX12_leave_109 : decode cX12_leave 109 = .ok (.ifCond .lt 10, 3) := by decide +kernel
theorem dX12_leave_112 : decode cX12_leave 112 = .ok (.bipush (-100), 2) := by decide +kernel
theorem dX12_leave_114 : decode cX12_leave 114 = .ok (.iload_n 2, 1) := by decide +kernel
theorem dX12_leave_115 : decode cX12_leave 115 = .ok (.isub, 1) := by decide +kernel
theorem dX12_leave_116 : decode cX12_leave 116 = .ok (.goto 5, 3) := by decide +kernel
theorem dX12_leave_119 : decode cX12_leave 119 = .ok (.ldc 150, 2) := by decide +kernel
theorem dX12_leave_121 : decode cX12_leave 121 = .ok (.ireturn, 1) := by decide +kernel
theorem dX12_leave_122 : decode cX12_leave 122 = .ok (.aload_n 0, 1) := by decide +kernel
theorem dX12_leave_123 : decode cX12_leave 123 = .ok (.getfield 69, 3) := by decide +kernel
theorem dX12_leave_126 : decode cX12_leave 126 = .ok (.iload_n 1, 1) := by decide +kernel
theorem dX12_leave_127 : decode cX12_leave 127 = .ok (.iconst 0, 1) := by decide +kernel
theorem dX12_leave_128 : decode cX12_leave 128 = .ok (.bastore, 1) := by decide +kernel
theorem dX12_leave_129 : decode cX12_leave 129 = .ok (.aload_n 0, 1) := by decide +kernel
theorem dX12_leave_130 : decode cX12_leave 130 = .ok (.dup, 1) := by decide +kernel
theorem dX12_leave_131 : decode cX12_leave 131 = .ok (.getfield 128, 3) := by decide +kernel
theorem dX12_leave_134 : decode cX12_leave 134 = .ok (.iconst 1, 1) := by decide +kernel
theorem dX12_leave_135 : decode cX12_leave 135 = .ok (.iadd, 1) := by decide +kernel
theorem dX12_leave_136 : decode cX12_leave 136 = .ok (.putfield 128, 3) := by decide +kernel
theorem dX12_leave_139 : decode cX12_leave 139 = .ok (.iload_n 1, 1) := by decide +kernel
theorem dX12_leave_140 : decode cX12_leave 140 = .ok (.ireturn, 1) := by decide +kernel

set_option maxHeartbeats 4000000 in
set_option maxRecDepth 100000 in
theorem c_X12_leave1 (l : Launch) (E : Ev) {A : Nat → Prop} (ad : Nat → Nat) (hA : Oka 30 ad A) (sc : Nat → Int32) (ar : Nat → Nat → Int32) (la : Nat → Int64) {tL nL : Nat} (hT : sc 7 = nI tL) (hT60 : tL ≤ 60) (hL : sc 8 = nI nL) (hL1 : nL < 12) (hB : ∀ i, ar 11 i &&& nI 255 = ar 11 i) : Ct l E yX12_leave (.code yX12_leave cX12_leave 3 (some .int)) ({ frames := 4, cells := 0, slots := 0, locals := 89 }) A (mw E ad sc ar la) [.ref (ad 0)] (some (.int (if 0 ≤ (rL (ar 11) tL (sc 12) (sc 13) (ar 12 nL) (ar 13 nL) (ar 14 nL) (ar 15 nL) (ar 16 nL)).1 then (-100) - (rL (ar 11) tL (sc 12) (sc 13) (ar 12 nL) (ar 13 nL) (ar 14 nL) (ar 15 nL) (ar 16 nL)).1 else nI nL))) (if 0 ≤ (rL (ar 11) tL (sc 12) (sc 13) (ar 12 nL) (ar 13 nL) (ar 14 nL) (ar 15 nL) (ar 16 nL)).1 then mw E ad (va_up (va_up (va_up (va_up (va_up (va_up sc 7 (nI 0)) 12 (rL (ar 11) tL (sc 12) (sc 13) (ar 12 nL) (ar 13 nL) (ar 14 nL) (ar 15 nL) (ar 16 nL)).2.2.2.1) 13 (rL (ar 11) tL (sc 12) (sc 13) (ar 12 nL) (ar 13 nL) (ar 14 nL) (ar 15 nL) (ar 16 nL)).2.2.2.2) 9 (nI (rL (ar 11) tL (sc 12) (sc 13) (ar 12 nL) (ar 13 nL) (ar 14 nL) (ar 15 nL) (ar 16 nL)).2.1.2.1)) 10 (nI (rL (ar 11) tL (sc 12) (sc 13) (ar 12 nL) (ar 13 nL) (ar 14 nL) (ar 15 nL) (ar 16 nL)).2.1.1)) 11 (nI ((rL (ar 11) tL (sc 12) (sc 13) (ar 12 nL) (ar 13 nL) (ar 14 nL) (ar 15 nL) (ar 16 nL)).2.1.2.1 - (rL (ar 11) tL (sc 12) (sc 13) (ar 12 nL) (ar 13 nL) (ar 14 nL) (ar 15 nL) (ar 16 nL)).2.1.1))) (va_up ar 28 (asd (ar 28) (ar 12 nL) (ar 13 nL) (ar 14 nL) (ar 15 nL) (ar 16 nL))) la else mw E ad (va_up (va_up (va_up (va_up (va_up (va_up (va_up sc 7 (nI 0)) 12 (rL (ar 11) tL (sc 12) (sc 13) (ar 12 nL) (ar 13 nL) (ar 14 nL) (ar 15 nL) (ar 16 nL)).2.2.2.1) 13 (rL (ar 11) tL (sc 12) (sc 13) (ar 12 nL) (ar 13 nL) (ar 14 nL) (ar 15 nL) (ar 16 nL)).2.2.2.2) 9 (nI (rL (ar 11) tL (sc 12) (sc 13) (ar 12 nL) (ar 13 nL) (ar 14 nL) (ar 15 nL) (ar 16 nL)).2.1.2.1)) 10 (nI (rL (ar 11) tL (sc 12) (sc 13) (ar 12 nL) (ar 13 nL) (ar 14 nL) (ar 15 nL) (ar 16 nL)).2.1.1)) 11 (nI ((rL (ar 11) tL (sc 12) (sc 13) (ar 12 nL) (ar 13 nL) (ar 14 nL) (ar 15 nL) (ar 16 nL)).2.1.2.1 - (rL (ar 11) tL (sc 12) (sc 13) (ar 12 nL) (ar 13 nL) (ar 14 nL) (ar 15 nL) (ar 16 nL)).2.1.1))) 8 (nI (nL + 1))) (va_up (va_up (va_up (va_up (va_up (va_up (va_up ar 28 (asd (ar 28) (ar 12 nL) (ar 13 nL) (ar 14 nL) (ar 15 nL) (ar 16 nL))) 12 (upd (ar 12) nL (rL (ar 11) tL (sc 12) (sc 13) (ar 12 nL) (ar 13 nL) (ar 14 nL) (ar 15 nL) (ar 16 nL)).2.2.1.1)) 13 (upd (ar 13) nL (rL (ar 11) tL (sc 12) (sc 13) (ar 12 nL) (ar 13 nL) (ar 14 nL) (ar 15 nL) (ar 16 nL)).2.2.1.2.1)) 14 (upd (ar 14) nL (rL (ar 11) tL (sc 12) (sc 13) (ar 12 nL) (ar 13 nL) (ar 14 nL) (ar 15 nL) (ar 16 nL)).2.2.1.2.2.1)) 15 (upd (ar 15) nL (rL (ar 11) tL (sc 12) (sc 13) (ar 12 nL) (ar 13 nL) (ar 14 nL) (ar 15 nL) (ar 16 nL)).2.2.1.2.2.2.1)) 16 (upd (ar 16) nL (rL (ar 11) tL (sc 12) (sc 13) (ar 12 nL) (ar 13 nL) (ar 14 nL) (ar 15 nL) (ar 16 nL)).2.2.1.2.2.2.2)) 17 (upd (ar 17) nL (vp_nar .boolean (nI 0)))) la) := by
  refine Ct.of (lv := [(0, .ref (ad 0))]) (by decide +kernel) (Nat.le_of_ble_eq_true rfl) rfl ?_
  intro zp ze zs zm za zb zh zc hc
  refine g_aload_n (pc := 0) hc 0 dX12_leave_0 rfl rfl ?_
  refine gf_m0_leaves (pc := 1) hc tw_1020 dX12_leave_1 ?_
  refine g_topi (v := nI nL) (hL) ?_
  refine g_bipush (pc := 4) (v := nI 12) hc dX12_leave_4 (by decide) ?_
  refine g_icmp_ge_f (pc := 6) hc 16 dX12_leave_6 (by decide) (nI_ge (by omega) (by decide)) ?_
  refine g_aload_n (pc := 9) hc 0 dX12_leave_9 rfl rfl ?_
  refine gf_m0_leaves (pc := 10) hc tw_1020 dX12_leave_10 ?_
  refine g_topi (v := nI nL) (hL) ?_
  refine g_goto (pc := 13) hc 18 dX12_leave_13 (by decide) ?_
  refine g_istore_n (pc := 18) (lv' := [(0, .ref (ad 0)), (1, .int (nI nL))]) hc dX12_leave_18 rfl (by decide) rfl ?_
  refine g_aload_n (pc := 19) hc 0 dX12_leave_19 rfl rfl ?_
  refine gf_m0_aside (pc := 20) hc tw_1042 dX12_leave_20 ?_
  refine g_iconst (pc := 23) (v := nI 0) hc dX12_leave_23 (by decide) ?_
  refine g_aload_n (pc := 24) hc 0 dX12_leave_24 rfl rfl ?_
  refine gf_m0_lFrom (pc := 25) hc tw_1021 dX12_leave_25 ?_
  refine g_iload_n (pc := 28) hc 1 dX12_leave_28 rfl rfl ?_
  refine la_m12 (pc := 29) hc (nL) (rfl) (by omega) dX12_leave_29 ?_
  refine sa_m28 (pc := 30) hc hA (0) (rfl) (by omega) dX12_leave_30 ?_
  refine g_aload_n (pc := 31) hc 0 dX12_leave_31 rfl rfl ?_
  refine gf_m0_aside (pc := 32) hc tw_1042 dX12_leave_32 ?_
  refine g_iconst (pc := 35) (v := nI 1) hc dX12_leave_35 (by decide) ?_
  refine g_aload_n (pc := 36) hc 0 dX12_leave_36 rfl rfl ?_
  refine gf_m0_lTo (pc := 37) hc tw_1022 dX12_leave_37 ?_
  refine g_iload_n (pc := 40) hc 1 dX12_leave_40 rfl rfl ?_
  refine la_m13 (pc := 41) hc (nL) (rfl) (by omega) dX12_leave_41 ?_
  refine g_topi (v := (ar 13) nL) rfl ?_
  refine sa_m28 (pc := 42) hc hA (1) (rfl) (by omega) dX12_leave_42 ?_
  refine g_eq (ws' := mw E ad sc (va_up ar 28 (upd (upd (ar 28) 0 ((ar 12) nL)) 1 ((ar 13) nL))) la) (lv' := [(0, .ref (ad 0)), (1, .int (nI nL))]) rfl rfl rfl ?_
  refine g_aload_n (pc := 43) hc 0 dX12_leave_43 rfl rfl ?_
  refine gf_m0_aside (pc := 44) hc tw_1042 dX12_leave_44 ?_
  refine g_iconst (pc := 47) (v := nI 2) hc dX12_leave_47 (by decide) ?_
  refine g_aload_n (pc := 48) hc 0 dX12_leave_48 rfl rfl ?_
  refine gf_m0_lFirst (pc := 49) hc tw_1023 dX12_leave_49 ?_
  refine g_iload_n (pc := 52) hc 1 dX12_leave_52 rfl rfl ?_
  refine la_m14 (pc := 53) hc (nL) (rfl) (by omega) dX12_leave_53 ?_
  refine g_topi (v := (ar 14) nL) rfl ?_
  refine sa_m28 (pc := 54) hc hA (2) (rfl) (by omega) dX12_leave_54 ?_
  refine g_eq (ws' := mw E ad sc (va_up ar 28 (upd (upd (upd (ar 28) 0 ((ar 12) nL)) 1 ((ar 13) nL)) 2 ((ar 14) nL))) la) (lv' := [(0, .ref (ad 0)), (1, .int (nI nL))]) rfl rfl rfl ?_
  refine g_aload_n (pc := 55) hc 0 dX12_leave_55 rfl rfl ?_
  refine gf_m0_aside (pc := 56) hc tw_1042 dX12_leave_56 ?_
  refine g_iconst (pc := 59) (v := nI 3) hc dX12_leave_59 (by decide) ?_
  refine g_aload_n (pc := 60) hc 0 dX12_leave_60 rfl rfl ?_
  refine gf_m0_lLast (pc := 61) hc tw_1024 dX12_leave_61 ?_
  refine g_iload_n (pc := 64) hc 1 dX12_leave_64 rfl rfl ?_
  refine la_m15 (pc := 65) hc (nL) (rfl) (by omega) dX12_leave_65 ?_
  refine g_topi (v := (ar 15) nL) rfl ?_
  refine sa_m28 (pc := 66) hc hA (3) (rfl) (by omega) dX12_leave_66 ?_
  refine g_eq (ws' := mw E ad sc (va_up ar 28 (upd (upd (upd (upd (ar 28) 0 ((ar 12) nL)) 1 ((ar 13) nL)) 2 ((ar 14) nL)) 3 ((ar 15) nL))) la) (lv' := [(0, .ref (ad 0)), (1, .int (nI nL))]) rfl rfl rfl ?_
  refine g_aload_n (pc := 67) hc 0 dX12_leave_67 rfl rfl ?_
  refine gf_m0_aside (pc := 68) hc tw_1042 dX12_leave_68 ?_
  refine g_iconst (pc := 71) (v := nI 4) hc dX12_leave_71 (by decide) ?_
  refine g_aload_n (pc := 72) hc 0 dX12_leave_72 rfl rfl ?_
  refine gf_m0_lNot (pc := 73) hc tw_1025 dX12_leave_73 ?_
  refine g_iload_n (pc := 76) hc 1 dX12_leave_76 rfl rfl ?_
  refine la_m16 (pc := 77) hc (nL) (rfl) (by omega) dX12_leave_77 ?_
  refine g_topi (v := (ar 16) nL) rfl ?_
  refine sa_m28 (pc := 78) hc hA (4) (rfl) (by omega) dX12_leave_78 ?_
  refine g_eq (ws' := mw E ad sc (va_up ar 28 (upd (upd (upd (upd (upd (ar 28) 0 ((ar 12) nL)) 1 ((ar 13) nL)) 2 ((ar 14) nL)) 3 ((ar 15) nL)) 4 ((ar 16) nL))) la) (lv' := [(0, .ref (ad 0)), (1, .int (nI nL))]) rfl rfl rfl ?_
  refine g_eq (ws' := mw E ad sc (va_up ar 28 (asd (ar 28) (ar 12 nL) (ar 13 nL) (ar 14 nL) (ar 15 nL) (ar 16 nL))) la) (lv' := [(0, .ref (ad 0)), (1, .int (nI nL))]) (rfl) rfl rfl ?_
  refine g_aload_n (pc := 79) hc 0 dX12_leave_79 rfl rfl ?_
  refine g_iload_n (pc := 80) hc 1 dX12_leave_80 rfl rfl ?_
  refine g_callVi (pc := 81) (rest := []) (As := [.int (nI nL)]) hc (c_X12_readLeave l E ad hA sc (va_up ar 28 (asd (ar 28) (ar 12 nL) (ar 13 nL) (ar 14 nL) (ar 15 nL) (ar 16 nL))) la nL (by omega) hT hT60 hB) mi_X12_readLeave tw_1320 0 rfl rfl rfl rfl ⟨rfl, rfl, by decide, by decide⟩ (Nat.le_of_ble_eq_true rfl) ⟨Nat.le_refl _, Nat.le_refl _⟩ rfl dX12_leave_81 ?_
  refine g_topi (v := (rL (ar 11) tL (sc 12) (sc 13) ((ar 12) nL) ((ar 13) nL) ((ar 14) nL) ((ar 15) nL) ((ar 16) nL)).1) rfl ?_
  refine g_eq (ws' := mw E ad (va_up (va_up (va_up (va_up (va_up sc 12 (rL (ar 11) tL (sc 12) (sc 13) ((ar 12) nL) ((ar 13) nL) ((ar 14) nL) ((ar 15) nL) ((ar 16) nL)).2.2.2.1) 13 (rL (ar 11) tL (sc 12) (sc 13) ((ar 12) nL) ((ar 13) nL) ((ar 14) nL) ((ar 15) nL) ((ar 16) nL)).2.2.2.2) 9 (nI (rL (ar 11) tL (sc 12) (sc 13) ((ar 12) nL) ((ar 13) nL) ((ar 14) nL) ((ar 15) nL) ((ar 16) nL)).2.1.2.1)) 10 (nI (rL (ar 11) tL (sc 12) (sc 13) ((ar 12) nL) ((ar 13) nL) ((ar 14) nL) ((ar 15) nL) ((ar 16) nL)).2.1.1)) 11 (nI ((rL (ar 11) tL (sc 12) (sc 13) ((ar 12) nL) ((ar 13) nL) ((ar 14) nL) ((ar 15) nL) ((ar 16) nL)).2.1.2.1 - (rL (ar 11) tL (sc 12) (sc 13) ((ar 12) nL) ((ar 13) nL) ((ar 14) nL) ((ar 15) nL) ((ar 16) nL)).2.1.1))) (va_up (va_up (va_up (va_up (va_up (va_up ar 28 (asd (ar 28) (ar 12 nL) (ar 13 nL) (ar 14 nL) (ar 15 nL) (ar 16 nL))) 12 (upd (ar 12) nL (rL (ar 11) tL (sc 12) (sc 13) ((ar 12) nL) ((ar 13) nL) ((ar 14) nL) ((ar 15) nL) ((ar 16) nL)).2.2.1.1)) 13 (upd (ar 13) nL (rL (ar 11) tL (sc 12) (sc 13) ((ar 12) nL) ((ar 13) nL) ((ar 14) nL) ((ar 15) nL) ((ar 16) nL)).2.2.1.2.1)) 14 (upd (ar 14) nL (rL (ar 11) tL (sc 12) (sc 13) ((ar 12) nL) ((ar 13) nL) ((ar 14) nL) ((ar 15) nL) ((ar 16) nL)).2.2.1.2.2.1)) 15 (upd (ar 15) nL (rL (ar 11) tL (sc 12) (sc 13) ((ar 12) nL) ((ar 13) nL) ((ar 14) nL) ((ar 15) nL) ((ar 16) nL)).2.2.1.2.2.2.1)) 16 (upd (ar 16) nL (rL (ar 11) tL (sc 12) (sc 13) ((ar 12) nL) ((ar 13) nL) ((ar 14) nL) ((ar 15) nL) ((ar 16) nL)).2.2.1.2.2.2.2)) la) (lv' := [(0, .ref (ad 0)), (1, .int (nI nL))]) (by simp [mw, va_up]) rfl rfl ?_
  obtain ⟨R, eR⟩ : ∃ z, z = (rL (ar 11) tL (sc 12) (sc 13) (ar 12 nL) (ar 13 nL) (ar 14 nL) (ar 15 nL) (ar 16 nL)) := ⟨_, rfl⟩
  refine g_topi (v := R.1) (by rw [eR]) ?_
  refine g_eq (ws' := mw E ad (va_up (va_up (va_up (va_up (va_up sc 12 R.2.2.2.1) 13 R.2.2.2.2) 9 (nI R.2.1.2.1)) 10 (nI R.2.1.1)) 11 (nI (R.2.1.2.1 - R.2.1.1))) (va_up (va_up (va_up (va_up (va_up (va_up ar 28 (asd (ar 28) (ar 12 nL) (ar 13 nL) (ar 14 nL) (ar 15 nL) (ar 16 nL))) 12 (upd (ar 12) nL R.2.2.1.1)) 13 (upd (ar 13) nL R.2.2.1.2.1)) 14 (upd (ar 14) nL R.2.2.1.2.2.1)) 15 (upd (ar 15) nL R.2.2.1.2.2.2.1)) 16 (upd (ar 16) nL R.2.2.1.2.2.2.2)) la) (lv' := [(0, .ref (ad 0)), (1, .int (nI nL))]) (by rw [eR]) rfl rfl ?_
  refine g_istore_n (pc := 84) (lv' := [(0, .ref (ad 0)), (1, .int (nI nL)), (2, .int R.1)]) hc dX12_leave_84 rfl (by decide) rfl ?_
  refine g_aload_n (pc := 85) hc 0 dX12_leave_85 rfl rfl ?_
  refine g_iconst (pc := 86) (v := nI 0) hc dX12_leave_86 (by decide) ?_
  refine pf_m0_taped (pc := 87) hc hA tw_1019 dX12_leave_87 ?_
  refine g_iload_n (pc := 90) hc 2 dX12_leave_90 rfl rfl ?_
  refine g_if_ge (pc := 91) hc 103 dX12_leave_91 (by decide) (fun c1 => ?_) (fun c1 => ?_)
  · refine g_aload_n (pc := 103) hc 0 dX12_leave_103 rfl rfl ?_
    refine g_iload_n (pc := 104) hc 1 dX12_leave_104 rfl rfl ?_
    refine g_callVv (pc := 105) (rest := []) (As := [.int (nI nL)]) hc (c_X12_put l E ad hA (va_up (va_up (va_up (va_up (va_up (va_up sc 12 R.2.2.2.1) 13 R.2.2.2.2) 9 (nI R.2.1.2.1)) 10 (nI R.2.1.1)) 11 (nI (R.2.1.2.1 - R.2.1.1))) 7 (nI 0)) (va_up (va_up (va_up (va_up (va_up (va_up ar 28 (asd (ar 28) (ar 12 nL) (ar 13 nL) (ar 14 nL) (ar 15 nL) (ar 16 nL))) 12 (upd (ar 12) nL R.2.2.1.1)) 13 (upd (ar 13) nL R.2.2.1.2.1)) 14 (upd (ar 14) nL R.2.2.1.2.2.1)) 15 (upd (ar 15) nL R.2.2.1.2.2.2.1)) 16 (upd (ar 16) nL R.2.2.1.2.2.2.2)) la nL (by omega)) mi_X12_put tw_1344 0 rfl rfl rfl rfl ⟨rfl, rfl, by decide, by decide⟩ (Nat.le_of_ble_eq_true rfl) ⟨Nat.le_refl _, Nat.le_refl _⟩ rfl dX12_leave_105 ?_
    refine g_eq (ws' := mw E ad (va_up (va_up (va_up (va_up (va_up (va_up sc 12 R.2.2.2.1) 13 R.2.2.2.2) 9 (nI R.2.1.2.1)) 10 (nI R.2.1.1)) 11 (nI (R.2.1.2.1 - R.2.1.1))) 7 (nI 0)) (va_up (va_up (va_up (va_up (va_up (va_up ar 28 (asd (ar 28) (ar 12 nL) (ar 13 nL) (ar 14 nL) (ar 15 nL) (ar 16 nL))) 12 (upd (upd (ar 12) nL R.2.2.1.1) nL ((asd (ar 28) (ar 12 nL) (ar 13 nL) (ar 14 nL) (ar 15 nL) (ar 16 nL)) 0))) 13 (upd (upd (ar 13) nL R.2.2.1.2.1) nL ((asd (ar 28) (ar 12 nL) (ar 13 nL) (ar 14 nL) (ar 15 nL) (ar 16 nL)) 1))) 14 (upd (upd (ar 14) nL R.2.2.1.2.2.1) nL ((asd (ar 28) (ar 12 nL) (ar 13 nL) (ar 14 nL) (ar 15 nL) (ar 16 nL)) 2))) 15 (upd (upd (ar 15) nL R.2.2.1.2.2.2.1) nL ((asd (ar 28) (ar 12 nL) (ar 13 nL) (ar 14 nL) (ar 15 nL) (ar 16 nL)) 3))) 16 (upd (upd (ar 16) nL R.2.2.1.2.2.2.2) nL ((asd (ar 28) (ar 12 nL) (ar 13 nL) (ar 14 nL) (ar 15 nL) (ar 16 nL)) 4))) la) (lv' := [(0, .ref (ad 0)), (1, .int (nI nL)), (2, .int R.1)]) (by simp [mw, va_up]) rfl rfl ?_
    refine g_iload_n (pc := 108) hc 2 dX12_leave_108 rfl rfl ?_
    refine g_if_lt_f (pc := 109) hc 119 dX12_leave_109 (by decide) (Int32.not_lt.mpr c1) ?_
    refine g_bipush (pc := 112) (v := (-100)) hc dX12_leave_112 (by decide) ?_
    refine g_iload_n (pc := 114) hc 2 dX12_leave_114 rfl rfl ?_
    refine g_isub (pc := 115) hc dX12_leave_115 ?_
    refine g_goto (pc := 116) hc 121 dX12_leave_116 (by decide) ?_
    exact g_iret (pc := 121) hc dX12_leave_121 (by rw [← eR]; (repeat (first | rw [if_pos c1] | rw [if_neg c1] | rw [if_neg (ne_true_of_eq_false c1)]))) (by rw [← eR]; (repeat (first | rw [if_pos c1] | rw [if_neg c1] | rw [if_neg (ne_true_of_eq_false c1)])); simp only [upd2, (asd_0 _ _ _ _ _ _).1, (asd_0 _ _ _ _ _ _).2.1, (asd_0 _ _ _ _ _ _).2.2.1, (asd_0 _ _ _ _ _ _).2.2.2.1, (asd_0 _ _ _ _ _ _).2.2.2.2, upd_self]; try simp [mw, va_up])
  · refine g_aload_n (pc := 94) hc 0 dX12_leave_94 rfl rfl ?_
    refine gf_m0_leaves (pc := 95) hc tw_1020 dX12_leave_95 ?_
    refine g_topi (v := sc 8) rfl ?_
    refine g_topi (v := nI nL) (hL) ?_
    refine g_bipush (pc := 98) (v := nI 12) hc dX12_leave_98 (by decide) ?_
    refine g_icmp_ne_t (pc := 100) hc 122 dX12_leave_100 (by decide) (fun z => absurd ((nI_eq (by omega) (by decide)).mp z) (by omega)) ?_
    refine g_aload_n (pc := 122) hc 0 dX12_leave_122 rfl rfl ?_
    refine gf_m0_isBack (pc := 123) hc tw_1026 dX12_leave_123 ?_
    refine g_iload_n (pc := 126) hc 1 dX12_leave_126 rfl rfl ?_
    refine g_iconst (pc := 127) (v := nI 0) hc dX12_leave_127 (by decide) ?_
    refine sa_m17 (pc := 128) hc hA (nL) (rfl) (by omega) dX12_leave_128 ?_
    refine g_eq (ws' := mw E ad (va_up (va_up (va_up (va_up (va_up (va_up sc 12 R.2.2.2.1) 13 R.2.2.2.2) 9 (nI R.2.1.2.1)) 10 (nI R.2.1.1)) 11 (nI (R.2.1.2.1 - R.2.1.1))) 7 (nI 0)) (va_up (va_up (va_up (va_up (va_up (va_up (va_up ar 28 (asd (ar 28) (ar 12 nL) (ar 13 nL) (ar 14 nL) (ar 15 nL) (ar 16 nL))) 12 (upd (ar 12) nL R.2.2.1.1)) 13 (upd (ar 13) nL R.2.2.1.2.1)) 14 (upd (ar 14) nL R.2.2.1.2.2.1)) 15 (upd (ar 15) nL R.2.2.1.2.2.2.1)) 16 (upd (ar 16) nL R.2.2.1.2.2.2.2)) 17 (upd (ar 17) nL (vp_nar .boolean (nI 0)))) la) (lv' := [(0, .ref (ad 0)), (1, .int (nI nL)), (2, .int R.1)]) rfl rfl rfl ?_
    refine g_aload_n (pc := 129) hc 0 dX12_leave_129 rfl rfl ?_
    refine g_dup (pc := 130) hc dX12_leave_130 rfl ?_
    refine gf_m0_leaves (pc := 131) hc tw_1020 dX12_leave_131 ?_
    refine g_topi (v := sc 8) rfl ?_
    refine g_topi (v := nI nL) (hL) ?_
    refine g_iconst (pc := 134) (v := nI 1) hc dX12_leave_134 (by decide) ?_
    refine g_iadd (pc := 135) hc dX12_leave_135 ?_
    refine g_topi (v := nI (nL + 1)) (nI_add nL 1) ?_
    refine pf_m0_leaves (pc := 136) hc hA tw_1020 dX12_leave_136 ?_
    refine g_iload_n (pc := 139) hc 1 dX12_leave_139 rfl rfl ?_
    exact g_iret (pc := 140) hc dX12_leave_140 (by rw [← eR]; (repeat (first | rw [if_pos c1] | rw [if_neg c1] | rw [if_neg (ne_true_of_eq_false c1)]))) (by rw [← eR]; (repeat (first | rw [if_pos c1] | rw [if_neg c1] | rw [if_neg (ne_true_of_eq_false c1)])); try rfl)

set_option maxHeartbeats 4000000 in
set_option maxRecDepth 100000 in
theorem c_X12_leave0 (l : Launch) (E : Ev) {A : Nat → Prop} (ad : Nat → Nat) (hA : Oka 30 ad A) (sc : Nat → Int32) (ar : Nat → Nat → Int32) (la : Nat → Int64) {tL nL : Nat} (hT : sc 7 = nI tL) (hT60 : tL ≤ 60) (hL : sc 8 = nI nL) (hL1 : nL = 12) (hB : ∀ i, ar 11 i &&& nI 255 = ar 11 i) : Ct l E yX12_leave (.code yX12_leave cX12_leave 3 (some .int)) ({ frames := 4, cells := 0, slots := 0, locals := 89 }) A (mw E ad sc ar la) [.ref (ad 0)] (some (.int (if 0 ≤ (rL (ar 11) tL (sc 12) (sc 13) (ar 12 11) (ar 13 11) (ar 14 11) (ar 15 11) (ar 16 11)).1 then (-100) - (rL (ar 11) tL (sc 12) (sc 13) (ar 12 11) (ar 13 11) (ar 14 11) (ar 15 11) (ar 16 11)).1 else (-1000000003)))) (mw E ad (va_up (va_up (va_up (va_up (va_up (va_up sc 7 (nI 0)) 12 (rL (ar 11) tL (sc 12) (sc 13) (ar 12 11) (ar 13 11) (ar 14 11) (ar 15 11) (ar 16 11)).2.2.2.1) 13 (rL (ar 11) tL (sc 12) (sc 13) (ar 12 11) (ar 13 11) (ar 14 11) (ar 15 11) (ar 16 11)).2.2.2.2) 9 (nI (rL (ar 11) tL (sc 12) (sc 13) (ar 12 11) (ar 13 11) (ar 14 11) (ar 15 11) (ar 16 11)).2.1.2.1)) 10 (nI (rL (ar 11) tL (sc 12) (sc 13) (ar 12 11) (ar 13 11) (ar 14 11) (ar 15 11) (ar 16 11)).2.1.1)) 11 (nI ((rL (ar 11) tL (sc 12) (sc 13) (ar 12 11) (ar 13 11) (ar 14 11) (ar 15 11) (ar 16 11)).2.1.2.1 - (rL (ar 11) tL (sc 12) (sc 13) (ar 12 11) (ar 13 11) (ar 14 11) (ar 15 11) (ar 16 11)).2.1.1))) (va_up ar 28 (asd (ar 28) (ar 12 11) (ar 13 11) (ar 14 11) (ar 15 11) (ar 16 11))) la) := by
  refine Ct.of (lv := [(0, .ref (ad 0))]) (by decide +kernel) (Nat.le_of_ble_eq_true rfl) rfl ?_
  intro zp ze zs zm za zb zh zc hc
  refine g_aload_n (pc := 0) hc 0 dX12_leave_0 rfl rfl ?_
  refine gf_m0_leaves (pc := 1) hc tw_1020 dX12_leave_1 ?_
  refine g_topi (v := nI nL) (hL) ?_
  refine g_bipush (pc := 4) (v := nI 12) hc dX12_leave_4 (by decide) ?_
  refine g_icmp_ge_t (pc := 6) hc 16 dX12_leave_6 (by decide) (by rw [hL1]; decide) ?_
  refine g_bipush (pc := 16) (v := nI 11) hc dX12_leave_16 (by decide) ?_
  refine g_istore_n (pc := 18) (lv' := [(0, .ref (ad 0)), (1, .int (nI 11))]) hc dX12_leave_18 rfl (by decide) rfl ?_
  refine g_aload_n (pc := 19) hc 0 dX12_leave_19 rfl rfl ?_
  refine gf_m0_aside (pc := 20) hc tw_1042 dX12_leave_20 ?_
  refine g_iconst (pc := 23) (v := nI 0) hc dX12_leave_23 (by decide) ?_
  refine g_aload_n (pc := 24) hc 0 dX12_leave_24 rfl rfl ?_
  refine gf_m0_lFrom (pc := 25) hc tw_1021 dX12_leave_25 ?_
  refine g_iload_n (pc := 28) hc 1 dX12_leave_28 rfl rfl ?_
  refine la_m12 (pc := 29) hc (11) (rfl) (by omega) dX12_leave_29 ?_
  refine sa_m28 (pc := 30) hc hA (0) (rfl) (by omega) dX12_leave_30 ?_
  refine g_aload_n (pc := 31) hc 0 dX12_leave_31 rfl rfl ?_
  refine gf_m0_aside (pc := 32) hc tw_1042 dX12_leave_32 ?_
  refine g_iconst (pc := 35) (v := nI 1) hc dX12_leave_35 (by decide) ?_
  refine g_aload_n (pc := 36) hc 0 dX12_leave_36 rfl rfl ?_
  refine gf_m0_lTo (pc := 37) hc tw_1022 dX12_leave_37 ?_
  refine g_iload_n (pc := 40) hc 1 dX12_leave_40 rfl rfl ?_
  refine la_m13 (pc := 41) hc (11) (rfl) (by omega) dX12_leave_41 ?_
  refine g_topi (v := (ar 13) 11) rfl ?_
  refine sa_m28 (pc := 42) hc hA (1) (rfl) (by omega) dX12_leave_42 ?_
  refine g_eq (ws' := mw E ad sc (va_up ar 28 (upd (upd (ar 28) 0 ((ar 12) 11)) 1 ((ar 13) 11))) la) (lv' := [(0, .ref (ad 0)), (1, .int (nI 11))]) rfl rfl rfl ?_
  refine g_aload_n (pc := 43) hc 0 dX12_leave_43 rfl rfl ?_
  refine gf_m0_aside (pc := 44) hc tw_1042 dX12_leave_44 ?_
  refine g_iconst (pc := 47) (v := nI 2) hc dX12_leave_47 (by decide) ?_
  refine g_aload_n (pc := 48) hc 0 dX12_leave_48 rfl rfl ?_
  refine gf_m0_lFirst (pc := 49) hc tw_1023 dX12_leave_49 ?_
  refine g_iload_n (pc := 52) hc 1 dX12_leave_52 rfl rfl ?_
  refine la_m14 (pc := 53) hc (11) (rfl) (by omega) dX12_leave_53 ?_
  refine g_topi (v := (ar 14) 11) rfl ?_
  refine sa_m28 (pc := 54) hc hA (2) (rfl) (by omega) dX12_leave_54 ?_
  refine g_eq (ws' := mw E ad sc (va_up ar 28 (upd (upd (upd (ar 28) 0 ((ar 12) 11)) 1 ((ar 13) 11)) 2 ((ar 14) 11))) la) (lv' := [(0, .ref (ad 0)), (1, .int (nI 11))]) rfl rfl rfl ?_
  refine g_aload_n (pc := 55) hc 0 dX12_leave_55 rfl rfl ?_
  refine gf_m0_aside (pc := 56) hc tw_1042 dX12_leave_56 ?_
  refine g_iconst (pc := 59) (v := nI 3) hc dX12_leave_59 (by decide) ?_
  refine g_aload_n (pc := 60) hc 0 dX12_leave_60 rfl rfl ?_
  refine gf_m0_lLast (pc := 61) hc tw_1024 dX12_leave_61 ?_
  refine g_iload_n (pc := 64) hc 1 dX12_leave_64 rfl rfl ?_
  refine la_m15 (pc := 65) hc (11) (rfl) (by omega) dX12_leave_65 ?_
  refine g_topi (v := (ar 15) 11) rfl ?_
  refine sa_m28 (pc := 66) hc hA (3) (rfl) (by omega) dX12_leave_66 ?_
  refine g_eq (ws' := mw E ad sc (va_up ar 28 (upd (upd (upd (upd (ar 28) 0 ((ar 12) 11)) 1 ((ar 13) 11)) 2 ((ar 14) 11)) 3 ((ar 15) 11))) la) (lv' := [(0, .ref (ad 0)), (1, .int (nI 11))]) rfl rfl rfl ?_
  refine g_aload_n (pc := 67) hc 0 dX12_leave_67 rfl rfl ?_
  refine gf_m0_aside (pc := 68) hc tw_1042 dX12_leave_68 ?_
  refine g_iconst (pc := 71) (v := nI 4) hc dX12_leave_71 (by decide) ?_
  refine g_aload_n (pc := 72) hc 0 dX12_leave_72 rfl rfl ?_
  refine gf_m0_lNot (pc := 73) hc tw_1025 dX12_leave_73 ?_
  refine g_iload_n (pc := 76) hc 1 dX12_leave_76 rfl rfl ?_
  refine la_m16 (pc := 77) hc (11) (rfl) (by omega) dX12_leave_77 ?_
  refine g_topi (v := (ar 16) 11) rfl ?_
  refine sa_m28 (pc := 78) hc hA (4) (rfl) (by omega) dX12_leave_78 ?_
  refine g_eq (ws' := mw E ad sc (va_up ar 28 (upd (upd (upd (upd (upd (ar 28) 0 ((ar 12) 11)) 1 ((ar 13) 11)) 2 ((ar 14) 11)) 3 ((ar 15) 11)) 4 ((ar 16) 11))) la) (lv' := [(0, .ref (ad 0)), (1, .int (nI 11))]) rfl rfl rfl ?_
  refine g_eq (ws' := mw E ad sc (va_up ar 28 (asd (ar 28) (ar 12 11) (ar 13 11) (ar 14 11) (ar 15 11) (ar 16 11))) la) (lv' := [(0, .ref (ad 0)), (1, .int (nI 11))]) (rfl) rfl rfl ?_
  refine g_aload_n (pc := 79) hc 0 dX12_leave_79 rfl rfl ?_
  refine g_iload_n (pc := 80) hc 1 dX12_leave_80 rfl rfl ?_
  refine g_callVi (pc := 81) (rest := []) (As := [.int (nI 11)]) hc (c_X12_readLeave l E ad hA sc (va_up ar 28 (asd (ar 28) (ar 12 11) (ar 13 11) (ar 14 11) (ar 15 11) (ar 16 11))) la 11 (by omega) hT hT60 hB) mi_X12_readLeave tw_1320 0 rfl rfl rfl rfl ⟨rfl, rfl, by decide, by decide⟩ (Nat.le_of_ble_eq_true rfl) ⟨Nat.le_refl _, Nat.le_refl _⟩ rfl dX12_leave_81 ?_
  refine g_topi (v := (rL (ar 11) tL (sc 12) (sc 13) ((ar 12) 11) ((ar 13) 11) ((ar 14) 11) ((ar 15) 11) ((ar 16) 11)).1) rfl ?_
  refine g_eq (ws' := mw E ad (va_up (va_up (va_up (va_up (va_up sc 12 (rL (ar 11) tL (sc 12) (sc 13) ((ar 12) 11) ((ar 13) 11) ((ar 14) 11) ((ar 15) 11) ((ar 16) 11)).2.2.2.1) 13 (rL (ar 11) tL (sc 12) (sc 13) ((ar 12) 11) ((ar 13) 11) ((ar 14) 11) ((ar 15) 11) ((ar 16) 11)).2.2.2.2) 9 (nI (rL (ar 11) tL (sc 12) (sc 13) ((ar 12) 11) ((ar 13) 11) ((ar 14) 11) ((ar 15) 11) ((ar 16) 11)).2.1.2.1)) 10 (nI (rL (ar 11) tL (sc 12) (sc 13) ((ar 12) 11) ((ar 13) 11) ((ar 14) 11) ((ar 15) 11) ((ar 16) 11)).2.1.1)) 11 (nI ((rL (ar 11) tL (sc 12) (sc 13) ((ar 12) 11) ((ar 13) 11) ((ar 14) 11) ((ar 15) 11) ((ar 16) 11)).2.1.2.1 - (rL (ar 11) tL (sc 12) (sc 13) ((ar 12) 11) ((ar 13) 11) ((ar 14) 11) ((ar 15) 11) ((ar 16) 11)).2.1.1))) (va_up (va_up (va_up (va_up (va_up (va_up ar 28 (asd (ar 28) (ar 12 11) (ar 13 11) (ar 14 11) (ar 15 11) (ar 16 11))) 12 (upd (ar 12) 11 (rL (ar 11) tL (sc 12) (sc 13) ((ar 12) 11) ((ar 13) 11) ((ar 14) 11) ((ar 15) 11) ((ar 16) 11)).2.2.1.1)) 13 (upd (ar 13) 11 (rL (ar 11) tL (sc 12) (sc 13) ((ar 12) 11) ((ar 13) 11) ((ar 14) 11) ((ar 15) 11) ((ar 16) 11)).2.2.1.2.1)) 14 (upd (ar 14) 11 (rL (ar 11) tL (sc 12) (sc 13) ((ar 12) 11) ((ar 13) 11) ((ar 14) 11) ((ar 15) 11) ((ar 16) 11)).2.2.1.2.2.1)) 15 (upd (ar 15) 11 (rL (ar 11) tL (sc 12) (sc 13) ((ar 12) 11) ((ar 13) 11) ((ar 14) 11) ((ar 15) 11) ((ar 16) 11)).2.2.1.2.2.2.1)) 16 (upd (ar 16) 11 (rL (ar 11) tL (sc 12) (sc 13) ((ar 12) 11) ((ar 13) 11) ((ar 14) 11) ((ar 15) 11) ((ar 16) 11)).2.2.1.2.2.2.2)) la) (lv' := [(0, .ref (ad 0)), (1, .int (nI 11))]) (by simp [mw, va_up]) rfl rfl ?_
  obtain ⟨R, eR⟩ : ∃ z, z = (rL (ar 11) tL (sc 12) (sc 13) (ar 12 11) (ar 13 11) (ar 14 11) (ar 15 11) (ar 16 11)) := ⟨_, rfl⟩
  refine g_topi (v := R.1) (by rw [eR]) ?_
  refine g_eq (ws' := mw E ad (va_up (va_up (va_up (va_up (va_up sc 12 R.2.2.2.1) 13 R.2.2.2.2) 9 (nI R.2.1.2.1)) 10 (nI R.2.1.1)) 11 (nI (R.2.1.2.1 - R.2.1.1))) (va_up (va_up (va_up (va_up (va_up (va_up ar 28 (asd (ar 28) (ar 12 11) (ar 13 11) (ar 14 11) (ar 15 11) (ar 16 11))) 12 (upd (ar 12) 11 R.2.2.1.1)) 13 (upd (ar 13) 11 R.2.2.1.2.1)) 14 (upd (ar 14) 11 R.2.2.1.2.2.1)) 15 (upd (ar 15) 11 R.2.2.1.2.2.2.1)) 16 (upd (ar 16) 11 R.2.2.1.2.2.2.2)) la) (lv' := [(0, .ref (ad 0)), (1, .int (nI 11))]) (by rw [eR]) rfl rfl ?_
  refine g_istore_n (pc := 84) (lv' := [(0, .ref (ad 0)), (1, .int (nI 11)), (2, .int R.1)]) hc dX12_leave_84 rfl (by decide) rfl ?_
  refine g_aload_n (pc := 85) hc 0 dX12_leave_85 rfl rfl ?_
  refine g_iconst (pc := 86) (v := nI 0) hc dX12_leave_86 (by decide) ?_
  refine pf_m0_taped (pc := 87) hc hA tw_1019 dX12_leave_87 ?_
  refine g_iload_n (pc := 90) hc 2 dX12_leave_90 rfl rfl ?_
  refine g_if_ge (pc := 91) hc 103 dX12_leave_91 (by decide) (fun c1 => ?_) (fun c1 => ?_)
  · refine g_aload_n (pc := 103) hc 0 dX12_leave_103 rfl rfl ?_
    refine g_iload_n (pc := 104) hc 1 dX12_leave_104 rfl rfl ?_
    refine g_callVv (pc := 105) (rest := []) (As := [.int (nI 11)]) hc (c_X12_put l E ad hA (va_up (va_up (va_up (va_up (va_up (va_up sc 12 R.2.2.2.1) 13 R.2.2.2.2) 9 (nI R.2.1.2.1)) 10 (nI R.2.1.1)) 11 (nI (R.2.1.2.1 - R.2.1.1))) 7 (nI 0)) (va_up (va_up (va_up (va_up (va_up (va_up ar 28 (asd (ar 28) (ar 12 11) (ar 13 11) (ar 14 11) (ar 15 11) (ar 16 11))) 12 (upd (ar 12) 11 R.2.2.1.1)) 13 (upd (ar 13) 11 R.2.2.1.2.1)) 14 (upd (ar 14) 11 R.2.2.1.2.2.1)) 15 (upd (ar 15) 11 R.2.2.1.2.2.2.1)) 16 (upd (ar 16) 11 R.2.2.1.2.2.2.2)) la 11 (by omega)) mi_X12_put tw_1344 0 rfl rfl rfl rfl ⟨rfl, rfl, by decide, by decide⟩ (Nat.le_of_ble_eq_true rfl) ⟨Nat.le_refl _, Nat.le_refl _⟩ rfl dX12_leave_105 ?_
    refine g_eq (ws' := mw E ad (va_up (va_up (va_up (va_up (va_up (va_up sc 12 R.2.2.2.1) 13 R.2.2.2.2) 9 (nI R.2.1.2.1)) 10 (nI R.2.1.1)) 11 (nI (R.2.1.2.1 - R.2.1.1))) 7 (nI 0)) (va_up (va_up (va_up (va_up (va_up (va_up ar 28 (asd (ar 28) (ar 12 11) (ar 13 11) (ar 14 11) (ar 15 11) (ar 16 11))) 12 (upd (upd (ar 12) 11 R.2.2.1.1) 11 ((asd (ar 28) (ar 12 11) (ar 13 11) (ar 14 11) (ar 15 11) (ar 16 11)) 0))) 13 (upd (upd (ar 13) 11 R.2.2.1.2.1) 11 ((asd (ar 28) (ar 12 11) (ar 13 11) (ar 14 11) (ar 15 11) (ar 16 11)) 1))) 14 (upd (upd (ar 14) 11 R.2.2.1.2.2.1) 11 ((asd (ar 28) (ar 12 11) (ar 13 11) (ar 14 11) (ar 15 11) (ar 16 11)) 2))) 15 (upd (upd (ar 15) 11 R.2.2.1.2.2.2.1) 11 ((asd (ar 28) (ar 12 11) (ar 13 11) (ar 14 11) (ar 15 11) (ar 16 11)) 3))) 16 (upd (upd (ar 16) 11 R.2.2.1.2.2.2.2) 11 ((asd (ar 28) (ar 12 11) (ar 13 11) (ar 14 11) (ar 15 11) (ar 16 11)) 4))) la) (lv' := [(0, .ref (ad 0)), (1, .int (nI 11)), (2, .int R.1)]) (by simp [mw, va_up]) rfl rfl ?_
    refine g_iload_n (pc := 108) hc 2 dX12_leave_108 rfl rfl ?_
    refine g_if_lt_f (pc := 109) hc 119 dX12_leave_109 (by decide) (Int32.not_lt.mpr c1) ?_
    refine g_bipush (pc := 112) (v := (-100)) hc dX12_leave_112 (by decide) ?_
    refine g_iload_n (pc := 114) hc 2 dX12_leave_114 rfl rfl ?_
    refine g_isub (pc := 115) hc dX12_leave_115 ?_
    refine g_goto (pc := 116) hc 121 dX12_leave_116 (by decide) ?_
    exact g_iret (pc := 121) hc dX12_leave_121 (by rw [← eR]; (repeat (first | rw [if_pos c1] | rw [if_neg c1] | rw [if_neg (ne_true_of_eq_false c1)]))) (by rw [← eR]; (repeat (first | rw [if_pos c1] | rw [if_neg c1] | rw [if_neg (ne_true_of_eq_false c1)])); simp only [upd2, (asd_0 _ _ _ _ _ _).1, (asd_0 _ _ _ _ _ _).2.1, (asd_0 _ _ _ _ _ _).2.2.1, (asd_0 _ _ _ _ _ _).2.2.2.1, (asd_0 _ _ _ _ _ _).2.2.2.2, upd_self]; try simp [mw, va_up])
  · refine g_aload_n (pc := 94) hc 0 dX12_leave_94 rfl rfl ?_
    refine gf_m0_leaves (pc := 95) hc tw_1020 dX12_leave_95 ?_
    refine g_topi (v := sc 8) rfl ?_
    refine g_topi (v := nI nL) (hL) ?_
    refine g_bipush (pc := 98) (v := nI 12) hc dX12_leave_98 (by decide) ?_
    refine g_icmp_ne_f (pc := 100) hc 122 dX12_leave_100 (by decide) (by rw [hL1]) ?_
    refine g_aload_n (pc := 103) hc 0 dX12_leave_103 rfl rfl ?_
    refine g_iload_n (pc := 104) hc 1 dX12_leave_104 rfl rfl ?_
    refine g_callVv (pc := 105) (rest := []) (As := [.int (nI 11)]) hc (c_X12_put l E ad hA (va_up (va_up (va_up (va_up (va_up (va_up sc 12 R.2.2.2.1) 13 R.2.2.2.2) 9 (nI R.2.1.2.1)) 10 (nI R.2.1.1)) 11 (nI (R.2.1.2.1 - R.2.1.1))) 7 (nI 0)) (va_up (va_up (va_up (va_up (va_up (va_up ar 28 (asd (ar 28) (ar 12 11) (ar 13 11) (ar 14 11) (ar 15 11) (ar 16 11))) 12 (upd (ar 12) 11 R.2.2.1.1)) 13 (upd (ar 13) 11 R.2.2.1.2.1)) 14 (upd (ar 14) 11 R.2.2.1.2.2.1)) 15 (upd (ar 15) 11 R.2.2.1.2.2.2.1)) 16 (upd (ar 16) 11 R.2.2.1.2.2.2.2)) la 11 (by omega)) mi_X12_put tw_1344 0 rfl rfl rfl rfl ⟨rfl, rfl, by decide, by decide⟩ (Nat.le_of_ble_eq_true rfl) ⟨Nat.le_refl _, Nat.le_refl _⟩ rfl dX12_leave_105 ?_
    refine g_eq (ws' := mw E ad (va_up (va_up (va_up (va_up (va_up (va_up sc 12 R.2.2.2.1) 13 R.2.2.2.2) 9 (nI R.2.1.2.1)) 10 (nI R.2.1.1)) 11 (nI (R.2.1.2.1 - R.2.1.1))) 7 (nI 0)) (va_up (va_up (va_up (va_up (va_up (va_up ar 28 (asd (ar 28) (ar 12 11) (ar 13 11) (ar 14 11) (ar 15 11) (ar 16 11))) 12 (upd (upd (ar 12) 11 R.2.2.1.1) 11 ((asd (ar 28) (ar 12 11) (ar 13 11) (ar 14 11) (ar 15 11) (ar 16 11)) 0))) 13 (upd (upd (ar 13) 11 R.2.2.1.2.1) 11 ((asd (ar 28) (ar 12 11) (ar 13 11) (ar 14 11) (ar 15 11) (ar 16 11)) 1))) 14 (upd (upd (ar 14) 11 R.2.2.1.2.2.1) 11 ((asd (ar 28) (ar 12 11) (ar 13 11) (ar 14 11) (ar 15 11) (ar 16 11)) 2))) 15 (upd (upd (ar 15) 11 R.2.2.1.2.2.2.1) 11 ((asd (ar 28) (ar 12 11) (ar 13 11) (ar 14 11) (ar 15 11) (ar 16 11)) 3))) 16 (upd (upd (ar 16) 11 R.2.2.1.2.2.2.2) 11 ((asd (ar 28) (ar 12 11) (ar 13 11) (ar 14 11) (ar 15 11) (ar 16 11)) 4))) la) (lv' := [(0, .ref (ad 0)), (1, .int (nI 11)), (2, .int R.1)]) (by simp [mw, va_up]) rfl rfl ?_
    refine g_iload_n (pc := 108) hc 2 dX12_leave_108 rfl rfl ?_
    refine g_if_lt_t (pc := 109) hc 119 dX12_leave_109 (by decide) (Int32.not_le.mp c1) ?_
    refine g_ldc (pc := 119) (v := (-1000000003)) hc tw_1176 dX12_leave_119 ?_
    exact g_iret (pc := 121) hc dX12_leave_121 (by rw [← eR]; (repeat (first | rw [if_pos c1] | rw [if_neg c1] | rw [if_neg (ne_true_of_eq_false c1)]))) (by rw [← eR]; (repeat (first | rw [if_pos c1] | rw [if_neg c1] | rw [if_neg (ne_true_of_eq_false c1)])); simp only [upd2, (asd_0 _ _ _ _ _ _).1, (asd_0 _ _ _ _ _ _).2.1, (asd_0 _ _ _ _ _ _).2.2.1, (asd_0 _ _ _ _ _ _).2.2.2.1, (asd_0 _ _ _ _ _ _).2.2.2.2, upd_self]; try simp [mw, va_up])
