theorem dX12_sheet_0 : decode cX12_sheet 0 = .ok (.iload_n 1, 1) := by decide +kernel
theorem dX12_sheet_1 : decode cX12_sheet 1 = .ok (.invokestatic 246, 3) := by decide +kernel
theorem dX12_sheet_4 : decode cX12_sheet 4 = .ok (.ifCond .eq 9, 3) := by decide +kernel
theorem dX12_sheet_7 : decode cX12_sheet 7 = .ok (.iload_n 2, 1) := by decide +kernel
theorem dX12_sheet_8 : decode cX12_sheet 8 = .ok (.bipush 64, 2) := by decide +kernel
theorem dX12_sheet_10 : decode cX12_sheet 10 = .ok (.if_icmp .le 6, 3) := by decide +kernel
theorem dX12_sheet_13 : decode cX12_sheet 13 = .ok (.ldc 120, 2) := by decide +kernel
theorem dX12_sheet_15 : decode cX12_sheet 15 = .ok (.ireturn, 1) := by decide +kernel
theorem dX12_sheet_16 : decode cX12_sheet 16 = .ok (.iload_n 2, 1) := by decide +kernel
theorem dX12_sheet_17 : decode cX12_sheet 17 = .ok (.ifCond .ge 6, 3) := by decide +kernel
theorem dX12_sheet_20 : decode cX12_sheet 20 = .ok (.ldc 249, 2) := by decide +kernel
theorem dX12_sheet_22 : decode cX12_sheet 22 = .ok (.ireturn, 1) := by decide +kernel
theorem dX12_sheet_23 : decode cX12_sheet 23 = .ok (.aload_n 0, 1) := by decide +kernel
theorem dX12_sheet_24 : decode cX12_sheet 24 = .ok (.getfield 72, 3) := by decide +kernel
theorem dX12_sheet_27 : decode cX12_sheet 27 = .ok (.iload_n 1, 1) := by decide +kernel
theorem dX12_sheet_28 : decode cX12_sheet 28 = .ok (.iload_n 2, 1) := by decide +kernel
theorem dX12_sheet_29 : decode cX12_sheet 29 = .ok (.iastore, 1) := by decide +kernel
theorem dX12_sheet_30 : decode cX12_sheet 30 = .ok (.iconst 0, 1) := by decide +kernel
theorem dX12_sheet_31 : decode cX12_sheet 31 = .ok (.istore_n 3, 1) := by decide +kernel
theorem dX12_sheet_32 : decode cX12_sheet 32 = .ok (.iload_n 3, 1) := by decide +kernel
theorem dX12_sheet_33 : decode cX12_sheet 33 = .ok (.iload_n 2, 1) := by decide +kernel
theorem dX12_sheet_34 : decode cX12_sheet 34 = .ok (.if_icmp .ge 21, 3) := by decide +kernel
theorem dX12_sheet_37 : decode cX12_sheet 37 = .ok (.aload_n 0, 1) := by decide +kernel
theorem dX12_sheet_38 : decode cX12_sheet 38 = .ok (.getfield 75, 3) := by decide +kernel
theorem dX12_sheet_41 : decode cX12_sheet 41 = .ok (.bipush 64, 2) := by decide +kernel
theorem dX12_sheet_43 : decode cX12_sheet 43 = .ok (.iload_n 1, 1) := by decide +kernel
theorem dX12_sheet_44 : decode cX12_sheet 44 = .ok (.imul, 1) := by decide +kernel
theorem dX12_sheet_45 : decode cX12_sheet 45 = .ok (.iload_n 3, 1) := by decide +kernel
theorem dX12_sheet_46 : decode cX12_sheet 46 = .ok (.iadd, 1) := by decide +kernel
theorem dX12_sheet_47 : decode cX12_sheet 47 = .ok (.iconst 0, 1) := by decide +kernel
theorem dX12_sheet_48 : decode cX12_sheet 48 = .ok (.iastore, 1) := by decide +kernel
theorem dX12_sheet_49 : decode cX12_sheet 49 = .ok (.iinc 3 1, 3) := by decide +kernel
theorem dX12_sheet_52 : decode cX12_sheet 52 = .ok (.goto (-20), 3) := by decide +kernel
theorem dX12_sheet_55 : decode cX12_sheet 55 = .ok (.iload_n 2, 1) := by decide +kernel
theorem dX12_sheet_56 : decode cX12_sheet 56 = .ok (.ireturn, 1) := by decide +kernel

theorem dX12_mark_0 : decode cX12_mark 0 = .ok (.iload_n 1, 1) := by decide +kernel
theorem dX12_mark_1 : decode cX12_mark 1 = .ok (.invokestatic 246, 3) := by decide +kernel
theorem dX12_mark_4 : decode cX12_mark 4 = .ok (.ifCond .ne 6, 3) := by decide +kernel
theorem dX12_mark_7 : decode cX12_mark 7 = .ok (.ldc 120, 2) := by decide +kernel
theorem dX12_mark_9 : decode cX12_mark 9 = .ok (.ireturn, 1) := by decide +kernel
theorem dX12_mark_10 : decode cX12_mark 10 = .ok (.aload_n 0, 1) := by decide +kernel
theorem dX12_mark_11 : decode cX12_mark 11 = .ok (.getfield 72, 3) := by decide +kernel
theorem dX12_mark_14 : decode cX12_mark 14 = .ok (.iload_n 1, 1) := by decide +kernel
theorem dX12_mark_15 : decode cX12_mark 15 = .ok (.iaload, 1) := by decide +kernel
theorem dX12_mark_16 : decode cX12_mark 16 = .ok (.ifCond .ge 6, 3) := by decide +kernel
theorem dX12_mark_19 : decode cX12_mark 19 = .ok (.ldc 194, 2) := by decide +kernel
theorem dX12_mark_21 : decode cX12_mark 21 = .ok (.ireturn, 1) := by decide +kernel
theorem dX12_mark_22 : decode cX12_mark 22 = .ok (.iload_n 2, 1) := by decide +kernel
theorem dX12_mark_23 : decode cX12_mark 23 = .ok (.iconst 0, 1) := by decide +kernel
theorem dX12_mark_24 : decode cX12_mark 24 = .ok (.aload_n 0, 1) := by decide +kernel
theorem dX12_mark_25 : decode cX12_mark 25 = .ok (.getfield 72, 3) := by decide +kernel
theorem dX12_mark_28 : decode cX12_mark 28 = .ok (.iload_n 1, 1) := by decide +kernel
theorem dX12_mark_29 : decode cX12_mark 29 = .ok (.iaload, 1) := by decide +kernel
theorem dX12_mark_30 : decode cX12_mark 30 = .ok (.iconst 1, 1) := by decide +kernel
theorem dX12_mark_31 : decode cX12_mark 31 = .ok (.isub, 1) := by decide +kernel
theorem dX12_mark_32 : decode cX12_mark 32 = .ok (.invokestatic 113, 3) := by decide +kernel
theorem dX12_mark_35 : decode cX12_mark 35 = .ok (.ifCond .ne 6, 3) := by decide +kernel
theorem dX12_mark_38 : decode cX12_mark 38 = .ok (.ldc 250, 2) := by decide +kernel
theorem dX12_mark_40 : decode cX12_mark 40 = .ok (.ireturn, 1) := by decide +kernel
theorem dX12_mark_41 : decode cX12_mark 41 = .ok (.aload_n 0, 1) := by decide +kernel
theorem dX12_mark_42 : decode cX12_mark 42 = .ok (.getfield 75, 3) := by decide +kernel
theorem dX12_mark_45 : decode cX12_mark 45 = .ok (.bipush 64, 2) := by decide +kernel
theorem dX12_mark_47 : decode cX12_mark 47 = .ok (.iload_n 1, 1) := by decide +kernel
theorem dX12_mark_48 : decode cX12_mark 48 = .ok (.imul, 1) := by decide +kernel
theorem dX12_mark_49 : decode cX12_mark 49 = .ok (.iload_n 2, 1) := by decide +kernel
theorem dX12_mark_50 : decode cX12_mark 50 = .ok (.iadd, 1) := by decide +kernel
theorem dX12_mark_51 : decode cX12_mark 51 = .ok (.iaload, 1) := by decide +kernel
theorem dX12_mark_52 : decode cX12_mark 52 = .ok (.istore 4, 2) := by decide +kernel
theorem dX12_mark_54 : decode cX12_mark 54 = .ok (.aload_n 0, 1) := by decide +kernel
theorem dX12_mark_55 : decode cX12_mark 55 = .ok (.getfield 75, 3) := by decide +kernel
theorem dX12_mark_58 : decode cX12_mark 58 = .ok (.bipush 64, 2) := by decide +kernel
theorem dX12_mark_60 : decode cX12_mark 60 = .ok (.iload_n 1, 1) := by decide +kernel
theorem dX12_mark_61 : decode cX12_mark 61 = .ok (.imul, 1) := by decide +kernel
theorem dX12_mark_62 : decode cX12_mark 62 = .ok (.iload_n 2, 1) := by decide +kernel
theorem dX12_mark_63 : decode cX12_mark 63 = .ok (.iadd, 1) := by decide +kernel
theorem dX12_mark_64 : decode cX12_mark 64 = .ok (.iload_n 3, 1) := by decide +kernel
theorem dX12_mark_65 : decode cX12_mark 65 = .ok (.i2s, 1) := by decide +kernel
theorem dX12_mark_66 : decode cX12_mark 66 = .ok (.iastore, 1) := by decide +kernel
theorem dX12_mark_67 : decode cX12_mark 67 = .ok (.iload 4, 2) := by decide +kernel
theorem dX12_mark_69 : decode cX12_mark 69 = .ok (.ireturn, 1) := by decide +kernel

theorem dX12_lose_0 : decode cX12_lose 0 = .ok (.iload_n 1, 1) := by decide +kernel
theorem dX12_lose_1 : decode cX12_lose 1 = .ok (.invokestatic 246, 3) := by decide +kernel
theorem dX12_lose_4 : decode cX12_lose 4 = .ok (.ifCond .ne 6, 3) := by decide +kernel
theorem dX12_lose_7 : decode cX12_lose 7 = .ok (.ldc 120, 2) := by decide +kernel
theorem dX12_lose_9 : decode cX12_lose 9 = .ok (.ireturn, 1) := by decide +kernel
theorem dX12_lose_10 : decode cX12_lose 10 = .ok (.aload_n 0, 1) := by decide +kernel
theorem dX12_lose_11 : decode cX12_lose 11 = .ok (.getfield 72, 3) := by decide +kernel
theorem dX12_lose_14 : decode cX12_lose 14 = .ok (.iload_n 1, 1) := by decide +kernel
theorem dX12_lose_15 : decode cX12_lose 15 = .ok (.iaload, 1) := by decide +kernel
theorem dX12_lose_16 : decode cX12_lose 16 = .ok (.ifCond .ge 6, 3) := by decide +kernel
theorem dX12_lose_19 : decode cX12_lose 19 = .ok (.ldc 194, 2) := by decide +kernel
theorem dX12_lose_21 : decode cX12_lose 21 = .ok (.ireturn, 1) := by decide +kernel
theorem dX12_lose_22 : decode cX12_lose 22 = .ok (.aload_n 0, 1) := by decide +kernel
theorem dX12_lose_23 : decode cX12_lose 23 = .ok (.getfield 72, 3) := by decide +kernel
theorem dX12_lose_26 : decode cX12_lose 26 = .ok (.iload_n 1, 1) := by decide +kernel
theorem dX12_lose_27 : decode cX12_lose 27 = .ok (.iaload, 1) := by decide +kernel
theorem dX12_lose_28 : decode cX12_lose 28 = .ok (.istore_n 2, 1) := by decide +kernel
theorem dX12_lose_29 : decode cX12_lose 29 = .ok (.aload_n 0, 1) := by decide +kernel
theorem dX12_lose_30 : decode cX12_lose 30 = .ok (.getfield 72, 3) := by decide +kernel
theorem dX12_lose_33 : decode cX12_lose 33 = .ok (.iload_n 1, 1) := by decide +kernel
theorem dX12_lose_34 : decode cX12_lose 34 = .ok (.iconst (-1), 1) := by decide +kernel
theorem dX12_lose_35 : decode cX12_lose 35 = .ok (.iastore, 1) := by decide +kernel
theorem dX12_lose_36 : decode cX12_lose 36 = .ok (.iload_n 2, 1) := by decide +kernel
theorem dX12_lose_37 : decode cX12_lose 37 = .ok (.ireturn, 1) := by decide +kernel

theorem dX12_copy_0 : decode cX12_copy 0 = .ok (.iload_n 1, 1) := by decide +kernel
theorem dX12_copy_1 : decode cX12_copy 1 = .ok (.invokestatic 246, 3) := by decide +kernel
theorem dX12_copy_4 : decode cX12_copy 4 = .ok (.ifCond .eq 10, 3) := by decide +kernel
theorem dX12_copy_7 : decode cX12_copy 7 = .ok (.iload_n 3, 1) := by decide +kernel
theorem dX12_copy_8 : decode cX12_copy 8 = .ok (.invokestatic 246, 3) := by decide +kernel
theorem dX12_copy_11 : decode cX12_copy 11 = .ok (.ifCond .ne 6, 3) := by decide +kernel
theorem dX12_copy_14 : decode cX12_copy 14 = .ok (.ldc 120, 2) := by decide +kernel
theorem dX12_copy_16 : decode cX12_copy 16 = .ok (.ireturn, 1) := by decide +kernel
theorem dX12_copy_17 : decode cX12_copy 17 = .ok (.aload_n 0, 1) := by decide +kernel
theorem dX12_copy_18 : decode cX12_copy 18 = .ok (.getfield 72, 3) := by decide +kernel
theorem dX12_copy_21 : decode cX12_copy 21 = .ok (.iload_n 1, 1) := by decide +kernel
theorem dX12_copy_22 : decode cX12_copy 22 = .ok (.iaload, 1) := by decide +kernel
theorem dX12_copy_23 : decode cX12_copy 23 = .ok (.ifCond .lt 12, 3) := by decide +kernel
theorem dX12_copy_26 : decode cX12_copy 26 = .ok (.aload_n 0, 1) := by decide +kernel
theorem dX12_copy_27 : decode cX12_copy 27 = .ok (.getfield 72, 3) := by decide +kernel
theorem dX12_copy_30 : decode cX12_copy 30 = .ok (.iload_n 3, 1) := by decide +kernel
theorem dX12_copy_31 : decode cX12_copy 31 = .ok (.iaload, 1) := by decide +kernel
theorem dX12_copy_32 : decode cX12_copy 32 = .ok (.ifCond .ge 6, 3) := by decide +kernel
theorem dX12_copy_35 : decode cX12_copy 35 = .ok (.ldc 194, 2) := by decide +kernel
theorem dX12_copy_37 : decode cX12_copy 37 = .ok (.ireturn, 1) := by decide +kernel
theorem dX12_copy_38 : decode cX12_copy 38 = .ok (.iload_n 2, 1) := by decide +kernel
theorem dX12_copy_39 : decode cX12_copy 39 = .ok (.ifCond .lt 48, 3) := by decide +kernel
theorem dX12_copy_42 : decode cX12_copy 42 = .ok (.iload 4, 2) := by decide +kernel
theorem dX12_copy_44 : decode cX12_copy 44 = .ok (.ifCond .lt 43, 3) := by decide +kernel
theorem dX12_copy_47 : decode cX12_copy 47 = .ok (.iload 5, 2) := by decide +kernel
theorem dX12_copy_49 : decode cX12_copy 49 = .ok (.ifCond .lt 38, 3) := by decide +kernel
theorem dX12_copy_52 : decode cX12_copy 52 = .ok (.iload_n 2, 1) := by decide +kernel
theorem dX12_copy_53 : decode cX12_copy 53 = .ok (.i2l, 1) := by decide +kernel
theorem dX12_copy_54 : decode cX12_copy 54 = .ok (.iload 5, 2) := by decide +kernel
theorem dX12_copy_56 : decode cX12_copy 56 = .ok (.i2l, 1) := by decide +kernel
theorem dX12_copy_57 : decode cX12_copy 57 = .ok (.ladd, 1) := by decide +kernel
theorem dX12_copy_58 : decode cX12_copy 58 = .ok (.aload_n 0, 1) := by decide +kernel
theorem dX12_copy_59 : decode cX12_copy 59 = .ok (.getfield 72, 3) := by decide +kernel
theorem dX12_copy_62 : decode cX12_copy 62 = .ok (.iload_n 1, 1) := by decide +kernel
theorem dX12_copy_63 : decode cX12_copy 63 = .ok (.iaload, 1) := by decide +kernel
theorem dX12_copy_64 : decode cX12_copy 64 = .ok (.i2l, 1) := by decide +kernel
theorem dX12_copy_65 : decode cX12_copy 65 = .ok (.lcmp, 1) := by decide +kernel
theorem dX12_copy_66 : decode cX12_copy 66 = .ok (.ifCond .gt 21, 3) := by decide +kernel
theorem dX12_copy_69 : decode cX12_copy 69 = .ok (.iload 4, 2) := by decide +kernel
theorem dX12_copy_71 : decode cX12_copy 71 = .ok (.i2l, 1) := by decide +kernel
theorem dX12_copy_72 : decode cX12_copy 72 = .ok (.iload 5, 2) := by decide +kernel
theorem dX12_copy_74 : decode cX12_copy 74 = .ok (.i2l, 1) := by decide +kernel
theorem dX12_copy_75 : decode cX12_copy 75 = .ok (.ladd, 1) := by decide +kernel
theorem dX12_copy_76 : decode cX12_copy 76 = .ok (.aload_n 0, 1) := by decide +kernel
theorem dX12_copy_77 : decode cX12_copy 77 = .ok (.getfield 72, 3) := by decide +kernel
theorem dX12_copy_80 : decode cX12_copy 80 = .ok (.iload_n 3, 1) := by decide +kernel
theorem dX12_copy_81 : decode cX12_copy 81 = .ok (.iaload, 1) := by decide +kernel
theorem dX12_copy_82 : decode cX12_copy 82 = .ok (.i2l, 1) := by decide +kernel
theorem dX12_copy_83 : decode cX12_copy 83 = .ok (.lcmp, 1) := by decide +kernel
theorem dX12_copy_84 : decode cX12_copy 84 = .ok (.ifCond .le 6, 3) := by decide +kernel
theorem dX12_copy_87 : decode cX12_copy 87 = .ok (.ldc 250, 2) := by decide +kernel
theorem dX12_copy_89 : decode cX12_copy 89 = .ok (.ireturn, 1) := by decide +kernel
theorem dX12_copy_90 : decode cX12_copy 90 = .ok (.iconst 0, 1) := by decide +kernel
theorem dX12_copy_91 : decode cX12_copy 91 = .ok (.istore 6, 2) := by decide +kernel
theorem dX12_copy_93 : decode cX12_copy 93 = .ok (.iload 6, 2) := by decide +kernel
theorem dX12_copy_95 : decode cX12_copy 95 = .ok (.iload 5, 2) := by decide +kernel
theorem dX12_copy_97 : decode cX12_copy 97 = .ok (.if_icmp .ge 30, 3) := by decide +kernel
theorem dX12_copy_100 : decode cX12_copy 100 = .ok (.aload_n 0, 1) := by decide +kernel
theorem dX12_copy_101 : decode cX12_copy 101 = .ok (.getfield 106, 3) := by decide +kernel
theorem dX12_copy_104 : decode cX12_copy 104 = .ok (.iload 6, 2) := by decide +kernel
theorem dX12_copy_106 : decode cX12_copy 106 = .ok (.aload_n 0, 1) := by decide +kernel
theorem dX12_copy_107 : decode cX12_copy 107 = .ok (.getfield 75, 3) := by decide +kernel
theorem dX12_copy_110 : decode cX12_copy 110 = .ok (.bipush 64, 2) := by decide +kernel
theorem dX12_copy_112 : decode cX12_copy 112 = .ok (.iload_n 1, 1) := by decide +kernel
theorem dX12_copy_113 : decode cX12_copy 113 = .ok (.imul, 1) := by decide +kernel
theorem dX12_copy_114 : decode cX12_copy 114 = .ok (.iload_n 2, 1) := by decide +kernel
theorem dX12_copy_115 : decode cX12_copy 115 = .ok (.iadd, 1) := by decide +kernel
theorem dX12_copy_116 : decode cX12_copy 116 = .ok (.iload 6, 2) := by decide +kernel
theorem dX12_copy_118 : decode cX12_copy 118 = .ok (.iadd, 1) := by decide +kernel
theorem dX12_copy_119 : decode cX12_copy 119 = .ok (.iaload, 1) := by decide +kernel
theorem dX12_copy_120 : decode cX12_copy 120 = .ok (.iastore, 1) := by decide +kernel
theorem dX12_copy_121 : decode cX12_copy 121 = .ok (.iinc 6 1, 3) := by decide +kernel
theorem dX12_copy_124 : decode cX12_copy 124 = .ok (.goto (-31), 3) := by decide +kernel
theorem dX12_copy_127 : decode cX12_copy 127 = .ok (.iconst 0, 1) := by decide +kernel
theorem dX12_copy_128 : decode cX12_copy 128 = .ok (.istore 6, 2) := by decide +kernel
theorem dX12_copy_130 : decode cX12_copy 130 = .ok (.iload 6, 2) := by decide +kernel
theorem dX12_copy_132 : decode cX12_copy 132 = .ok (.iload 5, 2) := by decide +kernel
theorem dX12_copy_134 : decode cX12_copy 134 = .ok (.if_icmp .ge 31, 3) := by decide +kernel
theorem dX12_copy_137 : decode cX12_copy 137 = .ok (.aload_n 0, 1) := by decide +kernel
theorem dX12_copy_138 : decode cX12_copy 138 = .ok (.getfield 75, 3) := by decide +kernel
theorem dX12_copy_141 : decode cX12_copy 141 = .ok (.bipush 64, 2) := by decide +kernel
theorem dX12_copy_143 : decode cX12_copy 143 = .ok (.iload_n 3, 1) := by decide +kernel
theorem dX12_copy_144 : decode cX12_copy 144 = .ok (.imul, 1) := by decide +kernel
theorem dX12_copy_145 : decode cX12_copy 145 = .ok (.iload 4, 2) := by decide +kernel
theorem dX12_copy_147 : decode cX12_copy 147 = .ok (.iadd, 1) := by decide +kernel
theorem dX12_copy_148 : decode cX12_copy 148 = .ok (.iload 6, 2) := by decide +kernel
theorem dX12_copy_150 : decode cX12_copy 150 = .ok (.iadd, 1) := by decide +kernel
theorem dX12_copy_151 : decode cX12_copy 151 = .ok (.aload_n 0, 1) := by decide +kernel
theorem dX12_copy_152 : decode cX12_copy 152 = .ok (.getfield 106, 3) := by decide +kernel
theorem dX12_copy_155 : decode cX12_copy 155 = .ok (.iload 6, 2) := by decide +kernel
theorem dX12_copy_157 : decode cX12_copy 157 = .ok (.iaload, 1) := by decide +kernel
theorem dX12_copy_158 : decode cX12_copy 158 = .ok (.iastore, 1) := by decide +kernel
theorem dX12_copy_159 : decode cX12_copy 159 = .ok (.iinc 6 1, 3) := by decide +kernel
theorem dX12_copy_162 : decode cX12_copy 162 = .ok (.goto (-32), 3) := by decide +kernel
theorem dX12_copy_165 : decode cX12_copy 165 = .ok (.iload 5, 2) := by decide +kernel
theorem dX12_copy_167 : decode cX12_copy 167 = .ok (.ireturn, 1) := by decide +kernel

set_option maxHeartbeats 4000000 in
set_option maxRecDepth 100000 in
theorem c_X12_sheet_0 (l : Launch) (E : Ev) {A : Nat → Prop} (ad : Nat → Nat) (hA : Oka 30 ad A) (sc : Nat → Int32) (ar : Nat → Nat → Int32) (la : Nat → Int64) (x : Int32) : Ct l E yX12_sheet (.code yX12_sheet cX12_sheet 4 (some .int)) ({ frames := 2, cells := 0, slots := 0, locals := 42 }) A (mw E ad sc ar la) [.ref (ad 0), .int (nI 0), .int x] (some (.int (if x ≤ nI 64 then (if 0 ≤ x then x else (-1000000014)) else (-1000000001)))) (if x ≤ nI 64 then (if 0 ≤ x then mw E ad sc (va_up (va_up ar 18 (upd (ar 18) 0 x)) 19 (zrs (ar 19) (64 * 0) (tn x))) la else mw E ad sc ar la) else mw E ad sc ar la) := by
  refine Ct.of (lv := [(0, .ref (ad 0)), (1, .int (nI 0)), (2, .int x)]) (by decide +kernel) (Nat.le_of_ble_eq_true rfl) rfl ?_
  intro zp ze zs zm za zb zh zc hc
  refine g_iload_n (pc := 0) hc 1 dX12_sheet_0 rfl rfl ?_
  refine g_callSi (pc := 1) (rest := []) (As := [.int (nI 0)]) hc (c_X12_isSheet l E ad hA sc ar la (nI 0)) mi_X12_isSheet tw_1364 rfl ⟨rfl, rfl, by decide, by decide⟩ (Nat.le_of_ble_eq_true rfl) ⟨Nat.le_refl _, Nat.le_refl _⟩ rfl dX12_sheet_1 ?_
  refine g_if_eq_f (pc := 4) hc 13 dX12_sheet_4 (by decide) (by decide) ?_
  refine g_iload_n (pc := 7) hc 2 dX12_sheet_7 rfl rfl ?_
  refine g_bipush (pc := 8) (v := nI 64) hc dX12_sheet_8 (by decide) ?_
  refine g_icmp_le (pc := 10) hc 16 dX12_sheet_10 (by decide) (fun c1 => ?_) (fun c1 => ?_)
  · refine g_iload_n (pc := 16) hc 2 dX12_sheet_16 rfl rfl ?_
    refine g_if_ge (pc := 17) hc 23 dX12_sheet_17 (by decide) (fun c2 => ?_) (fun c2 => ?_)
    · obtain ⟨n, hn, hx⟩ := sh_of c2 c1
      refine g_eq (ws' := mw E ad sc ar la) (lv' := [(0, .ref (ad 0)), (1, .int (nI 0)), (2, .int (nI n))]) rfl (by rw [hx]) rfl ?_
      refine g_aload_n (pc := 23) hc 0 dX12_sheet_23 rfl rfl ?_
      refine gf_m0_places (pc := 24) hc tw_1027 dX12_sheet_24 ?_
      refine g_iload_n (pc := 27) hc 1 dX12_sheet_27 rfl rfl ?_
      refine g_iload_n (pc := 28) hc 2 dX12_sheet_28 rfl rfl ?_
      refine sa_m18 (pc := 29) hc hA (0) (rfl) (by omega) dX12_sheet_29 ?_
      refine g_iconst (pc := 30) (v := nI 0) hc dX12_sheet_30 (by decide) ?_
      refine g_istore_n (pc := 31) (lv' := [(0, .ref (ad 0)), (1, .int (nI 0)), (2, .int (nI n)), (3, .int (nI 0))]) hc dX12_sheet_31 rfl (by decide) rfl ?_
      have L32_3 : ∀ (ki i : Nat), i + ki = n → G zp l ze ({ frames := 2, cells := 0, slots := 0, locals := 42 }) zs zm za zb zh zc 0 0 (MQ zb (Qz E A (some (.int (if x ≤ nI 64 then (if 0 ≤ x then x else (-1000000014)) else (-1000000001)))) (if x ≤ nI 64 then (if 0 ≤ x then mw E ad sc (va_up (va_up ar 18 (upd (ar 18) 0 x)) 19 (zrs (ar 19) (64 * 0) (tn x))) la else mw E ad sc ar la) else mw E ad sc ar la)) za zs 0 0 A) E A 4 (mw E ad sc (va_up (va_up ar 18 (upd (ar 18) 0 (nI n))) 19 (zrs (ar 19) (64 * 0) (i))) la) (32) [(0, .ref (ad 0)), (1, .int (nI 0)), (2, .int (nI n)), (3, .int (nI (i)))] [] := by
        intro ki
        induction ki with
        | zero =>
          intro i lhi
          have lhin : n = i := by omega
          subst lhin
          refine g_iload_n (pc := 32) hc 3 dX12_sheet_32 rfl rfl ?_
          refine g_iload_n (pc := 33) hc 2 dX12_sheet_33 rfl rfl ?_
          refine g_icmp_ge_t (pc := 34) hc 55 dX12_sheet_34 (by decide) (nI_le (by omega) (by omega)) ?_
          refine g_iload_n (pc := 55) hc 2 dX12_sheet_55 rfl rfl ?_
          exact g_iret (pc := 56) hc dX12_sheet_56 (by (repeat (first | rw [if_pos c1] | rw [if_neg c1] | rw [if_neg (ne_true_of_eq_false c1)] | rw [if_pos c2] | rw [if_neg c2] | rw [if_neg (ne_true_of_eq_false c2)])); rw [hx]) (by (repeat (first | rw [if_pos c1] | rw [if_neg c1] | rw [if_neg (ne_true_of_eq_false c1)] | rw [if_pos c2] | rw [if_neg c2] | rw [if_neg (ne_true_of_eq_false c2)])); rw [hx, tn, nI_clamp (by omega)])
        | succ ki ihi =>
          intro i lhi
          have lhin : i < n := by omega
          refine g_iload_n (pc := 32) hc 3 dX12_sheet_32 rfl rfl ?_
          refine g_iload_n (pc := 33) hc 2 dX12_sheet_33 rfl rfl ?_
          refine g_icmp_ge_f (pc := 34) hc 55 dX12_sheet_34 (by decide) (nI_ge (by omega) (by omega)) ?_
          refine g_aload_n (pc := 37) hc 0 dX12_sheet_37 rfl rfl ?_
          refine gf_m0_numbers (pc := 38) hc tw_1028 dX12_sheet_38 ?_
          refine g_bipush (pc := 41) (v := nI 64) hc dX12_sheet_41 (by decide) ?_
          refine g_iload_n (pc := 43) hc 1 dX12_sheet_43 rfl rfl ?_
          refine g_imul (pc := 44) hc dX12_sheet_44 ?_
          refine g_topi (v := nI (64 * 0)) (pk_mul 64 0) ?_
          refine g_iload_n (pc := 45) hc 3 dX12_sheet_45 rfl rfl ?_
          refine g_iadd (pc := 46) hc dX12_sheet_46 ?_
          refine g_topi (v := nI ((64 * 0) + i)) (nI_add (64 * 0) i) ?_
          refine g_iconst (pc := 47) (v := nI 0) hc dX12_sheet_47 (by decide) ?_
          refine sa_m19 (pc := 48) hc hA ((64 * 0) + i) (rfl) (by omega) dX12_sheet_48 ?_
          refine g_eq (ws' := mw E ad sc (va_up (va_up ar 18 (upd (ar 18) 0 (nI n))) 19 (upd (zrs (ar 19) (64 * 0) (i)) ((64 * 0) + i) (nI 0))) la) (lv' := [(0, .ref (ad 0)), (1, .int (nI 0)), (2, .int (nI n)), (3, .int (nI (i)))]) rfl rfl rfl ?_
          refine g_iinc (pc := 49) (v := nI (i + 1)) (lv' := [(0, .ref (ad 0)), (1, .int (nI 0)), (2, .int (nI n)), (3, .int (nI (i + 1)))]) hc 3 dX12_sheet_49 rfl (nI_ofi i 1) (by decide) rfl ?_
          refine g_goto (pc := 52) hc 32 dX12_sheet_52 (by decide) ?_
          exact g_eq (ws' := mw E ad sc (va_up (va_up ar 18 (upd (ar 18) 0 (nI n))) 19 (zrs (ar 19) (64 * 0) (i + 1))) la) (lv' := [(0, .ref (ad 0)), (1, .int (nI 0)), (2, .int (nI n)), (3, .int (nI (i + 1)))]) (rfl) (rfl) rfl (ihi (i + 1) (by omega))
      exact g_eq (ws' := mw E ad sc (va_up (va_up ar 18 (upd (ar 18) 0 (nI n))) 19 (zrs (ar 19) (64 * 0) (0))) la) (lv' := [(0, .ref (ad 0)), (1, .int (nI 0)), (2, .int (nI n)), (3, .int (nI (0)))]) (rfl) (rfl) rfl (L32_3 (n - 0) (0) (by omega))
    · refine g_ldc (pc := 20) (v := (-1000000014)) hc tw_1367 dX12_sheet_20 ?_
      exact g_iret (pc := 22) hc dX12_sheet_22 (by (repeat (first | rw [if_pos c1] | rw [if_neg c1] | rw [if_neg (ne_true_of_eq_false c1)] | rw [if_pos c2] | rw [if_neg c2] | rw [if_neg (ne_true_of_eq_false c2)]))) (by (repeat (first | rw [if_pos c1] | rw [if_neg c1] | rw [if_neg (ne_true_of_eq_false c1)] | rw [if_pos c2] | rw [if_neg c2] | rw [if_neg (ne_true_of_eq_false c2)])))
  · refine g_ldc (pc := 13) (v := (-1000000001)) hc tw_1139 dX12_sheet_13 ?_
    exact g_iret (pc := 15) hc dX12_sheet_15 (by (repeat (first | rw [if_pos c1] | rw [if_neg c1] | rw [if_neg (ne_true_of_eq_false c1)]))) (by (repeat (first | rw [if_pos c1] | rw [if_neg c1] | rw [if_neg (ne_true_of_eq_false c1)])))

set_option maxHeartbeats 4000000 in
set_option maxRecDepth 100000 in
theorem c_X12_mark_0 (l : Launch) (E : Ev) {A : Nat → Prop} (ad : Nat → Nat) (hA : Oka 30 ad A) (sc : Nat → Int32) (ar : Nat → Nat → Int32) (la : Nat → Int64) (x y : Int32) (hS : inr x (nI 0) (ar 18 0 - nI 1) = true → ∃ j : Nat, j < 64 ∧ x = nI j) : Ct l E yX12_mark (.code yX12_mark cX12_mark 5 (some .int)) ({ frames := 2, cells := 0, slots := 0, locals := 42 }) A (mw E ad sc ar la) [.ref (ad 0), .int (nI 0), .int x, .int y] (some (.int (if ar 18 0 < 0 then (-1000000011) else if inr x (nI 0) (ar 18 0 - nI 1) = true then ar 19 (64 * 0 + tn x) else (-1000000013)))) (if ar 18 0 < 0 then mw E ad sc ar la else if inr x (nI 0) (ar 18 0 - nI 1) = true then mw E ad sc (va_up ar 19 (upd (ar 19) (64 * 0 + tn x) (y : Int32).toInt16.toInt32)) la else mw E ad sc ar la) := by
  refine Ct.of (lv := [(0, .ref (ad 0)), (1, .int (nI 0)), (2, .int x), (3, .int y)]) (by decide +kernel) (Nat.le_of_ble_eq_true rfl) rfl ?_
  intro zp ze zs zm za zb zh zc hc
  refine g_iload_n (pc := 0) hc 1 dX12_mark_0 rfl rfl ?_
  refine g_callSi (pc := 1) (rest := []) (As := [.int (nI 0)]) hc (c_X12_isSheet l E ad hA sc ar la (nI 0)) mi_X12_isSheet tw_1364 rfl ⟨rfl, rfl, by decide, by decide⟩ (Nat.le_of_ble_eq_true rfl) ⟨Nat.le_refl _, Nat.le_refl _⟩ rfl dX12_mark_1 ?_
  refine g_if_ne_t (pc := 4) hc 10 dX12_mark_4 (by decide) (by decide) ?_
  refine g_aload_n (pc := 10) hc 0 dX12_mark_10 rfl rfl ?_
  refine gf_m0_places (pc := 11) hc tw_1027 dX12_mark_11 ?_
  refine g_iload_n (pc := 14) hc 1 dX12_mark_14 rfl rfl ?_
  refine la_m18 (pc := 15) hc (0) (rfl) (by omega) dX12_mark_15 ?_
  refine g_if_ge (pc := 16) hc 22 dX12_mark_16 (by decide) (fun c1 => ?_) (fun c1 => ?_)
  · refine g_iload_n (pc := 22) hc 2 dX12_mark_22 rfl rfl ?_
    refine g_iconst (pc := 23) (v := nI 0) hc dX12_mark_23 (by decide) ?_
    refine g_aload_n (pc := 24) hc 0 dX12_mark_24 rfl rfl ?_
    refine gf_m0_places (pc := 25) hc tw_1027 dX12_mark_25 ?_
    refine g_iload_n (pc := 28) hc 1 dX12_mark_28 rfl rfl ?_
    refine la_m18 (pc := 29) hc (0) (rfl) (by omega) dX12_mark_29 ?_
    refine g_iconst (pc := 30) (v := nI 1) hc dX12_mark_30 (by decide) ?_
    refine g_isub (pc := 31) hc dX12_mark_31 ?_
    refine g_callSi (pc := 32) (rest := []) (As := [.int x, .int (nI 0), .int (((ar 18) 0) - (nI 1))]) hc (c_X12_isIn l E ad hA sc ar la x (nI 0) (((ar 18) 0) - (nI 1))) mi_X12_isIn tw_1136 rfl ⟨rfl, rfl, by decide, by decide⟩ (Nat.le_of_ble_eq_true rfl) ⟨Nat.le_refl _, Nat.le_refl _⟩ rfl dX12_mark_32 ?_
    refine g_if_ne_b (pc := 35) hc 41 dX12_mark_35 (by decide) (fun c2 => ?_) (fun c2 => ?_)
    · obtain ⟨i, hi, hx⟩ := hS c2
      refine g_eq (ws' := mw E ad sc ar la) (lv' := [(0, .ref (ad 0)), (1, .int (nI 0)), (2, .int (nI i)), (3, .int y)]) rfl (by rw [hx]) rfl ?_
      refine g_aload_n (pc := 41) hc 0 dX12_mark_41 rfl rfl ?_
      refine gf_m0_numbers (pc := 42) hc tw_1028 dX12_mark_42 ?_
      refine g_bipush (pc := 45) (v := nI 64) hc dX12_mark_45 (by decide) ?_
      refine g_iload_n (pc := 47) hc 1 dX12_mark_47 rfl rfl ?_
      refine g_imul (pc := 48) hc dX12_mark_48 ?_
      refine g_topi (v := nI (64 * 0)) (pk_mul 64 0) ?_
      refine g_iload_n (pc := 49) hc 2 dX12_mark_49 rfl rfl ?_
      refine g_iadd (pc := 50) hc dX12_mark_50 ?_
      refine g_topi (v := nI ((64 * 0) + i)) (nI_add (64 * 0) i) ?_
      refine la_m19 (pc := 51) hc ((64 * 0) + i) (rfl) (by omega) dX12_mark_51 ?_
      refine g_istore (pc := 52) (lv' := [(0, .ref (ad 0)), (1, .int (nI 0)), (2, .int (nI i)), (3, .int y), (4, .int ((ar 19) ((64 * 0) + i)))]) hc dX12_mark_52 (by decide) rfl ?_
      refine g_aload_n (pc := 54) hc 0 dX12_mark_54 rfl rfl ?_
      refine gf_m0_numbers (pc := 55) hc tw_1028 dX12_mark_55 ?_
      refine g_bipush (pc := 58) (v := nI 64) hc dX12_mark_58 (by decide) ?_
      refine g_iload_n (pc := 60) hc 1 dX12_mark_60 rfl rfl ?_
      refine g_imul (pc := 61) hc dX12_mark_61 ?_
      refine g_topi (v := nI (64 * 0)) (pk_mul 64 0) ?_
      refine g_iload_n (pc := 62) hc 2 dX12_mark_62 rfl rfl ?_
      refine g_iadd (pc := 63) hc dX12_mark_63 ?_
      refine g_topi (v := nI ((64 * 0) + i)) (nI_add (64 * 0) i) ?_
      refine g_iload_n (pc := 64) hc 3 dX12_mark_64 rfl rfl ?_
      refine g_i2s (pc := 65) (v := (y : Int32).toInt16.toInt32) hc dX12_mark_65 rfl ?_
      refine sa_m19 (pc := 66) hc hA ((64 * 0) + i) (rfl) (by omega) dX12_mark_66 ?_
      refine g_iload (pc := 67) hc 4 dX12_mark_67 rfl ?_
      exact g_iret (pc := 69) hc dX12_mark_69 (by rw [if_neg (Int32.not_lt.mpr c1), if_pos c2, hx, tn, nI_clamp (by omega)]) (by rw [if_neg (Int32.not_lt.mpr c1), if_pos c2, hx, tn, nI_clamp (by omega)])
    · refine g_ldc (pc := 38) (v := (-1000000013)) hc tw_1372 dX12_mark_38 ?_
      exact g_iret (pc := 40) hc dX12_mark_40 (by rw [if_neg (Int32.not_lt.mpr c1), if_neg (ne_true_of_eq_false c2)]) (by rw [if_neg (Int32.not_lt.mpr c1), if_neg (ne_true_of_eq_false c2)])
  · refine g_ldc (pc := 19) (v := (-1000000011)) hc tw_1282 dX12_mark_19 ?_
    exact g_iret (pc := 21) hc dX12_mark_21 (by rw [if_pos (Int32.not_le.mp c1)]) (by rw [if_pos (Int32.not_le.mp c1)])

set_option maxHeartbeats 4000000 in
set_option maxRecDepth 100000 in
theorem c_X12_lose_0 (l : Launch) (E : Ev) {A : Nat → Prop} (ad : Nat → Nat) (hA : Oka 30 ad A) (sc : Nat → Int32) (ar : Nat → Nat → Int32) (la : Nat → Int64)  : Ct l E yX12_lose (.code yX12_lose cX12_lose 3 (some .int)) ({ frames := 2, cells := 0, slots := 0, locals := 42 }) A (mw E ad sc ar la) [.ref (ad 0), .int (nI 0)] (some (.int (if ar 18 0 < 0 then (-1000000011) else ar 18 0))) (if ar 18 0 < 0 then mw E ad sc ar la else mw E ad sc (va_up ar 18 (upd (ar 18) 0 (-1))) la) := by
  refine Ct.of (lv := [(0, .ref (ad 0)), (1, .int (nI 0))]) (by decide +kernel) (Nat.le_of_ble_eq_true rfl) rfl ?_
  intro zp ze zs zm za zb zh zc hc
  refine g_iload_n (pc := 0) hc 1 dX12_lose_0 rfl rfl ?_
  refine g_callSi (pc := 1) (rest := []) (As := [.int (nI 0)]) hc (c_X12_isSheet l E ad hA sc ar la (nI 0)) mi_X12_isSheet tw_1364 rfl ⟨rfl, rfl, by decide, by decide⟩ (Nat.le_of_ble_eq_true rfl) ⟨Nat.le_refl _, Nat.le_refl _⟩ rfl dX12_lose_1 ?_
  refine g_if_ne_t (pc := 4) hc 10 dX12_lose_4 (by decide) (by decide) ?_
  refine g_aload_n (pc := 10) hc 0 dX12_lose_10 rfl rfl ?_
  refine gf_m0_places (pc := 11) hc tw_1027 dX12_lose_11 ?_
  refine g_iload_n (pc := 14) hc 1 dX12_lose_14 rfl rfl ?_
  refine la_m18 (pc := 15) hc (0) (rfl) (by omega) dX12_lose_15 ?_
  refine g_if_ge (pc := 16) hc 22 dX12_lose_16 (by decide) (fun c1 => ?_) (fun c1 => ?_)
  · refine g_aload_n (pc := 22) hc 0 dX12_lose_22 rfl rfl ?_
    refine gf_m0_places (pc := 23) hc tw_1027 dX12_lose_23 ?_
    refine g_iload_n (pc := 26) hc 1 dX12_lose_26 rfl rfl ?_
    refine la_m18 (pc := 27) hc (0) (rfl) (by omega) dX12_lose_27 ?_
    refine g_istore_n (pc := 28) (lv' := [(0, .ref (ad 0)), (1, .int (nI 0)), (2, .int ((ar 18) 0))]) hc dX12_lose_28 rfl (by decide) rfl ?_
    refine g_aload_n (pc := 29) hc 0 dX12_lose_29 rfl rfl ?_
    refine gf_m0_places (pc := 30) hc tw_1027 dX12_lose_30 ?_
    refine g_iload_n (pc := 33) hc 1 dX12_lose_33 rfl rfl ?_
    refine g_iconst (pc := 34) (v := (-1)) hc dX12_lose_34 (by decide) ?_
    refine sa_m18 (pc := 35) hc hA (0) (rfl) (by omega) dX12_lose_35 ?_
    refine g_iload_n (pc := 36) hc 2 dX12_lose_36 rfl rfl ?_
    exact g_iret (pc := 37) hc dX12_lose_37 (by first | rw [if_pos (Int32.not_le.mp c1)] | rw [if_neg (Int32.not_lt.mpr c1)]) (by first | rw [if_pos (Int32.not_le.mp c1)] | rw [if_neg (Int32.not_lt.mpr c1)])
  · refine g_ldc (pc := 19) (v := (-1000000011)) hc tw_1282 dX12_lose_19 ?_
    exact g_iret (pc := 21) hc dX12_lose_21 (by first | rw [if_pos (Int32.not_le.mp c1)] | rw [if_neg (Int32.not_lt.mpr c1)]) (by first | rw [if_pos (Int32.not_le.mp c1)] | rw [if_neg (Int32.not_lt.mpr c1)])

set_option maxHeartbeats 4000000 in
set_option maxRecDepth 100000 in
theorem c_X12_sheet_1 (l : Launch) (E : Ev) {A : Nat → Prop} (ad : Nat → Nat) (hA : Oka 30 ad A) (sc : Nat → Int32) (ar : Nat → Nat → Int32) (la : Nat → Int64) (x : Int32) : Ct l E yX12_sheet (.code yX12_sheet cX12_sheet 4 (some .int)) ({ frames := 2, cells := 0, slots := 0, locals := 42 }) A (mw E ad sc ar la) [.ref (ad 0), .int (nI 1), .int x] (some (.int (if x ≤ nI 64 then (if 0 ≤ x then x else (-1000000014)) else (-1000000001)))) (if x ≤ nI 64 then (if 0 ≤ x then mw E ad sc (va_up (va_up ar 18 (upd (ar 18) 1 x)) 19 (zrs (ar 19) (64 * 1) (tn x))) la else mw E ad sc ar la) else mw E ad sc ar la) := by
  refine Ct.of (lv := [(0, .ref (ad 0)), (1, .int (nI 1)), (2, .int x)]) (by decide +kernel) (Nat.le_of_ble_eq_true rfl) rfl ?_
  intro zp ze zs zm za zb zh zc hc
  refine g_iload_n (pc := 0) hc 1 dX12_sheet_0 rfl rfl ?_
  refine g_callSi (pc := 1) (rest := []) (As := [.int (nI 1)]) hc (c_X12_isSheet l E ad hA sc ar la (nI 1)) mi_X12_isSheet tw_1364 rfl ⟨rfl, rfl, by decide, by decide⟩ (Nat.le_of_ble_eq_true rfl) ⟨Nat.le_refl _, Nat.le_refl _⟩ rfl dX12_sheet_1 ?_
  refine g_if_eq_f (pc := 4) hc 13 dX12_sheet_4 (by decide) (by decide) ?_
  refine g_iload_n (pc := 7) hc 2 dX12_sheet_7 rfl rfl ?_
  refine g_bipush (pc := 8) (v := nI 64) hc dX12_sheet_8 (by decide) ?_
  refine g_icmp_le (pc := 10) hc 16 dX12_sheet_10 (by decide) (fun c1 => ?_) (fun c1 => ?_)
  · refine g_iload_n (pc := 16) hc 2 dX12_sheet_16 rfl rfl ?_
    refine g_if_ge (pc := 17) hc 23 dX12_sheet_17 (by decide) (fun c2 => ?_) (fun c2 => ?_)
    · obtain ⟨n, hn, hx⟩ := sh_of c2 c1
      refine g_eq (ws' := mw E ad sc ar la) (lv' := [(0, .ref (ad 0)), (1, .int (nI 1)), (2, .int (nI n))]) rfl (by rw [hx]) rfl ?_
      refine g_aload_n (pc := 23) hc 0 dX12_sheet_23 rfl rfl ?_
      refine gf_m0_places (pc := 24) hc tw_1027 dX12_sheet_24 ?_
      refine g_iload_n (pc := 27) hc 1 dX12_sheet_27 rfl rfl ?_
      refine g_iload_n (pc := 28) hc 2 dX12_sheet_28 rfl rfl ?_
      refine sa_m18 (pc := 29) hc hA (1) (rfl) (by omega) dX12_sheet_29 ?_
      refine g_iconst (pc := 30) (v := nI 0) hc dX12_sheet_30 (by decide) ?_
      refine g_istore_n (pc := 31) (lv' := [(0, .ref (ad 0)), (1, .int (nI 1)), (2, .int (nI n)), (3, .int (nI 0))]) hc dX12_sheet_31 rfl (by decide) rfl ?_
      have L32_3 : ∀ (ki i : Nat), i + ki = n → G zp l ze ({ frames := 2, cells := 0, slots := 0, locals := 42 }) zs zm za zb zh zc 0 0 (MQ zb (Qz E A (some (.int (if x ≤ nI 64 then (if 0 ≤ x then x else (-1000000014)) else (-1000000001)))) (if x ≤ nI 64 then (if 0 ≤ x then mw E ad sc (va_up (va_up ar 18 (upd (ar 18) 1 x)) 19 (zrs (ar 19) (64 * 1) (tn x))) la else mw E ad sc ar la) else mw E ad sc ar la)) za zs 0 0 A) E A 4 (mw E ad sc (va_up (va_up ar 18 (upd (ar 18) 1 (nI n))) 19 (zrs (ar 19) (64 * 1) (i))) la) (32) [(0, .ref (ad 0)), (1, .int (nI 1)), (2, .int (nI n)), (3, .int (nI (i)))] [] := by
        intro ki
        induction ki with
        | zero =>
          intro i lhi
          have lhin : n = i := by omega
          subst lhin
          refine g_iload_n (pc := 32) hc 3 dX12_sheet_32 rfl rfl ?_
          refine g_iload_n (pc := 33) hc 2 dX12_sheet_33 rfl rfl ?_
          refine g_icmp_ge_t (pc := 34) hc 55 dX12_sheet_34 (by decide) (nI_le (by omega) (by omega)) ?_
          refine g_iload_n (pc := 55) hc 2 dX12_sheet_55 rfl rfl ?_
          exact g_iret (pc := 56) hc dX12_sheet_56 (by (repeat (first | rw [if_pos c1] | rw [if_neg c1] | rw [if_neg (ne_true_of_eq_false c1)] | rw [if_pos c2] | rw [if_neg c2] | rw [if_neg (ne_true_of_eq_false c2)])); rw [hx]) (by (repeat (first | rw [if_pos c1] | rw [if_neg c1] | rw [if_neg (ne_true_of_eq_false c1)] | rw [if_pos c2] | rw [if_neg c2] | rw [if_neg (ne_true_of_eq_false c2)])); rw [hx, tn, nI_clamp (by omega)])
        | succ ki ihi =>
          intro i lhi
          have lhin : i < n := by omega
          refine g_iload_n (pc := 32) hc 3 dX12_sheet_32 rfl rfl ?_
          refine g_iload_n (pc := 33) hc 2 dX12_sheet_33 rfl rfl ?_
          refine g_icmp_ge_f (pc := 34) hc 55 dX12_sheet_34 (by decide) (nI_ge (by omega) (by omega)) ?_
          refine g_aload_n (pc := 37) hc 0 dX12_sheet_37 rfl rfl ?_
          refine gf_m0_numbers (pc := 38) hc tw_1028 dX12_sheet_38 ?_
          refine g_bipush (pc := 41) (v := nI 64) hc dX12_sheet_41 (by decide) ?_
          refine g_iload_n (pc := 43) hc 1 dX12_sheet_43 rfl rfl ?_
          refine g_imul (pc := 44) hc dX12_sheet_44 ?_
          refine g_topi (v := nI (64 * 1)) (pk_mul 64 1) ?_
          refine g_iload_n (pc := 45) hc 3 dX12_sheet_45 rfl rfl ?_
          refine g_iadd (pc := 46) hc dX12_sheet_46 ?_
          refine g_topi (v := nI ((64 * 1) + i)) (nI_add (64 * 1) i) ?_
          refine g_iconst (pc := 47) (v := nI 0) hc dX12_sheet_47 (by decide) ?_
          refine sa_m19 (pc := 48) hc hA ((64 * 1) + i) (rfl) (by omega) dX12_sheet_48 ?_
          refine g_eq (ws' := mw E ad sc (va_up (va_up ar 18 (upd (ar 18) 1 (nI n))) 19 (upd (zrs (ar 19) (64 * 1) (i)) ((64 * 1) + i) (nI 0))) la) (lv' := [(0, .ref (ad 0)), (1, .int (nI 1)), (2, .int (nI n)), (3, .int (nI (i)))]) rfl rfl rfl ?_
          refine g_iinc (pc := 49) (v := nI (i + 1)) (lv' := [(0, .ref (ad 0)), (1, .int (nI 1)), (2, .int (nI n)), (3, .int (nI (i + 1)))]) hc 3 dX12_sheet_49 rfl (nI_ofi i 1) (by decide) rfl ?_
          refine g_goto (pc := 52) hc 32 dX12_sheet_52 (by decide) ?_
          exact g_eq (ws' := mw E ad sc (va_up (va_up ar 18 (upd (ar 18) 1 (nI n))) 19 (zrs (ar 19) (64 * 1) (i + 1))) la) (lv' := [(0, .ref (ad 0)), (1, .int (nI 1)), (2, .int (nI n)), (3, .int (nI (i + 1)))]) (rfl) (rfl) rfl (ihi (i + 1) (by omega))
      exact g_eq (ws' := mw E ad sc (va_up (va_up ar 18 (upd (ar 18) 1 (nI n))) 19 (zrs (ar 19) (64 * 1) (0))) la) (lv' := [(0, .ref (ad 0)), (1, .int (nI 1)), (2, .int (nI n)), (3, .int (nI (0)))]) (rfl) (rfl) rfl (L32_3 (n - 0) (0) (by omega))
    · refine g_ldc (pc := 20) (v := (-1000000014)) hc tw_1367 dX12_sheet_20 ?_
      exact g_iret (pc := 22) hc dX12_sheet_22 (by (repeat (first | rw [if_pos c1] | rw [if_neg c1] | rw [if_neg (ne_true_of_eq_false c1)] | rw [if_pos c2] | rw [if_neg c2] | rw [if_neg (ne_true_of_eq_false c2)]))) (by (repeat (first | rw [if_pos c1] | rw [if_neg c1] | rw [if_neg (ne_true_of_eq_false c1)] | rw [if_pos c2] | rw [if_neg c2] | rw [if_neg (ne_true_of_eq_false c2)])))
  · refine g_ldc (pc := 13) (v := (-1000000001)) hc tw_1139 dX12_sheet_13 ?_
    exact g_iret (pc := 15) hc dX12_sheet_15 (by (repeat (first | rw [if_pos c1] | rw [if_neg c1] | rw [if_neg (ne_true_of_eq_false c1)]))) (by (repeat (first | rw [if_pos c1] | rw [if_neg c1] | rw [if_neg (ne_true_of_eq_false c1)])))

set_option maxHeartbeats 4000000 in
set_option maxRecDepth 100000 in
theorem c_X12_mark_1 (l : Launch) (E : Ev) {A : Nat → Prop} (ad : Nat → Nat) (hA : Oka 30 ad A) (sc : Nat → Int32) (ar : Nat → Nat → Int32) (la : Nat → Int64) (x y : Int32) (hS : inr x (nI 0) (ar 18 1 - nI 1) = true → ∃ j : Nat, j < 64 ∧ x = nI j) : Ct l E yX12_mark (.code yX12_mark cX12_mark 5 (some .int)) ({ frames := 2, cells := 0, slots := 0, locals := 42 }) A (mw E ad sc ar la) [.ref (ad 0), .int (nI 1), .int x, .int y] (some (.int (if ar 18 1 < 0 then (-1000000011) else if inr x (nI 0) (ar 18 1 - nI 1) = true then ar 19 (64 * 1 + tn x) else (-1000000013)))) (if ar 18 1 < 0 then mw E ad sc ar la else if inr x (nI 0) (ar 18 1 - nI 1) = true then mw E ad sc (va_up ar 19 (upd (ar 19) (64 * 1 + tn x) (y : Int32).toInt16.toInt32)) la else mw E ad sc ar la) := by
  refine Ct.of (lv := [(0, .ref (ad 0)), (1, .int (nI 1)), (2, .int x), (3, .int y)]) (by decide +kernel) (Nat.le_of_ble_eq_true rfl) rfl ?_
  intro zp ze zs zm za zb zh zc hc
  refine g_iload_n (pc := 0) hc 1 dX12_mark_0 rfl rfl ?_
  refine g_callSi (pc := 1) (rest := []) (As := [.int (nI 1)]) hc (c_X12_isSheet l E ad hA sc ar la (nI 1)) mi_X12_isSheet tw_1364 rfl ⟨rfl, rfl, by decide, by decide⟩ (Nat.le_of_ble_eq_true rfl) ⟨Nat.le_refl _, Nat.le_refl _⟩ rfl dX12_mark_1 ?_
  refine g_if_ne_t (pc := 4) hc 10 dX12_mark_4 (by decide) (by decide) ?_
  refine g_aload_n (pc := 10) hc 0 dX12_mark_10 rfl rfl ?_
  refine gf_m0_places (pc := 11) hc tw_1027 dX12_mark_11 ?_
  refine g_iload_n (pc := 14) hc 1 dX12_mark_14 rfl rfl ?_
  refine la_m18 (pc := 15) hc (1) (rfl) (by omega) dX12_mark_15 ?_
  refine g_if_ge (pc := 16) hc 22 dX12_mark_16 (by decide) (fun c1 => ?_) (fun c1 => ?_)
  · refine g_iload_n (pc := 22) hc 2 dX12_mark_22 rfl rfl ?_
    refine g_iconst (pc := 23) (v := nI 0) hc dX12_mark_23 (by decide) ?_
    refine g_aload_n (pc := 24) hc 0 dX12_mark_24 rfl rfl ?_
    refine gf_m0_places (pc := 25) hc tw_1027 dX12_mark_25 ?_
    refine g_iload_n (pc := 28) hc 1 dX12_mark_28 rfl rfl ?_
    refine la_m18 (pc := 29) hc (1) (rfl) (by omega) dX12_mark_29 ?_
    refine g_iconst (pc := 30) (v := nI 1) hc dX12_mark_30 (by decide) ?_
    refine g_isub (pc := 31) hc dX12_mark_31 ?_
    refine g_callSi (pc := 32) (rest := []) (As := [.int x, .int (nI 0), .int (((ar 18) 1) - (nI 1))]) hc (c_X12_isIn l E ad hA sc ar la x (nI 0) (((ar 18) 1) - (nI 1))) mi_X12_isIn tw_1136 rfl ⟨rfl, rfl, by decide, by decide⟩ (Nat.le_of_ble_eq_true rfl) ⟨Nat.le_refl _, Nat.le_refl _⟩ rfl dX12_mark_32 ?_
    refine g_if_ne_b (pc := 35) hc 41 dX12_mark_35 (by decide) (fun c2 => ?_) (fun c2 => ?_)
    · obtain ⟨i, hi, hx⟩ := hS c2
      refine g_eq (ws' := mw E ad sc ar la) (lv' := [(0, .ref (ad 0)), (1, .int (nI 1)), (2, .int (nI i)), (3, .int y)]) rfl (by rw [hx]) rfl ?_
      refine g_aload_n (pc := 41) hc 0 dX12_mark_41 rfl rfl ?_
      refine gf_m0_numbers (pc := 42) hc tw_1028 dX12_mark_42 ?_
      refine g_bipush (pc := 45) (v := nI 64) hc dX12_mark_45 (by decide) ?_
      refine g_iload_n (pc := 47) hc 1 dX12_mark_47 rfl rfl ?_
      refine g_imul (pc := 48) hc dX12_mark_48 ?_
      refine g_topi (v := nI (64 * 1)) (pk_mul 64 1) ?_
      refine g_iload_n (pc := 49) hc 2 dX12_mark_49 rfl rfl ?_
      refine g_iadd (pc := 50) hc dX12_mark_50 ?_
      refine g_topi (v := nI ((64 * 1) + i)) (nI_add (64 * 1) i) ?_
      refine la_m19 (pc := 51) hc ((64 * 1) + i) (rfl) (by omega) dX12_mark_51 ?_
      refine g_istore (pc := 52) (lv' := [(0, .ref (ad 0)), (1, .int (nI 1)), (2, .int (nI i)), (3, .int y), (4, .int ((ar 19) ((64 * 1) + i)))]) hc dX12_mark_52 (by decide) rfl ?_
      refine g_aload_n (pc := 54) hc 0 dX12_mark_54 rfl rfl ?_
      refine gf_m0_numbers (pc := 55) hc tw_1028 dX12_mark_55 ?_
      refine g_bipush (pc := 58) (v := nI 64) hc dX12_mark_58 (by decide) ?_
      refine g_iload_n (pc := 60) hc 1 dX12_mark_60 rfl rfl ?_
      refine g_imul (pc := 61) hc dX12_mark_61 ?_
      refine g_topi (v := nI (64 * 1)) (pk_mul 64 1) ?_
      refine g_iload_n (pc := 62) hc 2 dX12_mark_62 rfl rfl ?_
      refine g_iadd (pc := 63) hc dX12_mark_63 ?_
      refine g_topi (v := nI ((64 * 1) + i)) (nI_add (64 * 1) i) ?_
      refine g_iload_n (pc := 64) hc 3 dX12_mark_64 rfl rfl ?_
      refine g_i2s (pc := 65) (v := (y : Int32).toInt16.toInt32) hc dX12_mark_65 rfl ?_
      refine sa_m19 (pc := 66) hc hA ((64 * 1) + i) (rfl) (by omega) dX12_mark_66 ?_
      refine g_iload (pc := 67) hc 4 dX12_mark_67 rfl ?_
      exact g_iret (pc := 69) hc dX12_mark_69 (by rw [if_neg (Int32.not_lt.mpr c1), if_pos c2, hx, tn, nI_clamp (by omega)]) (by rw [if_neg (Int32.not_lt.mpr c1), if_pos c2, hx, tn, nI_clamp (by omega)])
    · refine g_ldc (pc := 38) (v := (-1000000013)) hc tw_1372 dX12_mark_38 ?_
      exact g_iret (pc := 40) hc dX12_mark_40 (by rw [if_neg (Int32.not_lt.mpr c1), if_neg (ne_true_of_eq_false c2)]) (by rw [if_neg (Int32.not_lt.mpr c1), if_neg (ne_true_of_eq_false c2)])
  · refine g_ldc (pc := 19) (v := (-1000000011)) hc tw_1282 dX12_mark_19 ?_
    exact g_iret (pc := 21) hc dX12_mark_21 (by rw [if_pos (Int32.not_le.mp c1)]) (by rw [if_pos (Int32.not_le.mp c1)])

set_option maxHeartbeats 4000000 in
set_option maxRecDepth 100000 in
theorem c_X12_lose_1 (l : Launch) (E : Ev) {A : Nat → Prop} (ad : Nat → Nat) (hA : Oka 30 ad A) (sc : Nat → Int32) (ar : Nat → Nat → Int32) (la : Nat → Int64)  : Ct l E yX12_lose (.code yX12_lose cX12_lose 3 (some .int)) ({ frames := 2, cells := 0, slots := 0, locals := 42 }) A (mw E ad sc ar la) [.ref (ad 0), .int (nI 1)] (some (.int (if ar 18 1 < 0 then (-1000000011) else ar 18 1))) (if ar 18 1 < 0 then mw E ad sc ar la else mw E ad sc (va_up ar 18 (upd (ar 18) 1 (-1))) la) := by
  refine Ct.of (lv := [(0, .ref (ad 0)), (1, .int (nI 1))]) (by decide +kernel) (Nat.le_of_ble_eq_true rfl) rfl ?_
  intro zp ze zs zm za zb zh zc hc
  refine g_iload_n (pc := 0) hc 1 dX12_lose_0 rfl rfl ?_
  refine g_callSi (pc := 1) (rest := []) (As := [.int (nI 1)]) hc (c_X12_isSheet l E ad hA sc ar la (nI 1)) mi_X12_isSheet tw_1364 rfl ⟨rfl, rfl, by decide, by decide⟩ (Nat.le_of_ble_eq_true rfl) ⟨Nat.le_refl _, Nat.le_refl _⟩ rfl dX12_lose_1 ?_
  refine g_if_ne_t (pc := 4) hc 10 dX12_lose_4 (by decide) (by decide) ?_
  refine g_aload_n (pc := 10) hc 0 dX12_lose_10 rfl rfl ?_
  refine gf_m0_places (pc := 11) hc tw_1027 dX12_lose_11 ?_
  refine g_iload_n (pc := 14) hc 1 dX12_lose_14 rfl rfl ?_
  refine la_m18 (pc := 15) hc (1) (rfl) (by omega) dX12_lose_15 ?_
  refine g_if_ge (pc := 16) hc 22 dX12_lose_16 (by decide) (fun c1 => ?_) (fun c1 => ?_)
  · refine g_aload_n (pc := 22) hc 0 dX12_lose_22 rfl rfl ?_
    refine gf_m0_places (pc := 23) hc tw_1027 dX12_lose_23 ?_
    refine g_iload_n (pc := 26) hc 1 dX12_lose_26 rfl rfl ?_
    refine la_m18 (pc := 27) hc (1) (rfl) (by omega) dX12_lose_27 ?_
    refine g_istore_n (pc := 28) (lv' := [(0, .ref (ad 0)), (1, .int (nI 1)), (2, .int ((ar 18) 1))]) hc dX12_lose_28 rfl (by decide) rfl ?_
    refine g_aload_n (pc := 29) hc 0 dX12_lose_29 rfl rfl ?_
    refine gf_m0_places (pc := 30) hc tw_1027 dX12_lose_30 ?_
    refine g_iload_n (pc := 33) hc 1 dX12_lose_33 rfl rfl ?_
    refine g_iconst (pc := 34) (v := (-1)) hc dX12_lose_34 (by decide) ?_
    refine sa_m18 (pc := 35) hc hA (1) (rfl) (by omega) dX12_lose_35 ?_
    refine g_iload_n (pc := 36) hc 2 dX12_lose_36 rfl rfl ?_
    exact g_iret (pc := 37) hc dX12_lose_37 (by first | rw [if_pos (Int32.not_le.mp c1)] | rw [if_neg (Int32.not_lt.mpr c1)]) (by first | rw [if_pos (Int32.not_le.mp c1)] | rw [if_neg (Int32.not_lt.mpr c1)])
  · refine g_ldc (pc := 19) (v := (-1000000011)) hc tw_1282 dX12_lose_19 ?_
    exact g_iret (pc := 21) hc dX12_lose_21 (by first | rw [if_pos (Int32.not_le.mp c1)] | rw [if_neg (Int32.not_lt.mpr c1)]) (by first | rw [if_pos (Int32.not_le.mp c1)] | rw [if_neg (Int32.not_lt.mpr c1)])

set_option maxHeartbeats 4000000 in
set_option maxRecDepth 100000 in
theorem c_X12_sheet_b (l : Launch) (E : Ev) {A : Nat → Prop} (ad : Nat → Nat) (hA : Oka 30 ad A) (sc : Nat → Int32) (ar : Nat → Nat → Int32) (la : Nat → Int64) (x y : Int32) (hb : inr x (nI 0) (nI 1) = false) : Ct l E yX12_sheet (.code yX12_sheet cX12_sheet 4 (some .int)) ({ frames := 2, cells := 0, slots := 0, locals := 42 }) A (mw E ad sc ar la) [.ref (ad 0), .int x, .int y] (some (.int (-1000000001))) (mw E ad sc ar la) := by
  refine Ct.of (lv := [(0, .ref (ad 0)), (1, .int x), (2, .int y)]) (by decide +kernel) (Nat.le_of_ble_eq_true rfl) rfl ?_
  intro zp ze zs zm za zb zh zc hc
  refine g_iload_n (pc := 0) hc 1 dX12_sheet_0 rfl rfl ?_
  refine g_callSi (pc := 1) (rest := []) (As := [.int x]) hc (c_X12_isSheet l E ad hA sc ar la x) mi_X12_isSheet tw_1364 rfl ⟨rfl, rfl, by decide, by decide⟩ (Nat.le_of_ble_eq_true rfl) ⟨Nat.le_refl _, Nat.le_refl _⟩ rfl dX12_sheet_1 ?_
  refine g_if_eq_t (pc := 4) hc 13 dX12_sheet_4 (by decide) (by rw [hb]; rfl) ?_
  refine g_ldc (pc := 13) (v := (-1000000001)) hc tw_1139 dX12_sheet_13 ?_
  exact g_iret (pc := 15) hc dX12_sheet_15 (rfl) (rfl)

set_option maxHeartbeats 4000000 in
set_option maxRecDepth 100000 in
theorem c_X12_mark_b (l : Launch) (E : Ev) {A : Nat → Prop} (ad : Nat → Nat) (hA : Oka 30 ad A) (sc : Nat → Int32) (ar : Nat → Nat → Int32) (la : Nat → Int64) (x y z : Int32) (hb : inr x (nI 0) (nI 1) = false) : Ct l E yX12_mark (.code yX12_mark cX12_mark 5 (some .int)) ({ frames := 2, cells := 0, slots := 0, locals := 42 }) A (mw E ad sc ar la) [.ref (ad 0), .int x, .int y, .int z] (some (.int (-1000000001))) (mw E ad sc ar la) := by
  refine Ct.of (lv := [(0, .ref (ad 0)), (1, .int x), (2, .int y), (3, .int z)]) (by decide +kernel) (Nat.le_of_ble_eq_true rfl) rfl ?_
  intro zp ze zs zm za zb zh zc hc
  refine g_iload_n (pc := 0) hc 1 dX12_mark_0 rfl rfl ?_
  refine g_callSi (pc := 1) (rest := []) (As := [.int x]) hc (c_X12_isSheet l E ad hA sc ar la x) mi_X12_isSheet tw_1364 rfl ⟨rfl, rfl, by decide, by decide⟩ (Nat.le_of_ble_eq_true rfl) ⟨Nat.le_refl _, Nat.le_refl _⟩ rfl dX12_mark_1 ?_
  refine g_if_ne_f (pc := 4) hc 10 dX12_mark_4 (by decide) (by rw [hb]; rfl) ?_
  refine g_ldc (pc := 7) (v := (-1000000001)) hc tw_1139 dX12_mark_7 ?_
  exact g_iret (pc := 9) hc dX12_mark_9 (rfl) (rfl)

set_option maxHeartbeats 4000000 in
set_option maxRecDepth 100000 in
theorem c_X12_lose_b (l : Launch) (E : Ev) {A : Nat → Prop} (ad : Nat → Nat) (hA : Oka 30 ad A) (sc : Nat → Int32) (ar : Nat → Nat → Int32) (la : Nat → Int64) (x : Int32) (hb : inr x (nI 0) (nI 1) = false) : Ct l E yX12_lose (.code yX12_lose cX12_lose 3 (some .int)) ({ frames := 2, cells := 0, slots := 0, locals := 42 }) A (mw E ad sc ar la) [.ref (ad 0), .int x] (some (.int (-1000000001))) (mw E ad sc ar la) := by
  refine Ct.of (lv := [(0, .ref (ad 0)), (1, .int x)]) (by decide +kernel) (Nat.le_of_ble_eq_true rfl) rfl ?_
  intro zp ze zs zm za zb zh zc hc
  refine g_iload_n (pc := 0) hc 1 dX12_lose_0 rfl rfl ?_
  refine g_callSi (pc := 1) (rest := []) (As := [.int x]) hc (c_X12_isSheet l E ad hA sc ar la x) mi_X12_isSheet tw_1364 rfl ⟨rfl, rfl, by decide, by decide⟩ (Nat.le_of_ble_eq_true rfl) ⟨Nat.le_refl _, Nat.le_refl _⟩ rfl dX12_lose_1 ?_
  refine g_if_ne_f (pc := 4) hc 10 dX12_lose_4 (by decide) (by rw [hb]; rfl) ?_
  refine g_ldc (pc := 7) (v := (-1000000001)) hc tw_1139 dX12_lose_7 ?_
  exact g_iret (pc := 9) hc dX12_lose_9 (rfl) (rfl)

set_option maxHeartbeats 4000000 in
set_option maxRecDepth 100000 in
theorem c_X12_copy_b (l : Launch) (E : Ev) {A : Nat → Prop} (ad : Nat → Nat) (hA : Oka 30 ad A) (sc : Nat → Int32) (ar : Nat → Nat → Int32) (la : Nat → Int64) (x y z u t : Int32) (hb : ok2 (inr x (nI 0) (nI 1)) (inr z (nI 0) (nI 1)) = false) : Ct l E yX12_copy (.code yX12_copy cX12_copy 7 (some .int)) ({ frames := 2, cells := 0, slots := 0, locals := 42 }) A (mw E ad sc ar la) [.ref (ad 0), .int x, .int y, .int z, .int u, .int t] (some (.int (-1000000001))) (mw E ad sc ar la) := by
  refine Ct.of (lv := [(0, .ref (ad 0)), (1, .int x), (2, .int y), (3, .int z), (4, .int u), (5, .int t)]) (by decide +kernel) (Nat.le_of_ble_eq_true rfl) rfl ?_
  intro zp ze zs zm za zb zh zc hc
  refine g_iload_n (pc := 0) hc 1 dX12_copy_0 rfl rfl ?_
  refine g_callSi (pc := 1) (rest := []) (As := [.int x]) hc (c_X12_isSheet l E ad hA sc ar la x) mi_X12_isSheet tw_1364 rfl ⟨rfl, rfl, by decide, by decide⟩ (Nat.le_of_ble_eq_true rfl) ⟨Nat.le_refl _, Nat.le_refl _⟩ rfl dX12_copy_1 ?_
  refine g_if_eq_b (pc := 4) hc 14 dX12_copy_4 (by decide) (fun c1 => ?_) (fun c1 => ?_)
  · refine g_ldc (pc := 14) (v := (-1000000001)) hc tw_1139 dX12_copy_14 ?_
    exact g_iret (pc := 16) hc dX12_copy_16 (rfl) (rfl)
  · refine g_iload_n (pc := 7) hc 3 dX12_copy_7 rfl rfl ?_
    refine g_callSi (pc := 8) (rest := []) (As := [.int z]) hc (c_X12_isSheet l E ad hA sc ar la z) mi_X12_isSheet tw_1364 rfl ⟨rfl, rfl, by decide, by decide⟩ (Nat.le_of_ble_eq_true rfl) ⟨Nat.le_refl _, Nat.le_refl _⟩ rfl dX12_copy_8 ?_
    refine g_if_ne_b (pc := 11) hc 17 dX12_copy_11 (by decide) (fun c2 => ?_) (fun c2 => ?_)
    · exact absurd (ok2_t c1 c2) (by rw [hb]; decide)
    · refine g_ldc (pc := 14) (v := (-1000000001)) hc tw_1139 dX12_copy_14 ?_
      exact g_iret (pc := 16) hc dX12_copy_16 (rfl) (rfl)

set_option maxHeartbeats 4000000 in
set_option maxRecDepth 100000 in
theorem c_X12_copy_00 (l : Launch) (E : Ev) {A : Nat → Prop} (ad : Nat → Nat) (hA : Oka 30 ad A) (sc : Nat → Int32) (ar : Nat → Nat → Int32) (la : Nat → Int64) (y u t : Int32) (hr : cok y u t (ar 18 0) (ar 18 0) = true → ∃ a b n : Nat, a + n ≤ 64 ∧ b + n ≤ 64 ∧ y = nI a ∧ u = nI b ∧ t = nI n) : Ct l E yX12_copy (.code yX12_copy cX12_copy 7 (some .int)) ({ frames := 2, cells := 0, slots := 0, locals := 42 }) A (mw E ad sc ar la) [.ref (ad 0), .int (nI 0), .int y, .int (nI 0), .int u, .int t] (some (.int (if cms (ar 18 0) (ar 18 0) = true then (-1000000011) else if cok y u t (ar 18 0) (ar 18 0) = true then t else (-1000000013)))) (if cms (ar 18 0) (ar 18 0) = true then mw E ad sc ar la else if cok y u t (ar 18 0) (ar 18 0) = true then mw E ad sc (va_up (va_up ar 29 (cotI (fun i => ar 19 (64 * 0 + tn y + i)) (ar 29) (tn t))) 19 (cpO (cotI (fun i => ar 19 (64 * 0 + tn y + i)) (ar 29) (tn t)) (ar 19) (64 * 0 + tn u) (tn t))) la else mw E ad sc ar la) := by
  refine Ct.of (lv := [(0, .ref (ad 0)), (1, .int (nI 0)), (2, .int y), (3, .int (nI 0)), (4, .int u), (5, .int t)]) (by decide +kernel) (Nat.le_of_ble_eq_true rfl) rfl ?_
  intro zp ze zs zm za zb zh zc hc
  refine g_iload_n (pc := 0) hc 1 dX12_copy_0 rfl rfl ?_
  refine g_callSi (pc := 1) (rest := []) (As := [.int (nI 0)]) hc (c_X12_isSheet l E ad hA sc ar la (nI 0)) mi_X12_isSheet tw_1364 rfl ⟨rfl, rfl, by decide, by decide⟩ (Nat.le_of_ble_eq_true rfl) ⟨Nat.le_refl _, Nat.le_refl _⟩ rfl dX12_copy_1 ?_
  refine g_if_eq_f (pc := 4) hc 14 dX12_copy_4 (by decide) (by decide) ?_
  refine g_iload_n (pc := 7) hc 3 dX12_copy_7 rfl rfl ?_
  refine g_callSi (pc := 8) (rest := []) (As := [.int (nI 0)]) hc (c_X12_isSheet l E ad hA sc ar la (nI 0)) mi_X12_isSheet tw_1364 rfl ⟨rfl, rfl, by decide, by decide⟩ (Nat.le_of_ble_eq_true rfl) ⟨Nat.le_refl _, Nat.le_refl _⟩ rfl dX12_copy_8 ?_
  refine g_if_ne_t (pc := 11) hc 17 dX12_copy_11 (by decide) (by decide) ?_
  refine g_aload_n (pc := 17) hc 0 dX12_copy_17 rfl rfl ?_
  refine gf_m0_places (pc := 18) hc tw_1027 dX12_copy_18 ?_
  refine g_iload_n (pc := 21) hc 1 dX12_copy_21 rfl rfl ?_
  refine la_m18 (pc := 22) hc (0) (rfl) (by omega) dX12_copy_22 ?_
  refine g_if_lt (pc := 23) hc 35 dX12_copy_23 (by decide) (fun c1 => ?_) (fun c1 => ?_)
  · refine g_ldc (pc := 35) (v := (-1000000011)) hc tw_1282 dX12_copy_35 ?_
    exact g_iret (pc := 37) hc dX12_copy_37 (by rw [if_pos (by unfold cms; (repeat (first | rw [if_pos c1] | rw [if_neg c1] | rw [if_neg (ne_true_of_eq_false c1)])); try rfl)]) (by rw [if_pos (by unfold cms; (repeat (first | rw [if_pos c1] | rw [if_neg c1] | rw [if_neg (ne_true_of_eq_false c1)])); try rfl)])
  · refine g_aload_n (pc := 26) hc 0 dX12_copy_26 rfl rfl ?_
    refine gf_m0_places (pc := 27) hc tw_1027 dX12_copy_27 ?_
    refine g_iload_n (pc := 30) hc 3 dX12_copy_30 rfl rfl ?_
    refine la_m18 (pc := 31) hc (0) (rfl) (by omega) dX12_copy_31 ?_
    refine g_if_ge (pc := 32) hc 38 dX12_copy_32 (by decide) (fun c2 => ?_) (fun c2 => ?_)
    · refine g_iload_n (pc := 38) hc 2 dX12_copy_38 rfl rfl ?_
      refine g_if_lt (pc := 39) hc 87 dX12_copy_39 (by decide) (fun c3 => ?_) (fun c3 => ?_)
      · refine g_ldc (pc := 87) (v := (-1000000013)) hc tw_1372 dX12_copy_87 ?_
        exact g_iret (pc := 89) hc dX12_copy_89 (by rw [if_neg (ne_true_of_eq_false (by unfold cms; (repeat (first | rw [if_pos c1] | rw [if_neg c1] | rw [if_neg (ne_true_of_eq_false c1)] | rw [if_pos c2] | rw [if_neg c2] | rw [if_neg (ne_true_of_eq_false c2)])); try rfl)), if_neg (ne_true_of_eq_false (by unfold cok; (repeat (first | rw [if_pos c3] | rw [if_neg c3] | rw [if_neg (ne_true_of_eq_false c3)])); try rfl))]) (by rw [if_neg (ne_true_of_eq_false (by unfold cms; (repeat (first | rw [if_pos c1] | rw [if_neg c1] | rw [if_neg (ne_true_of_eq_false c1)] | rw [if_pos c2] | rw [if_neg c2] | rw [if_neg (ne_true_of_eq_false c2)])); try rfl)), if_neg (ne_true_of_eq_false (by unfold cok; (repeat (first | rw [if_pos c3] | rw [if_neg c3] | rw [if_neg (ne_true_of_eq_false c3)])); try rfl))])
      · refine g_iload (pc := 42) hc 4 dX12_copy_42 rfl ?_
        refine g_if_lt (pc := 44) hc 87 dX12_copy_44 (by decide) (fun c4 => ?_) (fun c4 => ?_)
        · refine g_ldc (pc := 87) (v := (-1000000013)) hc tw_1372 dX12_copy_87 ?_
          exact g_iret (pc := 89) hc dX12_copy_89 (by rw [if_neg (ne_true_of_eq_false (by unfold cms; (repeat (first | rw [if_pos c1] | rw [if_neg c1] | rw [if_neg (ne_true_of_eq_false c1)] | rw [if_pos c2] | rw [if_neg c2] | rw [if_neg (ne_true_of_eq_false c2)])); try rfl)), if_neg (ne_true_of_eq_false (by unfold cok; (repeat (first | rw [if_pos c3] | rw [if_neg c3] | rw [if_neg (ne_true_of_eq_false c3)] | rw [if_pos c4] | rw [if_neg c4] | rw [if_neg (ne_true_of_eq_false c4)])); try rfl))]) (by rw [if_neg (ne_true_of_eq_false (by unfold cms; (repeat (first | rw [if_pos c1] | rw [if_neg c1] | rw [if_neg (ne_true_of_eq_false c1)] | rw [if_pos c2] | rw [if_neg c2] | rw [if_neg (ne_true_of_eq_false c2)])); try rfl)), if_neg (ne_true_of_eq_false (by unfold cok; (repeat (first | rw [if_pos c3] | rw [if_neg c3] | rw [if_neg (ne_true_of_eq_false c3)] | rw [if_pos c4] | rw [if_neg c4] | rw [if_neg (ne_true_of_eq_false c4)])); try rfl))])
        · refine g_iload (pc := 47) hc 5 dX12_copy_47 rfl ?_
          refine g_if_lt (pc := 49) hc 87 dX12_copy_49 (by decide) (fun c5 => ?_) (fun c5 => ?_)
          · refine g_ldc (pc := 87) (v := (-1000000013)) hc tw_1372 dX12_copy_87 ?_
            exact g_iret (pc := 89) hc dX12_copy_89 (by rw [if_neg (ne_true_of_eq_false (by unfold cms; (repeat (first | rw [if_pos c1] | rw [if_neg c1] | rw [if_neg (ne_true_of_eq_false c1)] | rw [if_pos c2] | rw [if_neg c2] | rw [if_neg (ne_true_of_eq_false c2)])); try rfl)), if_neg (ne_true_of_eq_false (by unfold cok; (repeat (first | rw [if_pos c3] | rw [if_neg c3] | rw [if_neg (ne_true_of_eq_false c3)] | rw [if_pos c4] | rw [if_neg c4] | rw [if_neg (ne_true_of_eq_false c4)] | rw [if_pos c5] | rw [if_neg c5] | rw [if_neg (ne_true_of_eq_false c5)])); try rfl))]) (by rw [if_neg (ne_true_of_eq_false (by unfold cms; (repeat (first | rw [if_pos c1] | rw [if_neg c1] | rw [if_neg (ne_true_of_eq_false c1)] | rw [if_pos c2] | rw [if_neg c2] | rw [if_neg (ne_true_of_eq_false c2)])); try rfl)), if_neg (ne_true_of_eq_false (by unfold cok; (repeat (first | rw [if_pos c3] | rw [if_neg c3] | rw [if_neg (ne_true_of_eq_false c3)] | rw [if_pos c4] | rw [if_neg c4] | rw [if_neg (ne_true_of_eq_false c4)] | rw [if_pos c5] | rw [if_neg c5] | rw [if_neg (ne_true_of_eq_false c5)])); try rfl))])
          · refine g_iload_n (pc := 52) hc 2 dX12_copy_52 rfl rfl ?_
            refine g_i2l (pc := 53) (v := (y : Int32).toInt64) hc dX12_copy_53 rfl ?_
            refine g_iload (pc := 54) hc 5 dX12_copy_54 rfl ?_
            refine g_i2l (pc := 56) (v := (t : Int32).toInt64) hc dX12_copy_56 rfl ?_
            refine g_ladd (pc := 57) hc dX12_copy_57 ?_
            refine g_aload_n (pc := 58) hc 0 dX12_copy_58 rfl rfl ?_
            refine gf_m0_places (pc := 59) hc tw_1027 dX12_copy_59 ?_
            refine g_iload_n (pc := 62) hc 1 dX12_copy_62 rfl rfl ?_
            refine la_m18 (pc := 63) hc (0) (rfl) (by omega) dX12_copy_63 ?_
            refine g_i2l (pc := 64) (v := ((ar 18) 0 : Int32).toInt64) hc dX12_copy_64 rfl ?_
            refine g_lcmp (pc := 65) hc dX12_copy_65 ?_
            refine g_if_gt (pc := 66) hc 87 dX12_copy_66 (by decide) (fun c6 => ?_) (fun c6 => ?_)
            · refine g_ldc (pc := 87) (v := (-1000000013)) hc tw_1372 dX12_copy_87 ?_
              exact g_iret (pc := 89) hc dX12_copy_89 (by rw [if_neg (ne_true_of_eq_false (by unfold cms; (repeat (first | rw [if_pos c1] | rw [if_neg c1] | rw [if_neg (ne_true_of_eq_false c1)] | rw [if_pos c2] | rw [if_neg c2] | rw [if_neg (ne_true_of_eq_false c2)])); try rfl)), if_neg (ne_true_of_eq_false (by unfold cok; (repeat (first | rw [if_pos c3] | rw [if_neg c3] | rw [if_neg (ne_true_of_eq_false c3)] | rw [if_pos c4] | rw [if_neg c4] | rw [if_neg (ne_true_of_eq_false c4)] | rw [if_pos c5] | rw [if_neg c5] | rw [if_neg (ne_true_of_eq_false c5)] | rw [if_pos c6] | rw [if_neg c6] | rw [if_neg (ne_true_of_eq_false c6)])); try rfl))]) (by rw [if_neg (ne_true_of_eq_false (by unfold cms; (repeat (first | rw [if_pos c1] | rw [if_neg c1] | rw [if_neg (ne_true_of_eq_false c1)] | rw [if_pos c2] | rw [if_neg c2] | rw [if_neg (ne_true_of_eq_false c2)])); try rfl)), if_neg (ne_true_of_eq_false (by unfold cok; (repeat (first | rw [if_pos c3] | rw [if_neg c3] | rw [if_neg (ne_true_of_eq_false c3)] | rw [if_pos c4] | rw [if_neg c4] | rw [if_neg (ne_true_of_eq_false c4)] | rw [if_pos c5] | rw [if_neg c5] | rw [if_neg (ne_true_of_eq_false c5)] | rw [if_pos c6] | rw [if_neg c6] | rw [if_neg (ne_true_of_eq_false c6)])); try rfl))])
            · refine g_iload (pc := 69) hc 4 dX12_copy_69 rfl ?_
              refine g_i2l (pc := 71) (v := (u : Int32).toInt64) hc dX12_copy_71 rfl ?_
              refine g_iload (pc := 72) hc 5 dX12_copy_72 rfl ?_
              refine g_i2l (pc := 74) (v := (t : Int32).toInt64) hc dX12_copy_74 rfl ?_
              refine g_ladd (pc := 75) hc dX12_copy_75 ?_
              refine g_aload_n (pc := 76) hc 0 dX12_copy_76 rfl rfl ?_
              refine gf_m0_places (pc := 77) hc tw_1027 dX12_copy_77 ?_
              refine g_iload_n (pc := 80) hc 3 dX12_copy_80 rfl rfl ?_
              refine la_m18 (pc := 81) hc (0) (rfl) (by omega) dX12_copy_81 ?_
              refine g_i2l (pc := 82) (v := ((ar 18) 0 : Int32).toInt64) hc dX12_copy_82 rfl ?_
              refine g_lcmp (pc := 83) hc dX12_copy_83 ?_
              refine g_if_le (pc := 84) hc 90 dX12_copy_84 (by decide) (fun c7 => ?_) (fun c7 => ?_)
              · have hck : cok y u t (ar 18 0) (ar 18 0) = true := by unfold cok; (repeat (first | rw [if_pos c3] | rw [if_neg c3] | rw [if_neg (ne_true_of_eq_false c3)] | rw [if_pos c4] | rw [if_neg c4] | rw [if_neg (ne_true_of_eq_false c4)] | rw [if_pos c5] | rw [if_neg c5] | rw [if_neg (ne_true_of_eq_false c5)] | rw [if_pos c6] | rw [if_neg c6] | rw [if_neg (ne_true_of_eq_false c6)] | rw [if_pos c7] | rw [if_neg c7] | rw [if_neg (ne_true_of_eq_false c7)]))
                obtain ⟨a, b, n, han, hbn, hy, hu, ht⟩ := hr hck
                refine g_eq (ws' := mw E ad sc ar la) (lv' := [(0, .ref (ad 0)), (1, .int (nI 0)), (2, .int (nI a)), (3, .int (nI 0)), (4, .int (nI b)), (5, .int (nI n))]) rfl (by rw [hy, hu, ht]) rfl ?_
                refine g_iconst (pc := 90) (v := nI 0) hc dX12_copy_90 (by decide) ?_
                refine g_istore (pc := 91) (lv' := [(0, .ref (ad 0)), (1, .int (nI 0)), (2, .int (nI a)), (3, .int (nI 0)), (4, .int (nI b)), (5, .int (nI n)), (6, .int (nI 0))]) hc dX12_copy_91 (by decide) rfl ?_
                have L93_8 : ∀ (ki i : Nat), i + ki = n → G zp l ze ({ frames := 2, cells := 0, slots := 0, locals := 42 }) zs zm za zb zh zc 0 0 (MQ zb (Qz E A (some (.int (if cms (ar 18 0) (ar 18 0) = true then (-1000000011) else if cok y u t (ar 18 0) (ar 18 0) = true then t else (-1000000013)))) (if cms (ar 18 0) (ar 18 0) = true then mw E ad sc ar la else if cok y u t (ar 18 0) (ar 18 0) = true then mw E ad sc (va_up (va_up ar 29 (cotI (fun i => ar 19 (64 * 0 + tn y + i)) (ar 29) (tn t))) 19 (cpO (cotI (fun i => ar 19 (64 * 0 + tn y + i)) (ar 29) (tn t)) (ar 19) (64 * 0 + tn u) (tn t))) la else mw E ad sc ar la)) za zs 0 0 A) E A 7 (mw E ad sc (va_up ar 29 (cotI (fun i => ar 19 (64 * 0 + a + i)) (ar 29) (i))) la) (93) [(0, .ref (ad 0)), (1, .int (nI 0)), (2, .int (nI a)), (3, .int (nI 0)), (4, .int (nI b)), (5, .int (nI n)), (6, .int (nI (i)))] [] := by
                  intro ki
                  induction ki with
                  | zero =>
                    intro i lhi
                    have lhin : n = i := by omega
                    subst lhin
                    refine g_iload (pc := 93) hc 6 dX12_copy_93 rfl ?_
                    refine g_iload (pc := 95) hc 5 dX12_copy_95 rfl ?_
                    refine g_icmp_ge_t (pc := 97) hc 127 dX12_copy_97 (by decide) (nI_le (by omega) (by omega)) ?_
                    refine g_iconst (pc := 127) (v := nI 0) hc dX12_copy_127 (by decide) ?_
                    refine g_istore (pc := 128) (lv' := [(0, .ref (ad 0)), (1, .int (nI 0)), (2, .int (nI a)), (3, .int (nI 0)), (4, .int (nI b)), (5, .int (nI n)), (6, .int (nI 0))]) hc dX12_copy_128 (by decide) rfl ?_
                    have L130_9 : ∀ (kj j : Nat), j + kj = n → G zp l ze ({ frames := 2, cells := 0, slots := 0, locals := 42 }) zs zm za zb zh zc 0 0 (MQ zb (Qz E A (some (.int (if cms (ar 18 0) (ar 18 0) = true then (-1000000011) else if cok y u t (ar 18 0) (ar 18 0) = true then t else (-1000000013)))) (if cms (ar 18 0) (ar 18 0) = true then mw E ad sc ar la else if cok y u t (ar 18 0) (ar 18 0) = true then mw E ad sc (va_up (va_up ar 29 (cotI (fun i => ar 19 (64 * 0 + tn y + i)) (ar 29) (tn t))) 19 (cpO (cotI (fun i => ar 19 (64 * 0 + tn y + i)) (ar 29) (tn t)) (ar 19) (64 * 0 + tn u) (tn t))) la else mw E ad sc ar la)) za zs 0 0 A) E A 7 (mw E ad sc (va_up (va_up ar 29 (cotI (fun i => ar 19 (64 * 0 + a + i)) (ar 29) (n))) 19 (cpO (cotI (fun i => ar 19 (64 * 0 + a + i)) (ar 29) (n)) (ar 19) (64 * 0 + b) (j))) la) (130) [(0, .ref (ad 0)), (1, .int (nI 0)), (2, .int (nI a)), (3, .int (nI 0)), (4, .int (nI b)), (5, .int (nI n)), (6, .int (nI (j)))] [] := by
                      intro kj
                      induction kj with
                      | zero =>
                        intro j lhj
                        have lhjn : n = j := by omega
                        subst lhjn
                        refine g_iload (pc := 130) hc 6 dX12_copy_130 rfl ?_
                        refine g_iload (pc := 132) hc 5 dX12_copy_132 rfl ?_
                        refine g_icmp_ge_t (pc := 134) hc 165 dX12_copy_134 (by decide) (nI_le (by omega) (by omega)) ?_
                        refine g_iload (pc := 165) hc 5 dX12_copy_165 rfl ?_
                        exact g_iret (pc := 167) hc dX12_copy_167 (by rw [if_neg (ne_true_of_eq_false (by unfold cms; (repeat (first | rw [if_pos c1] | rw [if_neg c1] | rw [if_neg (ne_true_of_eq_false c1)] | rw [if_pos c2] | rw [if_neg c2] | rw [if_neg (ne_true_of_eq_false c2)])); try rfl)), if_pos hck, ht]) (by rw [if_neg (ne_true_of_eq_false (by unfold cms; (repeat (first | rw [if_pos c1] | rw [if_neg c1] | rw [if_neg (ne_true_of_eq_false c1)] | rw [if_pos c2] | rw [if_neg c2] | rw [if_neg (ne_true_of_eq_false c2)])); try rfl)), if_pos hck, hy, hu, ht, tn, tn, tn, nI_clamp (by omega), nI_clamp (by omega), nI_clamp (by omega)])
                      | succ kj ihj =>
                        intro j lhj
                        have lhjn : j < n := by omega
                        refine g_iload (pc := 130) hc 6 dX12_copy_130 rfl ?_
                        refine g_iload (pc := 132) hc 5 dX12_copy_132 rfl ?_
                        refine g_icmp_ge_f (pc := 134) hc 165 dX12_copy_134 (by decide) (nI_ge (by omega) (by omega)) ?_
                        refine g_aload_n (pc := 137) hc 0 dX12_copy_137 rfl rfl ?_
                        refine gf_m0_numbers (pc := 138) hc tw_1028 dX12_copy_138 ?_
                        refine g_bipush (pc := 141) (v := nI 64) hc dX12_copy_141 (by decide) ?_
                        refine g_iload_n (pc := 143) hc 3 dX12_copy_143 rfl rfl ?_
                        refine g_imul (pc := 144) hc dX12_copy_144 ?_
                        refine g_topi (v := nI (64 * 0)) (pk_mul 64 0) ?_
                        refine g_iload (pc := 145) hc 4 dX12_copy_145 rfl ?_
                        refine g_iadd (pc := 147) hc dX12_copy_147 ?_
                        refine g_topi (v := nI ((64 * 0) + b)) (nI_add (64 * 0) b) ?_
                        refine g_iload (pc := 148) hc 6 dX12_copy_148 rfl ?_
                        refine g_iadd (pc := 150) hc dX12_copy_150 ?_
                        refine g_topi (v := nI (((64 * 0) + b) + j)) (nI_add ((64 * 0) + b) j) ?_
                        refine g_aload_n (pc := 151) hc 0 dX12_copy_151 rfl rfl ?_
                        refine gf_m0_carried (pc := 152) hc tw_1043 dX12_copy_152 ?_
                        refine g_iload (pc := 155) hc 6 dX12_copy_155 rfl ?_
                        refine la_m29 (pc := 157) hc (j) (rfl) (by omega) dX12_copy_157 ?_
                        refine g_topi (v := (cotI (fun i => ar 19 (64 * 0 + a + i)) (ar 29) (n)) j) rfl ?_
                        refine sa_m19 (pc := 158) hc hA (((64 * 0) + b) + j) (rfl) (by omega) dX12_copy_158 ?_
                        refine g_eq (ws' := mw E ad sc (va_up (va_up ar 29 (cotI (fun i => ar 19 (64 * 0 + a + i)) (ar 29) (n))) 19 (upd (cpO (cotI (fun i => ar 19 (64 * 0 + a + i)) (ar 29) (n)) (ar 19) (64 * 0 + b) (j)) (((64 * 0) + b) + j) ((cotI (fun i => ar 19 (64 * 0 + a + i)) (ar 29) (n)) j))) la) (lv' := [(0, .ref (ad 0)), (1, .int (nI 0)), (2, .int (nI a)), (3, .int (nI 0)), (4, .int (nI b)), (5, .int (nI n)), (6, .int (nI (j)))]) rfl rfl rfl ?_
                        refine g_iinc (pc := 159) (v := nI (j + 1)) (lv' := [(0, .ref (ad 0)), (1, .int (nI 0)), (2, .int (nI a)), (3, .int (nI 0)), (4, .int (nI b)), (5, .int (nI n)), (6, .int (nI (j + 1)))]) hc 6 dX12_copy_159 rfl (nI_ofi j 1) (by decide) rfl ?_
                        refine g_goto (pc := 162) hc 130 dX12_copy_162 (by decide) ?_
                        exact g_eq (ws' := mw E ad sc (va_up (va_up ar 29 (cotI (fun i => ar 19 (64 * 0 + a + i)) (ar 29) (n))) 19 (cpO (cotI (fun i => ar 19 (64 * 0 + a + i)) (ar 29) (n)) (ar 19) (64 * 0 + b) (j + 1))) la) (lv' := [(0, .ref (ad 0)), (1, .int (nI 0)), (2, .int (nI a)), (3, .int (nI 0)), (4, .int (nI b)), (5, .int (nI n)), (6, .int (nI (j + 1)))]) (rfl) (rfl) rfl (ihj (j + 1) (by omega))
                    exact g_eq (ws' := mw E ad sc (va_up (va_up ar 29 (cotI (fun i => ar 19 (64 * 0 + a + i)) (ar 29) (n))) 19 (cpO (cotI (fun i => ar 19 (64 * 0 + a + i)) (ar 29) (n)) (ar 19) (64 * 0 + b) (0))) la) (lv' := [(0, .ref (ad 0)), (1, .int (nI 0)), (2, .int (nI a)), (3, .int (nI 0)), (4, .int (nI b)), (5, .int (nI n)), (6, .int (nI (0)))]) (rfl) (rfl) rfl (L130_9 (n - 0) (0) (by omega))
                  | succ ki ihi =>
                    intro i lhi
                    have lhin : i < n := by omega
                    refine g_iload (pc := 93) hc 6 dX12_copy_93 rfl ?_
                    refine g_iload (pc := 95) hc 5 dX12_copy_95 rfl ?_
                    refine g_icmp_ge_f (pc := 97) hc 127 dX12_copy_97 (by decide) (nI_ge (by omega) (by omega)) ?_
                    refine g_aload_n (pc := 100) hc 0 dX12_copy_100 rfl rfl ?_
                    refine gf_m0_carried (pc := 101) hc tw_1043 dX12_copy_101 ?_
                    refine g_iload (pc := 104) hc 6 dX12_copy_104 rfl ?_
                    refine g_aload_n (pc := 106) hc 0 dX12_copy_106 rfl rfl ?_
                    refine gf_m0_numbers (pc := 107) hc tw_1028 dX12_copy_107 ?_
                    refine g_bipush (pc := 110) (v := nI 64) hc dX12_copy_110 (by decide) ?_
                    refine g_iload_n (pc := 112) hc 1 dX12_copy_112 rfl rfl ?_
                    refine g_imul (pc := 113) hc dX12_copy_113 ?_
                    refine g_topi (v := nI (64 * 0)) (pk_mul 64 0) ?_
                    refine g_iload_n (pc := 114) hc 2 dX12_copy_114 rfl rfl ?_
                    refine g_iadd (pc := 115) hc dX12_copy_115 ?_
                    refine g_topi (v := nI ((64 * 0) + a)) (nI_add (64 * 0) a) ?_
                    refine g_iload (pc := 116) hc 6 dX12_copy_116 rfl ?_
                    refine g_iadd (pc := 118) hc dX12_copy_118 ?_
                    refine g_topi (v := nI (((64 * 0) + a) + i)) (nI_add ((64 * 0) + a) i) ?_
                    refine la_m19 (pc := 119) hc (((64 * 0) + a) + i) (rfl) (by omega) dX12_copy_119 ?_
                    refine g_topi (v := (ar 19) (((64 * 0) + a) + i)) rfl ?_
                    refine sa_m29 (pc := 120) hc hA (i) (rfl) (by omega) dX12_copy_120 ?_
                    refine g_eq (ws' := mw E ad sc (va_up ar 29 (upd (cotI (fun i => ar 19 (64 * 0 + a + i)) (ar 29) (i)) i ((ar 19) (((64 * 0) + a) + i)))) la) (lv' := [(0, .ref (ad 0)), (1, .int (nI 0)), (2, .int (nI a)), (3, .int (nI 0)), (4, .int (nI b)), (5, .int (nI n)), (6, .int (nI (i)))]) rfl rfl rfl ?_
                    refine g_iinc (pc := 121) (v := nI (i + 1)) (lv' := [(0, .ref (ad 0)), (1, .int (nI 0)), (2, .int (nI a)), (3, .int (nI 0)), (4, .int (nI b)), (5, .int (nI n)), (6, .int (nI (i + 1)))]) hc 6 dX12_copy_121 rfl (nI_ofi i 1) (by decide) rfl ?_
                    refine g_goto (pc := 124) hc 93 dX12_copy_124 (by decide) ?_
                    exact g_eq (ws' := mw E ad sc (va_up ar 29 (cotI (fun i => ar 19 (64 * 0 + a + i)) (ar 29) (i + 1))) la) (lv' := [(0, .ref (ad 0)), (1, .int (nI 0)), (2, .int (nI a)), (3, .int (nI 0)), (4, .int (nI b)), (5, .int (nI n)), (6, .int (nI (i + 1)))]) (rfl) (rfl) rfl (ihi (i + 1) (by omega))
                exact g_eq (ws' := mw E ad sc (va_up ar 29 (cotI (fun i => ar 19 (64 * 0 + a + i)) (ar 29) (0))) la) (lv' := [(0, .ref (ad 0)), (1, .int (nI 0)), (2, .int (nI a)), (3, .int (nI 0)), (4, .int (nI b)), (5, .int (nI n)), (6, .int (nI (0)))]) (rfl) (rfl) rfl (L93_8 (n - 0) (0) (by omega))
              · refine g_ldc (pc := 87) (v := (-1000000013)) hc tw_1372 dX12_copy_87 ?_
                exact g_iret (pc := 89) hc dX12_copy_89 (by rw [if_neg (ne_true_of_eq_false (by unfold cms; (repeat (first | rw [if_pos c1] | rw [if_neg c1] | rw [if_neg (ne_true_of_eq_false c1)] | rw [if_pos c2] | rw [if_neg c2] | rw [if_neg (ne_true_of_eq_false c2)])); try rfl)), if_neg (ne_true_of_eq_false (by unfold cok; (repeat (first | rw [if_pos c3] | rw [if_neg c3] | rw [if_neg (ne_true_of_eq_false c3)] | rw [if_pos c4] | rw [if_neg c4] | rw [if_neg (ne_true_of_eq_false c4)] | rw [if_pos c5] | rw [if_neg c5] | rw [if_neg (ne_true_of_eq_false c5)] | rw [if_pos c6] | rw [if_neg c6] | rw [if_neg (ne_true_of_eq_false c6)] | rw [if_pos c7] | rw [if_neg c7] | rw [if_neg (ne_true_of_eq_false c7)])); try rfl))]) (by rw [if_neg (ne_true_of_eq_false (by unfold cms; (repeat (first | rw [if_pos c1] | rw [if_neg c1] | rw [if_neg (ne_true_of_eq_false c1)] | rw [if_pos c2] | rw [if_neg c2] | rw [if_neg (ne_true_of_eq_false c2)])); try rfl)), if_neg (ne_true_of_eq_false (by unfold cok; (repeat (first | rw [if_pos c3] | rw [if_neg c3] | rw [if_neg (ne_true_of_eq_false c3)] | rw [if_pos c4] | rw [if_neg c4] | rw [if_neg (ne_true_of_eq_false c4)] | rw [if_pos c5] | rw [if_neg c5] | rw [if_neg (ne_true_of_eq_false c5)] | rw [if_pos c6] | rw [if_neg c6] | rw [if_neg (ne_true_of_eq_false c6)] | rw [if_pos c7] | rw [if_neg c7] | rw [if_neg (ne_true_of_eq_false c7)])); try rfl))])
    · refine g_ldc (pc := 35) (v := (-1000000011)) hc tw_1282 dX12_copy_35 ?_
      exact g_iret (pc := 37) hc dX12_copy_37 (by rw [if_pos (by unfold cms; (repeat (first | rw [if_pos c1] | rw [if_neg c1] | rw [if_neg (ne_true_of_eq_false c1)] | rw [if_pos c2] | rw [if_neg c2] | rw [if_neg (ne_true_of_eq_false c2)])); try rfl)]) (by rw [if_pos (by unfold cms; (repeat (first | rw [if_pos c1] | rw [if_neg c1] | rw [if_neg (ne_true_of_eq_false c1)] | rw [if_pos c2] | rw [if_neg c2] | rw [if_neg (ne_true_of_eq_false c2)])); try rfl)])

set_option maxHeartbeats 4000000 in
set_option maxRecDepth 100000 in
theorem c_X12_copy_01 (l : Launch) (E : Ev) {A : Nat → Prop} (ad : Nat → Nat) (hA : Oka 30 ad A) (sc : Nat → Int32) (ar : Nat → Nat → Int32) (la : Nat → Int64) (y u t : Int32) (hr : cok y u t (ar 18 0) (ar 18 1) = true → ∃ a b n : Nat, a + n ≤ 64 ∧ b + n ≤ 64 ∧ y = nI a ∧ u = nI b ∧ t = nI n) : Ct l E yX12_copy (.code yX12_copy cX12_copy 7 (some .int)) ({ frames := 2, cells := 0, slots := 0, locals := 42 }) A (mw E ad sc ar la) [.ref (ad 0), .int (nI 0), .int y, .int (nI 1), .int u, .int t] (some (.int (if cms (ar 18 0) (ar 18 1) = true then (-1000000011) else if cok y u t (ar 18 0) (ar 18 1) = true then t else (-1000000013)))) (if cms (ar 18 0) (ar 18 1) = true then mw E ad sc ar la else if cok y u t (ar 18 0) (ar 18 1) = true then mw E ad sc (va_up (va_up ar 29 (cotI (fun i => ar 19 (64 * 0 + tn y + i)) (ar 29) (tn t))) 19 (cpO (cotI (fun i => ar 19 (64 * 0 + tn y + i)) (ar 29) (tn t)) (ar 19) (64 * 1 + tn u) (tn t))) la else mw E ad sc ar la) := by
  refine Ct.of (lv := [(0, .ref (ad 0)), (1, .int (nI 0)), (2, .int y), (3, .int (nI 1)), (4, .int u), (5, .int t)]) (by decide +kernel) (Nat.le_of_ble_eq_true rfl) rfl ?_
  intro zp ze zs zm za zb zh zc hc
  refine g_iload_n (pc := 0) hc 1 dX12_copy_0 rfl rfl ?_
  refine g_callSi (pc := 1) (rest := []) (As := [.int (nI 0)]) hc (c_X12_isSheet l E ad hA sc ar la (nI 0)) mi_X12_isSheet tw_1364 rfl ⟨rfl, rfl, by decide, by decide⟩ (Nat.le_of_ble_eq_true rfl) ⟨Nat.le_refl _, Nat.le_refl _⟩ rfl dX12_copy_1 ?_
  refine g_if_eq_f (pc := 4) hc 14 dX12_copy_4 (by decide) (by decide) ?_
  refine g_iload_n (pc := 7) hc 3 dX12_copy_7 rfl rfl ?_
  refine g_callSi (pc := 8) (rest := []) (As := [.int (nI 1)]) hc (c_X12_isSheet l E ad hA sc ar la (nI 1)) mi_X12_isSheet tw_1364 rfl ⟨rfl, rfl, by decide, by decide⟩ (Nat.le_of_ble_eq_true rfl) ⟨Nat.le_refl _, Nat.le_refl _⟩ rfl dX12_copy_8 ?_
  refine g_if_ne_t (pc := 11) hc 17 dX12_copy_11 (by decide) (by decide) ?_
  refine g_aload_n (pc := 17) hc 0 dX12_copy_17 rfl rfl ?_
  refine gf_m0_places (pc := 18) hc tw_1027 dX12_copy_18 ?_
  refine g_iload_n (pc := 21) hc 1 dX12_copy_21 rfl rfl ?_
  refine la_m18 (pc := 22) hc (0) (rfl) (by omega) dX12_copy_22 ?_
  refine g_if_lt (pc := 23) hc 35 dX12_copy_23 (by decide) (fun c1 => ?_) (fun c1 => ?_)
  · refine g_ldc (pc := 35) (v := (-1000000011)) hc tw_1282 dX12_copy_35 ?_
    exact g_iret (pc := 37) hc dX12_copy_37 (by rw [if_pos (by unfold cms; (repeat (first | rw [if_pos c1] | rw [if_neg c1] | rw [if_neg (ne_true_of_eq_false c1)])); try rfl)]) (by rw [if_pos (by unfold cms; (repeat (first | rw [if_pos c1] | rw [if_neg c1] | rw [if_neg (ne_true_of_eq_false c1)])); try rfl)])
  · refine g_aload_n (pc := 26) hc 0 dX12_copy_26 rfl rfl ?_
    refine gf_m0_places (pc := 27) hc tw_1027 dX12_copy_27 ?_
    refine g_iload_n (pc := 30) hc 3 dX12_copy_30 rfl rfl ?_
    refine la_m18 (pc := 31) hc (1) (rfl) (by omega) dX12_copy_31 ?_
    refine g_if_ge (pc := 32) hc 38 dX12_copy_32 (by decide) (fun c2 => ?_) (fun c2 => ?_)
    · refine g_iload_n (pc := 38) hc 2 dX12_copy_38 rfl rfl ?_
      refine g_if_lt (pc := 39) hc 87 dX12_copy_39 (by decide) (fun c3 => ?_) (fun c3 => ?_)
      · refine g_ldc (pc := 87) (v := (-1000000013)) hc tw_1372 dX12_copy_87 ?_
        exact g_iret (pc := 89) hc dX12_copy_89 (by rw [if_neg (ne_true_of_eq_false (by unfold cms; (repeat (first | rw [if_pos c1] | rw [if_neg c1] | rw [if_neg (ne_true_of_eq_false c1)] | rw [if_pos c2] | rw [if_neg c2] | rw [if_neg (ne_true_of_eq_false c2)])); try rfl)), if_neg (ne_true_of_eq_false (by unfold cok; (repeat (first | rw [if_pos c3] | rw [if_neg c3] | rw [if_neg (ne_true_of_eq_false c3)])); try rfl))]) (by rw [if_neg (ne_true_of_eq_false (by unfold cms; (repeat (first | rw [if_pos c1] | rw [if_neg c1] | rw [if_neg (ne_true_of_eq_false c1)] | rw [if_pos c2] | rw [if_neg c2] | rw [if_neg (ne_true_of_eq_false c2)])); try rfl)), if_neg (ne_true_of_eq_false (by unfold cok; (repeat (first | rw [if_pos c3] | rw [if_neg c3] | rw [if_neg (ne_true_of_eq_false c3)])); try rfl))])
      · refine g_iload (pc := 42) hc 4 dX12_copy_42 rfl ?_
        refine g_if_lt (pc := 44) hc 87 dX12_copy_44 (by decide) (fun c4 => ?_) (fun c4 => ?_)
        · refine g_ldc (pc := 87) (v := (-1000000013)) hc tw_1372 dX12_copy_87 ?_
          exact g_iret (pc := 89) hc dX12_copy_89 (by rw [if_neg (ne_true_of_eq_false (by unfold cms; (repeat (first | rw [if_pos c1] | rw [if_neg c1] | rw [if_neg (ne_true_of_eq_false c1)] | rw [if_pos c2] | rw [if_neg c2] | rw [if_neg (ne_true_of_eq_false c2)])); try rfl)), if_neg (ne_true_of_eq_false (by unfold cok; (repeat (first | rw [if_pos c3] | rw [if_neg c3] | rw [if_neg (ne_true_of_eq_false c3)] | rw [if_pos c4] | rw [if_neg c4] | rw [if_neg (ne_true_of_eq_false c4)])); try rfl))]) (by rw [if_neg (ne_true_of_eq_false (by unfold cms; (repeat (first | rw [if_pos c1] | rw [if_neg c1] | rw [if_neg (ne_true_of_eq_false c1)] | rw [if_pos c2] | rw [if_neg c2] | rw [if_neg (ne_true_of_eq_false c2)])); try rfl)), if_neg (ne_true_of_eq_false (by unfold cok; (repeat (first | rw [if_pos c3] | rw [if_neg c3] | rw [if_neg (ne_true_of_eq_false c3)] | rw [if_pos c4] | rw [if_neg c4] | rw [if_neg (ne_true_of_eq_false c4)])); try rfl))])
        · refine g_iload (pc := 47) hc 5 dX12_copy_47 rfl ?_
          refine g_if_lt (pc := 49) hc 87 dX12_copy_49 (by decide) (fun c5 => ?_) (fun c5 => ?_)
          · refine g_ldc (pc := 87) (v := (-1000000013)) hc tw_1372 dX12_copy_87 ?_
            exact g_iret (pc := 89) hc dX12_copy_89 (by rw [if_neg (ne_true_of_eq_false (by unfold cms; (repeat (first | rw [if_pos c1] | rw [if_neg c1] | rw [if_neg (ne_true_of_eq_false c1)] | rw [if_pos c2] | rw [if_neg c2] | rw [if_neg (ne_true_of_eq_false c2)])); try rfl)), if_neg (ne_true_of_eq_false (by unfold cok; (repeat (first | rw [if_pos c3] | rw [if_neg c3] | rw [if_neg (ne_true_of_eq_false c3)] | rw [if_pos c4] | rw [if_neg c4] | rw [if_neg (ne_true_of_eq_false c4)] | rw [if_pos c5] | rw [if_neg c5] | rw [if_neg (ne_true_of_eq_false c5)])); try rfl))]) (by rw [if_neg (ne_true_of_eq_false (by unfold cms; (repeat (first | rw [if_pos c1] | rw [if_neg c1] | rw [if_neg (ne_true_of_eq_false c1)] | rw [if_pos c2] | rw [if_neg c2] | rw [if_neg (ne_true_of_eq_false c2)])); try rfl)), if_neg (ne_true_of_eq_false (by unfold cok; (repeat (first | rw [if_pos c3] | rw [if_neg c3] | rw [if_neg (ne_true_of_eq_false c3)] | rw [if_pos c4] | rw [if_neg c4] | rw [if_neg (ne_true_of_eq_false c4)] | rw [if_pos c5] | rw [if_neg c5] | rw [if_neg (ne_true_of_eq_false c5)])); try rfl))])
          · refine g_iload_n (pc := 52) hc 2 dX12_copy_52 rfl rfl ?_
            refine g_i2l (pc := 53) (v := (y : Int32).toInt64) hc dX12_copy_53 rfl ?_
            refine g_iload (pc := 54) hc 5 dX12_copy_54 rfl ?_
            refine g_i2l (pc := 56) (v := (t : Int32).toInt64) hc dX12_copy_56 rfl ?_
            refine g_ladd (pc := 57) hc dX12_copy_57 ?_
            refine g_aload_n (pc := 58) hc 0 dX12_copy_58 rfl rfl ?_
            refine gf_m0_places (pc := 59) hc tw_1027 dX12_copy_59 ?_
            refine g_iload_n (pc := 62) hc 1 dX12_copy_62 rfl rfl ?_
            refine la_m18 (pc := 63) hc (0) (rfl) (by omega) dX12_copy_63 ?_
            refine g_i2l (pc := 64) (v := ((ar 18) 0 : Int32).toInt64) hc dX12_copy_64 rfl ?_
            refine g_lcmp (pc := 65) hc dX12_copy_65 ?_
            refine g_if_gt (pc := 66) hc 87 dX12_copy_66 (by decide) (fun c6 => ?_) (fun c6 => ?_)
            · refine g_ldc (pc := 87) (v := (-1000000013)) hc tw_1372 dX12_copy_87 ?_
              exact g_iret (pc := 89) hc dX12_copy_89 (by rw [if_neg (ne_true_of_eq_false (by unfold cms; (repeat (first | rw [if_pos c1] | rw [if_neg c1] | rw [if_neg (ne_true_of_eq_false c1)] | rw [if_pos c2] | rw [if_neg c2] | rw [if_neg (ne_true_of_eq_false c2)])); try rfl)), if_neg (ne_true_of_eq_false (by unfold cok; (repeat (first | rw [if_pos c3] | rw [if_neg c3] | rw [if_neg (ne_true_of_eq_false c3)] | rw [if_pos c4] | rw [if_neg c4] | rw [if_neg (ne_true_of_eq_false c4)] | rw [if_pos c5] | rw [if_neg c5] | rw [if_neg (ne_true_of_eq_false c5)] | rw [if_pos c6] | rw [if_neg c6] | rw [if_neg (ne_true_of_eq_false c6)])); try rfl))]) (by rw [if_neg (ne_true_of_eq_false (by unfold cms; (repeat (first | rw [if_pos c1] | rw [if_neg c1] | rw [if_neg (ne_true_of_eq_false c1)] | rw [if_pos c2] | rw [if_neg c2] | rw [if_neg (ne_true_of_eq_false c2)])); try rfl)), if_neg (ne_true_of_eq_false (by unfold cok; (repeat (first | rw [if_pos c3] | rw [if_neg c3] | rw [if_neg (ne_true_of_eq_false c3)] | rw [if_pos c4] | rw [if_neg c4] | rw [if_neg (ne_true_of_eq_false c4)] | rw [if_pos c5] | rw [if_neg c5] | rw [if_neg (ne_true_of_eq_false c5)] | rw [if_pos c6] | rw [if_neg c6] | rw [if_neg (ne_true_of_eq_false c6)])); try rfl))])
            · refine g_iload (pc := 69) hc 4 dX12_copy_69 rfl ?_
              refine g_i2l (pc := 71) (v := (u : Int32).toInt64) hc dX12_copy_71 rfl ?_
              refine g_iload (pc := 72) hc 5 dX12_copy_72 rfl ?_
              refine g_i2l (pc := 74) (v := (t : Int32).toInt64) hc dX12_copy_74 rfl ?_
              refine g_ladd (pc := 75) hc dX12_copy_75 ?_
              refine g_aload_n (pc := 76) hc 0 dX12_copy_76 rfl rfl ?_
              refine gf_m0_places (pc := 77) hc tw_1027 dX12_copy_77 ?_
              refine g_iload_n (pc := 80) hc 3 dX12_copy_80 rfl rfl ?_
              refine la_m18 (pc := 81) hc (1) (rfl) (by omega) dX12_copy_81 ?_
              refine g_i2l (pc := 82) (v := ((ar 18) 1 : Int32).toInt64) hc dX12_copy_82 rfl ?_
              refine g_lcmp (pc := 83) hc dX12_copy_83 ?_
              refine g_if_le (pc := 84) hc 90 dX12_copy_84 (by decide) (fun c7 => ?_) (fun c7 => ?_)
              · have hck : cok y u t (ar 18 0) (ar 18 1) = true := by unfold cok; (repeat (first | rw [if_pos c3] | rw [if_neg c3] | rw [if_neg (ne_true_of_eq_false c3)] | rw [if_pos c4] | rw [if_neg c4] | rw [if_neg (ne_true_of_eq_false c4)] | rw [if_pos c5] | rw [if_neg c5] | rw [if_neg (ne_true_of_eq_false c5)] | rw [if_pos c6] | rw [if_neg c6] | rw [if_neg (ne_true_of_eq_false c6)] | rw [if_pos c7] | rw [if_neg c7] | rw [if_neg (ne_true_of_eq_false c7)]))
                obtain ⟨a, b, n, han, hbn, hy, hu, ht⟩ := hr hck
                refine g_eq (ws' := mw E ad sc ar la) (lv' := [(0, .ref (ad 0)), (1, .int (nI 0)), (2, .int (nI a)), (3, .int (nI 1)), (4, .int (nI b)), (5, .int (nI n))]) rfl (by rw [hy, hu, ht]) rfl ?_
                refine g_iconst (pc := 90) (v := nI 0) hc dX12_copy_90 (by decide) ?_
                refine g_istore (pc := 91) (lv' := [(0, .ref (ad 0)), (1, .int (nI 0)), (2, .int (nI a)), (3, .int (nI 1)), (4, .int (nI b)), (5, .int (nI n)), (6, .int (nI 0))]) hc dX12_copy_91 (by decide) rfl ?_
                have L93_8 : ∀ (ki i : Nat), i + ki = n → G zp l ze ({ frames := 2, cells := 0, slots := 0, locals := 42 }) zs zm za zb zh zc 0 0 (MQ zb (Qz E A (some (.int (if cms (ar 18 0) (ar 18 1) = true then (-1000000011) else if cok y u t (ar 18 0) (ar 18 1) = true then t else (-1000000013)))) (if cms (ar 18 0) (ar 18 1) = true then mw E ad sc ar la else if cok y u t (ar 18 0) (ar 18 1) = true then mw E ad sc (va_up (va_up ar 29 (cotI (fun i => ar 19 (64 * 0 + tn y + i)) (ar 29) (tn t))) 19 (cpO (cotI (fun i => ar 19 (64 * 0 + tn y + i)) (ar 29) (tn t)) (ar 19) (64 * 1 + tn u) (tn t))) la else mw E ad sc ar la)) za zs 0 0 A) E A 7 (mw E ad sc (va_up ar 29 (cotI (fun i => ar 19 (64 * 0 + a + i)) (ar 29) (i))) la) (93) [(0, .ref (ad 0)), (1, .int (nI 0)), (2, .int (nI a)), (3, .int (nI 1)), (4, .int (nI b)), (5, .int (nI n)), (6, .int (nI (i)))] [] := by
                  intro ki
                  induction ki with
                  | zero =>
                    intro i lhi
                    have lhin : n = i := by omega
                    subst lhin
                    refine g_iload (pc := 93) hc 6 dX12_copy_93 rfl ?_
                    refine g_iload (pc := 95) hc 5 dX12_copy_95 rfl ?_
                    refine g_icmp_ge_t (pc := 97) hc 127 dX12_copy_97 (by decide) (nI_le (by omega) (by omega)) ?_
                    refine g_iconst (pc := 127) (v := nI 0) hc dX12_copy_127 (by decide) ?_
                    refine g_istore (pc := 128) (lv' := [(0, .ref (ad 0)), (1, .int (nI 0)), (2, .int (nI a)), (3, .int (nI 1)), (4, .int (nI b)), (5, .int (nI n)), (6, .int (nI 0))]) hc dX12_copy_128 (by decide) rfl ?_
                    have L130_9 : ∀ (kj j : Nat), j + kj = n → G zp l ze ({ frames := 2, cells := 0, slots := 0, locals := 42 }) zs zm za zb zh zc 0 0 (MQ zb (Qz E A (some (.int (if cms (ar 18 0) (ar 18 1) = true then (-1000000011) else if cok y u t (ar 18 0) (ar 18 1) = true then t else (-1000000013)))) (if cms (ar 18 0) (ar 18 1) = true then mw E ad sc ar la else if cok y u t (ar 18 0) (ar 18 1) = true then mw E ad sc (va_up (va_up ar 29 (cotI (fun i => ar 19 (64 * 0 + tn y + i)) (ar 29) (tn t))) 19 (cpO (cotI (fun i => ar 19 (64 * 0 + tn y + i)) (ar 29) (tn t)) (ar 19) (64 * 1 + tn u) (tn t))) la else mw E ad sc ar la)) za zs 0 0 A) E A 7 (mw E ad sc (va_up (va_up ar 29 (cotI (fun i => ar 19 (64 * 0 + a + i)) (ar 29) (n))) 19 (cpO (cotI (fun i => ar 19 (64 * 0 + a + i)) (ar 29) (n)) (ar 19) (64 * 1 + b) (j))) la) (130) [(0, .ref (ad 0)), (1, .int (nI 0)), (2, .int (nI a)), (3, .int (nI 1)), (4, .int (nI b)), (5, .int (nI n)), (6, .int (nI (j)))] [] := by
                      intro kj
                      induction kj with
                      | zero =>
                        intro j lhj
                        have lhjn : n = j := by omega
                        subst lhjn
                        refine g_iload (pc := 130) hc 6 dX12_copy_130 rfl ?_
                        refine g_iload (pc := 132) hc 5 dX12_copy_132 rfl ?_
                        refine g_icmp_ge_t (pc := 134) hc 165 dX12_copy_134 (by decide) (nI_le (by omega) (by omega)) ?_
                        refine g_iload (pc := 165) hc 5 dX12_copy_165 rfl ?_
                        exact g_iret (pc := 167) hc dX12_copy_167 (by rw [if_neg (ne_true_of_eq_false (by unfold cms; (repeat (first | rw [if_pos c1] | rw [if_neg c1] | rw [if_neg (ne_true_of_eq_false c1)] | rw [if_pos c2] | rw [if_neg c2] | rw [if_neg (ne_true_of_eq_false c2)])); try rfl)), if_pos hck, ht]) (by rw [if_neg (ne_true_of_eq_false (by unfold cms; (repeat (first | rw [if_pos c1] | rw [if_neg c1] | rw [if_neg (ne_true_of_eq_false c1)] | rw [if_pos c2] | rw [if_neg c2] | rw [if_neg (ne_true_of_eq_false c2)])); try rfl)), if_pos hck, hy, hu, ht, tn, tn, tn, nI_clamp (by omega), nI_clamp (by omega), nI_clamp (by omega)])
                      | succ kj ihj =>
                        intro j lhj
                        have lhjn : j < n := by omega
                        refine g_iload (pc := 130) hc 6 dX12_copy_130 rfl ?_
                        refine g_iload (pc := 132) hc 5 dX12_copy_132 rfl ?_
                        refine g_icmp_ge_f (pc := 134) hc 165 dX12_copy_134 (by decide) (nI_ge (by omega) (by omega)) ?_
                        refine g_aload_n (pc := 137) hc 0 dX12_copy_137 rfl rfl ?_
                        refine gf_m0_numbers (pc := 138) hc tw_1028 dX12_copy_138 ?_
                        refine g_bipush (pc := 141) (v := nI 64) hc dX12_copy_141 (by decide) ?_
                        refine g_iload_n (pc := 143) hc 3 dX12_copy_143 rfl rfl ?_
                        refine g_imul (pc := 144) hc dX12_copy_144 ?_
                        refine g_topi (v := nI (64 * 1)) (pk_mul 64 1) ?_
                        refine g_iload (pc := 145) hc 4 dX12_copy_145 rfl ?_
                        refine g_iadd (pc := 147) hc dX12_copy_147 ?_
                        refine g_topi (v := nI ((64 * 1) + b)) (nI_add (64 * 1) b) ?_
                        refine g_iload (pc := 148) hc 6 dX12_copy_148 rfl ?_
                        refine g_iadd (pc := 150) hc dX12_copy_150 ?_
                        refine g_topi (v := nI (((64 * 1) + b) + j)) (nI_add ((64 * 1) + b) j) ?_
                        refine g_aload_n (pc := 151) hc 0 dX12_copy_151 rfl rfl ?_
                        refine gf_m0_carried (pc := 152) hc tw_1043 dX12_copy_152 ?_
                        refine g_iload (pc := 155) hc 6 dX12_copy_155 rfl ?_
                        refine la_m29 (pc := 157) hc (j) (rfl) (by omega) dX12_copy_157 ?_
                        refine g_topi (v := (cotI (fun i => ar 19 (64 * 0 + a + i)) (ar 29) (n)) j) rfl ?_
                        refine sa_m19 (pc := 158) hc hA (((64 * 1) + b) + j) (rfl) (by omega) dX12_copy_158 ?_
                        refine g_eq (ws' := mw E ad sc (va_up (va_up ar 29 (cotI (fun i => ar 19 (64 * 0 + a + i)) (ar 29) (n))) 19 (upd (cpO (cotI (fun i => ar 19 (64 * 0 + a + i)) (ar 29) (n)) (ar 19) (64 * 1 + b) (j)) (((64 * 1) + b) + j) ((cotI (fun i => ar 19 (64 * 0 + a + i)) (ar 29) (n)) j))) la) (lv' := [(0, .ref (ad 0)), (1, .int (nI 0)), (2, .int (nI a)), (3, .int (nI 1)), (4, .int (nI b)), (5, .int (nI n)), (6, .int (nI (j)))]) rfl rfl rfl ?_
                        refine g_iinc (pc := 159) (v := nI (j + 1)) (lv' := [(0, .ref (ad 0)), (1, .int (nI 0)), (2, .int (nI a)), (3, .int (nI 1)), (4, .int (nI b)), (5, .int (nI n)), (6, .int (nI (j + 1)))]) hc 6 dX12_copy_159 rfl (nI_ofi j 1) (by decide) rfl ?_
                        refine g_goto (pc := 162) hc 130 dX12_copy_162 (by decide) ?_
                        exact g_eq (ws' := mw E ad sc (va_up (va_up ar 29 (cotI (fun i => ar 19 (64 * 0 + a + i)) (ar 29) (n))) 19 (cpO (cotI (fun i => ar 19 (64 * 0 + a + i)) (ar 29) (n)) (ar 19) (64 * 1 + b) (j + 1))) la) (lv' := [(0, .ref (ad 0)), (1, .int (nI 0)), (2, .int (nI a)), (3, .int (nI 1)), (4, .int (nI b)), (5, .int (nI n)), (6, .int (nI (j + 1)))]) (rfl) (rfl) rfl (ihj (j + 1) (by omega))
                    exact g_eq (ws' := mw E ad sc (va_up (va_up ar 29 (cotI (fun i => ar 19 (64 * 0 + a + i)) (ar 29) (n))) 19 (cpO (cotI (fun i => ar 19 (64 * 0 + a + i)) (ar 29) (n)) (ar 19) (64 * 1 + b) (0))) la) (lv' := [(0, .ref (ad 0)), (1, .int (nI 0)), (2, .int (nI a)), (3, .int (nI 1)), (4, .int (nI b)), (5, .int (nI n)), (6, .int (nI (0)))]) (rfl) (rfl) rfl (L130_9 (n - 0) (0) (by omega))
                  | succ ki ihi =>
                    intro i lhi
                    have lhin : i < n := by omega
                    refine g_iload (pc := 93) hc 6 dX12_copy_93 rfl ?_
                    refine g_iload (pc := 95) hc 5 dX12_copy_95 rfl ?_
                    refine g_icmp_ge_f (pc := 97) hc 127 dX12_copy_97 (by decide) (nI_ge (by omega) (by omega)) ?_
                    refine g_aload_n (pc := 100) hc 0 dX12_copy_100 rfl rfl ?_
                    refine gf_m0_carried (pc := 101) hc tw_1043 dX12_copy_101 ?_
                    refine g_iload (pc := 104) hc 6 dX12_copy_104 rfl ?_
                    refine g_aload_n (pc := 106) hc 0 dX12_copy_106 rfl rfl ?_
                    refine gf_m0_numbers (pc := 107) hc tw_1028 dX12_copy_107 ?_
                    refine g_bipush (pc := 110) (v := nI 64) hc dX12_copy_110 (by decide) ?_
                    refine g_iload_n (pc := 112) hc 1 dX12_copy_112 rfl rfl ?_
                    refine g_imul (pc := 113) hc dX12_copy_113 ?_
                    refine g_topi (v := nI (64 * 0)) (pk_mul 64 0) ?_
                    refine g_iload_n (pc := 114) hc 2 dX12_copy_114 rfl rfl ?_
                    refine g_iadd (pc := 115) hc dX12_copy_115 ?_
                    refine g_topi (v := nI ((64 * 0) + a)) (nI_add (64 * 0) a) ?_
                    refine g_iload (pc := 116) hc 6 dX12_copy_116 rfl ?_
                    refine g_iadd (pc := 118) hc dX12_copy_118 ?_
                    refine g_topi (v := nI (((64 * 0) + a) + i)) (nI_add ((64 * 0) + a) i) ?_
                    refine la_m19 (pc := 119) hc (((64 * 0) + a) + i) (rfl) (by omega) dX12_copy_119 ?_
                    refine g_topi (v := (ar 19) (((64 * 0) + a) + i)) rfl ?_
                    refine sa_m29 (pc := 120) hc hA (i) (rfl) (by omega) dX12_copy_120 ?_
                    refine g_eq (ws' := mw E ad sc (va_up ar 29 (upd (cotI (fun i => ar 19 (64 * 0 + a + i)) (ar 29) (i)) i ((ar 19) (((64 * 0) + a) + i)))) la) (lv' := [(0, .ref (ad 0)), (1, .int (nI 0)), (2, .int (nI a)), (3, .int (nI 1)), (4, .int (nI b)), (5, .int (nI n)), (6, .int (nI (i)))]) rfl rfl rfl ?_
                    refine g_iinc (pc := 121) (v := nI (i + 1)) (lv' := [(0, .ref (ad 0)), (1, .int (nI 0)), (2, .int (nI a)), (3, .int (nI 1)), (4, .int (nI b)), (5, .int (nI n)), (6, .int (nI (i + 1)))]) hc 6 dX12_copy_121 rfl (nI_ofi i 1) (by decide) rfl ?_
                    refine g_goto (pc := 124) hc 93 dX12_copy_124 (by decide) ?_
                    exact g_eq (ws' := mw E ad sc (va_up ar 29 (cotI (fun i => ar 19 (64 * 0 + a + i)) (ar 29) (i + 1))) la) (lv' := [(0, .ref (ad 0)), (1, .int (nI 0)), (2, .int (nI a)), (3, .int (nI 1)), (4, .int (nI b)), (5, .int (nI n)), (6, .int (nI (i + 1)))]) (rfl) (rfl) rfl (ihi (i + 1) (by omega))
                exact g_eq (ws' := mw E ad sc (va_up ar 29 (cotI (fun i => ar 19 (64 * 0 + a + i)) (ar 29) (0))) la) (lv' := [(0, .ref (ad 0)), (1, .int (nI 0)), (2, .int (nI a)), (3, .int (nI 1)), (4, .int (nI b)), (5, .int (nI n)), (6, .int (nI (0)))]) (rfl) (rfl) rfl (L93_8 (n - 0) (0) (by omega))
              · refine g_ldc (pc := 87) (v := (-1000000013)) hc tw_1372 dX12_copy_87 ?_
                exact g_iret (pc := 89) hc dX12_copy_89 (by rw [if_neg (ne_true_of_eq_false (by unfold cms; (repeat (first | rw [if_pos c1] | rw [if_neg c1] | rw [if_neg (ne_true_of_eq_false c1)] | rw [if_pos c2] | rw [if_neg c2] | rw [if_neg (ne_true_of_eq_false c2)])); try rfl)), if_neg (ne_true_of_eq_false (by unfold cok; (repeat (first | rw [if_pos c3] | rw [if_neg c3] | rw [if_neg (ne_true_of_eq_false c3)] | rw [if_pos c4] | rw [if_neg c4] | rw [if_neg (ne_true_of_eq_false c4)] | rw [if_pos c5] | rw [if_neg c5] | rw [if_neg (ne_true_of_eq_false c5)] | rw [if_pos c6] | rw [if_neg c6] | rw [if_neg (ne_true_of_eq_false c6)] | rw [if_pos c7] | rw [if_neg c7] | rw [if_neg (ne_true_of_eq_false c7)])); try rfl))]) (by rw [if_neg (ne_true_of_eq_false (by unfold cms; (repeat (first | rw [if_pos c1] | rw [if_neg c1] | rw [if_neg (ne_true_of_eq_false c1)] | rw [if_pos c2] | rw [if_neg c2] | rw [if_neg (ne_true_of_eq_false c2)])); try rfl)), if_neg (ne_true_of_eq_false (by unfold cok; (repeat (first | rw [if_pos c3] | rw [if_neg c3] | rw [if_neg (ne_true_of_eq_false c3)] | rw [if_pos c4] | rw [if_neg c4] | rw [if_neg (ne_true_of_eq_false c4)] | rw [if_pos c5] | rw [if_neg c5] | rw [if_neg (ne_true_of_eq_false c5)] | rw [if_pos c6] | rw [if_neg c6] | rw [if_neg (ne_true_of_eq_false c6)] | rw [if_pos c7] | rw [if_neg c7] | rw [if_neg (ne_true_of_eq_false c7)])); try rfl))])
    · refine g_ldc (pc := 35) (v := (-1000000011)) hc tw_1282 dX12_copy_35 ?_
      exact g_iret (pc := 37) hc dX12_copy_37 (by rw [if_pos (by unfold cms; (repeat (first | rw [if_pos c1] | rw [if_neg c1] | rw [if_neg (ne_true_of_eq_false c1)] | rw [if_pos c2] | rw [if_neg c2] | rw [if_neg (ne_true_of_eq_false c2)])); try rfl)]) (by rw [if_pos (by unfold cms; (repeat (first | rw [if_pos c1] | rw [if_neg c1] | rw [if_neg (ne_true_of_eq_false c1)] | rw [if_pos c2] | rw [if_neg c2] | rw [if_neg (ne_true_of_eq_false c2)])); try rfl)])

set_option maxHeartbeats 4000000 in
set_option maxRecDepth 100000 in
theorem c_X12_copy_10 (l : Launch) (E : Ev) {A : Nat → Prop} (ad : Nat → Nat) (hA : Oka 30 ad A) (sc : Nat → Int32) (ar : Nat → Nat → Int32) (la : Nat → Int64) (y u t : Int32) (hr : cok y u t (ar 18 1) (ar 18 0) = true → ∃ a b n : Nat, a + n ≤ 64 ∧ b + n ≤ 64 ∧ y = nI a ∧ u = nI b ∧ t = nI n) : Ct l E yX12_copy (.code yX12_copy cX12_copy 7 (some .int)) ({ frames := 2, cells := 0, slots := 0, locals := 42 }) A (mw E ad sc ar la) [.ref (ad 0), .int (nI 1), .int y, .int (nI 0), .int u, .int t] (some (.int (if cms (ar 18 1) (ar 18 0) = true then (-1000000011) else if cok y u t (ar 18 1) (ar 18 0) = true then t else (-1000000013)))) (if cms (ar 18 1) (ar 18 0) = true then mw E ad sc ar la else if cok y u t (ar 18 1) (ar 18 0) = true then mw E ad sc (va_up (va_up ar 29 (cotI (fun i => ar 19 (64 * 1 + tn y + i)) (ar 29) (tn t))) 19 (cpO (cotI (fun i => ar 19 (64 * 1 + tn y + i)) (ar 29) (tn t)) (ar 19) (64 * 0 + tn u) (tn t))) la else mw E ad sc ar la) := by
  refine Ct.of (lv := [(0, .ref (ad 0)), (1, .int (nI 1)), (2, .int y), (3, .int (nI 0)), (4, .int u), (5, .int t)]) (by decide +kernel) (Nat.le_of_ble_eq_true rfl) rfl ?_
  intro zp ze zs zm za zb zh zc hc
  refine g_iload_n (pc := 0) hc 1 dX12_copy_0 rfl rfl ?_
  refine g_callSi (pc := 1) (rest := []) (As := [.int (nI 1)]) hc (c_X12_isSheet l E ad hA sc ar la (nI 1)) mi_X12_isSheet tw_1364 rfl ⟨rfl, rfl, by decide, by decide⟩ (Nat.le_of_ble_eq_true rfl) ⟨Nat.le_refl _, Nat.le_refl _⟩ rfl dX12_copy_1 ?_
  refine g_if_eq_f (pc := 4) hc 14 dX12_copy_4 (by decide) (by decide) ?_
  refine g_iload_n (pc := 7) hc 3 dX12_copy_7 rfl rfl ?_
  refine g_callSi (pc := 8) (rest := []) (As := [.int (nI 0)]) hc (c_X12_isSheet l E ad hA sc ar la (nI 0)) mi_X12_isSheet tw_1364 rfl ⟨rfl, rfl, by decide, by decide⟩ (Nat.le_of_ble_eq_true rfl) ⟨Nat.le_refl _, Nat.le_refl _⟩ rfl dX12_copy_8 ?_
  refine g_if_ne_t (pc := 11) hc 17 dX12_copy_11 (by decide) (by decide) ?_
  refine g_aload_n (pc := 17) hc 0 dX12_copy_17 rfl rfl ?_
  refine gf_m0_places (pc := 18) hc tw_1027 dX12_copy_18 ?_
  refine g_iload_n (pc := 21) hc 1 dX12_copy_21 rfl rfl ?_
  refine la_m18 (pc := 22) hc (1) (rfl) (by omega) dX12_copy_22 ?_
  refine g_if_lt (pc := 23) hc 35 dX12_copy_23 (by decide) (fun c1 => ?_) (fun c1 => ?_)
  · refine g_ldc (pc := 35) (v := (-1000000011)) hc tw_1282 dX12_copy_35 ?_
    exact g_iret (pc := 37) hc dX12_copy_37 (by rw [if_pos (by unfold cms; (repeat (first | rw [if_pos c1] | rw [if_neg c1] | rw [if_neg (ne_true_of_eq_false c1)])); try rfl)]) (by rw [if_pos (by unfold cms; (repeat (first | rw [if_pos c1] | rw [if_neg c1] | rw [if_neg (ne_true_of_eq_false c1)])); try rfl)])
  · refine g_aload_n (pc := 26) hc 0 dX12_copy_26 rfl rfl ?_
    refine gf_m0_places (pc := 27) hc tw_1027 dX12_copy_27 ?_
    refine g_iload_n (pc := 30) hc 3 dX12_copy_30 rfl rfl ?_
    refine la_m18 (pc := 31) hc (0) (rfl) (by omega) dX12_copy_31 ?_
    refine g_if_ge (pc := 32) hc 38 dX12_copy_32 (by decide) (fun c2 => ?_) (fun c2 => ?_)
    · refine g_iload_n (pc := 38) hc 2 dX12_copy_38 rfl rfl ?_
      refine g_if_lt (pc := 39) hc 87 dX12_copy_39 (by decide) (fun c3 => ?_) (fun c3 => ?_)
      · refine g_ldc (pc := 87) (v := (-1000000013)) hc tw_1372 dX12_copy_87 ?_
        exact g_iret (pc := 89) hc dX12_copy_89 (by rw [if_neg (ne_true_of_eq_false (by unfold cms; (repeat (first | rw [if_pos c1] | rw [if_neg c1] | rw [if_neg (ne_true_of_eq_false c1)] | rw [if_pos c2] | rw [if_neg c2] | rw [if_neg (ne_true_of_eq_false c2)])); try rfl)), if_neg (ne_true_of_eq_false (by unfold cok; (repeat (first | rw [if_pos c3] | rw [if_neg c3] | rw [if_neg (ne_true_of_eq_false c3)])); try rfl))]) (by rw [if_neg (ne_true_of_eq_false (by unfold cms; (repeat (first | rw [if_pos c1] | rw [if_neg c1] | rw [if_neg (ne_true_of_eq_false c1)] | rw [if_pos c2] | rw [if_neg c2] | rw [if_neg (ne_true_of_eq_false c2)])); try rfl)), if_neg (ne_true_of_eq_false (by unfold cok; (repeat (first | rw [if_pos c3] | rw [if_neg c3] | rw [if_neg (ne_true_of_eq_false c3)])); try rfl))])
      · refine g_iload (pc := 42) hc 4 dX12_copy_42 rfl ?_
        refine g_if_lt (pc := 44) hc 87 dX12_copy_44 (by decide) (fun c4 => ?_) (fun c4 => ?_)
        · refine g_ldc (pc := 87) (v := (-1000000013)) hc tw_1372 dX12_copy_87 ?_
          exact g_iret (pc := 89) hc dX12_copy_89 (by rw [if_neg (ne_true_of_eq_false (by unfold cms; (repeat (first | rw [if_pos c1] | rw [if_neg c1] | rw [if_neg (ne_true_of_eq_false c1)] | rw [if_pos c2] | rw [if_neg c2] | rw [if_neg (ne_true_of_eq_false c2)])); try rfl)), if_neg (ne_true_of_eq_false (by unfold cok; (repeat (first | rw [if_pos c3] | rw [if_neg c3] | rw [if_neg (ne_true_of_eq_false c3)] | rw [if_pos c4] | rw [if_neg c4] | rw [if_neg (ne_true_of_eq_false c4)])); try rfl))]) (by rw [if_neg (ne_true_of_eq_false (by unfold cms; (repeat (first | rw [if_pos c1] | rw [if_neg c1] | rw [if_neg (ne_true_of_eq_false c1)] | rw [if_pos c2] | rw [if_neg c2] | rw [if_neg (ne_true_of_eq_false c2)])); try rfl)), if_neg (ne_true_of_eq_false (by unfold cok; (repeat (first | rw [if_pos c3] | rw [if_neg c3] | rw [if_neg (ne_true_of_eq_false c3)] | rw [if_pos c4] | rw [if_neg c4] | rw [if_neg (ne_true_of_eq_false c4)])); try rfl))])
        · refine g_iload (pc := 47) hc 5 dX12_copy_47 rfl ?_
          refine g_if_lt (pc := 49) hc 87 dX12_copy_49 (by decide) (fun c5 => ?_) (fun c5 => ?_)
          · refine g_ldc (pc := 87) (v := (-1000000013)) hc tw_1372 dX12_copy_87 ?_
            exact g_iret (pc := 89) hc dX12_copy_89 (by rw [if_neg (ne_true_of_eq_false (by unfold cms; (repeat (first | rw [if_pos c1] | rw [if_neg c1] | rw [if_neg (ne_true_of_eq_false c1)] | rw [if_pos c2] | rw [if_neg c2] | rw [if_neg (ne_true_of_eq_false c2)])); try rfl)), if_neg (ne_true_of_eq_false (by unfold cok; (repeat (first | rw [if_pos c3] | rw [if_neg c3] | rw [if_neg (ne_true_of_eq_false c3)] | rw [if_pos c4] | rw [if_neg c4] | rw [if_neg (ne_true_of_eq_false c4)] | rw [if_pos c5] | rw [if_neg c5] | rw [if_neg (ne_true_of_eq_false c5)])); try rfl))]) (by rw [if_neg (ne_true_of_eq_false (by unfold cms; (repeat (first | rw [if_pos c1] | rw [if_neg c1] | rw [if_neg (ne_true_of_eq_false c1)] | rw [if_pos c2] | rw [if_neg c2] | rw [if_neg (ne_true_of_eq_false c2)])); try rfl)), if_neg (ne_true_of_eq_false (by unfold cok; (repeat (first | rw [if_pos c3] | rw [if_neg c3] | rw [if_neg (ne_true_of_eq_false c3)] | rw [if_pos c4] | rw [if_neg c4] | rw [if_neg (ne_true_of_eq_false c4)] | rw [if_pos c5] | rw [if_neg c5] | rw [if_neg (ne_true_of_eq_false c5)])); try rfl))])
          · refine g_iload_n (pc := 52) hc 2 dX12_copy_52 rfl rfl ?_
            refine g_i2l (pc := 53) (v := (y : Int32).toInt64) hc dX12_copy_53 rfl ?_
            refine g_iload (pc := 54) hc 5 dX12_copy_54 rfl ?_
            refine g_i2l (pc := 56) (v := (t : Int32).toInt64) hc dX12_copy_56 rfl ?_
            refine g_ladd (pc := 57) hc dX12_copy_57 ?_
            refine g_aload_n (pc := 58) hc 0 dX12_copy_58 rfl rfl ?_
            refine gf_m0_places (pc := 59) hc tw_1027 dX12_copy_59 ?_
            refine g_iload_n (pc := 62) hc 1 dX12_copy_62 rfl rfl ?_
            refine la_m18 (pc := 63) hc (1) (rfl) (by omega) dX12_copy_63 ?_
            refine g_i2l (pc := 64) (v := ((ar 18) 1 : Int32).toInt64) hc dX12_copy_64 rfl ?_
            refine g_lcmp (pc := 65) hc dX12_copy_65 ?_
            refine g_if_gt (pc := 66) hc 87 dX12_copy_66 (by decide) (fun c6 => ?_) (fun c6 => ?_)
            · refine g_ldc (pc := 87) (v := (-1000000013)) hc tw_1372 dX12_copy_87 ?_
              exact g_iret (pc := 89) hc dX12_copy_89 (by rw [if_neg (ne_true_of_eq_false (by unfold cms; (repeat (first | rw [if_pos c1] | rw [if_neg c1] | rw [if_neg (ne_true_of_eq_false c1)] | rw [if_pos c2] | rw [if_neg c2] | rw [if_neg (ne_true_of_eq_false c2)])); try rfl)), if_neg (ne_true_of_eq_false (by unfold cok; (repeat (first | rw [if_pos c3] | rw [if_neg c3] | rw [if_neg (ne_true_of_eq_false c3)] | rw [if_pos c4] | rw [if_neg c4] | rw [if_neg (ne_true_of_eq_false c4)] | rw [if_pos c5] | rw [if_neg c5] | rw [if_neg (ne_true_of_eq_false c5)] | rw [if_pos c6] | rw [if_neg c6] | rw [if_neg (ne_true_of_eq_false c6)])); try rfl))]) (by rw [if_neg (ne_true_of_eq_false (by unfold cms; (repeat (first | rw [if_pos c1] | rw [if_neg c1] | rw [if_neg (ne_true_of_eq_false c1)] | rw [if_pos c2] | rw [if_neg c2] | rw [if_neg (ne_true_of_eq_false c2)])); try rfl)), if_neg (ne_true_of_eq_false (by unfold cok; (repeat (first | rw [if_pos c3] | rw [if_neg c3] | rw [if_neg (ne_true_of_eq_false c3)] | rw [if_pos c4] | rw [if_neg c4] | rw [if_neg (ne_true_of_eq_false c4)] | rw [if_pos c5] | rw [if_neg c5] | rw [if_neg (ne_true_of_eq_false c5)] | rw [if_pos c6] | rw [if_neg c6] | rw [if_neg (ne_true_of_eq_false c6)])); try rfl))])
            · refine g_iload (pc := 69) hc 4 dX12_copy_69 rfl ?_
              refine g_i2l (pc := 71) (v := (u : Int32).toInt64) hc dX12_copy_71 rfl ?_
              refine g_iload (pc := 72) hc 5 dX12_copy_72 rfl ?_
              refine g_i2l (pc := 74) (v := (t : Int32).toInt64) hc dX12_copy_74 rfl ?_
              refine g_ladd (pc := 75) hc dX12_copy_75 ?_
              refine g_aload_n (pc := 76) hc 0 dX12_copy_76 rfl rfl ?_
              refine gf_m0_places (pc := 77) hc tw_1027 dX12_copy_77 ?_
              refine g_iload_n (pc := 80) hc 3 dX12_copy_80 rfl rfl ?_
              refine la_m18 (pc := 81) hc (0) (rfl) (by omega) dX12_copy_81 ?_
              refine g_i2l (pc := 82) (v := ((ar 18) 0 : Int32).toInt64) hc dX12_copy_82 rfl ?_
              refine g_lcmp (pc := 83) hc dX12_copy_83 ?_
              refine g_if_le (pc := 84) hc 90 dX12_copy_84 (by decide) (fun c7 => ?_) (fun c7 => ?_)
              · have hck : cok y u t (ar 18 1) (ar 18 0) = true := by unfold cok; (repeat (first | rw [if_pos c3] | rw [if_neg c3] | rw [if_neg (ne_true_of_eq_false c3)] | rw [if_pos c4] | rw [if_neg c4] | rw [if_neg (ne_true_of_eq_false c4)] | rw [if_pos c5] | rw [if_neg c5] | rw [if_neg (ne_true_of_eq_false c5)] | rw [if_pos c6] | rw [if_neg c6] | rw [if_neg (ne_true_of_eq_false c6)] | rw [if_pos c7] | rw [if_neg c7] | rw [if_neg (ne_true_of_eq_false c7)]))
                obtain ⟨a, b, n, han, hbn, hy, hu, ht⟩ := hr hck
                refine g_eq (ws' := mw E ad sc ar la) (lv' := [(0, .ref (ad 0)), (1, .int (nI 1)), (2, .int (nI a)), (3, .int (nI 0)), (4, .int (nI b)), (5, .int (nI n))]) rfl (by rw [hy, hu, ht]) rfl ?_
                refine g_iconst (pc := 90) (v := nI 0) hc dX12_copy_90 (by decide) ?_
                refine g_istore (pc := 91) (lv' := [(0, .ref (ad 0)), (1, .int (nI 1)), (2, .int (nI a)), (3, .int (nI 0)), (4, .int (nI b)), (5, .int (nI n)), (6, .int (nI 0))]) hc dX12_copy_91 (by decide) rfl ?_
                have L93_8 : ∀ (ki i : Nat), i + ki = n → G zp l ze ({ frames := 2, cells := 0, slots := 0, locals := 42 }) zs zm za zb zh zc 0 0 (MQ zb (Qz E A (some (.int (if cms (ar 18 1) (ar 18 0) = true then (-1000000011) else if cok y u t (ar 18 1) (ar 18 0) = true then t else (-1000000013)))) (if cms (ar 18 1) (ar 18 0) = true then mw E ad sc ar la else if cok y u t (ar 18 1) (ar 18 0) = true then mw E ad sc (va_up (va_up ar 29 (cotI (fun i => ar 19 (64 * 1 + tn y + i)) (ar 29) (tn t))) 19 (cpO (cotI (fun i => ar 19 (64 * 1 + tn y + i)) (ar 29) (tn t)) (ar 19) (64 * 0 + tn u) (tn t))) la else mw E ad sc ar la)) za zs 0 0 A) E A 7 (mw E ad sc (va_up ar 29 (cotI (fun i => ar 19 (64 * 1 + a + i)) (ar 29) (i))) la) (93) [(0, .ref (ad 0)), (1, .int (nI 1)), (2, .int (nI a)), (3, .int (nI 0)), (4, .int (nI b)), (5, .int (nI n)), (6, .int (nI (i)))] [] := by
                  intro ki
                  induction ki with
                  | zero =>
                    intro i lhi
                    have lhin : n = i := by omega
                    subst lhin
                    refine g_iload (pc := 93) hc 6 dX12_copy_93 rfl ?_
                    refine g_iload (pc := 95) hc 5 dX12_copy_95 rfl ?_
                    refine g_icmp_ge_t (pc := 97) hc 127 dX12_copy_97 (by decide) (nI_le (by omega) (by omega)) ?_
                    refine g_iconst (pc := 127) (v := nI 0) hc dX12_copy_127 (by decide) ?_
                    refine g_istore (pc := 128) (lv' := [(0, .ref (ad 0)), (1, .int (nI 1)), (2, .int (nI a)), (3, .int (nI 0)), (4, .int (nI b)), (5, .int (nI n)), (6, .int (nI 0))]) hc dX12_copy_128 (by decide) rfl ?_
                    have L130_9 : ∀ (kj j : Nat), j + kj = n → G zp l ze ({ frames := 2, cells := 0, slots := 0, locals := 42 }) zs zm za zb zh zc 0 0 (MQ zb (Qz E A (some (.int (if cms (ar 18 1) (ar 18 0) = true then (-1000000011) else if cok y u t (ar 18 1) (ar 18 0) = true then t else (-1000000013)))) (if cms (ar 18 1) (ar 18 0) = true then mw E ad sc ar la else if cok y u t (ar 18 1) (ar 18 0) = true then mw E ad sc (va_up (va_up ar 29 (cotI (fun i => ar 19 (64 * 1 + tn y + i)) (ar 29) (tn t))) 19 (cpO (cotI (fun i => ar 19 (64 * 1 + tn y + i)) (ar 29) (tn t)) (ar 19) (64 * 0 + tn u) (tn t))) la else mw E ad sc ar la)) za zs 0 0 A) E A 7 (mw E ad sc (va_up (va_up ar 29 (cotI (fun i => ar 19 (64 * 1 + a + i)) (ar 29) (n))) 19 (cpO (cotI (fun i => ar 19 (64 * 1 + a + i)) (ar 29) (n)) (ar 19) (64 * 0 + b) (j))) la) (130) [(0, .ref (ad 0)), (1, .int (nI 1)), (2, .int (nI a)), (3, .int (nI 0)), (4, .int (nI b)), (5, .int (nI n)), (6, .int (nI (j)))] [] := by
                      intro kj
                      induction kj with
                      | zero =>
                        intro j lhj
                        have lhjn : n = j := by omega
                        subst lhjn
                        refine g_iload (pc := 130) hc 6 dX12_copy_130 rfl ?_
                        refine g_iload (pc := 132) hc 5 dX12_copy_132 rfl ?_
                        refine g_icmp_ge_t (pc := 134) hc 165 dX12_copy_134 (by decide) (nI_le (by omega) (by omega)) ?_
                        refine g_iload (pc := 165) hc 5 dX12_copy_165 rfl ?_
                        exact g_iret (pc := 167) hc dX12_copy_167 (by rw [if_neg (ne_true_of_eq_false (by unfold cms; (repeat (first | rw [if_pos c1] | rw [if_neg c1] | rw [if_neg (ne_true_of_eq_false c1)] | rw [if_pos c2] | rw [if_neg c2] | rw [if_neg (ne_true_of_eq_false c2)])); try rfl)), if_pos hck, ht]) (by rw [if_neg (ne_true_of_eq_false (by unfold cms; (repeat (first | rw [if_pos c1] | rw [if_neg c1] | rw [if_neg (ne_true_of_eq_false c1)] | rw [if_pos c2] | rw [if_neg c2] | rw [if_neg (ne_true_of_eq_false c2)])); try rfl)), if_pos hck, hy, hu, ht, tn, tn, tn, nI_clamp (by omega), nI_clamp (by omega), nI_clamp (by omega)])
                      | succ kj ihj =>
                        intro j lhj
                        have lhjn : j < n := by omega
                        refine g_iload (pc := 130) hc 6 dX12_copy_130 rfl ?_
                        refine g_iload (pc := 132) hc 5 dX12_copy_132 rfl ?_
                        refine g_icmp_ge_f (pc := 134) hc 165 dX12_copy_134 (by decide) (nI_ge (by omega) (by omega)) ?_
                        refine g_aload_n (pc := 137) hc 0 dX12_copy_137 rfl rfl ?_
                        refine gf_m0_numbers (pc := 138) hc tw_1028 dX12_copy_138 ?_
                        refine g_bipush (pc := 141) (v := nI 64) hc dX12_copy_141 (by decide) ?_
                        refine g_iload_n (pc := 143) hc 3 dX12_copy_143 rfl rfl ?_
                        refine g_imul (pc := 144) hc dX12_copy_144 ?_
                        refine g_topi (v := nI (64 * 0)) (pk_mul 64 0) ?_
                        refine g_iload (pc := 145) hc 4 dX12_copy_145 rfl ?_
                        refine g_iadd (pc := 147) hc dX12_copy_147 ?_
                        refine g_topi (v := nI ((64 * 0) + b)) (nI_add (64 * 0) b) ?_
                        refine g_iload (pc := 148) hc 6 dX12_copy_148 rfl ?_
                        refine g_iadd (pc := 150) hc dX12_copy_150 ?_
                        refine g_topi (v := nI (((64 * 0) + b) + j)) (nI_add ((64 * 0) + b) j) ?_
                        refine g_aload_n (pc := 151) hc 0 dX12_copy_151 rfl rfl ?_
                        refine gf_m0_carried (pc := 152) hc tw_1043 dX12_copy_152 ?_
                        refine g_iload (pc := 155) hc 6 dX12_copy_155 rfl ?_
                        refine la_m29 (pc := 157) hc (j) (rfl) (by omega) dX12_copy_157 ?_
                        refine g_topi (v := (cotI (fun i => ar 19 (64 * 1 + a + i)) (ar 29) (n)) j) rfl ?_
                        refine sa_m19 (pc := 158) hc hA (((64 * 0) + b) + j) (rfl) (by omega) dX12_copy_158 ?_
                        refine g_eq (ws' := mw E ad sc (va_up (va_up ar 29 (cotI (fun i => ar 19 (64 * 1 + a + i)) (ar 29) (n))) 19 (upd (cpO (cotI (fun i => ar 19 (64 * 1 + a + i)) (ar 29) (n)) (ar 19) (64 * 0 + b) (j)) (((64 * 0) + b) + j) ((cotI (fun i => ar 19 (64 * 1 + a + i)) (ar 29) (n)) j))) la) (lv' := [(0, .ref (ad 0)), (1, .int (nI 1)), (2, .int (nI a)), (3, .int (nI 0)), (4, .int (nI b)), (5, .int (nI n)), (6, .int (nI (j)))]) rfl rfl rfl ?_
                        refine g_iinc (pc := 159) (v := nI (j + 1)) (lv' := [(0, .ref (ad 0)), (1, .int (nI 1)), (2, .int (nI a)), (3, .int (nI 0)), (4, .int (nI b)), (5, .int (nI n)), (6, .int (nI (j + 1)))]) hc 6 dX12_copy_159 rfl (nI_ofi j 1) (by decide) rfl ?_
                        refine g_goto (pc := 162) hc 130 dX12_copy_162 (by decide) ?_
                        exact g_eq (ws' := mw E ad sc (va_up (va_up ar 29 (cotI (fun i => ar 19 (64 * 1 + a + i)) (ar 29) (n))) 19 (cpO (cotI (fun i => ar 19 (64 * 1 + a + i)) (ar 29) (n)) (ar 19) (64 * 0 + b) (j + 1))) la) (lv' := [(0, .ref (ad 0)), (1, .int (nI 1)), (2, .int (nI a)), (3, .int (nI 0)), (4, .int (nI b)), (5, .int (nI n)), (6, .int (nI (j + 1)))]) (rfl) (rfl) rfl (ihj (j + 1) (by omega))
                    exact g_eq (ws' := mw E ad sc (va_up (va_up ar 29 (cotI (fun i => ar 19 (64 * 1 + a + i)) (ar 29) (n))) 19 (cpO (cotI (fun i => ar 19 (64 * 1 + a + i)) (ar 29) (n)) (ar 19) (64 * 0 + b) (0))) la) (lv' := [(0, .ref (ad 0)), (1, .int (nI 1)), (2, .int (nI a)), (3, .int (nI 0)), (4, .int (nI b)), (5, .int (nI n)), (6, .int (nI (0)))]) (rfl) (rfl) rfl (L130_9 (n - 0) (0) (by omega))
                  | succ ki ihi =>
                    intro i lhi
                    have lhin : i < n := by omega
                    refine g_iload (pc := 93) hc 6 dX12_copy_93 rfl ?_
                    refine g_iload (pc := 95) hc 5 dX12_copy_95 rfl ?_
                    refine g_icmp_ge_f (pc := 97) hc 127 dX12_copy_97 (by decide) (nI_ge (by omega) (by omega)) ?_
                    refine g_aload_n (pc := 100) hc 0 dX12_copy_100 rfl rfl ?_
                    refine gf_m0_carried (pc := 101) hc tw_1043 dX12_copy_101 ?_
                    refine g_iload (pc := 104) hc 6 dX12_copy_104 rfl ?_
                    refine g_aload_n (pc := 106) hc 0 dX12_copy_106 rfl rfl ?_
                    refine gf_m0_numbers (pc := 107) hc tw_1028 dX12_copy_107 ?_
                    refine g_bipush (pc := 110) (v := nI 64) hc dX12_copy_110 (by decide) ?_
                    refine g_iload_n (pc := 112) hc 1 dX12_copy_112 rfl rfl ?_
                    refine g_imul (pc := 113) hc dX12_copy_113 ?_
                    refine g_topi (v := nI (64 * 1)) (pk_mul 64 1) ?_
                    refine g_iload_n (pc := 114) hc 2 dX12_copy_114 rfl rfl ?_
                    refine g_iadd (pc := 115) hc dX12_copy_115 ?_
                    refine g_topi (v := nI ((64 * 1) + a)) (nI_add (64 * 1) a) ?_
                    refine g_iload (pc := 116) hc 6 dX12_copy_116 rfl ?_
                    refine g_iadd (pc := 118) hc dX12_copy_118 ?_
                    refine g_topi (v := nI (((64 * 1) + a) + i)) (nI_add ((64 * 1) + a) i) ?_
                    refine la_m19 (pc := 119) hc (((64 * 1) + a) + i) (rfl) (by omega) dX12_copy_119 ?_
                    refine g_topi (v := (ar 19) (((64 * 1) + a) + i)) rfl ?_
                    refine sa_m29 (pc := 120) hc hA (i) (rfl) (by omega) dX12_copy_120 ?_
                    refine g_eq (ws' := mw E ad sc (va_up ar 29 (upd (cotI (fun i => ar 19 (64 * 1 + a + i)) (ar 29) (i)) i ((ar 19) (((64 * 1) + a) + i)))) la) (lv' := [(0, .ref (ad 0)), (1, .int (nI 1)), (2, .int (nI a)), (3, .int (nI 0)), (4, .int (nI b)), (5, .int (nI n)), (6, .int (nI (i)))]) rfl rfl rfl ?_
                    refine g_iinc (pc := 121) (v := nI (i + 1)) (lv' := [(0, .ref (ad 0)), (1, .int (nI 1)), (2, .int (nI a)), (3, .int (nI 0)), (4, .int (nI b)), (5, .int (nI n)), (6, .int (nI (i + 1)))]) hc 6 dX12_copy_121 rfl (nI_ofi i 1) (by decide) rfl ?_
                    refine g_goto (pc := 124) hc 93 dX12_copy_124 (by decide) ?_
                    exact g_eq (ws' := mw E ad sc (va_up ar 29 (cotI (fun i => ar 19 (64 * 1 + a + i)) (ar 29) (i + 1))) la) (lv' := [(0, .ref (ad 0)), (1, .int (nI 1)), (2, .int (nI a)), (3, .int (nI 0)), (4, .int (nI b)), (5, .int (nI n)), (6, .int (nI (i + 1)))]) (rfl) (rfl) rfl (ihi (i + 1) (by omega))
                exact g_eq (ws' := mw E ad sc (va_up ar 29 (cotI (fun i => ar 19 (64 * 1 + a + i)) (ar 29) (0))) la) (lv' := [(0, .ref (ad 0)), (1, .int (nI 1)), (2, .int (nI a)), (3, .int (nI 0)), (4, .int (nI b)), (5, .int (nI n)), (6, .int (nI (0)))]) (rfl) (rfl) rfl (L93_8 (n - 0) (0) (by omega))
              · refine g_ldc (pc := 87) (v := (-1000000013)) hc tw_1372 dX12_copy_87 ?_
                exact g_iret (pc := 89) hc dX12_copy_89 (by rw [if_neg (ne_true_of_eq_false (by unfold cms; (repeat (first | rw [if_pos c1] | rw [if_neg c1] | rw [if_neg (ne_true_of_eq_false c1)] | rw [if_pos c2] | rw [if_neg c2] | rw [if_neg (ne_true_of_eq_false c2)])); try rfl)), if_neg (ne_true_of_eq_false (by unfold cok; (repeat (first | rw [if_pos c3] | rw [if_neg c3] | rw [if_neg (ne_true_of_eq_false c3)] | rw [if_pos c4] | rw [if_neg c4] | rw [if_neg (ne_true_of_eq_false c4)] | rw [if_pos c5] | rw [if_neg c5] | rw [if_neg (ne_true_of_eq_false c5)] | rw [if_pos c6] | rw [if_neg c6] | rw [if_neg (ne_true_of_eq_false c6)] | rw [if_pos c7] | rw [if_neg c7] | rw [if_neg (ne_true_of_eq_false c7)])); try rfl))]) (by rw [if_neg (ne_true_of_eq_false (by unfold cms; (repeat (first | rw [if_pos c1] | rw [if_neg c1] | rw [if_neg (ne_true_of_eq_false c1)] | rw [if_pos c2] | rw [if_neg c2] | rw [if_neg (ne_true_of_eq_false c2)])); try rfl)), if_neg (ne_true_of_eq_false (by unfold cok; (repeat (first | rw [if_pos c3] | rw [if_neg c3] | rw [if_neg (ne_true_of_eq_false c3)] | rw [if_pos c4] | rw [if_neg c4] | rw [if_neg (ne_true_of_eq_false c4)] | rw [if_pos c5] | rw [if_neg c5] | rw [if_neg (ne_true_of_eq_false c5)] | rw [if_pos c6] | rw [if_neg c6] | rw [if_neg (ne_true_of_eq_false c6)] | rw [if_pos c7] | rw [if_neg c7] | rw [if_neg (ne_true_of_eq_false c7)])); try rfl))])
    · refine g_ldc (pc := 35) (v := (-1000000011)) hc tw_1282 dX12_copy_35 ?_
      exact g_iret (pc := 37) hc dX12_copy_37 (by rw [if_pos (by unfold cms; (repeat (first | rw [if_pos c1] | rw [if_neg c1] | rw [if_neg (ne_true_of_eq_false c1)] | rw [if_pos c2] | rw [if_neg c2] | rw [if_neg (ne_true_of_eq_false c2)])); try rfl)]) (by rw [if_pos (by unfold cms; (repeat (first | rw [if_pos c1] | rw [if_neg c1] | rw [if_neg (ne_true_of_eq_false c1)] | rw [if_pos c2] | rw [if_neg c2] | rw [if_neg (ne_true_of_eq_false c2)])); try rfl)])

set_option maxHeartbeats 4000000 in
set_option maxRecDepth 100000 in
theorem c_X12_copy_11 (l : Launch) (E : Ev) {A : Nat → Prop} (ad : Nat → Nat) (hA : Oka 30 ad A) (sc : Nat → Int32) (ar : Nat → Nat → Int32) (la : Nat → Int64) (y u t : Int32) (hr : cok y u t (ar 18 1) (ar 18 1) = true → ∃ a b n : Nat, a + n ≤ 64 ∧ b + n ≤ 64 ∧ y = nI a ∧ u = nI b ∧ t = nI n) : Ct l E yX12_copy (.code yX12_copy cX12_copy 7 (some .int)) ({ frames := 2, cells := 0, slots := 0, locals := 42 }) A (mw E ad sc ar la) [.ref (ad 0), .int (nI 1), .int y, .int (nI 1), .int u, .int t] (some (.int (if cms (ar 18 1) (ar 18 1) = true then (-1000000011) else if cok y u t (ar 18 1) (ar 18 1) = true then t else (-1000000013)))) (if cms (ar 18 1) (ar 18 1) = true then mw E ad sc ar la else if cok y u t (ar 18 1) (ar 18 1) = true then mw E ad sc (va_up (va_up ar 29 (cotI (fun i => ar 19 (64 * 1 + tn y + i)) (ar 29) (tn t))) 19 (cpO (cotI (fun i => ar 19 (64 * 1 + tn y + i)) (ar 29) (tn t)) (ar 19) (64 * 1 + tn u) (tn t))) la else mw E ad sc ar la) := by
  refine Ct.of (lv := [(0, .ref (ad 0)), (1, .int (nI 1)), (2, .int y), (3, .int (nI 1)), (4, .int u), (5, .int t)]) (by decide +kernel) (Nat.le_of_ble_eq_true rfl) rfl ?_
  intro zp ze zs zm za zb zh zc hc
  refine g_iload_n (pc := 0) hc 1 dX12_copy_0 rfl rfl ?_
  refine g_callSi (pc := 1) (rest := []) (As := [.int (nI 1)]) hc (c_X12_isSheet l E ad hA sc ar la (nI 1)) mi_X12_isSheet tw_1364 rfl ⟨rfl, rfl, by decide, by decide⟩ (Nat.le_of_ble_eq_true rfl) ⟨Nat.le_refl _, Nat.le_refl _⟩ rfl dX12_copy_1 ?_
  refine g_if_eq_f (pc := 4) hc 14 dX12_copy_4 (by decide) (by decide) ?_
  refine g_iload_n (pc := 7) hc 3 dX12_copy_7 rfl rfl ?_
  refine g_callSi (pc := 8) (rest := []) (As := [.int (nI 1)]) hc (c_X12_isSheet l E ad hA sc ar la (nI 1)) mi_X12_isSheet tw_1364 rfl ⟨rfl, rfl, by decide, by decide⟩ (Nat.le_of_ble_eq_true rfl) ⟨Nat.le_refl _, Nat.le_refl _⟩ rfl dX12_copy_8 ?_
  refine g_if_ne_t (pc := 11) hc 17 dX12_copy_11 (by decide) (by decide) ?_
  refine g_aload_n (pc := 17) hc 0 dX12_copy_17 rfl rfl ?_
  refine gf_m0_places (pc := 18) hc tw_1027 dX12_copy_18 ?_
  refine g_iload_n (pc := 21) hc 1 dX12_copy_21 rfl rfl ?_
  refine la_m18 (pc := 22) hc (1) (rfl) (by omega) dX12_copy_22 ?_
  refine g_if_lt (pc := 23) hc 35 dX12_copy_23 (by decide) (fun c1 => ?_) (fun c1 => ?_)
  · refine g_ldc (pc := 35) (v := (-1000000011)) hc tw_1282 dX12_copy_35 ?_
    exact g_iret (pc := 37) hc dX12_copy_37 (by rw [if_pos (by unfold cms; (repeat (first | rw [if_pos c1] | rw [if_neg c1] | rw [if_neg (ne_true_of_eq_false c1)])); try rfl)]) (by rw [if_pos (by unfold cms; (repeat (first | rw [if_pos c1] | rw [if_neg c1] | rw [if_neg (ne_true_of_eq_false c1)])); try rfl)])
  · refine g_aload_n (pc := 26) hc 0 dX12_copy_26 rfl rfl ?_
    refine gf_m0_places (pc := 27) hc tw_1027 dX12_copy_27 ?_
    refine g_iload_n (pc := 30) hc 3 dX12_copy_30 rfl rfl ?_
    refine la_m18 (pc := 31) hc (1) (rfl) (by omega) dX12_copy_31 ?_
    refine g_if_ge (pc := 32) hc 38 dX12_copy_32 (by decide) (fun c2 => ?_) (fun c2 => ?_)
    · refine g_iload_n (pc := 38) hc 2 dX12_copy_38 rfl rfl ?_
      refine g_if_lt (pc := 39) hc 87 dX12_copy_39 (by decide) (fun c3 => ?_) (fun c3 => ?_)
      · refine g_ldc (pc := 87) (v := (-1000000013)) hc tw_1372 dX12_copy_87 ?_
        exact g_iret (pc := 89) hc dX12_copy_89 (by rw [if_neg (ne_true_of_eq_false (by unfold cms; (repeat (first | rw [if_pos c1] | rw [if_neg c1] | rw [if_neg (ne_true_of_eq_false c1)] | rw [if_pos c2] | rw [if_neg c2] | rw [if_neg (ne_true_of_eq_false c2)])); try rfl)), if_neg (ne_true_of_eq_false (by unfold cok; (repeat (first | rw [if_pos c3] | rw [if_neg c3] | rw [if_neg (ne_true_of_eq_false c3)])); try rfl))]) (by rw [if_neg (ne_true_of_eq_false (by unfold cms; (repeat (first | rw [if_pos c1] | rw [if_neg c1] | rw [if_neg (ne_true_of_eq_false c1)] | rw [if_pos c2] | rw [if_neg c2] | rw [if_neg (ne_true_of_eq_false c2)])); try rfl)), if_neg (ne_true_of_eq_false (by unfold cok; (repeat (first | rw [if_pos c3] | rw [if_neg c3] | rw [if_neg (ne_true_of_eq_false c3)])); try rfl))])
      · refine g_iload (pc := 42) hc 4 dX12_copy_42 rfl ?_
        refine g_if_lt (pc := 44) hc 87 dX12_copy_44 (by decide) (fun c4 => ?_) (fun c4 => ?_)
        · refine g_ldc (pc := 87) (v := (-1000000013)) hc tw_1372 dX12_copy_87 ?_
          exact g_iret (pc := 89) hc dX12_copy_89 (by rw [if_neg (ne_true_of_eq_false (by unfold cms; (repeat (first | rw [if_pos c1] | rw [if_neg c1] | rw [if_neg (ne_true_of_eq_false c1)] | rw [if_pos c2] | rw [if_neg c2] | rw [if_neg (ne_true_of_eq_false c2)])); try rfl)), if_neg (ne_true_of_eq_false (by unfold cok; (repeat (first | rw [if_pos c3] | rw [if_neg c3] | rw [if_neg (ne_true_of_eq_false c3)] | rw [if_pos c4] | rw [if_neg c4] | rw [if_neg (ne_true_of_eq_false c4)])); try rfl))]) (by rw [if_neg (ne_true_of_eq_false (by unfold cms; (repeat (first | rw [if_pos c1] | rw [if_neg c1] | rw [if_neg (ne_true_of_eq_false c1)] | rw [if_pos c2] | rw [if_neg c2] | rw [if_neg (ne_true_of_eq_false c2)])); try rfl)), if_neg (ne_true_of_eq_false (by unfold cok; (repeat (first | rw [if_pos c3] | rw [if_neg c3] | rw [if_neg (ne_true_of_eq_false c3)] | rw [if_pos c4] | rw [if_neg c4] | rw [if_neg (ne_true_of_eq_false c4)])); try rfl))])
        · refine g_iload (pc := 47) hc 5 dX12_copy_47 rfl ?_
          refine g_if_lt (pc := 49) hc 87 dX12_copy_49 (by decide) (fun c5 => ?_) (fun c5 => ?_)
          · refine g_ldc (pc := 87) (v := (-1000000013)) hc tw_1372 dX12_copy_87 ?_
            exact g_iret (pc := 89) hc dX12_copy_89 (by rw [if_neg (ne_true_of_eq_false (by unfold cms; (repeat (first | rw [if_pos c1] | rw [if_neg c1] | rw [if_neg (ne_true_of_eq_false c1)] | rw [if_pos c2] | rw [if_neg c2] | rw [if_neg (ne_true_of_eq_false c2)])); try rfl)), if_neg (ne_true_of_eq_false (by unfold cok; (repeat (first | rw [if_pos c3] | rw [if_neg c3] | rw [if_neg (ne_true_of_eq_false c3)] | rw [if_pos c4] | rw [if_neg c4] | rw [if_neg (ne_true_of_eq_false c4)] | rw [if_pos c5] | rw [if_neg c5] | rw [if_neg (ne_true_of_eq_false c5)])); try rfl))]) (by rw [if_neg (ne_true_of_eq_false (by unfold cms; (repeat (first | rw [if_pos c1] | rw [if_neg c1] | rw [if_neg (ne_true_of_eq_false c1)] | rw [if_pos c2] | rw [if_neg c2] | rw [if_neg (ne_true_of_eq_false c2)])); try rfl)), if_neg (ne_true_of_eq_false (by unfold cok; (repeat (first | rw [if_pos c3] | rw [if_neg c3] | rw [if_neg (ne_true_of_eq_false c3)] | rw [if_pos c4] | rw [if_neg c4] | rw [if_neg (ne_true_of_eq_false c4)] | rw [if_pos c5] | rw [if_neg c5] | rw [if_neg (ne_true_of_eq_false c5)])); try rfl))])
          · refine g_iload_n (pc := 52) hc 2 dX12_copy_52 rfl rfl ?_
            refine g_i2l (pc := 53) (v := (y : Int32).toInt64) hc dX12_copy_53 rfl ?_
            refine g_iload (pc := 54) hc 5 dX12_copy_54 rfl ?_
            refine g_i2l (pc := 56) (v := (t : Int32).toInt64) hc dX12_copy_56 rfl ?_
            refine g_ladd (pc := 57) hc dX12_copy_57 ?_
            refine g_aload_n (pc := 58) hc 0 dX12_copy_58 rfl rfl ?_
            refine gf_m0_places (pc := 59) hc tw_1027 dX12_copy_59 ?_
            refine g_iload_n (pc := 62) hc 1 dX12_copy_62 rfl rfl ?_
            refine la_m18 (pc := 63) hc (1) (rfl) (by omega) dX12_copy_63 ?_
            refine g_i2l (pc := 64) (v := ((ar 18) 1 : Int32).toInt64) hc dX12_copy_64 rfl ?_
            refine g_lcmp (pc := 65) hc dX12_copy_65 ?_
            refine g_if_gt (pc := 66) hc 87 dX12_copy_66 (by decide) (fun c6 => ?_) (fun c6 => ?_)
            · refine g_ldc (pc := 87) (v := (-1000000013)) hc tw_1372 dX12_copy_87 ?_
              exact g_iret (pc := 89) hc dX12_copy_89 (by rw [if_neg (ne_true_of_eq_false (by unfold cms; (repeat (first | rw [if_pos c1] | rw [if_neg c1] | rw [if_neg (ne_true_of_eq_false c1)] | rw [if_pos c2] | rw [if_neg c2] | rw [if_neg (ne_true_of_eq_false c2)])); try rfl)), if_neg (ne_true_of_eq_false (by unfold cok; (repeat (first | rw [if_pos c3] | rw [if_neg c3] | rw [if_neg (ne_true_of_eq_false c3)] | rw [if_pos c4] | rw [if_neg c4] | rw [if_neg (ne_true_of_eq_false c4)] | rw [if_pos c5] | rw [if_neg c5] | rw [if_neg (ne_true_of_eq_false c5)] | rw [if_pos c6] | rw [if_neg c6] | rw [if_neg (ne_true_of_eq_false c6)])); try rfl))]) (by rw [if_neg (ne_true_of_eq_false (by unfold cms; (repeat (first | rw [if_pos c1] | rw [if_neg c1] | rw [if_neg (ne_true_of_eq_false c1)] | rw [if_pos c2] | rw [if_neg c2] | rw [if_neg (ne_true_of_eq_false c2)])); try rfl)), if_neg (ne_true_of_eq_false (by unfold cok; (repeat (first | rw [if_pos c3] | rw [if_neg c3] | rw [if_neg (ne_true_of_eq_false c3)] | rw [if_pos c4] | rw [if_neg c4] | rw [if_neg (ne_true_of_eq_false c4)] | rw [if_pos c5] | rw [if_neg c5] | rw [if_neg (ne_true_of_eq_false c5)] | rw [if_pos c6] | rw [if_neg c6] | rw [if_neg (ne_true_of_eq_false c6)])); try rfl))])
            · refine g_iload (pc := 69) hc 4 dX12_copy_69 rfl ?_
              refine g_i2l (pc := 71) (v := (u : Int32).toInt64) hc dX12_copy_71 rfl ?_
              refine g_iload (pc := 72) hc 5 dX12_copy_72 rfl ?_
              refine g_i2l (pc := 74) (v := (t : Int32).toInt64) hc dX12_copy_74 rfl ?_
              refine g_ladd (pc := 75) hc dX12_copy_75 ?_
              refine g_aload_n (pc := 76) hc 0 dX12_copy_76 rfl rfl ?_
              refine gf_m0_places (pc := 77) hc tw_1027 dX12_copy_77 ?_
              refine g_iload_n (pc := 80) hc 3 dX12_copy_80 rfl rfl ?_
              refine la_m18 (pc := 81) hc (1) (rfl) (by omega) dX12_copy_81 ?_
              refine g_i2l (pc := 82) (v := ((ar 18) 1 : Int32).toInt64) hc dX12_copy_82 rfl ?_
              refine g_lcmp (pc := 83) hc dX12_copy_83 ?_
              refine g_if_le (pc := 84) hc 90 dX12_copy_84 (by decide) (fun c7 => ?_) (fun c7 => ?_)
              · have hck : cok y u t (ar 18 1) (ar 18 1) = true := by unfold cok; (repeat (first | rw [if_pos c3] | rw [if_neg c3] | rw [if_neg (ne_true_of_eq_false c3)] | rw [if_pos c4] | rw [if_neg c4] | rw [if_neg (ne_true_of_eq_false c4)] | rw [if_pos c5] | rw [if_neg c5] | rw [if_neg (ne_true_of_eq_false c5)] | rw [if_pos c6] | rw [if_neg c6] | rw [if_neg (ne_true_of_eq_false c6)] | rw [if_pos c7] | rw [if_neg c7] | rw [if_neg (ne_true_of_eq_false c7)]))
                obtain ⟨a, b, n, han, hbn, hy, hu, ht⟩ := hr hck
                refine g_eq (ws' := mw E ad sc ar la) (lv' := [(0, .ref (ad 0)), (1, .int (nI 1)), (2, .int (nI a)), (3, .int (nI 1)), (4, .int (nI b)), (5, .int (nI n))]) rfl (by rw [hy, hu, ht]) rfl ?_
                refine g_iconst (pc := 90) (v := nI 0) hc dX12_copy_90 (by decide) ?_
                refine g_istore (pc := 91) (lv' := [(0, .ref (ad 0)), (1, .int (nI 1)), (2, .int (nI a)), (3, .int (nI 1)), (4, .int (nI b)), (5, .int (nI n)), (6, .int (nI 0))]) hc dX12_copy_91 (by decide) rfl ?_
                have L93_8 : ∀ (ki i : Nat), i + ki = n → G zp l ze ({ frames := 2, cells := 0, slots := 0, locals := 42 }) zs zm za zb zh zc 0 0 (MQ zb (Qz E A (some (.int (if cms (ar 18 1) (ar 18 1) = true then (-1000000011) else if cok y u t (ar 18 1) (ar 18 1) = true then t else (-1000000013)))) (if cms (ar 18 1) (ar 18 1) = true then mw E ad sc ar la else if cok y u t (ar 18 1) (ar 18 1) = true then mw E ad sc (va_up (va_up ar 29 (cotI (fun i => ar 19 (64 * 1 + tn y + i)) (ar 29) (tn t))) 19 (cpO (cotI (fun i => ar 19 (64 * 1 + tn y + i)) (ar 29) (tn t)) (ar 19) (64 * 1 + tn u) (tn t))) la else mw E ad sc ar la)) za zs 0 0 A) E A 7 (mw E ad sc (va_up ar 29 (cotI (fun i => ar 19 (64 * 1 + a + i)) (ar 29) (i))) la) (93) [(0, .ref (ad 0)), (1, .int (nI 1)), (2, .int (nI a)), (3, .int (nI 1)), (4, .int (nI b)), (5, .int (nI n)), (6, .int (nI (i)))] [] := by
                  intro ki
                  induction ki with
                  | zero =>
                    intro i lhi
                    have lhin : n = i := by omega
                    subst lhin
                    refine g_iload (pc := 93) hc 6 dX12_copy_93 rfl ?_
                    refine g_iload (pc := 95) hc 5 dX12_copy_95 rfl ?_
                    refine g_icmp_ge_t (pc := 97) hc 127 dX12_copy_97 (by decide) (nI_le (by omega) (by omega)) ?_
                    refine g_iconst (pc := 127) (v := nI 0) hc dX12_copy_127 (by decide) ?_
                    refine g_istore (pc := 128) (lv' := [(0, .ref (ad 0)), (1, .int (nI 1)), (2, .int (nI a)), (3, .int (nI 1)), (4, .int (nI b)), (5, .int (nI n)), (6, .int (nI 0))]) hc dX12_copy_128 (by decide) rfl ?_
                    have L130_9 : ∀ (kj j : Nat), j + kj = n → G zp l ze ({ frames := 2, cells := 0, slots := 0, locals := 42 }) zs zm za zb zh zc 0 0 (MQ zb (Qz E A (some (.int (if cms (ar 18 1) (ar 18 1) = true then (-1000000011) else if cok y u t (ar 18 1) (ar 18 1) = true then t else (-1000000013)))) (if cms (ar 18 1) (ar 18 1) = true then mw E ad sc ar la else if cok y u t (ar 18 1) (ar 18 1) = true then mw E ad sc (va_up (va_up ar 29 (cotI (fun i => ar 19 (64 * 1 + tn y + i)) (ar 29) (tn t))) 19 (cpO (cotI (fun i => ar 19 (64 * 1 + tn y + i)) (ar 29) (tn t)) (ar 19) (64 * 1 + tn u) (tn t))) la else mw E ad sc ar la)) za zs 0 0 A) E A 7 (mw E ad sc (va_up (va_up ar 29 (cotI (fun i => ar 19 (64 * 1 + a + i)) (ar 29) (n))) 19 (cpO (cotI (fun i => ar 19 (64 * 1 + a + i)) (ar 29) (n)) (ar 19) (64 * 1 + b) (j))) la) (130) [(0, .ref (ad 0)), (1, .int (nI 1)), (2, .int (nI a)), (3, .int (nI 1)), (4, .int (nI b)), (5, .int (nI n)), (6, .int (nI (j)))] [] := by
                      intro kj
                      induction kj with
                      | zero =>
                        intro j lhj
                        have lhjn : n = j := by omega
                        subst lhjn
                        refine g_iload (pc := 130) hc 6 dX12_copy_130 rfl ?_
                        refine g_iload (pc := 132) hc 5 dX12_copy_132 rfl ?_
                        refine g_icmp_ge_t (pc := 134) hc 165 dX12_copy_134 (by decide) (nI_le (by omega) (by omega)) ?_
                        refine g_iload (pc := 165) hc 5 dX12_copy_165 rfl ?_
                        exact g_iret (pc := 167) hc dX12_copy_167 (by rw [if_neg (ne_true_of_eq_false (by unfold cms; (repeat (first | rw [if_pos c1] | rw [if_neg c1] | rw [if_neg (ne_true_of_eq_false c1)] | rw [if_pos c2] | rw [if_neg c2] | rw [if_neg (ne_true_of_eq_false c2)])); try rfl)), if_pos hck, ht]) (by rw [if_neg (ne_true_of_eq_false (by unfold cms; (repeat (first | rw [if_pos c1] | rw [if_neg c1] | rw [if_neg (ne_true_of_eq_false c1)] | rw [if_pos c2] | rw [if_neg c2] | rw [if_neg (ne_true_of_eq_false c2)])); try rfl)), if_pos hck, hy, hu, ht, tn, tn, tn, nI_clamp (by omega), nI_clamp (by omega), nI_clamp (by omega)])
                      | succ kj ihj =>
                        intro j lhj
                        have lhjn : j < n := by omega
                        refine g_iload (pc := 130) hc 6 dX12_copy_130 rfl ?_
                        refine g_iload (pc := 132) hc 5 dX12_copy_132 rfl ?_
                        refine g_icmp_ge_f (pc := 134) hc 165 dX12_copy_134 (by decide) (nI_ge (by omega) (by omega)) ?_
                        refine g_aload_n (pc := 137) hc 0 dX12_copy_137 rfl rfl ?_
                        refine gf_m0_numbers (pc := 138) hc tw_1028 dX12_copy_138 ?_
                        refine g_bipush (pc := 141) (v := nI 64) hc dX12_copy_141 (by decide) ?_
                        refine g_iload_n (pc := 143) hc 3 dX12_copy_143 rfl rfl ?_
                        refine g_imul (pc := 144) hc dX12_copy_144 ?_
                        refine g_topi (v := nI (64 * 1)) (pk_mul 64 1) ?_
                        refine g_iload (pc := 145) hc 4 dX12_copy_145 rfl ?_
                        refine g_iadd (pc := 147) hc dX12_copy_147 ?_
                        refine g_topi (v := nI ((64 * 1) + b)) (nI_add (64 * 1) b) ?_
                        refine g_iload (pc := 148) hc 6 dX12_copy_148 rfl ?_
                        refine g_iadd (pc := 150) hc dX12_copy_150 ?_
                        refine g_topi (v := nI (((64 * 1) + b) + j)) (nI_add ((64 * 1) + b) j) ?_
                        refine g_aload_n (pc := 151) hc 0 dX12_copy_151 rfl rfl ?_
                        refine gf_m0_carried (pc := 152) hc tw_1043 dX12_copy_152 ?_
                        refine g_iload (pc := 155) hc 6 dX12_copy_155 rfl ?_
                        refine la_m29 (pc := 157) hc (j) (rfl) (by omega) dX12_copy_157 ?_
                        refine g_topi (v := (cotI (fun i => ar 19 (64 * 1 + a + i)) (ar 29) (n)) j) rfl ?_
                        refine sa_m19 (pc := 158) hc hA (((64 * 1) + b) + j) (rfl) (by omega) dX12_copy_158 ?_
                        refine g_eq (ws' := mw E ad sc (va_up (va_up ar 29 (cotI (fun i => ar 19 (64 * 1 + a + i)) (ar 29) (n))) 19 (upd (cpO (cotI (fun i => ar 19 (64 * 1 + a + i)) (ar 29) (n)) (ar 19) (64 * 1 + b) (j)) (((64 * 1) + b) + j) ((cotI (fun i => ar 19 (64 * 1 + a + i)) (ar 29) (n)) j))) la) (lv' := [(0, .ref (ad 0)), (1, .int (nI 1)), (2, .int (nI a)), (3, .int (nI 1)), (4, .int (nI b)), (5, .int (nI n)), (6, .int (nI (j)))]) rfl rfl rfl ?_
                        refine g_iinc (pc := 159) (v := nI (j + 1)) (lv' := [(0, .ref (ad 0)), (1, .int (nI 1)), (2, .int (nI a)), (3, .int (nI 1)), (4, .int (nI b)), (5, .int (nI n)), (6, .int (nI (j + 1)))]) hc 6 dX12_copy_159 rfl (nI_ofi j 1) (by decide) rfl ?_
                        refine g_goto (pc := 162) hc 130 dX12_copy_162 (by decide) ?_
                        exact g_eq (ws' := mw E ad sc (va_up (va_up ar 29 (cotI (fun i => ar 19 (64 * 1 + a + i)) (ar 29) (n))) 19 (cpO (cotI (fun i => ar 19 (64 * 1 + a + i)) (ar 29) (n)) (ar 19) (64 * 1 + b) (j + 1))) la) (lv' := [(0, .ref (ad 0)), (1, .int (nI 1)), (2, .int (nI a)), (3, .int (nI 1)), (4, .int (nI b)), (5, .int (nI n)), (6, .int (nI (j + 1)))]) (rfl) (rfl) rfl (ihj (j + 1) (by omega))
                    exact g_eq (ws' := mw E ad sc (va_up (va_up ar 29 (cotI (fun i => ar 19 (64 * 1 + a + i)) (ar 29) (n))) 19 (cpO (cotI (fun i => ar 19 (64 * 1 + a + i)) (ar 29) (n)) (ar 19) (64 * 1 + b) (0))) la) (lv' := [(0, .ref (ad 0)), (1, .int (nI 1)), (2, .int (nI a)), (3, .int (nI 1)), (4, .int (nI b)), (5, .int (nI n)), (6, .int (nI (0)))]) (rfl) (rfl) rfl (L130_9 (n - 0) (0) (by omega))
                  | succ ki ihi =>
                    intro i lhi
                    have lhin : i < n := by omega
                    refine g_iload (pc := 93) hc 6 dX12_copy_93 rfl ?_
                    refine g_iload (pc := 95) hc 5 dX12_copy_95 rfl ?_
                    refine g_icmp_ge_f (pc := 97) hc 127 dX12_copy_97 (by decide) (nI_ge (by omega) (by omega)) ?_
                    refine g_aload_n (pc := 100) hc 0 dX12_copy_100 rfl rfl ?_
                    refine gf_m0_carried (pc := 101) hc tw_1043 dX12_copy_101 ?_
                    refine g_iload (pc := 104) hc 6 dX12_copy_104 rfl ?_
                    refine g_aload_n (pc := 106) hc 0 dX12_copy_106 rfl rfl ?_
                    refine gf_m0_numbers (pc := 107) hc tw_1028 dX12_copy_107 ?_
                    refine g_bipush (pc := 110) (v := nI 64) hc dX12_copy_110 (by decide) ?_
                    refine g_iload_n (pc := 112) hc 1 dX12_copy_112 rfl rfl ?_
                    refine g_imul (pc := 113) hc dX12_copy_113 ?_
                    refine g_topi (v := nI (64 * 1)) (pk_mul 64 1) ?_
                    refine g_iload_n (pc := 114) hc 2 dX12_copy_114 rfl rfl ?_
                    refine g_iadd (pc := 115) hc dX12_copy_115 ?_
                    refine g_topi (v := nI ((64 * 1) + a)) (nI_add (64 * 1) a) ?_
                    refine g_iload (pc := 116) hc 6 dX12_copy_116 rfl ?_
                    refine g_iadd (pc := 118) hc dX12_copy_118 ?_
                    refine g_topi (v := nI (((64 * 1) + a) + i)) (nI_add ((64 * 1) + a) i) ?_
                    refine la_m19 (pc := 119) hc (((64 * 1) + a) + i) (rfl) (by omega) dX12_copy_119 ?_
                    refine g_topi (v := (ar 19) (((64 * 1) + a) + i)) rfl ?_
                    refine sa_m29 (pc := 120) hc hA (i) (rfl) (by omega) dX12_copy_120 ?_
                    refine g_eq (ws' := mw E ad sc (va_up ar 29 (upd (cotI (fun i => ar 19 (64 * 1 + a + i)) (ar 29) (i)) i ((ar 19) (((64 * 1) + a) + i)))) la) (lv' := [(0, .ref (ad 0)), (1, .int (nI 1)), (2, .int (nI a)), (3, .int (nI 1)), (4, .int (nI b)), (5, .int (nI n)), (6, .int (nI (i)))]) rfl rfl rfl ?_
                    refine g_iinc (pc := 121) (v := nI (i + 1)) (lv' := [(0, .ref (ad 0)), (1, .int (nI 1)), (2, .int (nI a)), (3, .int (nI 1)), (4, .int (nI b)), (5, .int (nI n)), (6, .int (nI (i + 1)))]) hc 6 dX12_copy_121 rfl (nI_ofi i 1) (by decide) rfl ?_
                    refine g_goto (pc := 124) hc 93 dX12_copy_124 (by decide) ?_
                    exact g_eq (ws' := mw E ad sc (va_up ar 29 (cotI (fun i => ar 19 (64 * 1 + a + i)) (ar 29) (i + 1))) la) (lv' := [(0, .ref (ad 0)), (1, .int (nI 1)), (2, .int (nI a)), (3, .int (nI 1)), (4, .int (nI b)), (5, .int (nI n)), (6, .int (nI (i + 1)))]) (rfl) (rfl) rfl (ihi (i + 1) (by omega))
                exact g_eq (ws' := mw E ad sc (va_up ar 29 (cotI (fun i => ar 19 (64 * 1 + a + i)) (ar 29) (0))) la) (lv' := [(0, .ref (ad 0)), (1, .int (nI 1)), (2, .int (nI a)), (3, .int (nI 1)), (4, .int (nI b)), (5, .int (nI n)), (6, .int (nI (0)))]) (rfl) (rfl) rfl (L93_8 (n - 0) (0) (by omega))
              · refine g_ldc (pc := 87) (v := (-1000000013)) hc tw_1372 dX12_copy_87 ?_
                exact g_iret (pc := 89) hc dX12_copy_89 (by rw [if_neg (ne_true_of_eq_false (by unfold cms; (repeat (first | rw [if_pos c1] | rw [if_neg c1] | rw [if_neg (ne_true_of_eq_false c1)] | rw [if_pos c2] | rw [if_neg c2] | rw [if_neg (ne_true_of_eq_false c2)])); try rfl)), if_neg (ne_true_of_eq_false (by unfold cok; (repeat (first | rw [if_pos c3] | rw [if_neg c3] | rw [if_neg (ne_true_of_eq_false c3)] | rw [if_pos c4] | rw [if_neg c4] | rw [if_neg (ne_true_of_eq_false c4)] | rw [if_pos c5] | rw [if_neg c5] | rw [if_neg (ne_true_of_eq_false c5)] | rw [if_pos c6] | rw [if_neg c6] | rw [if_neg (ne_true_of_eq_false c6)] | rw [if_pos c7] | rw [if_neg c7] | rw [if_neg (ne_true_of_eq_false c7)])); try rfl))]) (by rw [if_neg (ne_true_of_eq_false (by unfold cms; (repeat (first | rw [if_pos c1] | rw [if_neg c1] | rw [if_neg (ne_true_of_eq_false c1)] | rw [if_pos c2] | rw [if_neg c2] | rw [if_neg (ne_true_of_eq_false c2)])); try rfl)), if_neg (ne_true_of_eq_false (by unfold cok; (repeat (first | rw [if_pos c3] | rw [if_neg c3] | rw [if_neg (ne_true_of_eq_false c3)] | rw [if_pos c4] | rw [if_neg c4] | rw [if_neg (ne_true_of_eq_false c4)] | rw [if_pos c5] | rw [if_neg c5] | rw [if_neg (ne_true_of_eq_false c5)] | rw [if_pos c6] | rw [if_neg c6] | rw [if_neg (ne_true_of_eq_false c6)] | rw [if_pos c7] | rw [if_neg c7] | rw [if_neg (ne_true_of_eq_false c7)])); try rfl))])
    · refine g_ldc (pc := 35) (v := (-1000000011)) hc tw_1282 dX12_copy_35 ?_
      exact g_iret (pc := 37) hc dX12_copy_37 (by rw [if_pos (by unfold cms; (repeat (first | rw [if_pos c1] | rw [if_neg c1] | rw [if_neg (ne_true_of_eq_false c1)] | rw [if_pos c2] | rw [if_neg c2] | rw [if_neg (ne_true_of_eq_false c2)])); try rfl)]) (by rw [if_pos (by unfold cms; (repeat (first | rw [if_pos c1] | rw [if_neg c1] | rw [if_neg (ne_true_of_eq_false c1)] | rw [if_pos c2] | rw [if_neg c2] | rw [if_neg (ne_true_of_eq_false c2)])); try rfl)])
