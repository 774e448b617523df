section
-- ===== PART A: goes FIRST, ahead of the names: the tables' words, and 'selects' of the private methods out of them =====
/-- a private method of a class that the tables say can be made, by its rows of tables_1 -/
def lw_okq (q : MethodName × Nat) : Prop := (q.1.cls ≠ "java/lang/invoke/MethodHandle" ∧ q.1.cls ≠ "java/lang/invoke/VarHandle") ∧ Cond.instantiable q.1.cls q.2 ∈ tables_1 ∧ Cond.privateMethod q.1 ∈ tables_1 ∧ Cond.instanceMethod q.1 ∈ tables_1
theorem lw_p0 : lw_okq (⟨"SherdField$Leaves", "covers", "(III)Z"⟩, 7) := ⟨⟨by decide +kernel, by decide +kernel⟩, List.mem_of_getElem? (i := 141) (by decide +kernel), List.mem_of_getElem? (i := 374) (by decide +kernel), List.mem_of_getElem? (i := 375) (by decide +kernel)⟩
theorem lw_p1 : lw_okq (⟨"SherdField", "tellerAt", "(I)I"⟩, 15) := ⟨⟨by decide +kernel, by decide +kernel⟩, List.mem_of_getElem? (i := 23) (by decide +kernel), List.mem_of_getElem? (i := 484) (by decide +kernel), List.mem_of_getElem? (i := 485) (by decide +kernel)⟩
theorem lw_p2 : lw_okq (⟨"SherdField$Eyes", "walksBeside", "(II)I"⟩, 2) := ⟨⟨by decide +kernel, by decide +kernel⟩, List.mem_of_getElem? (i := 184) (by decide +kernel), List.mem_of_getElem? (i := 522) (by decide +kernel), List.mem_of_getElem? (i := 523) (by decide +kernel)⟩
theorem lw_p3 : lw_okq (⟨"SherdField$Eyes", "arePair", "(II)Z"⟩, 2) := ⟨⟨by decide +kernel, by decide +kernel⟩, List.mem_of_getElem? (i := 184) (by decide +kernel), List.mem_of_getElem? (i := 526) (by decide +kernel), List.mem_of_getElem? (i := 527) (by decide +kernel)⟩
theorem lw_p4 : lw_okq (⟨"SherdField$Eyes", "seenIn", "(I)I"⟩, 2) := ⟨⟨by decide +kernel, by decide +kernel⟩, List.mem_of_getElem? (i := 184) (by decide +kernel), List.mem_of_getElem? (i := 535) (by decide +kernel), List.mem_of_getElem? (i := 536) (by decide +kernel)⟩
theorem lw_p5 : lw_okq (⟨"SherdField$Heaps", "weighed", "(III)I"⟩, 6) := ⟨⟨by decide +kernel, by decide +kernel⟩, List.mem_of_getElem? (i := 197) (by decide +kernel), List.mem_of_getElem? (i := 591) (by decide +kernel), List.mem_of_getElem? (i := 592) (by decide +kernel)⟩
theorem lw_p6 : lw_okq (⟨"SherdField$Heaps", "gatherWalked", "()I"⟩, 6) := ⟨⟨by decide +kernel, by decide +kernel⟩, List.mem_of_getElem? (i := 197) (by decide +kernel), List.mem_of_getElem? (i := 638) (by decide +kernel), List.mem_of_getElem? (i := 639) (by decide +kernel)⟩
theorem lw_p7 : lw_okq (⟨"SherdField$Heaps", "shuffle", "(II)I"⟩, 6) := ⟨⟨by decide +kernel, by decide +kernel⟩, List.mem_of_getElem? (i := 197) (by decide +kernel), List.mem_of_getElem? (i := 642) (by decide +kernel), List.mem_of_getElem? (i := 643) (by decide +kernel)⟩
theorem lw_p8 : lw_okq (⟨"SherdField$Ground", "ploughOnce", "()V"⟩, 5) := ⟨⟨by decide +kernel, by decide +kernel⟩, List.mem_of_getElem? (i := 31) (by decide +kernel), List.mem_of_getElem? (i := 684) (by decide +kernel), List.mem_of_getElem? (i := 685) (by decide +kernel)⟩
theorem lw_p9 : lw_okq (⟨"SherdField$Ground", "spreadFrom", "(I)V"⟩, 5) := ⟨⟨by decide +kernel, by decide +kernel⟩, List.mem_of_getElem? (i := 31) (by decide +kernel), List.mem_of_getElem? (i := 689) (by decide +kernel), List.mem_of_getElem? (i := 690) (by decide +kernel)⟩
theorem lw_p10 : lw_okq (⟨"SherdField", "countedOf", "(I)I"⟩, 15) := ⟨⟨by decide +kernel, by decide +kernel⟩, List.mem_of_getElem? (i := 23) (by decide +kernel), List.mem_of_getElem? (i := 709) (by decide +kernel), List.mem_of_getElem? (i := 710) (by decide +kernel)⟩
theorem lw_p11 : lw_okq (⟨"SherdField$Periods", "seekBest", "()V"⟩, 3) := ⟨⟨by decide +kernel, by decide +kernel⟩, List.mem_of_getElem? (i := 111) (by decide +kernel), List.mem_of_getElem? (i := 722) (by decide +kernel), List.mem_of_getElem? (i := 723) (by decide +kernel)⟩
theorem lw_p12 : lw_okq (⟨"SherdField$Periods", "misfit", "(III)J"⟩, 3) := ⟨⟨by decide +kernel, by decide +kernel⟩, List.mem_of_getElem? (i := 111) (by decide +kernel), List.mem_of_getElem? (i := 727) (by decide +kernel), List.mem_of_getElem? (i := 728) (by decide +kernel)⟩
theorem lw_p13 : lw_okq (⟨"SherdField$LeaveReader", "goOn", "()V"⟩, 9) := ⟨⟨by decide +kernel, by decide +kernel⟩, List.mem_of_getElem? (i := 222) (by decide +kernel), List.mem_of_getElem? (i := 763) (by decide +kernel), List.mem_of_getElem? (i := 764) (by decide +kernel)⟩
theorem lw_p14 : lw_okq (⟨"SherdField$LeaveReader", "readRows", "()V"⟩, 9) := ⟨⟨by decide +kernel, by decide +kernel⟩, List.mem_of_getElem? (i := 222) (by decide +kernel), List.mem_of_getElem? (i := 772) (by decide +kernel), List.mem_of_getElem? (i := 773) (by decide +kernel)⟩
theorem lw_p15 : lw_okq (⟨"SherdField$LeaveReader", "expect", "(Ljava/lang/String;)V"⟩, 9) := ⟨⟨by decide +kernel, by decide +kernel⟩, List.mem_of_getElem? (i := 222) (by decide +kernel), List.mem_of_getElem? (i := 777) (by decide +kernel), List.mem_of_getElem? (i := 778) (by decide +kernel)⟩
def lw_privs_1 : List (MethodName × Nat) := [(⟨"SherdField$Leaves", "covers", "(III)Z"⟩, 7), (⟨"SherdField", "tellerAt", "(I)I"⟩, 15), (⟨"SherdField$Eyes", "walksBeside", "(II)I"⟩, 2), (⟨"SherdField$Eyes", "arePair", "(II)Z"⟩, 2), (⟨"SherdField$Eyes", "seenIn", "(I)I"⟩, 2), (⟨"SherdField$Heaps", "weighed", "(III)I"⟩, 6), (⟨"SherdField$Heaps", "gatherWalked", "()I"⟩, 6), (⟨"SherdField$Heaps", "shuffle", "(II)I"⟩, 6), (⟨"SherdField$Ground", "ploughOnce", "()V"⟩, 5), (⟨"SherdField$Ground", "spreadFrom", "(I)V"⟩, 5), (⟨"SherdField", "countedOf", "(I)I"⟩, 15), (⟨"SherdField$Periods", "seekBest", "()V"⟩, 3), (⟨"SherdField$Periods", "misfit", "(III)J"⟩, 3), (⟨"SherdField$LeaveReader", "goOn", "()V"⟩, 9), (⟨"SherdField$LeaveReader", "readRows", "()V"⟩, 9), (⟨"SherdField$LeaveReader", "expect", "(Ljava/lang/String;)V"⟩, 9)]
theorem lw_r1 : ∀ q ∈ lw_privs_1, lw_okq q := List.forall_mem_cons.mpr ⟨lw_p0, List.forall_mem_cons.mpr ⟨lw_p1, List.forall_mem_cons.mpr ⟨lw_p2, List.forall_mem_cons.mpr ⟨lw_p3, List.forall_mem_cons.mpr ⟨lw_p4, List.forall_mem_cons.mpr ⟨lw_p5, List.forall_mem_cons.mpr ⟨lw_p6, List.forall_mem_cons.mpr ⟨lw_p7, List.forall_mem_cons.mpr ⟨lw_p8, List.forall_mem_cons.mpr ⟨lw_p9, List.forall_mem_cons.mpr ⟨lw_p10, List.forall_mem_cons.mpr ⟨lw_p11, List.forall_mem_cons.mpr ⟨lw_p12, List.forall_mem_cons.mpr ⟨lw_p13, List.forall_mem_cons.mpr ⟨lw_p14, List.forall_mem_cons.mpr ⟨lw_p15, fun _ h => absurd h List.not_mem_nil⟩⟩⟩⟩⟩⟩⟩⟩⟩⟩⟩⟩⟩⟩⟩⟩
theorem lw_p16 : lw_okq (⟨"SherdField$LeaveReader", "isSound", "()Z"⟩, 9) := ⟨⟨by decide +kernel, by decide +kernel⟩, List.mem_of_getElem? (i := 222) (by decide +kernel), List.mem_of_getElem? (i := 781) (by decide +kernel), List.mem_of_getElem? (i := 782) (by decide +kernel)⟩
theorem lw_p17 : lw_okq (⟨"SherdField$LeaveReader", "isAt", "(Ljava/lang/String;)Z"⟩, 9) := ⟨⟨by decide +kernel, by decide +kernel⟩, List.mem_of_getElem? (i := 222) (by decide +kernel), List.mem_of_getElem? (i := 785) (by decide +kernel), List.mem_of_getElem? (i := 786) (by decide +kernel)⟩
theorem lw_p18 : lw_okq (⟨"SherdField$LeaveReader", "tellFault", "()V"⟩, 9) := ⟨⟨by decide +kernel, by decide +kernel⟩, List.mem_of_getElem? (i := 222) (by decide +kernel), List.mem_of_getElem? (i := 837) (by decide +kernel), List.mem_of_getElem? (i := 838) (by decide +kernel)⟩
theorem lw_p19 : lw_okq (⟨"SherdField$LeaveReader", "expectNumber", "(II)I"⟩, 9) := ⟨⟨by decide +kernel, by decide +kernel⟩, List.mem_of_getElem? (i := 222) (by decide +kernel), List.mem_of_getElem? (i := 841) (by decide +kernel), List.mem_of_getElem? (i := 842) (by decide +kernel)⟩
theorem lw_p20 : lw_okq (⟨"SherdField$LeaveReader", "valueAtHand", "()I"⟩, 9) := ⟨⟨by decide +kernel, by decide +kernel⟩, List.mem_of_getElem? (i := 222) (by decide +kernel), List.mem_of_getElem? (i := 845) (by decide +kernel), List.mem_of_getElem? (i := 846) (by decide +kernel)⟩
theorem lw_p21 : lw_okq (⟨"SherdField$LeaveReader", "readDays", "()V"⟩, 9) := ⟨⟨by decide +kernel, by decide +kernel⟩, List.mem_of_getElem? (i := 222) (by decide +kernel), List.mem_of_getElem? (i := 852) (by decide +kernel), List.mem_of_getElem? (i := 853) (by decide +kernel)⟩
theorem lw_p22 : lw_okq (⟨"SherdField$LeaveReader", "readBarred", "()V"⟩, 9) := ⟨⟨by decide +kernel, by decide +kernel⟩, List.mem_of_getElem? (i := 222) (by decide +kernel), List.mem_of_getElem? (i := 857) (by decide +kernel), List.mem_of_getElem? (i := 858) (by decide +kernel)⟩
theorem lw_p23 : lw_okq (⟨"SherdField", "sheetNumbered", "(I)LSherdField$Sheet;"⟩, 15) := ⟨⟨by decide +kernel, by decide +kernel⟩, List.mem_of_getElem? (i := 23) (by decide +kernel), List.mem_of_getElem? (i := 924) (by decide +kernel), List.mem_of_getElem? (i := 925) (by decide +kernel)⟩
theorem lw_p24 : lw_okq (⟨"SherdField", "gaps", "()I"⟩, 15) := ⟨⟨by decide +kernel, by decide +kernel⟩, List.mem_of_getElem? (i := 23) (by decide +kernel), List.mem_of_getElem? (i := 977) (by decide +kernel), List.mem_of_getElem? (i := 978) (by decide +kernel)⟩
theorem lw_p25 : lw_okq (⟨"SherdFieldModel", "paces", "()I"⟩, 43) := ⟨⟨by decide +kernel, by decide +kernel⟩, List.mem_of_getElem? (i := 996) (by decide +kernel), List.mem_of_getElem? (i := 1141) (by decide +kernel), List.mem_of_getElem? (i := 1142) (by decide +kernel)⟩
theorem lw_p26 : lw_okq (⟨"SherdFieldModel", "isRow", "(I)Z"⟩, 43) := ⟨⟨by decide +kernel, by decide +kernel⟩, List.mem_of_getElem? (i := 996) (by decide +kernel), List.mem_of_getElem? (i := 1163) (by decide +kernel), List.mem_of_getElem? (i := 1164) (by decide +kernel)⟩
theorem lw_p27 : lw_okq (⟨"SherdFieldModel", "letBy", "(III)I"⟩, 43) := ⟨⟨by decide +kernel, by decide +kernel⟩, List.mem_of_getElem? (i := 996) (by decide +kernel), List.mem_of_getElem? (i := 1167) (by decide +kernel), List.mem_of_getElem? (i := 1168) (by decide +kernel)⟩
theorem lw_p28 : lw_okq (⟨"SherdFieldModel", "isLet", "(IIII)Z"⟩, 43) := ⟨⟨by decide +kernel, by decide +kernel⟩, List.mem_of_getElem? (i := 996) (by decide +kernel), List.mem_of_getElem? (i := 1171) (by decide +kernel), List.mem_of_getElem? (i := 1172) (by decide +kernel)⟩
theorem lw_p29 : lw_okq (⟨"SherdFieldModel", "isWalk", "(I)Z"⟩, 43) := ⟨⟨by decide +kernel, by decide +kernel⟩, List.mem_of_getElem? (i := 996) (by decide +kernel), List.mem_of_getElem? (i := 1182) (by decide +kernel), List.mem_of_getElem? (i := 1183) (by decide +kernel)⟩
theorem lw_p30 : lw_okq (⟨"SherdFieldModel", "isPace", "(I)Z"⟩, 43) := ⟨⟨by decide +kernel, by decide +kernel⟩, List.mem_of_getElem? (i := 996) (by decide +kernel), List.mem_of_getElem? (i := 1186) (by decide +kernel), List.mem_of_getElem? (i := 1187) (by decide +kernel)⟩
theorem lw_p31 : lw_okq (⟨"SherdFieldModel", "found", "(IZ)I"⟩, 43) := ⟨⟨by decide +kernel, by decide +kernel⟩, List.mem_of_getElem? (i := 996) (by decide +kernel), List.mem_of_getElem? (i := 1194) (by decide +kernel), List.mem_of_getElem? (i := 1195) (by decide +kernel)⟩
def lw_privs_2 : List (MethodName × Nat) := [(⟨"SherdField$LeaveReader", "isSound", "()Z"⟩, 9), (⟨"SherdField$LeaveReader", "isAt", "(Ljava/lang/String;)Z"⟩, 9), (⟨"SherdField$LeaveReader", "tellFault", "()V"⟩, 9), (⟨"SherdField$LeaveReader", "expectNumber", "(II)I"⟩, 9), (⟨"SherdField$LeaveReader", "valueAtHand", "()I"⟩, 9), (⟨"SherdField$LeaveReader", "readDays", "()V"⟩, 9), (⟨"SherdField$LeaveReader", "readBarred", "()V"⟩, 9), (⟨"SherdField", "sheetNumbered", "(I)LSherdField$Sheet;"⟩, 15), (⟨"SherdField", "gaps", "()I"⟩, 15), (⟨"SherdFieldModel", "paces", "()I"⟩, 43), (⟨"SherdFieldModel", "isRow", "(I)Z"⟩, 43), (⟨"SherdFieldModel", "letBy", "(III)I"⟩, 43), (⟨"SherdFieldModel", "isLet", "(IIII)Z"⟩, 43), (⟨"SherdFieldModel", "isWalk", "(I)Z"⟩, 43), (⟨"SherdFieldModel", "isPace", "(I)Z"⟩, 43), (⟨"SherdFieldModel", "found", "(IZ)I"⟩, 43)]
theorem lw_r2 : ∀ q ∈ lw_privs_2, lw_okq q := List.forall_mem_cons.mpr ⟨lw_p16, List.forall_mem_cons.mpr ⟨lw_p17, List.forall_mem_cons.mpr ⟨lw_p18, List.forall_mem_cons.mpr ⟨lw_p19, List.forall_mem_cons.mpr ⟨lw_p20, List.forall_mem_cons.mpr ⟨lw_p21, List.forall_mem_cons.mpr ⟨lw_p22, List.forall_mem_cons.mpr ⟨lw_p23, List.forall_mem_cons.mpr ⟨lw_p24, List.forall_mem_cons.mpr ⟨lw_p25, List.forall_mem_cons.mpr ⟨lw_p26, List.forall_mem_cons.mpr ⟨lw_p27, List.forall_mem_cons.mpr ⟨lw_p28, List.forall_mem_cons.mpr ⟨lw_p29, List.forall_mem_cons.mpr ⟨lw_p30, List.forall_mem_cons.mpr ⟨lw_p31, fun _ h => absurd h List.not_mem_nil⟩⟩⟩⟩⟩⟩⟩⟩⟩⟩⟩⟩⟩⟩⟩⟩
theorem lw_p32 : lw_okq (⟨"SherdFieldModel", "walkOf", "(I)I"⟩, 43) := ⟨⟨by decide +kernel, by decide +kernel⟩, List.mem_of_getElem? (i := 996) (by decide +kernel), List.mem_of_getElem? (i := 1198) (by decide +kernel), List.mem_of_getElem? (i := 1199) (by decide +kernel)⟩
theorem lw_p33 : lw_okq (⟨"SherdFieldModel", "at", "(III)I"⟩, 43) := ⟨⟨by decide +kernel, by decide +kernel⟩, List.mem_of_getElem? (i := 996) (by decide +kernel), List.mem_of_getElem? (i := 1210) (by decide +kernel), List.mem_of_getElem? (i := 1211) (by decide +kernel)⟩
theorem lw_p34 : lw_okq (⟨"SherdFieldModel", "eyeOf", "(I)I"⟩, 43) := ⟨⟨by decide +kernel, by decide +kernel⟩, List.mem_of_getElem? (i := 996) (by decide +kernel), List.mem_of_getElem? (i := 1230) (by decide +kernel), List.mem_of_getElem? (i := 1231) (by decide +kernel)⟩
theorem lw_p35 : lw_okq (⟨"SherdFieldModel", "look", "()V"⟩, 43) := ⟨⟨by decide +kernel, by decide +kernel⟩, List.mem_of_getElem? (i := 996) (by decide +kernel), List.mem_of_getElem? (i := 1238) (by decide +kernel), List.mem_of_getElem? (i := 1239) (by decide +kernel)⟩
theorem lw_p36 : lw_okq (⟨"SherdFieldModel", "correctedAt", "(II)I"⟩, 43) := ⟨⟨by decide +kernel, by decide +kernel⟩, List.mem_of_getElem? (i := 996) (by decide +kernel), List.mem_of_getElem? (i := 1242) (by decide +kernel), List.mem_of_getElem? (i := 1243) (by decide +kernel)⟩
theorem lw_p37 : lw_okq (⟨"SherdFieldModel", "weigh", "()V"⟩, 43) := ⟨⟨by decide +kernel, by decide +kernel⟩, List.mem_of_getElem? (i := 996) (by decide +kernel), List.mem_of_getElem? (i := 1250) (by decide +kernel), List.mem_of_getElem? (i := 1251) (by decide +kernel)⟩
theorem lw_p38 : lw_okq (⟨"SherdFieldModel", "ring", "(I)I"⟩, 43) := ⟨⟨by decide +kernel, by decide +kernel⟩, List.mem_of_getElem? (i := 996) (by decide +kernel), List.mem_of_getElem? (i := 1254) (by decide +kernel), List.mem_of_getElem? (i := 1255) (by decide +kernel)⟩
theorem lw_p39 : lw_okq (⟨"SherdFieldModel", "best", "()I"⟩, 43) := ⟨⟨by decide +kernel, by decide +kernel⟩, List.mem_of_getElem? (i := 996) (by decide +kernel), List.mem_of_getElem? (i := 1262) (by decide +kernel), List.mem_of_getElem? (i := 1263) (by decide +kernel)⟩
theorem lw_p40 : lw_okq (⟨"SherdFieldModel", "ploughOnce", "()V"⟩, 43) := ⟨⟨by decide +kernel, by decide +kernel⟩, List.mem_of_getElem? (i := 996) (by decide +kernel), List.mem_of_getElem? (i := 1284) (by decide +kernel), List.mem_of_getElem? (i := 1285) (by decide +kernel)⟩
theorem lw_p41 : lw_okq (⟨"SherdFieldModel", "besideMany", "(I)I"⟩, 43) := ⟨⟨by decide +kernel, by decide +kernel⟩, List.mem_of_getElem? (i := 996) (by decide +kernel), List.mem_of_getElem? (i := 1288) (by decide +kernel), List.mem_of_getElem? (i := 1289) (by decide +kernel)⟩
theorem lw_p42 : lw_okq (⟨"SherdFieldModel", "far", "(III)J"⟩, 43) := ⟨⟨by decide +kernel, by decide +kernel⟩, List.mem_of_getElem? (i := 996) (by decide +kernel), List.mem_of_getElem? (i := 1300) (by decide +kernel), List.mem_of_getElem? (i := 1301) (by decide +kernel)⟩
theorem lw_p43 : lw_okq (⟨"SherdFieldModel", "four", "(I)V"⟩, 43) := ⟨⟨by decide +kernel, by decide +kernel⟩, List.mem_of_getElem? (i := 996) (by decide +kernel), List.mem_of_getElem? (i := 1309) (by decide +kernel), List.mem_of_getElem? (i := 1310) (by decide +kernel)⟩
theorem lw_p44 : lw_okq (⟨"SherdFieldModel", "readLeave", "(I)I"⟩, 43) := ⟨⟨by decide +kernel, by decide +kernel⟩, List.mem_of_getElem? (i := 996) (by decide +kernel), List.mem_of_getElem? (i := 1321) (by decide +kernel), List.mem_of_getElem? (i := 1322) (by decide +kernel)⟩
theorem lw_p45 : lw_okq (⟨"SherdFieldModel", "next", "()V"⟩, 43) := ⟨⟨by decide +kernel, by decide +kernel⟩, List.mem_of_getElem? (i := 996) (by decide +kernel), List.mem_of_getElem? (i := 1325) (by decide +kernel), List.mem_of_getElem? (i := 1326) (by decide +kernel)⟩
theorem lw_p46 : lw_okq (⟨"SherdFieldModel", "isWord", "(IIII)Z"⟩, 43) := ⟨⟨by decide +kernel, by decide +kernel⟩, List.mem_of_getElem? (i := 996) (by decide +kernel), List.mem_of_getElem? (i := 1329) (by decide +kernel), List.mem_of_getElem? (i := 1330) (by decide +kernel)⟩
theorem lw_p47 : lw_okq (⟨"SherdFieldModel", "isSpan", "(I)Z"⟩, 43) := ⟨⟨by decide +kernel, by decide +kernel⟩, List.mem_of_getElem? (i := 996) (by decide +kernel), List.mem_of_getElem? (i := 1333) (by decide +kernel), List.mem_of_getElem? (i := 1334) (by decide +kernel)⟩
def lw_privs_3 : List (MethodName × Nat) := [(⟨"SherdFieldModel", "walkOf", "(I)I"⟩, 43), (⟨"SherdFieldModel", "at", "(III)I"⟩, 43), (⟨"SherdFieldModel", "eyeOf", "(I)I"⟩, 43), (⟨"SherdFieldModel", "look", "()V"⟩, 43), (⟨"SherdFieldModel", "correctedAt", "(II)I"⟩, 43), (⟨"SherdFieldModel", "weigh", "()V"⟩, 43), (⟨"SherdFieldModel", "ring", "(I)I"⟩, 43), (⟨"SherdFieldModel", "best", "()I"⟩, 43), (⟨"SherdFieldModel", "ploughOnce", "()V"⟩, 43), (⟨"SherdFieldModel", "besideMany", "(I)I"⟩, 43), (⟨"SherdFieldModel", "far", "(III)J"⟩, 43), (⟨"SherdFieldModel", "four", "(I)V"⟩, 43), (⟨"SherdFieldModel", "readLeave", "(I)I"⟩, 43), (⟨"SherdFieldModel", "next", "()V"⟩, 43), (⟨"SherdFieldModel", "isWord", "(IIII)Z"⟩, 43), (⟨"SherdFieldModel", "isSpan", "(I)Z"⟩, 43)]
theorem lw_r3 : ∀ q ∈ lw_privs_3, lw_okq q := List.forall_mem_cons.mpr ⟨lw_p32, List.forall_mem_cons.mpr ⟨lw_p33, List.forall_mem_cons.mpr ⟨lw_p34, List.forall_mem_cons.mpr ⟨lw_p35, List.forall_mem_cons.mpr ⟨lw_p36, List.forall_mem_cons.mpr ⟨lw_p37, List.forall_mem_cons.mpr ⟨lw_p38, List.forall_mem_cons.mpr ⟨lw_p39, List.forall_mem_cons.mpr ⟨lw_p40, List.forall_mem_cons.mpr ⟨lw_p41, List.forall_mem_cons.mpr ⟨lw_p42, List.forall_mem_cons.mpr ⟨lw_p43, List.forall_mem_cons.mpr ⟨lw_p44, List.forall_mem_cons.mpr ⟨lw_p45, List.forall_mem_cons.mpr ⟨lw_p46, List.forall_mem_cons.mpr ⟨lw_p47, fun _ h => absurd h List.not_mem_nil⟩⟩⟩⟩⟩⟩⟩⟩⟩⟩⟩⟩⟩⟩⟩⟩
theorem lw_p48 : lw_okq (⟨"SherdFieldModel", "number", "()I"⟩, 43) := ⟨⟨by decide +kernel, by decide +kernel⟩, List.mem_of_getElem? (i := 996) (by decide +kernel), List.mem_of_getElem? (i := 1337) (by decide +kernel), List.mem_of_getElem? (i := 1338) (by decide +kernel)⟩
theorem lw_p49 : lw_okq (⟨"SherdFieldModel", "here", "()I"⟩, 43) := ⟨⟨by decide +kernel, by decide +kernel⟩, List.mem_of_getElem? (i := 996) (by decide +kernel), List.mem_of_getElem? (i := 1341) (by decide +kernel), List.mem_of_getElem? (i := 1342) (by decide +kernel)⟩
theorem lw_p50 : lw_okq (⟨"SherdFieldModel", "put", "(I)V"⟩, 43) := ⟨⟨by decide +kernel, by decide +kernel⟩, List.mem_of_getElem? (i := 996) (by decide +kernel), List.mem_of_getElem? (i := 1345) (by decide +kernel), List.mem_of_getElem? (i := 1346) (by decide +kernel)⟩
def lw_privs_4 : List (MethodName × Nat) := [(⟨"SherdFieldModel", "number", "()I"⟩, 43), (⟨"SherdFieldModel", "here", "()I"⟩, 43), (⟨"SherdFieldModel", "put", "(I)V"⟩, 43)]
theorem lw_r4 : ∀ q ∈ lw_privs_4, lw_okq q := List.forall_mem_cons.mpr ⟨lw_p48, List.forall_mem_cons.mpr ⟨lw_p49, List.forall_mem_cons.mpr ⟨lw_p50, fun _ h => absurd h List.not_mem_nil⟩⟩⟩
def lw_privs : List (MethodName × Nat) := lw_privs_1 ++ (lw_privs_2 ++ (lw_privs_3 ++ (lw_privs_4)))
def lw_tbl : List Cond := k2_sels lw_privs ++ tables_1
theorem lw_privs_ok : ∀ q ∈ lw_privs, lw_okq q := by
  show ∀ q ∈ lw_privs_1 ++ (lw_privs_2 ++ (lw_privs_3 ++ (lw_privs_4))), lw_okq q
  exact List.forall_mem_append.mpr ⟨lw_r1, List.forall_mem_append.mpr ⟨lw_r2, List.forall_mem_append.mpr ⟨lw_r3, lw_r4⟩⟩⟩
end
section
def RX0 : String := "SherdField$Eyes"
def TX0 : u_T := fun k => match k with
  | 0 => ("SherdField$Eyes", "walks", "LSherdField$Walks;", true)
  | _ => ("SherdField$Eyes", "sorts", "LSherdField$Sorts;", true)
def tyX0 : Nat → FieldType := fun k => match k with
  | 0 => .object "SherdField$Walks"
  | _ => .object "SherdField$Sorts"
theorem nmX0 : ∀ a, a < 2 → ∀ b, b < 2 → a ≠ b → (TX0 a).2.1 ≠ (TX0 b).2.1 := by decide +kernel
theorem tyX0_ok : ∀ k, k < 2 → parseFieldDescriptor (TX0 k).2.2.1 = some (tyX0 k) := by decide +kernel
abbrev cX0_init : ByteArray := prog_2_method_1_code
def yX0_init : MethodName := ⟨RX0, "<init>", "(LSherdField$Walks;LSherdField$Sorts;)V"⟩
abbrev cX0_pairs : ByteArray := prog_2_method_2_code
def yX0_pairs : MethodName := ⟨RX0, "pairs", "(II)I"⟩
abbrev cX0_seenBeside : ByteArray := prog_2_method_3_code
def yX0_seenBeside : MethodName := ⟨RX0, "seenBeside", "(II)I"⟩
abbrev cX0_hundredths : ByteArray := prog_2_method_4_code
def yX0_hundredths : MethodName := ⟨RX0, "hundredths", "(I)I"⟩
abbrev cX0_ofTeller : ByteArray := prog_2_method_5_code
def yX0_ofTeller : MethodName := ⟨RX0, "ofTeller", "(I)I"⟩
abbrev cX0_amend : ByteArray := prog_2_method_6_code
def yX0_amend : MethodName := ⟨RX0, "amend", "(III)I"⟩
abbrev cX0_arePair : ByteArray := prog_2_method_7_code
def yX0_arePair : MethodName := ⟨RX0, "arePair", "(II)Z"⟩
abbrev cX0_walksBeside : ByteArray := prog_2_method_8_code
def yX0_walksBeside : MethodName := ⟨RX0, "walksBeside", "(II)I"⟩
abbrev cX0_seenIn : ByteArray := prog_2_method_9_code
def yX0_seenIn : MethodName := ⟨RX0, "seenIn", "(I)I"⟩
def RX1 : String := "SherdField$Finds"
def TX1 : u_T := fun k => match k with
  | 0 => ("SherdField$Finds", "walks", "[I", true)
  | 1 => ("SherdField$Finds", "paces", "[I", true)
  | 2 => ("SherdField$Finds", "kinds", "[I", true)
  | 3 => ("SherdField$Finds", "numbers", "[I", true)
  | _ => ("SherdField$Finds", "number", "I", false)
def tyX1 : Nat → FieldType := fun k => match k with
  | 0 => .array .int
  | 1 => .array .int
  | 2 => .array .int
  | 3 => .array .int
  | _ => .int
theorem nmX1 : ∀ a, a < 5 → ∀ b, b < 5 → a ≠ b → (TX1 a).2.1 ≠ (TX1 b).2.1 := by decide +kernel
theorem tyX1_ok : ∀ k, k < 5 → parseFieldDescriptor (TX1 k).2.2.1 = some (tyX1 k) := by decide +kernel
abbrev cX1_init : ByteArray := prog_3_method_1_code
def yX1_init : MethodName := ⟨RX1, "<init>", "()V"⟩
abbrev cX1_clear : ByteArray := prog_3_method_2_code
def yX1_clear : MethodName := ⟨RX1, "clear", "()V"⟩
abbrev cX1_number : ByteArray := prog_3_method_3_code
def yX1_number : MethodName := ⟨RX1, "number", "()I"⟩
abbrev cX1_isFull : ByteArray := prog_3_method_4_code
def yX1_isFull : MethodName := ⟨RX1, "isFull", "()Z"⟩
abbrev cX1_has : ByteArray := prog_3_method_5_code
def yX1_has : MethodName := ⟨RX1, "has", "(I)Z"⟩
abbrev cX1_add : ByteArray := prog_3_method_6_code
def yX1_add : MethodName := ⟨RX1, "add", "(IIII)I"⟩
abbrev cX1_walkOf : ByteArray := prog_3_method_7_code
def yX1_walkOf : MethodName := ⟨RX1, "walkOf", "(I)I"⟩
abbrev cX1_paceOf : ByteArray := prog_3_method_8_code
def yX1_paceOf : MethodName := ⟨RX1, "paceOf", "(I)I"⟩
abbrev cX1_kindOf : ByteArray := prog_3_method_9_code
def yX1_kindOf : MethodName := ⟨RX1, "kindOf", "(I)I"⟩
abbrev cX1_numberOf : ByteArray := prog_3_method_10_code
def yX1_numberOf : MethodName := ⟨RX1, "numberOf", "(I)I"⟩
abbrev cX1_inWalkAt : ByteArray := prog_3_method_11_code
def yX1_inWalkAt : MethodName := ⟨RX1, "inWalkAt", "(III)I"⟩
def RX2 : String := "SherdField$Ground"
def TX2 : u_T := fun k => match k with
  | 0 => ("SherdField$Ground", "wide", "I", false)
  | 1 => ("SherdField$Ground", "high", "I", false)
  | 2 => ("SherdField$Ground", "barren", "J", false)
  | 3 => ("SherdField$Ground", "lying", "[I", false)
  | _ => ("SherdField$Ground", "spread", "[I", false)
def tyX2 : Nat → FieldType := fun k => match k with
  | 0 => .int
  | 1 => .int
  | 2 => .long
  | 3 => .array .int
  | _ => .array .int
theorem nmX2 : ∀ a, a < 5 → ∀ b, b < 5 → a ≠ b → (TX2 a).2.1 ≠ (TX2 b).2.1 := by decide +kernel
theorem tyX2_ok : ∀ k, k < 5 → parseFieldDescriptor (TX2 k).2.2.1 = some (tyX2 k) := by decide +kernel
abbrev cX2_init : ByteArray := prog_4_method_1_code
def yX2_init : MethodName := ⟨RX2, "<init>", "()V"⟩
abbrev cX2_renew : ByteArray := prog_4_method_2_code
def yX2_renew : MethodName := ⟨RX2, "renew", "(II)V"⟩
abbrev cX2_paces : ByteArray := prog_4_method_3_code
def yX2_paces : MethodName := ⟨RX2, "paces", "()I"⟩
abbrev cX2_rows : ByteArray := prog_4_method_4_code
def yX2_rows : MethodName := ⟨RX2, "rows", "()I"⟩
abbrev cX2_columns : ByteArray := prog_4_method_5_code
def yX2_columns : MethodName := ⟨RX2, "columns", "()I"⟩
abbrev cX2_hasPace : ByteArray := prog_4_method_6_code
def yX2_hasPace : MethodName := ⟨RX2, "hasPace", "(I)Z"⟩
abbrev cX2_hasRow : ByteArray := prog_4_method_7_code
def yX2_hasRow : MethodName := ⟨RX2, "hasRow", "(I)Z"⟩
abbrev cX2_rowOf : ByteArray := prog_4_method_8_code
def yX2_rowOf : MethodName := ⟨RX2, "rowOf", "(I)I"⟩
abbrev cX2_columnOf : ByteArray := prog_4_method_9_code
def yX2_columnOf : MethodName := ⟨RX2, "columnOf", "(I)I"⟩
abbrev cX2_isBarren : ByteArray := prog_4_method_10_code
def yX2_isBarren : MethodName := ⟨RX2, "isBarren", "(I)Z"⟩
abbrev cX2_dig : ByteArray := prog_4_method_11_code
def yX2_dig : MethodName := ⟨RX2, "dig", "(IZ)V"⟩
abbrev cX2_barrenPaces : ByteArray := prog_4_method_12_code
def yX2_barrenPaces : MethodName := ⟨RX2, "barrenPaces", "()I"⟩
abbrev cX2_ringSum : ByteArray := prog_4_method_13_code
def yX2_ringSum : MethodName := ⟨RX2, "ringSum", "([II)I"⟩
abbrev cX2_greatestRing : ByteArray := prog_4_method_14_code
def yX2_greatestRing : MethodName := ⟨RX2, "greatestRing", "([I)I"⟩
abbrev cX2_behindPloughs : ByteArray := prog_4_method_15_code
def yX2_behindPloughs : MethodName := ⟨RX2, "behindPloughs", "(LSherdField$Sheet;II)I"⟩
abbrev cX2_ploughOnce : ByteArray := prog_4_method_16_code
def yX2_ploughOnce : MethodName := ⟨RX2, "ploughOnce", "()V"⟩
abbrev cX2_spreadFrom : ByteArray := prog_4_method_17_code
def yX2_spreadFrom : MethodName := ⟨RX2, "spreadFrom", "(I)V"⟩
def RX3 : String := "SherdField$Heaps"
def TX3 : u_T := fun k => match k with
  | 0 => ("SherdField$Heaps", "ground", "LSherdField$Ground;", true)
  | 1 => ("SherdField$Heaps", "walks", "LSherdField$Walks;", true)
  | 2 => ("SherdField$Heaps", "eyes", "LSherdField$Eyes;", true)
  | 3 => ("SherdField$Heaps", "sorts", "LSherdField$Sorts;", true)
  | 4 => ("SherdField$Heaps", "worths", "[I", true)
  | _ => ("SherdField$Heaps", "walked", "[I", true)
def tyX3 : Nat → FieldType := fun k => match k with
  | 0 => .object "SherdField$Ground"
  | 1 => .object "SherdField$Walks"
  | 2 => .object "SherdField$Eyes"
  | 3 => .object "SherdField$Sorts"
  | 4 => .array .int
  | _ => .array .int
theorem nmX3 : ∀ a, a < 6 → ∀ b, b < 6 → a ≠ b → (TX3 a).2.1 ≠ (TX3 b).2.1 := by decide +kernel
theorem tyX3_ok : ∀ k, k < 6 → parseFieldDescriptor (TX3 k).2.2.1 = some (tyX3 k) := by decide +kernel
abbrev cX3_init : ByteArray := prog_5_method_1_code
def yX3_init : MethodName := ⟨RX3, "<init>", "(LSherdField$Ground;LSherdField$Walks;LSherdField$Eyes;LSherdField$Sorts;)V"⟩
abbrev cX3_lay : ByteArray := prog_5_method_2_code
def yX3_lay : MethodName := ⟨RX3, "lay", "()V"⟩
abbrev cX3_worthAt : ByteArray := prog_5_method_3_code
def yX3_worthAt : MethodName := ⟨RX3, "worthAt", "(I)I"⟩
abbrev cX3_sumAround : ByteArray := prog_5_method_4_code
def yX3_sumAround : MethodName := ⟨RX3, "sumAround", "(I)I"⟩
abbrev cX3_richest : ByteArray := prog_5_method_5_code
def yX3_richest : MethodName := ⟨RX3, "richest", "()I"⟩
abbrev cX3_standsOut : ByteArray := prog_5_method_6_code
def yX3_standsOut : MethodName := ⟨RX3, "standsOut", "(IIII)Z"⟩
abbrev cX3_weighed : ByteArray := prog_5_method_7_code
def yX3_weighed : MethodName := ⟨RX3, "weighed", "(III)I"⟩
abbrev cX3_gatherWalked : ByteArray := prog_5_method_8_code
def yX3_gatherWalked : MethodName := ⟨RX3, "gatherWalked", "()I"⟩
abbrev cX3_shuffle : ByteArray := prog_5_method_9_code
def yX3_shuffle : MethodName := ⟨RX3, "shuffle", "(II)I"⟩
def RX4 : String := "SherdField$LeaveReader"
def TX4 : u_T := fun k => match k with
  | 0 => ("SherdField$LeaveReader", "tape", "LSherdField$Tape;", true)
  | 1 => ("SherdField$LeaveReader", "start", "I", false)
  | 2 => ("SherdField$LeaveReader", "end", "I", false)
  | 3 => ("SherdField$LeaveReader", "fault", "I", false)
  | 4 => ("SherdField$LeaveReader", "firstRow", "I", false)
  | 5 => ("SherdField$LeaveReader", "lastRow", "I", false)
  | 6 => ("SherdField$LeaveReader", "firstDay", "I", false)
  | 7 => ("SherdField$LeaveReader", "lastDay", "I", false)
  | _ => ("SherdField$LeaveReader", "barred", "I", false)
def tyX4 : Nat → FieldType := fun k => match k with
  | 0 => .object "SherdField$Tape"
  | 1 => .int
  | 2 => .int
  | 3 => .int
  | 4 => .int
  | 5 => .int
  | 6 => .int
  | 7 => .int
  | _ => .int
theorem nmX4 : ∀ a, a < 9 → ∀ b, b < 9 → a ≠ b → (TX4 a).2.1 ≠ (TX4 b).2.1 := by decide +kernel
theorem tyX4_ok : ∀ k, k < 9 → parseFieldDescriptor (TX4 k).2.2.1 = some (tyX4 k) := by decide +kernel
abbrev cX4_init : ByteArray := prog_6_method_1_code
def yX4_init : MethodName := ⟨RX4, "<init>", "(LSherdField$Tape;)V"⟩
abbrev cX4_read : ByteArray := prog_6_method_2_code
def yX4_read : MethodName := ⟨RX4, "read", "()I"⟩
abbrev cX4_firstRow : ByteArray := prog_6_method_3_code
def yX4_firstRow : MethodName := ⟨RX4, "firstRow", "()I"⟩
abbrev cX4_lastRow : ByteArray := prog_6_method_4_code
def yX4_lastRow : MethodName := ⟨RX4, "lastRow", "()I"⟩
abbrev cX4_firstDay : ByteArray := prog_6_method_5_code
def yX4_firstDay : MethodName := ⟨RX4, "firstDay", "()I"⟩
abbrev cX4_lastDay : ByteArray := prog_6_method_6_code
def yX4_lastDay : MethodName := ⟨RX4, "lastDay", "()I"⟩
abbrev cX4_barred : ByteArray := prog_6_method_7_code
def yX4_barred : MethodName := ⟨RX4, "barred", "()I"⟩
abbrev cX4_readRows : ByteArray := prog_6_method_8_code
def yX4_readRows : MethodName := ⟨RX4, "readRows", "()V"⟩
abbrev cX4_readDays : ByteArray := prog_6_method_9_code
def yX4_readDays : MethodName := ⟨RX4, "readDays", "()V"⟩
abbrev cX4_readBarred : ByteArray := prog_6_method_10_code
def yX4_readBarred : MethodName := ⟨RX4, "readBarred", "()V"⟩
abbrev cX4_isSound : ByteArray := prog_6_method_11_code
def yX4_isSound : MethodName := ⟨RX4, "isSound", "()Z"⟩
abbrev cX4_tellFault : ByteArray := prog_6_method_12_code
def yX4_tellFault : MethodName := ⟨RX4, "tellFault", "()V"⟩
abbrev cX4_expect : ByteArray := prog_6_method_13_code
def yX4_expect : MethodName := ⟨RX4, "expect", "(Ljava/lang/String;)V"⟩
abbrev cX4_expectNumber : ByteArray := prog_6_method_14_code
def yX4_expectNumber : MethodName := ⟨RX4, "expectNumber", "(II)I"⟩
abbrev cX4_goOn : ByteArray := prog_6_method_15_code
def yX4_goOn : MethodName := ⟨RX4, "goOn", "()V"⟩
abbrev cX4_isAt : ByteArray := prog_6_method_16_code
def yX4_isAt : MethodName := ⟨RX4, "isAt", "(Ljava/lang/String;)Z"⟩
abbrev cX4_valueAtHand : ByteArray := prog_6_method_17_code
def yX4_valueAtHand : MethodName := ⟨RX4, "valueAtHand", "()I"⟩
def RX5 : String := "SherdField$Leaves"
def TX5 : u_T := fun k => match k with
  | 0 => ("SherdField$Leaves", "firstRows", "[I", true)
  | 1 => ("SherdField$Leaves", "lastRows", "[I", true)
  | 2 => ("SherdField$Leaves", "firstDays", "[I", true)
  | 3 => ("SherdField$Leaves", "lastDays", "[I", true)
  | 4 => ("SherdField$Leaves", "barred", "[I", true)
  | 5 => ("SherdField$Leaves", "withdrawn", "[Z", true)
  | _ => ("SherdField$Leaves", "number", "I", false)
def tyX5 : Nat → FieldType := fun k => match k with
  | 0 => .array .int
  | 1 => .array .int
  | 2 => .array .int
  | 3 => .array .int
  | 4 => .array .int
  | 5 => .array .boolean
  | _ => .int
theorem nmX5 : ∀ a, a < 7 → ∀ b, b < 7 → a ≠ b → (TX5 a).2.1 ≠ (TX5 b).2.1 := by decide +kernel
theorem tyX5_ok : ∀ k, k < 7 → parseFieldDescriptor (TX5 k).2.2.1 = some (tyX5 k) := by decide +kernel
abbrev cX5_init : ByteArray := prog_7_method_1_code
def yX5_init : MethodName := ⟨RX5, "<init>", "()V"⟩
abbrev cX5_wereGiven : ByteArray := prog_7_method_2_code
def yX5_wereGiven : MethodName := ⟨RX5, "wereGiven", "()Z"⟩
abbrev cX5_isFull : ByteArray := prog_7_method_3_code
def yX5_isFull : MethodName := ⟨RX5, "isFull", "()Z"⟩
abbrev cX5_has : ByteArray := prog_7_method_4_code
def yX5_has : MethodName := ⟨RX5, "has", "(I)Z"⟩
abbrev cX5_add : ByteArray := prog_7_method_5_code
def yX5_add : MethodName := ⟨RX5, "add", "(LSherdField$LeaveReader;)I"⟩
abbrev cX5_isWithdrawn : ByteArray := prog_7_method_6_code
def yX5_isWithdrawn : MethodName := ⟨RX5, "isWithdrawn", "(I)Z"⟩
abbrev cX5_takeBack : ByteArray := prog_7_method_7_code
def yX5_takeBack : MethodName := ⟨RX5, "takeBack", "(I)V"⟩
abbrev cX5_standing : ByteArray := prog_7_method_8_code
def yX5_standing : MethodName := ⟨RX5, "standing", "()I"⟩
abbrev cX5_firstLetting : ByteArray := prog_7_method_9_code
def yX5_firstLetting : MethodName := ⟨RX5, "firstLetting", "(III)I"⟩
abbrev cX5_covers : ByteArray := prog_7_method_10_code
def yX5_covers : MethodName := ⟨RX5, "covers", "(III)Z"⟩
def RX6 : String := "SherdField$Periods"
def TX6 : u_T := fun k => match k with
  | 0 => ("SherdField$Periods", "profiles", "[I", true)
  | 1 => ("SherdField$Periods", "counted", "[I", true)
  | _ => ("SherdField$Periods", "best", "[I", true)
def tyX6 : Nat → FieldType := fun k => match k with
  | 0 => .array .int
  | 1 => .array .int
  | _ => .array .int
theorem nmX6 : ∀ a, a < 3 → ∀ b, b < 3 → a ≠ b → (TX6 a).2.1 ≠ (TX6 b).2.1 := by decide +kernel
theorem tyX6_ok : ∀ k, k < 3 → parseFieldDescriptor (TX6 k).2.2.1 = some (tyX6 k) := by decide +kernel
abbrev cX6_init : ByteArray := prog_8_method_1_code
def yX6_init : MethodName := ⟨RX6, "<init>", "()V"⟩
abbrev cX6_become : ByteArray := prog_8_method_2_code
def yX6_become : MethodName := ⟨RX6, "become", "(III)I"⟩
abbrev cX6_tell : ByteArray := prog_8_method_3_code
def yX6_tell : MethodName := ⟨RX6, "tell", "(II)V"⟩
abbrev cX6_bestPart : ByteArray := prog_8_method_4_code
def yX6_bestPart : MethodName := ⟨RX6, "bestPart", "(I)I"⟩
abbrev cX6_seekBest : ByteArray := prog_8_method_5_code
def yX6_seekBest : MethodName := ⟨RX6, "seekBest", "()V"⟩
abbrev cX6_misfit : ByteArray := prog_8_method_6_code
def yX6_misfit : MethodName := ⟨RX6, "misfit", "(III)J"⟩
def RX7 : String := "SherdField$Sheet"
def TX7 : u_T := fun k => match k with
  | 0 => ("SherdField$Sheet", "places", "[S", true)
  | _ => ("SherdField$Sheet", "size", "I", false)
def tyX7 : Nat → FieldType := fun k => match k with
  | 0 => .array .short
  | _ => .int
theorem nmX7 : ∀ a, a < 2 → ∀ b, b < 2 → a ≠ b → (TX7 a).2.1 ≠ (TX7 b).2.1 := by decide +kernel
theorem tyX7_ok : ∀ k, k < 2 → parseFieldDescriptor (TX7 k).2.2.1 = some (tyX7 k) := by decide +kernel
abbrev cX7_init : ByteArray := prog_9_method_1_code
def yX7_init : MethodName := ⟨RX7, "<init>", "()V"⟩
abbrev cX7_isMissing : ByteArray := prog_9_method_2_code
def yX7_isMissing : MethodName := ⟨RX7, "isMissing", "()Z"⟩
abbrev cX7_renew : ByteArray := prog_9_method_3_code
def yX7_renew : MethodName := ⟨RX7, "renew", "(I)V"⟩
abbrev cX7_vanish : ByteArray := prog_9_method_4_code
def yX7_vanish : MethodName := ⟨RX7, "vanish", "()I"⟩
abbrev cX7_has : ByteArray := prog_9_method_5_code
def yX7_has : MethodName := ⟨RX7, "has", "(I)Z"⟩
abbrev cX7_hasRun : ByteArray := prog_9_method_6_code
def yX7_hasRun : MethodName := ⟨RX7, "hasRun", "(II)Z"⟩
abbrev cX7_at : ByteArray := prog_9_method_7_code
def yX7_at : MethodName := ⟨RX7, "at", "(I)I"⟩
abbrev cX7_put : ByteArray := prog_9_method_8_code
def yX7_put : MethodName := ⟨RX7, "put", "(II)I"⟩
abbrev cX7_take : ByteArray := prog_9_method_9_code
def yX7_take : MethodName := ⟨RX7, "take", "(LSherdField$Sheet;III)V"⟩
def RX8 : String := "SherdField$Sorts"
def TX8 : u_T := fun k => match k with
  | _ => ("SherdField$Sorts", "sortOf", "[I", true)
def tyX8 : Nat → FieldType := fun k => match k with
  | _ => .array .int
theorem nmX8 : ∀ a, a < 1 → ∀ b, b < 1 → a ≠ b → (TX8 a).2.1 ≠ (TX8 b).2.1 := by decide +kernel
theorem tyX8_ok : ∀ k, k < 1 → parseFieldDescriptor (TX8 k).2.2.1 = some (tyX8 k) := by decide +kernel
abbrev cX8_init : ByteArray := prog_10_method_1_code
def yX8_init : MethodName := ⟨RX8, "<init>", "()V"⟩
abbrev cX8_isSort : ByteArray := prog_10_method_2_code
def yX8_isSort : MethodName := ⟨RX8, "isSort", "(I)Z"⟩
abbrev cX8_become : ByteArray := prog_10_method_3_code
def yX8_become : MethodName := ⟨RX8, "become", "(II)I"⟩
abbrev cX8_counts : ByteArray := prog_10_method_4_code
def yX8_counts : MethodName := ⟨RX8, "counts", "(II)Z"⟩
abbrev cX8_isCoarse : ByteArray := prog_10_method_5_code
def yX8_isCoarse : MethodName := ⟨RX8, "isCoarse", "(I)Z"⟩
abbrev cX8_weight : ByteArray := prog_10_method_6_code
def yX8_weight : MethodName := ⟨RX8, "weight", "(I)I"⟩
def RX9 : String := "SherdField$Tape"
def TX9 : u_T := fun k => match k with
  | 0 => ("SherdField$Tape", "bytes", "[B", true)
  | _ => ("SherdField$Tape", "length", "I", false)
def tyX9 : Nat → FieldType := fun k => match k with
  | 0 => .array .byte
  | _ => .int
theorem nmX9 : ∀ a, a < 2 → ∀ b, b < 2 → a ≠ b → (TX9 a).2.1 ≠ (TX9 b).2.1 := by decide +kernel
theorem tyX9_ok : ∀ k, k < 2 → parseFieldDescriptor (TX9 k).2.2.1 = some (tyX9 k) := by decide +kernel
abbrev cX9_init : ByteArray := prog_11_method_1_code
def yX9_init : MethodName := ⟨RX9, "<init>", "()V"⟩
abbrev cX9_length : ByteArray := prog_11_method_2_code
def yX9_length : MethodName := ⟨RX9, "length", "()I"⟩
abbrev cX9_hasRoom : ByteArray := prog_11_method_3_code
def yX9_hasRoom : MethodName := ⟨RX9, "hasRoom", "()Z"⟩
abbrev cX9_add : ByteArray := prog_11_method_4_code
def yX9_add : MethodName := ⟨RX9, "add", "(I)V"⟩
abbrev cX9_keep : ByteArray := prog_11_method_5_code
def yX9_keep : MethodName := ⟨RX9, "keep", "(I)V"⟩
abbrev cX9_at : ByteArray := prog_11_method_6_code
def yX9_at : MethodName := ⟨RX9, "at", "(I)I"⟩
def RX10 : String := "SherdField$Walks"
def TX10 : u_T := fun k => match k with
  | 0 => ("SherdField$Walks", "walkers", "[I", true)
  | 1 => ("SherdField$Walks", "rows", "[I", true)
  | 2 => ("SherdField$Walks", "days", "[I", true)
  | 3 => ("SherdField$Walks", "sums", "[I", true)
  | 4 => ("SherdField$Walks", "tallies", "[I", true)
  | _ => ("SherdField$Walks", "number", "I", false)
def tyX10 : Nat → FieldType := fun k => match k with
  | 0 => .array .int
  | 1 => .array .int
  | 2 => .array .int
  | 3 => .array .int
  | 4 => .array .int
  | _ => .int
theorem nmX10 : ∀ a, a < 6 → ∀ b, b < 6 → a ≠ b → (TX10 a).2.1 ≠ (TX10 b).2.1 := by decide +kernel
theorem tyX10_ok : ∀ k, k < 6 → parseFieldDescriptor (TX10 k).2.2.1 = some (tyX10 k) := by decide +kernel
abbrev cX10_init : ByteArray := prog_12_method_1_code
def yX10_init : MethodName := ⟨RX10, "<init>", "()V"⟩
abbrev cX10_clear : ByteArray := prog_12_method_2_code
def yX10_clear : MethodName := ⟨RX10, "clear", "()V"⟩
abbrev cX10_number : ByteArray := prog_12_method_3_code
def yX10_number : MethodName := ⟨RX10, "number", "()I"⟩
abbrev cX10_isFull : ByteArray := prog_12_method_4_code
def yX10_isFull : MethodName := ⟨RX10, "isFull", "()Z"⟩
abbrev cX10_has : ByteArray := prog_12_method_5_code
def yX10_has : MethodName := ⟨RX10, "has", "(I)Z"⟩
abbrev cX10_add : ByteArray := prog_12_method_6_code
def yX10_add : MethodName := ⟨RX10, "add", "(III)I"⟩
abbrev cX10_walkerOf : ByteArray := prog_12_method_7_code
def yX10_walkerOf : MethodName := ⟨RX10, "walkerOf", "(I)I"⟩
abbrev cX10_rowOf : ByteArray := prog_12_method_8_code
def yX10_rowOf : MethodName := ⟨RX10, "rowOf", "(I)I"⟩
abbrev cX10_dayOf : ByteArray := prog_12_method_9_code
def yX10_dayOf : MethodName := ⟨RX10, "dayOf", "(I)I"⟩
abbrev cX10_bear : ByteArray := prog_12_method_10_code
def yX10_bear : MethodName := ⟨RX10, "bear", "(IIII)V"⟩
abbrev cX10_borne : ByteArray := prog_12_method_11_code
def yX10_borne : MethodName := ⟨RX10, "borne", "(III)I"⟩
abbrev cX10_sumOf : ByteArray := prog_12_method_12_code
def yX10_sumOf : MethodName := ⟨RX10, "sumOf", "(II)I"⟩
abbrev cX10_total : ByteArray := prog_12_method_13_code
def yX10_total : MethodName := ⟨RX10, "total", "(I)I"⟩
abbrev cX10_teller : ByteArray := prog_12_method_14_code
def yX10_teller : MethodName := ⟨RX10, "teller", "(I)I"⟩
abbrev cX10_tallyPlace : ByteArray := prog_12_method_15_code
def yX10_tallyPlace : MethodName := ⟨RX10, "tallyPlace", "(III)I"⟩
def RX11 : String := "SherdField"
def TX11 : u_T := fun k => match k with
  | 0 => ("SherdField", "ground", "LSherdField$Ground;", true)
  | 1 => ("SherdField", "sorts", "LSherdField$Sorts;", true)
  | 2 => ("SherdField", "walks", "LSherdField$Walks;", true)
  | 3 => ("SherdField", "finds", "LSherdField$Finds;", true)
  | 4 => ("SherdField", "eyes", "LSherdField$Eyes;", true)
  | 5 => ("SherdField", "heaps", "LSherdField$Heaps;", true)
  | 6 => ("SherdField", "periods", "LSherdField$Periods;", true)
  | 7 => ("SherdField", "tape", "LSherdField$Tape;", true)
  | 8 => ("SherdField", "reader", "LSherdField$LeaveReader;", true)
  | 9 => ("SherdField", "leaves", "LSherdField$Leaves;", true)
  | 10 => ("SherdField", "firstSheet", "LSherdField$Sheet;", true)
  | 11 => ("SherdField", "secondSheet", "LSherdField$Sheet;", true)
  | 12 => ("SherdField", "today", "I", false)
  | 13 => ("SherdField", "seed", "I", false)
  | _ => ("SherdField", "spare", "I", false)
def tyX11 : Nat → FieldType := fun k => match k with
  | 0 => .object "SherdField$Ground"
  | 1 => .object "SherdField$Sorts"
  | 2 => .object "SherdField$Walks"
  | 3 => .object "SherdField$Finds"
  | 4 => .object "SherdField$Eyes"
  | 5 => .object "SherdField$Heaps"
  | 6 => .object "SherdField$Periods"
  | 7 => .object "SherdField$Tape"
  | 8 => .object "SherdField$LeaveReader"
  | 9 => .object "SherdField$Leaves"
  | 10 => .object "SherdField$Sheet"
  | 11 => .object "SherdField$Sheet"
  | 12 => .int
  | 13 => .int
  | _ => .int
theorem nmX11 : ∀ a, a < 15 → ∀ b, b < 15 → a ≠ b → (TX11 a).2.1 ≠ (TX11 b).2.1 := by decide +kernel
theorem tyX11_ok : ∀ k, k < 15 → parseFieldDescriptor (TX11 k).2.2.1 = some (tyX11 k) := by decide +kernel
abbrev cX11_init : ByteArray := prog_1_method_1_code
def yX11_init : MethodName := ⟨RX11, "<init>", "()V"⟩
abbrev cX11_field : ByteArray := prog_1_method_2_code
def yX11_field : MethodName := ⟨RX11, "field", "(II)I"⟩
abbrev cX11_sort : ByteArray := prog_1_method_3_code
def yX11_sort : MethodName := ⟨RX11, "sort", "(II)I"⟩
abbrev cX11_isOf : ByteArray := prog_1_method_4_code
def yX11_isOf : MethodName := ⟨RX11, "isOf", "(II)I"⟩
abbrev cX11_walk : ByteArray := prog_1_method_5_code
def yX11_walk : MethodName := ⟨RX11, "walk", "(II)I"⟩
abbrev cX11_find : ByteArray := prog_1_method_6_code
def yX11_find : MethodName := ⟨RX11, "find", "(IIII)I"⟩
abbrev cX11_told : ByteArray := prog_1_method_7_code
def yX11_told : MethodName := ⟨RX11, "told", "(II)I"⟩
abbrev cX11_of : ByteArray := prog_1_method_8_code
def yX11_of : MethodName := ⟨RX11, "of", "(II)I"⟩
abbrev cX11_count : ByteArray := prog_1_method_9_code
def yX11_count : MethodName := ⟨RX11, "count", "(II)I"⟩
abbrev cX11_gap : ByteArray := prog_1_method_10_code
def yX11_gap : MethodName := ⟨RX11, "gap", "()I"⟩
abbrev cX11_led : ByteArray := prog_1_method_11_code
def yX11_led : MethodName := ⟨RX11, "led", "(II)I"⟩
abbrev cX11_pair : ByteArray := prog_1_method_12_code
def yX11_pair : MethodName := ⟨RX11, "pair", "(III)I"⟩
abbrev cX11_eye : ByteArray := prog_1_method_13_code
def yX11_eye : MethodName := ⟨RX11, "eye", "(I)I"⟩
abbrev cX11_corrected : ByteArray := prog_1_method_14_code
def yX11_corrected : MethodName := ⟨RX11, "corrected", "(II)I"⟩
abbrev cX11_worth : ByteArray := prog_1_method_15_code
def yX11_worth : MethodName := ⟨RX11, "worth", "(II)I"⟩
abbrev cX11_greatest : ByteArray := prog_1_method_16_code
def yX11_greatest : MethodName := ⟨RX11, "greatest", "()I"⟩
abbrev cX11_heap : ByteArray := prog_1_method_17_code
def yX11_heap : MethodName := ⟨RX11, "heap", "(II)I"⟩
abbrev cX11_spade : ByteArray := prog_1_method_18_code
def yX11_spade : MethodName := ⟨RX11, "spade", "(II)I"⟩
abbrev cX11_rule : ByteArray := prog_1_method_19_code
def yX11_rule : MethodName := ⟨RX11, "rule", "(II)I"⟩
abbrev cX11_plough : ByteArray := prog_1_method_20_code
def yX11_plough : MethodName := ⟨RX11, "plough", "(II)I"⟩
abbrev cX11_profile : ByteArray := prog_1_method_21_code
def yX11_profile : MethodName := ⟨RX11, "profile", "(III)I"⟩
abbrev cX11_mixed : ByteArray := prog_1_method_22_code
def yX11_mixed : MethodName := ⟨RX11, "mixed", "(I)I"⟩
abbrev cX11_feed : ByteArray := prog_1_method_23_code
def yX11_feed : MethodName := ⟨RX11, "feed", "(III)I"⟩
abbrev cX11_trim : ByteArray := prog_1_method_24_code
def yX11_trim : MethodName := ⟨RX11, "trim", "(I)I"⟩
abbrev cX11_leave : ByteArray := prog_1_method_25_code
def yX11_leave : MethodName := ⟨RX11, "leave", "()I"⟩
abbrev cX11_withdraw : ByteArray := prog_1_method_26_code
def yX11_withdraw : MethodName := ⟨RX11, "withdraw", "(I)I"⟩
abbrev cX11_lets : ByteArray := prog_1_method_27_code
def yX11_lets : MethodName := ⟨RX11, "lets", "(III)I"⟩
abbrev cX11_days : ByteArray := prog_1_method_28_code
def yX11_days : MethodName := ⟨RX11, "days", "(I)I"⟩
abbrev cX11_sheet : ByteArray := prog_1_method_29_code
def yX11_sheet : MethodName := ⟨RX11, "sheet", "(II)I"⟩
abbrev cX11_mark : ByteArray := prog_1_method_30_code
def yX11_mark : MethodName := ⟨RX11, "mark", "(III)I"⟩
abbrev cX11_copy : ByteArray := prog_1_method_31_code
def yX11_copy : MethodName := ⟨RX11, "copy", "(IIIII)I"⟩
abbrev cX11_lose : ByteArray := prog_1_method_32_code
def yX11_lose : MethodName := ⟨RX11, "lose", "(I)I"⟩
abbrev cX11_many : ByteArray := prog_1_method_33_code
def yX11_many : MethodName := ⟨RX11, "many", "(I)I"⟩
abbrev cX11_within : ByteArray := prog_1_method_34_code
def yX11_within : MethodName := ⟨RX11, "within", "(III)Z"⟩
abbrev cX11_toInt : ByteArray := prog_1_method_35_code
def yX11_toInt : MethodName := ⟨RX11, "toInt", "(Z)I"⟩
abbrev cX11_isKind : ByteArray := prog_1_method_36_code
def yX11_isKind : MethodName := ⟨RX11, "isKind", "(I)Z"⟩
abbrev cX11_isWalker : ByteArray := prog_1_method_37_code
def yX11_isWalker : MethodName := ⟨RX11, "isWalker", "(I)Z"⟩
abbrev cX11_isPeriod : ByteArray := prog_1_method_38_code
def yX11_isPeriod : MethodName := ⟨RX11, "isPeriod", "(I)Z"⟩
abbrev cX11_isSheet : ByteArray := prog_1_method_39_code
def yX11_isSheet : MethodName := ⟨RX11, "isSheet", "(I)Z"⟩
abbrev cX11_sheetNumbered : ByteArray := prog_1_method_40_code
def yX11_sheetNumbered : MethodName := ⟨RX11, "sheetNumbered", "(I)LSherdField$Sheet;"⟩
abbrev cX11_tellerAt : ByteArray := prog_1_method_41_code
def yX11_tellerAt : MethodName := ⟨RX11, "tellerAt", "(I)I"⟩
abbrev cX11_countedOf : ByteArray := prog_1_method_42_code
def yX11_countedOf : MethodName := ⟨RX11, "countedOf", "(I)I"⟩
abbrev cX11_gaps : ByteArray := prog_1_method_43_code
def yX11_gaps : MethodName := ⟨RX11, "gaps", "()I"⟩
def RX12 : String := "SherdFieldModel"
def TX12 : u_T := fun k => match k with
  | 0 => ("SherdFieldModel", "wide", "I", false)
  | 1 => ("SherdFieldModel", "high", "I", false)
  | 2 => ("SherdFieldModel", "sorts", "[I", true)
  | 3 => ("SherdFieldModel", "today", "I", false)
  | 4 => ("SherdFieldModel", "walks", "I", false)
  | 5 => ("SherdFieldModel", "walker", "[I", true)
  | 6 => ("SherdFieldModel", "rowOf", "[I", true)
  | 7 => ("SherdFieldModel", "dayOf", "[I", true)
  | 8 => ("SherdFieldModel", "finds", "I", false)
  | 9 => ("SherdFieldModel", "fWalk", "[I", true)
  | 10 => ("SherdFieldModel", "fPace", "[I", true)
  | 11 => ("SherdFieldModel", "fKind", "[I", true)
  | 12 => ("SherdFieldModel", "fMany", "[I", true)
  | 13 => ("SherdFieldModel", "isEmpty", "[Z", true)
  | 14 => ("SherdFieldModel", "seed", "I", false)
  | 15 => ("SherdFieldModel", "spare", "I", false)
  | 16 => ("SherdFieldModel", "profile", "[I", true)
  | 17 => ("SherdFieldModel", "tape", "[I", true)
  | 18 => ("SherdFieldModel", "taped", "I", false)
  | 19 => ("SherdFieldModel", "leaves", "I", false)
  | 20 => ("SherdFieldModel", "lFrom", "[I", true)
  | 21 => ("SherdFieldModel", "lTo", "[I", true)
  | 22 => ("SherdFieldModel", "lFirst", "[I", true)
  | 23 => ("SherdFieldModel", "lLast", "[I", true)
  | 24 => ("SherdFieldModel", "lNot", "[I", true)
  | 25 => ("SherdFieldModel", "isBack", "[Z", true)
  | 26 => ("SherdFieldModel", "places", "[I", true)
  | 27 => ("SherdFieldModel", "numbers", "[I", true)
  | 28 => ("SherdFieldModel", "fines", "[I", true)
  | 29 => ("SherdFieldModel", "eyes", "[I", true)
  | 30 => ("SherdFieldModel", "chosen", "[I", true)
  | 31 => ("SherdFieldModel", "worths", "[I", true)
  | 32 => ("SherdFieldModel", "walked", "[I", true)
  | 33 => ("SherdFieldModel", "soil", "[I", true)
  | 34 => ("SherdFieldModel", "next", "[I", true)
  | 35 => ("SherdFieldModel", "counted", "[J", true)
  | 36 => ("SherdFieldModel", "read", "I", false)
  | 37 => ("SherdFieldModel", "from", "I", false)
  | 38 => ("SherdFieldModel", "long1", "I", false)
  | 39 => ("SherdFieldModel", "spanFrom", "I", false)
  | 40 => ("SherdFieldModel", "spanTo", "I", false)
  | 41 => ("SherdFieldModel", "aside", "[I", true)
  | _ => ("SherdFieldModel", "carried", "[I", true)
def tyX12 : Nat → FieldType := fun k => match k with
  | 0 => .int
  | 1 => .int
  | 2 => .array .int
  | 3 => .int
  | 4 => .int
  | 5 => .array .int
  | 6 => .array .int
  | 7 => .array .int
  | 8 => .int
  | 9 => .array .int
  | 10 => .array .int
  | 11 => .array .int
  | 12 => .array .int
  | 13 => .array .boolean
  | 14 => .int
  | 15 => .int
  | 16 => .array .int
  | 17 => .array .int
  | 18 => .int
  | 19 => .int
  | 20 => .array .int
  | 21 => .array .int
  | 22 => .array .int
  | 23 => .array .int
  | 24 => .array .int
  | 25 => .array .boolean
  | 26 => .array .int
  | 27 => .array .int
  | 28 => .array .int
  | 29 => .array .int
  | 30 => .array .int
  | 31 => .array .int
  | 32 => .array .int
  | 33 => .array .int
  | 34 => .array .int
  | 35 => .array .long
  | 36 => .int
  | 37 => .int
  | 38 => .int
  | 39 => .int
  | 40 => .int
  | 41 => .array .int
  | _ => .array .int
theorem nmX12 : ∀ a, a < 43 → ∀ b, b < 43 → a ≠ b → (TX12 a).2.1 ≠ (TX12 b).2.1 := by decide +kernel
theorem tyX12_ok : ∀ k, k < 43 → parseFieldDescriptor (TX12 k).2.2.1 = some (tyX12 k) := by decide +kernel
abbrev cX12_init : ByteArray := prog_14_method_1_code
def yX12_init : MethodName := ⟨RX12, "<init>", "()V"⟩
abbrev cX12_isIn : ByteArray := prog_14_method_2_code
def yX12_isIn : MethodName := ⟨RX12, "isIn", "(III)Z"⟩
abbrev cX12_paces : ByteArray := prog_14_method_3_code
def yX12_paces : MethodName := ⟨RX12, "paces", "()I"⟩
abbrev cX12_isPace : ByteArray := prog_14_method_4_code
def yX12_isPace : MethodName := ⟨RX12, "isPace", "(I)Z"⟩
abbrev cX12_isRow : ByteArray := prog_14_method_5_code
def yX12_isRow : MethodName := ⟨RX12, "isRow", "(I)Z"⟩
abbrev cX12_isKind : ByteArray := prog_14_method_6_code
def yX12_isKind : MethodName := ⟨RX12, "isKind", "(I)Z"⟩
abbrev cX12_isWalker : ByteArray := prog_14_method_7_code
def yX12_isWalker : MethodName := ⟨RX12, "isWalker", "(I)Z"⟩
abbrev cX12_isWalk : ByteArray := prog_14_method_8_code
def yX12_isWalk : MethodName := ⟨RX12, "isWalk", "(I)Z"⟩
abbrev cX12_field : ByteArray := prog_14_method_9_code
def yX12_field : MethodName := ⟨RX12, "field", "(II)I"⟩
abbrev cX12_sort : ByteArray := prog_14_method_10_code
def yX12_sort : MethodName := ⟨RX12, "sort", "(II)I"⟩
abbrev cX12_isOf : ByteArray := prog_14_method_11_code
def yX12_isOf : MethodName := ⟨RX12, "isOf", "(II)I"⟩
abbrev cX12_isLet : ByteArray := prog_14_method_12_code
def yX12_isLet : MethodName := ⟨RX12, "isLet", "(IIII)Z"⟩
abbrev cX12_letBy : ByteArray := prog_14_method_13_code
def yX12_letBy : MethodName := ⟨RX12, "letBy", "(III)I"⟩
abbrev cX12_walk : ByteArray := prog_14_method_14_code
def yX12_walk : MethodName := ⟨RX12, "walk", "(II)I"⟩
abbrev cX12_find : ByteArray := prog_14_method_15_code
def yX12_find : MethodName := ⟨RX12, "find", "(IIII)I"⟩
abbrev cX12_found : ByteArray := prog_14_method_16_code
def yX12_found : MethodName := ⟨RX12, "found", "(IZ)I"⟩
abbrev cX12_walkOf : ByteArray := prog_14_method_17_code
def yX12_walkOf : MethodName := ⟨RX12, "walkOf", "(I)I"⟩
abbrev cX12_told : ByteArray := prog_14_method_18_code
def yX12_told : MethodName := ⟨RX12, "told", "(II)I"⟩
abbrev cX12_of : ByteArray := prog_14_method_19_code
def yX12_of : MethodName := ⟨RX12, "of", "(II)I"⟩
abbrev cX12_at : ByteArray := prog_14_method_20_code
def yX12_at : MethodName := ⟨RX12, "at", "(III)I"⟩
abbrev cX12_count : ByteArray := prog_14_method_21_code
def yX12_count : MethodName := ⟨RX12, "count", "(II)I"⟩
abbrev cX12_gap : ByteArray := prog_14_method_22_code
def yX12_gap : MethodName := ⟨RX12, "gap", "()I"⟩
abbrev cX12_led : ByteArray := prog_14_method_23_code
def yX12_led : MethodName := ⟨RX12, "led", "(II)I"⟩
abbrev cX12_pair : ByteArray := prog_14_method_24_code
def yX12_pair : MethodName := ⟨RX12, "pair", "(III)I"⟩
abbrev cX12_eyeOf : ByteArray := prog_14_method_25_code
def yX12_eyeOf : MethodName := ⟨RX12, "eyeOf", "(I)I"⟩
abbrev cX12_eye : ByteArray := prog_14_method_26_code
def yX12_eye : MethodName := ⟨RX12, "eye", "(I)I"⟩
abbrev cX12_look : ByteArray := prog_14_method_27_code
def yX12_look : MethodName := ⟨RX12, "look", "()V"⟩
abbrev cX12_correctedAt : ByteArray := prog_14_method_28_code
def yX12_correctedAt : MethodName := ⟨RX12, "correctedAt", "(II)I"⟩
abbrev cX12_corrected : ByteArray := prog_14_method_29_code
def yX12_corrected : MethodName := ⟨RX12, "corrected", "(II)I"⟩
abbrev cX12_weigh : ByteArray := prog_14_method_30_code
def yX12_weigh : MethodName := ⟨RX12, "weigh", "()V"⟩
abbrev cX12_ring : ByteArray := prog_14_method_31_code
def yX12_ring : MethodName := ⟨RX12, "ring", "(I)I"⟩
abbrev cX12_worth : ByteArray := prog_14_method_32_code
def yX12_worth : MethodName := ⟨RX12, "worth", "(II)I"⟩
abbrev cX12_best : ByteArray := prog_14_method_33_code
def yX12_best : MethodName := ⟨RX12, "best", "()I"⟩
abbrev cX12_greatest : ByteArray := prog_14_method_34_code
def yX12_greatest : MethodName := ⟨RX12, "greatest", "()I"⟩
abbrev cX12_heap : ByteArray := prog_14_method_35_code
def yX12_heap : MethodName := ⟨RX12, "heap", "(II)I"⟩
abbrev cX12_spade : ByteArray := prog_14_method_36_code
def yX12_spade : MethodName := ⟨RX12, "spade", "(II)I"⟩
abbrev cX12_rule : ByteArray := prog_14_method_37_code
def yX12_rule : MethodName := ⟨RX12, "rule", "(II)I"⟩
abbrev cX12_besideMany : ByteArray := prog_14_method_38_code
def yX12_besideMany : MethodName := ⟨RX12, "besideMany", "(I)I"⟩
abbrev cX12_ploughOnce : ByteArray := prog_14_method_39_code
def yX12_ploughOnce : MethodName := ⟨RX12, "ploughOnce", "()V"⟩
abbrev cX12_plough : ByteArray := prog_14_method_40_code
def yX12_plough : MethodName := ⟨RX12, "plough", "(II)I"⟩
abbrev cX12_profile : ByteArray := prog_14_method_41_code
def yX12_profile : MethodName := ⟨RX12, "profile", "(III)I"⟩
abbrev cX12_far : ByteArray := prog_14_method_42_code
def yX12_far : MethodName := ⟨RX12, "far", "(III)J"⟩
abbrev cX12_mixed : ByteArray := prog_14_method_43_code
def yX12_mixed : MethodName := ⟨RX12, "mixed", "(I)I"⟩
abbrev cX12_four : ByteArray := prog_14_method_44_code
def yX12_four : MethodName := ⟨RX12, "four", "(I)V"⟩
abbrev cX12_feed : ByteArray := prog_14_method_45_code
def yX12_feed : MethodName := ⟨RX12, "feed", "(III)I"⟩
abbrev cX12_trim : ByteArray := prog_14_method_46_code
def yX12_trim : MethodName := ⟨RX12, "trim", "(I)I"⟩
abbrev cX12_next : ByteArray := prog_14_method_47_code
def yX12_next : MethodName := ⟨RX12, "next", "()V"⟩
abbrev cX12_here : ByteArray := prog_14_method_48_code
def yX12_here : MethodName := ⟨RX12, "here", "()I"⟩
abbrev cX12_isWord : ByteArray := prog_14_method_49_code
def yX12_isWord : MethodName := ⟨RX12, "isWord", "(IIII)Z"⟩
abbrev cX12_number : ByteArray := prog_14_method_50_code
def yX12_number : MethodName := ⟨RX12, "number", "()I"⟩
abbrev cX12_isSpan : ByteArray := prog_14_method_51_code
def yX12_isSpan : MethodName := ⟨RX12, "isSpan", "(I)Z"⟩
abbrev cX12_readLeave : ByteArray := prog_14_method_52_code
def yX12_readLeave : MethodName := ⟨RX12, "readLeave", "(I)I"⟩
abbrev cX12_put : ByteArray := prog_14_method_53_code
def yX12_put : MethodName := ⟨RX12, "put", "(I)V"⟩
abbrev cX12_leave : ByteArray := prog_14_method_54_code
def yX12_leave : MethodName := ⟨RX12, "leave", "()I"⟩
abbrev cX12_withdraw : ByteArray := prog_14_method_55_code
def yX12_withdraw : MethodName := ⟨RX12, "withdraw", "(I)I"⟩
abbrev cX12_lets : ByteArray := prog_14_method_56_code
def yX12_lets : MethodName := ⟨RX12, "lets", "(III)I"⟩
abbrev cX12_days : ByteArray := prog_14_method_57_code
def yX12_days : MethodName := ⟨RX12, "days", "(I)I"⟩
abbrev cX12_isSheet : ByteArray := prog_14_method_58_code
def yX12_isSheet : MethodName := ⟨RX12, "isSheet", "(I)Z"⟩
abbrev cX12_sheet : ByteArray := prog_14_method_59_code
def yX12_sheet : MethodName := ⟨RX12, "sheet", "(II)I"⟩
abbrev cX12_mark : ByteArray := prog_14_method_60_code
def yX12_mark : MethodName := ⟨RX12, "mark", "(III)I"⟩
abbrev cX12_copy : ByteArray := prog_14_method_61_code
def yX12_copy : MethodName := ⟨RX12, "copy", "(IIIII)I"⟩
abbrev cX12_lose : ByteArray := prog_14_method_62_code
def yX12_lose : MethodName := ⟨RX12, "lose", "(I)I"⟩
abbrev cX12_many : ByteArray := prog_14_method_63_code
def yX12_many : MethodName := ⟨RX12, "many", "(I)I"⟩
def RJ13 : String := "java/lang/Long"
abbrev cJ13_bitCount_95d88 : ByteArray := prog_15_method_50_code
def yJ13_bitCount_95d88 : MethodName := ⟨RJ13, "bitCount", "(J)I"⟩
def RJ9 : String := "java/lang/Math"
abbrev cJ9_max_7cf53 : ByteArray := prog_16_method_65_code
def yJ9_max_7cf53 : MethodName := ⟨RJ9, "max", "(II)I"⟩
abbrev cJ9_min_7cf53 : ByteArray := prog_16_method_69_code
def yJ9_min_7cf53 : MethodName := ⟨RJ9, "min", "(II)I"⟩
def RJ0 : String := "java/lang/String"
abbrev cJ0_length_8abf5 : ByteArray := prog_17_method_54_code
def yJ0_length_8abf5 : MethodName := ⟨RJ0, "length", "()I"⟩
abbrev cJ0_charAt_5068e : ByteArray := prog_17_method_56_code
def yJ0_charAt_5068e : MethodName := ⟨RJ0, "charAt", "(I)C"⟩
abbrev cJ0_coder_7d493 : ByteArray := prog_17_method_152_code
def yJ0_coder_7d493 : MethodName := ⟨RJ0, "coder", "()B"⟩
abbrev cJ0_isLatin1_aae02 : ByteArray := prog_17_method_154_code
def yJ0_isLatin1_aae02 : MethodName := ⟨RJ0, "isLatin1", "()Z"⟩
abbrev cJ0_checkIndex_df160 : ByteArray := prog_17_method_155_code
def yJ0_checkIndex_df160 : MethodName := ⟨RJ0, "checkIndex", "(II)V"⟩
def RJ1 : String := "java/lang/StringLatin1"
abbrev cJ1_charAt_3b067 : ByteArray := prog_18_method_2_code
def yJ1_charAt_3b067 : MethodName := ⟨RJ1, "charAt", "([BI)C"⟩
def RJ2 : String := "java/lang/StringUTF16"
abbrev cJ2_getChar_3b067 : ByteArray := prog_19_method_5_code
def yJ2_getChar_3b067 : MethodName := ⟨RJ2, "getChar", "([BI)C"⟩
abbrev cJ2_length_9d52b : ByteArray := prog_19_method_6_code
def yJ2_length_9d52b : MethodName := ⟨RJ2, "length", "([B)I"⟩
abbrev cJ2_charAt_3b067 : ByteArray := prog_19_method_83_code
def yJ2_charAt_3b067 : MethodName := ⟨RJ2, "charAt", "([BI)C"⟩
abbrev cJ2_checkIndex_2214a : ByteArray := prog_19_method_91_code
def yJ2_checkIndex_2214a : MethodName := ⟨RJ2, "checkIndex", "(I[B)V"⟩
def RJ10 : String := "java/lang/System"
def RJ7 : String := "java/util/Arrays"
abbrev cJ7_fill_53178 : ByteArray := prog_21_method_103_code
def yJ7_fill_53178 : MethodName := ⟨RJ7, "fill", "([II)V"⟩
abbrev cJ7_fill_fb410 : ByteArray := prog_21_method_105_code
def yJ7_fill_fb410 : MethodName := ⟨RJ7, "fill", "([SS)V"⟩
def RJ3 : String := "jdk/internal/util/Preconditions"
abbrev cJ3_checkIndex_8e157 : ByteArray := prog_22_method_11_code
def yJ3_checkIndex_8e157 : MethodName := ⟨RJ3, "checkIndex", "(IILjava/util/function/BiFunction;)I"⟩
def RL : String := "SherdFieldLaw"
abbrev cL_law : ByteArray := code
def yL_law : MethodName := ⟨RL, "law", "([I)Z"⟩

abbrev vwCl : List vw_C := [(RX0, TX0, 2), (RX1, TX1, 5), (RX2, TX2, 5), (RX3, TX3, 6), (RX4, TX4, 9), (RX5, TX5, 7), (RX6, TX6, 3), (RX7, TX7, 2), (RX8, TX8, 1), (RX9, TX9, 2), (RX10, TX10, 6), (RX11, TX11, 15), (RX12, TX12, 43)]
end
section
/-- the words that a method may lean on: the tables' good words -/
def gtb : List Cond := lw_tbl.filter goodWord
theorem gtb_in {w : Cond} (h : w ∈ lw_tbl) (g : goodWord w = true) : w ∈ gtb := List.mem_filter.mpr ⟨h, g⟩
theorem gtb_t {w : Cond} (i : Nat) (h : tables_1[i]? = some w) (g : goodWord w = true) : w ∈ gtb := gtb_in (List.mem_append_right _ (List.mem_of_getElem? h)) g
theorem gtb_s {w : Cond} (i : Nat) (h : (k2_sels lw_privs)[i]? = some w) (g : goodWord w = true) : w ∈ gtb := gtb_in (List.mem_append_left _ (List.mem_of_getElem? h)) g
theorem gtb_good {big : List Cond} {w0 : Cond} (h : ∀ w ∈ gtb, w ∈ big) (h0 : w0 ∈ gtb) : GoodIn big (w0 :: gtb) := by
  have key : ∀ w ∈ gtb, w ∈ big ∧ ((w.onTables && w.keeps) = true ∨ ∃ ty, w = .arrayClass ty) := fun w hw => ⟨h w hw, good_of_word (List.mem_filter.mp hw).2⟩
  intro w hw
  rcases List.mem_cons.mp hw with e1 | h1
  · rw [e1]; exact key _ h0
  · exact key w h1
abbrev Ev : Type := (Nat → ClassId) × (Nat → Nat → Nat) × (Nat → ClassId) × (Nat → Nat)
abbrev dG (E : Ev) : va_G := (E.1, E.2.1)
/-- the links to nest mates -/
def nst : List (String × Nat × MethodName × String) := [("SherdField", 9, ⟨"SherdField$Ground", "<init>", "()V"⟩, "SherdField"), ("SherdField", 18, ⟨"SherdField$Sorts", "<init>", "()V"⟩, "SherdField"), ("SherdField", 25, ⟨"SherdField$Walks", "<init>", "()V"⟩, "SherdField"), ("SherdField", 32, ⟨"SherdField$Finds", "<init>", "()V"⟩, "SherdField"), ("SherdField", 39, ⟨"SherdField$Periods", "<init>", "()V"⟩, "SherdField"), ("SherdField", 46, ⟨"SherdField$Tape", "<init>", "()V"⟩, "SherdField"), ("SherdField", 53, ⟨"SherdField$Leaves", "<init>", "()V"⟩, "SherdField"), ("SherdField", 60, ⟨"SherdField$Sheet", "<init>", "()V"⟩, "SherdField"), ("SherdField$Sorts", 13, ⟨"SherdField", "within", "(III)Z"⟩, "SherdField"), ("SherdField$Leaves", 60, ⟨"SherdField", "within", "(III)Z"⟩, "SherdField"), ("SherdField$Ground", 70, ⟨"SherdField", "within", "(III)Z"⟩, "SherdField"), ("SherdField$Ground", 87, ⟨"SherdField", "toInt", "(Z)I"⟩, "SherdField"), ("SherdField$Leaves", 52, ⟨"SherdField", "toInt", "(Z)I"⟩, "SherdField")]
theorem tn_32 : (("SherdField", 9, ⟨"SherdField$Ground", "<init>", "()V"⟩, "SherdField") : String × Nat × MethodName × String) ∈ nst := List.mem_of_getElem? (i := 0) rfl
theorem tn_55 : (("SherdField", 18, ⟨"SherdField$Sorts", "<init>", "()V"⟩, "SherdField") : String × Nat × MethodName × String) ∈ nst := List.mem_of_getElem? (i := 1) rfl
theorem tn_65 : (("SherdField", 25, ⟨"SherdField$Walks", "<init>", "()V"⟩, "SherdField") : String × Nat × MethodName × String) ∈ nst := List.mem_of_getElem? (i := 2) rfl
theorem tn_90 : (("SherdField", 32, ⟨"SherdField$Finds", "<init>", "()V"⟩, "SherdField") : String × Nat × MethodName × String) ∈ nst := List.mem_of_getElem? (i := 3) rfl
theorem tn_112 : (("SherdField", 39, ⟨"SherdField$Periods", "<init>", "()V"⟩, "SherdField") : String × Nat × MethodName × String) ∈ nst := List.mem_of_getElem? (i := 4) rfl
theorem tn_128 : (("SherdField", 46, ⟨"SherdField$Tape", "<init>", "()V"⟩, "SherdField") : String × Nat × MethodName × String) ∈ nst := List.mem_of_getElem? (i := 5) rfl
theorem tn_142 : (("SherdField", 53, ⟨"SherdField$Leaves", "<init>", "()V"⟩, "SherdField") : String × Nat × MethodName × String) ∈ nst := List.mem_of_getElem? (i := 6) rfl
theorem tn_171 : (("SherdField", 60, ⟨"SherdField$Sheet", "<init>", "()V"⟩, "SherdField") : String × Nat × MethodName × String) ∈ nst := List.mem_of_getElem? (i := 7) rfl
theorem tn_338 : (("SherdField$Sorts", 13, ⟨"SherdField", "within", "(III)Z"⟩, "SherdField") : String × Nat × MethodName × String) ∈ nst := List.mem_of_getElem? (i := 8) rfl
theorem tn_377 : (("SherdField$Leaves", 60, ⟨"SherdField", "within", "(III)Z"⟩, "SherdField") : String × Nat × MethodName × String) ∈ nst := List.mem_of_getElem? (i := 9) rfl
theorem tn_682 : (("SherdField$Ground", 70, ⟨"SherdField", "within", "(III)Z"⟩, "SherdField") : String × Nat × MethodName × String) ∈ nst := List.mem_of_getElem? (i := 10) rfl
theorem tn_692 : (("SherdField$Ground", 87, ⟨"SherdField", "toInt", "(Z)I"⟩, "SherdField") : String × Nat × MethodName × String) ∈ nst := List.mem_of_getElem? (i := 11) rfl
theorem tn_984 : (("SherdField$Leaves", 52, ⟨"SherdField", "toInt", "(Z)I"⟩, "SherdField") : String × Nat × MethodName × String) ∈ nst := List.mem_of_getElem? (i := 12) rfl
def strL : List (Nat × String) := [(61, "rows"), (71, "to"), (77, "days"), (83, "but"), (85, "who"), (87, "or")]
def lenS : List Nat := [4, 2, 4, 3, 3, 2]
def bytS : List (List Int32) := [[114, 111, 119, 115], [116, 111], [100, 97, 121, 115], [98, 117, 116], [119, 104, 111], [111, 114]]
/-- what the machine's tables and its old cells say, from the start on: links to nest mates, the String constants, one static -/
def Ez (E : Ev) (A : Nat → Prop) (U : State) : Prop := (∀ q ∈ nst, va_Nw (.methodLinkNest q.1 q.2.1 q.2.2.1 q.2.2.2) U) ∧ vk_S 6 lenS bytS E.2.2.2 (fun i => E.2.2.2 (6 + i)) A U U.heap ∧ (∀ (i : Nat) (q : Nat × String), strL[i]? = some q → vk_R "SherdField$LeaveReader" q.1 q.2 (E.2.2.2 i) U) ∧ va_Z "java/lang/String" "COMPACT_STRINGS" "Z" (.int 1) A U U.heap
theorem Ez.at {E : Ev} {A : Nat → Prop} {s U : State} {H : Heap} {locs : List Loc} (h : Ez E A s) (hS : va_S A s.heap H locs) (hU : U.heap = H) (hW : s.WarmedH U.vm) : Ez E A U := ⟨fun q hq => (h.1 q hq).warmM hW, by rw [hU]; exact (h.2.1.kept hS.2.1).moved hW.alike, fun i q hq => (h.2.2.1 i q hq).warm hW, by rw [hU]; exact (h.2.2.2.kept hS.2.1).moved hW.alike⟩
theorem Ez.blind {E : Ev} {A : Nat → Prop} {U : State} {g : JFrame} {mk : MethodId} {a : Array Value} (h : Ez E A U) : Ez E A (U.calling g mk a) := ⟨fun q hq => (h.1 q hq).same rfl rfl, h.2.1.moved (Vm.Alike.refl U.vm), fun i q hq => (h.2.2.1 i q hq).same rfl, h.2.2.2.moved (Vm.Alike.refl U.vm)⟩
def tyl (cy : Nat → ClassId) : List (ClassId × FieldType) := [(cy 0, .byte), (cy 1, .int), (cy 2, .long), (cy 3, .short), (cy 4, .boolean)]
/-- what stays fixed over a walk -/
def Cx (p : Program) (s : State) (m : MethodId) (args : Array Value) (meth : Method) (c : Code) (E : Ev) (A : Nat → Prop) (own : String) (cc : ByteArray) (nL : Nat) (ret : Option FieldType) : Prop := CallFix p m c cc nL s args gtb own ∧ va_K (dG E) vwCl (tyl E.2.2.1) s ∧ meth.sig.returnType = ret ∧ meth.locks = false ∧ Ez E A s
/-- the machine at pc with the locals lv, the stack st, the world ws, comes to Q -/
def G (p : Program) (l : Launch) (e : Env) (R : Room) (s : State) (m : MethodId) (args : Array Value) (below : List Frame) (meth : Method) (c : Code) (cells slots : Nat) (Q : State → Prop) (E : Ev) (A : Nat → Prop) (nL : Nat) (ws : va_W) (pc : Nat) (lv : List (Nat × Value)) (st : List Value) : Prop := ∀ (H : Heap) (locs : List Loc) (ls : Array Slot), va_P (dG E) vwCl ws H → va_S A s.heap H locs → lv_has ls nL lv → W p l e R s m args below meth c H locs cells slots Q (F0 m pc ls st)
/-- a method's end: the answer, the world -/
def Qz (E : Ev) (A : Nat → Prop) (v : Option Value) (ws' : va_W) : Array Value → State → Outcome → State → Prop := fun _ st oc t => oc = .returned v ∧ va_P (dG E) vwCl ws' t.heap ∧ va_F A st t
def Pz (E : Ev) (A : Nat → Prop) (av : List Value) (ws : va_W) : Array Value → State → Prop := va_Pc av (fun U => va_P (dG E) vwCl ws U.heap ∧ va_K (dG E) vwCl (tyl E.2.2.1) U ∧ Ez E A U)
/-- a contract: from the world ws with the arguments av the method answers v and leaves the world ws' -/
def Ct (l : Launch) (E : Ev) (y : MethodName) (cd : Cond) (rm : Room) (A : Nat → Prop) (ws : va_W) (av : List Value) (v : Option Value) (ws' : va_W) : Prop := Met l y (cd :: gtb) rm (Pz E A av ws) (Qz E A v ws') 0 0 A
/-- storing into a local -/
def lvput (lv : List (Nat × Value)) (i : Nat) (v : Value) : List (Nat × Value) := match lv with
  | [] => [(i, v)]
  | q :: r => if q.1 == i then (i, v) :: r.filter (fun q => !(q.1 == i) && !(q.1 + 1 == i && q.2.category == 2)) else if q.1 + 1 == i && q.2.category == 2 then lvput r i v else q :: lvput r i v
theorem lvput_mem : ∀ (lv : List (Nat × Value)) (i : Nat) (v : Value) (q : Nat × Value), q ∈ lvput lv i v → q ∈ (i, v) :: lv.filter (fun q => !(q.1 == i) && !(q.1 + 1 == i && q.2.category == 2))
  | [], i, v, q, h => by simpa [lvput] using h
  | a :: r, i, v, q, h => by
    unfold lvput at h
    split at h
    · rename_i h1
      rcases List.mem_cons.mp h with h | h
      · rw [h]; exact List.mem_cons_self
      · refine List.mem_cons_of_mem _ ?_
        rw [List.filter_cons, if_neg (by simp [h1])]
        exact h
    · rename_i h1
      split at h
      · rename_i h2
        have ih := lvput_mem r i v q h
        rcases List.mem_cons.mp ih with h | h
        · rw [h]; exact List.mem_cons_self
        · refine List.mem_cons_of_mem _ ?_
          rw [List.filter_cons, if_neg (by simp [h2])]
          exact h
      · rename_i h2
        rcases List.mem_cons.mp h with h | h
        · refine List.mem_cons_of_mem _ ?_
          rw [h, List.filter_cons, if_pos (by simp only [Bool.and_eq_true, Bool.not_eq_true']; exact ⟨by simpa using h1, by simpa using h2⟩)]
          exact List.mem_cons_self
        · have ih := lvput_mem r i v q h
          rcases List.mem_cons.mp ih with h | h
          · rw [h]; exact List.mem_cons_self
          · refine List.mem_cons_of_mem _ ?_
            rw [List.filter_cons]
            split
            · exact List.mem_cons_of_mem _ h
            · exact h
theorem lv_has_mem {ls : Array Slot} {nL : Nat} {l l' : List (Nat × Value)} (h : lv_has ls nL l) (hm : ∀ q ∈ l', q ∈ l) : lv_has ls nL l' := ⟨h.1, h.2.1, fun q hq => h.2.2 q (hm q hq)⟩
def lvput2 (lv : List (Nat × Value)) (i : Nat) (v : Value) : List (Nat × Value) := lv.filter (fun q => !(q.1 == i) && (!(q.1 == i + 1) && !(q.1 + 1 == i && q.2.category == 2))) ++ [(i, v)]
theorem lvput2_mem (lv : List (Nat × Value)) (i : Nat) (v : Value) (q : Nat × Value) (h : q ∈ lvput2 lv i v) : q ∈ (i, v) :: lv.filter (fun q => !(q.1 == i) && (!(q.1 == i + 1) && !(q.1 + 1 == i && q.2.category == 2))) := by
  rcases List.mem_append.mp h with h | h
  · exact List.mem_cons_of_mem _ h
  · rw [List.mem_singleton.mp h]; exact List.mem_cons_self
section GR
variable {p : Program} {l : Launch} {e : Env} {R : Room} {s : State} {m : MethodId} {args : Array Value} {below : List Frame} {meth : Method} {c : Code} {cells slots : Nat} {Q : State → Prop}
variable {E : Ev} {A : Nat → Prop} {nL : Nat} {ws ws' : va_W} {pc : Nat} {lv lv' : List (Nat × Value)} {st : List Value} {own : String} {cc : ByteArray} {ret : Option FieldType}
theorem g_iconst (hc : Cx p s m args meth c E A own cc nL ret) {n : Int} {v : Int32} (hd : decode cc pc = .ok (.iconst n, 1)) (hv : Int32.ofInt n = v) (k : G p l e R s m args below meth c cells slots Q E A nL ws (pc + 1) lv (.int v :: st)) : G p l e R s m args below meth c cells slots Q E A nL ws (pc) lv (st) := fun H locs ls h1 h2 h3 => lv_iconst hc.1.1 hc.1.2.1 hd hv (k H locs ls h1 h2 h3)
theorem g_bipush (hc : Cx p s m args meth c E A own cc nL ret) {n : Int} {v : Int32} (hd : decode cc pc = .ok (.bipush n, 2)) (hv : (Int8.ofInt n).toInt32 = v) (k : G p l e R s m args below meth c cells slots Q E A nL ws (pc + 2) lv (.int v :: st)) : G p l e R s m args below meth c cells slots Q E A nL ws (pc) lv (st) := fun H locs ls h1 h2 h3 => lv_bipush hc.1.1 hc.1.2.1 hd hv (k H locs ls h1 h2 h3)
theorem g_sipush (hc : Cx p s m args meth c E A own cc nL ret) {n : Int} {v : Int32} (hd : decode cc pc = .ok (.sipush n, 3)) (hv : (Int16.ofInt n).toInt32 = v) (k : G p l e R s m args below meth c cells slots Q E A nL ws (pc + 3) lv (.int v :: st)) : G p l e R s m args below meth c cells slots Q E A nL ws (pc) lv (st) := fun H locs ls h1 h2 h3 => lv_sipush hc.1.1 hc.1.2.1 hd hv (k H locs ls h1 h2 h3)
theorem g_lconst (hc : Cx p s m args meth c E A own cc nL ret) {n : Fin 2} {v : Int64} (hd : decode cc pc = .ok (.lconst n, 1)) (hv : Int64.ofNat (n : Nat) = v) (k : G p l e R s m args below meth c cells slots Q E A nL ws (pc + 1) lv (.long v :: st)) : G p l e R s m args below meth c cells slots Q E A nL ws (pc) lv (st) := fun H locs ls h1 h2 h3 => lv_lconst hc.1.1 hc.1.2.1 hd hv (k H locs ls h1 h2 h3)
theorem g_iload_n (hc : Cx p s m args meth c E A own cc nL ret) {f : Fin 4} {i : Nat} {x : Int32} (k0 : Nat) (hd : decode cc pc = .ok (.iload_n f, 1)) (hi : (f : Nat) = i) (hk : lv[k0]? = some (i, .int x)) (k : G p l e R s m args below meth c cells slots Q E A nL ws (pc + 1) lv (.int x :: st)) : G p l e R s m args below meth c cells slots Q E A nL ws (pc) lv (st) := fun H locs ls h1 h2 h3 => lv_iload_n hc.1.1 hc.1.2.1 hd hi (lv_at h3 k0 hk) (k H locs ls h1 h2 h3)
theorem g_iload (hc : Cx p s m args meth c E A own cc nL ret) {i : Nat} {x : Int32} (k0 : Nat) (hd : decode cc pc = .ok (.iload i, 2)) (hk : lv[k0]? = some (i, .int x)) (k : G p l e R s m args below meth c cells slots Q E A nL ws (pc + 2) lv (.int x :: st)) : G p l e R s m args below meth c cells slots Q E A nL ws (pc) lv (st) := fun H locs ls h1 h2 h3 => lv_iload hc.1.1 hc.1.2.1 hd (lv_at h3 k0 hk) (k H locs ls h1 h2 h3)
theorem g_istore_n (hc : Cx p s m args meth c E A own cc nL ret) {f : Fin 4} {i : Nat} {x : Int32} (hd : decode cc pc = .ok (.istore_n f, 1)) (hi : (f : Nat) = i) (hn : i < nL) (hl : lvput lv i (.int x) = lv') (k : G p l e R s m args below meth c cells slots Q E A nL ws (pc + 1) lv' (st)) : G p l e R s m args below meth c cells slots Q E A nL ws (pc) lv (.int x :: st) := fun H locs ls h1 h2 h3 => lv_istore_n hc.1.1 hc.1.2.1 hd hi h3 hn rfl (fun ls h4 => k H locs ls h1 h2 (lv_has_mem h4 (fun q hq => lvput_mem _ _ _ q (by rw [hl]; exact hq))))
theorem g_istore (hc : Cx p s m args meth c E A own cc nL ret) {i : Nat} {x : Int32} (hd : decode cc pc = .ok (.istore i, 2)) (hn : i < nL) (hl : lvput lv i (.int x) = lv') (k : G p l e R s m args below meth c cells slots Q E A nL ws (pc + 2) lv' (st)) : G p l e R s m args below meth c cells slots Q E A nL ws (pc) lv (.int x :: st) := fun H locs ls h1 h2 h3 => lv_istore hc.1.1 hc.1.2.1 hd h3 hn rfl (fun ls h4 => k H locs ls h1 h2 (lv_has_mem h4 (fun q hq => lvput_mem _ _ _ q (by rw [hl]; exact hq))))
theorem g_lload_n (hc : Cx p s m args meth c E A own cc nL ret) {f : Fin 4} {i : Nat} {x : Int64} (k0 : Nat) (hd : decode cc pc = .ok (.lload_n f, 1)) (hi : (f : Nat) = i) (hk : lv[k0]? = some (i, .long x)) (k : G p l e R s m args below meth c cells slots Q E A nL ws (pc + 1) lv (.long x :: st)) : G p l e R s m args below meth c cells slots Q E A nL ws (pc) lv (st) := fun H locs ls h1 h2 h3 => lv_lload_n hc.1.1 hc.1.2.1 hd hi (lv_at h3 k0 hk) (k H locs ls h1 h2 h3)
theorem g_lload (hc : Cx p s m args meth c E A own cc nL ret) {i : Nat} {x : Int64} (k0 : Nat) (hd : decode cc pc = .ok (.lload i, 2)) (hk : lv[k0]? = some (i, .long x)) (k : G p l e R s m args below meth c cells slots Q E A nL ws (pc + 2) lv (.long x :: st)) : G p l e R s m args below meth c cells slots Q E A nL ws (pc) lv (st) := fun H locs ls h1 h2 h3 => lv_lload hc.1.1 hc.1.2.1 hd (lv_at h3 k0 hk) (k H locs ls h1 h2 h3)
theorem g_lstore_n (hc : Cx p s m args meth c E A own cc nL ret) {f : Fin 4} {i : Nat} {x : Int64} (hd : decode cc pc = .ok (.lstore_n f, 1)) (hi : (f : Nat) = i) (hn : i + 1 < nL) (hl : lvput2 lv i (.long x) = lv') (k : G p l e R s m args below meth c cells slots Q E A nL ws (pc + 1) lv' (st)) : G p l e R s m args below meth c cells slots Q E A nL ws (pc) lv (.long x :: st) := fun H locs ls h1 h2 h3 => lv_lstore_n hc.1.1 hc.1.2.1 hd hi h3 hn rfl (fun ls h4 => k H locs ls h1 h2 (lv_has_mem h4 (fun q hq => lvput2_mem _ _ _ q (by rw [hl]; exact hq))))
theorem g_lstore (hc : Cx p s m args meth c E A own cc nL ret) {i : Nat} {x : Int64} (hd : decode cc pc = .ok (.lstore i, 2)) (hn : i + 1 < nL) (hl : lvput2 lv i (.long x) = lv') (k : G p l e R s m args below meth c cells slots Q E A nL ws (pc + 2) lv' (st)) : G p l e R s m args below meth c cells slots Q E A nL ws (pc) lv (.long x :: st) := fun H locs ls h1 h2 h3 => lv_lstore hc.1.1 hc.1.2.1 hd h3 hn rfl (fun ls h4 => k H locs ls h1 h2 (lv_has_mem h4 (fun q hq => lvput2_mem _ _ _ q (by rw [hl]; exact hq))))
theorem g_aload_n (hc : Cx p s m args meth c E A own cc nL ret) {f : Fin 4} {i : Nat} {x : Nat} (k0 : Nat) (hd : decode cc pc = .ok (.aload_n f, 1)) (hi : (f : Nat) = i) (hk : lv[k0]? = some (i, .ref x)) (k : G p l e R s m args below meth c cells slots Q E A nL ws (pc + 1) lv (.ref x :: st)) : G p l e R s m args below meth c cells slots Q E A nL ws (pc) lv (st) := fun H locs ls h1 h2 h3 => lv_aload_n hc.1.1 hc.1.2.1 hd hi (lv_at h3 k0 hk) (k H locs ls h1 h2 h3)
theorem g_aload (hc : Cx p s m args meth c E A own cc nL ret) {i : Nat} {x : Nat} (k0 : Nat) (hd : decode cc pc = .ok (.aload i, 2)) (hk : lv[k0]? = some (i, .ref x)) (k : G p l e R s m args below meth c cells slots Q E A nL ws (pc + 2) lv (.ref x :: st)) : G p l e R s m args below meth c cells slots Q E A nL ws (pc) lv (st) := fun H locs ls h1 h2 h3 => lv_aload hc.1.1 hc.1.2.1 hd (lv_at h3 k0 hk) (k H locs ls h1 h2 h3)
theorem g_astore_n (hc : Cx p s m args meth c E A own cc nL ret) {f : Fin 4} {i : Nat} {x : Nat} (hd : decode cc pc = .ok (.astore_n f, 1)) (hi : (f : Nat) = i) (hn : i < nL) (hl : lvput lv i (.ref x) = lv') (k : G p l e R s m args below meth c cells slots Q E A nL ws (pc + 1) lv' (st)) : G p l e R s m args below meth c cells slots Q E A nL ws (pc) lv (.ref x :: st) := fun H locs ls h1 h2 h3 => lv_astore_n hc.1.1 hc.1.2.1 hd hi h3 hn rfl (fun ls h4 => k H locs ls h1 h2 (lv_has_mem h4 (fun q hq => lvput_mem _ _ _ q (by rw [hl]; exact hq))))
theorem g_astore (hc : Cx p s m args meth c E A own cc nL ret) {i : Nat} {x : Nat} (hd : decode cc pc = .ok (.astore i, 2)) (hn : i < nL) (hl : lvput lv i (.ref x) = lv') (k : G p l e R s m args below meth c cells slots Q E A nL ws (pc + 2) lv' (st)) : G p l e R s m args below meth c cells slots Q E A nL ws (pc) lv (.ref x :: st) := fun H locs ls h1 h2 h3 => lv_astore hc.1.1 hc.1.2.1 hd h3 hn rfl (fun ls h4 => k H locs ls h1 h2 (lv_has_mem h4 (fun q hq => lvput_mem _ _ _ q (by rw [hl]; exact hq))))
theorem g_iinc (hc : Cx p s m args meth c E A own cc nL ret) {i : Nat} {n : Int} {x v : Int32} (k0 : Nat) (hd : decode cc pc = .ok (.iinc i n, 3)) (hk : lv[k0]? = some (i, .int x)) (hv : x + Int32.ofInt n = v) (hn : i < nL) (hl : lvput lv i (.int v) = lv') (k : G p l e R s m args below meth c cells slots Q E A nL ws (pc + 3) lv' (st)) : G p l e R s m args below meth c cells slots Q E A nL ws (pc) lv (st) := fun H locs ls h1 h2 h3 => lv_iinc hc.1.1 hc.1.2.1 hd h3 hk hv hn rfl (fun ls h4 => k H locs ls h1 h2 (lv_has_mem h4 (fun q hq => lvput_mem _ _ _ q (by rw [hl]; exact hq))))
theorem g_iadd (hc : Cx p s m args meth c E A own cc nL ret) {x y : Int32} (hd : decode cc pc = .ok (.iadd, 1))  (k : G p l e R s m args below meth c cells slots Q E A nL ws (pc + 1) lv (.int (x + y) :: st)) : G p l e R s m args below meth c cells slots Q E A nL ws (pc) lv (.int y :: .int x :: st) := fun H locs ls h1 h2 h3 => lv_iadd hc.1.1 hc.1.2.1 hd  (k H locs ls h1 h2 h3)
theorem g_isub (hc : Cx p s m args meth c E A own cc nL ret) {x y : Int32} (hd : decode cc pc = .ok (.isub, 1))  (k : G p l e R s m args below meth c cells slots Q E A nL ws (pc + 1) lv (.int (x - y) :: st)) : G p l e R s m args below meth c cells slots Q E A nL ws (pc) lv (.int y :: .int x :: st) := fun H locs ls h1 h2 h3 => lv_isub hc.1.1 hc.1.2.1 hd  (k H locs ls h1 h2 h3)
theorem g_imul (hc : Cx p s m args meth c E A own cc nL ret) {x y : Int32} (hd : decode cc pc = .ok (.imul, 1))  (k : G p l e R s m args below meth c cells slots Q E A nL ws (pc + 1) lv (.int (x * y) :: st)) : G p l e R s m args below meth c cells slots Q E A nL ws (pc) lv (.int y :: .int x :: st) := fun H locs ls h1 h2 h3 => lv_imul hc.1.1 hc.1.2.1 hd  (k H locs ls h1 h2 h3)
theorem g_iand (hc : Cx p s m args meth c E A own cc nL ret) {x y : Int32} (hd : decode cc pc = .ok (.iand, 1))  (k : G p l e R s m args below meth c cells slots Q E A nL ws (pc + 1) lv (.int (x &&& y) :: st)) : G p l e R s m args below meth c cells slots Q E A nL ws (pc) lv (.int y :: .int x :: st) := fun H locs ls h1 h2 h3 => lv_iand hc.1.1 hc.1.2.1 hd  (k H locs ls h1 h2 h3)
theorem g_ior (hc : Cx p s m args meth c E A own cc nL ret) {x y : Int32} (hd : decode cc pc = .ok (.ior, 1))  (k : G p l e R s m args below meth c cells slots Q E A nL ws (pc + 1) lv (.int (x ||| y) :: st)) : G p l e R s m args below meth c cells slots Q E A nL ws (pc) lv (.int y :: .int x :: st) := fun H locs ls h1 h2 h3 => lv_ior hc.1.1 hc.1.2.1 hd  (k H locs ls h1 h2 h3)
theorem g_ishl (hc : Cx p s m args meth c E A own cc nL ret) {x y : Int32} (hd : decode cc pc = .ok (.ishl, 1))  (k : G p l e R s m args below meth c cells slots Q E A nL ws (pc + 1) lv (.int (x <<< (y &&& 31)) :: st)) : G p l e R s m args below meth c cells slots Q E A nL ws (pc) lv (.int y :: .int x :: st) := fun H locs ls h1 h2 h3 => lv_ishl hc.1.1 hc.1.2.1 hd  (k H locs ls h1 h2 h3)
theorem g_ishr (hc : Cx p s m args meth c E A own cc nL ret) {x y : Int32} (hd : decode cc pc = .ok (.ishr, 1))  (k : G p l e R s m args below meth c cells slots Q E A nL ws (pc + 1) lv (.int (x >>> (y &&& 31)) :: st)) : G p l e R s m args below meth c cells slots Q E A nL ws (pc) lv (.int y :: .int x :: st) := fun H locs ls h1 h2 h3 => lv_ishr hc.1.1 hc.1.2.1 hd  (k H locs ls h1 h2 h3)
theorem g_idiv (hc : Cx p s m args meth c E A own cc nL ret) {x y : Int32} (hd : decode cc pc = .ok (.idiv, 1)) (hne : ¬ y = 0) (k : G p l e R s m args below meth c cells slots Q E A nL ws (pc + 1) lv (.int (x / y) :: st)) : G p l e R s m args below meth c cells slots Q E A nL ws (pc) lv (.int y :: .int x :: st) := fun H locs ls h1 h2 h3 => lv_idiv hc.1.1 hc.1.2.1 hd hne (k H locs ls h1 h2 h3)
theorem g_irem (hc : Cx p s m args meth c E A own cc nL ret) {x y : Int32} (hd : decode cc pc = .ok (.irem, 1)) (hne : ¬ y = 0) (k : G p l e R s m args below meth c cells slots Q E A nL ws (pc + 1) lv (.int (x - x / y * y) :: st)) : G p l e R s m args below meth c cells slots Q E A nL ws (pc) lv (.int y :: .int x :: st) := fun H locs ls h1 h2 h3 => lv_irem hc.1.1 hc.1.2.1 hd hne (k H locs ls h1 h2 h3)
theorem g_iushr (hc : Cx p s m args meth c E A own cc nL ret) {x y v : Int32} (hd : decode cc pc = .ok (.iushr, 1)) (hv : (x.toUInt32 >>> (y.toUInt32 &&& Int32.toUInt32 31)).toInt32 = v) (k : G p l e R s m args below meth c cells slots Q E A nL ws (pc + 1) lv (.int v :: st)) : G p l e R s m args below meth c cells slots Q E A nL ws (pc) lv (.int y :: .int x :: st) := fun H locs ls h1 h2 h3 => lv_iushr hc.1.1 hc.1.2.1 hd hv (k H locs ls h1 h2 h3)
theorem g_ladd (hc : Cx p s m args meth c E A own cc nL ret) {x y : Int64} (hd : decode cc pc = .ok (.ladd, 1))  (k : G p l e R s m args below meth c cells slots Q E A nL ws (pc + 1) lv (.long (x + y) :: st)) : G p l e R s m args below meth c cells slots Q E A nL ws (pc) lv (.long y :: .long x :: st) := fun H locs ls h1 h2 h3 => lv_ladd hc.1.1 hc.1.2.1 hd  (k H locs ls h1 h2 h3)
theorem g_lsub (hc : Cx p s m args meth c E A own cc nL ret) {x y : Int64} (hd : decode cc pc = .ok (.lsub, 1))  (k : G p l e R s m args below meth c cells slots Q E A nL ws (pc + 1) lv (.long (x - y) :: st)) : G p l e R s m args below meth c cells slots Q E A nL ws (pc) lv (.long y :: .long x :: st) := fun H locs ls h1 h2 h3 => lv_lsub hc.1.1 hc.1.2.1 hd  (k H locs ls h1 h2 h3)
theorem g_lmul (hc : Cx p s m args meth c E A own cc nL ret) {x y : Int64} (hd : decode cc pc = .ok (.lmul, 1))  (k : G p l e R s m args below meth c cells slots Q E A nL ws (pc + 1) lv (.long (x * y) :: st)) : G p l e R s m args below meth c cells slots Q E A nL ws (pc) lv (.long y :: .long x :: st) := fun H locs ls h1 h2 h3 => lv_lmul hc.1.1 hc.1.2.1 hd  (k H locs ls h1 h2 h3)
theorem g_land (hc : Cx p s m args meth c E A own cc nL ret) {x y : Int64} (hd : decode cc pc = .ok (.land, 1))  (k : G p l e R s m args below meth c cells slots Q E A nL ws (pc + 1) lv (.long (x &&& y) :: st)) : G p l e R s m args below meth c cells slots Q E A nL ws (pc) lv (.long y :: .long x :: st) := fun H locs ls h1 h2 h3 => lv_land hc.1.1 hc.1.2.1 hd  (k H locs ls h1 h2 h3)
theorem g_lor (hc : Cx p s m args meth c E A own cc nL ret) {x y : Int64} (hd : decode cc pc = .ok (.lor, 1))  (k : G p l e R s m args below meth c cells slots Q E A nL ws (pc + 1) lv (.long (x ||| y) :: st)) : G p l e R s m args below meth c cells slots Q E A nL ws (pc) lv (.long y :: .long x :: st) := fun H locs ls h1 h2 h3 => lv_lor hc.1.1 hc.1.2.1 hd  (k H locs ls h1 h2 h3)
theorem g_lxor (hc : Cx p s m args meth c E A own cc nL ret) {x y : Int64} (hd : decode cc pc = .ok (.lxor, 1))  (k : G p l e R s m args below meth c cells slots Q E A nL ws (pc + 1) lv (.long (x ^^^ y) :: st)) : G p l e R s m args below meth c cells slots Q E A nL ws (pc) lv (.long y :: .long x :: st) := fun H locs ls h1 h2 h3 => lv_lxor hc.1.1 hc.1.2.1 hd  (k H locs ls h1 h2 h3)
theorem g_lushr (hc : Cx p s m args meth c E A own cc nL ret) {x v : Int64} {y : Int32} (hd : decode cc pc = .ok (.lushr, 1)) (hv : (x.toUInt64 >>> (y.toInt64.toUInt64 &&& Int64.toUInt64 63)).toInt64 = v) (k : G p l e R s m args below meth c cells slots Q E A nL ws (pc + 1) lv (.long v :: st)) : G p l e R s m args below meth c cells slots Q E A nL ws (pc) lv (.int y :: .long x :: st) := fun H locs ls h1 h2 h3 => lv_lushr hc.1.1 hc.1.2.1 hd hv (k H locs ls h1 h2 h3)
theorem g_lshl (hc : Cx p s m args meth c E A own cc nL ret) {x v : Int64} {y : Int32} (hd : decode cc pc = .ok (.lshl, 1)) (hv : x <<< (y.toInt64 &&& 63) = v) (k : G p l e R s m args below meth c cells slots Q E A nL ws (pc + 1) lv (.long v :: st)) : G p l e R s m args below meth c cells slots Q E A nL ws (pc) lv (.int y :: .long x :: st) := fun H locs ls h1 h2 h3 => lv_lshl hc.1.1 hc.1.2.1 hd hv (k H locs ls h1 h2 h3)
theorem g_i2l (hc : Cx p s m args meth c E A own cc nL ret) {x : Int32} {v : Int64} (hd : decode cc pc = .ok (.i2l, 1)) (hv : x.toInt64 = v) (k : G p l e R s m args below meth c cells slots Q E A nL ws (pc + 1) lv (.long v :: st)) : G p l e R s m args below meth c cells slots Q E A nL ws (pc) lv (.int x :: st) := fun H locs ls h1 h2 h3 => lv_i2l hc.1.1 hc.1.2.1 hd hv (k H locs ls h1 h2 h3)
theorem g_l2i (hc : Cx p s m args meth c E A own cc nL ret) {x : Int64} {v : Int32} (hd : decode cc pc = .ok (.l2i, 1)) (hv : x.toInt32 = v) (k : G p l e R s m args below meth c cells slots Q E A nL ws (pc + 1) lv (.int v :: st)) : G p l e R s m args below meth c cells slots Q E A nL ws (pc) lv (.long x :: st) := fun H locs ls h1 h2 h3 => lv_l2i hc.1.1 hc.1.2.1 hd hv (k H locs ls h1 h2 h3)
theorem g_i2b (hc : Cx p s m args meth c E A own cc nL ret) {x v : Int32} (hd : decode cc pc = .ok (.i2b, 1)) (hv : x.toInt8.toInt32 = v) (k : G p l e R s m args below meth c cells slots Q E A nL ws (pc + 1) lv (.int v :: st)) : G p l e R s m args below meth c cells slots Q E A nL ws (pc) lv (.int x :: st) := fun H locs ls h1 h2 h3 => lv_i2b hc.1.1 hc.1.2.1 hd hv (k H locs ls h1 h2 h3)
theorem g_i2s (hc : Cx p s m args meth c E A own cc nL ret) {x v : Int32} (hd : decode cc pc = .ok (.i2s, 1)) (hv : x.toInt16.toInt32 = v) (k : G p l e R s m args below meth c cells slots Q E A nL ws (pc + 1) lv (.int v :: st)) : G p l e R s m args below meth c cells slots Q E A nL ws (pc) lv (.int x :: st) := fun H locs ls h1 h2 h3 => lv_i2s hc.1.1 hc.1.2.1 hd hv (k H locs ls h1 h2 h3)
theorem g_i2c (hc : Cx p s m args meth c E A own cc nL ret) {x v : Int32} (hd : decode cc pc = .ok (.i2c, 1)) (hv : (x.toUInt32 % 65536).toInt32 = v) (k : G p l e R s m args below meth c cells slots Q E A nL ws (pc + 1) lv (.int v :: st)) : G p l e R s m args below meth c cells slots Q E A nL ws (pc) lv (.int x :: st) := fun H locs ls h1 h2 h3 => lv_i2c hc.1.1 hc.1.2.1 hd hv (k H locs ls h1 h2 h3)
theorem g_lcmp (hc : Cx p s m args meth c E A own cc nL ret) {x y : Int64} (hd : decode cc pc = .ok (.lcmp, 1)) (k : G p l e R s m args below meth c cells slots Q E A nL ws (pc + 1) lv (.int (lg_cmp x y) :: st)) : G p l e R s m args below meth c cells slots Q E A nL ws (pc) lv (.long y :: .long x :: st) := fun H locs ls h1 h2 h3 => W.lcmp hc.1.1 hc.1.2.1 hd (k H locs ls h1 h2 h3)
theorem g_dup (hc : Cx p s m args meth c E A own cc nL ret) {va : Value} (hd : decode cc pc = .ok (.dup, 1)) (hva : va.category = 1) (k : G p l e R s m args below meth c cells slots Q E A nL ws (pc + 1) lv (va :: va :: st)) : G p l e R s m args below meth c cells slots Q E A nL ws (pc) lv (va :: st) := fun H locs ls h1 h2 h3 => lv_dup hc.1.1 hc.1.2.1 hd hva (k H locs ls h1 h2 h3)
theorem g_dup2 (hc : Cx p s m args meth c E A own cc nL ret) {va vb : Value} (hd : decode cc pc = .ok (.dup2, 1)) (hva : va.category = 1) (hvb : vb.category = 1) (k : G p l e R s m args below meth c cells slots Q E A nL ws (pc + 1) lv (va :: vb :: va :: vb :: st)) : G p l e R s m args below meth c cells slots Q E A nL ws (pc) lv (va :: vb :: st) := fun H locs ls h1 h2 h3 => lv_dup2_11 hc.1.1 hc.1.2.1 hd hva hvb (k H locs ls h1 h2 h3)
theorem g_if_eq (hc : Cx p s m args meth c E A own cc nL ret) {x : Int32} {off : Int} (tgt : Nat) (hd : decode cc pc = .ok (.ifCond .eq off, 3)) (ht : (pc : Int) + off = (tgt : Int)) (kt : x = 0 → G p l e R s m args below meth c cells slots Q E A nL ws (tgt) lv (st)) (kf : ¬ x = 0 → G p l e R s m args below meth c cells slots Q E A nL ws (pc + 3) lv (st)) : G p l e R s m args below meth c cells slots Q E A nL ws (pc) lv (.int x :: st) := fun H locs ls h1 h2 h3 => lv_if_eq hc.1.1 hc.1.2.1 hd ht (fun z => kt z H locs ls h1 h2 h3) (fun z => kf z H locs ls h1 h2 h3)
theorem g_if_eq_t (hc : Cx p s m args meth c E A own cc nL ret) {x : Int32} {off : Int} (tgt : Nat) (hd : decode cc pc = .ok (.ifCond .eq off, 3)) (ht : (pc : Int) + off = (tgt : Int)) (hz : x = 0) (k : G p l e R s m args below meth c cells slots Q E A nL ws (tgt) lv (st)) : G p l e R s m args below meth c cells slots Q E A nL ws (pc) lv (.int x :: st) := g_if_eq hc tgt hd ht (fun _ => k) (fun z => absurd hz z)
theorem g_if_eq_f (hc : Cx p s m args meth c E A own cc nL ret) {x : Int32} {off : Int} (tgt : Nat) (hd : decode cc pc = .ok (.ifCond .eq off, 3)) (ht : (pc : Int) + off = (tgt : Int)) (hz : ¬ x = 0) (k : G p l e R s m args below meth c cells slots Q E A nL ws (pc + 3) lv (st)) : G p l e R s m args below meth c cells slots Q E A nL ws (pc) lv (.int x :: st) := g_if_eq hc tgt hd ht (fun z => absurd z hz) (fun _ => k)
theorem g_icmp_eq (hc : Cx p s m args meth c E A own cc nL ret) {x y : Int32} {off : Int} (tgt : Nat) (hd : decode cc pc = .ok (.if_icmp .eq off, 3)) (ht : (pc : Int) + off = (tgt : Int)) (kt : x = y → G p l e R s m args below meth c cells slots Q E A nL ws (tgt) lv (st)) (kf : ¬ x = y → G p l e R s m args below meth c cells slots Q E A nL ws (pc + 3) lv (st)) : G p l e R s m args below meth c cells slots Q E A nL ws (pc) lv (.int y :: .int x :: st) := fun H locs ls h1 h2 h3 => lv_icmp_eq hc.1.1 hc.1.2.1 hd ht (fun z => kt z H locs ls h1 h2 h3) (fun z => kf z H locs ls h1 h2 h3)
theorem g_icmp_eq_t (hc : Cx p s m args meth c E A own cc nL ret) {x y : Int32} {off : Int} (tgt : Nat) (hd : decode cc pc = .ok (.if_icmp .eq off, 3)) (ht : (pc : Int) + off = (tgt : Int)) (hz : x = y) (k : G p l e R s m args below meth c cells slots Q E A nL ws (tgt) lv (st)) : G p l e R s m args below meth c cells slots Q E A nL ws (pc) lv (.int y :: .int x :: st) := g_icmp_eq hc tgt hd ht (fun _ => k) (fun z => absurd hz z)
theorem g_icmp_eq_f (hc : Cx p s m args meth c E A own cc nL ret) {x y : Int32} {off : Int} (tgt : Nat) (hd : decode cc pc = .ok (.if_icmp .eq off, 3)) (ht : (pc : Int) + off = (tgt : Int)) (hz : ¬ x = y) (k : G p l e R s m args below meth c cells slots Q E A nL ws (pc + 3) lv (st)) : G p l e R s m args below meth c cells slots Q E A nL ws (pc) lv (.int y :: .int x :: st) := g_icmp_eq hc tgt hd ht (fun z => absurd z hz) (fun _ => k)
theorem g_if_ne (hc : Cx p s m args meth c E A own cc nL ret) {x : Int32} {off : Int} (tgt : Nat) (hd : decode cc pc = .ok (.ifCond .ne off, 3)) (ht : (pc : Int) + off = (tgt : Int)) (kt : ¬ x = 0 → G p l e R s m args below meth c cells slots Q E A nL ws (tgt) lv (st)) (kf : x = 0 → G p l e R s m args below meth c cells slots Q E A nL ws (pc + 3) lv (st)) : G p l e R s m args below meth c cells slots Q E A nL ws (pc) lv (.int x :: st) := fun H locs ls h1 h2 h3 => lv_if_ne hc.1.1 hc.1.2.1 hd ht (fun z => kt z H locs ls h1 h2 h3) (fun z => kf z H locs ls h1 h2 h3)
theorem g_if_ne_t (hc : Cx p s m args meth c E A own cc nL ret) {x : Int32} {off : Int} (tgt : Nat) (hd : decode cc pc = .ok (.ifCond .ne off, 3)) (ht : (pc : Int) + off = (tgt : Int)) (hz : ¬ x = 0) (k : G p l e R s m args below meth c cells slots Q E A nL ws (tgt) lv (st)) : G p l e R s m args below meth c cells slots Q E A nL ws (pc) lv (.int x :: st) := g_if_ne hc tgt hd ht (fun _ => k) (fun z => absurd z hz)
theorem g_if_ne_f (hc : Cx p s m args meth c E A own cc nL ret) {x : Int32} {off : Int} (tgt : Nat) (hd : decode cc pc = .ok (.ifCond .ne off, 3)) (ht : (pc : Int) + off = (tgt : Int)) (hz : x = 0) (k : G p l e R s m args below meth c cells slots Q E A nL ws (pc + 3) lv (st)) : G p l e R s m args below meth c cells slots Q E A nL ws (pc) lv (.int x :: st) := g_if_ne hc tgt hd ht (fun z => absurd hz z) (fun _ => k)
theorem g_icmp_ne (hc : Cx p s m args meth c E A own cc nL ret) {x y : Int32} {off : Int} (tgt : Nat) (hd : decode cc pc = .ok (.if_icmp .ne off, 3)) (ht : (pc : Int) + off = (tgt : Int)) (kt : ¬ x = y → G p l e R s m args below meth c cells slots Q E A nL ws (tgt) lv (st)) (kf : x = y → G p l e R s m args below meth c cells slots Q E A nL ws (pc + 3) lv (st)) : G p l e R s m args below meth c cells slots Q E A nL ws (pc) lv (.int y :: .int x :: st) := fun H locs ls h1 h2 h3 => lv_icmp_ne hc.1.1 hc.1.2.1 hd ht (fun z => kt z H locs ls h1 h2 h3) (fun z => kf z H locs ls h1 h2 h3)
theorem g_icmp_ne_t (hc : Cx p s m args meth c E A own cc nL ret) {x y : Int32} {off : Int} (tgt : Nat) (hd : decode cc pc = .ok (.if_icmp .ne off, 3)) (ht : (pc : Int) + off = (tgt : Int)) (hz : ¬ x = y) (k : G p l e R s m args below meth c cells slots Q E A nL ws (tgt) lv (st)) : G p l e R s m args below meth c cells slots Q E A nL ws (pc) lv (.int y :: .int x :: st) := g_icmp_ne hc tgt hd ht (fun _ => k) (fun z => absurd z hz)
theorem g_icmp_ne_f (hc : Cx p s m args meth c E A own cc nL ret) {x y : Int32} {off : Int} (tgt : Nat) (hd : decode cc pc = .ok (.if_icmp .ne off, 3)) (ht : (pc : Int) + off = (tgt : Int)) (hz : x = y) (k : G p l e R s m args below meth c cells slots Q E A nL ws (pc + 3) lv (st)) : G p l e R s m args below meth c cells slots Q E A nL ws (pc) lv (.int y :: .int x :: st) := g_icmp_ne hc tgt hd ht (fun z => absurd hz z) (fun _ => k)
theorem g_if_lt (hc : Cx p s m args meth c E A own cc nL ret) {x : Int32} {off : Int} (tgt : Nat) (hd : decode cc pc = .ok (.ifCond .lt off, 3)) (ht : (pc : Int) + off = (tgt : Int)) (kt : x < 0 → G p l e R s m args below meth c cells slots Q E A nL ws (tgt) lv (st)) (kf : ¬ x < 0 → G p l e R s m args below meth c cells slots Q E A nL ws (pc + 3) lv (st)) : G p l e R s m args below meth c cells slots Q E A nL ws (pc) lv (.int x :: st) := fun H locs ls h1 h2 h3 => lv_if_lt hc.1.1 hc.1.2.1 hd ht (fun z => kt z H locs ls h1 h2 h3) (fun z => kf z H locs ls h1 h2 h3)
theorem g_if_lt_t (hc : Cx p s m args meth c E A own cc nL ret) {x : Int32} {off : Int} (tgt : Nat) (hd : decode cc pc = .ok (.ifCond .lt off, 3)) (ht : (pc : Int) + off = (tgt : Int)) (hz : x < 0) (k : G p l e R s m args below meth c cells slots Q E A nL ws (tgt) lv (st)) : G p l e R s m args below meth c cells slots Q E A nL ws (pc) lv (.int x :: st) := g_if_lt hc tgt hd ht (fun _ => k) (fun z => absurd hz z)
theorem g_if_lt_f (hc : Cx p s m args meth c E A own cc nL ret) {x : Int32} {off : Int} (tgt : Nat) (hd : decode cc pc = .ok (.ifCond .lt off, 3)) (ht : (pc : Int) + off = (tgt : Int)) (hz : ¬ x < 0) (k : G p l e R s m args below meth c cells slots Q E A nL ws (pc + 3) lv (st)) : G p l e R s m args below meth c cells slots Q E A nL ws (pc) lv (.int x :: st) := g_if_lt hc tgt hd ht (fun z => absurd z hz) (fun _ => k)
theorem g_icmp_lt (hc : Cx p s m args meth c E A own cc nL ret) {x y : Int32} {off : Int} (tgt : Nat) (hd : decode cc pc = .ok (.if_icmp .lt off, 3)) (ht : (pc : Int) + off = (tgt : Int)) (kt : x < y → G p l e R s m args below meth c cells slots Q E A nL ws (tgt) lv (st)) (kf : ¬ x < y → G p l e R s m args below meth c cells slots Q E A nL ws (pc + 3) lv (st)) : G p l e R s m args below meth c cells slots Q E A nL ws (pc) lv (.int y :: .int x :: st) := fun H locs ls h1 h2 h3 => lv_icmp_lt hc.1.1 hc.1.2.1 hd ht (fun z => kt z H locs ls h1 h2 h3) (fun z => kf z H locs ls h1 h2 h3)
theorem g_icmp_lt_t (hc : Cx p s m args meth c E A own cc nL ret) {x y : Int32} {off : Int} (tgt : Nat) (hd : decode cc pc = .ok (.if_icmp .lt off, 3)) (ht : (pc : Int) + off = (tgt : Int)) (hz : x < y) (k : G p l e R s m args below meth c cells slots Q E A nL ws (tgt) lv (st)) : G p l e R s m args below meth c cells slots Q E A nL ws (pc) lv (.int y :: .int x :: st) := g_icmp_lt hc tgt hd ht (fun _ => k) (fun z => absurd hz z)
theorem g_icmp_lt_f (hc : Cx p s m args meth c E A own cc nL ret) {x y : Int32} {off : Int} (tgt : Nat) (hd : decode cc pc = .ok (.if_icmp .lt off, 3)) (ht : (pc : Int) + off = (tgt : Int)) (hz : ¬ x < y) (k : G p l e R s m args below meth c cells slots Q E A nL ws (pc + 3) lv (st)) : G p l e R s m args below meth c cells slots Q E A nL ws (pc) lv (.int y :: .int x :: st) := g_icmp_lt hc tgt hd ht (fun z => absurd z hz) (fun _ => k)
theorem g_if_ge (hc : Cx p s m args meth c E A own cc nL ret) {x : Int32} {off : Int} (tgt : Nat) (hd : decode cc pc = .ok (.ifCond .ge off, 3)) (ht : (pc : Int) + off = (tgt : Int)) (kt : 0 ≤ x → G p l e R s m args below meth c cells slots Q E A nL ws (tgt) lv (st)) (kf : ¬ 0 ≤ x → G p l e R s m args below meth c cells slots Q E A nL ws (pc + 3) lv (st)) : G p l e R s m args below meth c cells slots Q E A nL ws (pc) lv (.int x :: st) := fun H locs ls h1 h2 h3 => lv_if_ge hc.1.1 hc.1.2.1 hd ht (fun z => kt z H locs ls h1 h2 h3) (fun z => kf z H locs ls h1 h2 h3)
theorem g_if_ge_t (hc : Cx p s m args meth c E A own cc nL ret) {x : Int32} {off : Int} (tgt : Nat) (hd : decode cc pc = .ok (.ifCond .ge off, 3)) (ht : (pc : Int) + off = (tgt : Int)) (hz : 0 ≤ x) (k : G p l e R s m args below meth c cells slots Q E A nL ws (tgt) lv (st)) : G p l e R s m args below meth c cells slots Q E A nL ws (pc) lv (.int x :: st) := g_if_ge hc tgt hd ht (fun _ => k) (fun z => absurd hz z)
theorem g_if_ge_f (hc : Cx p s m args meth c E A own cc nL ret) {x : Int32} {off : Int} (tgt : Nat) (hd : decode cc pc = .ok (.ifCond .ge off, 3)) (ht : (pc : Int) + off = (tgt : Int)) (hz : ¬ 0 ≤ x) (k : G p l e R s m args below meth c cells slots Q E A nL ws (pc + 3) lv (st)) : G p l e R s m args below meth c cells slots Q E A nL ws (pc) lv (.int x :: st) := g_if_ge hc tgt hd ht (fun z => absurd z hz) (fun _ => k)
theorem g_icmp_ge (hc : Cx p s m args meth c E A own cc nL ret) {x y : Int32} {off : Int} (tgt : Nat) (hd : decode cc pc = .ok (.if_icmp .ge off, 3)) (ht : (pc : Int) + off = (tgt : Int)) (kt : y ≤ x → G p l e R s m args below meth c cells slots Q E A nL ws (tgt) lv (st)) (kf : ¬ y ≤ x → G p l e R s m args below meth c cells slots Q E A nL ws (pc + 3) lv (st)) : G p l e R s m args below meth c cells slots Q E A nL ws (pc) lv (.int y :: .int x :: st) := fun H locs ls h1 h2 h3 => lv_icmp_ge hc.1.1 hc.1.2.1 hd ht (fun z => kt z H locs ls h1 h2 h3) (fun z => kf z H locs ls h1 h2 h3)
theorem g_icmp_ge_t (hc : Cx p s m args meth c E A own cc nL ret) {x y : Int32} {off : Int} (tgt : Nat) (hd : decode cc pc = .ok (.if_icmp .ge off, 3)) (ht : (pc : Int) + off = (tgt : Int)) (hz : y ≤ x) (k : G p l e R s m args below meth c cells slots Q E A nL ws (tgt) lv (st)) : G p l e R s m args below meth c cells slots Q E A nL ws (pc) lv (.int y :: .int x :: st) := g_icmp_ge hc tgt hd ht (fun _ => k) (fun z => absurd hz z)
theorem g_icmp_ge_f (hc : Cx p s m args meth c E A own cc nL ret) {x y : Int32} {off : Int} (tgt : Nat) (hd : decode cc pc = .ok (.if_icmp .ge off, 3)) (ht : (pc : Int) + off = (tgt : Int)) (hz : ¬ y ≤ x) (k : G p l e R s m args below meth c cells slots Q E A nL ws (pc + 3) lv (st)) : G p l e R s m args below meth c cells slots Q E A nL ws (pc) lv (.int y :: .int x :: st) := g_icmp_ge hc tgt hd ht (fun z => absurd z hz) (fun _ => k)
theorem g_if_gt (hc : Cx p s m args meth c E A own cc nL ret) {x : Int32} {off : Int} (tgt : Nat) (hd : decode cc pc = .ok (.ifCond .gt off, 3)) (ht : (pc : Int) + off = (tgt : Int)) (kt : 0 < x → G p l e R s m args below meth c cells slots Q E A nL ws (tgt) lv (st)) (kf : ¬ 0 < x → G p l e R s m args below meth c cells slots Q E A nL ws (pc + 3) lv (st)) : G p l e R s m args below meth c cells slots Q E A nL ws (pc) lv (.int x :: st) := fun H locs ls h1 h2 h3 => lv_if_gt hc.1.1 hc.1.2.1 hd ht (fun z => kt z H locs ls h1 h2 h3) (fun z => kf z H locs ls h1 h2 h3)
theorem g_if_gt_t (hc : Cx p s m args meth c E A own cc nL ret) {x : Int32} {off : Int} (tgt : Nat) (hd : decode cc pc = .ok (.ifCond .gt off, 3)) (ht : (pc : Int) + off = (tgt : Int)) (hz : 0 < x) (k : G p l e R s m args below meth c cells slots Q E A nL ws (tgt) lv (st)) : G p l e R s m args below meth c cells slots Q E A nL ws (pc) lv (.int x :: st) := g_if_gt hc tgt hd ht (fun _ => k) (fun z => absurd hz z)
theorem g_if_gt_f (hc : Cx p s m args meth c E A own cc nL ret) {x : Int32} {off : Int} (tgt : Nat) (hd : decode cc pc = .ok (.ifCond .gt off, 3)) (ht : (pc : Int) + off = (tgt : Int)) (hz : ¬ 0 < x) (k : G p l e R s m args below meth c cells slots Q E A nL ws (pc + 3) lv (st)) : G p l e R s m args below meth c cells slots Q E A nL ws (pc) lv (.int x :: st) := g_if_gt hc tgt hd ht (fun z => absurd z hz) (fun _ => k)
theorem g_icmp_gt (hc : Cx p s m args meth c E A own cc nL ret) {x y : Int32} {off : Int} (tgt : Nat) (hd : decode cc pc = .ok (.if_icmp .gt off, 3)) (ht : (pc : Int) + off = (tgt : Int)) (kt : y < x → G p l e R s m args below meth c cells slots Q E A nL ws (tgt) lv (st)) (kf : ¬ y < x → G p l e R s m args below meth c cells slots Q E A nL ws (pc + 3) lv (st)) : G p l e R s m args below meth c cells slots Q E A nL ws (pc) lv (.int y :: .int x :: st) := fun H locs ls h1 h2 h3 => lv_icmp_gt hc.1.1 hc.1.2.1 hd ht (fun z => kt z H locs ls h1 h2 h3) (fun z => kf z H locs ls h1 h2 h3)
theorem g_icmp_gt_t (hc : Cx p s m args meth c E A own cc nL ret) {x y : Int32} {off : Int} (tgt : Nat) (hd : decode cc pc = .ok (.if_icmp .gt off, 3)) (ht : (pc : Int) + off = (tgt : Int)) (hz : y < x) (k : G p l e R s m args below meth c cells slots Q E A nL ws (tgt) lv (st)) : G p l e R s m args below meth c cells slots Q E A nL ws (pc) lv (.int y :: .int x :: st) := g_icmp_gt hc tgt hd ht (fun _ => k) (fun z => absurd hz z)
theorem g_icmp_gt_f (hc : Cx p s m args meth c E A own cc nL ret) {x y : Int32} {off : Int} (tgt : Nat) (hd : decode cc pc = .ok (.if_icmp .gt off, 3)) (ht : (pc : Int) + off = (tgt : Int)) (hz : ¬ y < x) (k : G p l e R s m args below meth c cells slots Q E A nL ws (pc + 3) lv (st)) : G p l e R s m args below meth c cells slots Q E A nL ws (pc) lv (.int y :: .int x :: st) := g_icmp_gt hc tgt hd ht (fun z => absurd z hz) (fun _ => k)
theorem g_if_le (hc : Cx p s m args meth c E A own cc nL ret) {x : Int32} {off : Int} (tgt : Nat) (hd : decode cc pc = .ok (.ifCond .le off, 3)) (ht : (pc : Int) + off = (tgt : Int)) (kt : x ≤ 0 → G p l e R s m args below meth c cells slots Q E A nL ws (tgt) lv (st)) (kf : ¬ x ≤ 0 → G p l e R s m args below meth c cells slots Q E A nL ws (pc + 3) lv (st)) : G p l e R s m args below meth c cells slots Q E A nL ws (pc) lv (.int x :: st) := fun H locs ls h1 h2 h3 => lv_if_le hc.1.1 hc.1.2.1 hd ht (fun z => kt z H locs ls h1 h2 h3) (fun z => kf z H locs ls h1 h2 h3)
theorem g_if_le_t (hc : Cx p s m args meth c E A own cc nL ret) {x : Int32} {off : Int} (tgt : Nat) (hd : decode cc pc = .ok (.ifCond .le off, 3)) (ht : (pc : Int) + off = (tgt : Int)) (hz : x ≤ 0) (k : G p l e R s m args below meth c cells slots Q E A nL ws (tgt) lv (st)) : G p l e R s m args below meth c cells slots Q E A nL ws (pc) lv (.int x :: st) := g_if_le hc tgt hd ht (fun _ => k) (fun z => absurd hz z)
theorem g_if_le_f (hc : Cx p s m args meth c E A own cc nL ret) {x : Int32} {off : Int} (tgt : Nat) (hd : decode cc pc = .ok (.ifCond .le off, 3)) (ht : (pc : Int) + off = (tgt : Int)) (hz : ¬ x ≤ 0) (k : G p l e R s m args below meth c cells slots Q E A nL ws (pc + 3) lv (st)) : G p l e R s m args below meth c cells slots Q E A nL ws (pc) lv (.int x :: st) := g_if_le hc tgt hd ht (fun z => absurd z hz) (fun _ => k)
theorem g_icmp_le (hc : Cx p s m args meth c E A own cc nL ret) {x y : Int32} {off : Int} (tgt : Nat) (hd : decode cc pc = .ok (.if_icmp .le off, 3)) (ht : (pc : Int) + off = (tgt : Int)) (kt : x ≤ y → G p l e R s m args below meth c cells slots Q E A nL ws (tgt) lv (st)) (kf : ¬ x ≤ y → G p l e R s m args below meth c cells slots Q E A nL ws (pc + 3) lv (st)) : G p l e R s m args below meth c cells slots Q E A nL ws (pc) lv (.int y :: .int x :: st) := fun H locs ls h1 h2 h3 => lv_icmp_le hc.1.1 hc.1.2.1 hd ht (fun z => kt z H locs ls h1 h2 h3) (fun z => kf z H locs ls h1 h2 h3)
theorem g_icmp_le_t (hc : Cx p s m args meth c E A own cc nL ret) {x y : Int32} {off : Int} (tgt : Nat) (hd : decode cc pc = .ok (.if_icmp .le off, 3)) (ht : (pc : Int) + off = (tgt : Int)) (hz : x ≤ y) (k : G p l e R s m args below meth c cells slots Q E A nL ws (tgt) lv (st)) : G p l e R s m args below meth c cells slots Q E A nL ws (pc) lv (.int y :: .int x :: st) := g_icmp_le hc tgt hd ht (fun _ => k) (fun z => absurd hz z)
theorem g_icmp_le_f (hc : Cx p s m args meth c E A own cc nL ret) {x y : Int32} {off : Int} (tgt : Nat) (hd : decode cc pc = .ok (.if_icmp .le off, 3)) (ht : (pc : Int) + off = (tgt : Int)) (hz : ¬ x ≤ y) (k : G p l e R s m args below meth c cells slots Q E A nL ws (pc + 3) lv (st)) : G p l e R s m args below meth c cells slots Q E A nL ws (pc) lv (.int y :: .int x :: st) := g_icmp_le hc tgt hd ht (fun z => absurd z hz) (fun _ => k)
theorem g_goto (hc : Cx p s m args meth c E A own cc nL ret) {off : Int} (tgt : Nat) (hd : decode cc pc = .ok (.goto off, 3)) (ht : (pc : Int) + off = (tgt : Int)) (k : G p l e R s m args below meth c cells slots Q E A nL ws (tgt) lv (st)) : G p l e R s m args below meth c cells slots Q E A nL ws (pc) lv (st) := fun H locs ls h1 h2 h3 => lv_goto hc.1.1 hc.1.2.1 hd ht (k H locs ls h1 h2 h3)
theorem g_ldc (hc : Cx p s m args meth c E A own cc nL ret) {index : Nat} {v : Int32} (t : Cond.constant own index v ∈ gtb) (hd : decode cc pc = .ok (.ldc index, 2)) (k : G p l e R s m args below meth c cells slots Q E A nL ws (pc + 2) lv (.int v :: st)) : G p l e R s m args below meth c cells slots Q E A nL ws (pc) lv (st) := fun H locs ls h1 h2 h3 => lv_ldc hc.1.1 hc.1.2.1 hc.1.2.2.2.1 (hc.1.2.2.2.2 _ t) hd (k H locs ls h1 h2 h3)
theorem g_ldcw (hc : Cx p s m args meth c E A own cc nL ret) {index : Nat} {v : Int32} (t : Cond.constant own index v ∈ gtb) (hd : decode cc pc = .ok (.ldc_w index, 3)) (k : G p l e R s m args below meth c cells slots Q E A nL ws (pc + 3) lv (.int v :: st)) : G p l e R s m args below meth c cells slots Q E A nL ws (pc) lv (st) := fun H locs ls h1 h2 h3 => lv_ldcw hc.1.1 hc.1.2.1 hc.1.2.2.2.1 (hc.1.2.2.2.2 _ t) hd (k H locs ls h1 h2 h3)
theorem g_ldc2 (hc : Cx p s m args meth c E A own cc nL ret) {index : Nat} {v : Int64} (t : Cond.constantLong own index v ∈ gtb) (hd : decode cc pc = .ok (.ldc2_w index, 3)) (k : G p l e R s m args below meth c cells slots Q E A nL ws (pc + 3) lv (.long v :: st)) : G p l e R s m args below meth c cells slots Q E A nL ws (pc) lv (st) := fun H locs ls h1 h2 h3 => lv_ldc2 hc.1.1 hc.1.2.1 hc.1.2.2.2.1 (hc.1.2.2.2.2 _ t) hd (k H locs ls h1 h2 h3)
theorem g_tableIn (hc : Cx p s m args meth c E A own cc nL ret) {dflt lo hi : Int} {offs : Array Int} {len : Nat} {x : Int32} {off : Int} (tgt : Nat) (hd : decode cc pc = .ok (.tableswitch dflt lo hi offs, len)) (z1 : ¬ x.toInt < lo) (z2 : ¬ hi < x.toInt) (ho : offs[(x.toInt - lo).toNat]? = some off) (ht : (pc : Int) + off = (tgt : Int)) (k : G p l e R s m args below meth c cells slots Q E A nL ws (tgt) lv (st)) : G p l e R s m args below meth c cells slots Q E A nL ws (pc) lv (.int x :: st) := fun H locs ls h1 h2 h3 => lv_tableIn hc.1.1 hc.1.2.1 hd z1 z2 ho ht (k H locs ls h1 h2 h3)
theorem g_tableOut (hc : Cx p s m args meth c E A own cc nL ret) {dflt lo hi : Int} {offs : Array Int} {len : Nat} {x : Int32} (tgt : Nat) (hd : decode cc pc = .ok (.tableswitch dflt lo hi offs, len)) (z : x.toInt < lo ∨ hi < x.toInt) (ht : (pc : Int) + dflt = (tgt : Int)) (k : G p l e R s m args below meth c cells slots Q E A nL ws (tgt) lv (st)) : G p l e R s m args below meth c cells slots Q E A nL ws (pc) lv (.int x :: st) := fun H locs ls h1 h2 h3 => lv_tableOut hc.1.1 hc.1.2.1 hd z ht (k H locs ls h1 h2 h3)
theorem g_get (hc : Cx p s m args meth c E A own cc nL ret) {C ref : String} {T : u_T} {N ci index a : Nat} {fs : List Value} {v : Value} (hin : ∀ w ∈ u_ws C T N, w ∈ gtb) (q0 : Nat) (he : ws[q0]? = some (a, .inr (ci, fs))) (hcl : vwCl[ci]? = some (C, T, N)) (k0 : Nat) (hk : k0 < N) (hlink : Cond.fieldLink own index ref (T k0).2.1 (T k0).2.2.1 ∈ gtb) (hrf : (T k0).1 = ref) (hv : fs[k0]? = some v) (hd : decode cc pc = .ok (.getfield index, 3)) (k : G p l e R s m args below meth c cells slots Q E A nL ws (pc + 3) lv (v :: st)) : G p l e R s m args below meth c cells slots Q E A nL ws (pc) lv (.ref a :: st) := fun H locs ls h1 h2 h3 => va_get hc.1.1 hc.1.2.1 hc.1.2.2.2.2 hin hc.1.2.2.2.1 hc.2.1 h1 q0 he hcl k0 hk (hc.1.2.2.2.2 _ hlink) (fun _ h9 => hrf ▸ h9) hv hd (k H locs ls h1 h2 h3)
theorem g_put (hc : Cx p s m args meth c E A own cc nL ret) {C ref : String} {T : u_T} {N ci index a : Nat} {fs : List Value} {v : Value} {ty : FieldType} (hD : va_D A ws) (hin : ∀ w ∈ u_ws C T N, w ∈ gtb) (ty0 : Nat → FieldType) (hty : ∀ k, k < N → parseFieldDescriptor (T k).2.2.1 = some (ty0 k)) (hnm : ∀ a, a < N → ∀ b, b < N → a ≠ b → (T a).2.1 ≠ (T b).2.1) (q0 : Nat) (he : ws[q0]? = some (a, .inr (ci, fs))) (hcl : vwCl[ci]? = some (C, T, N)) (k0 : Nat) (hk : k0 < N) (hlink : Cond.fieldLink own index ref (T k0).2.1 (T k0).2.2.1 ∈ gtb) (hrf : (T k0).1 = ref) (hfin : (T k0).2.2.2 = false) (hdd : parseFieldDescriptor (T k0).2.2.1 = some ty) (hn : narrow ty v = v) (hfit : fits ty v = true) (hl : k0 < fs.length) (hw : ws.set q0 (a, .inr (ci, fs.set k0 v)) = ws') (hd : decode cc pc = .ok (.putfield index, 3)) (k : G p l e R s m args below meth c cells slots Q E A nL ws' (pc + 3) lv (st)) : G p l e R s m args below meth c cells slots Q E A nL ws (pc) lv (v :: .ref a :: st) := fun H locs ls h1 h2 h3 => va_put hc.1.1 hc.1.2.1 hc.1.2.2.2.2 hin ty0 hty hnm hc.1.2.2.2.1 hc.2.1 h1 hD h2 q0 he hcl k0 hk (hc.1.2.2.2.2 _ hlink) (fun _ h9 => hrf ▸ h9) hfin hdd hn hfit hl hd (fun H1 locs1 a1 _ a3 => k H1 locs1 ls (hw ▸ a1) a3 h3)
theorem g_iald (hc : Cx p s m args meth c E A own cc nL ret) {cA : ClassId} {n a : Nat} {f : Nat → Int32} {x : Int32} (q0 t0 : Nat) (ha : ws[q0]? = some (a, .inl (cA, n, .inl f))) (ht : (tyl E.2.2.1)[t0]? = some (cA, .int)) (i : Nat) (hx : x = nI i) (hi : i < n) (hn : n < 2 ^ 31) (hd : decode cc pc = .ok (.iaload, 1)) (k : G p l e R s m args below meth c cells slots Q E A nL ws (pc + 1) lv (.int (f i) :: st)) : G p l e R s m args below meth c cells slots Q E A nL ws (pc) lv (.int x :: .ref a :: st) := by
  subst hx
  exact fun H locs ls h1 h2 h3 => va_iald hc.1.1 hc.1.2.1 hc.2.1 h1 q0 t0 ha ht (vp_in_nI hi hn) hd (by rw [nI_clamp (Nat.lt_trans hi hn)]; exact (k H locs ls h1 h2 h3))
theorem g_bald (hc : Cx p s m args meth c E A own cc nL ret) {cA : ClassId} {n a : Nat} {f : Nat → Int32} {x : Int32} (q0 t0 : Nat) (ha : ws[q0]? = some (a, .inl (cA, n, .inl f))) (ht : (tyl E.2.2.1)[t0]? = some (cA, .byte)) (i : Nat) (hx : x = nI i) (hi : i < n) (hn : n < 2 ^ 31) (hd : decode cc pc = .ok (.baload, 1)) (k : G p l e R s m args below meth c cells slots Q E A nL ws (pc + 1) lv (.int (f i) :: st)) : G p l e R s m args below meth c cells slots Q E A nL ws (pc) lv (.int x :: .ref a :: st) := by
  subst hx
  exact fun H locs ls h1 h2 h3 => va_bald hc.1.1 hc.1.2.1 hc.2.1 h1 q0 t0 ha ht (vp_in_nI hi hn) hd (by rw [nI_clamp (Nat.lt_trans hi hn)]; exact (k H locs ls h1 h2 h3))
theorem g_zald (hc : Cx p s m args meth c E A own cc nL ret) {cA : ClassId} {n a : Nat} {f : Nat → Int32} {x : Int32} (q0 t0 : Nat) (ha : ws[q0]? = some (a, .inl (cA, n, .inl f))) (ht : (tyl E.2.2.1)[t0]? = some (cA, .boolean)) (i : Nat) (hx : x = nI i) (hi : i < n) (hn : n < 2 ^ 31) (hd : decode cc pc = .ok (.baload, 1)) (k : G p l e R s m args below meth c cells slots Q E A nL ws (pc + 1) lv (.int (f i) :: st)) : G p l e R s m args below meth c cells slots Q E A nL ws (pc) lv (.int x :: .ref a :: st) := by
  subst hx
  exact fun H locs ls h1 h2 h3 => va_zald hc.1.1 hc.1.2.1 hc.2.1 h1 q0 t0 ha ht (vp_in_nI hi hn) hd (by rw [nI_clamp (Nat.lt_trans hi hn)]; exact (k H locs ls h1 h2 h3))
theorem g_sald (hc : Cx p s m args meth c E A own cc nL ret) {cA : ClassId} {n a : Nat} {f : Nat → Int32} {x : Int32} (q0 t0 : Nat) (ha : ws[q0]? = some (a, .inl (cA, n, .inl f))) (ht : (tyl E.2.2.1)[t0]? = some (cA, .short)) (i : Nat) (hx : x = nI i) (hi : i < n) (hn : n < 2 ^ 31) (hd : decode cc pc = .ok (.saload, 1)) (k : G p l e R s m args below meth c cells slots Q E A nL ws (pc + 1) lv (.int (f i) :: st)) : G p l e R s m args below meth c cells slots Q E A nL ws (pc) lv (.int x :: .ref a :: st) := by
  subst hx
  exact fun H locs ls h1 h2 h3 => va_sald hc.1.1 hc.1.2.1 hc.2.1 h1 q0 t0 ha ht (vp_in_nI hi hn) hd (by rw [nI_clamp (Nat.lt_trans hi hn)]; exact (k H locs ls h1 h2 h3))
theorem g_lald (hc : Cx p s m args meth c E A own cc nL ret) {cA : ClassId} {n a : Nat} {f : Nat → Int64} {x : Int32} (q0 t0 : Nat) (ha : ws[q0]? = some (a, .inl (cA, n, .inr (.inl f)))) (ht : (tyl E.2.2.1)[t0]? = some (cA, .long)) (i : Nat) (hx : x = nI i) (hi : i < n) (hn : n < 2 ^ 31) (hd : decode cc pc = .ok (.laload, 1)) (k : G p l e R s m args below meth c cells slots Q E A nL ws (pc + 1) lv (.long (f i) :: st)) : G p l e R s m args below meth c cells slots Q E A nL ws (pc) lv (.int x :: .ref a :: st) := by
  subst hx
  exact fun H locs ls h1 h2 h3 => va_lald hc.1.1 hc.1.2.1 hc.2.1 h1 q0 t0 ha ht (vp_in_nI hi hn) hd (by rw [nI_clamp (Nat.lt_trans hi hn)]; exact (k H locs ls h1 h2 h3))
theorem g_iast (hc : Cx p s m args meth c E A own cc nL ret) {cA : ClassId} {n a : Nat} {f : Nat → Int32} {x v : Int32} (hD : va_D A ws) (q0 t0 : Nat) (ha : ws[q0]? = some (a, .inl (cA, n, .inl f))) (ht : (tyl E.2.2.1)[t0]? = some (cA, .int)) (i : Nat) (hx : x = nI i) (hi : i < n) (hn : n < 2 ^ 31) (hw : ws.set q0 (a, .inl (cA, n, .inl (upd f i v))) = ws') (hd : decode cc pc = .ok (.iastore, 1)) (k : G p l e R s m args below meth c cells slots Q E A nL ws' (pc + 1) lv (st)) : G p l e R s m args below meth c cells slots Q E A nL ws (pc) lv (.int v :: .int x :: .ref a :: st) := by
  subst hx
  refine fun H locs ls h1 h2 h3 => va_iast hc.1.1 hc.1.2.1 hc.2.1 h1 hD h2 q0 t0 ha ht (vp_in_nI hi hn) hd (fun H1 locs1 a1 _ a3 => k H1 locs1 ls ?_ a3 h3)
  rw [nI_clamp (Nat.lt_trans hi hn), hw] at a1
  exact a1
theorem g_bast (hc : Cx p s m args meth c E A own cc nL ret) {cA : ClassId} {n a : Nat} {f : Nat → Int32} {x v : Int32} (hD : va_D A ws) (q0 t0 : Nat) (ha : ws[q0]? = some (a, .inl (cA, n, .inl f))) (ht : (tyl E.2.2.1)[t0]? = some (cA, .byte)) (i : Nat) (hx : x = nI i) (hi : i < n) (hn : n < 2 ^ 31) (hw : ws.set q0 (a, .inl (cA, n, .inl (upd f i (vp_nar .byte v)))) = ws') (hd : decode cc pc = .ok (.bastore, 1)) (k : G p l e R s m args below meth c cells slots Q E A nL ws' (pc + 1) lv (st)) : G p l e R s m args below meth c cells slots Q E A nL ws (pc) lv (.int v :: .int x :: .ref a :: st) := by
  subst hx
  refine fun H locs ls h1 h2 h3 => va_bast hc.1.1 hc.1.2.1 hc.2.1 h1 hD h2 q0 t0 ha ht (vp_in_nI hi hn) hd (fun H1 locs1 a1 _ a3 => k H1 locs1 ls ?_ a3 h3)
  rw [nI_clamp (Nat.lt_trans hi hn), hw] at a1
  exact a1
theorem g_zast (hc : Cx p s m args meth c E A own cc nL ret) {cA : ClassId} {n a : Nat} {f : Nat → Int32} {x v : Int32} (hD : va_D A ws) (q0 t0 : Nat) (ha : ws[q0]? = some (a, .inl (cA, n, .inl f))) (ht : (tyl E.2.2.1)[t0]? = some (cA, .boolean)) (i : Nat) (hx : x = nI i) (hi : i < n) (hn : n < 2 ^ 31) (hw : ws.set q0 (a, .inl (cA, n, .inl (upd f i (vp_nar .boolean v)))) = ws') (hd : decode cc pc = .ok (.bastore, 1)) (k : G p l e R s m args below meth c cells slots Q E A nL ws' (pc + 1) lv (st)) : G p l e R s m args below meth c cells slots Q E A nL ws (pc) lv (.int v :: .int x :: .ref a :: st) := by
  subst hx
  refine fun H locs ls h1 h2 h3 => va_zast hc.1.1 hc.1.2.1 hc.2.1 h1 hD h2 q0 t0 ha ht (vp_in_nI hi hn) hd (fun H1 locs1 a1 _ a3 => k H1 locs1 ls ?_ a3 h3)
  rw [nI_clamp (Nat.lt_trans hi hn), hw] at a1
  exact a1
theorem g_sast (hc : Cx p s m args meth c E A own cc nL ret) {cA : ClassId} {n a : Nat} {f : Nat → Int32} {x v : Int32} (hD : va_D A ws) (q0 t0 : Nat) (ha : ws[q0]? = some (a, .inl (cA, n, .inl f))) (ht : (tyl E.2.2.1)[t0]? = some (cA, .short)) (i : Nat) (hx : x = nI i) (hi : i < n) (hn : n < 2 ^ 31) (hw : ws.set q0 (a, .inl (cA, n, .inl (upd f i (vp_nar .short v)))) = ws') (hd : decode cc pc = .ok (.sastore, 1)) (k : G p l e R s m args below meth c cells slots Q E A nL ws' (pc + 1) lv (st)) : G p l e R s m args below meth c cells slots Q E A nL ws (pc) lv (.int v :: .int x :: .ref a :: st) := by
  subst hx
  refine fun H locs ls h1 h2 h3 => va_sast hc.1.1 hc.1.2.1 hc.2.1 h1 hD h2 q0 t0 ha ht (vp_in_nI hi hn) hd (fun H1 locs1 a1 _ a3 => k H1 locs1 ls ?_ a3 h3)
  rw [nI_clamp (Nat.lt_trans hi hn), hw] at a1
  exact a1
theorem g_last (hc : Cx p s m args meth c E A own cc nL ret) {cA : ClassId} {n a : Nat} {f : Nat → Int64} {x : Int32} {v : Int64} (hD : va_D A ws) (q0 t0 : Nat) (ha : ws[q0]? = some (a, .inl (cA, n, .inr (.inl f)))) (ht : (tyl E.2.2.1)[t0]? = some (cA, .long)) (i : Nat) (hx : x = nI i) (hi : i < n) (hn : n < 2 ^ 31) (hw : ws.set q0 (a, .inl (cA, n, .inr (.inl (vp_updL f i v)))) = ws') (hd : decode cc pc = .ok (.lastore, 1)) (k : G p l e R s m args below meth c cells slots Q E A nL ws' (pc + 1) lv (st)) : G p l e R s m args below meth c cells slots Q E A nL ws (pc) lv (.long v :: .int x :: .ref a :: st) := by
  subst hx
  refine fun H locs ls h1 h2 h3 => va_last hc.1.1 hc.1.2.1 hc.2.1 h1 hD h2 q0 t0 ha ht (vp_in_nI hi hn) hd (fun H1 locs1 a1 _ a3 => k H1 locs1 ls ?_ a3 h3)
  rw [nI_clamp (Nat.lt_trans hi hn), hw] at a1
  exact a1
theorem g_alen (hc : Cx p s m args meth c E A own cc nL ret) {cA : ClassId} {a : Nat} {x : vp_A} {ty : FieldType} {v : Int32} (q0 t0 : Nat) (ha : ws[q0]? = some (a, .inl (cA, x))) (ht : (tyl E.2.2.1)[t0]? = some (cA, ty)) (hv : Int32.ofNat x.1 = v) (hd : decode cc pc = .ok (.arraylength, 1)) (k : G p l e R s m args below meth c cells slots Q E A nL ws (pc + 1) lv (.int v :: st)) : G p l e R s m args below meth c cells slots Q E A nL ws (pc) lv (.ref a :: st) := fun H locs ls h1 h2 h3 => va_alen hc.1.1 hc.1.2.1 hc.2.1 h1 q0 t0 ha ht hv hd (k H locs ls h1 h2 h3)
theorem g_ldcS (hc : Cx p s m args meth c E A own cc nL ret) {index : Nat} {tx : String} (i : Nat) (hown : own = "SherdField$LeaveReader") (hq : strL[i]? = some (index, tx)) (hd : decode cc pc = .ok (.ldc index, 2)) (k : G p l e R s m args below meth c cells slots Q E A nL ws (pc + 2) lv (.ref (E.2.2.2 i) :: st)) : G p l e R s m args below meth c cells slots Q E A nL ws (pc) lv (st) := by
  subst hown
  exact fun H locs ls h1 h2 h3 => va_ldcS hc.1.1 hc.1.2.1 hc.1.2.2.2.1 (hc.2.2.2.2.2.2.1 i _ hq) hd (k H locs ls h1 h2 h3)
theorem g_eq {st' : List Value} (hw : ws = ws') (hl : lv = lv') (hs : st = st') (k : G p l e R s m args below meth c cells slots Q E A nL ws' (pc) lv' (st')) : G p l e R s m args below meth c cells slots Q E A nL ws (pc) lv (st) := by
  subst hw; subst hl; subst hs; exact k
theorem g_lv (ks : List Nat) (hl : lv_pick lv ks = lv') (k : G p l e R s m args below meth c cells slots Q E A nL ws (pc) lv' (st)) : G p l e R s m args below meth c cells slots Q E A nL ws (pc) lv (st) := fun H locs ls h1 h2 h3 => k H locs ls h1 h2 (lv_sub h3 ks hl)
end GR
section GE
variable {p : Program} {l : Launch} {e : Env} {R : Room} {s : State} {m : MethodId} {args : Array Value} {below : List Frame} {meth : Method} {c : Code} {cells slots : Nat}
variable {E : Ev} {A : Nat → Prop} {nL : Nat} {ws ws' : va_W} {pc : Nat} {lv lv' : List (Nat × Value)} {st : List Value} {own : String} {cc : ByteArray} {ret : Option FieldType} {y : MethodName} {rm : Room} {av : List Value} {v : Option Value}
theorem Ct.of (hy : plainName y.cls = true) (hlen : (lg_sl av).length ≤ nL) (hlv : lv_args 0 av = lv)
    (body : ∀ (p : Program) (e : Env) (s : State) (m : MethodId) (args : Array Value) (below : List Frame) (meth : Method) (c : Code), Cx p s m args meth c E A y.cls cc nL ret → G p l e rm s m args below meth c 0 0 (MQ below (Qz E A v ws') args s 0 0 A) E A nL ws (0) lv ([])) : Ct l E y (.code y cc nL ret) rm A ws av v ws' := by
  refine Met.ofW (cc := cc) (maxL := nL) (ret := ret) hy rfl ?_
  intro p e s m args below meth c s₁ B hml hv
  obtain ⟨rfl, hP, hK, hE⟩ := hv
  have hts := atoms_spec (ws := .code y cc nL ret :: gtb) B.pre
  have hown : s.vm.findClass y.cls = some m.cls := findClass_of_methodNamed B.named
  have hl := lv_entry av (n := nL) hlen
  rw [lg_entry_eq]
  exact body p e s m av.toArray below meth c ⟨⟨B.exec, B.bytes, hml, hown, fun w hw => hts w (List.mem_cons_of_mem _ hw)⟩, hK, B.returns, B.notSynchronized, hE⟩ s.heap [] _ hP va_S.rf (hlv ▸ hl)
theorem g_iret (hc : Cx p s m args meth c E A own cc nL (some .int)) {x : Int32} (hd : decode cc pc = .ok (.ireturn, 1)) (hv : v = some (.int x)) (hw : ws = ws') : G p l e R s m args below meth c cells slots (MQ below (Qz E A v ws') args s cells slots A) E A nL ws (pc) lv ([.int x]) := by
  subst hv; subst hw
  exact fun H locs ls h1 h2 h3 => W.iret hc.1.1 hc.1.2.1 hc.2.2.1 (fun t ht _ => ⟨rfl, by rw [ht]; exact h1, h2.F ht⟩) h2.2.2 hd hc.2.2.2.1
theorem g_zret {ty : FieldType} (hc : Cx p s m args meth c E A own cc nL (some ty)) {x : Int32} (hd : decode cc pc = .ok (.ireturn, 1)) (hn : narrow ty (.int x) = .int x) (hv : v = some (.int x)) (hw : ws = ws') : G p l e R s m args below meth c cells slots (MQ below (Qz E A v ws') args s cells slots A) E A nL ws (pc) lv ([.int x]) := by
  subst hv; subst hw
  exact fun H locs ls h1 h2 h3 => W.zret hc.1.1 hc.1.2.1 hc.2.2.1 hn (fun t ht _ => ⟨rfl, by rw [ht]; exact h1, h2.F ht⟩) h2.2.2 hd hc.2.2.2.1
theorem g_vret (hc : Cx p s m args meth c E A own cc nL (none)) (hd : decode cc pc = .ok (.return_, 1)) (hv : v = none) (hw : ws = ws') : G p l e R s m args below meth c cells slots (MQ below (Qz E A v ws') args s cells slots A) E A nL ws (pc) lv ([]) := by
  subst hv; subst hw
  exact fun H locs ls h1 h2 h3 => W.vret hc.1.1 hc.1.2.1 hc.2.2.1 (fun t ht _ => ⟨rfl, by rw [ht]; exact h1, h2.F ht⟩) h2.2.2 hd hc.2.2.2.1
theorem g_lret (hc : Cx p s m args meth c E A own cc nL (some .long)) {x : Int64} (hd : decode cc pc = .ok (.lreturn, 1)) (hv : v = some (.long x)) (hw : ws = ws') : G p l e R s m args below meth c cells slots (MQ below (Qz E A v ws') args s cells slots A) E A nL ws (pc) lv ([.long x]) := by
  subst hv; subst hw
  exact fun H locs ls h1 h2 h3 => W.lret hc.1.1 hc.1.2.1 hc.2.2.1 (fun t ht _ => ⟨rfl, by rw [ht]; exact h1, h2.F ht⟩) h2.2.2 hd hc.2.2.2.1
end GE
section GC
variable {p : Program} {l : Launch} {e : Env} {R : Room} {s : State} {m : MethodId} {args : Array Value} {below : List Frame} {meth : Method} {c : Code} {cells slots : Nat} {Q : State → Prop}
variable {E : Ev} {A : Nat → Prop} {nL : Nat} {ws ws' : va_W} {pc : Nat} {lv lv' : List (Nat × Value)} {st : List Value} {own : String} {cc : ByteArray} {ret : Option FieldType}
variable {y : MethodName} {bytes : ByteArray} {maxL n index : Nat} {ret' : Option FieldType} {rm : Room} {As av rest : List Value} {v : Option Value} {b : Nat} {C : String}
/-- what the tables say of a method that is called -/
def Mi (y : MethodName) (bytes : ByteArray) (maxL : Nat) (ret' : Option FieldType) (n : Nat) : Prop := Cond.code y bytes maxL ret' ∈ gtb ∧ Cond.initialized y.cls ∈ gtb ∧ (y.cls ≠ "java/lang/invoke/MethodHandle" ∧ y.cls ≠ "java/lang/invoke/VarHandle" ∧ (parseMethodDescriptor y.desc).map (fun d => d.parameters.length) = some n)
def MiV (y : MethodName) (bytes : ByteArray) (maxL : Nat) (ret' : Option FieldType) (n : Nat) : Prop := Mi y bytes maxL ret' n ∧ Cond.instanceMethod y ∈ gtb ∧ Cond.selects y.cls y y ∈ gtb
def MiS (y : MethodName) (bytes : ByteArray) (maxL : Nat) (ret' : Option FieldType) (n : Nat) : Prop := Mi y bytes maxL ret' n ∧ Cond.static y ∈ gtb
theorem pz_blind : FrameBlind (Pz E A av ws) := fun a U g mk q => ⟨q.1, q.2.1, va_K.moved (u := U) (U := U.calling g mk a) (Vm.Alike.refl U.vm) q.2.2.1, q.2.2.2.blind⟩
theorem w_run {H : Heap} {locs : List Loc} {ls : Array Slot} {st0 : List Value} {a : Array Value} (hr : va_Run p l e R s m args below meth c H locs cells slots 0 0 (F0 m pc ls st0) rest (Qz E A v ws' a) A) (hS : va_S A s.heap H locs)
    (kk : ∀ (H1 : Heap) (locs1 : List Loc), va_P (dG E) vwCl ws' H1 → va_S A s.heap H1 locs1 → W p l e R s m args below meth c H1 locs1 cells slots Q (F0 m (pc + 3) ls (v.toList ++ rest))) : W p l e R s m args below meth c H locs cells slots Q (F0 m pc ls st0) := by
  intro T hT X
  obtain ⟨v', st₀, t, T', L, h0, X', hL, e1, e2, ⟨hv, hp, hz, hk⟩, st⟩ := hr T hT X
  cases hv
  rw [h0] at hz hk
  obtain ⟨t2, a1, b1⟩ := kk T'.heap (locs ++ L) (by rw [e1]; exact hp) ⟨Nat.le_trans hS.1 (by rw [e1]; exact hz), fun q h1 h2 => by rw [e1, hk q (Nat.lt_of_lt_of_le h1 hS.1) h2]; exact hS.2.1 q h1 h2, fun q hq => by
      rcases List.mem_append.mp hq with h | h
      · exact hS.2.2 q h
      · exact hL q h⟩ T' rfl X'
  exact ⟨t2, st t2 a1, b1⟩
theorem callb {st0 : List Value} (hc : Cx p s m args meth c E A own cc nL ret) (hi : Mi y bytes maxL ret' n) (hl : Cond.methodLink own index y ∈ gtb) (hR : rm.cells = 0 ∧ rm.slots = 0 ∧ rm.frames + 1 ≤ R.frames ∧ 8 + (maxL + 11) + rm.locals ≤ R.locals) : CallB R s args own index y bytes maxL ret' (.code y bytes maxL ret' :: gtb) rm 0 0 n :=
  callB_of n hc.1.2.2.2.2 (gtb_good (fun _ h => h) hi.1) rfl hR.1 hR.2.1 (hc.1.2.2.2.2 _ hi.2.1) (hc.1.2.2.2.2 _ hl) hi.2.2 ⟨hR.2.2.1, hR.2.2.2⟩
theorem g_callV {st0 : List Value} {ci : Nat} {fs : List Value} {T : u_T} {N : Nat} (hc : Cx p s m args meth c E A own cc nL ret) (hM : Ct l E y (.code y bytes maxL ret') rm A ws (.ref b :: As) v ws') (hi : MiV y bytes maxL ret' n) (hl : Cond.methodLink own index y ∈ gtb) (q0 : Nat) (he : ws[q0]? = some (b, .inr (ci, fs))) (hcl : vwCl[ci]? = some (C, T, N)) (hC : y.cls = C) (hn : As.length = n) (hR : rm.cells = 0 ∧ rm.slots = 0 ∧ rm.frames + 1 ≤ R.frames ∧ 8 + (maxL + 11) + rm.locals ≤ R.locals) (hW : (rest.map fun v => v.category).sum ≤ 8) (hcs : cells ≤ R.cells ∧ slots ≤ R.slots) (hst : st0 = As.reverse ++ .ref b :: rest) (hd : decode cc pc = .ok (.invokevirtual index, 3)) (k : G p l e R s m args below meth c cells slots Q E A nL ws' (pc + 3) lv (v.toList ++ rest)) : G p l e R s m args below meth c cells slots Q E A nL ws (pc) lv (st0) := by
  subst hC; subst hst
  intro H locs ls h1 h2 h3
  exact w_run (rest := rest) (va_runV (As := As) (rest := rest) (b := b) (C := y.cls) hc.1 hM ⟨callb (st0 := []) hc hi.1 hl hR, hc.1.2.2.2.2 _ hi.2.1, hc.1.2.2.2.2 _ hi.2.2⟩ ⟨pz_blind, va_recv hc.2.1 h1 (q0 := q0) hcl he, fun U hU hW => ⟨rfl, by rw [hU]; exact h1, va_K.moved hW.alike hc.2.1, hc.2.2.2.2.at h2 hU hW⟩⟩ rfl hn h3.1 rfl (lv_room hW) hd hcs) h2 (fun H1 locs1 a1 a2 => k H1 locs1 ls a1 a2 h3)
theorem g_callS {st0 : List Value} (hc : Cx p s m args meth c E A own cc nL ret) (hM : Ct l E y (.code y bytes maxL ret') rm A ws As v ws') (hi : MiS y bytes maxL ret' n) (hl : Cond.methodLink own index y ∈ gtb) (hn : As.length = n) (hR : rm.cells = 0 ∧ rm.slots = 0 ∧ rm.frames + 1 ≤ R.frames ∧ 8 + (maxL + 11) + rm.locals ≤ R.locals) (hW : (rest.map fun v => v.category).sum ≤ 8) (hcs : cells ≤ R.cells ∧ slots ≤ R.slots) (hst : st0 = As.reverse ++ rest) (hd : decode cc pc = .ok (.invokestatic index, 3)) (k : G p l e R s m args below meth c cells slots Q E A nL ws' (pc + 3) lv (v.toList ++ rest)) : G p l e R s m args below meth c cells slots Q E A nL ws (pc) lv (st0) := by
  subst hst
  intro H locs ls h1 h2 h3
  exact w_run (rest := rest) (va_runS (As := As) (rest := rest) hc.1 hM ⟨callb (st0 := []) hc hi.1 hl hR, hc.1.2.2.2.2 _ hi.2⟩ ⟨pz_blind, fun U hU hW => ⟨rfl, by rw [hU]; exact h1, va_K.moved hW.alike hc.2.1, hc.2.2.2.2.at h2 hU hW⟩⟩ rfl hn h3.1 rfl (lv_room hW) hd hcs) h2 (fun H1 locs1 a1 a2 => k H1 locs1 ls a1 a2 h3)
theorem g_callSN {st0 : List Value} {host : String} (hc : Cx p s m args meth c E A own cc nL ret) (hM : Ct l E y (.code y bytes maxL ret') rm A ws As v ws') (hi : MiS y bytes maxL ret' n) (hl : (own, index, y, host) ∈ nst) (hn : As.length = n) (hR : rm.cells = 0 ∧ rm.slots = 0 ∧ rm.frames + 1 ≤ R.frames ∧ 8 + (maxL + 11) + rm.locals ≤ R.locals) (hW : (rest.map fun v => v.category).sum ≤ 8) (hcs : cells ≤ R.cells ∧ slots ≤ R.slots) (hst : st0 = As.reverse ++ rest) (hd : decode cc pc = .ok (.invokestatic index, 3)) (k : G p l e R s m args below meth c cells slots Q E A nL ws' (pc + 3) lv (v.toList ++ rest)) : G p l e R s m args below meth c cells slots Q E A nL ws (pc) lv (st0) := by
  subst hst
  intro H locs ls h1 h2 h3
  exact w_run (rest := rest) (va_runSN (host := host) (As := As) (rest := rest) hc.1 hM ⟨⟨⟨hR.1, hR.2.1, hR.2.2.1, hR.2.2.2, pay_in hc.1.2.2.2.2 (gtb_good (fun _ h => h) hi.1.1), List.mem_cons_self⟩, hc.1.2.2.2.2 _ hi.1.1, hc.1.2.2.2.2 _ hi.1.2.1, ⟨hi.1.2.2.1, hi.1.2.2.2.1⟩, fun sig h => by have h2 := hi.1.2.2.2.2; rw [h] at h2; exact (Option.some.inj h2).symm, va_Nw.use rfl (hc.2.2.2.2.1 _ hl)⟩, hc.1.2.2.2.2 _ hi.2, trivial⟩ ⟨pz_blind, fun U hU hW => ⟨rfl, by rw [hU]; exact h1, va_K.moved hW.alike hc.2.1, hc.2.2.2.2.at h2 hU hW⟩⟩ rfl hn h3.1 rfl (lv_room hW) hd hcs) h2 (fun H1 locs1 a1 a2 => k H1 locs1 ls a1 a2 h3)
theorem g_callVN {st0 : List Value} {host : String} {ci : Nat} {fs : List Value} {T : u_T} {N : Nat} (hc : Cx p s m args meth c E A own cc nL ret) (hM : Ct l E y (.code y bytes maxL ret') rm A ws (.ref b :: As) v ws') (hi : MiV y bytes maxL ret' n) (hl : (own, index, y, host) ∈ nst) (q0 : Nat) (he : ws[q0]? = some (b, .inr (ci, fs))) (hcl : vwCl[ci]? = some (C, T, N)) (hC : y.cls = C) (hn : As.length = n) (hR : rm.cells = 0 ∧ rm.slots = 0 ∧ rm.frames + 1 ≤ R.frames ∧ 8 + (maxL + 11) + rm.locals ≤ R.locals) (hW : (rest.map fun v => v.category).sum ≤ 8) (hcs : cells ≤ R.cells ∧ slots ≤ R.slots) (hst : st0 = As.reverse ++ .ref b :: rest) (hd : decode cc pc = .ok (.invokevirtual index, 3)) (k : G p l e R s m args below meth c cells slots Q E A nL ws' (pc + 3) lv (v.toList ++ rest)) : G p l e R s m args below meth c cells slots Q E A nL ws (pc) lv (st0) := by
  subst hC; subst hst
  intro H locs ls h1 h2 h3
  exact w_run (rest := rest) (va_runVN (host := host) (As := As) (rest := rest) (b := b) (C := y.cls) hc.1 hM ⟨⟨⟨hR.1, hR.2.1, hR.2.2.1, hR.2.2.2, pay_in hc.1.2.2.2.2 (gtb_good (fun _ h => h) hi.1.1), List.mem_cons_self⟩, hc.1.2.2.2.2 _ hi.1.1, hc.1.2.2.2.2 _ hi.1.2.1, ⟨hi.1.2.2.1, hi.1.2.2.2.1⟩, fun sig h => by have h2 := hi.1.2.2.2.2; rw [h] at h2; exact (Option.some.inj h2).symm, va_Nw.use rfl (hc.2.2.2.2.1 _ hl)⟩, hc.1.2.2.2.2 _ hi.2.1, hc.1.2.2.2.2 _ hi.2.2⟩ ⟨pz_blind, va_recv hc.2.1 h1 (q0 := q0) hcl he, fun U hU hW => ⟨rfl, by rw [hU]; exact h1, va_K.moved hW.alike hc.2.1, hc.2.2.2.2.at h2 hU hW⟩⟩ rfl hn h3.1 rfl (lv_room hW) hd hcs) h2 (fun H1 locs1 a1 a2 => k H1 locs1 ls a1 a2 h3)
end GC
end
