section
-- ===== PART A: goes FIRST, ahead of the names: the tables' words, and 'selects' of the private methods out of them =====
/-- a private method of a class that the tables say can be made, by its rows of tables_1 -/
def lw_okq (q : MethodName × Nat) : Prop := (q.1.cls ≠ "java/lang/invoke/MethodHandle" ∧ q.1.cls ≠ "java/lang/invoke/VarHandle") ∧ Cond.instantiable q.1.cls q.2 ∈ tables_1 ∧ Cond.privateMethod q.1 ∈ tables_1 ∧ Cond.instanceMethod q.1 ∈ tables_1
theorem lw_p0 : lw_okq (⟨"SherdField$Leaves", "covers", "(III)Z"⟩, 7) := ⟨⟨by decide +kernel, by decide +kernel⟩, List.mem_of_getElem? (i := 141) (by decide +kernel), List.mem_of_getElem? (i := 374) (by decide +kernel), List.mem_of_getElem? (i := 375) (by decide +kernel)⟩
theorem lw_p1 : lw_okq (⟨"SherdField", "tellerAt", "(I)I"⟩, 15) := ⟨⟨by decide +kernel, by decide +kernel⟩, List.mem_of_getElem? (i := 23) (by decide +kernel), List.mem_of_getElem? (i := 484) (by decide +kernel), List.mem_of_getElem? (i := 485) (by decide +kernel)⟩
theorem lw_p2 : lw_okq (⟨"SherdField$Eyes", "walksBeside", "(II)I"⟩, 2) := ⟨⟨by decide +kernel, by decide +kernel⟩, List.mem_of_getElem? (i := 184) (by decide +kernel), List.mem_of_getElem? (i := 522) (by decide +kernel), List.mem_of_getElem? (i := 523) (by decide +kernel)⟩
theorem lw_p3 : lw_okq (⟨"SherdField$Eyes", "arePair", "(II)Z"⟩, 2) := ⟨⟨by decide +kernel, by decide +kernel⟩, List.mem_of_getElem? (i := 184) (by decide +kernel), List.mem_of_getElem? (i := 526) (by decide +kernel), List.mem_of_getElem? (i := 527) (by decide +kernel)⟩
theorem lw_p4 : lw_okq (⟨"SherdField$Eyes", "seenIn", "(I)I"⟩, 2) := ⟨⟨by decide +kernel, by decide +kernel⟩, List.mem_of_getElem? (i := 184) (by decide +kernel), List.mem_of_getElem? (i := 535) (by decide +kernel), List.mem_of_getElem? (i := 536) (by decide +kernel)⟩
theorem lw_p5 : lw_okq (⟨"SherdField$Heaps", "weighed", "(III)I"⟩, 6) := ⟨⟨by decide +kernel, by decide +kernel⟩, List.mem_of_getElem? (i := 197) (by decide +kernel), List.mem_of_getElem? (i := 591) (by decide +kernel), List.mem_of_getElem? (i := 592) (by decide +kernel)⟩
theorem lw_p6 : lw_okq (⟨"SherdField$Heaps", "gatherWalked", "()I"⟩, 6) := ⟨⟨by decide +kernel, by decide +kernel⟩, List.mem_of_getElem? (i := 197) (by decide +kernel), List.mem_of_getElem? (i := 638) (by decide +kernel), List.mem_of_getElem? (i := 639) (by decide +kernel)⟩
theorem lw_p7 : lw_okq (⟨"SherdField$Heaps", "shuffle", "(II)I"⟩, 6) := ⟨⟨by decide +kernel, by decide +kernel⟩, List.mem_of_getElem? (i := 197) (by decide +kernel), List.mem_of_getElem? (i := 642) (by decide +kernel), List.mem_of_getElem? (i := 643) (by decide +kernel)⟩
theorem lw_p8 : lw_okq (⟨"SherdField$Ground", "ploughOnce", "()V"⟩, 5) := ⟨⟨by decide +kernel, by decide +kernel⟩, List.mem_of_getElem? (i := 31) (by decide +kernel), List.mem_of_getElem? (i := 684) (by decide +kernel), List.mem_of_getElem? (i := 685) (by decide +kernel)⟩
theorem lw_p9 : lw_okq (⟨"SherdField$Ground", "spreadFrom", "(I)V"⟩, 5) := ⟨⟨by decide +kernel, by decide +kernel⟩, List.mem_of_getElem? (i := 31) (by decide +kernel), List.mem_of_getElem? (i := 689) (by decide +kernel), List.mem_of_getElem? (i := 690) (by decide +kernel)⟩
theorem lw_p10 : lw_okq (⟨"SherdField", "countedOf", "(I)I"⟩, 15) := ⟨⟨by decide +kernel, by decide +kernel⟩, List.mem_of_getElem? (i := 23) (by decide +kernel), List.mem_of_getElem? (i := 709) (by decide +kernel), List.mem_of_getElem? (i := 710) (by decide +kernel)⟩
theorem lw_p11 : lw_okq (⟨"SherdField$Periods", "seekBest", "()V"⟩, 3) := ⟨⟨by decide +kernel, by decide +kernel⟩, List.mem_of_getElem? (i := 111) (by decide +kernel), List.mem_of_getElem? (i := 722) (by decide +kernel), List.mem_of_getElem? (i := 723) (by decide +kernel)⟩
theorem lw_p12 : lw_okq (⟨"SherdField$Periods", "misfit", "(III)J"⟩, 3) := ⟨⟨by decide +kernel, by decide +kernel⟩, List.mem_of_getElem? (i := 111) (by decide +kernel), List.mem_of_getElem? (i := 727) (by decide +kernel), List.mem_of_getElem? (i := 728) (by decide +kernel)⟩
theorem lw_p13 : lw_okq (⟨"SherdField$LeaveReader", "goOn", "()V"⟩, 9) := ⟨⟨by decide +kernel, by decide +kernel⟩, List.mem_of_getElem? (i := 222) (by decide +kernel), List.mem_of_getElem? (i := 763) (by decide +kernel), List.mem_of_getElem? (i := 764) (by decide +kernel)⟩
theorem lw_p14 : lw_okq (⟨"SherdField$LeaveReader", "readRows", "()V"⟩, 9) := ⟨⟨by decide +kernel, by decide +kernel⟩, List.mem_of_getElem? (i := 222) (by decide +kernel), List.mem_of_getElem? (i := 772) (by decide +kernel), List.mem_of_getElem? (i := 773) (by decide +kernel)⟩
theorem lw_p15 : lw_okq (⟨"SherdField$LeaveReader", "expect", "(Ljava/lang/String;)V"⟩, 9) := ⟨⟨by decide +kernel, by decide +kernel⟩, List.mem_of_getElem? (i := 222) (by decide +kernel), List.mem_of_getElem? (i := 777) (by decide +kernel), List.mem_of_getElem? (i := 778) (by decide +kernel)⟩
def lw_privs_1 : List (MethodName × Nat) := [(⟨"SherdField$Leaves", "covers", "(III)Z"⟩, 7), (⟨"SherdField", "tellerAt", "(I)I"⟩, 15), (⟨"SherdField$Eyes", "walksBeside", "(II)I"⟩, 2), (⟨"SherdField$Eyes", "arePair", "(II)Z"⟩, 2), (⟨"SherdField$Eyes", "seenIn", "(I)I"⟩, 2), (⟨"SherdField$Heaps", "weighed", "(III)I"⟩, 6), (⟨"SherdField$Heaps", "gatherWalked", "()I"⟩, 6), (⟨"SherdField$Heaps", "shuffle", "(II)I"⟩, 6), (⟨"SherdField$Ground", "ploughOnce", "()V"⟩, 5), (⟨"SherdField$Ground", "spreadFrom", "(I)V"⟩, 5), (⟨"SherdField", "countedOf", "(I)I"⟩, 15), (⟨"SherdField$Periods", "seekBest", "()V"⟩, 3), (⟨"SherdField$Periods", "misfit", "(III)J"⟩, 3), (⟨"SherdField$LeaveReader", "goOn", "()V"⟩, 9), (⟨"SherdField$LeaveReader", "readRows", "()V"⟩, 9), (⟨"SherdField$LeaveReader", "expect", "(Ljava/lang/String;)V"⟩, 9)]
theorem lw_r1 : ∀ q ∈ lw_privs_1, lw_okq q := List.forall_mem_cons.mpr ⟨lw_p0, List.forall_mem_cons.mpr ⟨lw_p1, List.forall_mem_cons.mpr ⟨lw_p2, List.forall_mem_cons.mpr ⟨lw_p3, List.forall_mem_cons.mpr ⟨lw_p4, List.forall_mem_cons.mpr ⟨lw_p5, List.forall_mem_cons.mpr ⟨lw_p6, List.forall_mem_cons.mpr ⟨lw_p7, List.forall_mem_cons.mpr ⟨lw_p8, List.forall_mem_cons.mpr ⟨lw_p9, List.forall_mem_cons.mpr ⟨lw_p10, List.forall_mem_cons.mpr ⟨lw_p11, List.forall_mem_cons.mpr ⟨lw_p12, List.forall_mem_cons.mpr ⟨lw_p13, List.forall_mem_cons.mpr ⟨lw_p14, List.forall_mem_cons.mpr ⟨lw_p15, fun _ h => absurd h List.not_mem_nil⟩⟩⟩⟩⟩⟩⟩⟩⟩⟩⟩⟩⟩⟩⟩⟩
theorem lw_p16 : lw_okq (⟨"SherdField$LeaveReader", "isSound", "()Z"⟩, 9) := ⟨⟨by decide +kernel, by decide +kernel⟩, List.mem_of_getElem? (i := 222) (by decide +kernel), List.mem_of_getElem? (i := 781) (by decide +kernel), List.mem_of_getElem? (i := 782) (by decide +kernel)⟩
theorem lw_p17 : lw_okq (⟨"SherdField$LeaveReader", "isAt", "(Ljava/lang/String;)Z"⟩, 9) := ⟨⟨by decide +kernel, by decide +kernel⟩, List.mem_of_getElem? (i := 222) (by decide +kernel), List.mem_of_getElem? (i := 785) (by decide +kernel), List.mem_of_getElem? (i := 786) (by decide +kernel)⟩
theorem lw_p18 : lw_okq (⟨"SherdField$LeaveReader", "tellFault", "()V"⟩, 9) := ⟨⟨by decide +kernel, by decide +kernel⟩, List.mem_of_getElem? (i := 222) (by decide +kernel), List.mem_of_getElem? (i := 837) (by decide +kernel), List.mem_of_getElem? (i := 838) (by decide +kernel)⟩
theorem lw_p19 : lw_okq (⟨"SherdField$LeaveReader", "expectNumber", "(II)I"⟩, 9) := ⟨⟨by decide +kernel, by decide +kernel⟩, List.mem_of_getElem? (i := 222) (by decide +kernel), List.mem_of_getElem? (i := 841) (by decide +kernel), List.mem_of_getElem? (i := 842) (by decide +kernel)⟩
theorem lw_p20 : lw_okq (⟨"SherdField$LeaveReader", "valueAtHand", "()I"⟩, 9) := ⟨⟨by decide +kernel, by decide +kernel⟩, List.mem_of_getElem? (i := 222) (by decide +kernel), List.mem_of_getElem? (i := 845) (by decide +kernel), List.mem_of_getElem? (i := 846) (by decide +kernel)⟩
theorem lw_p21 : lw_okq (⟨"SherdField$LeaveReader", "readDays", "()V"⟩, 9) := ⟨⟨by decide +kernel, by decide +kernel⟩, List.mem_of_getElem? (i := 222) (by decide +kernel), List.mem_of_getElem? (i := 852) (by decide +kernel), List.mem_of_getElem? (i := 853) (by decide +kernel)⟩
theorem lw_p22 : lw_okq (⟨"SherdField$LeaveReader", "readBarred", "()V"⟩, 9) := ⟨⟨by decide +kernel, by decide +kernel⟩, List.mem_of_getElem? (i := 222) (by decide +kernel), List.mem_of_getElem? (i := 857) (by decide +kernel), List.mem_of_getElem? (i := 858) (by decide +kernel)⟩
theorem lw_p23 : lw_okq (⟨"SherdField", "sheetNumbered", "(I)LSherdField$Sheet;"⟩, 15) := ⟨⟨by decide +kernel, by decide +kernel⟩, List.mem_of_getElem? (i := 23) (by decide +kernel), List.mem_of_getElem? (i := 924) (by decide +kernel), List.mem_of_getElem? (i := 925) (by decide +kernel)⟩
theorem lw_p24 : lw_okq (⟨"SherdField", "gaps", "()I"⟩, 15) := ⟨⟨by decide +kernel, by decide +kernel⟩, List.mem_of_getElem? (i := 23) (by decide +kernel), List.mem_of_getElem? (i := 977) (by decide +kernel), List.mem_of_getElem? (i := 978) (by decide +kernel)⟩
theorem lw_p25 : lw_okq (⟨"SherdFieldModel", "paces", "()I"⟩, 43) := ⟨⟨by decide +kernel, by decide +kernel⟩, List.mem_of_getElem? (i := 996) (by decide +kernel), List.mem_of_getElem? (i := 1141) (by decide +kernel), List.mem_of_getElem? (i := 1142) (by decide +kernel)⟩
theorem lw_p26 : lw_okq (⟨"SherdFieldModel", "isRow", "(I)Z"⟩, 43) := ⟨⟨by decide +kernel, by decide +kernel⟩, List.mem_of_getElem? (i := 996) (by decide +kernel), List.mem_of_getElem? (i := 1163) (by decide +kernel), List.mem_of_getElem? (i := 1164) (by decide +kernel)⟩
theorem lw_p27 : lw_okq (⟨"SherdFieldModel", "letBy", "(III)I"⟩, 43) := ⟨⟨by decide +kernel, by decide +kernel⟩, List.mem_of_getElem? (i := 996) (by decide +kernel), List.mem_of_getElem? (i := 1167) (by decide +kernel), List.mem_of_getElem? (i := 1168) (by decide +kernel)⟩
theorem lw_p28 : lw_okq (⟨"SherdFieldModel", "isLet", "(IIII)Z"⟩, 43) := ⟨⟨by decide +kernel, by decide +kernel⟩, List.mem_of_getElem? (i := 996) (by decide +kernel), List.mem_of_getElem? (i := 1171) (by decide +kernel), List.mem_of_getElem? (i := 1172) (by decide +kernel)⟩
theorem lw_p29 : lw_okq (⟨"SherdFieldModel", "isWalk", "(I)Z"⟩, 43) := ⟨⟨by decide +kernel, by decide +kernel⟩, List.mem_of_getElem? (i := 996) (by decide +kernel), List.mem_of_getElem? (i := 1182) (by decide +kernel), List.mem_of_getElem? (i := 1183) (by decide +kernel)⟩
theorem lw_p30 : lw_okq (⟨"SherdFieldModel", "isPace", "(I)Z"⟩, 43) := ⟨⟨by decide +kernel, by decide +kernel⟩, List.mem_of_getElem? (i := 996) (by decide +kernel), List.mem_of_getElem? (i := 1186) (by decide +kernel), List.mem_of_getElem? (i := 1187) (by decide +kernel)⟩
theorem lw_p31 : lw_okq (⟨"SherdFieldModel", "found", "(IZ)I"⟩, 43) := ⟨⟨by decide +kernel, by decide +kernel⟩, List.mem_of_getElem? (i := 996) (by decide +kernel), List.mem_of_getElem? (i := 1194) (by decide +kernel), List.mem_of_getElem? (i := 1195) (by decide +kernel)⟩
def lw_privs_2 : List (MethodName × Nat) := [(⟨"SherdField$LeaveReader", "isSound", "()Z"⟩, 9), (⟨"SherdField$LeaveReader", "isAt", "(Ljava/lang/String;)Z"⟩, 9), (⟨"SherdField$LeaveReader", "tellFault", "()V"⟩, 9), (⟨"SherdField$LeaveReader", "expectNumber", "(II)I"⟩, 9), (⟨"SherdField$LeaveReader", "valueAtHand", "()I"⟩, 9), (⟨"SherdField$LeaveReader", "readDays", "()V"⟩, 9), (⟨"SherdField$LeaveReader", "readBarred", "()V"⟩, 9), (⟨"SherdField", "sheetNumbered", "(I)LSherdField$Sheet;"⟩, 15), (⟨"SherdField", "gaps", "()I"⟩, 15), (⟨"SherdFieldModel", "paces", "()I"⟩, 43), (⟨"SherdFieldModel", "isRow", "(I)Z"⟩, 43), (⟨"SherdFieldModel", "letBy", "(III)I"⟩, 43), (⟨"SherdFieldModel", "isLet", "(IIII)Z"⟩, 43), (⟨"SherdFieldModel", "isWalk", "(I)Z"⟩, 43), (⟨"SherdFieldModel", "isPace", "(I)Z"⟩, 43), (⟨"SherdFieldModel", "found", "(IZ)I"⟩, 43)]
theorem lw_r2 : ∀ q ∈ lw_privs_2, lw_okq q := List.forall_mem_cons.mpr ⟨lw_p16, List.forall_mem_cons.mpr ⟨lw_p17, List.forall_mem_cons.mpr ⟨lw_p18, List.forall_mem_cons.mpr ⟨lw_p19, List.forall_mem_cons.mpr ⟨lw_p20, List.forall_mem_cons.mpr ⟨lw_p21, List.forall_mem_cons.mpr ⟨lw_p22, List.forall_mem_cons.mpr ⟨lw_p23, List.forall_mem_cons.mpr ⟨lw_p24, List.forall_mem_cons.mpr ⟨lw_p25, List.forall_mem_cons.mpr ⟨lw_p26, List.forall_mem_cons.mpr ⟨lw_p27, List.forall_mem_cons.mpr ⟨lw_p28, List.forall_mem_cons.mpr ⟨lw_p29, List.forall_mem_cons.mpr ⟨lw_p30, List.forall_mem_cons.mpr ⟨lw_p31, fun _ h => absurd h List.not_mem_nil⟩⟩⟩⟩⟩⟩⟩⟩⟩⟩⟩⟩⟩⟩⟩⟩
theorem lw_p32 : lw_okq (⟨"SherdFieldModel", "walkOf", "(I)I"⟩, 43) := ⟨⟨by decide +kernel, by decide +kernel⟩, List.mem_of_getElem? (i := 996) (by decide +kernel), List.mem_of_getElem? (i := 1198) (by decide +kernel), List.mem_of_getElem? (i := 1199) (by decide +kernel)⟩
theorem lw_p33 : lw_okq (⟨"SherdFieldModel", "at", "(III)I"⟩, 43) := ⟨⟨by decide +kernel, by decide +kernel⟩, List.mem_of_getElem? (i := 996) (by decide +kernel), List.mem_of_getElem? (i := 1210) (by decide +kernel), List.mem_of_getElem? (i := 1211) (by decide +kernel)⟩
theorem lw_p34 : lw_okq (⟨"SherdFieldModel", "eyeOf", "(I)I"⟩, 43) := ⟨⟨by decide +kernel, by decide +kernel⟩, List.mem_of_getElem? (i := 996) (by decide +kernel), List.mem_of_getElem? (i := 1230) (by decide +kernel), List.mem_of_getElem? (i := 1231) (by decide +kernel)⟩
theorem lw_p35 : lw_okq (⟨"SherdFieldModel", "look", "()V"⟩, 43) := ⟨⟨by decide +kernel, by decide +kernel⟩, List.mem_of_getElem? (i := 996) (by decide +kernel), List.mem_of_getElem? (i := 1238) (by decide +kernel), List.mem_of_getElem? (i := 1239) (by decide +kernel)⟩
theorem lw_p36 : lw_okq (⟨"SherdFieldModel", "correctedAt", "(II)I"⟩, 43) := ⟨⟨by decide +kernel, by decide +kernel⟩, List.mem_of_getElem? (i := 996) (by decide +kernel), List.mem_of_getElem? (i := 1242) (by decide +kernel), List.mem_of_getElem? (i := 1243) (by decide +kernel)⟩
theorem lw_p37 : lw_okq (⟨"SherdFieldModel", "weigh", "()V"⟩, 43) := ⟨⟨by decide +kernel, by decide +kernel⟩, List.mem_of_getElem? (i := 996) (by decide +kernel), List.mem_of_getElem? (i := 1250) (by decide +kernel), List.mem_of_getElem? (i := 1251) (by decide +kernel)⟩
theorem lw_p38 : lw_okq (⟨"SherdFieldModel", "ring", "(I)I"⟩, 43) := ⟨⟨by decide +kernel, by decide +kernel⟩, List.mem_of_getElem? (i := 996) (by decide +kernel), List.mem_of_getElem? (i := 1254) (by decide +kernel), List.mem_of_getElem? (i := 1255) (by decide +kernel)⟩
theorem lw_p39 : lw_okq (⟨"SherdFieldModel", "best", "()I"⟩, 43) := ⟨⟨by decide +kernel, by decide +kernel⟩, List.mem_of_getElem? (i := 996) (by decide +kernel), List.mem_of_getElem? (i := 1262) (by decide +kernel), List.mem_of_getElem? (i := 1263) (by decide +kernel)⟩
theorem lw_p40 : lw_okq (⟨"SherdFieldModel", "ploughOnce", "()V"⟩, 43) := ⟨⟨by decide +kernel, by decide +kernel⟩, List.mem_of_getElem? (i := 996) (by decide +kernel), List.mem_of_getElem? (i := 1284) (by decide +kernel), List.mem_of_getElem? (i := 1285) (by decide +kernel)⟩
theorem lw_p41 : lw_okq (⟨"SherdFieldModel", "besideMany", "(I)I"⟩, 43) := ⟨⟨by decide +kernel, by decide +kernel⟩, List.mem_of_getElem? (i := 996) (by decide +kernel), List.mem_of_getElem? (i := 1288) (by decide +kernel), List.mem_of_getElem? (i := 1289) (by decide +kernel)⟩
theorem lw_p42 : lw_okq (⟨"SherdFieldModel", "far", "(III)J"⟩, 43) := ⟨⟨by decide +kernel, by decide +kernel⟩, List.mem_of_getElem? (i := 996) (by decide +kernel), List.mem_of_getElem? (i := 1300) (by decide +kernel), List.mem_of_getElem? (i := 1301) (by decide +kernel)⟩
theorem lw_p43 : lw_okq (⟨"SherdFieldModel", "four", "(I)V"⟩, 43) := ⟨⟨by decide +kernel, by decide +kernel⟩, List.mem_of_getElem? (i := 996) (by decide +kernel), List.mem_of_getElem? (i := 1309) (by decide +kernel), List.mem_of_getElem? (i := 1310) (by decide +kernel)⟩
theorem lw_p44 : lw_okq (⟨"SherdFieldModel", "readLeave", "(I)I"⟩, 43) := ⟨⟨by decide +kernel, by decide +kernel⟩, List.mem_of_getElem? (i := 996) (by decide +kernel), List.mem_of_getElem? (i := 1321) (by decide +kernel), List.mem_of_getElem? (i := 1322) (by decide +kernel)⟩
theorem lw_p45 : lw_okq (⟨"SherdFieldModel", "next", "()V"⟩, 43) := ⟨⟨by decide +kernel, by decide +kernel⟩, List.mem_of_getElem? (i := 996) (by decide +kernel), List.mem_of_getElem? (i := 1325) (by decide +kernel), List.mem_of_getElem? (i := 1326) (by decide +kernel)⟩
theorem lw_p46 : lw_okq (⟨"SherdFieldModel", "isWord", "(IIII)Z"⟩, 43) := ⟨⟨by decide +kernel, by decide +kernel⟩, List.mem_of_getElem? (i := 996) (by decide +kernel), List.mem_of_getElem? (i := 1329) (by decide +kernel), List.mem_of_getElem? (i := 1330) (by decide +kernel)⟩
theorem lw_p47 : lw_okq (⟨"SherdFieldModel", "isSpan", "(I)Z"⟩, 43) := ⟨⟨by decide +kernel, by decide +kernel⟩, List.mem_of_getElem? (i := 996) (by decide +kernel), List.mem_of_getElem? (i := 1333) (by decide +kernel), List.mem_of_getElem? (i := 1334) (by decide +kernel)⟩
def lw_privs_3 : List (MethodName × Nat) := [(⟨"SherdFieldModel", "walkOf", "(I)I"⟩, 43), (⟨"SherdFieldModel", "at", "(III)I"⟩, 43), (⟨"SherdFieldModel", "eyeOf", "(I)I"⟩, 43), (⟨"SherdFieldModel", "look", "()V"⟩, 43), (⟨"SherdFieldModel", "correctedAt", "(II)I"⟩, 43), (⟨"SherdFieldModel", "weigh", "()V"⟩, 43), (⟨"SherdFieldModel", "ring", "(I)I"⟩, 43), (⟨"SherdFieldModel", "best", "()I"⟩, 43), (⟨"SherdFieldModel", "ploughOnce", "()V"⟩, 43), (⟨"SherdFieldModel", "besideMany", "(I)I"⟩, 43), (⟨"SherdFieldModel", "far", "(III)J"⟩, 43), (⟨"SherdFieldModel", "four", "(I)V"⟩, 43), (⟨"SherdFieldModel", "readLeave", "(I)I"⟩, 43), (⟨"SherdFieldModel", "next", "()V"⟩, 43), (⟨"SherdFieldModel", "isWord", "(IIII)Z"⟩, 43), (⟨"SherdFieldModel", "isSpan", "(I)Z"⟩, 43)]
theorem lw_r3 : ∀ q ∈ lw_privs_3, lw_okq q := List.forall_mem_cons.mpr ⟨lw_p32, List.forall_mem_cons.mpr ⟨lw_p33, List.forall_mem_cons.mpr ⟨lw_p34, List.forall_mem_cons.mpr ⟨lw_p35, List.forall_mem_cons.mpr ⟨lw_p36, List.forall_mem_cons.mpr ⟨lw_p37, List.forall_mem_cons.mpr ⟨lw_p38, List.forall_mem_cons.mpr ⟨lw_p39, List.forall_mem_cons.mpr ⟨lw_p40, List.forall_mem_cons.mpr ⟨lw_p41, List.forall_mem_cons.mpr ⟨lw_p42, List.forall_mem_cons.mpr ⟨lw_p43, List.forall_mem_cons.mpr ⟨lw_p44, List.forall_mem_cons.mpr ⟨lw_p45, List.forall_mem_cons.mpr ⟨lw_p46, List.forall_mem_cons.mpr ⟨lw_p47, fun _ h => absurd h List.not_mem_nil⟩⟩⟩⟩⟩⟩⟩⟩⟩⟩⟩⟩⟩⟩⟩⟩
theorem lw_p48 : lw_okq (⟨"SherdFieldModel", "number", "()I"⟩, 43) := ⟨⟨by decide +kernel, by decide +kernel⟩, List.mem_of_getElem? (i := 996) (by decide +kernel), List.mem_of_getElem? (i := 1337) (by decide +kernel), List.mem_of_getElem? (i := 1338) (by decide +kernel)⟩
theorem lw_p49 : lw_okq (⟨"SherdFieldModel", "here", "()I"⟩, 43) := ⟨⟨by decide +kernel, by decide +kernel⟩, List.mem_of_getElem? (i := 996) (by decide +kernel), List.mem_of_getElem? (i := 1341) (by decide +kernel), List.mem_of_getElem? (i := 1342) (by decide +kernel)⟩
theorem lw_p50 : lw_okq (⟨"SherdFieldModel", "put", "(I)V"⟩, 43) := ⟨⟨by decide +kernel, by decide +kernel⟩, List.mem_of_getElem? (i := 996) (by decide +kernel), List.mem_of_getElem? (i := 1345) (by decide +kernel), List.mem_of_getElem? (i := 1346) (by decide +kernel)⟩
def lw_privs_4 : List (MethodName × Nat) := [(⟨"SherdFieldModel", "number", "()I"⟩, 43), (⟨"SherdFieldModel", "here", "()I"⟩, 43), (⟨"SherdFieldModel", "put", "(I)V"⟩, 43)]
theorem lw_r4 : ∀ q ∈ lw_privs_4, lw_okq q := List.forall_mem_cons.mpr ⟨lw_p48, List.forall_mem_cons.mpr ⟨lw_p49, List.forall_mem_cons.mpr ⟨lw_p50, fun _ h => absurd h List.not_mem_nil⟩⟩⟩
def lw_privs : List (MethodName × Nat) := lw_privs_1 ++ (lw_privs_2 ++ (lw_privs_3 ++ (lw_privs_4)))
def lw_tbl : List Cond := k2_sels lw_privs ++ tables_1
theorem lw_privs_ok : ∀ q ∈ lw_privs, lw_okq q := by
  show ∀ q ∈ lw_privs_1 ++ (lw_privs_2 ++ (lw_privs_3 ++ (lw_privs_4))), lw_okq q
  exact List.forall_mem_append.mpr ⟨lw_r1, List.forall_mem_append.mpr ⟨lw_r2, List.forall_mem_append.mpr ⟨lw_r3, lw_r4⟩⟩⟩
end
section
def RX0 : String := "SherdField$Eyes"
def TX0 : u_T := fun k => match k with
  | 0 => ("SherdField$Eyes", "walks", "LSherdField$Walks;", true)
  | _ => ("SherdField$Eyes", "sorts", "LSherdField$Sorts;", true)
def tyX0 : Nat → FieldType := fun k => match k with
  | 0 => .object "SherdField$Walks"
  | _ => .object "SherdField$Sorts"
theorem nmX0 : ∀ a, a < 2 → ∀ b, b < 2 → a ≠ b → (TX0 a).2.1 ≠ (TX0 b).2.1 := by decide +kernel
theorem tyX0_ok : ∀ k, k < 2 → parseFieldDescriptor (TX0 k).2.2.1 = some (tyX0 k) := by decide +kernel
abbrev cX0_init : ByteArray := prog_2_method_1_code
def yX0_init : MethodName := ⟨RX0, "<init>", "(LSherdField$Walks;LSherdField$Sorts;)V"⟩
abbrev cX0_pairs : ByteArray := prog_2_method_2_code
def yX0_pairs : MethodName := ⟨RX0, "pairs", "(II)I"⟩
abbrev cX0_seenBeside : ByteArray := prog_2_method_3_code
def yX0_seenBeside : MethodName := ⟨RX0, "seenBeside", "(II)I"⟩
abbrev cX0_hundredths : ByteArray := prog_2_method_4_code
def yX0_hundredths : MethodName := ⟨RX0, "hundredths", "(I)I"⟩
abbrev cX0_ofTeller : ByteArray := prog_2_method_5_code
def yX0_ofTeller : MethodName := ⟨RX0, "ofTeller", "(I)I"⟩
abbrev cX0_amend : ByteArray := prog_2_method_6_code
def yX0_amend : MethodName := ⟨RX0, "amend", "(III)I"⟩
abbrev cX0_arePair : ByteArray := prog_2_method_7_code
def yX0_arePair : MethodName := ⟨RX0, "arePair", "(II)Z"⟩
abbrev cX0_walksBeside : ByteArray := prog_2_method_8_code
def yX0_walksBeside : MethodName := ⟨RX0, "walksBeside", "(II)I"⟩
abbrev cX0_seenIn : ByteArray := prog_2_method_9_code
def yX0_seenIn : MethodName := ⟨RX0, "seenIn", "(I)I"⟩
def RX1 : String := "SherdField$Finds"
def TX1 : u_T := fun k => match k with
  | 0 => ("SherdField$Finds", "walks", "[I", true)
  | 1 => ("SherdField$Finds", "paces", "[I", true)
  | 2 => ("SherdField$Finds", "kinds", "[I", true)
  | 3 => ("SherdField$Finds", "numbers", "[I", true)
  | _ => ("SherdField$Finds", "number", "I", false)
def tyX1 : Nat → FieldType := fun k => match k with
  | 0 => .array .int
  | 1 => .array .int
  | 2 => .array .int
  | 3 => .array .int
  | _ => .int
theorem nmX1 : ∀ a, a < 5 → ∀ b, b < 5 → a ≠ b → (TX1 a).2.1 ≠ (TX1 b).2.1 := by decide +kernel
theorem tyX1_ok : ∀ k, k < 5 → parseFieldDescriptor (TX1 k).2.2.1 = some (tyX1 k) := by decide +kernel
abbrev cX1_init : ByteArray := prog_3_method_1_code
def yX1_init : MethodName := ⟨RX1, "<init>", "()V"⟩
abbrev cX1_clear : ByteArray := prog_3_method_2_code
def yX1_clear : MethodName := ⟨RX1, "clear", "()V"⟩
abbrev cX1_number : ByteArray := prog_3_method_3_code
def yX1_number : MethodName := ⟨RX1, "number", "()I"⟩
abbrev cX1_isFull : ByteArray := prog_3_method_4_code
def yX1_isFull : MethodName := ⟨RX1, "isFull", "()Z"⟩
abbrev cX1_has : ByteArray := prog_3_method_5_code
def yX1_has : MethodName := ⟨RX1, "has", "(I)Z"⟩
abbrev cX1_add : ByteArray := prog_3_method_6_code
def yX1_add : MethodName := ⟨RX1, "add", "(IIII)I"⟩
abbrev cX1_walkOf : ByteArray := prog_3_method_7_code
def yX1_walkOf : MethodName := ⟨RX1, "walkOf", "(I)I"⟩
abbrev cX1_paceOf : ByteArray := prog_3_method_8_code
def yX1_paceOf : MethodName := ⟨RX1, "paceOf", "(I)I"⟩
abbrev cX1_kindOf : ByteArray := prog_3_method_9_code
def yX1_kindOf : MethodName := ⟨RX1, "kindOf", "(I)I"⟩
abbrev cX1_numberOf : ByteArray := prog_3_method_10_code
def yX1_numberOf : MethodName := ⟨RX1, "numberOf", "(I)I"⟩
abbrev cX1_inWalkAt : ByteArray := prog_3_method_11_code
def yX1_inWalkAt : MethodName := ⟨RX1, "inWalkAt", "(III)I"⟩
def RX2 : String := "SherdField$Ground"
def TX2 : u_T := fun k => match k with
  | 0 => ("SherdField$Ground", "wide", "I", false)
  | 1 => ("SherdField$Ground", "high", "I", false)
  | 2 => ("SherdField$Ground", "barren", "J", false)
  | 3 => ("SherdField$Ground", "lying", "[I", false)
  | _ => ("SherdField$Ground", "spread", "[I", false)
def tyX2 : Nat → FieldType := fun k => match k with
  | 0 => .int
  | 1 => .int
  | 2 => .long
  | 3 => .array .int
  | _ => .array .int
theorem nmX2 : ∀ a, a < 5 → ∀ b, b < 5 → a ≠ b → (TX2 a).2.1 ≠ (TX2 b).2.1 := by decide +kernel
theorem tyX2_ok : ∀ k, k < 5 → parseFieldDescriptor (TX2 k).2.2.1 = some (tyX2 k) := by decide +kernel
abbrev cX2_init : ByteArray := prog_4_method_1_code
def yX2_init : MethodName := ⟨RX2, "<init>", "()V"⟩
abbrev cX2_renew : ByteArray := prog_4_method_2_code
def yX2_renew : MethodName := ⟨RX2, "renew", "(II)V"⟩
abbrev cX2_paces : ByteArray := prog_4_method_3_code
def yX2_paces : MethodName := ⟨RX2, "paces", "()I"⟩
abbrev cX2_rows : ByteArray := prog_4_method_4_code
def yX2_rows : MethodName := ⟨RX2, "rows", "()I"⟩
abbrev cX2_columns : ByteArray := prog_4_method_5_code
def yX2_columns : MethodName := ⟨RX2, "columns", "()I"⟩
abbrev cX2_hasPace : ByteArray := prog_4_method_6_code
def yX2_hasPace : MethodName := ⟨RX2, "hasPace", "(I)Z"⟩
abbrev cX2_hasRow : ByteArray := prog_4_method_7_code
def yX2_hasRow : MethodName := ⟨RX2, "hasRow", "(I)Z"⟩
abbrev cX2_rowOf : ByteArray := prog_4_method_8_code
def yX2_rowOf : MethodName := ⟨RX2, "rowOf", "(I)I"⟩
abbrev cX2_columnOf : ByteArray := prog_4_method_9_code
def yX2_columnOf : MethodName := ⟨RX2, "columnOf", "(I)I"⟩
abbrev cX2_isBarren : ByteArray := prog_4_method_10_code
def yX2_isBarren : MethodName := ⟨RX2, "isBarren", "(I)Z"⟩
abbrev cX2_dig : ByteArray := prog_4_method_11_code
def yX2_dig : MethodName := ⟨RX2, "dig", "(IZ)V"⟩
abbrev cX2_barrenPaces : ByteArray := prog_4_method_12_code
def yX2_barrenPaces : MethodName := ⟨RX2, "barrenPaces", "()I"⟩
abbrev cX2_ringSum : ByteArray := prog_4_method_13_code
def yX2_ringSum : MethodName := ⟨RX2, "ringSum", "([II)I"⟩
abbrev cX2_greatestRing : ByteArray := prog_4_method_14_code
def yX2_greatestRing : MethodName := ⟨RX2, "greatestRing", "([I)I"⟩
abbrev cX2_behindPloughs : ByteArray := prog_4_method_15_code
def yX2_behindPloughs : MethodName := ⟨RX2, "behindPloughs", "(LSherdField$Sheet;II)I"⟩
abbrev cX2_ploughOnce : ByteArray := prog_4_method_16_code
def yX2_ploughOnce : MethodName := ⟨RX2, "ploughOnce", "()V"⟩
abbrev cX2_spreadFrom : ByteArray := prog_4_method_17_code
def yX2_spreadFrom : MethodName := ⟨RX2, "spreadFrom", "(I)V"⟩
def RX3 : String := "SherdField$Heaps"
def TX3 : u_T := fun k => match k with
  | 0 => ("SherdField$Heaps", "ground", "LSherdField$Ground;", true)
  | 1 => ("SherdField$Heaps", "walks", "LSherdField$Walks;", true)
  | 2 => ("SherdField$Heaps", "eyes", "LSherdField$Eyes;", true)
  | 3 => ("SherdField$Heaps", "sorts", "LSherdField$Sorts;", true)
  | 4 => ("SherdField$Heaps", "worths", "[I", true)
  | _ => ("SherdField$Heaps", "walked", "[I", true)
def tyX3 : Nat → FieldType := fun k => match k with
  | 0 => .object "SherdField$Ground"
  | 1 => .object "SherdField$Walks"
  | 2 => .object "SherdField$Eyes"
  | 3 => .object "SherdField$Sorts"
  | 4 => .array .int
  | _ => .array .int
theorem nmX3 : ∀ a, a < 6 → ∀ b, b < 6 → a ≠ b → (TX3 a).2.1 ≠ (TX3 b).2.1 := by decide +kernel
theorem tyX3_ok : ∀ k, k < 6 → parseFieldDescriptor (TX3 k).2.2.1 = some (tyX3 k) := by decide +kernel
abbrev cX3_init : ByteArray := prog_5_method_1_code
def yX3_init : MethodName := ⟨RX3, "<init>", "(LSherdField$Ground;LSherdField$Walks;LSherdField$Eyes;LSherdField$Sorts;)V"⟩
abbrev cX3_lay : ByteArray := prog_5_method_2_code
def yX3_lay : MethodName := ⟨RX3, "lay", "()V"⟩
abbrev cX3_worthAt : ByteArray := prog_5_method_3_code
def yX3_worthAt : MethodName := ⟨RX3, "worthAt", "(I)I"⟩
abbrev cX3_sumAround : ByteArray := prog_5_method_4_code
def yX3_sumAround : MethodName := ⟨RX3, "sumAround", "(I)I"⟩
abbrev cX3_richest : ByteArray := prog_5_method_5_code
def yX3_richest : MethodName := ⟨RX3, "richest", "()I"⟩
abbrev cX3_standsOut : ByteArray := prog_5_method_6_code
def yX3_standsOut : MethodName := ⟨RX3, "standsOut", "(IIII)Z"⟩
abbrev cX3_weighed : ByteArray := prog_5_method_7_code
def yX3_weighed : MethodName := ⟨RX3, "weighed", "(III)I"⟩
abbrev cX3_gatherWalked : ByteArray := prog_5_method_8_code
def yX3_gatherWalked : MethodName := ⟨RX3, "gatherWalked", "()I"⟩
abbrev cX3_shuffle : ByteArray := prog_5_method_9_code
def yX3_shuffle : MethodName := ⟨RX3, "shuffle", "(II)I"⟩
def RX4 : String := "SherdField$LeaveReader"
def TX4 : u_T := fun k => match k with
  | 0 => ("SherdField$LeaveReader", "tape", "LSherdField$Tape;", true)
  | 1 => ("SherdField$LeaveReader", "start", "I", false)
  | 2 => ("SherdField$LeaveReader", "end", "I", false)
  | 3 => ("SherdField$LeaveReader", "fault", "I", false)
  | 4 => ("SherdField$LeaveReader", "firstRow", "I", false)
  | 5 => ("SherdField$LeaveReader", "lastRow", "I", false)
  | 6 => ("SherdField$LeaveReader", "firstDay", "I", false)
  | 7 => ("SherdField$LeaveReader", "lastDay", "I", false)
  | _ => ("SherdField$LeaveReader", "barred", "I", false)
def tyX4 : Nat → FieldType := fun k => match k with
  | 0 => .object "SherdField$Tape"
  | 1 => .int
  | 2 => .int
  | 3 => .int
  | 4 => .int
  | 5 => .int
  | 6 => .int
  | 7 => .int
  | _ => .int
theorem nmX4 : ∀ a, a < 9 → ∀ b, b < 9 → a ≠ b → (TX4 a).2.1 ≠ (TX4 b).2.1 := by decide +kernel
theorem tyX4_ok : ∀ k, k < 9 → parseFieldDescriptor (TX4 k).2.2.1 = some (tyX4 k) := by decide +kernel
abbrev cX4_init : ByteArray := prog_6_method_1_code
def yX4_init : MethodName := ⟨RX4, "<init>", "(LSherdField$Tape;)V"⟩
abbrev cX4_read : ByteArray := prog_6_method_2_code
def yX4_read : MethodName := ⟨RX4, "read", "()I"⟩
abbrev cX4_firstRow : ByteArray := prog_6_method_3_code
def yX4_firstRow : MethodName := ⟨RX4, "firstRow", "()I"⟩
abbrev cX4_lastRow : ByteArray := prog_6_method_4_code
def yX4_lastRow : MethodName := ⟨RX4, "lastRow", "()I"⟩
abbrev cX4_firstDay : ByteArray := prog_6_method_5_code
def yX4_firstDay : MethodName := ⟨RX4, "firstDay", "()I"⟩
abbrev cX4_lastDay : ByteArray := prog_6_method_6_code
def yX4_lastDay : MethodName := ⟨RX4, "lastDay", "()I"⟩
abbrev cX4_barred : ByteArray := prog_6_method_7_code
def yX4_barred : MethodName := ⟨RX4, "barred", "()I"⟩
abbrev cX4_readRows : ByteArray := prog_6_method_8_code
def yX4_readRows : MethodName := ⟨RX4, "readRows", "()V"⟩
abbrev cX4_readDays : ByteArray := prog_6_method_9_code
def yX4_readDays : MethodName := ⟨RX4, "readDays", "()V"⟩
abbrev cX4_readBarred : ByteArray := prog_6_method_10_code
def yX4_readBarred : MethodName := ⟨RX4, "readBarred", "()V"⟩
abbrev cX4_isSound : ByteArray := prog_6_method_11_code
def yX4_isSound : MethodName := ⟨RX4, "isSound", "()Z"⟩
abbrev cX4_tellFault : ByteArray := prog_6_method_12_code
def yX4_tellFault : MethodName := ⟨RX4, "tellFault", "()V"⟩
abbrev cX4_expect : ByteArray := prog_6_method_13_code
def yX4_expect : MethodName := ⟨RX4, "expect", "(Ljava/lang/String;)V"⟩
abbrev cX4_expectNumber : ByteArray := prog_6_method_14_code
def yX4_expectNumber : MethodName := ⟨RX4, "expectNumber", "(II)I"⟩
abbrev cX4_goOn : ByteArray := prog_6_method_15_code
def yX4_goOn : MethodName := ⟨RX4, "goOn", "()V"⟩
abbrev cX4_isAt : ByteArray := prog_6_method_16_code
def yX4_isAt : MethodName := ⟨RX4, "isAt", "(Ljava/lang/String;)Z"⟩
abbrev cX4_valueAtHand : ByteArray := prog_6_method_17_code
def yX4_valueAtHand : MethodName := ⟨RX4, "valueAtHand", "()I"⟩
def RX5 : String := "SherdField$Leaves"
def TX5 : u_T := fun k => match k with
  | 0 => ("SherdField$Leaves", "firstRows", "[I", true)
  | 1 => ("SherdField$Leaves", "lastRows", "[I", true)
  | 2 => ("SherdField$Leaves", "firstDays", "[I", true)
  | 3 => ("SherdField$Leaves", "lastDays", "[I", true)
  | 4 => ("SherdField$Leaves", "barred", "[I", true)
  | 5 => ("SherdField$Leaves", "withdrawn", "[Z", true)
  | _ => ("SherdField$Leaves", "number", "I", false)
def tyX5 : Nat → FieldType := fun k => match k with
  | 0 => .array .int
  | 1 => .array .int
  | 2 => .array .int
  | 3 => .array .int
  | 4 => .array .int
  | 5 => .array .boolean
  | _ => .int
theorem nmX5 : ∀ a, a < 7 → ∀ b, b < 7 → a ≠ b → (TX5 a).2.1 ≠ (TX5 b).2.1 := by decide +kernel
theorem tyX5_ok : ∀ k, k < 7 → parseFieldDescriptor (TX5 k).2.2.1 = some (tyX5 k) := by decide +kernel
abbrev cX5_init : ByteArray := prog_7_method_1_code
def yX5_init : MethodName := ⟨RX5, "<init>", "()V"⟩
abbrev cX5_wereGiven : ByteArray := prog_7_method_2_code
def yX5_wereGiven : MethodName := ⟨RX5, "wereGiven", "()Z"⟩
abbrev cX5_isFull : ByteArray := prog_7_method_3_code
def yX5_isFull : MethodName := ⟨RX5, "isFull", "()Z"⟩
abbrev cX5_has : ByteArray := prog_7_method_4_code
def yX5_has : MethodName := ⟨RX5, "has", "(I)Z"⟩
abbrev cX5_add : ByteArray := prog_7_method_5_code
def yX5_add : MethodName := ⟨RX5, "add", "(LSherdField$LeaveReader;)I"⟩
abbrev cX5_isWithdrawn : ByteArray := prog_7_method_6_code
def yX5_isWithdrawn : MethodName := ⟨RX5, "isWithdrawn", "(I)Z"⟩
abbrev cX5_takeBack : ByteArray := prog_7_method_7_code
def yX5_takeBack : MethodName := ⟨RX5, "takeBack", "(I)V"⟩
abbrev cX5_standing : ByteArray := prog_7_method_8_code
def yX5_standing : MethodName := ⟨RX5, "standing", "()I"⟩
abbrev cX5_firstLetting : ByteArray := prog_7_method_9_code
def yX5_firstLetting : MethodName := ⟨RX5, "firstLetting", "(III)I"⟩
abbrev cX5_covers : ByteArray := prog_7_method_10_code
def yX5_covers : MethodName := ⟨RX5, "covers", "(III)Z"⟩
def RX6 : String := "SherdField$Periods"
def TX6 : u_T := fun k => match k with
  | 0 => ("SherdField$Periods", "profiles", "[I", true)
  | 1 => ("SherdField$Periods", "counted", "[I", true)
  | _ => ("SherdField$Periods", "best", "[I", true)
def tyX6 : Nat → FieldType := fun k => match k with
  | 0 => .array .int
  | 1 => .array .int
  | _ => .array .int
theorem nmX6 : ∀ a, a < 3 → ∀ b, b < 3 → a ≠ b → (TX6 a).2.1 ≠ (TX6 b).2.1 := by decide +kernel
theorem tyX6_ok : ∀ k, k < 3 → parseFieldDescriptor (TX6 k).2.2.1 = some (tyX6 k) := by decide +kernel
abbrev cX6_init : ByteArray := prog_8_method_1_code
def yX6_init : MethodName := ⟨RX6, "<init>", "()V"⟩
abbrev cX6_become : ByteArray := prog_8_method_2_code
def yX6_become : MethodName := ⟨RX6, "become", "(III)I"⟩
abbrev cX6_tell : ByteArray := prog_8_method_3_code
def yX6_tell : MethodName := ⟨RX6, "tell", "(II)V"⟩
abbrev cX6_bestPart : ByteArray := prog_8_method_4_code
def yX6_bestPart : MethodName := ⟨RX6, "bestPart", "(I)I"⟩
abbrev cX6_seekBest : ByteArray := prog_8_method_5_code
def yX6_seekBest : MethodName := ⟨RX6, "seekBest", "()V"⟩
abbrev cX6_misfit : ByteArray := prog_8_method_6_code
def yX6_misfit : MethodName := ⟨RX6, "misfit", "(III)J"⟩
def RX7 : String := "SherdField$Sheet"
def TX7 : u_T := fun k => match k with
  | 0 => ("SherdField$Sheet", "places", "[S", true)
  | _ => ("SherdField$Sheet", "size", "I", false)
def tyX7 : Nat → FieldType := fun k => match k with
  | 0 => .array .short
  | _ => .int
theorem nmX7 : ∀ a, a < 2 → ∀ b, b < 2 → a ≠ b → (TX7 a).2.1 ≠ (TX7 b).2.1 := by decide +kernel
theorem tyX7_ok : ∀ k, k < 2 → parseFieldDescriptor (TX7 k).2.2.1 = some (tyX7 k) := by decide +kernel
abbrev cX7_init : ByteArray := prog_9_method_1_code
def yX7_init : MethodName := ⟨RX7, "<init>", "()V"⟩
abbrev cX7_isMissing : ByteArray := prog_9_method_2_code
def yX7_isMissing : MethodName := ⟨RX7, "isMissing", "()Z"⟩
abbrev cX7_renew : ByteArray := prog_9_method_3_code
def yX7_renew : MethodName := ⟨RX7, "renew", "(I)V"⟩
abbrev cX7_vanish : ByteArray := prog_9_method_4_code
def yX7_vanish : MethodName := ⟨RX7, "vanish", "()I"⟩
abbrev cX7_has : ByteArray := prog_9_method_5_code
def yX7_has : MethodName := ⟨RX7, "has", "(I)Z"⟩
abbrev cX7_hasRun : ByteArray := prog_9_method_6_code
def yX7_hasRun : MethodName := ⟨RX7, "hasRun", "(II)Z"⟩
abbrev cX7_at : ByteArray := prog_9_method_7_code
def yX7_at : MethodName := ⟨RX7, "at", "(I)I"⟩
abbrev cX7_put : ByteArray := prog_9_method_8_code
def yX7_put : MethodName := ⟨RX7, "put", "(II)I"⟩
abbrev cX7_take : ByteArray := prog_9_method_9_code
def yX7_take : MethodName := ⟨RX7, "take", "(LSherdField$Sheet;III)V"⟩
def RX8 : String := "SherdField$Sorts"
def TX8 : u_T := fun k => match k with
  | _ => ("SherdField$Sorts", "sortOf", "[I", true)
def tyX8 : Nat → FieldType := fun k => match k with
  | _ => .array .int
theorem nmX8 : ∀ a, a < 1 → ∀ b, b < 1 → a ≠ b → (TX8 a).2.1 ≠ (TX8 b).2.1 := by decide +kernel
theorem tyX8_ok : ∀ k, k < 1 → parseFieldDescriptor (TX8 k).2.2.1 = some (tyX8 k) := by decide +kernel
abbrev cX8_init : ByteArray := prog_10_method_1_code
def yX8_init : MethodName := ⟨RX8, "<init>", "()V"⟩
abbrev cX8_isSort : ByteArray := prog_10_method_2_code
def yX8_isSort : MethodName := ⟨RX8, "isSort", "(I)Z"⟩
abbrev cX8_become : ByteArray := prog_10_method_3_code
def yX8_become : MethodName := ⟨RX8, "become", "(II)I"⟩
abbrev cX8_counts : ByteArray := prog_10_method_4_code
def yX8_counts : MethodName := ⟨RX8, "counts", "(II)Z"⟩
abbrev cX8_isCoarse : ByteArray := prog_10_method_5_code
def yX8_isCoarse : MethodName := ⟨RX8, "isCoarse", "(I)Z"⟩
abbrev cX8_weight : ByteArray := prog_10_method_6_code
def yX8_weight : MethodName := ⟨RX8, "weight", "(I)I"⟩
def RX9 : String := "SherdField$Tape"
def TX9 : u_T := fun k => match k with
  | 0 => ("SherdField$Tape", "bytes", "[B", true)
  | _ => ("SherdField$Tape", "length", "I", false)
def tyX9 : Nat → FieldType := fun k => match k with
  | 0 => .array .byte
  | _ => .int
theorem nmX9 : ∀ a, a < 2 → ∀ b, b < 2 → a ≠ b → (TX9 a).2.1 ≠ (TX9 b).2.1 := by decide +kernel
theorem tyX9_ok : ∀ k, k < 2 → parseFieldDescriptor (TX9 k).2.2.1 = some (tyX9 k) := by decide +kernel
abbrev cX9_init : ByteArray := prog_11_method_1_code
def yX9_init : MethodName := ⟨RX9, "<init>", "()V"⟩
abbrev cX9_length : ByteArray := prog_11_method_2_code
def yX9_length : MethodName := ⟨RX9, "length", "()I"⟩
abbrev cX9_hasRoom : ByteArray := prog_11_method_3_code
def yX9_hasRoom : MethodName := ⟨RX9, "hasRoom", "()Z"⟩
abbrev cX9_add : ByteArray := prog_11_method_4_code
def yX9_add : MethodName := ⟨RX9, "add", "(I)V"⟩
abbrev cX9_keep : ByteArray := prog_11_method_5_code
def yX9_keep : MethodName := ⟨RX9, "keep", "(I)V"⟩
abbrev cX9_at : ByteArray := prog_11_method_6_code
def yX9_at : MethodName := ⟨RX9, "at", "(I)I"⟩
def RX10 : String := "SherdField$Walks"
def TX10 : u_T := fun k => match k with
  | 0 => ("SherdField$Walks", "walkers", "[I", true)
  | 1 => ("SherdField$Walks", "rows", "[I", true)
  | 2 => ("SherdField$Walks", "days", "[I", true)
  | 3 => ("SherdField$Walks", "sums", "[I", true)
  | 4 => ("SherdField$Walks", "tallies", "[I", true)
  | _ => ("SherdField$Walks", "number", "I", false)
def tyX10 : Nat → FieldType := fun k => match k with
  | 0 => .array .int
  | 1 => .array .int
  | 2 => .array .int
  | 3 => .array .int
  | 4 => .array .int
  | _ => .int
theorem nmX10 : ∀ a, a < 6 → ∀ b, b < 6 → a ≠ b → (TX10 a).2.1 ≠ (TX10 b).2.1 := by decide +kernel
theorem tyX10_ok : ∀ k, k < 6 → parseFieldDescriptor (TX10 k).2.2.1 = some (tyX10 k) := by decide +kernel
abbrev cX10_init : ByteArray := prog_12_method_1_code
def yX10_init : MethodName := ⟨RX10, "<init>", "()V"⟩
abbrev cX10_clear : ByteArray := prog_12_method_2_code
def yX10_clear : MethodName := ⟨RX10, "clear", "()V"⟩
abbrev cX10_number : ByteArray := prog_12_method_3_code
def yX10_number : MethodName := ⟨RX10, "number", "()I"⟩
abbrev cX10_isFull : ByteArray := prog_12_method_4_code
def yX10_isFull : MethodName := ⟨RX10, "isFull", "()Z"⟩
abbrev cX10_has : ByteArray := prog_12_method_5_code
def yX10_has : MethodName := ⟨RX10, "has", "(I)Z"⟩
abbrev cX10_add : ByteArray := prog_12_method_6_code
def yX10_add : MethodName := ⟨RX10, "add", "(III)I"⟩
abbrev cX10_walkerOf : ByteArray := prog_12_method_7_code
def yX10_walkerOf : MethodName := ⟨RX10, "walkerOf", "(I)I"⟩
abbrev cX10_rowOf : ByteArray := prog_12_method_8_code
def yX10_rowOf : MethodName := ⟨RX10, "rowOf", "(I)I"⟩
abbrev cX10_dayOf : ByteArray := prog_12_method_9_code
def yX10_dayOf : MethodName := ⟨RX10, "dayOf", "(I)I"⟩
abbrev cX10_bear : ByteArray := prog_12_method_10_code
def yX10_bear : MethodName := ⟨RX10, "bear", "(IIII)V"⟩
abbrev cX10_borne : ByteArray := prog_12_method_11_code
def yX10_borne : MethodName := ⟨RX10, "borne", "(III)I"⟩
abbrev cX10_sumOf : ByteArray := prog_12_method_12_code
def yX10_sumOf : MethodName := ⟨RX10, "sumOf", "(II)I"⟩
abbrev cX10_total : ByteArray := prog_12_method_13_code
def yX10_total : MethodName := ⟨RX10, "total", "(I)I"⟩
abbrev cX10_teller : ByteArray := prog_12_method_14_code
def yX10_teller : MethodName := ⟨RX10, "teller", "(I)I"⟩
abbrev cX10_tallyPlace : ByteArray := prog_12_method_15_code
def yX10_tallyPlace : MethodName := ⟨RX10, "tallyPlace", "(III)I"⟩
def RX11 : String := "SherdField"
def TX11 : u_T := fun k => match k with
  | 0 => ("SherdField", "ground", "LSherdField$Ground;", true)
  | 1 => ("SherdField", "sorts", "LSherdField$Sorts;", true)
  | 2 => ("SherdField", "walks", "LSherdField$Walks;", true)
  | 3 => ("SherdField", "finds", "LSherdField$Finds;", true)
  | 4 => ("SherdField", "eyes", "LSherdField$Eyes;", true)
  | 5 => ("SherdField", "heaps", "LSherdField$Heaps;", true)
  | 6 => ("SherdField", "periods", "LSherdField$Periods;", true)
  | 7 => ("SherdField", "tape", "LSherdField$Tape;", true)
  | 8 => ("SherdField", "reader", "LSherdField$LeaveReader;", true)
  | 9 => ("SherdField", "leaves", "LSherdField$Leaves;", true)
  | 10 => ("SherdField", "firstSheet", "LSherdField$Sheet;", true)
  | 11 => ("SherdField", "secondSheet", "LSherdField$Sheet;", true)
  | 12 => ("SherdField", "today", "I", false)
  | 13 => ("SherdField", "seed", "I", false)
  | _ => ("SherdField", "spare", "I", false)
def tyX11 : Nat → FieldType := fun k => match k with
  | 0 => .object "SherdField$Ground"
  | 1 => .object "SherdField$Sorts"
  | 2 => .object "SherdField$Walks"
  | 3 => .object "SherdField$Finds"
  | 4 => .object "SherdField$Eyes"
  | 5 => .object "SherdField$Heaps"
  | 6 => .object "SherdField$Periods"
  | 7 => .object "SherdField$Tape"
  | 8 => .object "SherdField$LeaveReader"
  | 9 => .object "SherdField$Leaves"
  | 10 => .object "SherdField$Sheet"
  | 11 => .object "SherdField$Sheet"
  | 12 => .int
  | 13 => .int
  | _ => .int
theorem nmX11 : ∀ a, a < 15 → ∀ b, b < 15 → a ≠ b → (TX11 a).2.1 ≠ (TX11 b).2.1 := by decide +kernel
theorem tyX11_ok : ∀ k, k < 15 → parseFieldDescriptor (TX11 k).2.2.1 = some (tyX11 k) := by decide +kernel
abbrev cX11_init : ByteArray := prog_1_method_1_code
def yX11_init : MethodName := ⟨RX11, "<init>", "()V"⟩
abbrev cX11_field : ByteArray := prog_1_method_2_code
def yX11_field : MethodName := ⟨RX11, "field", "(II)I"⟩
abbrev cX11_sort : ByteArray := prog_1_method_3_code
def yX11_sort : MethodName := ⟨RX11, "sort", "(II)I"⟩
abbrev cX11_isOf : ByteArray := prog_1_method_4_code
def yX11_isOf : MethodName := ⟨RX11, "isOf", "(II)I"⟩
abbrev cX11_walk : ByteArray := prog_1_method_5_code
def yX11_walk : MethodName := ⟨RX11, "walk", "(II)I"⟩
abbrev cX11_find : ByteArray := prog_1_method_6_code
def yX11_find : MethodName := ⟨RX11, "find", "(IIII)I"⟩
abbrev cX11_told : ByteArray := prog_1_method_7_code
def yX11_told : MethodName := ⟨RX11, "told", "(II)I"⟩
abbrev cX11_of : ByteArray := prog_1_method_8_code
def yX11_of : MethodName := ⟨RX11, "of", "(II)I"⟩
abbrev cX11_count : ByteArray := prog_1_method_9_code
def yX11_count : MethodName := ⟨RX11, "count", "(II)I"⟩
abbrev cX11_gap : ByteArray := prog_1_method_10_code
def yX11_gap : MethodName := ⟨RX11, "gap", "()I"⟩
abbrev cX11_led : ByteArray := prog_1_method_11_code
def yX11_led : MethodName := ⟨RX11, "led", "(II)I"⟩
abbrev cX11_pair : ByteArray := prog_1_method_12_code
def yX11_pair : MethodName := ⟨RX11, "pair", "(III)I"⟩
abbrev cX11_eye : ByteArray := prog_1_method_13_code
def yX11_eye : MethodName := ⟨RX11, "eye", "(I)I"⟩
abbrev cX11_corrected : ByteArray := prog_1_method_14_code
def yX11_corrected : MethodName := ⟨RX11, "corrected", "(II)I"⟩
abbrev cX11_worth : ByteArray := prog_1_method_15_code
def yX11_worth : MethodName := ⟨RX11, "worth", "(II)I"⟩
abbrev cX11_greatest : ByteArray := prog_1_method_16_code
def yX11_greatest : MethodName := ⟨RX11, "greatest", "()I"⟩
abbrev cX11_heap : ByteArray := prog_1_method_17_code
def yX11_heap : MethodName := ⟨RX11, "heap", "(II)I"⟩
abbrev cX11_spade : ByteArray := prog_1_method_18_code
def yX11_spade : MethodName := ⟨RX11, "spade", "(II)I"⟩
abbrev cX11_rule : ByteArray := prog_1_method_19_code
def yX11_rule : MethodName := ⟨RX11, "rule", "(II)I"⟩
abbrev cX11_plough : ByteArray := prog_1_method_20_code
def yX11_plough : MethodName := ⟨RX11, "plough", "(II)I"⟩
abbrev cX11_profile : ByteArray := prog_1_method_21_code
def yX11_profile : MethodName := ⟨RX11, "profile", "(III)I"⟩
abbrev cX11_mixed : ByteArray := prog_1_method_22_code
def yX11_mixed : MethodName := ⟨RX11, "mixed", "(I)I"⟩
abbrev cX11_feed : ByteArray := prog_1_method_23_code
def yX11_feed : MethodName := ⟨RX11, "feed", "(III)I"⟩
abbrev cX11_trim : ByteArray := prog_1_method_24_code
def yX11_trim : MethodName := ⟨RX11, "trim", "(I)I"⟩
abbrev cX11_leave : ByteArray := prog_1_method_25_code
def yX11_leave : MethodName := ⟨RX11, "leave", "()I"⟩
abbrev cX11_withdraw : ByteArray := prog_1_method_26_code
def yX11_withdraw : MethodName := ⟨RX11, "withdraw", "(I)I"⟩
abbrev cX11_lets : ByteArray := prog_1_method_27_code
def yX11_lets : MethodName := ⟨RX11, "lets", "(III)I"⟩
abbrev cX11_days : ByteArray := prog_1_method_28_code
def yX11_days : MethodName := ⟨RX11, "days", "(I)I"⟩
abbrev cX11_sheet : ByteArray := prog_1_method_29_code
def yX11_sheet : MethodName := ⟨RX11, "sheet", "(II)I"⟩
abbrev cX11_mark : ByteArray := prog_1_method_30_code
def yX11_mark : MethodName := ⟨RX11, "mark", "(III)I"⟩
abbrev cX11_copy : ByteArray := prog_1_method_31_code
def yX11_copy : MethodName := ⟨RX11, "copy", "(IIIII)I"⟩
abbrev cX11_lose : ByteArray := prog_1_method_32_code
def yX11_lose : MethodName := ⟨RX11, "lose", "(I)I"⟩
abbrev cX11_many : ByteArray := prog_1_method_33_code
def yX11_many : MethodName := ⟨RX11, "many", "(I)I"⟩
abbrev cX11_within : ByteArray := prog_1_method_34_code
def yX11_within : MethodName := ⟨RX11, "within", "(III)Z"⟩
abbrev cX11_toInt : ByteArray := prog_1_method_35_code
def yX11_toInt : MethodName := ⟨RX11, "toInt", "(Z)I"⟩
abbrev cX11_isKind : ByteArray := prog_1_method_36_code
def yX11_isKind : MethodName := ⟨RX11, "isKind", "(I)Z"⟩
abbrev cX11_isWalker : ByteArray := prog_1_method_37_code
def yX11_isWalker : MethodName := ⟨RX11, "isWalker", "(I)Z"⟩
abbrev cX11_isPeriod : ByteArray := prog_1_method_38_code
def yX11_isPeriod : MethodName := ⟨RX11, "isPeriod", "(I)Z"⟩
abbrev cX11_isSheet : ByteArray := prog_1_method_39_code
def yX11_isSheet : MethodName := ⟨RX11, "isSheet", "(I)Z"⟩
abbrev cX11_sheetNumbered : ByteArray := prog_1_method_40_code
def yX11_sheetNumbered : MethodName := ⟨RX11, "sheetNumbered", "(I)LSherdField$Sheet;"⟩
abbrev cX11_tellerAt : ByteArray := prog_1_method_41_code
def yX11_tellerAt : MethodName := ⟨RX11, "tellerAt", "(I)I"⟩
abbrev cX11_countedOf : ByteArray := prog_1_method_42_code
def yX11_countedOf : MethodName := ⟨RX11, "countedOf", "(I)I"⟩
abbrev cX11_gaps : ByteArray := prog_1_method_43_code
def yX11_gaps : MethodName := ⟨RX11, "gaps", "()I"⟩
def RX12 : String := "SherdFieldModel"
def TX12 : u_T := fun k => match k with
  | 0 => ("SherdFieldModel", "wide", "I", false)
  | 1 => ("SherdFieldModel", "high", "I", false)
  | 2 => ("SherdFieldModel", "sorts", "[I", true)
  | 3 => ("SherdFieldModel", "today", "I", false)
  | 4 => ("SherdFieldModel", "walks", "I", false)
  | 5 => ("SherdFieldModel", "walker", "[I", true)
  | 6 => ("SherdFieldModel", "rowOf", "[I", true)
  | 7 => ("SherdFieldModel", "dayOf", "[I", true)
  | 8 => ("SherdFieldModel", "finds", "I", false)
  | 9 => ("SherdFieldModel", "fWalk", "[I", true)
  | 10 => ("SherdFieldModel", "fPace", "[I", true)
  | 11 => ("SherdFieldModel", "fKind", "[I", true)
  | 12 => ("SherdFieldModel", "fMany", "[I", true)
  | 13 => ("SherdFieldModel", "isEmpty", "[Z", true)
  | 14 => ("SherdFieldModel", "seed", "I", false)
  | 15 => ("SherdFieldModel", "spare", "I", false)
  | 16 => ("SherdFieldModel", "profile", "[I", true)
  | 17 => ("SherdFieldModel", "tape", "[I", true)
  | 18 => ("SherdFieldModel", "taped", "I", false)
  | 19 => ("SherdFieldModel", "leaves", "I", false)
  | 20 => ("SherdFieldModel", "lFrom", "[I", true)
  | 21 => ("SherdFieldModel", "lTo", "[I", true)
  | 22 => ("SherdFieldModel", "lFirst", "[I", true)
  | 23 => ("SherdFieldModel", "lLast", "[I", true)
  | 24 => ("SherdFieldModel", "lNot", "[I", true)
  | 25 => ("SherdFieldModel", "isBack", "[Z", true)
  | 26 => ("SherdFieldModel", "places", "[I", true)
  | 27 => ("SherdFieldModel", "numbers", "[I", true)
  | 28 => ("SherdFieldModel", "fines", "[I", true)
  | 29 => ("SherdFieldModel", "eyes", "[I", true)
  | 30 => ("SherdFieldModel", "chosen", "[I", true)
  | 31 => ("SherdFieldModel", "worths", "[I", true)
  | 32 => ("SherdFieldModel", "walked", "[I", true)
  | 33 => ("SherdFieldModel", "soil", "[I", true)
  | 34 => ("SherdFieldModel", "next", "[I", true)
  | 35 => ("SherdFieldModel", "counted", "[J", true)
  | 36 => ("SherdFieldModel", "read", "I", false)
  | 37 => ("SherdFieldModel", "from", "I", false)
  | 38 => ("SherdFieldModel", "long1", "I", false)
  | 39 => ("SherdFieldModel", "spanFrom", "I", false)
  | 40 => ("SherdFieldModel", "spanTo", "I", false)
  | 41 => ("SherdFieldModel", "aside", "[I", true)
  | _ => ("SherdFieldModel", "carried", "[I", true)
def tyX12 : Nat → FieldType := fun k => match k with
  | 0 => .int
  | 1 => .int
  | 2 => .array .int
  | 3 => .int
  | 4 => .int
  | 5 => .array .int
  | 6 => .array .int
  | 7 => .array .int
  | 8 => .int
  | 9 => .array .int
  | 10 => .array .int
  | 11 => .array .int
  | 12 => .array .int
  | 13 => .array .boolean
  | 14 => .int
  | 15 => .int
  | 16 => .array .int
  | 17 => .array .int
  | 18 => .int
  | 19 => .int
  | 20 => .array .int
  | 21 => .array .int
  | 22 => .array .int
  | 23 => .array .int
  | 24 => .array .int
  | 25 => .array .boolean
  | 26 => .array .int
  | 27 => .array .int
  | 28 => .array .int
  | 29 => .array .int
  | 30 => .array .int
  | 31 => .array .int
  | 32 => .array .int
  | 33 => .array .int
  | 34 => .array .int
  | 35 => .array .long
  | 36 => .int
  | 37 => .int
  | 38 => .int
  | 39 => .int
  | 40 => .int
  | 41 => .array .int
  | _ => .array .int
theorem nmX12 : ∀ a, a < 43 → ∀ b, b < 43 → a ≠ b → (TX12 a).2.1 ≠ (TX12 b).2.1 := by decide +kernel
theorem tyX12_ok : ∀ k, k < 43 → parseFieldDescriptor (TX12 k).2.2.1 = some (tyX12 k) := by decide +kernel
abbrev cX12_init : ByteArray := prog_14_method_1_code
def yX12_init : MethodName := ⟨RX12, "<init>", "()V"⟩
abbrev cX12_isIn : ByteArray := prog_14_method_2_code
def yX12_isIn : MethodName := ⟨RX12, "isIn", "(III)Z"⟩
abbrev cX12_paces : ByteArray := prog_14_method_3_code
def yX12_paces : MethodName := ⟨RX12, "paces", "()I"⟩
abbrev cX12_isPace : ByteArray := prog_14_method_4_code
def yX12_isPace : MethodName := ⟨RX12, "isPace", "(I)Z"⟩
abbrev cX12_isRow : ByteArray := prog_14_method_5_code
def yX12_isRow : MethodName := ⟨RX12, "isRow", "(I)Z"⟩
abbrev cX12_isKind : ByteArray := prog_14_method_6_code
def yX12_isKind : MethodName := ⟨RX12, "isKind", "(I)Z"⟩
abbrev cX12_isWalker : ByteArray := prog_14_method_7_code
def yX12_isWalker : MethodName := ⟨RX12, "isWalker", "(I)Z"⟩
abbrev cX12_isWalk : ByteArray := prog_14_method_8_code
def yX12_isWalk : MethodName := ⟨RX12, "isWalk", "(I)Z"⟩
abbrev cX12_field : ByteArray := prog_14_method_9_code
def yX12_field : MethodName := ⟨RX12, "field", "(II)I"⟩
abbrev cX12_sort : ByteArray := prog_14_method_10_code
def yX12_sort : MethodName := ⟨RX12, "sort", "(II)I"⟩
abbrev cX12_isOf : ByteArray := prog_14_method_11_code
def yX12_isOf : MethodName := ⟨RX12, "isOf", "(II)I"⟩
abbrev cX12_isLet : ByteArray := prog_14_method_12_code
def yX12_isLet : MethodName := ⟨RX12, "isLet", "(IIII)Z"⟩
abbrev cX12_letBy : ByteArray := prog_14_method_13_code
def yX12_letBy : MethodName := ⟨RX12, "letBy", "(III)I"⟩
abbrev cX12_walk : ByteArray := prog_14_method_14_code
def yX12_walk : MethodName := ⟨RX12, "walk", "(II)I"⟩
abbrev cX12_find : ByteArray := prog_14_method_15_code
def yX12_find : MethodName := ⟨RX12, "find", "(IIII)I"⟩
abbrev cX12_found : ByteArray := prog_14_method_16_code
def yX12_found : MethodName := ⟨RX12, "found", "(IZ)I"⟩
abbrev cX12_walkOf : ByteArray := prog_14_method_17_code
def yX12_walkOf : MethodName := ⟨RX12, "walkOf", "(I)I"⟩
abbrev cX12_told : ByteArray := prog_14_method_18_code
def yX12_told : MethodName := ⟨RX12, "told", "(II)I"⟩
abbrev cX12_of : ByteArray := prog_14_method_19_code
def yX12_of : MethodName := ⟨RX12, "of", "(II)I"⟩
abbrev cX12_at : ByteArray := prog_14_method_20_code
def yX12_at : MethodName := ⟨RX12, "at", "(III)I"⟩
abbrev cX12_count : ByteArray := prog_14_method_21_code
def yX12_count : MethodName := ⟨RX12, "count", "(II)I"⟩
abbrev cX12_gap : ByteArray := prog_14_method_22_code
def yX12_gap : MethodName := ⟨RX12, "gap", "()I"⟩
abbrev cX12_led : ByteArray := prog_14_method_23_code
def yX12_led : MethodName := ⟨RX12, "led", "(II)I"⟩
abbrev cX12_pair : ByteArray := prog_14_method_24_code
def yX12_pair : MethodName := ⟨RX12, "pair", "(III)I"⟩
abbrev cX12_eyeOf : ByteArray := prog_14_method_25_code
def yX12_eyeOf : MethodName := ⟨RX12, "eyeOf", "(I)I"⟩
abbrev cX12_eye : ByteArray := prog_14_method_26_code
def yX12_eye : MethodName := ⟨RX12, "eye", "(I)I"⟩
abbrev cX12_look : ByteArray := prog_14_method_27_code
def yX12_look : MethodName := ⟨RX12, "look", "()V"⟩
abbrev cX12_correctedAt : ByteArray := prog_14_method_28_code
def yX12_correctedAt : MethodName := ⟨RX12, "correctedAt", "(II)I"⟩
abbrev cX12_corrected : ByteArray := prog_14_method_29_code
def yX12_corrected : MethodName := ⟨RX12, "corrected", "(II)I"⟩
abbrev cX12_weigh : ByteArray := prog_14_method_30_code
def yX12_weigh : MethodName := ⟨RX12, "weigh", "()V"⟩
abbrev cX12_ring : ByteArray := prog_14_method_31_code
def yX12_ring : MethodName := ⟨RX12, "ring", "(I)I"⟩
abbrev cX12_worth : ByteArray := prog_14_method_32_code
def yX12_worth : MethodName := ⟨RX12, "worth", "(II)I"⟩
abbrev cX12_best : ByteArray := prog_14_method_33_code
def yX12_best : MethodName := ⟨RX12, "best", "()I"⟩
abbrev cX12_greatest : ByteArray := prog_14_method_34_code
def yX12_greatest : MethodName := ⟨RX12, "greatest", "()I"⟩
abbrev cX12_heap : ByteArray := prog_14_method_35_code
def yX12_heap : MethodName := ⟨RX12, "heap", "(II)I"⟩
abbrev cX12_spade : ByteArray := prog_14_method_36_code
def yX12_spade : MethodName := ⟨RX12, "spade", "(II)I"⟩
abbrev cX12_rule : ByteArray := prog_14_method_37_code
def yX12_rule : MethodName := ⟨RX12, "rule", "(II)I"⟩
abbrev cX12_besideMany : ByteArray := prog_14_method_38_code
def yX12_besideMany : MethodName := ⟨RX12, "besideMany", "(I)I"⟩
abbrev cX12_ploughOnce : ByteArray := prog_14_method_39_code
def yX12_ploughOnce : MethodName := ⟨RX12, "ploughOnce", "()V"⟩
abbrev cX12_plough : ByteArray := prog_14_method_40_code
def yX12_plough : MethodName := ⟨RX12, "plough", "(II)I"⟩
abbrev cX12_profile : ByteArray := prog_14_method_41_code
def yX12_profile : MethodName := ⟨RX12, "profile", "(III)I"⟩
abbrev cX12_far : ByteArray := prog_14_method_42_code
def yX12_far : MethodName := ⟨RX12, "far", "(III)J"⟩
abbrev cX12_mixed : ByteArray := prog_14_method_43_code
def yX12_mixed : MethodName := ⟨RX12, "mixed", "(I)I"⟩
abbrev cX12_four : ByteArray := prog_14_method_44_code
def yX12_four : MethodName := ⟨RX12, "four", "(I)V"⟩
abbrev cX12_feed : ByteArray := prog_14_method_45_code
def yX12_feed : MethodName := ⟨RX12, "feed", "(III)I"⟩
abbrev cX12_trim : ByteArray := prog_14_method_46_code
def yX12_trim : MethodName := ⟨RX12, "trim", "(I)I"⟩
abbrev cX12_next : ByteArray := prog_14_method_47_code
def yX12_next : MethodName := ⟨RX12, "next", "()V"⟩
abbrev cX12_here : ByteArray := prog_14_method_48_code
def yX12_here : MethodName := ⟨RX12, "here", "()I"⟩
abbrev cX12_isWord : ByteArray := prog_14_method_49_code
def yX12_isWord : MethodName := ⟨RX12, "isWord", "(IIII)Z"⟩
abbrev cX12_number : ByteArray := prog_14_method_50_code
def yX12_number : MethodName := ⟨RX12, "number", "()I"⟩
abbrev cX12_isSpan : ByteArray := prog_14_method_51_code
def yX12_isSpan : MethodName := ⟨RX12, "isSpan", "(I)Z"⟩
abbrev cX12_readLeave : ByteArray := prog_14_method_52_code
def yX12_readLeave : MethodName := ⟨RX12, "readLeave", "(I)I"⟩
abbrev cX12_put : ByteArray := prog_14_method_53_code
def yX12_put : MethodName := ⟨RX12, "put", "(I)V"⟩
abbrev cX12_leave : ByteArray := prog_14_method_54_code
def yX12_leave : MethodName := ⟨RX12, "leave", "()I"⟩
abbrev cX12_withdraw : ByteArray := prog_14_method_55_code
def yX12_withdraw : MethodName := ⟨RX12, "withdraw", "(I)I"⟩
abbrev cX12_lets : ByteArray := prog_14_method_56_code
def yX12_lets : MethodName := ⟨RX12, "lets", "(III)I"⟩
abbrev cX12_days : ByteArray := prog_14_method_57_code
def yX12_days : MethodName := ⟨RX12, "days", "(I)I"⟩
abbrev cX12_isSheet : ByteArray := prog_14_method_58_code
def yX12_isSheet : MethodName := ⟨RX12, "isSheet", "(I)Z"⟩
abbrev cX12_sheet : ByteArray := prog_14_method_59_code
def yX12_sheet : MethodName := ⟨RX12, "sheet", "(II)I"⟩
abbrev cX12_mark : ByteArray := prog_14_method_60_code
def yX12_mark : MethodName := ⟨RX12, "mark", "(III)I"⟩
abbrev cX12_copy : ByteArray := prog_14_method_61_code
def yX12_copy : MethodName := ⟨RX12, "copy", "(IIIII)I"⟩
abbrev cX12_lose : ByteArray := prog_14_method_62_code
def yX12_lose : MethodName := ⟨RX12, "lose", "(I)I"⟩
abbrev cX12_many : ByteArray := prog_14_method_63_code
def yX12_many : MethodName := ⟨RX12, "many", "(I)I"⟩
def RJ13 : String := "java/lang/Long"
abbrev cJ13_bitCount_95d88 : ByteArray := prog_15_method_50_code
def yJ13_bitCount_95d88 : MethodName := ⟨RJ13, "bitCount", "(J)I"⟩
def RJ9 : String := "java/lang/Math"
abbrev cJ9_max_7cf53 : ByteArray := prog_16_method_65_code
def yJ9_max_7cf53 : MethodName := ⟨RJ9, "max", "(II)I"⟩
abbrev cJ9_min_7cf53 : ByteArray := prog_16_method_69_code
def yJ9_min_7cf53 : MethodName := ⟨RJ9, "min", "(II)I"⟩
def RJ0 : String := "java/lang/String"
abbrev cJ0_length_8abf5 : ByteArray := prog_17_method_54_code
def yJ0_length_8abf5 : MethodName := ⟨RJ0, "length", "()I"⟩
abbrev cJ0_charAt_5068e : ByteArray := prog_17_method_56_code
def yJ0_charAt_5068e : MethodName := ⟨RJ0, "charAt", "(I)C"⟩
abbrev cJ0_coder_7d493 : ByteArray := prog_17_method_152_code
def yJ0_coder_7d493 : MethodName := ⟨RJ0, "coder", "()B"⟩
abbrev cJ0_isLatin1_aae02 : ByteArray := prog_17_method_154_code
def yJ0_isLatin1_aae02 : MethodName := ⟨RJ0, "isLatin1", "()Z"⟩
abbrev cJ0_checkIndex_df160 : ByteArray := prog_17_method_155_code
def yJ0_checkIndex_df160 : MethodName := ⟨RJ0, "checkIndex", "(II)V"⟩
def RJ1 : String := "java/lang/StringLatin1"
abbrev cJ1_charAt_3b067 : ByteArray := prog_18_method_2_code
def yJ1_charAt_3b067 : MethodName := ⟨RJ1, "charAt", "([BI)C"⟩
def RJ2 : String := "java/lang/StringUTF16"
abbrev cJ2_getChar_3b067 : ByteArray := prog_19_method_5_code
def yJ2_getChar_3b067 : MethodName := ⟨RJ2, "getChar", "([BI)C"⟩
abbrev cJ2_length_9d52b : ByteArray := prog_19_method_6_code
def yJ2_length_9d52b : MethodName := ⟨RJ2, "length", "([B)I"⟩
abbrev cJ2_charAt_3b067 : ByteArray := prog_19_method_83_code
def yJ2_charAt_3b067 : MethodName := ⟨RJ2, "charAt", "([BI)C"⟩
abbrev cJ2_checkIndex_2214a : ByteArray := prog_19_method_91_code
def yJ2_checkIndex_2214a : MethodName := ⟨RJ2, "checkIndex", "(I[B)V"⟩
def RJ10 : String := "java/lang/System"
def RJ7 : String := "java/util/Arrays"
abbrev cJ7_fill_53178 : ByteArray := prog_21_method_103_code
def yJ7_fill_53178 : MethodName := ⟨RJ7, "fill", "([II)V"⟩
abbrev cJ7_fill_fb410 : ByteArray := prog_21_method_105_code
def yJ7_fill_fb410 : MethodName := ⟨RJ7, "fill", "([SS)V"⟩
def RJ3 : String := "jdk/internal/util/Preconditions"
abbrev cJ3_checkIndex_8e157 : ByteArray := prog_22_method_11_code
def yJ3_checkIndex_8e157 : MethodName := ⟨RJ3, "checkIndex", "(IILjava/util/function/BiFunction;)I"⟩
def RL : String := "SherdFieldLaw"
abbrev cL_law : ByteArray := code
def yL_law : MethodName := ⟨RL, "law", "([I)Z"⟩

abbrev vwCl : List vw_C := [(RX0, TX0, 2), (RX1, TX1, 5), (RX2, TX2, 5), (RX3, TX3, 6), (RX4, TX4, 9), (RX5, TX5, 7), (RX6, TX6, 3), (RX7, TX7, 2), (RX8, TX8, 1), (RX9, TX9, 2), (RX10, TX10, 6), (RX11, TX11, 15), (RX12, TX12, 43)]
end
section
/-- the words that a method may lean on: the tables' good words -/
def gtb : List Cond := lw_tbl.filter goodWord
theorem gtb_in {w : Cond} (h : w ∈ lw_tbl) (g : goodWord w = true) : w ∈ gtb := List.mem_filter.mpr ⟨h, g⟩
theorem gtb_t {w : Cond} (i : Nat) (h : tables_1[i]? = some w) (g : goodWord w = true) : w ∈ gtb := gtb_in (List.mem_append_right _ (List.mem_of_getElem? h)) g
theorem gtb_s {w : Cond} (i : Nat) (h : (k2_sels lw_privs)[i]? = some w) (g : goodWord w = true) : w ∈ gtb := gtb_in (List.mem_append_left _ (List.mem_of_getElem? h)) g
theorem gtb_good {big : List Cond} {w0 : Cond} (h : ∀ w ∈ gtb, w ∈ big) (h0 : w0 ∈ gtb) : GoodIn big (w0 :: gtb) := by
  have key : ∀ w ∈ gtb, w ∈ big ∧ ((w.onTables && w.keeps) = true ∨ ∃ ty, w = .arrayClass ty) := fun w hw => ⟨h w hw, good_of_word (List.mem_filter.mp hw).2⟩
  intro w hw
  rcases List.mem_cons.mp hw with e1 | h1
  · rw [e1]; exact key _ h0
  · exact key w h1
abbrev Ev : Type := (Nat → ClassId) × (Nat → Nat → Nat) × (Nat → ClassId) × (Nat → Nat)
abbrev dG (E : Ev) : va_G := (E.1, E.2.1)
/-- the links to nest mates -/
def nst : List (String × Nat × MethodName × String) := [("SherdField", 9, ⟨"SherdField$Ground", "<init>", "()V"⟩, "SherdField"), ("SherdField", 18, ⟨"SherdField$Sorts", "<init>", "()V"⟩, "SherdField"), ("SherdField", 25, ⟨"SherdField$Walks", "<init>", "()V"⟩, "SherdField"), ("SherdField", 32, ⟨"SherdField$Finds", "<init>", "()V"⟩, "SherdField"), ("SherdField", 39, ⟨"SherdField$Periods", "<init>", "()V"⟩, "SherdField"), ("SherdField", 46, ⟨"SherdField$Tape", "<init>", "()V"⟩, "SherdField"), ("SherdField", 53, ⟨"SherdField$Leaves", "<init>", "()V"⟩, "SherdField"), ("SherdField", 60, ⟨"SherdField$Sheet", "<init>", "()V"⟩, "SherdField"), ("SherdField$Sorts", 13, ⟨"SherdField", "within", "(III)Z"⟩, "SherdField"), ("SherdField$Leaves", 60, ⟨"SherdField", "within", "(III)Z"⟩, "SherdField"), ("SherdField$Ground", 70, ⟨"SherdField", "within", "(III)Z"⟩, "SherdField"), ("SherdField$Ground", 87, ⟨"SherdField", "toInt", "(Z)I"⟩, "SherdField"), ("SherdField$Leaves", 52, ⟨"SherdField", "toInt", "(Z)I"⟩, "SherdField")]
theorem tn_32 : (("SherdField", 9, ⟨"SherdField$Ground", "<init>", "()V"⟩, "SherdField") : String × Nat × MethodName × String) ∈ nst := List.mem_of_getElem? (i := 0) rfl
theorem tn_55 : (("SherdField", 18, ⟨"SherdField$Sorts", "<init>", "()V"⟩, "SherdField") : String × Nat × MethodName × String) ∈ nst := List.mem_of_getElem? (i := 1) rfl
theorem tn_65 : (("SherdField", 25, ⟨"SherdField$Walks", "<init>", "()V"⟩, "SherdField") : String × Nat × MethodName × String) ∈ nst := List.mem_of_getElem? (i := 2) rfl
theorem tn_90 : (("SherdField", 32, ⟨"SherdField$Finds", "<init>", "()V"⟩, "SherdField") : String × Nat × MethodName × String) ∈ nst := List.mem_of_getElem? (i := 3) rfl
theorem tn_112 : (("SherdField", 39, ⟨"SherdField$Periods", "<init>", "()V"⟩, "SherdField") : String × Nat × MethodName × String) ∈ nst := List.mem_of_getElem? (i := 4) rfl
theorem tn_128 : (("SherdField", 46, ⟨"SherdField$Tape", "<init>", "()V"⟩, "SherdField") : String × Nat × MethodName × String) ∈ nst := List.mem_of_getElem? (i := 5) rfl
theorem tn_142 : (("SherdField", 53, ⟨"SherdField$Leaves", "<init>", "()V"⟩, "SherdField") : String × Nat × MethodName × String) ∈ nst := List.mem_of_getElem? (i := 6) rfl
theorem tn_171 : (("SherdField", 60, ⟨"SherdField$Sheet", "<init>", "()V"⟩, "SherdField") : String × Nat × MethodName × String) ∈ nst := List.mem_of_getElem? (i := 7) rfl
theorem tn_338 : (("SherdField$Sorts", 13, ⟨"SherdField", "within", "(III)Z"⟩, "SherdField") : String × Nat × MethodName × String) ∈ nst := List.mem_of_getElem? (i := 8) rfl
theorem tn_377 : (("SherdField$Leaves", 60, ⟨"SherdField", "within", "(III)Z"⟩, "SherdField") : String × Nat × MethodName × String) ∈ nst := List.mem_of_getElem? (i := 9) rfl
theorem tn_682 : (("SherdField$Ground", 70, ⟨"SherdField", "within", "(III)Z"⟩, "SherdField") : String × Nat × MethodName × String) ∈ nst := List.mem_of_getElem? (i := 10) rfl
theorem tn_692 : (("SherdField$Ground", 87, ⟨"SherdField", "toInt", "(Z)I"⟩, "SherdField") : String × Nat × MethodName × String) ∈ nst := List.mem_of_getElem? (i := 11) rfl
theorem tn_984 : (("SherdField$Leaves", 52, ⟨"SherdField", "toInt", "(Z)I"⟩, "SherdField") : String × Nat × MethodName × String) ∈ nst := List.mem_of_getElem? (i := 12) rfl
def strL : List (Nat × String) := [(61, "rows"), (71, "to"), (77, "days"), (83, "but"), (85, "who"), (87, "or")]
def lenS : List Nat := [4, 2, 4, 3, 3, 2]
def bytS : List (List Int32) := [[114, 111, 119, 115], [116, 111], [100, 97, 121, 115], [98, 117, 116], [119, 104, 111], [111, 114]]
/-- what the machine's tables and its old cells say, from the start on: links to nest mates, the String constants, one static -/
def Ez (E : Ev) (A : Nat → Prop) (U : State) : Prop := (∀ q ∈ nst, va_Nw (.methodLinkNest q.1 q.2.1 q.2.2.1 q.2.2.2) U) ∧ vk_S 6 lenS bytS E.2.2.2 (fun i => E.2.2.2 (6 + i)) A U U.heap ∧ (∀ (i : Nat) (q : Nat × String), strL[i]? = some q → vk_R "SherdField$LeaveReader" q.1 q.2 (E.2.2.2 i) U) ∧ va_Z "java/lang/String" "COMPACT_STRINGS" "Z" (.int 1) A U U.heap
theorem Ez.at {E : Ev} {A : Nat → Prop} {s U : State} {H : Heap} {locs : List Loc} (h : Ez E A s) (hS : va_S A s.heap H locs) (hU : U.heap = H) (hW : s.WarmedH U.vm) : Ez E A U := ⟨fun q hq => (h.1 q hq).warmM hW, by rw [hU]; exact (h.2.1.kept hS.2.1).moved hW.alike, fun i q hq => (h.2.2.1 i q hq).warm hW, by rw [hU]; exact (h.2.2.2.kept hS.2.1).moved hW.alike⟩
theorem Ez.blind {E : Ev} {A : Nat → Prop} {U : State} {g : JFrame} {mk : MethodId} {a : Array Value} (h : Ez E A U) : Ez E A (U.calling g mk a) := ⟨fun q hq => (h.1 q hq).same rfl rfl, h.2.1.moved (Vm.Alike.refl U.vm), fun i q hq => (h.2.2.1 i q hq).same rfl, h.2.2.2.moved (Vm.Alike.refl U.vm)⟩
def tyl (cy : Nat → ClassId) : List (ClassId × FieldType) := [(cy 0, .byte), (cy 1, .int), (cy 2, .long), (cy 3, .short), (cy 4, .boolean)]
/-- what stays fixed over a walk -/
def Cx (p : Program) (s : State) (m : MethodId) (args : Array Value) (meth : Method) (c : Code) (E : Ev) (A : Nat → Prop) (own : String) (cc : ByteArray) (nL : Nat) (ret : Option FieldType) : Prop := CallFix p m c cc nL s args gtb own ∧ va_K (dG E) vwCl (tyl E.2.2.1) s ∧ meth.sig.returnType = ret ∧ meth.locks = false ∧ Ez E A s
/-- the machine at pc with the locals lv, the stack st, the world ws, comes to Q -/
def G (p : Program) (l : Launch) (e : Env) (R : Room) (s : State) (m : MethodId) (args : Array Value) (below : List Frame) (meth : Method) (c : Code) (cells slots : Nat) (Q : State → Prop) (E : Ev) (A : Nat → Prop) (nL : Nat) (ws : va_W) (pc : Nat) (lv : List (Nat × Value)) (st : List Value) : Prop := ∀ (H : Heap) (locs : List Loc) (ls : Array Slot), va_P (dG E) vwCl ws H → va_S A s.heap H locs → lv_has ls nL lv → W p l e R s m args below meth c H locs cells slots Q (F0 m pc ls st)
/-- a method's end: the answer, the world -/
def Qz (E : Ev) (A : Nat → Prop) (v : Option Value) (ws' : va_W) : Array Value → State → Outcome → State → Prop := fun _ st oc t => oc = .returned v ∧ va_P (dG E) vwCl ws' t.heap ∧ va_F A st t
def Pz (E : Ev) (A : Nat → Prop) (av : List Value) (ws : va_W) : Array Value → State → Prop := va_Pc av (fun U => va_P (dG E) vwCl ws U.heap ∧ va_K (dG E) vwCl (tyl E.2.2.1) U ∧ Ez E A U)
/-- a contract: from the world ws with the arguments av the method answers v and leaves the world ws' -/
def Ct (l : Launch) (E : Ev) (y : MethodName) (cd : Cond) (rm : Room) (A : Nat → Prop) (ws : va_W) (av : List Value) (v : Option Value) (ws' : va_W) : Prop := Met l y (cd :: gtb) rm (Pz E A av ws) (Qz E A v ws') 0 0 A
/-- storing into a local -/
def lvput (lv : List (Nat × Value)) (i : Nat) (v : Value) : List (Nat × Value) := match lv with
  | [] => [(i, v)]
  | q :: r => if q.1 == i then (i, v) :: r.filter (fun q => !(q.1 == i) && !(q.1 + 1 == i && q.2.category == 2)) else if q.1 + 1 == i && q.2.category == 2 then lvput r i v else q :: lvput r i v
theorem lvput_mem : ∀ (lv : List (Nat × Value)) (i : Nat) (v : Value) (q : Nat × Value), q ∈ lvput lv i v → q ∈ (i, v) :: lv.filter (fun q => !(q.1 == i) && !(q.1 + 1 == i && q.2.category == 2))
  | [], i, v, q, h => by simpa [lvput] using h
  | a :: r, i, v, q, h => by
    unfold lvput at h
    split at h
    · rename_i h1
      rcases List.mem_cons.mp h with h | h
      · rw [h]; exact List.mem_cons_self
      · refine List.mem_cons_of_mem _ ?_
        rw [List.filter_cons, if_neg (by simp [h1])]
        exact h
    · rename_i h1
      split at h
      · rename_i h2
        have ih := lvput_mem r i v q h
        rcases List.mem_cons.mp ih with h | h
        · rw [h]; exact List.mem_cons_self
        · refine List.mem_cons_of_mem _ ?_
          rw [List.filter_cons, if_neg (by simp [h2])]
          exact h
      · rename_i h2
        rcases List.mem_cons.mp h with h | h
        · refine List.mem_cons_of_mem _ ?_
          rw [h, List.filter_cons, if_pos (by simp only [Bool.and_eq_true, Bool.not_eq_true']; exact ⟨by simpa using h1, by simpa using h2⟩)]
          exact List.mem_cons_self
        · have ih := lvput_mem r i v q h
          rcases List.mem_cons.mp ih with h | h
          · rw [h]; exact List.mem_cons_self
          · refine List.mem_cons_of_mem _ ?_
            rw [List.filter_cons]
            split
            · exact List.mem_cons_of_mem _ h
            · exact h
theorem lv_has_mem {ls : Array Slot} {nL : Nat} {l l' : List (Nat × Value)} (h : lv_has ls nL l) (hm : ∀ q ∈ l', q ∈ l) : lv_has ls nL l' := ⟨h.1, h.2.1, fun q hq => h.2.2 q (hm q hq)⟩
def lvput2 (lv : List (Nat × Value)) (i : Nat) (v : Value) : List (Nat × Value) := lv.filter (fun q => !(q.1 == i) && (!(q.1 == i + 1) && !(q.1 + 1 == i && q.2.category == 2))) ++ [(i, v)]
theorem lvput2_mem (lv : List (Nat × Value)) (i : Nat) (v : Value) (q : Nat × Value) (h : q ∈ lvput2 lv i v) : q ∈ (i, v) :: lv.filter (fun q => !(q.1 == i) && (!(q.1 == i + 1) && !(q.1 + 1 == i && q.2.category == 2))) := by
  rcases List.mem_append.mp h with h | h
  · exact List.mem_cons_of_mem _ h
  · rw [List.mem_singleton.mp h]; exact List.mem_cons_self
section GR
variable {p : Program} {l : Launch} {e : Env} {R : Room} {s : State} {m : MethodId} {args : Array Value} {below : List Frame} {meth : Method} {c : Code} {cells slots : Nat} {Q : State → Prop}
variable {E : Ev} {A : Nat → Prop} {nL : Nat} {ws ws' : va_W} {pc : Nat} {lv lv' : List (Nat × Value)} {st : List Value} {own : String} {cc : ByteArray} {ret : Option FieldType}
theorem g_iconst (hc : Cx p s m args meth c E A own cc nL ret) {n : Int} {v : Int32} (hd : decode cc pc = .ok (.iconst n, 1)) (hv : Int32.ofInt n = v) (k : G p l e R s m args below meth c cells slots Q E A nL ws (pc + 1) lv (.int v :: st)) : G p l e R s m args below meth c cells slots Q E A nL ws (pc) lv (st) := fun H locs ls h1 h2 h3 => lv_iconst hc.1.1 hc.1.2.1 hd hv (k H locs ls h1 h2 h3)
theorem g_bipush (hc : Cx p s m args meth c E A own cc nL ret) {n : Int} {v : Int32} (hd : decode cc pc = .ok (.bipush n, 2)) (hv : (Int8.ofInt n).toInt32 = v) (k : G p l e R s m args below meth c cells slots Q E A nL ws (pc + 2) lv (.int v :: st)) : G p l e R s m args below meth c cells slots Q E A nL ws (pc) lv (st) := fun H locs ls h1 h2 h3 => lv_bipush hc.1.1 hc.1.2.1 hd hv (k H locs ls h1 h2 h3)
theorem g_sipush (hc : Cx p s m args meth c E A own cc nL ret) {n : Int} {v : Int32} (hd : decode cc pc = .ok (.sipush n, 3)) (hv : (Int16.ofInt n).toInt32 = v) (k : G p l e R s m args below meth c cells slots Q E A nL ws (pc + 3) lv (.int v :: st)) : G p l e R s m args below meth c cells slots Q E A nL ws (pc) lv (st) := fun H locs ls h1 h2 h3 => lv_sipush hc.1.1 hc.1.2.1 hd hv (k H locs ls h1 h2 h3)
theorem g_lconst (hc : Cx p s m args meth c E A own cc nL ret) {n : Fin 2} {v : Int64} (hd : decode cc pc = .ok (.lconst n, 1)) (hv : Int64.ofNat (n : Nat) = v) (k : G p l e R s m args below meth c cells slots Q E A nL ws (pc + 1) lv (.long v :: st)) : G p l e R s m args below meth c cells slots Q E A nL ws (pc) lv (st) := fun H locs ls h1 h2 h3 => lv_lconst hc.1.1 hc.1.2.1 hd hv (k H locs ls h1 h2 h3)
theorem g_iload_n (hc : Cx p s m args meth c E A own cc nL ret) {f : Fin 4} {i : Nat} {x : Int32} (k0 : Nat) (hd : decode cc pc = .ok (.iload_n f, 1)) (hi : (f : Nat) = i) (hk : lv[k0]? = some (i, .int x)) (k : G p l e R s m args below meth c cells slots Q E A nL ws (pc + 1) lv (.int x :: st)) : G p l e R s m args below meth c cells slots Q E A nL ws (pc) lv (st) := fun H locs ls h1 h2 h3 => lv_iload_n hc.1.1 hc.1.2.1 hd hi (lv_at h3 k0 hk) (k H locs ls h1 h2 h3)
theorem g_iload (hc : Cx p s m args meth c E A own cc nL ret) {i : Nat} {x : Int32} (k0 : Nat) (hd : decode cc pc = .ok (.iload i, 2)) (hk : lv[k0]? = some (i, .int x)) (k : G p l e R s m args below meth c cells slots Q E A nL ws (pc + 2) lv (.int x :: st)) : G p l e R s m args below meth c cells slots Q E A nL ws (pc) lv (st) := fun H locs ls h1 h2 h3 => lv_iload hc.1.1 hc.1.2.1 hd (lv_at h3 k0 hk) (k H locs ls h1 h2 h3)
theorem g_istore_n (hc : Cx p s m args meth c E A own cc nL ret) {f : Fin 4} {i : Nat} {x : Int32} (hd : decode cc pc = .ok (.istore_n f, 1)) (hi : (f : Nat) = i) (hn : i < nL) (hl : lvput lv i (.int x) = lv') (k : G p l e R s m args below meth c cells slots Q E A nL ws (pc + 1) lv' (st)) : G p l e R s m args below meth c cells slots Q E A nL ws (pc) lv (.int x :: st) := fun H locs ls h1 h2 h3 => lv_istore_n hc.1.1 hc.1.2.1 hd hi h3 hn rfl (fun ls h4 => k H locs ls h1 h2 (lv_has_mem h4 (fun q hq => lvput_mem _ _ _ q (by rw [hl]; exact hq))))
theorem g_istore (hc : Cx p s m args meth c E A own cc nL ret) {i : Nat} {x : Int32} (hd : decode cc pc = .ok (.istore i, 2)) (hn : i < nL) (hl : lvput lv i (.int x) = lv') (k : G p l e R s m args below meth c cells slots Q E A nL ws (pc + 2) lv' (st)) : G p l e R s m args below meth c cells slots Q E A nL ws (pc) lv (.int x :: st) := fun H locs ls h1 h2 h3 => lv_istore hc.1.1 hc.1.2.1 hd h3 hn rfl (fun ls h4 => k H locs ls h1 h2 (lv_has_mem h4 (fun q hq => lvput_mem _ _ _ q (by rw [hl]; exact hq))))
theorem g_lload_n (hc : Cx p s m args meth c E A own cc nL ret) {f : Fin 4} {i : Nat} {x : Int64} (k0 : Nat) (hd : decode cc pc = .ok (.lload_n f, 1)) (hi : (f : Nat) = i) (hk : lv[k0]? = some (i, .long x)) (k : G p l e R s m args below meth c cells slots Q E A nL ws (pc + 1) lv (.long x :: st)) : G p l e R s m args below meth c cells slots Q E A nL ws (pc) lv (st) := fun H locs ls h1 h2 h3 => lv_lload_n hc.1.1 hc.1.2.1 hd hi (lv_at h3 k0 hk) (k H locs ls h1 h2 h3)
theorem g_lload (hc : Cx p s m args meth c E A own cc nL ret) {i : Nat} {x : Int64} (k0 : Nat) (hd : decode cc pc = .ok (.lload i, 2)) (hk : lv[k0]? = some (i, .long x)) (k : G p l e R s m args below meth c cells slots Q E A nL ws (pc + 2) lv (.long x :: st)) : G p l e R s m args below meth c cells slots Q E A nL ws (pc) lv (st) := fun H locs ls h1 h2 h3 => lv_lload hc.1.1 hc.1.2.1 hd (lv_at h3 k0 hk) (k H locs ls h1 h2 h3)
theorem g_lstore_n (hc : Cx p s m args meth c E A own cc nL ret) {f : Fin 4} {i : Nat} {x : Int64} (hd : decode cc pc = .ok (.lstore_n f, 1)) (hi : (f : Nat) = i) (hn : i + 1 < nL) (hl : lvput2 lv i (.long x) = lv') (k : G p l e R s m args below meth c cells slots Q E A nL ws (pc + 1) lv' (st)) : G p l e R s m args below meth c cells slots Q E A nL ws (pc) lv (.long x :: st) := fun H locs ls h1 h2 h3 => lv_lstore_n hc.1.1 hc.1.2.1 hd hi h3 hn rfl (fun ls h4 => k H locs ls h1 h2 (lv_has_mem h4 (fun q hq => lvput2_mem _ _ _ q (by rw [hl]; exact hq))))
theorem g_lstore (hc : Cx p s m args meth c E A own cc nL ret) {i : Nat} {x : Int64} (hd : decode cc pc = .ok (.lstore i, 2)) (hn : i + 1 < nL) (hl : lvput2 lv i (.long x) = lv') (k : G p l e R s m args below meth c cells slots Q E A nL ws (pc + 2) lv' (st)) : G p l e R s m args below meth c cells slots Q E A nL ws (pc) lv (.long x :: st) := fun H locs ls h1 h2 h3 => lv_lstore hc.1.1 hc.1.2.1 hd h3 hn rfl (fun ls h4 => k H locs ls h1 h2 (lv_has_mem h4 (fun q hq => lvput2_mem _ _ _ q (by rw [hl]; exact hq))))
theorem g_aload_n (hc : Cx p s m args meth c E A own cc nL ret) {f : Fin 4} {i : Nat} {x : Nat} (k0 : Nat) (hd : decode cc pc = .ok (.aload_n f, 1)) (hi : (f : Nat) = i) (hk : lv[k0]? = some (i, .ref x)) (k : G p l e R s m args below meth c cells slots Q E A nL ws (pc + 1) lv (.ref x :: st)) : G p l e R s m args below meth c cells slots Q E A nL ws (pc) lv (st) := fun H locs ls h1 h2 h3 => lv_aload_n hc.1.1 hc.1.2.1 hd hi (lv_at h3 k0 hk) (k H locs ls h1 h2 h3)
theorem g_aload (hc : Cx p s m args meth c E A own cc nL ret) {i : Nat} {x : Nat} (k0 : Nat) (hd : decode cc pc = .ok (.aload i, 2)) (hk : lv[k0]? = some (i, .ref x)) (k : G p l e R s m args below meth c cells slots Q E A nL ws (pc + 2) lv (.ref x :: st)) : G p l e R s m args below meth c cells slots Q E A nL ws (pc) lv (st) := fun H locs ls h1 h2 h3 => lv_aload hc.1.1 hc.1.2.1 hd (lv_at h3 k0 hk) (k H locs ls h1 h2 h3)
theorem g_astore_n (hc : Cx p s m args meth c E A own cc nL ret) {f : Fin 4} {i : Nat} {x : Nat} (hd : decode cc pc = .ok (.astore_n f, 1)) (hi : (f : Nat) = i) (hn : i < nL) (hl : lvput lv i (.ref x) = lv') (k : G p l e R s m args below meth c cells slots Q E A nL ws (pc + 1) lv' (st)) : G p l e R s m args below meth c cells slots Q E A nL ws (pc) lv (.ref x :: st) := fun H locs ls h1 h2 h3 => lv_astore_n hc.1.1 hc.1.2.1 hd hi h3 hn rfl (fun ls h4 => k H locs ls h1 h2 (lv_has_mem h4 (fun q hq => lvput_mem _ _ _ q (by rw [hl]; exact hq))))
theorem g_astore (hc : Cx p s m args meth c E A own cc nL ret) {i : Nat} {x : Nat} (hd : decode cc pc = .ok (.astore i, 2)) (hn : i < nL) (hl : lvput lv i (.ref x) = lv') (k : G p l e R s m args below meth c cells slots Q E A nL ws (pc + 2) lv' (st)) : G p l e R s m args below meth c cells slots Q E A nL ws (pc) lv (.ref x :: st) := fun H locs ls h1 h2 h3 => lv_astore hc.1.1 hc.1.2.1 hd h3 hn rfl (fun ls h4 => k H locs ls h1 h2 (lv_has_mem h4 (fun q hq => lvput_mem _ _ _ q (by rw [hl]; exact hq))))
theorem g_iinc (hc : Cx p s m args meth c E A own cc nL ret) {i : Nat} {n : Int} {x v : Int32} (k0 : Nat) (hd : decode cc pc = .ok (.iinc i n, 3)) (hk : lv[k0]? = some (i, .int x)) (hv : x + Int32.ofInt n = v) (hn : i < nL) (hl : lvput lv i (.int v) = lv') (k : G p l e R s m args below meth c cells slots Q E A nL ws (pc + 3) lv' (st)) : G p l e R s m args below meth c cells slots Q E A nL ws (pc) lv (st) := fun H locs ls h1 h2 h3 => lv_iinc hc.1.1 hc.1.2.1 hd h3 hk hv hn rfl (fun ls h4 => k H locs ls h1 h2 (lv_has_mem h4 (fun q hq => lvput_mem _ _ _ q (by rw [hl]; exact hq))))
theorem g_iadd (hc : Cx p s m args meth c E A own cc nL ret) {x y : Int32} (hd : decode cc pc = .ok (.iadd, 1))  (k : G p l e R s m args below meth c cells slots Q E A nL ws (pc + 1) lv (.int (x + y) :: st)) : G p l e R s m args below meth c cells slots Q E A nL ws (pc) lv (.int y :: .int x :: st) := fun H locs ls h1 h2 h3 => lv_iadd hc.1.1 hc.1.2.1 hd  (k H locs ls h1 h2 h3)
theorem g_isub (hc : Cx p s m args meth c E A own cc nL ret) {x y : Int32} (hd : decode cc pc = .ok (.isub, 1))  (k : G p l e R s m args below meth c cells slots Q E A nL ws (pc + 1) lv (.int (x - y) :: st)) : G p l e R s m args below meth c cells slots Q E A nL ws (pc) lv (.int y :: .int x :: st) := fun H locs ls h1 h2 h3 => lv_isub hc.1.1 hc.1.2.1 hd  (k H locs ls h1 h2 h3)
theorem g_imul (hc : Cx p s m args meth c E A own cc nL ret) {x y : Int32} (hd : decode cc pc = .ok (.imul, 1))  (k : G p l e R s m args below meth c cells slots Q E A nL ws (pc + 1) lv (.int (x * y) :: st)) : G p l e R s m args below meth c cells slots Q E A nL ws (pc) lv (.int y :: .int x :: st) := fun H locs ls h1 h2 h3 => lv_imul hc.1.1 hc.1.2.1 hd  (k H locs ls h1 h2 h3)
theorem g_iand (hc : Cx p s m args meth c E A own cc nL ret) {x y : Int32} (hd : decode cc pc = .ok (.iand, 1))  (k : G p l e R s m args below meth c cells slots Q E A nL ws (pc + 1) lv (.int (x &&& y) :: st)) : G p l e R s m args below meth c cells slots Q E A nL ws (pc) lv (.int y :: .int x :: st) := fun H locs ls h1 h2 h3 => lv_iand hc.1.1 hc.1.2.1 hd  (k H locs ls h1 h2 h3)
theorem g_ior (hc : Cx p s m args meth c E A own cc nL ret) {x y : Int32} (hd : decode cc pc = .ok (.ior, 1))  (k : G p l e R s m args below meth c cells slots Q E A nL ws (pc + 1) lv (.int (x ||| y) :: st)) : G p l e R s m args below meth c cells slots Q E A nL ws (pc) lv (.int y :: .int x :: st) := fun H locs ls h1 h2 h3 => lv_ior hc.1.1 hc.1.2.1 hd  (k H locs ls h1 h2 h3)
theorem g_ishl (hc : Cx p s m args meth c E A own cc nL ret) {x y : Int32} (hd : decode cc pc = .ok (.ishl, 1))  (k : G p l e R s m args below meth c cells slots Q E A nL ws (pc + 1) lv (.int (x <<< (y &&& 31)) :: st)) : G p l e R s m args below meth c cells slots Q E A nL ws (pc) lv (.int y :: .int x :: st) := fun H locs ls h1 h2 h3 => lv_ishl hc.1.1 hc.1.2.1 hd  (k H locs ls h1 h2 h3)
theorem g_ishr (hc : Cx p s m args meth c E A own cc nL ret) {x y : Int32} (hd : decode cc pc = .ok (.ishr, 1))  (k : G p l e R s m args below meth c cells slots Q E A nL ws (pc + 1) lv (.int (x >>> (y &&& 31)) :: st)) : G p l e R s m args below meth c cells slots Q E A nL ws (pc) lv (.int y :: .int x :: st) := fun H locs ls h1 h2 h3 => lv_ishr hc.1.1 hc.1.2.1 hd  (k H locs ls h1 h2 h3)
theorem g_idiv (hc : Cx p s m args meth c E A own cc nL ret) {x y : Int32} (hd : decode cc pc = .ok (.idiv, 1)) (hne : ¬ y = 0) (k : G p l e R s m args below meth c cells slots Q E A nL ws (pc + 1) lv (.int (x / y) :: st)) : G p l e R s m args below meth c cells slots Q E A nL ws (pc) lv (.int y :: .int x :: st) := fun H locs ls h1 h2 h3 => lv_idiv hc.1.1 hc.1.2.1 hd hne (k H locs ls h1 h2 h3)
theorem g_irem (hc : Cx p s m args meth c E A own cc nL ret) {x y : Int32} (hd : decode cc pc = .ok (.irem, 1)) (hne : ¬ y = 0) (k : G p l e R s m args below meth c cells slots Q E A nL ws (pc + 1) lv (.int (x - x / y * y) :: st)) : G p l e R s m args below meth c cells slots Q E A nL ws (pc) lv (.int y :: .int x :: st) := fun H locs ls h1 h2 h3 => lv_irem hc.1.1 hc.1.2.1 hd hne (k H locs ls h1 h2 h3)
theorem g_iushr (hc : Cx p s m args meth c E A own cc nL ret) {x y v : Int32} (hd : decode cc pc = .ok (.iushr, 1)) (hv : (x.toUInt32 >>> (y.toUInt32 &&& Int32.toUInt32 31)).toInt32 = v) (k : G p l e R s m args below meth c cells slots Q E A nL ws (pc + 1) lv (.int v :: st)) : G p l e R s m args below meth c cells slots Q E A nL ws (pc) lv (.int y :: .int x :: st) := fun H locs ls h1 h2 h3 => lv_iushr hc.1.1 hc.1.2.1 hd hv (k H locs ls h1 h2 h3)
theorem g_ladd (hc : Cx p s m args meth c E A own cc nL ret) {x y : Int64} (hd : decode cc pc = .ok (.ladd, 1))  (k : G p l e R s m args below meth c cells slots Q E A nL ws (pc + 1) lv (.long (x + y) :: st)) : G p l e R s m args below meth c cells slots Q E A nL ws (pc) lv (.long y :: .long x :: st) := fun H locs ls h1 h2 h3 => lv_ladd hc.1.1 hc.1.2.1 hd  (k H locs ls h1 h2 h3)
theorem g_lsub (hc : Cx p s m args meth c E A own cc nL ret) {x y : Int64} (hd : decode cc pc = .ok (.lsub, 1))  (k : G p l e R s m args below meth c cells slots Q E A nL ws (pc + 1) lv (.long (x - y) :: st)) : G p l e R s m args below meth c cells slots Q E A nL ws (pc) lv (.long y :: .long x :: st) := fun H locs ls h1 h2 h3 => lv_lsub hc.1.1 hc.1.2.1 hd  (k H locs ls h1 h2 h3)
theorem g_lmul (hc : Cx p s m args meth c E A own cc nL ret) {x y : Int64} (hd : decode cc pc = .ok (.lmul, 1))  (k : G p l e R s m args below meth c cells slots Q E A nL ws (pc + 1) lv (.long (x * y) :: st)) : G p l e R s m args below meth c cells slots Q E A nL ws (pc) lv (.long y :: .long x :: st) := fun H locs ls h1 h2 h3 => lv_lmul hc.1.1 hc.1.2.1 hd  (k H locs ls h1 h2 h3)
theorem g_land (hc : Cx p s m args meth c E A own cc nL ret) {x y : Int64} (hd : decode cc pc = .ok (.land, 1))  (k : G p l e R s m args below meth c cells slots Q E A nL ws (pc + 1) lv (.long (x &&& y) :: st)) : G p l e R s m args below meth c cells slots Q E A nL ws (pc) lv (.long y :: .long x :: st) := fun H locs ls h1 h2 h3 => lv_land hc.1.1 hc.1.2.1 hd  (k H locs ls h1 h2 h3)
theorem g_lor (hc : Cx p s m args meth c E A own cc nL ret) {x y : Int64} (hd : decode cc pc = .ok (.lor, 1))  (k : G p l e R s m args below meth c cells slots Q E A nL ws (pc + 1) lv (.long (x ||| y) :: st)) : G p l e R s m args below meth c cells slots Q E A nL ws (pc) lv (.long y :: .long x :: st) := fun H locs ls h1 h2 h3 => lv_lor hc.1.1 hc.1.2.1 hd  (k H locs ls h1 h2 h3)
theorem g_lxor (hc : Cx p s m args meth c E A own cc nL ret) {x y : Int64} (hd : decode cc pc = .ok (.lxor, 1))  (k : G p l e R s m args below meth c cells slots Q E A nL ws (pc + 1) lv (.long (x ^^^ y) :: st)) : G p l e R s m args below meth c cells slots Q E A nL ws (pc) lv (.long y :: .long x :: st) := fun H locs ls h1 h2 h3 => lv_lxor hc.1.1 hc.1.2.1 hd  (k H locs ls h1 h2 h3)
theorem g_lushr (hc : Cx p s m args meth c E A own cc nL ret) {x v : Int64} {y : Int32} (hd : decode cc pc = .ok (.lushr, 1)) (hv : (x.toUInt64 >>> (y.toInt64.toUInt64 &&& Int64.toUInt64 63)).toInt64 = v) (k : G p l e R s m args below meth c cells slots Q E A nL ws (pc + 1) lv (.long v :: st)) : G p l e R s m args below meth c cells slots Q E A nL ws (pc) lv (.int y :: .long x :: st) := fun H locs ls h1 h2 h3 => lv_lushr hc.1.1 hc.1.2.1 hd hv (k H locs ls h1 h2 h3)
theorem g_lshl (hc : Cx p s m args meth c E A own cc nL ret) {x v : Int64} {y : Int32} (hd : decode cc pc = .ok (.lshl, 1)) (hv : x <<< (y.toInt64 &&& 63) = v) (k : G p l e R s m args below meth c cells slots Q E A nL ws (pc + 1) lv (.long v :: st)) : G p l e R s m args below meth c cells slots Q E A nL ws (pc) lv (.int y :: .long x :: st) := fun H locs ls h1 h2 h3 => lv_lshl hc.1.1 hc.1.2.1 hd hv (k H locs ls h1 h2 h3)
theorem g_i2l (hc : Cx p s m args meth c E A own cc nL ret) {x : Int32} {v : Int64} (hd : decode cc pc = .ok (.i2l, 1)) (hv : x.toInt64 = v) (k : G p l e R s m args below meth c cells slots Q E A nL ws (pc + 1) lv (.long v :: st)) : G p l e R s m args below meth c cells slots Q E A nL ws (pc) lv (.int x :: st) := fun H locs ls h1 h2 h3 => lv_i2l hc.1.1 hc.1.2.1 hd hv (k H locs ls h1 h2 h3)
theorem g_l2i (hc : Cx p s m args meth c E A own cc nL ret) {x : Int64} {v : Int32} (hd : decode cc pc = .ok (.l2i, 1)) (hv : x.toInt32 = v) (k : G p l e R s m args below meth c cells slots Q E A nL ws (pc + 1) lv (.int v :: st)) : G p l e R s m args below meth c cells slots Q E A nL ws (pc) lv (.long x :: st) := fun H locs ls h1 h2 h3 => lv_l2i hc.1.1 hc.1.2.1 hd hv (k H locs ls h1 h2 h3)
theorem g_i2b (hc : Cx p s m args meth c E A own cc nL ret) {x v : Int32} (hd : decode cc pc = .ok (.i2b, 1)) (hv : x.toInt8.toInt32 = v) (k : G p l e R s m args below meth c cells slots Q E A nL ws (pc + 1) lv (.int v :: st)) : G p l e R s m args below meth c cells slots Q E A nL ws (pc) lv (.int x :: st) := fun H locs ls h1 h2 h3 => lv_i2b hc.1.1 hc.1.2.1 hd hv (k H locs ls h1 h2 h3)
theorem g_i2s (hc : Cx p s m args meth c E A own cc nL ret) {x v : Int32} (hd : decode cc pc = .ok (.i2s, 1)) (hv : x.toInt16.toInt32 = v) (k : G p l e R s m args below meth c cells slots Q E A nL ws (pc + 1) lv (.int v :: st)) : G p l e R s m args below meth c cells slots Q E A nL ws (pc) lv (.int x :: st) := fun H locs ls h1 h2 h3 => lv_i2s hc.1.1 hc.1.2.1 hd hv (k H locs ls h1 h2 h3)
theorem g_i2c (hc : Cx p s m args meth c E A own cc nL ret) {x v : Int32} (hd : decode cc pc = .ok (.i2c, 1)) (hv : (x.toUInt32 % 65536).toInt32 = v) (k : G p l e R s m args below meth c cells slots Q E A nL ws (pc + 1) lv (.int v :: st)) : G p l e R s m args below meth c cells slots Q E A nL ws (pc) lv (.int x :: st) := fun H locs ls h1 h2 h3 => lv_i2c hc.1.1 hc.1.2.1 hd hv (k H locs ls h1 h2 h3)
theorem g_lcmp (hc : Cx p s m args meth c E A own cc nL ret) {x y : Int64} (hd : decode cc pc = .ok (.lcmp, 1)) (k : G p l e R s m args below meth c cells slots Q E A nL ws (pc + 1) lv (.int (lg_cmp x y) :: st)) : G p l e R s m args below meth c cells slots Q E A nL ws (pc) lv (.long y :: .long x :: st) := fun H locs ls h1 h2 h3 => W.lcmp hc.1.1 hc.1.2.1 hd (k H locs ls h1 h2 h3)
theorem g_dup (hc : Cx p s m args meth c E A own cc nL ret) {va : Value} (hd : decode cc pc = .ok (.dup, 1)) (hva : va.category = 1) (k : G p l e R s m args below meth c cells slots Q E A nL ws (pc + 1) lv (va :: va :: st)) : G p l e R s m args below meth c cells slots Q E A nL ws (pc) lv (va :: st) := fun H locs ls h1 h2 h3 => lv_dup hc.1.1 hc.1.2.1 hd hva (k H locs ls h1 h2 h3)
theorem g_dup2 (hc : Cx p s m args meth c E A own cc nL ret) {va vb : Value} (hd : decode cc pc = .ok (.dup2, 1)) (hva : va.category = 1) (hvb : vb.category = 1) (k : G p l e R s m args below meth c cells slots Q E A nL ws (pc + 1) lv (va :: vb :: va :: vb :: st)) : G p l e R s m args below meth c cells slots Q E A nL ws (pc) lv (va :: vb :: st) := fun H locs ls h1 h2 h3 => lv_dup2_11 hc.1.1 hc.1.2.1 hd hva hvb (k H locs ls h1 h2 h3)
theorem g_if_eq (hc : Cx p s m args meth c E A own cc nL ret) {x : Int32} {off : Int} (tgt : Nat) (hd : decode cc pc = .ok (.ifCond .eq off, 3)) (ht : (pc : Int) + off = (tgt : Int)) (kt : x = 0 → G p l e R s m args below meth c cells slots Q E A nL ws (tgt) lv (st)) (kf : ¬ x = 0 → G p l e R s m args below meth c cells slots Q E A nL ws (pc + 3) lv (st)) : G p l e R s m args below meth c cells slots Q E A nL ws (pc) lv (.int x :: st) := fun H locs ls h1 h2 h3 => lv_if_eq hc.1.1 hc.1.2.1 hd ht (fun z => kt z H locs ls h1 h2 h3) (fun z => kf z H locs ls h1 h2 h3)
theorem g_if_eq_t (hc : Cx p s m args meth c E A own cc nL ret) {x : Int32} {off : Int} (tgt : Nat) (hd : decode cc pc = .ok (.ifCond .eq off, 3)) (ht : (pc : Int) + off = (tgt : Int)) (hz : x = 0) (k : G p l e R s m args below meth c cells slots Q E A nL ws (tgt) lv (st)) : G p l e R s m args below meth c cells slots Q E A nL ws (pc) lv (.int x :: st) := g_if_eq hc tgt hd ht (fun _ => k) (fun z => absurd hz z)
theorem g_if_eq_f (hc : Cx p s m args meth c E A own cc nL ret) {x : Int32} {off : Int} (tgt : Nat) (hd : decode cc pc = .ok (.ifCond .eq off, 3)) (ht : (pc : Int) + off = (tgt : Int)) (hz : ¬ x = 0) (k : G p l e R s m args below meth c cells slots Q E A nL ws (pc + 3) lv (st)) : G p l e R s m args below meth c cells slots Q E A nL ws (pc) lv (.int x :: st) := g_if_eq hc tgt hd ht (fun z => absurd z hz) (fun _ => k)
theorem g_icmp_eq (hc : Cx p s m args meth c E A own cc nL ret) {x y : Int32} {off : Int} (tgt : Nat) (hd : decode cc pc = .ok (.if_icmp .eq off, 3)) (ht : (pc : Int) + off = (tgt : Int)) (kt : x = y → G p l e R s m args below meth c cells slots Q E A nL ws (tgt) lv (st)) (kf : ¬ x = y → G p l e R s m args below meth c cells slots Q E A nL ws (pc + 3) lv (st)) : G p l e R s m args below meth c cells slots Q E A nL ws (pc) lv (.int y :: .int x :: st) := fun H locs ls h1 h2 h3 => lv_icmp_eq hc.1.1 hc.1.2.1 hd ht (fun z => kt z H locs ls h1 h2 h3) (fun z => kf z H locs ls h1 h2 h3)
theorem g_icmp_eq_t (hc : Cx p s m args meth c E A own cc nL ret) {x y : Int32} {off : Int} (tgt : Nat) (hd : decode cc pc = .ok (.if_icmp .eq off, 3)) (ht : (pc : Int) + off = (tgt : Int)) (hz : x = y) (k : G p l e R s m args below meth c cells slots Q E A nL ws (tgt) lv (st)) : G p l e R s m args below meth c cells slots Q E A nL ws (pc) lv (.int y :: .int x :: st) := g_icmp_eq hc tgt hd ht (fun _ => k) (fun z => absurd hz z)
theorem g_icmp_eq_f (hc : Cx p s m args meth c E A own cc nL ret) {x y : Int32} {off : Int} (tgt : Nat) (hd : decode cc pc = .ok (.if_icmp .eq off, 3)) (ht : (pc : Int) + off = (tgt : Int)) (hz : ¬ x = y) (k : G p l e R s m args below meth c cells slots Q E A nL ws (pc + 3) lv (st)) : G p l e R s m args below meth c cells slots Q E A nL ws (pc) lv (.int y :: .int x :: st) := g_icmp_eq hc tgt hd ht (fun z => absurd z hz) (fun _ => k)
theorem g_if_ne (hc : Cx p s m args meth c E A own cc nL ret) {x : Int32} {off : Int} (tgt : Nat) (hd : decode cc pc = .ok (.ifCond .ne off, 3)) (ht : (pc : Int) + off = (tgt : Int)) (kt : ¬ x = 0 → G p l e R s m args below meth c cells slots Q E A nL ws (tgt) lv (st)) (kf : x = 0 → G p l e R s m args below meth c cells slots Q E A nL ws (pc + 3) lv (st)) : G p l e R s m args below meth c cells slots Q E A nL ws (pc) lv (.int x :: st) := fun H locs ls h1 h2 h3 => lv_if_ne hc.1.1 hc.1.2.1 hd ht (fun z => kt z H locs ls h1 h2 h3) (fun z => kf z H locs ls h1 h2 h3)
theorem g_if_ne_t (hc : Cx p s m args meth c E A own cc nL ret) {x : Int32} {off : Int} (tgt : Nat) (hd : decode cc pc = .ok (.ifCond .ne off, 3)) (ht : (pc : Int) + off = (tgt : Int)) (hz : ¬ x = 0) (k : G p l e R s m args below meth c cells slots Q E A nL ws (tgt) lv (st)) : G p l e R s m args below meth c cells slots Q E A nL ws (pc) lv (.int x :: st) := g_if_ne hc tgt hd ht (fun _ => k) (fun z => absurd z hz)
theorem g_if_ne_f (hc : Cx p s m args meth c E A own cc nL ret) {x : Int32} {off : Int} (tgt : Nat) (hd : decode cc pc = .ok (.ifCond .ne off, 3)) (ht : (pc : Int) + off = (tgt : Int)) (hz : x = 0) (k : G p l e R s m args below meth c cells slots Q E A nL ws (pc + 3) lv (st)) : G p l e R s m args below meth c cells slots Q E A nL ws (pc) lv (.int x :: st) := g_if_ne hc tgt hd ht (fun z => absurd hz z) (fun _ => k)
theorem g_icmp_ne (hc : Cx p s m args meth c E A own cc nL ret) {x y : Int32} {off : Int} (tgt : Nat) (hd : decode cc pc = .ok (.if_icmp .ne off, 3)) (ht : (pc : Int) + off = (tgt : Int)) (kt : ¬ x = y → G p l e R s m args below meth c cells slots Q E A nL ws (tgt) lv (st)) (kf : x = y → G p l e R s m args below meth c cells slots Q E A nL ws (pc + 3) lv (st)) : G p l e R s m args below meth c cells slots Q E A nL ws (pc) lv (.int y :: .int x :: st) := fun H locs ls h1 h2 h3 => lv_icmp_ne hc.1.1 hc.1.2.1 hd ht (fun z => kt z H locs ls h1 h2 h3) (fun z => kf z H locs ls h1 h2 h3)
theorem g_icmp_ne_t (hc : Cx p s m args meth c E A own cc nL ret) {x y : Int32} {off : Int} (tgt : Nat) (hd : decode cc pc = .ok (.if_icmp .ne off, 3)) (ht : (pc : Int) + off = (tgt : Int)) (hz : ¬ x = y) (k : G p l e R s m args below meth c cells slots Q E A nL ws (tgt) lv (st)) : G p l e R s m args below meth c cells slots Q E A nL ws (pc) lv (.int y :: .int x :: st) := g_icmp_ne hc tgt hd ht (fun _ => k) (fun z => absurd z hz)
theorem g_icmp_ne_f (hc : Cx p s m args meth c E A own cc nL ret) {x y : Int32} {off : Int} (tgt : Nat) (hd : decode cc pc = .ok (.if_icmp .ne off, 3)) (ht : (pc : Int) + off = (tgt : Int)) (hz : x = y) (k : G p l e R s m args below meth c cells slots Q E A nL ws (pc + 3) lv (st)) : G p l e R s m args below meth c cells slots Q E A nL ws (pc) lv (.int y :: .int x :: st) := g_icmp_ne hc tgt hd ht (fun z => absurd hz z) (fun _ => k)
theorem g_if_lt (hc : Cx p s m args meth c E A own cc nL ret) {x : Int32} {off : Int} (tgt : Nat) (hd : decode cc pc = .ok (.ifCond .lt off, 3)) (ht : (pc : Int) + off = (tgt : Int)) (kt : x < 0 → G p l e R s m args below meth c cells slots Q E A nL ws (tgt) lv (st)) (kf : ¬ x < 0 → G p l e R s m args below meth c cells slots Q E A nL ws (pc + 3) lv (st)) : G p l e R s m args below meth c cells slots Q E A nL ws (pc) lv (.int x :: st) := fun H locs ls h1 h2 h3 => lv_if_lt hc.1.1 hc.1.2.1 hd ht (fun z => kt z H locs ls h1 h2 h3) (fun z => kf z H locs ls h1 h2 h3)
theorem g_if_lt_t (hc : Cx p s m args meth c E A own cc nL ret) {x : Int32} {off : Int} (tgt : Nat) (hd : decode cc pc = .ok (.ifCond .lt off, 3)) (ht : (pc : Int) + off = (tgt : Int)) (hz : x < 0) (k : G p l e R s m args below meth c cells slots Q E A nL ws (tgt) lv (st)) : G p l e R s m args below meth c cells slots Q E A nL ws (pc) lv (.int x :: st) := g_if_lt hc tgt hd ht (fun _ => k) (fun z => absurd hz z)
theorem g_if_lt_f (hc : Cx p s m args meth c E A own cc nL ret) {x : Int32} {off : Int} (tgt : Nat) (hd : decode cc pc = .ok (.ifCond .lt off, 3)) (ht : (pc : Int) + off = (tgt : Int)) (hz : ¬ x < 0) (k : G p l e R s m args below meth c cells slots Q E A nL ws (pc + 3) lv (st)) : G p l e R s m args below meth c cells slots Q E A nL ws (pc) lv (.int x :: st) := g_if_lt hc tgt hd ht (fun z => absurd z hz) (fun _ => k)
theorem g_icmp_lt (hc : Cx p s m args meth c E A own cc nL ret) {x y : Int32} {off : Int} (tgt : Nat) (hd : decode cc pc = .ok (.if_icmp .lt off, 3)) (ht : (pc : Int) + off = (tgt : Int)) (kt : x < y → G p l e R s m args below meth c cells slots Q E A nL ws (tgt) lv (st)) (kf : ¬ x < y → G p l e R s m args below meth c cells slots Q E A nL ws (pc + 3) lv (st)) : G p l e R s m args below meth c cells slots Q E A nL ws (pc) lv (.int y :: .int x :: st) := fun H locs ls h1 h2 h3 => lv_icmp_lt hc.1.1 hc.1.2.1 hd ht (fun z => kt z H locs ls h1 h2 h3) (fun z => kf z H locs ls h1 h2 h3)
theorem g_icmp_lt_t (hc : Cx p s m args meth c E A own cc nL ret) {x y : Int32} {off : Int} (tgt : Nat) (hd : decode cc pc = .ok (.if_icmp .lt off, 3)) (ht : (pc : Int) + off = (tgt : Int)) (hz : x < y) (k : G p l e R s m args below meth c cells slots Q E A nL ws (tgt) lv (st)) : G p l e R s m args below meth c cells slots Q E A nL ws (pc) lv (.int y :: .int x :: st) := g_icmp_lt hc tgt hd ht (fun _ => k) (fun z => absurd hz z)
theorem g_icmp_lt_f (hc : Cx p s m args meth c E A own cc nL ret) {x y : Int32} {off : Int} (tgt : Nat) (hd : decode cc pc = .ok (.if_icmp .lt off, 3)) (ht : (pc : Int) + off = (tgt : Int)) (hz : ¬ x < y) (k : G p l e R s m args below meth c cells slots Q E A nL ws (pc + 3) lv (st)) : G p l e R s m args below meth c cells slots Q E A nL ws (pc) lv (.int y :: .int x :: st) := g_icmp_lt hc tgt hd ht (fun z => absurd z hz) (fun _ => k)
theorem g_if_ge (hc : Cx p s m args meth c E A own cc nL ret) {x : Int32} {off : Int} (tgt : Nat) (hd : decode cc pc = .ok (.ifCond .ge off, 3)) (ht : (pc : Int) + off = (tgt : Int)) (kt : 0 ≤ x → G p l e R s m args below meth c cells slots Q E A nL ws (tgt) lv (st)) (kf : ¬ 0 ≤ x → G p l e R s m args below meth c cells slots Q E A nL ws (pc + 3) lv (st)) : G p l e R s m args below meth c cells slots Q E A nL ws (pc) lv (.int x :: st) := fun H locs ls h1 h2 h3 => lv_if_ge hc.1.1 hc.1.2.1 hd ht (fun z => kt z H locs ls h1 h2 h3) (fun z => kf z H locs ls h1 h2 h3)
theorem g_if_ge_t (hc : Cx p s m args meth c E A own cc nL ret) {x : Int32} {off : Int} (tgt : Nat) (hd : decode cc pc = .ok (.ifCond .ge off, 3)) (ht : (pc : Int) + off = (tgt : Int)) (hz : 0 ≤ x) (k : G p l e R s m args below meth c cells slots Q E A nL ws (tgt) lv (st)) : G p l e R s m args below meth c cells slots Q E A nL ws (pc) lv (.int x :: st) := g_if_ge hc tgt hd ht (fun _ => k) (fun z => absurd hz z)
theorem g_if_ge_f (hc : Cx p s m args meth c E A own cc nL ret) {x : Int32} {off : Int} (tgt : Nat) (hd : decode cc pc = .ok (.ifCond .ge off, 3)) (ht : (pc : Int) + off = (tgt : Int)) (hz : ¬ 0 ≤ x) (k : G p l e R s m args below meth c cells slots Q E A nL ws (pc + 3) lv (st)) : G p l e R s m args below meth c cells slots Q E A nL ws (pc) lv (.int x :: st) := g_if_ge hc tgt hd ht (fun z => absurd z hz) (fun _ => k)
theorem g_icmp_ge (hc : Cx p s m args meth c E A own cc nL ret) {x y : Int32} {off : Int} (tgt : Nat) (hd : decode cc pc = .ok (.if_icmp .ge off, 3)) (ht : (pc : Int) + off = (tgt : Int)) (kt : y ≤ x → G p l e R s m args below meth c cells slots Q E A nL ws (tgt) lv (st)) (kf : ¬ y ≤ x → G p l e R s m args below meth c cells slots Q E A nL ws (pc + 3) lv (st)) : G p l e R s m args below meth c cells slots Q E A nL ws (pc) lv (.int y :: .int x :: st) := fun H locs ls h1 h2 h3 => lv_icmp_ge hc.1.1 hc.1.2.1 hd ht (fun z => kt z H locs ls h1 h2 h3) (fun z => kf z H locs ls h1 h2 h3)
theorem g_icmp_ge_t (hc : Cx p s m args meth c E A own cc nL ret) {x y : Int32} {off : Int} (tgt : Nat) (hd : decode cc pc = .ok (.if_icmp .ge off, 3)) (ht : (pc : Int) + off = (tgt : Int)) (hz : y ≤ x) (k : G p l e R s m args below meth c cells slots Q E A nL ws (tgt) lv (st)) : G p l e R s m args below meth c cells slots Q E A nL ws (pc) lv (.int y :: .int x :: st) := g_icmp_ge hc tgt hd ht (fun _ => k) (fun z => absurd hz z)
theorem g_icmp_ge_f (hc : Cx p s m args meth c E A own cc nL ret) {x y : Int32} {off : Int} (tgt : Nat) (hd : decode cc pc = .ok (.if_icmp .ge off, 3)) (ht : (pc : Int) + off = (tgt : Int)) (hz : ¬ y ≤ x) (k : G p l e R s m args below meth c cells slots Q E A nL ws (pc + 3) lv (st)) : G p l e R s m args below meth c cells slots Q E A nL ws (pc) lv (.int y :: .int x :: st) := g_icmp_ge hc tgt hd ht (fun z => absurd z hz) (fun _ => k)
theorem g_if_gt (hc : Cx p s m args meth c E A own cc nL ret) {x : Int32} {off : Int} (tgt : Nat) (hd : decode cc pc = .ok (.ifCond .gt off, 3)) (ht : (pc : Int) + off = (tgt : Int)) (kt : 0 < x → G p l e R s m args below meth c cells slots Q E A nL ws (tgt) lv (st)) (kf : ¬ 0 < x → G p l e R s m args below meth c cells slots Q E A nL ws (pc + 3) lv (st)) : G p l e R s m args below meth c cells slots Q E A nL ws (pc) lv (.int x :: st) := fun H locs ls h1 h2 h3 => lv_if_gt hc.1.1 hc.1.2.1 hd ht (fun z => kt z H locs ls h1 h2 h3) (fun z => kf z H locs ls h1 h2 h3)
theorem g_if_gt_t (hc : Cx p s m args meth c E A own cc nL ret) {x : Int32} {off : Int} (tgt : Nat) (hd : decode cc pc = .ok (.ifCond .gt off, 3)) (ht : (pc : Int) + off = (tgt : Int)) (hz : 0 < x) (k : G p l e R s m args below meth c cells slots Q E A nL ws (tgt) lv (st)) : G p l e R s m args below meth c cells slots Q E A nL ws (pc) lv (.int x :: st) := g_if_gt hc tgt hd ht (fun _ => k) (fun z => absurd hz z)
theorem g_if_gt_f (hc : Cx p s m args meth c E A own cc nL ret) {x : Int32} {off : Int} (tgt : Nat) (hd : decode cc pc = .ok (.ifCond .gt off, 3)) (ht : (pc : Int) + off = (tgt : Int)) (hz : ¬ 0 < x) (k : G p l e R s m args below meth c cells slots Q E A nL ws (pc + 3) lv (st)) : G p l e R s m args below meth c cells slots Q E A nL ws (pc) lv (.int x :: st) := g_if_gt hc tgt hd ht (fun z => absurd z hz) (fun _ => k)
theorem g_icmp_gt (hc : Cx p s m args meth c E A own cc nL ret) {x y : Int32} {off : Int} (tgt : Nat) (hd : decode cc pc = .ok (.if_icmp .gt off, 3)) (ht : (pc : Int) + off = (tgt : Int)) (kt : y < x → G p l e R s m args below meth c cells slots Q E A nL ws (tgt) lv (st)) (kf : ¬ y < x → G p l e R s m args below meth c cells slots Q E A nL ws (pc + 3) lv (st)) : G p l e R s m args below meth c cells slots Q E A nL ws (pc) lv (.int y :: .int x :: st) := fun H locs ls h1 h2 h3 => lv_icmp_gt hc.1.1 hc.1.2.1 hd ht (fun z => kt z H locs ls h1 h2 h3) (fun z => kf z H locs ls h1 h2 h3)
theorem g_icmp_gt_t (hc : Cx p s m args meth c E A own cc nL ret) {x y : Int32} {off : Int} (tgt : Nat) (hd : decode cc pc = .ok (.if_icmp .gt off, 3)) (ht : (pc : Int) + off = (tgt : Int)) (hz : y < x) (k : G p l e R s m args below meth c cells slots Q E A nL ws (tgt) lv (st)) : G p l e R s m args below meth c cells slots Q E A nL ws (pc) lv (.int y :: .int x :: st) := g_icmp_gt hc tgt hd ht (fun _ => k) (fun z => absurd hz z)
theorem g_icmp_gt_f (hc : Cx p s m args meth c E A own cc nL ret) {x y : Int32} {off : Int} (tgt : Nat) (hd : decode cc pc = .ok (.if_icmp .gt off, 3)) (ht : (pc : Int) + off = (tgt : Int)) (hz : ¬ y < x) (k : G p l e R s m args below meth c cells slots Q E A nL ws (pc + 3) lv (st)) : G p l e R s m args below meth c cells slots Q E A nL ws (pc) lv (.int y :: .int x :: st) := g_icmp_gt hc tgt hd ht (fun z => absurd z hz) (fun _ => k)
theorem g_if_le (hc : Cx p s m args meth c E A own cc nL ret) {x : Int32} {off : Int} (tgt : Nat) (hd : decode cc pc = .ok (.ifCond .le off, 3)) (ht : (pc : Int) + off = (tgt : Int)) (kt : x ≤ 0 → G p l e R s m args below meth c cells slots Q E A nL ws (tgt) lv (st)) (kf : ¬ x ≤ 0 → G p l e R s m args below meth c cells slots Q E A nL ws (pc + 3) lv (st)) : G p l e R s m args below meth c cells slots Q E A nL ws (pc) lv (.int x :: st) := fun H locs ls h1 h2 h3 => lv_if_le hc.1.1 hc.1.2.1 hd ht (fun z => kt z H locs ls h1 h2 h3) (fun z => kf z H locs ls h1 h2 h3)
theorem g_if_le_t (hc : Cx p s m args meth c E A own cc nL ret) {x : Int32} {off : Int} (tgt : Nat) (hd : decode cc pc = .ok (.ifCond .le off, 3)) (ht : (pc : Int) + off = (tgt : Int)) (hz : x ≤ 0) (k : G p l e R s m args below meth c cells slots Q E A nL ws (tgt) lv (st)) : G p l e R s m args below meth c cells slots Q E A nL ws (pc) lv (.int x :: st) := g_if_le hc tgt hd ht (fun _ => k) (fun z => absurd hz z)
theorem g_if_le_f (hc : Cx p s m args meth c E A own cc nL ret) {x : Int32} {off : Int} (tgt : Nat) (hd : decode cc pc = .ok (.ifCond .le off, 3)) (ht : (pc : Int) + off = (tgt : Int)) (hz : ¬ x ≤ 0) (k : G p l e R s m args below meth c cells slots Q E A nL ws (pc + 3) lv (st)) : G p l e R s m args below meth c cells slots Q E A nL ws (pc) lv (.int x :: st) := g_if_le hc tgt hd ht (fun z => absurd z hz) (fun _ => k)
theorem g_icmp_le (hc : Cx p s m args meth c E A own cc nL ret) {x y : Int32} {off : Int} (tgt : Nat) (hd : decode cc pc = .ok (.if_icmp .le off, 3)) (ht : (pc : Int) + off = (tgt : Int)) (kt : x ≤ y → G p l e R s m args below meth c cells slots Q E A nL ws (tgt) lv (st)) (kf : ¬ x ≤ y → G p l e R s m args below meth c cells slots Q E A nL ws (pc + 3) lv (st)) : G p l e R s m args below meth c cells slots Q E A nL ws (pc) lv (.int y :: .int x :: st) := fun H locs ls h1 h2 h3 => lv_icmp_le hc.1.1 hc.1.2.1 hd ht (fun z => kt z H locs ls h1 h2 h3) (fun z => kf z H locs ls h1 h2 h3)
theorem g_icmp_le_t (hc : Cx p s m args meth c E A own cc nL ret) {x y : Int32} {off : Int} (tgt : Nat) (hd : decode cc pc = .ok (.if_icmp .le off, 3)) (ht : (pc : Int) + off = (tgt : Int)) (hz : x ≤ y) (k : G p l e R s m args below meth c cells slots Q E A nL ws (tgt) lv (st)) : G p l e R s m args below meth c cells slots Q E A nL ws (pc) lv (.int y :: .int x :: st) := g_icmp_le hc tgt hd ht (fun _ => k) (fun z => absurd hz z)
theorem g_icmp_le_f (hc : Cx p s m args meth c E A own cc nL ret) {x y : Int32} {off : Int} (tgt : Nat) (hd : decode cc pc = .ok (.if_icmp .le off, 3)) (ht : (pc : Int) + off = (tgt : Int)) (hz : ¬ x ≤ y) (k : G p l e R s m args below meth c cells slots Q E A nL ws (pc + 3) lv (st)) : G p l e R s m args below meth c cells slots Q E A nL ws (pc) lv (.int y :: .int x :: st) := g_icmp_le hc tgt hd ht (fun z => absurd z hz) (fun _ => k)
theorem g_goto (hc : Cx p s m args meth c E A own cc nL ret) {off : Int} (tgt : Nat) (hd : decode cc pc = .ok (.goto off, 3)) (ht : (pc : Int) + off = (tgt : Int)) (k : G p l e R s m args below meth c cells slots Q E A nL ws (tgt) lv (st)) : G p l e R s m args below meth c cells slots Q E A nL ws (pc) lv (st) := fun H locs ls h1 h2 h3 => lv_goto hc.1.1 hc.1.2.1 hd ht (k H locs ls h1 h2 h3)
theorem g_ldc (hc : Cx p s m args meth c E A own cc nL ret) {index : Nat} {v : Int32} (t : Cond.constant own index v ∈ gtb) (hd : decode cc pc = .ok (.ldc index, 2)) (k : G p l e R s m args below meth c cells slots Q E A nL ws (pc + 2) lv (.int v :: st)) : G p l e R s m args below meth c cells slots Q E A nL ws (pc) lv (st) := fun H locs ls h1 h2 h3 => lv_ldc hc.1.1 hc.1.2.1 hc.1.2.2.2.1 (hc.1.2.2.2.2 _ t) hd (k H locs ls h1 h2 h3)
theorem g_ldcw (hc : Cx p s m args meth c E A own cc nL ret) {index : Nat} {v : Int32} (t : Cond.constant own index v ∈ gtb) (hd : decode cc pc = .ok (.ldc_w index, 3)) (k : G p l e R s m args below meth c cells slots Q E A nL ws (pc + 3) lv (.int v :: st)) : G p l e R s m args below meth c cells slots Q E A nL ws (pc) lv (st) := fun H locs ls h1 h2 h3 => lv_ldcw hc.1.1 hc.1.2.1 hc.1.2.2.2.1 (hc.1.2.2.2.2 _ t) hd (k H locs ls h1 h2 h3)
theorem g_ldc2 (hc : Cx p s m args meth c E A own cc nL ret) {index : Nat} {v : Int64} (t : Cond.constantLong own index v ∈ gtb) (hd : decode cc pc = .ok (.ldc2_w index, 3)) (k : G p l e R s m args below meth c cells slots Q E A nL ws (pc + 3) lv (.long v :: st)) : G p l e R s m args below meth c cells slots Q E A nL ws (pc) lv (st) := fun H locs ls h1 h2 h3 => lv_ldc2 hc.1.1 hc.1.2.1 hc.1.2.2.2.1 (hc.1.2.2.2.2 _ t) hd (k H locs ls h1 h2 h3)
theorem g_tableIn (hc : Cx p s m args meth c E A own cc nL ret) {dflt lo hi : Int} {offs : Array Int} {len : Nat} {x : Int32} {off : Int} (tgt : Nat) (hd : decode cc pc = .ok (.tableswitch dflt lo hi offs, len)) (z1 : ¬ x.toInt < lo) (z2 : ¬ hi < x.toInt) (ho : offs[(x.toInt - lo).toNat]? = some off) (ht : (pc : Int) + off = (tgt : Int)) (k : G p l e R s m args below meth c cells slots Q E A nL ws (tgt) lv (st)) : G p l e R s m args below meth c cells slots Q E A nL ws (pc) lv (.int x :: st) := fun H locs ls h1 h2 h3 => lv_tableIn hc.1.1 hc.1.2.1 hd z1 z2 ho ht (k H locs ls h1 h2 h3)
theorem g_tableOut (hc : Cx p s m args meth c E A own cc nL ret) {dflt lo hi : Int} {offs : Array Int} {len : Nat} {x : Int32} (tgt : Nat) (hd : decode cc pc = .ok (.tableswitch dflt lo hi offs, len)) (z : x.toInt < lo ∨ hi < x.toInt) (ht : (pc : Int) + dflt = (tgt : Int)) (k : G p l e R s m args below meth c cells slots Q E A nL ws (tgt) lv (st)) : G p l e R s m args below meth c cells slots Q E A nL ws (pc) lv (.int x :: st) := fun H locs ls h1 h2 h3 => lv_tableOut hc.1.1 hc.1.2.1 hd z ht (k H locs ls h1 h2 h3)
theorem g_get (hc : Cx p s m args meth c E A own cc nL ret) {C ref : String} {T : u_T} {N ci index a : Nat} {fs : List Value} {v : Value} (hin : ∀ w ∈ u_ws C T N, w ∈ gtb) (q0 : Nat) (he : ws[q0]? = some (a, .inr (ci, fs))) (hcl : vwCl[ci]? = some (C, T, N)) (k0 : Nat) (hk : k0 < N) (hlink : Cond.fieldLink own index ref (T k0).2.1 (T k0).2.2.1 ∈ gtb) (hrf : (T k0).1 = ref) (hv : fs[k0]? = some v) (hd : decode cc pc = .ok (.getfield index, 3)) (k : G p l e R s m args below meth c cells slots Q E A nL ws (pc + 3) lv (v :: st)) : G p l e R s m args below meth c cells slots Q E A nL ws (pc) lv (.ref a :: st) := fun H locs ls h1 h2 h3 => va_get hc.1.1 hc.1.2.1 hc.1.2.2.2.2 hin hc.1.2.2.2.1 hc.2.1 h1 q0 he hcl k0 hk (hc.1.2.2.2.2 _ hlink) (fun _ h9 => hrf ▸ h9) hv hd (k H locs ls h1 h2 h3)
theorem g_put (hc : Cx p s m args meth c E A own cc nL ret) {C ref : String} {T : u_T} {N ci index a : Nat} {fs : List Value} {v : Value} {ty : FieldType} (hD : va_D A ws) (hin : ∀ w ∈ u_ws C T N, w ∈ gtb) (ty0 : Nat → FieldType) (hty : ∀ k, k < N → parseFieldDescriptor (T k).2.2.1 = some (ty0 k)) (hnm : ∀ a, a < N → ∀ b, b < N → a ≠ b → (T a).2.1 ≠ (T b).2.1) (q0 : Nat) (he : ws[q0]? = some (a, .inr (ci, fs))) (hcl : vwCl[ci]? = some (C, T, N)) (k0 : Nat) (hk : k0 < N) (hlink : Cond.fieldLink own index ref (T k0).2.1 (T k0).2.2.1 ∈ gtb) (hrf : (T k0).1 = ref) (hfin : (T k0).2.2.2 = false) (hdd : parseFieldDescriptor (T k0).2.2.1 = some ty) (hn : narrow ty v = v) (hfit : fits ty v = true) (hl : k0 < fs.length) (hw : ws.set q0 (a, .inr (ci, fs.set k0 v)) = ws') (hd : decode cc pc = .ok (.putfield index, 3)) (k : G p l e R s m args below meth c cells slots Q E A nL ws' (pc + 3) lv (st)) : G p l e R s m args below meth c cells slots Q E A nL ws (pc) lv (v :: .ref a :: st) := fun H locs ls h1 h2 h3 => va_put hc.1.1 hc.1.2.1 hc.1.2.2.2.2 hin ty0 hty hnm hc.1.2.2.2.1 hc.2.1 h1 hD h2 q0 he hcl k0 hk (hc.1.2.2.2.2 _ hlink) (fun _ h9 => hrf ▸ h9) hfin hdd hn hfit hl hd (fun H1 locs1 a1 _ a3 => k H1 locs1 ls (hw ▸ a1) a3 h3)
theorem g_iald (hc : Cx p s m args meth c E A own cc nL ret) {cA : ClassId} {n a : Nat} {f : Nat → Int32} {x : Int32} (q0 t0 : Nat) (ha : ws[q0]? = some (a, .inl (cA, n, .inl f))) (ht : (tyl E.2.2.1)[t0]? = some (cA, .int)) (i : Nat) (hx : x = nI i) (hi : i < n) (hn : n < 2 ^ 31) (hd : decode cc pc = .ok (.iaload, 1)) (k : G p l e R s m args below meth c cells slots Q E A nL ws (pc + 1) lv (.int (f i) :: st)) : G p l e R s m args below meth c cells slots Q E A nL ws (pc) lv (.int x :: .ref a :: st) := by
  subst hx
  exact fun H locs ls h1 h2 h3 => va_iald hc.1.1 hc.1.2.1 hc.2.1 h1 q0 t0 ha ht (vp_in_nI hi hn) hd (by rw [nI_clamp (Nat.lt_trans hi hn)]; exact (k H locs ls h1 h2 h3))
theorem g_bald (hc : Cx p s m args meth c E A own cc nL ret) {cA : ClassId} {n a : Nat} {f : Nat → Int32} {x : Int32} (q0 t0 : Nat) (ha : ws[q0]? = some (a, .inl (cA, n, .inl f))) (ht : (tyl E.2.2.1)[t0]? = some (cA, .byte)) (i : Nat) (hx : x = nI i) (hi : i < n) (hn : n < 2 ^ 31) (hd : decode cc pc = .ok (.baload, 1)) (k : G p l e R s m args below meth c cells slots Q E A nL ws (pc + 1) lv (.int (f i) :: st)) : G p l e R s m args below meth c cells slots Q E A nL ws (pc) lv (.int x :: .ref a :: st) := by
  subst hx
  exact fun H locs ls h1 h2 h3 => va_bald hc.1.1 hc.1.2.1 hc.2.1 h1 q0 t0 ha ht (vp_in_nI hi hn) hd (by rw [nI_clamp (Nat.lt_trans hi hn)]; exact (k H locs ls h1 h2 h3))
theorem g_zald (hc : Cx p s m args meth c E A own cc nL ret) {cA : ClassId} {n a : Nat} {f : Nat → Int32} {x : Int32} (q0 t0 : Nat) (ha : ws[q0]? = some (a, .inl (cA, n, .inl f))) (ht : (tyl E.2.2.1)[t0]? = some (cA, .boolean)) (i : Nat) (hx : x = nI i) (hi : i < n) (hn : n < 2 ^ 31) (hd : decode cc pc = .ok (.baload, 1)) (k : G p l e R s m args below meth c cells slots Q E A nL ws (pc + 1) lv (.int (f i) :: st)) : G p l e R s m args below meth c cells slots Q E A nL ws (pc) lv (.int x :: .ref a :: st) := by
  subst hx
  exact fun H locs ls h1 h2 h3 => va_zald hc.1.1 hc.1.2.1 hc.2.1 h1 q0 t0 ha ht (vp_in_nI hi hn) hd (by rw [nI_clamp (Nat.lt_trans hi hn)]; exact (k H locs ls h1 h2 h3))
theorem g_sald (hc : Cx p s m args meth c E A own cc nL ret) {cA : ClassId} {n a : Nat} {f : Nat → Int32} {x : Int32} (q0 t0 : Nat) (ha : ws[q0]? = some (a, .inl (cA, n, .inl f))) (ht : (tyl E.2.2.1)[t0]? = some (cA, .short)) (i : Nat) (hx : x = nI i) (hi : i < n) (hn : n < 2 ^ 31) (hd : decode cc pc = .ok (.saload, 1)) (k : G p l e R s m args below meth c cells slots Q E A nL ws (pc + 1) lv (.int (f i) :: st)) : G p l e R s m args below meth c cells slots Q E A nL ws (pc) lv (.int x :: .ref a :: st) := by
  subst hx
  exact fun H locs ls h1 h2 h3 => va_sald hc.1.1 hc.1.2.1 hc.2.1 h1 q0 t0 ha ht (vp_in_nI hi hn) hd (by rw [nI_clamp (Nat.lt_trans hi hn)]; exact (k H locs ls h1 h2 h3))
theorem g_lald (hc : Cx p s m args meth c E A own cc nL ret) {cA : ClassId} {n a : Nat} {f : Nat → Int64} {x : Int32} (q0 t0 : Nat) (ha : ws[q0]? = some (a, .inl (cA, n, .inr (.inl f)))) (ht : (tyl E.2.2.1)[t0]? = some (cA, .long)) (i : Nat) (hx : x = nI i) (hi : i < n) (hn : n < 2 ^ 31) (hd : decode cc pc = .ok (.laload, 1)) (k : G p l e R s m args below meth c cells slots Q E A nL ws (pc + 1) lv (.long (f i) :: st)) : G p l e R s m args below meth c cells slots Q E A nL ws (pc) lv (.int x :: .ref a :: st) := by
  subst hx
  exact fun H locs ls h1 h2 h3 => va_lald hc.1.1 hc.1.2.1 hc.2.1 h1 q0 t0 ha ht (vp_in_nI hi hn) hd (by rw [nI_clamp (Nat.lt_trans hi hn)]; exact (k H locs ls h1 h2 h3))
theorem g_iast (hc : Cx p s m args meth c E A own cc nL ret) {cA : ClassId} {n a : Nat} {f : Nat → Int32} {x v : Int32} (hD : va_D A ws) (q0 t0 : Nat) (ha : ws[q0]? = some (a, .inl (cA, n, .inl f))) (ht : (tyl E.2.2.1)[t0]? = some (cA, .int)) (i : Nat) (hx : x = nI i) (hi : i < n) (hn : n < 2 ^ 31) (hw : ws.set q0 (a, .inl (cA, n, .inl (upd f i v))) = ws') (hd : decode cc pc = .ok (.iastore, 1)) (k : G p l e R s m args below meth c cells slots Q E A nL ws' (pc + 1) lv (st)) : G p l e R s m args below meth c cells slots Q E A nL ws (pc) lv (.int v :: .int x :: .ref a :: st) := by
  subst hx
  refine fun H locs ls h1 h2 h3 => va_iast hc.1.1 hc.1.2.1 hc.2.1 h1 hD h2 q0 t0 ha ht (vp_in_nI hi hn) hd (fun H1 locs1 a1 _ a3 => k H1 locs1 ls ?_ a3 h3)
  rw [nI_clamp (Nat.lt_trans hi hn), hw] at a1
  exact a1
theorem g_bast (hc : Cx p s m args meth c E A own cc nL ret) {cA : ClassId} {n a : Nat} {f : Nat → Int32} {x v : Int32} (hD : va_D A ws) (q0 t0 : Nat) (ha : ws[q0]? = some (a, .inl (cA, n, .inl f))) (ht : (tyl E.2.2.1)[t0]? = some (cA, .byte)) (i : Nat) (hx : x = nI i) (hi : i < n) (hn : n < 2 ^ 31) (hw : ws.set q0 (a, .inl (cA, n, .inl (upd f i (vp_nar .byte v)))) = ws') (hd : decode cc pc = .ok (.bastore, 1)) (k : G p l e R s m args below meth c cells slots Q E A nL ws' (pc + 1) lv (st)) : G p l e R s m args below meth c cells slots Q E A nL ws (pc) lv (.int v :: .int x :: .ref a :: st) := by
  subst hx
  refine fun H locs ls h1 h2 h3 => va_bast hc.1.1 hc.1.2.1 hc.2.1 h1 hD h2 q0 t0 ha ht (vp_in_nI hi hn) hd (fun H1 locs1 a1 _ a3 => k H1 locs1 ls ?_ a3 h3)
  rw [nI_clamp (Nat.lt_trans hi hn), hw] at a1
  exact a1
theorem g_zast (hc : Cx p s m args meth c E A own cc nL ret) {cA : ClassId} {n a : Nat} {f : Nat → Int32} {x v : Int32} (hD : va_D A ws) (q0 t0 : Nat) (ha : ws[q0]? = some (a, .inl (cA, n, .inl f))) (ht : (tyl E.2.2.1)[t0]? = some (cA, .boolean)) (i : Nat) (hx : x = nI i) (hi : i < n) (hn : n < 2 ^ 31) (hw : ws.set q0 (a, .inl (cA, n, .inl (upd f i (vp_nar .boolean v)))) = ws') (hd : decode cc pc = .ok (.bastore, 1)) (k : G p l e R s m args below meth c cells slots Q E A nL ws' (pc + 1) lv (st)) : G p l e R s m args below meth c cells slots Q E A nL ws (pc) lv (.int v :: .int x :: .ref a :: st) := by
  subst hx
  refine fun H locs ls h1 h2 h3 => va_zast hc.1.1 hc.1.2.1 hc.2.1 h1 hD h2 q0 t0 ha ht (vp_in_nI hi hn) hd (fun H1 locs1 a1 _ a3 => k H1 locs1 ls ?_ a3 h3)
  rw [nI_clamp (Nat.lt_trans hi hn), hw] at a1
  exact a1
theorem g_sast (hc : Cx p s m args meth c E A own cc nL ret) {cA : ClassId} {n a : Nat} {f : Nat → Int32} {x v : Int32} (hD : va_D A ws) (q0 t0 : Nat) (ha : ws[q0]? = some (a, .inl (cA, n, .inl f))) (ht : (tyl E.2.2.1)[t0]? = some (cA, .short)) (i : Nat) (hx : x = nI i) (hi : i < n) (hn : n < 2 ^ 31) (hw : ws.set q0 (a, .inl (cA, n, .inl (upd f i (vp_nar .short v)))) = ws') (hd : decode cc pc = .ok (.sastore, 1)) (k : G p l e R s m args below meth c cells slots Q E A nL ws' (pc + 1) lv (st)) : G p l e R s m args below meth c cells slots Q E A nL ws (pc) lv (.int v :: .int x :: .ref a :: st) := by
  subst hx
  refine fun H locs ls h1 h2 h3 => va_sast hc.1.1 hc.1.2.1 hc.2.1 h1 hD h2 q0 t0 ha ht (vp_in_nI hi hn) hd (fun H1 locs1 a1 _ a3 => k H1 locs1 ls ?_ a3 h3)
  rw [nI_clamp (Nat.lt_trans hi hn), hw] at a1
  exact a1
theorem g_last (hc : Cx p s m args meth c E A own cc nL ret) {cA : ClassId} {n a : Nat} {f : Nat → Int64} {x : Int32} {v : Int64} (hD : va_D A ws) (q0 t0 : Nat) (ha : ws[q0]? = some (a, .inl (cA, n, .inr (.inl f)))) (ht : (tyl E.2.2.1)[t0]? = some (cA, .long)) (i : Nat) (hx : x = nI i) (hi : i < n) (hn : n < 2 ^ 31) (hw : ws.set q0 (a, .inl (cA, n, .inr (.inl (vp_updL f i v)))) = ws') (hd : decode cc pc = .ok (.lastore, 1)) (k : G p l e R s m args below meth c cells slots Q E A nL ws' (pc + 1) lv (st)) : G p l e R s m args below meth c cells slots Q E A nL ws (pc) lv (.long v :: .int x :: .ref a :: st) := by
  subst hx
  refine fun H locs ls h1 h2 h3 => va_last hc.1.1 hc.1.2.1 hc.2.1 h1 hD h2 q0 t0 ha ht (vp_in_nI hi hn) hd (fun H1 locs1 a1 _ a3 => k H1 locs1 ls ?_ a3 h3)
  rw [nI_clamp (Nat.lt_trans hi hn), hw] at a1
  exact a1
theorem g_alen (hc : Cx p s m args meth c E A own cc nL ret) {cA : ClassId} {a : Nat} {x : vp_A} {ty : FieldType} {v : Int32} (q0 t0 : Nat) (ha : ws[q0]? = some (a, .inl (cA, x))) (ht : (tyl E.2.2.1)[t0]? = some (cA, ty)) (hv : Int32.ofNat x.1 = v) (hd : decode cc pc = .ok (.arraylength, 1)) (k : G p l e R s m args below meth c cells slots Q E A nL ws (pc + 1) lv (.int v :: st)) : G p l e R s m args below meth c cells slots Q E A nL ws (pc) lv (.ref a :: st) := fun H locs ls h1 h2 h3 => va_alen hc.1.1 hc.1.2.1 hc.2.1 h1 q0 t0 ha ht hv hd (k H locs ls h1 h2 h3)
theorem g_ldcS (hc : Cx p s m args meth c E A own cc nL ret) {index : Nat} {tx : String} (i : Nat) (hown : own = "SherdField$LeaveReader") (hq : strL[i]? = some (index, tx)) (hd : decode cc pc = .ok (.ldc index, 2)) (k : G p l e R s m args below meth c cells slots Q E A nL ws (pc + 2) lv (.ref (E.2.2.2 i) :: st)) : G p l e R s m args below meth c cells slots Q E A nL ws (pc) lv (st) := by
  subst hown
  exact fun H locs ls h1 h2 h3 => va_ldcS hc.1.1 hc.1.2.1 hc.1.2.2.2.1 (hc.2.2.2.2.2.2.1 i _ hq) hd (k H locs ls h1 h2 h3)
theorem g_eq {st' : List Value} (hw : ws = ws') (hl : lv = lv') (hs : st = st') (k : G p l e R s m args below meth c cells slots Q E A nL ws' (pc) lv' (st')) : G p l e R s m args below meth c cells slots Q E A nL ws (pc) lv (st) := by
  subst hw; subst hl; subst hs; exact k
theorem g_lv (ks : List Nat) (hl : lv_pick lv ks = lv') (k : G p l e R s m args below meth c cells slots Q E A nL ws (pc) lv' (st)) : G p l e R s m args below meth c cells slots Q E A nL ws (pc) lv (st) := fun H locs ls h1 h2 h3 => k H locs ls h1 h2 (lv_sub h3 ks hl)
end GR
section GE
variable {p : Program} {l : Launch} {e : Env} {R : Room} {s : State} {m : MethodId} {args : Array Value} {below : List Frame} {meth : Method} {c : Code} {cells slots : Nat}
variable {E : Ev} {A : Nat → Prop} {nL : Nat} {ws ws' : va_W} {pc : Nat} {lv lv' : List (Nat × Value)} {st : List Value} {own : String} {cc : ByteArray} {ret : Option FieldType} {y : MethodName} {rm : Room} {av : List Value} {v : Option Value}
theorem Ct.of (hy : plainName y.cls = true) (hlen : (lg_sl av).length ≤ nL) (hlv : lv_args 0 av = lv)
    (body : ∀ (p : Program) (e : Env) (s : State) (m : MethodId) (args : Array Value) (below : List Frame) (meth : Method) (c : Code), Cx p s m args meth c E A y.cls cc nL ret → G p l e rm s m args below meth c 0 0 (MQ below (Qz E A v ws') args s 0 0 A) E A nL ws (0) lv ([])) : Ct l E y (.code y cc nL ret) rm A ws av v ws' := by
  refine Met.ofW (cc := cc) (maxL := nL) (ret := ret) hy rfl ?_
  intro p e s m args below meth c s₁ B hml hv
  obtain ⟨rfl, hP, hK, hE⟩ := hv
  have hts := atoms_spec (ws := .code y cc nL ret :: gtb) B.pre
  have hown : s.vm.findClass y.cls = some m.cls := findClass_of_methodNamed B.named
  have hl := lv_entry av (n := nL) hlen
  rw [lg_entry_eq]
  exact body p e s m av.toArray below meth c ⟨⟨B.exec, B.bytes, hml, hown, fun w hw => hts w (List.mem_cons_of_mem _ hw)⟩, hK, B.returns, B.notSynchronized, hE⟩ s.heap [] _ hP va_S.rf (hlv ▸ hl)
theorem g_iret (hc : Cx p s m args meth c E A own cc nL (some .int)) {x : Int32} (hd : decode cc pc = .ok (.ireturn, 1)) (hv : v = some (.int x)) (hw : ws = ws') : G p l e R s m args below meth c cells slots (MQ below (Qz E A v ws') args s cells slots A) E A nL ws (pc) lv ([.int x]) := by
  subst hv; subst hw
  exact fun H locs ls h1 h2 h3 => W.iret hc.1.1 hc.1.2.1 hc.2.2.1 (fun t ht _ => ⟨rfl, by rw [ht]; exact h1, h2.F ht⟩) h2.2.2 hd hc.2.2.2.1
theorem g_zret {ty : FieldType} (hc : Cx p s m args meth c E A own cc nL (some ty)) {x : Int32} (hd : decode cc pc = .ok (.ireturn, 1)) (hn : narrow ty (.int x) = .int x) (hv : v = some (.int x)) (hw : ws = ws') : G p l e R s m args below meth c cells slots (MQ below (Qz E A v ws') args s cells slots A) E A nL ws (pc) lv ([.int x]) := by
  subst hv; subst hw
  exact fun H locs ls h1 h2 h3 => W.zret hc.1.1 hc.1.2.1 hc.2.2.1 hn (fun t ht _ => ⟨rfl, by rw [ht]; exact h1, h2.F ht⟩) h2.2.2 hd hc.2.2.2.1
theorem g_vret (hc : Cx p s m args meth c E A own cc nL (none)) (hd : decode cc pc = .ok (.return_, 1)) (hv : v = none) (hw : ws = ws') : G p l e R s m args below meth c cells slots (MQ below (Qz E A v ws') args s cells slots A) E A nL ws (pc) lv ([]) := by
  subst hv; subst hw
  exact fun H locs ls h1 h2 h3 => W.vret hc.1.1 hc.1.2.1 hc.2.2.1 (fun t ht _ => ⟨rfl, by rw [ht]; exact h1, h2.F ht⟩) h2.2.2 hd hc.2.2.2.1
theorem g_lret (hc : Cx p s m args meth c E A own cc nL (some .long)) {x : Int64} (hd : decode cc pc = .ok (.lreturn, 1)) (hv : v = some (.long x)) (hw : ws = ws') : G p l e R s m args below meth c cells slots (MQ below (Qz E A v ws') args s cells slots A) E A nL ws (pc) lv ([.long x]) := by
  subst hv; subst hw
  exact fun H locs ls h1 h2 h3 => W.lret hc.1.1 hc.1.2.1 hc.2.2.1 (fun t ht _ => ⟨rfl, by rw [ht]; exact h1, h2.F ht⟩) h2.2.2 hd hc.2.2.2.1
end GE
section GC
variable {p : Program} {l : Launch} {e : Env} {R : Room} {s : State} {m : MethodId} {args : Array Value} {below : List Frame} {meth : Method} {c : Code} {cells slots : Nat} {Q : State → Prop}
variable {E : Ev} {A : Nat → Prop} {nL : Nat} {ws ws' : va_W} {pc : Nat} {lv lv' : List (Nat × Value)} {st : List Value} {own : String} {cc : ByteArray} {ret : Option FieldType}
variable {y : MethodName} {bytes : ByteArray} {maxL n index : Nat} {ret' : Option FieldType} {rm : Room} {As av rest : List Value} {v : Option Value} {b : Nat} {C : String}
/-- what the tables say of a method that is called -/
def Mi (y : MethodName) (bytes : ByteArray) (maxL : Nat) (ret' : Option FieldType) (n : Nat) : Prop := Cond.code y bytes maxL ret' ∈ gtb ∧ Cond.initialized y.cls ∈ gtb ∧ (y.cls ≠ "java/lang/invoke/MethodHandle" ∧ y.cls ≠ "java/lang/invoke/VarHandle" ∧ (parseMethodDescriptor y.desc).map (fun d => d.parameters.length) = some n)
def MiV (y : MethodName) (bytes : ByteArray) (maxL : Nat) (ret' : Option FieldType) (n : Nat) : Prop := Mi y bytes maxL ret' n ∧ Cond.instanceMethod y ∈ gtb ∧ Cond.selects y.cls y y ∈ gtb
def MiS (y : MethodName) (bytes : ByteArray) (maxL : Nat) (ret' : Option FieldType) (n : Nat) : Prop := Mi y bytes maxL ret' n ∧ Cond.static y ∈ gtb
theorem pz_blind : FrameBlind (Pz E A av ws) := fun a U g mk q => ⟨q.1, q.2.1, va_K.moved (u := U) (U := U.calling g mk a) (Vm.Alike.refl U.vm) q.2.2.1, q.2.2.2.blind⟩
theorem w_run {H : Heap} {locs : List Loc} {ls : Array Slot} {st0 : List Value} {a : Array Value} (hr : va_Run p l e R s m args below meth c H locs cells slots 0 0 (F0 m pc ls st0) rest (Qz E A v ws' a) A) (hS : va_S A s.heap H locs)
    (kk : ∀ (H1 : Heap) (locs1 : List Loc), va_P (dG E) vwCl ws' H1 → va_S A s.heap H1 locs1 → W p l e R s m args below meth c H1 locs1 cells slots Q (F0 m (pc + 3) ls (v.toList ++ rest))) : W p l e R s m args below meth c H locs cells slots Q (F0 m pc ls st0) := by
  intro T hT X
  obtain ⟨v', st₀, t, T', L, h0, X', hL, e1, e2, ⟨hv, hp, hz, hk⟩, st⟩ := hr T hT X
  cases hv
  rw [h0] at hz hk
  obtain ⟨t2, a1, b1⟩ := kk T'.heap (locs ++ L) (by rw [e1]; exact hp) ⟨Nat.le_trans hS.1 (by rw [e1]; exact hz), fun q h1 h2 => by rw [e1, hk q (Nat.lt_of_lt_of_le h1 hS.1) h2]; exact hS.2.1 q h1 h2, fun q hq => by
      rcases List.mem_append.mp hq with h | h
      · exact hS.2.2 q h
      · exact hL q h⟩ T' rfl X'
  exact ⟨t2, st t2 a1, b1⟩
theorem callb {st0 : List Value} (hc : Cx p s m args meth c E A own cc nL ret) (hi : Mi y bytes maxL ret' n) (hl : Cond.methodLink own index y ∈ gtb) (hR : rm.cells = 0 ∧ rm.slots = 0 ∧ rm.frames + 1 ≤ R.frames ∧ 8 + (maxL + 11) + rm.locals ≤ R.locals) : CallB R s args own index y bytes maxL ret' (.code y bytes maxL ret' :: gtb) rm 0 0 n :=
  callB_of n hc.1.2.2.2.2 (gtb_good (fun _ h => h) hi.1) rfl hR.1 hR.2.1 (hc.1.2.2.2.2 _ hi.2.1) (hc.1.2.2.2.2 _ hl) hi.2.2 ⟨hR.2.2.1, hR.2.2.2⟩
theorem g_callV {st0 : List Value} {ci : Nat} {fs : List Value} {T : u_T} {N : Nat} (hc : Cx p s m args meth c E A own cc nL ret) (hM : Ct l E y (.code y bytes maxL ret') rm A ws (.ref b :: As) v ws') (hi : MiV y bytes maxL ret' n) (hl : Cond.methodLink own index y ∈ gtb) (q0 : Nat) (he : ws[q0]? = some (b, .inr (ci, fs))) (hcl : vwCl[ci]? = some (C, T, N)) (hC : y.cls = C) (hn : As.length = n) (hR : rm.cells = 0 ∧ rm.slots = 0 ∧ rm.frames + 1 ≤ R.frames ∧ 8 + (maxL + 11) + rm.locals ≤ R.locals) (hW : (rest.map fun v => v.category).sum ≤ 8) (hcs : cells ≤ R.cells ∧ slots ≤ R.slots) (hst : st0 = As.reverse ++ .ref b :: rest) (hd : decode cc pc = .ok (.invokevirtual index, 3)) (k : G p l e R s m args below meth c cells slots Q E A nL ws' (pc + 3) lv (v.toList ++ rest)) : G p l e R s m args below meth c cells slots Q E A nL ws (pc) lv (st0) := by
  subst hC; subst hst
  intro H locs ls h1 h2 h3
  exact w_run (rest := rest) (va_runV (As := As) (rest := rest) (b := b) (C := y.cls) hc.1 hM ⟨callb (st0 := []) hc hi.1 hl hR, hc.1.2.2.2.2 _ hi.2.1, hc.1.2.2.2.2 _ hi.2.2⟩ ⟨pz_blind, va_recv hc.2.1 h1 (q0 := q0) hcl he, fun U hU hW => ⟨rfl, by rw [hU]; exact h1, va_K.moved hW.alike hc.2.1, hc.2.2.2.2.at h2 hU hW⟩⟩ rfl hn h3.1 rfl (lv_room hW) hd hcs) h2 (fun H1 locs1 a1 a2 => k H1 locs1 ls a1 a2 h3)
theorem g_callS {st0 : List Value} (hc : Cx p s m args meth c E A own cc nL ret) (hM : Ct l E y (.code y bytes maxL ret') rm A ws As v ws') (hi : MiS y bytes maxL ret' n) (hl : Cond.methodLink own index y ∈ gtb) (hn : As.length = n) (hR : rm.cells = 0 ∧ rm.slots = 0 ∧ rm.frames + 1 ≤ R.frames ∧ 8 + (maxL + 11) + rm.locals ≤ R.locals) (hW : (rest.map fun v => v.category).sum ≤ 8) (hcs : cells ≤ R.cells ∧ slots ≤ R.slots) (hst : st0 = As.reverse ++ rest) (hd : decode cc pc = .ok (.invokestatic index, 3)) (k : G p l e R s m args below meth c cells slots Q E A nL ws' (pc + 3) lv (v.toList ++ rest)) : G p l e R s m args below meth c cells slots Q E A nL ws (pc) lv (st0) := by
  subst hst
  intro H locs ls h1 h2 h3
  exact w_run (rest := rest) (va_runS (As := As) (rest := rest) hc.1 hM ⟨callb (st0 := []) hc hi.1 hl hR, hc.1.2.2.2.2 _ hi.2⟩ ⟨pz_blind, fun U hU hW => ⟨rfl, by rw [hU]; exact h1, va_K.moved hW.alike hc.2.1, hc.2.2.2.2.at h2 hU hW⟩⟩ rfl hn h3.1 rfl (lv_room hW) hd hcs) h2 (fun H1 locs1 a1 a2 => k H1 locs1 ls a1 a2 h3)
theorem g_callSN {st0 : List Value} {host : String} (hc : Cx p s m args meth c E A own cc nL ret) (hM : Ct l E y (.code y bytes maxL ret') rm A ws As v ws') (hi : MiS y bytes maxL ret' n) (hl : (own, index, y, host) ∈ nst) (hn : As.length = n) (hR : rm.cells = 0 ∧ rm.slots = 0 ∧ rm.frames + 1 ≤ R.frames ∧ 8 + (maxL + 11) + rm.locals ≤ R.locals) (hW : (rest.map fun v => v.category).sum ≤ 8) (hcs : cells ≤ R.cells ∧ slots ≤ R.slots) (hst : st0 = As.reverse ++ rest) (hd : decode cc pc = .ok (.invokestatic index, 3)) (k : G p l e R s m args below meth c cells slots Q E A nL ws' (pc + 3) lv (v.toList ++ rest)) : G p l e R s m args below meth c cells slots Q E A nL ws (pc) lv (st0) := by
  subst hst
  intro H locs ls h1 h2 h3
  exact w_run (rest := rest) (va_runSN (host := host) (As := As) (rest := rest) hc.1 hM ⟨⟨⟨hR.1, hR.2.1, hR.2.2.1, hR.2.2.2, pay_in hc.1.2.2.2.2 (gtb_good (fun _ h => h) hi.1.1), List.mem_cons_self⟩, hc.1.2.2.2.2 _ hi.1.1, hc.1.2.2.2.2 _ hi.1.2.1, ⟨hi.1.2.2.1, hi.1.2.2.2.1⟩, fun sig h => by have h2 := hi.1.2.2.2.2; rw [h] at h2; exact (Option.some.inj h2).symm, va_Nw.use rfl (hc.2.2.2.2.1 _ hl)⟩, hc.1.2.2.2.2 _ hi.2, trivial⟩ ⟨pz_blind, fun U hU hW => ⟨rfl, by rw [hU]; exact h1, va_K.moved hW.alike hc.2.1, hc.2.2.2.2.at h2 hU hW⟩⟩ rfl hn h3.1 rfl (lv_room hW) hd hcs) h2 (fun H1 locs1 a1 a2 => k H1 locs1 ls a1 a2 h3)
theorem g_callVN {st0 : List Value} {host : String} {ci : Nat} {fs : List Value} {T : u_T} {N : Nat} (hc : Cx p s m args meth c E A own cc nL ret) (hM : Ct l E y (.code y bytes maxL ret') rm A ws (.ref b :: As) v ws') (hi : MiV y bytes maxL ret' n) (hl : (own, index, y, host) ∈ nst) (q0 : Nat) (he : ws[q0]? = some (b, .inr (ci, fs))) (hcl : vwCl[ci]? = some (C, T, N)) (hC : y.cls = C) (hn : As.length = n) (hR : rm.cells = 0 ∧ rm.slots = 0 ∧ rm.frames + 1 ≤ R.frames ∧ 8 + (maxL + 11) + rm.locals ≤ R.locals) (hW : (rest.map fun v => v.category).sum ≤ 8) (hcs : cells ≤ R.cells ∧ slots ≤ R.slots) (hst : st0 = As.reverse ++ .ref b :: rest) (hd : decode cc pc = .ok (.invokevirtual index, 3)) (k : G p l e R s m args below meth c cells slots Q E A nL ws' (pc + 3) lv (v.toList ++ rest)) : G p l e R s m args below meth c cells slots Q E A nL ws (pc) lv (st0) := by
  subst hC; subst hst
  intro H locs ls h1 h2 h3
  exact w_run (rest := rest) (va_runVN (host := host) (As := As) (rest := rest) (b := b) (C := y.cls) hc.1 hM ⟨⟨⟨hR.1, hR.2.1, hR.2.2.1, hR.2.2.2, pay_in hc.1.2.2.2.2 (gtb_good (fun _ h => h) hi.1.1), List.mem_cons_self⟩, hc.1.2.2.2.2 _ hi.1.1, hc.1.2.2.2.2 _ hi.1.2.1, ⟨hi.1.2.2.1, hi.1.2.2.2.1⟩, fun sig h => by have h2 := hi.1.2.2.2.2; rw [h] at h2; exact (Option.some.inj h2).symm, va_Nw.use rfl (hc.2.2.2.2.1 _ hl)⟩, hc.1.2.2.2.2 _ hi.2.1, hc.1.2.2.2.2 _ hi.2.2⟩ ⟨pz_blind, va_recv hc.2.1 h1 (q0 := q0) hcl he, fun U hU hW => ⟨rfl, by rw [hU]; exact h1, va_K.moved hW.alike hc.2.1, hc.2.2.2.2.at h2 hU hW⟩⟩ rfl hn h3.1 rfl (lv_room hW) hd hcs) h2 (fun H1 locs1 a1 a2 => k H1 locs1 ls a1 a2 h3)
end GC
end
section
theorem tw_0 : (Jvm.Cond.initialized "SherdFieldLaw") ∈ gtb := gtb_t 0 (by decide +kernel) (by decide +kernel)
theorem tw_1 : (Jvm.Cond.initialized "SherdField") ∈ gtb := gtb_t 1 (by decide +kernel) (by decide +kernel)
theorem tw_2 : (Jvm.Cond.initialized "SherdField$Ground") ∈ gtb := gtb_t 2 (by decide +kernel) (by decide +kernel)
theorem tw_3 : (Jvm.Cond.initialized "SherdField$Sorts") ∈ gtb := gtb_t 3 (by decide +kernel) (by decide +kernel)
theorem tw_4 : (Jvm.Cond.initialized "SherdField$Walks") ∈ gtb := gtb_t 4 (by decide +kernel) (by decide +kernel)
theorem tw_5 : (Jvm.Cond.initialized "SherdField$Finds") ∈ gtb := gtb_t 5 (by decide +kernel) (by decide +kernel)
theorem tw_6 : (Jvm.Cond.initialized "SherdField$Periods") ∈ gtb := gtb_t 6 (by decide +kernel) (by decide +kernel)
theorem tw_7 : (Jvm.Cond.initialized "SherdField$Tape") ∈ gtb := gtb_t 7 (by decide +kernel) (by decide +kernel)
theorem tw_8 : (Jvm.Cond.initialized "SherdField$Leaves") ∈ gtb := gtb_t 8 (by decide +kernel) (by decide +kernel)
theorem tw_9 : (Jvm.Cond.initialized "SherdField$Sheet") ∈ gtb := gtb_t 9 (by decide +kernel) (by decide +kernel)
theorem tw_10 : (Jvm.Cond.initialized "SherdField$Eyes") ∈ gtb := gtb_t 10 (by decide +kernel) (by decide +kernel)
theorem tw_11 : (Jvm.Cond.initialized "SherdField$Heaps") ∈ gtb := gtb_t 11 (by decide +kernel) (by decide +kernel)
theorem tw_12 : (Jvm.Cond.initialized "SherdField$LeaveReader") ∈ gtb := gtb_t 12 (by decide +kernel) (by decide +kernel)
theorem tw_13 : (Jvm.Cond.initialized "SherdFieldModel") ∈ gtb := gtb_t 13 (by decide +kernel) (by decide +kernel)
theorem tw_14 : (Jvm.Cond.initialized "java/util/Arrays") ∈ gtb := gtb_t 14 (by decide +kernel) (by decide +kernel)
theorem tw_15 : (Jvm.Cond.initialized "java/lang/Math") ∈ gtb := gtb_t 15 (by decide +kernel) (by decide +kernel)
theorem tw_16 : (Jvm.Cond.initialized "java/lang/String") ∈ gtb := gtb_t 16 (by decide +kernel) (by decide +kernel)
theorem tw_17 : (Jvm.Cond.initialized "java/lang/StringLatin1") ∈ gtb := gtb_t 17 (by decide +kernel) (by decide +kernel)
theorem tw_18 : (Jvm.Cond.initialized "jdk/internal/util/Preconditions") ∈ gtb := gtb_t 18 (by decide +kernel) (by decide +kernel)
theorem tw_19 : (Jvm.Cond.initialized "java/lang/StringUTF16") ∈ gtb := gtb_t 19 (by decide +kernel) (by decide +kernel)
theorem tw_20 : (Jvm.Cond.initialized "java/lang/System") ∈ gtb := gtb_t 20 (by decide +kernel) (by decide +kernel)
theorem tw_21 : (Jvm.Cond.initialized "java/lang/Long") ∈ gtb := gtb_t 21 (by decide +kernel) (by decide +kernel)
theorem tw_22 : (Jvm.Cond.classLink "SherdFieldLaw" (7 : Nat) "SherdField") ∈ gtb := gtb_t 22 (by decide +kernel) (by decide +kernel)
theorem tw_23 : (Jvm.Cond.instantiable "SherdField" (15 : Nat)) ∈ gtb := gtb_t 23 (by decide +kernel) (by decide +kernel)
theorem tw_24 : (Jvm.Cond.methodLink "SherdFieldLaw" (9 : Nat) ({ cls := "SherdField", name := "<init>", desc := "()V" } : Jvm.MethodName)) ∈ gtb := gtb_t 24 (by decide +kernel) (by decide +kernel)
theorem tw_25 : (Jvm.Cond.instanceMethod ({ cls := "SherdField", name := "<init>", desc := "()V" } : Jvm.MethodName)) ∈ gtb := gtb_t 25 (by decide +kernel) (by decide +kernel)
theorem tw_26 : (Jvm.Cond.code ({ cls := "SherdField", name := "<init>", desc := "()V" } : Jvm.MethodName) prog_1_method_1_code (1 : Nat) (Option.none : Option Jvm.ClassFile.FieldType)) ∈ gtb := gtb_t 26 (by decide +kernel) (by decide +kernel)
theorem tw_27 : (Jvm.Cond.methodLink "SherdField" (1 : Nat) ({ cls := "java/lang/Object", name := "<init>", desc := "()V" } : Jvm.MethodName)) ∈ gtb := gtb_t 27 (by decide +kernel) (by decide +kernel)
theorem tw_28 : (Jvm.Cond.instanceMethod ({ cls := "java/lang/Object", name := "<init>", desc := "()V" } : Jvm.MethodName)) ∈ gtb := gtb_t 28 (by decide +kernel) (by decide +kernel)
theorem tw_29 : (Jvm.Cond.code ({ cls := "java/lang/Object", name := "<init>", desc := "()V" } : Jvm.MethodName) object_method_1_code (1 : Nat) (Option.none : Option Jvm.ClassFile.FieldType)) ∈ gtb := gtb_t 29 (by decide +kernel) (by decide +kernel)
theorem tw_30 : (Jvm.Cond.classLink "SherdField" (7 : Nat) "SherdField$Ground") ∈ gtb := gtb_t 30 (by decide +kernel) (by decide +kernel)
theorem tw_31 : (Jvm.Cond.instantiable "SherdField$Ground" (5 : Nat)) ∈ gtb := gtb_t 31 (by decide +kernel) (by decide +kernel)
theorem tw_33 : (Jvm.Cond.instanceMethod ({ cls := "SherdField$Ground", name := "<init>", desc := "()V" } : Jvm.MethodName)) ∈ gtb := gtb_t 33 (by decide +kernel) (by decide +kernel)
theorem tw_34 : (Jvm.Cond.code ({ cls := "SherdField$Ground", name := "<init>", desc := "()V" } : Jvm.MethodName) prog_4_method_1_code (1 : Nat) (Option.none : Option Jvm.ClassFile.FieldType)) ∈ gtb := gtb_t 34 (by decide +kernel) (by decide +kernel)
theorem tw_35 : (Jvm.Cond.methodLink "SherdField$Ground" (3 : Nat) ({ cls := "java/lang/Object", name := "<init>", desc := "()V" } : Jvm.MethodName)) ∈ gtb := gtb_t 35 (by decide +kernel) (by decide +kernel)
theorem tw_36 : (Jvm.Cond.fieldLink "SherdField$Ground" (9 : Nat) "SherdField$Ground" "wide" "I") ∈ gtb := gtb_t 36 (by decide +kernel) (by decide +kernel)
theorem tw_37 : (Jvm.Cond.fieldLink "SherdField$Ground" (15 : Nat) "SherdField$Ground" "high" "I") ∈ gtb := gtb_t 37 (by decide +kernel) (by decide +kernel)
theorem tw_38 : (Jvm.Cond.fieldLink "SherdField$Ground" (18 : Nat) "SherdField$Ground" "barren" "J") ∈ gtb := gtb_t 38 (by decide +kernel) (by decide +kernel)
theorem tw_39 : (Jvm.Cond.fieldLink "SherdField$Ground" (22 : Nat) "SherdField$Ground" "lying" "[I") ∈ gtb := gtb_t 39 (by decide +kernel) (by decide +kernel)
theorem tw_40 : (Jvm.Cond.fieldLink "SherdField$Ground" (26 : Nat) "SherdField$Ground" "spread" "[I") ∈ gtb := gtb_t 40 (by decide +kernel) (by decide +kernel)
theorem tw_52 : (Jvm.Cond.arrayClass Jvm.ClassFile.FieldType.int) ∈ gtb := gtb_t 52 (by decide +kernel) (by decide +kernel)
theorem tw_53 : (Jvm.Cond.classLink "SherdField" (16 : Nat) "SherdField$Sorts") ∈ gtb := gtb_t 53 (by decide +kernel) (by decide +kernel)
theorem tw_54 : (Jvm.Cond.instantiable "SherdField$Sorts" (1 : Nat)) ∈ gtb := gtb_t 54 (by decide +kernel) (by decide +kernel)
theorem tw_56 : (Jvm.Cond.instanceMethod ({ cls := "SherdField$Sorts", name := "<init>", desc := "()V" } : Jvm.MethodName)) ∈ gtb := gtb_t 56 (by decide +kernel) (by decide +kernel)
theorem tw_57 : (Jvm.Cond.code ({ cls := "SherdField$Sorts", name := "<init>", desc := "()V" } : Jvm.MethodName) prog_10_method_1_code (1 : Nat) (Option.none : Option Jvm.ClassFile.FieldType)) ∈ gtb := gtb_t 57 (by decide +kernel) (by decide +kernel)
theorem tw_58 : (Jvm.Cond.methodLink "SherdField$Sorts" (1 : Nat) ({ cls := "java/lang/Object", name := "<init>", desc := "()V" } : Jvm.MethodName)) ∈ gtb := gtb_t 58 (by decide +kernel) (by decide +kernel)
theorem tw_59 : (Jvm.Cond.fieldLink "SherdField$Sorts" (9 : Nat) "SherdField$Sorts" "sortOf" "[I") ∈ gtb := gtb_t 59 (by decide +kernel) (by decide +kernel)
theorem tw_63 : (Jvm.Cond.classLink "SherdField" (23 : Nat) "SherdField$Walks") ∈ gtb := gtb_t 63 (by decide +kernel) (by decide +kernel)
theorem tw_64 : (Jvm.Cond.instantiable "SherdField$Walks" (6 : Nat)) ∈ gtb := gtb_t 64 (by decide +kernel) (by decide +kernel)
theorem tw_66 : (Jvm.Cond.instanceMethod ({ cls := "SherdField$Walks", name := "<init>", desc := "()V" } : Jvm.MethodName)) ∈ gtb := gtb_t 66 (by decide +kernel) (by decide +kernel)
theorem tw_67 : (Jvm.Cond.code ({ cls := "SherdField$Walks", name := "<init>", desc := "()V" } : Jvm.MethodName) prog_12_method_1_code (1 : Nat) (Option.none : Option Jvm.ClassFile.FieldType)) ∈ gtb := gtb_t 67 (by decide +kernel) (by decide +kernel)
theorem tw_68 : (Jvm.Cond.methodLink "SherdField$Walks" (3 : Nat) ({ cls := "java/lang/Object", name := "<init>", desc := "()V" } : Jvm.MethodName)) ∈ gtb := gtb_t 68 (by decide +kernel) (by decide +kernel)
theorem tw_69 : (Jvm.Cond.fieldLink "SherdField$Walks" (11 : Nat) "SherdField$Walks" "walkers" "[I") ∈ gtb := gtb_t 69 (by decide +kernel) (by decide +kernel)
theorem tw_70 : (Jvm.Cond.fieldLink "SherdField$Walks" (15 : Nat) "SherdField$Walks" "rows" "[I") ∈ gtb := gtb_t 70 (by decide +kernel) (by decide +kernel)
theorem tw_71 : (Jvm.Cond.fieldLink "SherdField$Walks" (18 : Nat) "SherdField$Walks" "days" "[I") ∈ gtb := gtb_t 71 (by decide +kernel) (by decide +kernel)
theorem tw_72 : (Jvm.Cond.fieldLink "SherdField$Walks" (21 : Nat) "SherdField$Walks" "sums" "[I") ∈ gtb := gtb_t 72 (by decide +kernel) (by decide +kernel)
theorem tw_73 : (Jvm.Cond.fieldLink "SherdField$Walks" (24 : Nat) "SherdField$Walks" "tallies" "[I") ∈ gtb := gtb_t 73 (by decide +kernel) (by decide +kernel)
theorem tw_74 : (Jvm.Cond.fieldLink "SherdField$Walks" (27 : Nat) "SherdField$Walks" "number" "I") ∈ gtb := gtb_t 74 (by decide +kernel) (by decide +kernel)
theorem tw_88 : (Jvm.Cond.classLink "SherdField" (30 : Nat) "SherdField$Finds") ∈ gtb := gtb_t 88 (by decide +kernel) (by decide +kernel)
theorem tw_89 : (Jvm.Cond.instantiable "SherdField$Finds" (5 : Nat)) ∈ gtb := gtb_t 89 (by decide +kernel) (by decide +kernel)
theorem tw_91 : (Jvm.Cond.instanceMethod ({ cls := "SherdField$Finds", name := "<init>", desc := "()V" } : Jvm.MethodName)) ∈ gtb := gtb_t 91 (by decide +kernel) (by decide +kernel)
theorem tw_92 : (Jvm.Cond.code ({ cls := "SherdField$Finds", name := "<init>", desc := "()V" } : Jvm.MethodName) prog_3_method_1_code (1 : Nat) (Option.none : Option Jvm.ClassFile.FieldType)) ∈ gtb := gtb_t 92 (by decide +kernel) (by decide +kernel)
theorem tw_93 : (Jvm.Cond.methodLink "SherdField$Finds" (3 : Nat) ({ cls := "java/lang/Object", name := "<init>", desc := "()V" } : Jvm.MethodName)) ∈ gtb := gtb_t 93 (by decide +kernel) (by decide +kernel)
theorem tw_94 : (Jvm.Cond.fieldLink "SherdField$Finds" (11 : Nat) "SherdField$Finds" "walks" "[I") ∈ gtb := gtb_t 94 (by decide +kernel) (by decide +kernel)
theorem tw_95 : (Jvm.Cond.fieldLink "SherdField$Finds" (15 : Nat) "SherdField$Finds" "paces" "[I") ∈ gtb := gtb_t 95 (by decide +kernel) (by decide +kernel)
theorem tw_96 : (Jvm.Cond.fieldLink "SherdField$Finds" (18 : Nat) "SherdField$Finds" "kinds" "[I") ∈ gtb := gtb_t 96 (by decide +kernel) (by decide +kernel)
theorem tw_97 : (Jvm.Cond.fieldLink "SherdField$Finds" (21 : Nat) "SherdField$Finds" "numbers" "[I") ∈ gtb := gtb_t 97 (by decide +kernel) (by decide +kernel)
theorem tw_98 : (Jvm.Cond.fieldLink "SherdField$Finds" (24 : Nat) "SherdField$Finds" "number" "I") ∈ gtb := gtb_t 98 (by decide +kernel) (by decide +kernel)
theorem tw_110 : (Jvm.Cond.classLink "SherdField" (37 : Nat) "SherdField$Periods") ∈ gtb := gtb_t 110 (by decide +kernel) (by decide +kernel)
theorem tw_111 : (Jvm.Cond.instantiable "SherdField$Periods" (3 : Nat)) ∈ gtb := gtb_t 111 (by decide +kernel) (by decide +kernel)
theorem tw_113 : (Jvm.Cond.instanceMethod ({ cls := "SherdField$Periods", name := "<init>", desc := "()V" } : Jvm.MethodName)) ∈ gtb := gtb_t 113 (by decide +kernel) (by decide +kernel)
theorem tw_114 : (Jvm.Cond.code ({ cls := "SherdField$Periods", name := "<init>", desc := "()V" } : Jvm.MethodName) prog_8_method_1_code (1 : Nat) (Option.none : Option Jvm.ClassFile.FieldType)) ∈ gtb := gtb_t 114 (by decide +kernel) (by decide +kernel)
theorem tw_115 : (Jvm.Cond.methodLink "SherdField$Periods" (3 : Nat) ({ cls := "java/lang/Object", name := "<init>", desc := "()V" } : Jvm.MethodName)) ∈ gtb := gtb_t 115 (by decide +kernel) (by decide +kernel)
theorem tw_116 : (Jvm.Cond.fieldLink "SherdField$Periods" (9 : Nat) "SherdField$Periods" "profiles" "[I") ∈ gtb := gtb_t 116 (by decide +kernel) (by decide +kernel)
theorem tw_117 : (Jvm.Cond.fieldLink "SherdField$Periods" (15 : Nat) "SherdField$Periods" "counted" "[I") ∈ gtb := gtb_t 117 (by decide +kernel) (by decide +kernel)
theorem tw_118 : (Jvm.Cond.fieldLink "SherdField$Periods" (18 : Nat) "SherdField$Periods" "best" "[I") ∈ gtb := gtb_t 118 (by decide +kernel) (by decide +kernel)
theorem tw_126 : (Jvm.Cond.classLink "SherdField" (44 : Nat) "SherdField$Tape") ∈ gtb := gtb_t 126 (by decide +kernel) (by decide +kernel)
theorem tw_127 : (Jvm.Cond.instantiable "SherdField$Tape" (2 : Nat)) ∈ gtb := gtb_t 127 (by decide +kernel) (by decide +kernel)
theorem tw_129 : (Jvm.Cond.instanceMethod ({ cls := "SherdField$Tape", name := "<init>", desc := "()V" } : Jvm.MethodName)) ∈ gtb := gtb_t 129 (by decide +kernel) (by decide +kernel)
theorem tw_130 : (Jvm.Cond.code ({ cls := "SherdField$Tape", name := "<init>", desc := "()V" } : Jvm.MethodName) prog_11_method_1_code (1 : Nat) (Option.none : Option Jvm.ClassFile.FieldType)) ∈ gtb := gtb_t 130 (by decide +kernel) (by decide +kernel)
theorem tw_131 : (Jvm.Cond.methodLink "SherdField$Tape" (1 : Nat) ({ cls := "java/lang/Object", name := "<init>", desc := "()V" } : Jvm.MethodName)) ∈ gtb := gtb_t 131 (by decide +kernel) (by decide +kernel)
theorem tw_132 : (Jvm.Cond.fieldLink "SherdField$Tape" (9 : Nat) "SherdField$Tape" "bytes" "[B") ∈ gtb := gtb_t 132 (by decide +kernel) (by decide +kernel)
theorem tw_133 : (Jvm.Cond.fieldLink "SherdField$Tape" (13 : Nat) "SherdField$Tape" "length" "I") ∈ gtb := gtb_t 133 (by decide +kernel) (by decide +kernel)
theorem tw_139 : (Jvm.Cond.arrayClass Jvm.ClassFile.FieldType.byte) ∈ gtb := gtb_t 139 (by decide +kernel) (by decide +kernel)
theorem tw_140 : (Jvm.Cond.classLink "SherdField" (51 : Nat) "SherdField$Leaves") ∈ gtb := gtb_t 140 (by decide +kernel) (by decide +kernel)
theorem tw_141 : (Jvm.Cond.instantiable "SherdField$Leaves" (7 : Nat)) ∈ gtb := gtb_t 141 (by decide +kernel) (by decide +kernel)
theorem tw_143 : (Jvm.Cond.instanceMethod ({ cls := "SherdField$Leaves", name := "<init>", desc := "()V" } : Jvm.MethodName)) ∈ gtb := gtb_t 143 (by decide +kernel) (by decide +kernel)
theorem tw_144 : (Jvm.Cond.code ({ cls := "SherdField$Leaves", name := "<init>", desc := "()V" } : Jvm.MethodName) prog_7_method_1_code (1 : Nat) (Option.none : Option Jvm.ClassFile.FieldType)) ∈ gtb := gtb_t 144 (by decide +kernel) (by decide +kernel)
theorem tw_145 : (Jvm.Cond.methodLink "SherdField$Leaves" (3 : Nat) ({ cls := "java/lang/Object", name := "<init>", desc := "()V" } : Jvm.MethodName)) ∈ gtb := gtb_t 145 (by decide +kernel) (by decide +kernel)
theorem tw_146 : (Jvm.Cond.fieldLink "SherdField$Leaves" (11 : Nat) "SherdField$Leaves" "firstRows" "[I") ∈ gtb := gtb_t 146 (by decide +kernel) (by decide +kernel)
theorem tw_147 : (Jvm.Cond.fieldLink "SherdField$Leaves" (15 : Nat) "SherdField$Leaves" "lastRows" "[I") ∈ gtb := gtb_t 147 (by decide +kernel) (by decide +kernel)
theorem tw_148 : (Jvm.Cond.fieldLink "SherdField$Leaves" (18 : Nat) "SherdField$Leaves" "firstDays" "[I") ∈ gtb := gtb_t 148 (by decide +kernel) (by decide +kernel)
theorem tw_149 : (Jvm.Cond.fieldLink "SherdField$Leaves" (21 : Nat) "SherdField$Leaves" "lastDays" "[I") ∈ gtb := gtb_t 149 (by decide +kernel) (by decide +kernel)
theorem tw_150 : (Jvm.Cond.fieldLink "SherdField$Leaves" (24 : Nat) "SherdField$Leaves" "barred" "[I") ∈ gtb := gtb_t 150 (by decide +kernel) (by decide +kernel)
theorem tw_151 : (Jvm.Cond.fieldLink "SherdField$Leaves" (27 : Nat) "SherdField$Leaves" "withdrawn" "[Z") ∈ gtb := gtb_t 151 (by decide +kernel) (by decide +kernel)
theorem tw_152 : (Jvm.Cond.fieldLink "SherdField$Leaves" (31 : Nat) "SherdField$Leaves" "number" "I") ∈ gtb := gtb_t 152 (by decide +kernel) (by decide +kernel)
theorem tw_168 : (Jvm.Cond.arrayClass Jvm.ClassFile.FieldType.boolean) ∈ gtb := gtb_t 168 (by decide +kernel) (by decide +kernel)
theorem tw_169 : (Jvm.Cond.classLink "SherdField" (58 : Nat) "SherdField$Sheet") ∈ gtb := gtb_t 169 (by decide +kernel) (by decide +kernel)
theorem tw_170 : (Jvm.Cond.instantiable "SherdField$Sheet" (2 : Nat)) ∈ gtb := gtb_t 170 (by decide +kernel) (by decide +kernel)
theorem tw_172 : (Jvm.Cond.instanceMethod ({ cls := "SherdField$Sheet", name := "<init>", desc := "()V" } : Jvm.MethodName)) ∈ gtb := gtb_t 172 (by decide +kernel) (by decide +kernel)
theorem tw_173 : (Jvm.Cond.code ({ cls := "SherdField$Sheet", name := "<init>", desc := "()V" } : Jvm.MethodName) prog_9_method_1_code (1 : Nat) (Option.none : Option Jvm.ClassFile.FieldType)) ∈ gtb := gtb_t 173 (by decide +kernel) (by decide +kernel)
theorem tw_174 : (Jvm.Cond.methodLink "SherdField$Sheet" (3 : Nat) ({ cls := "java/lang/Object", name := "<init>", desc := "()V" } : Jvm.MethodName)) ∈ gtb := gtb_t 174 (by decide +kernel) (by decide +kernel)
theorem tw_175 : (Jvm.Cond.fieldLink "SherdField$Sheet" (11 : Nat) "SherdField$Sheet" "places" "[S") ∈ gtb := gtb_t 175 (by decide +kernel) (by decide +kernel)
theorem tw_176 : (Jvm.Cond.fieldLink "SherdField$Sheet" (15 : Nat) "SherdField$Sheet" "size" "I") ∈ gtb := gtb_t 176 (by decide +kernel) (by decide +kernel)
theorem tw_182 : (Jvm.Cond.arrayClass Jvm.ClassFile.FieldType.short) ∈ gtb := gtb_t 182 (by decide +kernel) (by decide +kernel)
theorem tw_183 : (Jvm.Cond.classLink "SherdField" (78 : Nat) "SherdField$Eyes") ∈ gtb := gtb_t 183 (by decide +kernel) (by decide +kernel)
theorem tw_184 : (Jvm.Cond.instantiable "SherdField$Eyes" (2 : Nat)) ∈ gtb := gtb_t 184 (by decide +kernel) (by decide +kernel)
theorem tw_185 : (Jvm.Cond.methodLink "SherdField" (80 : Nat) ({ cls := "SherdField$Eyes", name := "<init>", desc := "(LSherdField$Walks;LSherdField$Sorts;)V" } : Jvm.MethodName)) ∈ gtb := gtb_t 185 (by decide +kernel) (by decide +kernel)
theorem tw_186 : (Jvm.Cond.instanceMethod ({ cls := "SherdField$Eyes", name := "<init>", desc := "(LSherdField$Walks;LSherdField$Sorts;)V" } : Jvm.MethodName)) ∈ gtb := gtb_t 186 (by decide +kernel) (by decide +kernel)
theorem tw_187 : (Jvm.Cond.code ({ cls := "SherdField$Eyes", name := "<init>", desc := "(LSherdField$Walks;LSherdField$Sorts;)V" } : Jvm.MethodName) prog_2_method_1_code (3 : Nat) (Option.none : Option Jvm.ClassFile.FieldType)) ∈ gtb := gtb_t 187 (by decide +kernel) (by decide +kernel)
theorem tw_188 : (Jvm.Cond.methodLink "SherdField$Eyes" (3 : Nat) ({ cls := "java/lang/Object", name := "<init>", desc := "()V" } : Jvm.MethodName)) ∈ gtb := gtb_t 188 (by decide +kernel) (by decide +kernel)
theorem tw_189 : (Jvm.Cond.fieldLink "SherdField$Eyes" (9 : Nat) "SherdField$Eyes" "walks" "LSherdField$Walks;") ∈ gtb := gtb_t 189 (by decide +kernel) (by decide +kernel)
theorem tw_190 : (Jvm.Cond.fieldLink "SherdField$Eyes" (15 : Nat) "SherdField$Eyes" "sorts" "LSherdField$Sorts;") ∈ gtb := gtb_t 190 (by decide +kernel) (by decide +kernel)
theorem tw_196 : (Jvm.Cond.classLink "SherdField" (87 : Nat) "SherdField$Heaps") ∈ gtb := gtb_t 196 (by decide +kernel) (by decide +kernel)
theorem tw_197 : (Jvm.Cond.instantiable "SherdField$Heaps" (6 : Nat)) ∈ gtb := gtb_t 197 (by decide +kernel) (by decide +kernel)
theorem tw_198 : (Jvm.Cond.methodLink "SherdField" (89 : Nat) ({ cls := "SherdField$Heaps", name := "<init>", desc := "(LSherdField$Ground;LSherdField$Walks;LSherdField$Eyes;LSherdField$Sorts;)V" } : Jvm.MethodName)) ∈ gtb := gtb_t 198 (by decide +kernel) (by decide +kernel)
theorem tw_199 : (Jvm.Cond.instanceMethod ({ cls := "SherdField$Heaps", name := "<init>", desc := "(LSherdField$Ground;LSherdField$Walks;LSherdField$Eyes;LSherdField$Sorts;)V" } : Jvm.MethodName)) ∈ gtb := gtb_t 199 (by decide +kernel) (by decide +kernel)
theorem tw_200 : (Jvm.Cond.code ({ cls := "SherdField$Heaps", name := "<init>", desc := "(LSherdField$Ground;LSherdField$Walks;LSherdField$Eyes;LSherdField$Sorts;)V" } : Jvm.MethodName) prog_5_method_1_code (5 : Nat) (Option.none : Option Jvm.ClassFile.FieldType)) ∈ gtb := gtb_t 200 (by decide +kernel) (by decide +kernel)
theorem tw_201 : (Jvm.Cond.methodLink "SherdField$Heaps" (3 : Nat) ({ cls := "java/lang/Object", name := "<init>", desc := "()V" } : Jvm.MethodName)) ∈ gtb := gtb_t 201 (by decide +kernel) (by decide +kernel)
theorem tw_202 : (Jvm.Cond.fieldLink "SherdField$Heaps" (18 : Nat) "SherdField$Heaps" "ground" "LSherdField$Ground;") ∈ gtb := gtb_t 202 (by decide +kernel) (by decide +kernel)
theorem tw_203 : (Jvm.Cond.fieldLink "SherdField$Heaps" (22 : Nat) "SherdField$Heaps" "walks" "LSherdField$Walks;") ∈ gtb := gtb_t 203 (by decide +kernel) (by decide +kernel)
theorem tw_204 : (Jvm.Cond.fieldLink "SherdField$Heaps" (26 : Nat) "SherdField$Heaps" "eyes" "LSherdField$Eyes;") ∈ gtb := gtb_t 204 (by decide +kernel) (by decide +kernel)
theorem tw_205 : (Jvm.Cond.fieldLink "SherdField$Heaps" (30 : Nat) "SherdField$Heaps" "sorts" "LSherdField$Sorts;") ∈ gtb := gtb_t 205 (by decide +kernel) (by decide +kernel)
theorem tw_206 : (Jvm.Cond.fieldLink "SherdField$Heaps" (9 : Nat) "SherdField$Heaps" "worths" "[I") ∈ gtb := gtb_t 206 (by decide +kernel) (by decide +kernel)
theorem tw_207 : (Jvm.Cond.fieldLink "SherdField$Heaps" (15 : Nat) "SherdField$Heaps" "walked" "[I") ∈ gtb := gtb_t 207 (by decide +kernel) (by decide +kernel)
theorem tw_221 : (Jvm.Cond.classLink "SherdField" (96 : Nat) "SherdField$LeaveReader") ∈ gtb := gtb_t 221 (by decide +kernel) (by decide +kernel)
theorem tw_222 : (Jvm.Cond.instantiable "SherdField$LeaveReader" (9 : Nat)) ∈ gtb := gtb_t 222 (by decide +kernel) (by decide +kernel)
theorem tw_223 : (Jvm.Cond.methodLink "SherdField" (98 : Nat) ({ cls := "SherdField$LeaveReader", name := "<init>", desc := "(LSherdField$Tape;)V" } : Jvm.MethodName)) ∈ gtb := gtb_t 223 (by decide +kernel) (by decide +kernel)
theorem tw_224 : (Jvm.Cond.instanceMethod ({ cls := "SherdField$LeaveReader", name := "<init>", desc := "(LSherdField$Tape;)V" } : Jvm.MethodName)) ∈ gtb := gtb_t 224 (by decide +kernel) (by decide +kernel)
theorem tw_225 : (Jvm.Cond.code ({ cls := "SherdField$LeaveReader", name := "<init>", desc := "(LSherdField$Tape;)V" } : Jvm.MethodName) prog_6_method_1_code (2 : Nat) (Option.none : Option Jvm.ClassFile.FieldType)) ∈ gtb := gtb_t 225 (by decide +kernel) (by decide +kernel)
theorem tw_226 : (Jvm.Cond.methodLink "SherdField$LeaveReader" (3 : Nat) ({ cls := "java/lang/Object", name := "<init>", desc := "()V" } : Jvm.MethodName)) ∈ gtb := gtb_t 226 (by decide +kernel) (by decide +kernel)
theorem tw_227 : (Jvm.Cond.fieldLink "SherdField$LeaveReader" (9 : Nat) "SherdField$LeaveReader" "tape" "LSherdField$Tape;") ∈ gtb := gtb_t 227 (by decide +kernel) (by decide +kernel)
theorem tw_228 : (Jvm.Cond.fieldLink "SherdField$LeaveReader" (34 : Nat) "SherdField$LeaveReader" "start" "I") ∈ gtb := gtb_t 228 (by decide +kernel) (by decide +kernel)
theorem tw_229 : (Jvm.Cond.fieldLink "SherdField$LeaveReader" (19 : Nat) "SherdField$LeaveReader" "end" "I") ∈ gtb := gtb_t 229 (by decide +kernel) (by decide +kernel)
theorem tw_230 : (Jvm.Cond.fieldLink "SherdField$LeaveReader" (15 : Nat) "SherdField$LeaveReader" "fault" "I") ∈ gtb := gtb_t 230 (by decide +kernel) (by decide +kernel)
theorem tw_231 : (Jvm.Cond.fieldLink "SherdField$LeaveReader" (46 : Nat) "SherdField$LeaveReader" "firstRow" "I") ∈ gtb := gtb_t 231 (by decide +kernel) (by decide +kernel)
theorem tw_232 : (Jvm.Cond.fieldLink "SherdField$LeaveReader" (49 : Nat) "SherdField$LeaveReader" "lastRow" "I") ∈ gtb := gtb_t 232 (by decide +kernel) (by decide +kernel)
theorem tw_233 : (Jvm.Cond.fieldLink "SherdField$LeaveReader" (52 : Nat) "SherdField$LeaveReader" "firstDay" "I") ∈ gtb := gtb_t 233 (by decide +kernel) (by decide +kernel)
theorem tw_234 : (Jvm.Cond.fieldLink "SherdField$LeaveReader" (55 : Nat) "SherdField$LeaveReader" "lastDay" "I") ∈ gtb := gtb_t 234 (by decide +kernel) (by decide +kernel)
theorem tw_235 : (Jvm.Cond.fieldLink "SherdField$LeaveReader" (58 : Nat) "SherdField$LeaveReader" "barred" "I") ∈ gtb := gtb_t 235 (by decide +kernel) (by decide +kernel)
theorem tw_255 : (Jvm.Cond.fieldLink "SherdField" (10 : Nat) "SherdField" "ground" "LSherdField$Ground;") ∈ gtb := gtb_t 255 (by decide +kernel) (by decide +kernel)
theorem tw_256 : (Jvm.Cond.fieldLink "SherdField" (19 : Nat) "SherdField" "sorts" "LSherdField$Sorts;") ∈ gtb := gtb_t 256 (by decide +kernel) (by decide +kernel)
theorem tw_257 : (Jvm.Cond.fieldLink "SherdField" (26 : Nat) "SherdField" "walks" "LSherdField$Walks;") ∈ gtb := gtb_t 257 (by decide +kernel) (by decide +kernel)
theorem tw_258 : (Jvm.Cond.fieldLink "SherdField" (33 : Nat) "SherdField" "finds" "LSherdField$Finds;") ∈ gtb := gtb_t 258 (by decide +kernel) (by decide +kernel)
theorem tw_259 : (Jvm.Cond.fieldLink "SherdField" (83 : Nat) "SherdField" "eyes" "LSherdField$Eyes;") ∈ gtb := gtb_t 259 (by decide +kernel) (by decide +kernel)
theorem tw_260 : (Jvm.Cond.fieldLink "SherdField" (92 : Nat) "SherdField" "heaps" "LSherdField$Heaps;") ∈ gtb := gtb_t 260 (by decide +kernel) (by decide +kernel)
theorem tw_261 : (Jvm.Cond.fieldLink "SherdField" (40 : Nat) "SherdField" "periods" "LSherdField$Periods;") ∈ gtb := gtb_t 261 (by decide +kernel) (by decide +kernel)
theorem tw_262 : (Jvm.Cond.fieldLink "SherdField" (47 : Nat) "SherdField" "tape" "LSherdField$Tape;") ∈ gtb := gtb_t 262 (by decide +kernel) (by decide +kernel)
theorem tw_263 : (Jvm.Cond.fieldLink "SherdField" (101 : Nat) "SherdField" "reader" "LSherdField$LeaveReader;") ∈ gtb := gtb_t 263 (by decide +kernel) (by decide +kernel)
theorem tw_264 : (Jvm.Cond.fieldLink "SherdField" (54 : Nat) "SherdField" "leaves" "LSherdField$Leaves;") ∈ gtb := gtb_t 264 (by decide +kernel) (by decide +kernel)
theorem tw_265 : (Jvm.Cond.fieldLink "SherdField" (61 : Nat) "SherdField" "firstSheet" "LSherdField$Sheet;") ∈ gtb := gtb_t 265 (by decide +kernel) (by decide +kernel)
theorem tw_266 : (Jvm.Cond.fieldLink "SherdField" (65 : Nat) "SherdField" "secondSheet" "LSherdField$Sheet;") ∈ gtb := gtb_t 266 (by decide +kernel) (by decide +kernel)
theorem tw_267 : (Jvm.Cond.fieldLink "SherdField" (68 : Nat) "SherdField" "today" "I") ∈ gtb := gtb_t 267 (by decide +kernel) (by decide +kernel)
theorem tw_268 : (Jvm.Cond.fieldLink "SherdField" (72 : Nat) "SherdField" "seed" "I") ∈ gtb := gtb_t 268 (by decide +kernel) (by decide +kernel)
theorem tw_269 : (Jvm.Cond.fieldLink "SherdField" (75 : Nat) "SherdField" "spare" "I") ∈ gtb := gtb_t 269 (by decide +kernel) (by decide +kernel)
theorem tw_301 : (Jvm.Cond.methodLink "SherdFieldLaw" (13 : Nat) ({ cls := "SherdField", name := "field", desc := "(II)I" } : Jvm.MethodName)) ∈ gtb := gtb_t 301 (by decide +kernel) (by decide +kernel)
theorem tw_302 : (Jvm.Cond.instanceMethod ({ cls := "SherdField", name := "field", desc := "(II)I" } : Jvm.MethodName)) ∈ gtb := gtb_t 302 (by decide +kernel) (by decide +kernel)
theorem tw_303 : (Jvm.Cond.selects "SherdField" ({ cls := "SherdField", name := "field", desc := "(II)I" } : Jvm.MethodName) ({ cls := "SherdField", name := "field", desc := "(II)I" } : Jvm.MethodName)) ∈ gtb := gtb_t 303 (by decide +kernel) (by decide +kernel)
theorem tw_304 : (Jvm.Cond.code ({ cls := "SherdField", name := "field", desc := "(II)I" } : Jvm.MethodName) prog_1_method_2_code (3 : Nat) (Option.some Jvm.ClassFile.FieldType.int)) ∈ gtb := gtb_t 304 (by decide +kernel) (by decide +kernel)
theorem tw_305 : (Jvm.Cond.methodLink "SherdField" (105 : Nat) ({ cls := "SherdField", name := "within", desc := "(III)Z" } : Jvm.MethodName)) ∈ gtb := gtb_t 305 (by decide +kernel) (by decide +kernel)
theorem tw_306 : (Jvm.Cond.static ({ cls := "SherdField", name := "within", desc := "(III)Z" } : Jvm.MethodName)) ∈ gtb := gtb_t 306 (by decide +kernel) (by decide +kernel)
theorem tw_307 : (Jvm.Cond.code ({ cls := "SherdField", name := "within", desc := "(III)Z" } : Jvm.MethodName) prog_1_method_34_code (3 : Nat) (Option.some Jvm.ClassFile.FieldType.boolean)) ∈ gtb := gtb_t 307 (by decide +kernel) (by decide +kernel)
theorem tw_308 : (Jvm.Cond.constant "SherdField" (109 : Nat) (-1000000001 : Int32)) ∈ gtb := gtb_t 308 (by decide +kernel) (by decide +kernel)
theorem tw_309 : (Jvm.Cond.methodLink "SherdField" (110 : Nat) ({ cls := "SherdField$Ground", name := "renew", desc := "(II)V" } : Jvm.MethodName)) ∈ gtb := gtb_t 309 (by decide +kernel) (by decide +kernel)
theorem tw_310 : (Jvm.Cond.instanceMethod ({ cls := "SherdField$Ground", name := "renew", desc := "(II)V" } : Jvm.MethodName)) ∈ gtb := gtb_t 310 (by decide +kernel) (by decide +kernel)
theorem tw_311 : (Jvm.Cond.selects "SherdField$Ground" ({ cls := "SherdField$Ground", name := "renew", desc := "(II)V" } : Jvm.MethodName) ({ cls := "SherdField$Ground", name := "renew", desc := "(II)V" } : Jvm.MethodName)) ∈ gtb := gtb_t 311 (by decide +kernel) (by decide +kernel)
theorem tw_312 : (Jvm.Cond.code ({ cls := "SherdField$Ground", name := "renew", desc := "(II)V" } : Jvm.MethodName) prog_4_method_2_code (3 : Nat) (Option.none : Option Jvm.ClassFile.FieldType)) ∈ gtb := gtb_t 312 (by decide +kernel) (by decide +kernel)
theorem tw_313 : (Jvm.Cond.methodLink "SherdField" (114 : Nat) ({ cls := "SherdField$Walks", name := "clear", desc := "()V" } : Jvm.MethodName)) ∈ gtb := gtb_t 313 (by decide +kernel) (by decide +kernel)
theorem tw_314 : (Jvm.Cond.instanceMethod ({ cls := "SherdField$Walks", name := "clear", desc := "()V" } : Jvm.MethodName)) ∈ gtb := gtb_t 314 (by decide +kernel) (by decide +kernel)
theorem tw_315 : (Jvm.Cond.selects "SherdField$Walks" ({ cls := "SherdField$Walks", name := "clear", desc := "()V" } : Jvm.MethodName) ({ cls := "SherdField$Walks", name := "clear", desc := "()V" } : Jvm.MethodName)) ∈ gtb := gtb_t 315 (by decide +kernel) (by decide +kernel)
theorem tw_316 : (Jvm.Cond.code ({ cls := "SherdField$Walks", name := "clear", desc := "()V" } : Jvm.MethodName) prog_12_method_2_code (1 : Nat) (Option.none : Option Jvm.ClassFile.FieldType)) ∈ gtb := gtb_t 316 (by decide +kernel) (by decide +kernel)
theorem tw_317 : (Jvm.Cond.methodLink "SherdField$Walks" (31 : Nat) ({ cls := "java/util/Arrays", name := "fill", desc := "([II)V" } : Jvm.MethodName)) ∈ gtb := gtb_t 317 (by decide +kernel) (by decide +kernel)
theorem tw_318 : (Jvm.Cond.static ({ cls := "java/util/Arrays", name := "fill", desc := "([II)V" } : Jvm.MethodName)) ∈ gtb := gtb_t 318 (by decide +kernel) (by decide +kernel)
theorem tw_319 : (Jvm.Cond.code ({ cls := "java/util/Arrays", name := "fill", desc := "([II)V" } : Jvm.MethodName) prog_21_method_103_code (4 : Nat) (Option.none : Option Jvm.ClassFile.FieldType)) ∈ gtb := gtb_t 319 (by decide +kernel) (by decide +kernel)
theorem tw_320 : (Jvm.Cond.methodLink "SherdField" (117 : Nat) ({ cls := "SherdField$Finds", name := "clear", desc := "()V" } : Jvm.MethodName)) ∈ gtb := gtb_t 320 (by decide +kernel) (by decide +kernel)
theorem tw_321 : (Jvm.Cond.instanceMethod ({ cls := "SherdField$Finds", name := "clear", desc := "()V" } : Jvm.MethodName)) ∈ gtb := gtb_t 321 (by decide +kernel) (by decide +kernel)
theorem tw_322 : (Jvm.Cond.selects "SherdField$Finds" ({ cls := "SherdField$Finds", name := "clear", desc := "()V" } : Jvm.MethodName) ({ cls := "SherdField$Finds", name := "clear", desc := "()V" } : Jvm.MethodName)) ∈ gtb := gtb_t 322 (by decide +kernel) (by decide +kernel)
theorem tw_323 : (Jvm.Cond.code ({ cls := "SherdField$Finds", name := "clear", desc := "()V" } : Jvm.MethodName) prog_3_method_2_code (1 : Nat) (Option.none : Option Jvm.ClassFile.FieldType)) ∈ gtb := gtb_t 323 (by decide +kernel) (by decide +kernel)
theorem tw_324 : (Jvm.Cond.methodLink "SherdField" (118 : Nat) ({ cls := "SherdField$Ground", name := "paces", desc := "()I" } : Jvm.MethodName)) ∈ gtb := gtb_t 324 (by decide +kernel) (by decide +kernel)
theorem tw_325 : (Jvm.Cond.instanceMethod ({ cls := "SherdField$Ground", name := "paces", desc := "()I" } : Jvm.MethodName)) ∈ gtb := gtb_t 325 (by decide +kernel) (by decide +kernel)
theorem tw_326 : (Jvm.Cond.selects "SherdField$Ground" ({ cls := "SherdField$Ground", name := "paces", desc := "()I" } : Jvm.MethodName) ({ cls := "SherdField$Ground", name := "paces", desc := "()I" } : Jvm.MethodName)) ∈ gtb := gtb_t 326 (by decide +kernel) (by decide +kernel)
theorem tw_327 : (Jvm.Cond.code ({ cls := "SherdField$Ground", name := "paces", desc := "()I" } : Jvm.MethodName) prog_4_method_3_code (1 : Nat) (Option.some Jvm.ClassFile.FieldType.int)) ∈ gtb := gtb_t 327 (by decide +kernel) (by decide +kernel)
theorem tw_328 : (Jvm.Cond.methodLink "SherdFieldLaw" (18 : Nat) ({ cls := "SherdField", name := "sort", desc := "(II)I" } : Jvm.MethodName)) ∈ gtb := gtb_t 328 (by decide +kernel) (by decide +kernel)
theorem tw_329 : (Jvm.Cond.instanceMethod ({ cls := "SherdField", name := "sort", desc := "(II)I" } : Jvm.MethodName)) ∈ gtb := gtb_t 329 (by decide +kernel) (by decide +kernel)
theorem tw_330 : (Jvm.Cond.selects "SherdField" ({ cls := "SherdField", name := "sort", desc := "(II)I" } : Jvm.MethodName) ({ cls := "SherdField", name := "sort", desc := "(II)I" } : Jvm.MethodName)) ∈ gtb := gtb_t 330 (by decide +kernel) (by decide +kernel)
theorem tw_331 : (Jvm.Cond.code ({ cls := "SherdField", name := "sort", desc := "(II)I" } : Jvm.MethodName) prog_1_method_3_code (3 : Nat) (Option.some Jvm.ClassFile.FieldType.int)) ∈ gtb := gtb_t 331 (by decide +kernel) (by decide +kernel)
theorem tw_332 : (Jvm.Cond.methodLink "SherdField" (122 : Nat) ({ cls := "SherdField", name := "isKind", desc := "(I)Z" } : Jvm.MethodName)) ∈ gtb := gtb_t 332 (by decide +kernel) (by decide +kernel)
theorem tw_333 : (Jvm.Cond.static ({ cls := "SherdField", name := "isKind", desc := "(I)Z" } : Jvm.MethodName)) ∈ gtb := gtb_t 333 (by decide +kernel) (by decide +kernel)
theorem tw_334 : (Jvm.Cond.code ({ cls := "SherdField", name := "isKind", desc := "(I)Z" } : Jvm.MethodName) prog_1_method_36_code (1 : Nat) (Option.some Jvm.ClassFile.FieldType.boolean)) ∈ gtb := gtb_t 334 (by decide +kernel) (by decide +kernel)
theorem tw_335 : (Jvm.Cond.methodLink "SherdField" (126 : Nat) ({ cls := "SherdField$Sorts", name := "isSort", desc := "(I)Z" } : Jvm.MethodName)) ∈ gtb := gtb_t 335 (by decide +kernel) (by decide +kernel)
theorem tw_336 : (Jvm.Cond.static ({ cls := "SherdField$Sorts", name := "isSort", desc := "(I)Z" } : Jvm.MethodName)) ∈ gtb := gtb_t 336 (by decide +kernel) (by decide +kernel)
theorem tw_337 : (Jvm.Cond.code ({ cls := "SherdField$Sorts", name := "isSort", desc := "(I)Z" } : Jvm.MethodName) prog_10_method_2_code (1 : Nat) (Option.some Jvm.ClassFile.FieldType.boolean)) ∈ gtb := gtb_t 337 (by decide +kernel) (by decide +kernel)
theorem tw_339 : (Jvm.Cond.methodLink "SherdField" (129 : Nat) ({ cls := "SherdField$Sorts", name := "become", desc := "(II)I" } : Jvm.MethodName)) ∈ gtb := gtb_t 339 (by decide +kernel) (by decide +kernel)
theorem tw_340 : (Jvm.Cond.instanceMethod ({ cls := "SherdField$Sorts", name := "become", desc := "(II)I" } : Jvm.MethodName)) ∈ gtb := gtb_t 340 (by decide +kernel) (by decide +kernel)
theorem tw_341 : (Jvm.Cond.selects "SherdField$Sorts" ({ cls := "SherdField$Sorts", name := "become", desc := "(II)I" } : Jvm.MethodName) ({ cls := "SherdField$Sorts", name := "become", desc := "(II)I" } : Jvm.MethodName)) ∈ gtb := gtb_t 341 (by decide +kernel) (by decide +kernel)
theorem tw_342 : (Jvm.Cond.code ({ cls := "SherdField$Sorts", name := "become", desc := "(II)I" } : Jvm.MethodName) prog_10_method_3_code (4 : Nat) (Option.some Jvm.ClassFile.FieldType.int)) ∈ gtb := gtb_t 342 (by decide +kernel) (by decide +kernel)
theorem tw_343 : (Jvm.Cond.methodLink "SherdFieldLaw" (22 : Nat) ({ cls := "SherdField", name := "isOf", desc := "(II)I" } : Jvm.MethodName)) ∈ gtb := gtb_t 343 (by decide +kernel) (by decide +kernel)
theorem tw_344 : (Jvm.Cond.instanceMethod ({ cls := "SherdField", name := "isOf", desc := "(II)I" } : Jvm.MethodName)) ∈ gtb := gtb_t 344 (by decide +kernel) (by decide +kernel)
theorem tw_345 : (Jvm.Cond.selects "SherdField" ({ cls := "SherdField", name := "isOf", desc := "(II)I" } : Jvm.MethodName) ({ cls := "SherdField", name := "isOf", desc := "(II)I" } : Jvm.MethodName)) ∈ gtb := gtb_t 345 (by decide +kernel) (by decide +kernel)
theorem tw_346 : (Jvm.Cond.code ({ cls := "SherdField", name := "isOf", desc := "(II)I" } : Jvm.MethodName) prog_1_method_4_code (3 : Nat) (Option.some Jvm.ClassFile.FieldType.int)) ∈ gtb := gtb_t 346 (by decide +kernel) (by decide +kernel)
theorem tw_347 : (Jvm.Cond.methodLink "SherdField" (133 : Nat) ({ cls := "SherdField$Sorts", name := "counts", desc := "(II)Z" } : Jvm.MethodName)) ∈ gtb := gtb_t 347 (by decide +kernel) (by decide +kernel)
theorem tw_348 : (Jvm.Cond.instanceMethod ({ cls := "SherdField$Sorts", name := "counts", desc := "(II)Z" } : Jvm.MethodName)) ∈ gtb := gtb_t 348 (by decide +kernel) (by decide +kernel)
theorem tw_349 : (Jvm.Cond.selects "SherdField$Sorts" ({ cls := "SherdField$Sorts", name := "counts", desc := "(II)Z" } : Jvm.MethodName) ({ cls := "SherdField$Sorts", name := "counts", desc := "(II)Z" } : Jvm.MethodName)) ∈ gtb := gtb_t 349 (by decide +kernel) (by decide +kernel)
theorem tw_350 : (Jvm.Cond.code ({ cls := "SherdField$Sorts", name := "counts", desc := "(II)Z" } : Jvm.MethodName) prog_10_method_4_code (4 : Nat) (Option.some Jvm.ClassFile.FieldType.boolean)) ∈ gtb := gtb_t 350 (by decide +kernel) (by decide +kernel)
theorem tw_351 : (Jvm.Cond.methodLink "SherdField" (137 : Nat) ({ cls := "SherdField", name := "toInt", desc := "(Z)I" } : Jvm.MethodName)) ∈ gtb := gtb_t 351 (by decide +kernel) (by decide +kernel)
theorem tw_352 : (Jvm.Cond.static ({ cls := "SherdField", name := "toInt", desc := "(Z)I" } : Jvm.MethodName)) ∈ gtb := gtb_t 352 (by decide +kernel) (by decide +kernel)
theorem tw_353 : (Jvm.Cond.code ({ cls := "SherdField", name := "toInt", desc := "(Z)I" } : Jvm.MethodName) prog_1_method_35_code (1 : Nat) (Option.some Jvm.ClassFile.FieldType.int)) ∈ gtb := gtb_t 353 (by decide +kernel) (by decide +kernel)
theorem tw_354 : (Jvm.Cond.methodLink "SherdFieldLaw" (26 : Nat) ({ cls := "SherdField", name := "walk", desc := "(II)I" } : Jvm.MethodName)) ∈ gtb := gtb_t 354 (by decide +kernel) (by decide +kernel)
theorem tw_355 : (Jvm.Cond.instanceMethod ({ cls := "SherdField", name := "walk", desc := "(II)I" } : Jvm.MethodName)) ∈ gtb := gtb_t 355 (by decide +kernel) (by decide +kernel)
theorem tw_356 : (Jvm.Cond.selects "SherdField" ({ cls := "SherdField", name := "walk", desc := "(II)I" } : Jvm.MethodName) ({ cls := "SherdField", name := "walk", desc := "(II)I" } : Jvm.MethodName)) ∈ gtb := gtb_t 356 (by decide +kernel) (by decide +kernel)
theorem tw_357 : (Jvm.Cond.code ({ cls := "SherdField", name := "walk", desc := "(II)I" } : Jvm.MethodName) prog_1_method_5_code (3 : Nat) (Option.some Jvm.ClassFile.FieldType.int)) ∈ gtb := gtb_t 357 (by decide +kernel) (by decide +kernel)
theorem tw_358 : (Jvm.Cond.methodLink "SherdField" (141 : Nat) ({ cls := "SherdField", name := "isWalker", desc := "(I)Z" } : Jvm.MethodName)) ∈ gtb := gtb_t 358 (by decide +kernel) (by decide +kernel)
theorem tw_359 : (Jvm.Cond.static ({ cls := "SherdField", name := "isWalker", desc := "(I)Z" } : Jvm.MethodName)) ∈ gtb := gtb_t 359 (by decide +kernel) (by decide +kernel)
theorem tw_360 : (Jvm.Cond.code ({ cls := "SherdField", name := "isWalker", desc := "(I)Z" } : Jvm.MethodName) prog_1_method_37_code (1 : Nat) (Option.some Jvm.ClassFile.FieldType.boolean)) ∈ gtb := gtb_t 360 (by decide +kernel) (by decide +kernel)
theorem tw_361 : (Jvm.Cond.methodLink "SherdField" (144 : Nat) ({ cls := "SherdField$Ground", name := "hasRow", desc := "(I)Z" } : Jvm.MethodName)) ∈ gtb := gtb_t 361 (by decide +kernel) (by decide +kernel)
theorem tw_362 : (Jvm.Cond.instanceMethod ({ cls := "SherdField$Ground", name := "hasRow", desc := "(I)Z" } : Jvm.MethodName)) ∈ gtb := gtb_t 362 (by decide +kernel) (by decide +kernel)
theorem tw_363 : (Jvm.Cond.selects "SherdField$Ground" ({ cls := "SherdField$Ground", name := "hasRow", desc := "(I)Z" } : Jvm.MethodName) ({ cls := "SherdField$Ground", name := "hasRow", desc := "(I)Z" } : Jvm.MethodName)) ∈ gtb := gtb_t 363 (by decide +kernel) (by decide +kernel)
theorem tw_364 : (Jvm.Cond.code ({ cls := "SherdField$Ground", name := "hasRow", desc := "(I)Z" } : Jvm.MethodName) prog_4_method_7_code (2 : Nat) (Option.some Jvm.ClassFile.FieldType.boolean)) ∈ gtb := gtb_t 364 (by decide +kernel) (by decide +kernel)
theorem tw_365 : (Jvm.Cond.methodLink "SherdField" (147 : Nat) ({ cls := "SherdField$Leaves", name := "wereGiven", desc := "()Z" } : Jvm.MethodName)) ∈ gtb := gtb_t 365 (by decide +kernel) (by decide +kernel)
theorem tw_366 : (Jvm.Cond.instanceMethod ({ cls := "SherdField$Leaves", name := "wereGiven", desc := "()Z" } : Jvm.MethodName)) ∈ gtb := gtb_t 366 (by decide +kernel) (by decide +kernel)
theorem tw_367 : (Jvm.Cond.selects "SherdField$Leaves" ({ cls := "SherdField$Leaves", name := "wereGiven", desc := "()Z" } : Jvm.MethodName) ({ cls := "SherdField$Leaves", name := "wereGiven", desc := "()Z" } : Jvm.MethodName)) ∈ gtb := gtb_t 367 (by decide +kernel) (by decide +kernel)
theorem tw_368 : (Jvm.Cond.code ({ cls := "SherdField$Leaves", name := "wereGiven", desc := "()Z" } : Jvm.MethodName) prog_7_method_2_code (1 : Nat) (Option.some Jvm.ClassFile.FieldType.boolean)) ∈ gtb := gtb_t 368 (by decide +kernel) (by decide +kernel)
theorem tw_369 : (Jvm.Cond.methodLink "SherdField" (151 : Nat) ({ cls := "SherdField$Leaves", name := "firstLetting", desc := "(III)I" } : Jvm.MethodName)) ∈ gtb := gtb_t 369 (by decide +kernel) (by decide +kernel)
theorem tw_370 : (Jvm.Cond.instanceMethod ({ cls := "SherdField$Leaves", name := "firstLetting", desc := "(III)I" } : Jvm.MethodName)) ∈ gtb := gtb_t 370 (by decide +kernel) (by decide +kernel)
theorem tw_371 : (Jvm.Cond.selects "SherdField$Leaves" ({ cls := "SherdField$Leaves", name := "firstLetting", desc := "(III)I" } : Jvm.MethodName) ({ cls := "SherdField$Leaves", name := "firstLetting", desc := "(III)I" } : Jvm.MethodName)) ∈ gtb := gtb_t 371 (by decide +kernel) (by decide +kernel)
theorem tw_372 : (Jvm.Cond.code ({ cls := "SherdField$Leaves", name := "firstLetting", desc := "(III)I" } : Jvm.MethodName) prog_7_method_9_code (5 : Nat) (Option.some Jvm.ClassFile.FieldType.int)) ∈ gtb := gtb_t 372 (by decide +kernel) (by decide +kernel)
theorem tw_373 : (Jvm.Cond.methodLink "SherdField$Leaves" (56 : Nat) ({ cls := "SherdField$Leaves", name := "covers", desc := "(III)Z" } : Jvm.MethodName)) ∈ gtb := gtb_t 373 (by decide +kernel) (by decide +kernel)
theorem tw_375 : (Jvm.Cond.instanceMethod ({ cls := "SherdField$Leaves", name := "covers", desc := "(III)Z" } : Jvm.MethodName)) ∈ gtb := gtb_t 375 (by decide +kernel) (by decide +kernel)
theorem tw_376 : (Jvm.Cond.code ({ cls := "SherdField$Leaves", name := "covers", desc := "(III)Z" } : Jvm.MethodName) prog_7_method_10_code (4 : Nat) (Option.some Jvm.ClassFile.FieldType.boolean)) ∈ gtb := gtb_t 376 (by decide +kernel) (by decide +kernel)
theorem tw_378 : (Jvm.Cond.constant "SherdField" (155 : Nat) (-1000000002 : Int32)) ∈ gtb := gtb_t 378 (by decide +kernel) (by decide +kernel)
theorem tw_379 : (Jvm.Cond.methodLink "SherdField" (156 : Nat) ({ cls := "SherdField$Walks", name := "isFull", desc := "()Z" } : Jvm.MethodName)) ∈ gtb := gtb_t 379 (by decide +kernel) (by decide +kernel)
theorem tw_380 : (Jvm.Cond.instanceMethod ({ cls := "SherdField$Walks", name := "isFull", desc := "()Z" } : Jvm.MethodName)) ∈ gtb := gtb_t 380 (by decide +kernel) (by decide +kernel)
theorem tw_381 : (Jvm.Cond.selects "SherdField$Walks" ({ cls := "SherdField$Walks", name := "isFull", desc := "()Z" } : Jvm.MethodName) ({ cls := "SherdField$Walks", name := "isFull", desc := "()Z" } : Jvm.MethodName)) ∈ gtb := gtb_t 381 (by decide +kernel) (by decide +kernel)
theorem tw_382 : (Jvm.Cond.code ({ cls := "SherdField$Walks", name := "isFull", desc := "()Z" } : Jvm.MethodName) prog_12_method_4_code (1 : Nat) (Option.some Jvm.ClassFile.FieldType.boolean)) ∈ gtb := gtb_t 382 (by decide +kernel) (by decide +kernel)
theorem tw_383 : (Jvm.Cond.constant "SherdField" (159 : Nat) (-1000000003 : Int32)) ∈ gtb := gtb_t 383 (by decide +kernel) (by decide +kernel)
theorem tw_384 : (Jvm.Cond.methodLink "SherdField" (160 : Nat) ({ cls := "SherdField$Walks", name := "add", desc := "(III)I" } : Jvm.MethodName)) ∈ gtb := gtb_t 384 (by decide +kernel) (by decide +kernel)
theorem tw_385 : (Jvm.Cond.instanceMethod ({ cls := "SherdField$Walks", name := "add", desc := "(III)I" } : Jvm.MethodName)) ∈ gtb := gtb_t 385 (by decide +kernel) (by decide +kernel)
theorem tw_386 : (Jvm.Cond.selects "SherdField$Walks" ({ cls := "SherdField$Walks", name := "add", desc := "(III)I" } : Jvm.MethodName) ({ cls := "SherdField$Walks", name := "add", desc := "(III)I" } : Jvm.MethodName)) ∈ gtb := gtb_t 386 (by decide +kernel) (by decide +kernel)
theorem tw_387 : (Jvm.Cond.code ({ cls := "SherdField$Walks", name := "add", desc := "(III)I" } : Jvm.MethodName) prog_12_method_6_code (4 : Nat) (Option.some Jvm.ClassFile.FieldType.int)) ∈ gtb := gtb_t 387 (by decide +kernel) (by decide +kernel)
theorem tw_388 : (Jvm.Cond.methodLink "SherdFieldLaw" (30 : Nat) ({ cls := "SherdField", name := "find", desc := "(IIII)I" } : Jvm.MethodName)) ∈ gtb := gtb_t 388 (by decide +kernel) (by decide +kernel)
theorem tw_389 : (Jvm.Cond.instanceMethod ({ cls := "SherdField", name := "find", desc := "(IIII)I" } : Jvm.MethodName)) ∈ gtb := gtb_t 389 (by decide +kernel) (by decide +kernel)
theorem tw_390 : (Jvm.Cond.selects "SherdField" ({ cls := "SherdField", name := "find", desc := "(IIII)I" } : Jvm.MethodName) ({ cls := "SherdField", name := "find", desc := "(IIII)I" } : Jvm.MethodName)) ∈ gtb := gtb_t 390 (by decide +kernel) (by decide +kernel)
theorem tw_391 : (Jvm.Cond.code ({ cls := "SherdField", name := "find", desc := "(IIII)I" } : Jvm.MethodName) prog_1_method_6_code (5 : Nat) (Option.some Jvm.ClassFile.FieldType.int)) ∈ gtb := gtb_t 391 (by decide +kernel) (by decide +kernel)
theorem tw_392 : (Jvm.Cond.methodLink "SherdField" (163 : Nat) ({ cls := "SherdField$Walks", name := "has", desc := "(I)Z" } : Jvm.MethodName)) ∈ gtb := gtb_t 392 (by decide +kernel) (by decide +kernel)
theorem tw_393 : (Jvm.Cond.instanceMethod ({ cls := "SherdField$Walks", name := "has", desc := "(I)Z" } : Jvm.MethodName)) ∈ gtb := gtb_t 393 (by decide +kernel) (by decide +kernel)
theorem tw_394 : (Jvm.Cond.selects "SherdField$Walks" ({ cls := "SherdField$Walks", name := "has", desc := "(I)Z" } : Jvm.MethodName) ({ cls := "SherdField$Walks", name := "has", desc := "(I)Z" } : Jvm.MethodName)) ∈ gtb := gtb_t 394 (by decide +kernel) (by decide +kernel)
theorem tw_395 : (Jvm.Cond.code ({ cls := "SherdField$Walks", name := "has", desc := "(I)Z" } : Jvm.MethodName) prog_12_method_5_code (2 : Nat) (Option.some Jvm.ClassFile.FieldType.boolean)) ∈ gtb := gtb_t 395 (by decide +kernel) (by decide +kernel)
theorem tw_396 : (Jvm.Cond.methodLink "SherdField" (166 : Nat) ({ cls := "SherdField$Ground", name := "hasPace", desc := "(I)Z" } : Jvm.MethodName)) ∈ gtb := gtb_t 396 (by decide +kernel) (by decide +kernel)
theorem tw_397 : (Jvm.Cond.instanceMethod ({ cls := "SherdField$Ground", name := "hasPace", desc := "(I)Z" } : Jvm.MethodName)) ∈ gtb := gtb_t 397 (by decide +kernel) (by decide +kernel)
theorem tw_398 : (Jvm.Cond.selects "SherdField$Ground" ({ cls := "SherdField$Ground", name := "hasPace", desc := "(I)Z" } : Jvm.MethodName) ({ cls := "SherdField$Ground", name := "hasPace", desc := "(I)Z" } : Jvm.MethodName)) ∈ gtb := gtb_t 398 (by decide +kernel) (by decide +kernel)
theorem tw_399 : (Jvm.Cond.code ({ cls := "SherdField$Ground", name := "hasPace", desc := "(I)Z" } : Jvm.MethodName) prog_4_method_6_code (2 : Nat) (Option.some Jvm.ClassFile.FieldType.boolean)) ∈ gtb := gtb_t 399 (by decide +kernel) (by decide +kernel)
theorem tw_400 : (Jvm.Cond.methodLink "SherdField$Ground" (29 : Nat) ({ cls := "SherdField$Ground", name := "paces", desc := "()I" } : Jvm.MethodName)) ∈ gtb := gtb_t 400 (by decide +kernel) (by decide +kernel)
theorem tw_401 : (Jvm.Cond.methodLink "SherdField" (169 : Nat) ({ cls := "SherdField$Ground", name := "rowOf", desc := "(I)I" } : Jvm.MethodName)) ∈ gtb := gtb_t 401 (by decide +kernel) (by decide +kernel)
theorem tw_402 : (Jvm.Cond.instanceMethod ({ cls := "SherdField$Ground", name := "rowOf", desc := "(I)I" } : Jvm.MethodName)) ∈ gtb := gtb_t 402 (by decide +kernel) (by decide +kernel)
theorem tw_403 : (Jvm.Cond.selects "SherdField$Ground" ({ cls := "SherdField$Ground", name := "rowOf", desc := "(I)I" } : Jvm.MethodName) ({ cls := "SherdField$Ground", name := "rowOf", desc := "(I)I" } : Jvm.MethodName)) ∈ gtb := gtb_t 403 (by decide +kernel) (by decide +kernel)
theorem tw_404 : (Jvm.Cond.code ({ cls := "SherdField$Ground", name := "rowOf", desc := "(I)I" } : Jvm.MethodName) prog_4_method_8_code (2 : Nat) (Option.some Jvm.ClassFile.FieldType.int)) ∈ gtb := gtb_t 404 (by decide +kernel) (by decide +kernel)
theorem tw_405 : (Jvm.Cond.methodLink "SherdField" (173 : Nat) ({ cls := "SherdField$Walks", name := "rowOf", desc := "(I)I" } : Jvm.MethodName)) ∈ gtb := gtb_t 405 (by decide +kernel) (by decide +kernel)
theorem tw_406 : (Jvm.Cond.instanceMethod ({ cls := "SherdField$Walks", name := "rowOf", desc := "(I)I" } : Jvm.MethodName)) ∈ gtb := gtb_t 406 (by decide +kernel) (by decide +kernel)
theorem tw_407 : (Jvm.Cond.selects "SherdField$Walks" ({ cls := "SherdField$Walks", name := "rowOf", desc := "(I)I" } : Jvm.MethodName) ({ cls := "SherdField$Walks", name := "rowOf", desc := "(I)I" } : Jvm.MethodName)) ∈ gtb := gtb_t 407 (by decide +kernel) (by decide +kernel)
theorem tw_408 : (Jvm.Cond.code ({ cls := "SherdField$Walks", name := "rowOf", desc := "(I)I" } : Jvm.MethodName) prog_12_method_8_code (2 : Nat) (Option.some Jvm.ClassFile.FieldType.int)) ∈ gtb := gtb_t 408 (by decide +kernel) (by decide +kernel)
theorem tw_409 : (Jvm.Cond.methodLink "SherdField" (174 : Nat) ({ cls := "SherdField$Finds", name := "isFull", desc := "()Z" } : Jvm.MethodName)) ∈ gtb := gtb_t 409 (by decide +kernel) (by decide +kernel)
theorem tw_410 : (Jvm.Cond.instanceMethod ({ cls := "SherdField$Finds", name := "isFull", desc := "()Z" } : Jvm.MethodName)) ∈ gtb := gtb_t 410 (by decide +kernel) (by decide +kernel)
theorem tw_411 : (Jvm.Cond.selects "SherdField$Finds" ({ cls := "SherdField$Finds", name := "isFull", desc := "()Z" } : Jvm.MethodName) ({ cls := "SherdField$Finds", name := "isFull", desc := "()Z" } : Jvm.MethodName)) ∈ gtb := gtb_t 411 (by decide +kernel) (by decide +kernel)
theorem tw_412 : (Jvm.Cond.code ({ cls := "SherdField$Finds", name := "isFull", desc := "()Z" } : Jvm.MethodName) prog_3_method_4_code (1 : Nat) (Option.some Jvm.ClassFile.FieldType.boolean)) ∈ gtb := gtb_t 412 (by decide +kernel) (by decide +kernel)
theorem tw_413 : (Jvm.Cond.methodLink "SherdField" (175 : Nat) ({ cls := "SherdField$Ground", name := "columnOf", desc := "(I)I" } : Jvm.MethodName)) ∈ gtb := gtb_t 413 (by decide +kernel) (by decide +kernel)
theorem tw_414 : (Jvm.Cond.instanceMethod ({ cls := "SherdField$Ground", name := "columnOf", desc := "(I)I" } : Jvm.MethodName)) ∈ gtb := gtb_t 414 (by decide +kernel) (by decide +kernel)
theorem tw_415 : (Jvm.Cond.selects "SherdField$Ground" ({ cls := "SherdField$Ground", name := "columnOf", desc := "(I)I" } : Jvm.MethodName) ({ cls := "SherdField$Ground", name := "columnOf", desc := "(I)I" } : Jvm.MethodName)) ∈ gtb := gtb_t 415 (by decide +kernel) (by decide +kernel)
theorem tw_416 : (Jvm.Cond.code ({ cls := "SherdField$Ground", name := "columnOf", desc := "(I)I" } : Jvm.MethodName) prog_4_method_9_code (2 : Nat) (Option.some Jvm.ClassFile.FieldType.int)) ∈ gtb := gtb_t 416 (by decide +kernel) (by decide +kernel)
theorem tw_417 : (Jvm.Cond.methodLink "SherdField$Ground" (33 : Nat) ({ cls := "SherdField$Ground", name := "rowOf", desc := "(I)I" } : Jvm.MethodName)) ∈ gtb := gtb_t 417 (by decide +kernel) (by decide +kernel)
theorem tw_418 : (Jvm.Cond.methodLink "SherdField" (178 : Nat) ({ cls := "SherdField$Walks", name := "bear", desc := "(IIII)V" } : Jvm.MethodName)) ∈ gtb := gtb_t 418 (by decide +kernel) (by decide +kernel)
theorem tw_419 : (Jvm.Cond.instanceMethod ({ cls := "SherdField$Walks", name := "bear", desc := "(IIII)V" } : Jvm.MethodName)) ∈ gtb := gtb_t 419 (by decide +kernel) (by decide +kernel)
theorem tw_420 : (Jvm.Cond.selects "SherdField$Walks" ({ cls := "SherdField$Walks", name := "bear", desc := "(IIII)V" } : Jvm.MethodName) ({ cls := "SherdField$Walks", name := "bear", desc := "(IIII)V" } : Jvm.MethodName)) ∈ gtb := gtb_t 420 (by decide +kernel) (by decide +kernel)
theorem tw_421 : (Jvm.Cond.code ({ cls := "SherdField$Walks", name := "bear", desc := "(IIII)V" } : Jvm.MethodName) prog_12_method_10_code (5 : Nat) (Option.none : Option Jvm.ClassFile.FieldType)) ∈ gtb := gtb_t 421 (by decide +kernel) (by decide +kernel)
theorem tw_422 : (Jvm.Cond.methodLink "SherdField$Walks" (37 : Nat) ({ cls := "SherdField$Walks", name := "tallyPlace", desc := "(III)I" } : Jvm.MethodName)) ∈ gtb := gtb_t 422 (by decide +kernel) (by decide +kernel)
theorem tw_423 : (Jvm.Cond.static ({ cls := "SherdField$Walks", name := "tallyPlace", desc := "(III)I" } : Jvm.MethodName)) ∈ gtb := gtb_t 423 (by decide +kernel) (by decide +kernel)
theorem tw_424 : (Jvm.Cond.code ({ cls := "SherdField$Walks", name := "tallyPlace", desc := "(III)I" } : Jvm.MethodName) prog_12_method_15_code (3 : Nat) (Option.some Jvm.ClassFile.FieldType.int)) ∈ gtb := gtb_t 424 (by decide +kernel) (by decide +kernel)
theorem tw_425 : (Jvm.Cond.methodLink "SherdField" (182 : Nat) ({ cls := "SherdField$Finds", name := "add", desc := "(IIII)I" } : Jvm.MethodName)) ∈ gtb := gtb_t 425 (by decide +kernel) (by decide +kernel)
theorem tw_426 : (Jvm.Cond.instanceMethod ({ cls := "SherdField$Finds", name := "add", desc := "(IIII)I" } : Jvm.MethodName)) ∈ gtb := gtb_t 426 (by decide +kernel) (by decide +kernel)
theorem tw_427 : (Jvm.Cond.selects "SherdField$Finds" ({ cls := "SherdField$Finds", name := "add", desc := "(IIII)I" } : Jvm.MethodName) ({ cls := "SherdField$Finds", name := "add", desc := "(IIII)I" } : Jvm.MethodName)) ∈ gtb := gtb_t 427 (by decide +kernel) (by decide +kernel)
theorem tw_428 : (Jvm.Cond.code ({ cls := "SherdField$Finds", name := "add", desc := "(IIII)I" } : Jvm.MethodName) prog_3_method_6_code (5 : Nat) (Option.some Jvm.ClassFile.FieldType.int)) ∈ gtb := gtb_t 428 (by decide +kernel) (by decide +kernel)
theorem tw_429 : (Jvm.Cond.methodLink "SherdFieldLaw" (35 : Nat) ({ cls := "SherdField", name := "told", desc := "(II)I" } : Jvm.MethodName)) ∈ gtb := gtb_t 429 (by decide +kernel) (by decide +kernel)
theorem tw_430 : (Jvm.Cond.instanceMethod ({ cls := "SherdField", name := "told", desc := "(II)I" } : Jvm.MethodName)) ∈ gtb := gtb_t 430 (by decide +kernel) (by decide +kernel)
theorem tw_431 : (Jvm.Cond.selects "SherdField" ({ cls := "SherdField", name := "told", desc := "(II)I" } : Jvm.MethodName) ({ cls := "SherdField", name := "told", desc := "(II)I" } : Jvm.MethodName)) ∈ gtb := gtb_t 431 (by decide +kernel) (by decide +kernel)
theorem tw_432 : (Jvm.Cond.code ({ cls := "SherdField", name := "told", desc := "(II)I" } : Jvm.MethodName) prog_1_method_7_code (3 : Nat) (Option.some Jvm.ClassFile.FieldType.int)) ∈ gtb := gtb_t 432 (by decide +kernel) (by decide +kernel)
theorem tw_433 : (Jvm.Cond.methodLink "SherdField" (185 : Nat) ({ cls := "SherdField$Walks", name := "walkerOf", desc := "(I)I" } : Jvm.MethodName)) ∈ gtb := gtb_t 433 (by decide +kernel) (by decide +kernel)
theorem tw_434 : (Jvm.Cond.instanceMethod ({ cls := "SherdField$Walks", name := "walkerOf", desc := "(I)I" } : Jvm.MethodName)) ∈ gtb := gtb_t 434 (by decide +kernel) (by decide +kernel)
theorem tw_435 : (Jvm.Cond.selects "SherdField$Walks" ({ cls := "SherdField$Walks", name := "walkerOf", desc := "(I)I" } : Jvm.MethodName) ({ cls := "SherdField$Walks", name := "walkerOf", desc := "(I)I" } : Jvm.MethodName)) ∈ gtb := gtb_t 435 (by decide +kernel) (by decide +kernel)
theorem tw_436 : (Jvm.Cond.code ({ cls := "SherdField$Walks", name := "walkerOf", desc := "(I)I" } : Jvm.MethodName) prog_12_method_7_code (2 : Nat) (Option.some Jvm.ClassFile.FieldType.int)) ∈ gtb := gtb_t 436 (by decide +kernel) (by decide +kernel)
theorem tw_437 : (Jvm.Cond.methodLink "SherdField" (188 : Nat) ({ cls := "SherdField$Walks", name := "dayOf", desc := "(I)I" } : Jvm.MethodName)) ∈ gtb := gtb_t 437 (by decide +kernel) (by decide +kernel)
theorem tw_438 : (Jvm.Cond.instanceMethod ({ cls := "SherdField$Walks", name := "dayOf", desc := "(I)I" } : Jvm.MethodName)) ∈ gtb := gtb_t 438 (by decide +kernel) (by decide +kernel)
theorem tw_439 : (Jvm.Cond.selects "SherdField$Walks" ({ cls := "SherdField$Walks", name := "dayOf", desc := "(I)I" } : Jvm.MethodName) ({ cls := "SherdField$Walks", name := "dayOf", desc := "(I)I" } : Jvm.MethodName)) ∈ gtb := gtb_t 439 (by decide +kernel) (by decide +kernel)
theorem tw_440 : (Jvm.Cond.code ({ cls := "SherdField$Walks", name := "dayOf", desc := "(I)I" } : Jvm.MethodName) prog_12_method_9_code (2 : Nat) (Option.some Jvm.ClassFile.FieldType.int)) ∈ gtb := gtb_t 440 (by decide +kernel) (by decide +kernel)
theorem tw_441 : (Jvm.Cond.methodLink "SherdField" (191 : Nat) ({ cls := "SherdField$Walks", name := "total", desc := "(I)I" } : Jvm.MethodName)) ∈ gtb := gtb_t 441 (by decide +kernel) (by decide +kernel)
theorem tw_442 : (Jvm.Cond.instanceMethod ({ cls := "SherdField$Walks", name := "total", desc := "(I)I" } : Jvm.MethodName)) ∈ gtb := gtb_t 442 (by decide +kernel) (by decide +kernel)
theorem tw_443 : (Jvm.Cond.selects "SherdField$Walks" ({ cls := "SherdField$Walks", name := "total", desc := "(I)I" } : Jvm.MethodName) ({ cls := "SherdField$Walks", name := "total", desc := "(I)I" } : Jvm.MethodName)) ∈ gtb := gtb_t 443 (by decide +kernel) (by decide +kernel)
theorem tw_444 : (Jvm.Cond.code ({ cls := "SherdField$Walks", name := "total", desc := "(I)I" } : Jvm.MethodName) prog_12_method_13_code (4 : Nat) (Option.some Jvm.ClassFile.FieldType.int)) ∈ gtb := gtb_t 444 (by decide +kernel) (by decide +kernel)
theorem tw_445 : (Jvm.Cond.methodLink "SherdField$Walks" (45 : Nat) ({ cls := "SherdField$Walks", name := "sumOf", desc := "(II)I" } : Jvm.MethodName)) ∈ gtb := gtb_t 445 (by decide +kernel) (by decide +kernel)
theorem tw_446 : (Jvm.Cond.instanceMethod ({ cls := "SherdField$Walks", name := "sumOf", desc := "(II)I" } : Jvm.MethodName)) ∈ gtb := gtb_t 446 (by decide +kernel) (by decide +kernel)
theorem tw_447 : (Jvm.Cond.selects "SherdField$Walks" ({ cls := "SherdField$Walks", name := "sumOf", desc := "(II)I" } : Jvm.MethodName) ({ cls := "SherdField$Walks", name := "sumOf", desc := "(II)I" } : Jvm.MethodName)) ∈ gtb := gtb_t 447 (by decide +kernel) (by decide +kernel)
theorem tw_448 : (Jvm.Cond.code ({ cls := "SherdField$Walks", name := "sumOf", desc := "(II)I" } : Jvm.MethodName) prog_12_method_12_code (3 : Nat) (Option.some Jvm.ClassFile.FieldType.int)) ∈ gtb := gtb_t 448 (by decide +kernel) (by decide +kernel)
theorem tw_449 : (Jvm.Cond.methodLink "SherdField$Walks" (41 : Nat) ({ cls := "SherdField$Walks", name := "has", desc := "(I)Z" } : Jvm.MethodName)) ∈ gtb := gtb_t 449 (by decide +kernel) (by decide +kernel)
theorem tw_450 : (Jvm.Cond.methodLink "SherdField" (194 : Nat) ({ cls := "SherdField$Walks", name := "teller", desc := "(I)I" } : Jvm.MethodName)) ∈ gtb := gtb_t 450 (by decide +kernel) (by decide +kernel)
theorem tw_451 : (Jvm.Cond.instanceMethod ({ cls := "SherdField$Walks", name := "teller", desc := "(I)I" } : Jvm.MethodName)) ∈ gtb := gtb_t 451 (by decide +kernel) (by decide +kernel)
theorem tw_452 : (Jvm.Cond.selects "SherdField$Walks" ({ cls := "SherdField$Walks", name := "teller", desc := "(I)I" } : Jvm.MethodName) ({ cls := "SherdField$Walks", name := "teller", desc := "(I)I" } : Jvm.MethodName)) ∈ gtb := gtb_t 452 (by decide +kernel) (by decide +kernel)
theorem tw_453 : (Jvm.Cond.code ({ cls := "SherdField$Walks", name := "teller", desc := "(I)I" } : Jvm.MethodName) prog_12_method_14_code (5 : Nat) (Option.some Jvm.ClassFile.FieldType.int)) ∈ gtb := gtb_t 453 (by decide +kernel) (by decide +kernel)
theorem tw_454 : (Jvm.Cond.methodLink "SherdField$Walks" (49 : Nat) ({ cls := "SherdField$Walks", name := "total", desc := "(I)I" } : Jvm.MethodName)) ∈ gtb := gtb_t 454 (by decide +kernel) (by decide +kernel)
theorem tw_455 : (Jvm.Cond.methodLink "SherdFieldLaw" (39 : Nat) ({ cls := "SherdField", name := "of", desc := "(II)I" } : Jvm.MethodName)) ∈ gtb := gtb_t 455 (by decide +kernel) (by decide +kernel)
theorem tw_456 : (Jvm.Cond.instanceMethod ({ cls := "SherdField", name := "of", desc := "(II)I" } : Jvm.MethodName)) ∈ gtb := gtb_t 456 (by decide +kernel) (by decide +kernel)
theorem tw_457 : (Jvm.Cond.selects "SherdField" ({ cls := "SherdField", name := "of", desc := "(II)I" } : Jvm.MethodName) ({ cls := "SherdField", name := "of", desc := "(II)I" } : Jvm.MethodName)) ∈ gtb := gtb_t 457 (by decide +kernel) (by decide +kernel)
theorem tw_458 : (Jvm.Cond.code ({ cls := "SherdField", name := "of", desc := "(II)I" } : Jvm.MethodName) prog_1_method_8_code (3 : Nat) (Option.some Jvm.ClassFile.FieldType.int)) ∈ gtb := gtb_t 458 (by decide +kernel) (by decide +kernel)
theorem tw_459 : (Jvm.Cond.methodLink "SherdField" (197 : Nat) ({ cls := "SherdField$Finds", name := "has", desc := "(I)Z" } : Jvm.MethodName)) ∈ gtb := gtb_t 459 (by decide +kernel) (by decide +kernel)
theorem tw_460 : (Jvm.Cond.instanceMethod ({ cls := "SherdField$Finds", name := "has", desc := "(I)Z" } : Jvm.MethodName)) ∈ gtb := gtb_t 460 (by decide +kernel) (by decide +kernel)
theorem tw_461 : (Jvm.Cond.selects "SherdField$Finds" ({ cls := "SherdField$Finds", name := "has", desc := "(I)Z" } : Jvm.MethodName) ({ cls := "SherdField$Finds", name := "has", desc := "(I)Z" } : Jvm.MethodName)) ∈ gtb := gtb_t 461 (by decide +kernel) (by decide +kernel)
theorem tw_462 : (Jvm.Cond.code ({ cls := "SherdField$Finds", name := "has", desc := "(I)Z" } : Jvm.MethodName) prog_3_method_5_code (2 : Nat) (Option.some Jvm.ClassFile.FieldType.boolean)) ∈ gtb := gtb_t 462 (by decide +kernel) (by decide +kernel)
theorem tw_463 : (Jvm.Cond.methodLink "SherdField" (198 : Nat) ({ cls := "SherdField$Finds", name := "walkOf", desc := "(I)I" } : Jvm.MethodName)) ∈ gtb := gtb_t 463 (by decide +kernel) (by decide +kernel)
theorem tw_464 : (Jvm.Cond.instanceMethod ({ cls := "SherdField$Finds", name := "walkOf", desc := "(I)I" } : Jvm.MethodName)) ∈ gtb := gtb_t 464 (by decide +kernel) (by decide +kernel)
theorem tw_465 : (Jvm.Cond.selects "SherdField$Finds" ({ cls := "SherdField$Finds", name := "walkOf", desc := "(I)I" } : Jvm.MethodName) ({ cls := "SherdField$Finds", name := "walkOf", desc := "(I)I" } : Jvm.MethodName)) ∈ gtb := gtb_t 465 (by decide +kernel) (by decide +kernel)
theorem tw_466 : (Jvm.Cond.code ({ cls := "SherdField$Finds", name := "walkOf", desc := "(I)I" } : Jvm.MethodName) prog_3_method_7_code (2 : Nat) (Option.some Jvm.ClassFile.FieldType.int)) ∈ gtb := gtb_t 466 (by decide +kernel) (by decide +kernel)
theorem tw_467 : (Jvm.Cond.methodLink "SherdField" (201 : Nat) ({ cls := "SherdField$Finds", name := "paceOf", desc := "(I)I" } : Jvm.MethodName)) ∈ gtb := gtb_t 467 (by decide +kernel) (by decide +kernel)
theorem tw_468 : (Jvm.Cond.instanceMethod ({ cls := "SherdField$Finds", name := "paceOf", desc := "(I)I" } : Jvm.MethodName)) ∈ gtb := gtb_t 468 (by decide +kernel) (by decide +kernel)
theorem tw_469 : (Jvm.Cond.selects "SherdField$Finds" ({ cls := "SherdField$Finds", name := "paceOf", desc := "(I)I" } : Jvm.MethodName) ({ cls := "SherdField$Finds", name := "paceOf", desc := "(I)I" } : Jvm.MethodName)) ∈ gtb := gtb_t 469 (by decide +kernel) (by decide +kernel)
theorem tw_470 : (Jvm.Cond.code ({ cls := "SherdField$Finds", name := "paceOf", desc := "(I)I" } : Jvm.MethodName) prog_3_method_8_code (2 : Nat) (Option.some Jvm.ClassFile.FieldType.int)) ∈ gtb := gtb_t 470 (by decide +kernel) (by decide +kernel)
theorem tw_471 : (Jvm.Cond.methodLink "SherdField" (204 : Nat) ({ cls := "SherdField$Finds", name := "kindOf", desc := "(I)I" } : Jvm.MethodName)) ∈ gtb := gtb_t 471 (by decide +kernel) (by decide +kernel)
theorem tw_472 : (Jvm.Cond.instanceMethod ({ cls := "SherdField$Finds", name := "kindOf", desc := "(I)I" } : Jvm.MethodName)) ∈ gtb := gtb_t 472 (by decide +kernel) (by decide +kernel)
theorem tw_473 : (Jvm.Cond.selects "SherdField$Finds" ({ cls := "SherdField$Finds", name := "kindOf", desc := "(I)I" } : Jvm.MethodName) ({ cls := "SherdField$Finds", name := "kindOf", desc := "(I)I" } : Jvm.MethodName)) ∈ gtb := gtb_t 473 (by decide +kernel) (by decide +kernel)
theorem tw_474 : (Jvm.Cond.code ({ cls := "SherdField$Finds", name := "kindOf", desc := "(I)I" } : Jvm.MethodName) prog_3_method_9_code (2 : Nat) (Option.some Jvm.ClassFile.FieldType.int)) ∈ gtb := gtb_t 474 (by decide +kernel) (by decide +kernel)
theorem tw_475 : (Jvm.Cond.methodLink "SherdField" (207 : Nat) ({ cls := "SherdField$Finds", name := "numberOf", desc := "(I)I" } : Jvm.MethodName)) ∈ gtb := gtb_t 475 (by decide +kernel) (by decide +kernel)
theorem tw_476 : (Jvm.Cond.instanceMethod ({ cls := "SherdField$Finds", name := "numberOf", desc := "(I)I" } : Jvm.MethodName)) ∈ gtb := gtb_t 476 (by decide +kernel) (by decide +kernel)
theorem tw_477 : (Jvm.Cond.selects "SherdField$Finds" ({ cls := "SherdField$Finds", name := "numberOf", desc := "(I)I" } : Jvm.MethodName) ({ cls := "SherdField$Finds", name := "numberOf", desc := "(I)I" } : Jvm.MethodName)) ∈ gtb := gtb_t 477 (by decide +kernel) (by decide +kernel)
theorem tw_478 : (Jvm.Cond.code ({ cls := "SherdField$Finds", name := "numberOf", desc := "(I)I" } : Jvm.MethodName) prog_3_method_10_code (2 : Nat) (Option.some Jvm.ClassFile.FieldType.int)) ∈ gtb := gtb_t 478 (by decide +kernel) (by decide +kernel)
theorem tw_479 : (Jvm.Cond.methodLink "SherdFieldLaw" (43 : Nat) ({ cls := "SherdField", name := "count", desc := "(II)I" } : Jvm.MethodName)) ∈ gtb := gtb_t 479 (by decide +kernel) (by decide +kernel)
theorem tw_480 : (Jvm.Cond.instanceMethod ({ cls := "SherdField", name := "count", desc := "(II)I" } : Jvm.MethodName)) ∈ gtb := gtb_t 480 (by decide +kernel) (by decide +kernel)
theorem tw_481 : (Jvm.Cond.selects "SherdField" ({ cls := "SherdField", name := "count", desc := "(II)I" } : Jvm.MethodName) ({ cls := "SherdField", name := "count", desc := "(II)I" } : Jvm.MethodName)) ∈ gtb := gtb_t 481 (by decide +kernel) (by decide +kernel)
theorem tw_482 : (Jvm.Cond.code ({ cls := "SherdField", name := "count", desc := "(II)I" } : Jvm.MethodName) prog_1_method_9_code (3 : Nat) (Option.some Jvm.ClassFile.FieldType.int)) ∈ gtb := gtb_t 482 (by decide +kernel) (by decide +kernel)
theorem tw_483 : (Jvm.Cond.methodLink "SherdField" (210 : Nat) ({ cls := "SherdField", name := "tellerAt", desc := "(I)I" } : Jvm.MethodName)) ∈ gtb := gtb_t 483 (by decide +kernel) (by decide +kernel)
theorem tw_485 : (Jvm.Cond.instanceMethod ({ cls := "SherdField", name := "tellerAt", desc := "(I)I" } : Jvm.MethodName)) ∈ gtb := gtb_t 485 (by decide +kernel) (by decide +kernel)
theorem tw_486 : (Jvm.Cond.code ({ cls := "SherdField", name := "tellerAt", desc := "(I)I" } : Jvm.MethodName) prog_1_method_41_code (2 : Nat) (Option.some Jvm.ClassFile.FieldType.int)) ∈ gtb := gtb_t 486 (by decide +kernel) (by decide +kernel)
theorem tw_487 : (Jvm.Cond.methodLink "SherdField" (213 : Nat) ({ cls := "SherdField$Walks", name := "borne", desc := "(III)I" } : Jvm.MethodName)) ∈ gtb := gtb_t 487 (by decide +kernel) (by decide +kernel)
theorem tw_488 : (Jvm.Cond.instanceMethod ({ cls := "SherdField$Walks", name := "borne", desc := "(III)I" } : Jvm.MethodName)) ∈ gtb := gtb_t 488 (by decide +kernel) (by decide +kernel)
theorem tw_489 : (Jvm.Cond.selects "SherdField$Walks" ({ cls := "SherdField$Walks", name := "borne", desc := "(III)I" } : Jvm.MethodName) ({ cls := "SherdField$Walks", name := "borne", desc := "(III)I" } : Jvm.MethodName)) ∈ gtb := gtb_t 489 (by decide +kernel) (by decide +kernel)
theorem tw_490 : (Jvm.Cond.code ({ cls := "SherdField$Walks", name := "borne", desc := "(III)I" } : Jvm.MethodName) prog_12_method_11_code (4 : Nat) (Option.some Jvm.ClassFile.FieldType.int)) ∈ gtb := gtb_t 490 (by decide +kernel) (by decide +kernel)
theorem tw_491 : (Jvm.Cond.methodLink "SherdFieldLaw" (47 : Nat) ({ cls := "SherdField", name := "gap", desc := "()I" } : Jvm.MethodName)) ∈ gtb := gtb_t 491 (by decide +kernel) (by decide +kernel)
theorem tw_492 : (Jvm.Cond.instanceMethod ({ cls := "SherdField", name := "gap", desc := "()I" } : Jvm.MethodName)) ∈ gtb := gtb_t 492 (by decide +kernel) (by decide +kernel)
theorem tw_493 : (Jvm.Cond.selects "SherdField" ({ cls := "SherdField", name := "gap", desc := "()I" } : Jvm.MethodName) ({ cls := "SherdField", name := "gap", desc := "()I" } : Jvm.MethodName)) ∈ gtb := gtb_t 493 (by decide +kernel) (by decide +kernel)
theorem tw_494 : (Jvm.Cond.code ({ cls := "SherdField", name := "gap", desc := "()I" } : Jvm.MethodName) prog_1_method_10_code (2 : Nat) (Option.some Jvm.ClassFile.FieldType.int)) ∈ gtb := gtb_t 494 (by decide +kernel) (by decide +kernel)
theorem tw_495 : (Jvm.Cond.methodLink "SherdField" (216 : Nat) ({ cls := "SherdField$Ground", name := "rows", desc := "()I" } : Jvm.MethodName)) ∈ gtb := gtb_t 495 (by decide +kernel) (by decide +kernel)
theorem tw_496 : (Jvm.Cond.instanceMethod ({ cls := "SherdField$Ground", name := "rows", desc := "()I" } : Jvm.MethodName)) ∈ gtb := gtb_t 496 (by decide +kernel) (by decide +kernel)
theorem tw_497 : (Jvm.Cond.selects "SherdField$Ground" ({ cls := "SherdField$Ground", name := "rows", desc := "()I" } : Jvm.MethodName) ({ cls := "SherdField$Ground", name := "rows", desc := "()I" } : Jvm.MethodName)) ∈ gtb := gtb_t 497 (by decide +kernel) (by decide +kernel)
theorem tw_498 : (Jvm.Cond.code ({ cls := "SherdField$Ground", name := "rows", desc := "()I" } : Jvm.MethodName) prog_4_method_4_code (1 : Nat) (Option.some Jvm.ClassFile.FieldType.int)) ∈ gtb := gtb_t 498 (by decide +kernel) (by decide +kernel)
theorem tw_499 : (Jvm.Cond.constant "SherdField" (219 : Nat) (-1000000005 : Int32)) ∈ gtb := gtb_t 499 (by decide +kernel) (by decide +kernel)
theorem tw_500 : (Jvm.Cond.methodLink "SherdFieldLaw" (52 : Nat) ({ cls := "SherdField", name := "led", desc := "(II)I" } : Jvm.MethodName)) ∈ gtb := gtb_t 500 (by decide +kernel) (by decide +kernel)
theorem tw_501 : (Jvm.Cond.instanceMethod ({ cls := "SherdField", name := "led", desc := "(II)I" } : Jvm.MethodName)) ∈ gtb := gtb_t 501 (by decide +kernel) (by decide +kernel)
theorem tw_502 : (Jvm.Cond.selects "SherdField" ({ cls := "SherdField", name := "led", desc := "(II)I" } : Jvm.MethodName) ({ cls := "SherdField", name := "led", desc := "(II)I" } : Jvm.MethodName)) ∈ gtb := gtb_t 502 (by decide +kernel) (by decide +kernel)
theorem tw_503 : (Jvm.Cond.code ({ cls := "SherdField", name := "led", desc := "(II)I" } : Jvm.MethodName) prog_1_method_11_code (4 : Nat) (Option.some Jvm.ClassFile.FieldType.int)) ∈ gtb := gtb_t 503 (by decide +kernel) (by decide +kernel)
theorem tw_504 : (Jvm.Cond.methodLink "SherdField" (220 : Nat) ({ cls := "SherdField$Finds", name := "inWalkAt", desc := "(III)I" } : Jvm.MethodName)) ∈ gtb := gtb_t 504 (by decide +kernel) (by decide +kernel)
theorem tw_505 : (Jvm.Cond.instanceMethod ({ cls := "SherdField$Finds", name := "inWalkAt", desc := "(III)I" } : Jvm.MethodName)) ∈ gtb := gtb_t 505 (by decide +kernel) (by decide +kernel)
theorem tw_506 : (Jvm.Cond.selects "SherdField$Finds" ({ cls := "SherdField$Finds", name := "inWalkAt", desc := "(III)I" } : Jvm.MethodName) ({ cls := "SherdField$Finds", name := "inWalkAt", desc := "(III)I" } : Jvm.MethodName)) ∈ gtb := gtb_t 506 (by decide +kernel) (by decide +kernel)
theorem tw_507 : (Jvm.Cond.code ({ cls := "SherdField$Finds", name := "inWalkAt", desc := "(III)I" } : Jvm.MethodName) prog_3_method_11_code (6 : Nat) (Option.some Jvm.ClassFile.FieldType.int)) ∈ gtb := gtb_t 507 (by decide +kernel) (by decide +kernel)
theorem tw_508 : (Jvm.Cond.methodLink "SherdFieldLaw" (56 : Nat) ({ cls := "SherdField", name := "pair", desc := "(III)I" } : Jvm.MethodName)) ∈ gtb := gtb_t 508 (by decide +kernel) (by decide +kernel)
theorem tw_509 : (Jvm.Cond.instanceMethod ({ cls := "SherdField", name := "pair", desc := "(III)I" } : Jvm.MethodName)) ∈ gtb := gtb_t 509 (by decide +kernel) (by decide +kernel)
theorem tw_510 : (Jvm.Cond.selects "SherdField" ({ cls := "SherdField", name := "pair", desc := "(III)I" } : Jvm.MethodName) ({ cls := "SherdField", name := "pair", desc := "(III)I" } : Jvm.MethodName)) ∈ gtb := gtb_t 510 (by decide +kernel) (by decide +kernel)
theorem tw_511 : (Jvm.Cond.code ({ cls := "SherdField", name := "pair", desc := "(III)I" } : Jvm.MethodName) prog_1_method_12_code (4 : Nat) (Option.some Jvm.ClassFile.FieldType.int)) ∈ gtb := gtb_t 511 (by decide +kernel) (by decide +kernel)
theorem tw_512 : (Jvm.Cond.methodLink "SherdField" (223 : Nat) ({ cls := "SherdField$Eyes", name := "pairs", desc := "(II)I" } : Jvm.MethodName)) ∈ gtb := gtb_t 512 (by decide +kernel) (by decide +kernel)
theorem tw_513 : (Jvm.Cond.instanceMethod ({ cls := "SherdField$Eyes", name := "pairs", desc := "(II)I" } : Jvm.MethodName)) ∈ gtb := gtb_t 513 (by decide +kernel) (by decide +kernel)
theorem tw_514 : (Jvm.Cond.selects "SherdField$Eyes" ({ cls := "SherdField$Eyes", name := "pairs", desc := "(II)I" } : Jvm.MethodName) ({ cls := "SherdField$Eyes", name := "pairs", desc := "(II)I" } : Jvm.MethodName)) ∈ gtb := gtb_t 514 (by decide +kernel) (by decide +kernel)
theorem tw_515 : (Jvm.Cond.code ({ cls := "SherdField$Eyes", name := "pairs", desc := "(II)I" } : Jvm.MethodName) prog_2_method_2_code (5 : Nat) (Option.some Jvm.ClassFile.FieldType.int)) ∈ gtb := gtb_t 515 (by decide +kernel) (by decide +kernel)
theorem tw_516 : (Jvm.Cond.methodLink "SherdField$Eyes" (19 : Nat) ({ cls := "SherdField$Walks", name := "number", desc := "()I" } : Jvm.MethodName)) ∈ gtb := gtb_t 516 (by decide +kernel) (by decide +kernel)
theorem tw_517 : (Jvm.Cond.instanceMethod ({ cls := "SherdField$Walks", name := "number", desc := "()I" } : Jvm.MethodName)) ∈ gtb := gtb_t 517 (by decide +kernel) (by decide +kernel)
theorem tw_518 : (Jvm.Cond.selects "SherdField$Walks" ({ cls := "SherdField$Walks", name := "number", desc := "()I" } : Jvm.MethodName) ({ cls := "SherdField$Walks", name := "number", desc := "()I" } : Jvm.MethodName)) ∈ gtb := gtb_t 518 (by decide +kernel) (by decide +kernel)
theorem tw_519 : (Jvm.Cond.code ({ cls := "SherdField$Walks", name := "number", desc := "()I" } : Jvm.MethodName) prog_12_method_3_code (1 : Nat) (Option.some Jvm.ClassFile.FieldType.int)) ∈ gtb := gtb_t 519 (by decide +kernel) (by decide +kernel)
theorem tw_520 : (Jvm.Cond.methodLink "SherdField$Eyes" (25 : Nat) ({ cls := "SherdField$Walks", name := "walkerOf", desc := "(I)I" } : Jvm.MethodName)) ∈ gtb := gtb_t 520 (by decide +kernel) (by decide +kernel)
theorem tw_521 : (Jvm.Cond.methodLink "SherdField$Eyes" (29 : Nat) ({ cls := "SherdField$Eyes", name := "walksBeside", desc := "(II)I" } : Jvm.MethodName)) ∈ gtb := gtb_t 521 (by decide +kernel) (by decide +kernel)
theorem tw_523 : (Jvm.Cond.instanceMethod ({ cls := "SherdField$Eyes", name := "walksBeside", desc := "(II)I" } : Jvm.MethodName)) ∈ gtb := gtb_t 523 (by decide +kernel) (by decide +kernel)
theorem tw_524 : (Jvm.Cond.code ({ cls := "SherdField$Eyes", name := "walksBeside", desc := "(II)I" } : Jvm.MethodName) prog_2_method_8_code (5 : Nat) (Option.some Jvm.ClassFile.FieldType.int)) ∈ gtb := gtb_t 524 (by decide +kernel) (by decide +kernel)
theorem tw_525 : (Jvm.Cond.methodLink "SherdField$Eyes" (36 : Nat) ({ cls := "SherdField$Eyes", name := "arePair", desc := "(II)Z" } : Jvm.MethodName)) ∈ gtb := gtb_t 525 (by decide +kernel) (by decide +kernel)
theorem tw_527 : (Jvm.Cond.instanceMethod ({ cls := "SherdField$Eyes", name := "arePair", desc := "(II)Z" } : Jvm.MethodName)) ∈ gtb := gtb_t 527 (by decide +kernel) (by decide +kernel)
theorem tw_528 : (Jvm.Cond.code ({ cls := "SherdField$Eyes", name := "arePair", desc := "(II)Z" } : Jvm.MethodName) prog_2_method_7_code (3 : Nat) (Option.some Jvm.ClassFile.FieldType.boolean)) ∈ gtb := gtb_t 528 (by decide +kernel) (by decide +kernel)
theorem tw_529 : (Jvm.Cond.methodLink "SherdField$Eyes" (60 : Nat) ({ cls := "SherdField$Walks", name := "rowOf", desc := "(I)I" } : Jvm.MethodName)) ∈ gtb := gtb_t 529 (by decide +kernel) (by decide +kernel)
theorem tw_530 : (Jvm.Cond.methodLink "SherdField" (226 : Nat) ({ cls := "SherdField$Eyes", name := "seenBeside", desc := "(II)I" } : Jvm.MethodName)) ∈ gtb := gtb_t 530 (by decide +kernel) (by decide +kernel)
theorem tw_531 : (Jvm.Cond.instanceMethod ({ cls := "SherdField$Eyes", name := "seenBeside", desc := "(II)I" } : Jvm.MethodName)) ∈ gtb := gtb_t 531 (by decide +kernel) (by decide +kernel)
theorem tw_532 : (Jvm.Cond.selects "SherdField$Eyes" ({ cls := "SherdField$Eyes", name := "seenBeside", desc := "(II)I" } : Jvm.MethodName) ({ cls := "SherdField$Eyes", name := "seenBeside", desc := "(II)I" } : Jvm.MethodName)) ∈ gtb := gtb_t 532 (by decide +kernel) (by decide +kernel)
theorem tw_533 : (Jvm.Cond.code ({ cls := "SherdField$Eyes", name := "seenBeside", desc := "(II)I" } : Jvm.MethodName) prog_2_method_3_code (5 : Nat) (Option.some Jvm.ClassFile.FieldType.int)) ∈ gtb := gtb_t 533 (by decide +kernel) (by decide +kernel)
theorem tw_534 : (Jvm.Cond.methodLink "SherdField$Eyes" (33 : Nat) ({ cls := "SherdField$Eyes", name := "seenIn", desc := "(I)I" } : Jvm.MethodName)) ∈ gtb := gtb_t 534 (by decide +kernel) (by decide +kernel)
theorem tw_536 : (Jvm.Cond.instanceMethod ({ cls := "SherdField$Eyes", name := "seenIn", desc := "(I)I" } : Jvm.MethodName)) ∈ gtb := gtb_t 536 (by decide +kernel) (by decide +kernel)
theorem tw_537 : (Jvm.Cond.code ({ cls := "SherdField$Eyes", name := "seenIn", desc := "(I)I" } : Jvm.MethodName) prog_2_method_9_code (4 : Nat) (Option.some Jvm.ClassFile.FieldType.int)) ∈ gtb := gtb_t 537 (by decide +kernel) (by decide +kernel)
theorem tw_538 : (Jvm.Cond.methodLink "SherdField$Eyes" (52 : Nat) ({ cls := "SherdField$Sorts", name := "isCoarse", desc := "(I)Z" } : Jvm.MethodName)) ∈ gtb := gtb_t 538 (by decide +kernel) (by decide +kernel)
theorem tw_539 : (Jvm.Cond.instanceMethod ({ cls := "SherdField$Sorts", name := "isCoarse", desc := "(I)Z" } : Jvm.MethodName)) ∈ gtb := gtb_t 539 (by decide +kernel) (by decide +kernel)
theorem tw_540 : (Jvm.Cond.selects "SherdField$Sorts" ({ cls := "SherdField$Sorts", name := "isCoarse", desc := "(I)Z" } : Jvm.MethodName) ({ cls := "SherdField$Sorts", name := "isCoarse", desc := "(I)Z" } : Jvm.MethodName)) ∈ gtb := gtb_t 540 (by decide +kernel) (by decide +kernel)
theorem tw_541 : (Jvm.Cond.code ({ cls := "SherdField$Sorts", name := "isCoarse", desc := "(I)Z" } : Jvm.MethodName) prog_10_method_5_code (2 : Nat) (Option.some Jvm.ClassFile.FieldType.boolean)) ∈ gtb := gtb_t 541 (by decide +kernel) (by decide +kernel)
theorem tw_542 : (Jvm.Cond.methodLink "SherdField$Eyes" (63 : Nat) ({ cls := "SherdField$Walks", name := "sumOf", desc := "(II)I" } : Jvm.MethodName)) ∈ gtb := gtb_t 542 (by decide +kernel) (by decide +kernel)
theorem tw_543 : (Jvm.Cond.methodLink "SherdFieldLaw" (61 : Nat) ({ cls := "SherdField", name := "eye", desc := "(I)I" } : Jvm.MethodName)) ∈ gtb := gtb_t 543 (by decide +kernel) (by decide +kernel)
theorem tw_544 : (Jvm.Cond.instanceMethod ({ cls := "SherdField", name := "eye", desc := "(I)I" } : Jvm.MethodName)) ∈ gtb := gtb_t 544 (by decide +kernel) (by decide +kernel)
theorem tw_545 : (Jvm.Cond.selects "SherdField" ({ cls := "SherdField", name := "eye", desc := "(I)I" } : Jvm.MethodName) ({ cls := "SherdField", name := "eye", desc := "(I)I" } : Jvm.MethodName)) ∈ gtb := gtb_t 545 (by decide +kernel) (by decide +kernel)
theorem tw_546 : (Jvm.Cond.code ({ cls := "SherdField", name := "eye", desc := "(I)I" } : Jvm.MethodName) prog_1_method_13_code (2 : Nat) (Option.some Jvm.ClassFile.FieldType.int)) ∈ gtb := gtb_t 546 (by decide +kernel) (by decide +kernel)
theorem tw_547 : (Jvm.Cond.methodLink "SherdField" (229 : Nat) ({ cls := "SherdField$Eyes", name := "hundredths", desc := "(I)I" } : Jvm.MethodName)) ∈ gtb := gtb_t 547 (by decide +kernel) (by decide +kernel)
theorem tw_548 : (Jvm.Cond.instanceMethod ({ cls := "SherdField$Eyes", name := "hundredths", desc := "(I)I" } : Jvm.MethodName)) ∈ gtb := gtb_t 548 (by decide +kernel) (by decide +kernel)
theorem tw_549 : (Jvm.Cond.selects "SherdField$Eyes" ({ cls := "SherdField$Eyes", name := "hundredths", desc := "(I)I" } : Jvm.MethodName) ({ cls := "SherdField$Eyes", name := "hundredths", desc := "(I)I" } : Jvm.MethodName)) ∈ gtb := gtb_t 549 (by decide +kernel) (by decide +kernel)
theorem tw_550 : (Jvm.Cond.code ({ cls := "SherdField$Eyes", name := "hundredths", desc := "(I)I" } : Jvm.MethodName) prog_2_method_4_code (7 : Nat) (Option.some Jvm.ClassFile.FieldType.int)) ∈ gtb := gtb_t 550 (by decide +kernel) (by decide +kernel)
theorem tw_551 : (Jvm.Cond.methodLink "SherdField$Eyes" (40 : Nat) ({ cls := "java/lang/Math", name := "max", desc := "(II)I" } : Jvm.MethodName)) ∈ gtb := gtb_t 551 (by decide +kernel) (by decide +kernel)
theorem tw_552 : (Jvm.Cond.static ({ cls := "java/lang/Math", name := "max", desc := "(II)I" } : Jvm.MethodName)) ∈ gtb := gtb_t 552 (by decide +kernel) (by decide +kernel)
theorem tw_553 : (Jvm.Cond.code ({ cls := "java/lang/Math", name := "max", desc := "(II)I" } : Jvm.MethodName) prog_16_method_65_code (2 : Nat) (Option.some Jvm.ClassFile.FieldType.int)) ∈ gtb := gtb_t 553 (by decide +kernel) (by decide +kernel)
theorem tw_554 : (Jvm.Cond.methodLink "SherdFieldLaw" (66 : Nat) ({ cls := "SherdField", name := "corrected", desc := "(II)I" } : Jvm.MethodName)) ∈ gtb := gtb_t 554 (by decide +kernel) (by decide +kernel)
theorem tw_555 : (Jvm.Cond.instanceMethod ({ cls := "SherdField", name := "corrected", desc := "(II)I" } : Jvm.MethodName)) ∈ gtb := gtb_t 555 (by decide +kernel) (by decide +kernel)
theorem tw_556 : (Jvm.Cond.selects "SherdField" ({ cls := "SherdField", name := "corrected", desc := "(II)I" } : Jvm.MethodName) ({ cls := "SherdField", name := "corrected", desc := "(II)I" } : Jvm.MethodName)) ∈ gtb := gtb_t 556 (by decide +kernel) (by decide +kernel)
theorem tw_557 : (Jvm.Cond.code ({ cls := "SherdField", name := "corrected", desc := "(II)I" } : Jvm.MethodName) prog_1_method_14_code (5 : Nat) (Option.some Jvm.ClassFile.FieldType.int)) ∈ gtb := gtb_t 557 (by decide +kernel) (by decide +kernel)
theorem tw_558 : (Jvm.Cond.methodLink "SherdField" (232 : Nat) ({ cls := "SherdField$Eyes", name := "ofTeller", desc := "(I)I" } : Jvm.MethodName)) ∈ gtb := gtb_t 558 (by decide +kernel) (by decide +kernel)
theorem tw_559 : (Jvm.Cond.instanceMethod ({ cls := "SherdField$Eyes", name := "ofTeller", desc := "(I)I" } : Jvm.MethodName)) ∈ gtb := gtb_t 559 (by decide +kernel) (by decide +kernel)
theorem tw_560 : (Jvm.Cond.selects "SherdField$Eyes" ({ cls := "SherdField$Eyes", name := "ofTeller", desc := "(I)I" } : Jvm.MethodName) ({ cls := "SherdField$Eyes", name := "ofTeller", desc := "(I)I" } : Jvm.MethodName)) ∈ gtb := gtb_t 560 (by decide +kernel) (by decide +kernel)
theorem tw_561 : (Jvm.Cond.code ({ cls := "SherdField$Eyes", name := "ofTeller", desc := "(I)I" } : Jvm.MethodName) prog_2_method_5_code (2 : Nat) (Option.some Jvm.ClassFile.FieldType.int)) ∈ gtb := gtb_t 561 (by decide +kernel) (by decide +kernel)
theorem tw_562 : (Jvm.Cond.methodLink "SherdField$Eyes" (45 : Nat) ({ cls := "SherdField$Walks", name := "has", desc := "(I)Z" } : Jvm.MethodName)) ∈ gtb := gtb_t 562 (by decide +kernel) (by decide +kernel)
theorem tw_563 : (Jvm.Cond.methodLink "SherdField$Eyes" (49 : Nat) ({ cls := "SherdField$Eyes", name := "hundredths", desc := "(I)I" } : Jvm.MethodName)) ∈ gtb := gtb_t 563 (by decide +kernel) (by decide +kernel)
theorem tw_564 : (Jvm.Cond.methodLink "SherdField" (235 : Nat) ({ cls := "SherdField$Eyes", name := "amend", desc := "(III)I" } : Jvm.MethodName)) ∈ gtb := gtb_t 564 (by decide +kernel) (by decide +kernel)
theorem tw_565 : (Jvm.Cond.instanceMethod ({ cls := "SherdField$Eyes", name := "amend", desc := "(III)I" } : Jvm.MethodName)) ∈ gtb := gtb_t 565 (by decide +kernel) (by decide +kernel)
theorem tw_566 : (Jvm.Cond.selects "SherdField$Eyes" ({ cls := "SherdField$Eyes", name := "amend", desc := "(III)I" } : Jvm.MethodName) ({ cls := "SherdField$Eyes", name := "amend", desc := "(III)I" } : Jvm.MethodName)) ∈ gtb := gtb_t 566 (by decide +kernel) (by decide +kernel)
theorem tw_567 : (Jvm.Cond.code ({ cls := "SherdField$Eyes", name := "amend", desc := "(III)I" } : Jvm.MethodName) prog_2_method_6_code (4 : Nat) (Option.some Jvm.ClassFile.FieldType.int)) ∈ gtb := gtb_t 567 (by decide +kernel) (by decide +kernel)
theorem tw_568 : (Jvm.Cond.methodLink "SherdField$Eyes" (57 : Nat) ({ cls := "java/lang/Math", name := "min", desc := "(II)I" } : Jvm.MethodName)) ∈ gtb := gtb_t 568 (by decide +kernel) (by decide +kernel)
theorem tw_569 : (Jvm.Cond.static ({ cls := "java/lang/Math", name := "min", desc := "(II)I" } : Jvm.MethodName)) ∈ gtb := gtb_t 569 (by decide +kernel) (by decide +kernel)
theorem tw_570 : (Jvm.Cond.code ({ cls := "java/lang/Math", name := "min", desc := "(II)I" } : Jvm.MethodName) prog_16_method_69_code (2 : Nat) (Option.some Jvm.ClassFile.FieldType.int)) ∈ gtb := gtb_t 570 (by decide +kernel) (by decide +kernel)
theorem tw_571 : (Jvm.Cond.methodLink "SherdFieldLaw" (70 : Nat) ({ cls := "SherdField", name := "worth", desc := "(II)I" } : Jvm.MethodName)) ∈ gtb := gtb_t 571 (by decide +kernel) (by decide +kernel)
theorem tw_572 : (Jvm.Cond.instanceMethod ({ cls := "SherdField", name := "worth", desc := "(II)I" } : Jvm.MethodName)) ∈ gtb := gtb_t 572 (by decide +kernel) (by decide +kernel)
theorem tw_573 : (Jvm.Cond.selects "SherdField" ({ cls := "SherdField", name := "worth", desc := "(II)I" } : Jvm.MethodName) ({ cls := "SherdField", name := "worth", desc := "(II)I" } : Jvm.MethodName)) ∈ gtb := gtb_t 573 (by decide +kernel) (by decide +kernel)
theorem tw_574 : (Jvm.Cond.code ({ cls := "SherdField", name := "worth", desc := "(II)I" } : Jvm.MethodName) prog_1_method_15_code (3 : Nat) (Option.some Jvm.ClassFile.FieldType.int)) ∈ gtb := gtb_t 574 (by decide +kernel) (by decide +kernel)
theorem tw_575 : (Jvm.Cond.methodLink "SherdField" (238 : Nat) ({ cls := "SherdField$Heaps", name := "lay", desc := "()V" } : Jvm.MethodName)) ∈ gtb := gtb_t 575 (by decide +kernel) (by decide +kernel)
theorem tw_576 : (Jvm.Cond.instanceMethod ({ cls := "SherdField$Heaps", name := "lay", desc := "()V" } : Jvm.MethodName)) ∈ gtb := gtb_t 576 (by decide +kernel) (by decide +kernel)
theorem tw_577 : (Jvm.Cond.selects "SherdField$Heaps" ({ cls := "SherdField$Heaps", name := "lay", desc := "()V" } : Jvm.MethodName) ({ cls := "SherdField$Heaps", name := "lay", desc := "()V" } : Jvm.MethodName)) ∈ gtb := gtb_t 577 (by decide +kernel) (by decide +kernel)
theorem tw_578 : (Jvm.Cond.code ({ cls := "SherdField$Heaps", name := "lay", desc := "()V" } : Jvm.MethodName) prog_5_method_2_code (6 : Nat) (Option.none : Option Jvm.ClassFile.FieldType)) ∈ gtb := gtb_t 578 (by decide +kernel) (by decide +kernel)
theorem tw_579 : (Jvm.Cond.methodLink "SherdField$Heaps" (34 : Nat) ({ cls := "SherdField$Ground", name := "rows", desc := "()I" } : Jvm.MethodName)) ∈ gtb := gtb_t 579 (by decide +kernel) (by decide +kernel)
theorem tw_580 : (Jvm.Cond.methodLink "SherdField$Heaps" (40 : Nat) ({ cls := "SherdField$Walks", name := "teller", desc := "(I)I" } : Jvm.MethodName)) ∈ gtb := gtb_t 580 (by decide +kernel) (by decide +kernel)
theorem tw_581 : (Jvm.Cond.methodLink "SherdField$Heaps" (46 : Nat) ({ cls := "SherdField$Eyes", name := "ofTeller", desc := "(I)I" } : Jvm.MethodName)) ∈ gtb := gtb_t 581 (by decide +kernel) (by decide +kernel)
theorem tw_582 : (Jvm.Cond.methodLink "SherdField$Heaps" (51 : Nat) ({ cls := "SherdField$Ground", name := "columns", desc := "()I" } : Jvm.MethodName)) ∈ gtb := gtb_t 582 (by decide +kernel) (by decide +kernel)
theorem tw_583 : (Jvm.Cond.instanceMethod ({ cls := "SherdField$Ground", name := "columns", desc := "()I" } : Jvm.MethodName)) ∈ gtb := gtb_t 583 (by decide +kernel) (by decide +kernel)
theorem tw_584 : (Jvm.Cond.selects "SherdField$Ground" ({ cls := "SherdField$Ground", name := "columns", desc := "()I" } : Jvm.MethodName) ({ cls := "SherdField$Ground", name := "columns", desc := "()I" } : Jvm.MethodName)) ∈ gtb := gtb_t 584 (by decide +kernel) (by decide +kernel)
theorem tw_585 : (Jvm.Cond.code ({ cls := "SherdField$Ground", name := "columns", desc := "()I" } : Jvm.MethodName) prog_4_method_5_code (1 : Nat) (Option.some Jvm.ClassFile.FieldType.int)) ∈ gtb := gtb_t 585 (by decide +kernel) (by decide +kernel)
theorem tw_586 : (Jvm.Cond.methodLink "SherdField$Heaps" (54 : Nat) ({ cls := "SherdField$Ground", name := "isBarren", desc := "(I)Z" } : Jvm.MethodName)) ∈ gtb := gtb_t 586 (by decide +kernel) (by decide +kernel)
theorem tw_587 : (Jvm.Cond.instanceMethod ({ cls := "SherdField$Ground", name := "isBarren", desc := "(I)Z" } : Jvm.MethodName)) ∈ gtb := gtb_t 587 (by decide +kernel) (by decide +kernel)
theorem tw_588 : (Jvm.Cond.selects "SherdField$Ground" ({ cls := "SherdField$Ground", name := "isBarren", desc := "(I)Z" } : Jvm.MethodName) ({ cls := "SherdField$Ground", name := "isBarren", desc := "(I)Z" } : Jvm.MethodName)) ∈ gtb := gtb_t 588 (by decide +kernel) (by decide +kernel)
theorem tw_589 : (Jvm.Cond.code ({ cls := "SherdField$Ground", name := "isBarren", desc := "(I)Z" } : Jvm.MethodName) prog_4_method_10_code (2 : Nat) (Option.some Jvm.ClassFile.FieldType.boolean)) ∈ gtb := gtb_t 589 (by decide +kernel) (by decide +kernel)
theorem tw_590 : (Jvm.Cond.methodLink "SherdField$Heaps" (58 : Nat) ({ cls := "SherdField$Heaps", name := "weighed", desc := "(III)I" } : Jvm.MethodName)) ∈ gtb := gtb_t 590 (by decide +kernel) (by decide +kernel)
theorem tw_592 : (Jvm.Cond.instanceMethod ({ cls := "SherdField$Heaps", name := "weighed", desc := "(III)I" } : Jvm.MethodName)) ∈ gtb := gtb_t 592 (by decide +kernel) (by decide +kernel)
theorem tw_593 : (Jvm.Cond.code ({ cls := "SherdField$Heaps", name := "weighed", desc := "(III)I" } : Jvm.MethodName) prog_5_method_7_code (7 : Nat) (Option.some Jvm.ClassFile.FieldType.int)) ∈ gtb := gtb_t 593 (by decide +kernel) (by decide +kernel)
theorem tw_594 : (Jvm.Cond.methodLink "SherdField$Heaps" (83 : Nat) ({ cls := "SherdField$Walks", name := "borne", desc := "(III)I" } : Jvm.MethodName)) ∈ gtb := gtb_t 594 (by decide +kernel) (by decide +kernel)
theorem tw_595 : (Jvm.Cond.methodLink "SherdField$Heaps" (86 : Nat) ({ cls := "SherdField$Sorts", name := "weight", desc := "(I)I" } : Jvm.MethodName)) ∈ gtb := gtb_t 595 (by decide +kernel) (by decide +kernel)
theorem tw_596 : (Jvm.Cond.instanceMethod ({ cls := "SherdField$Sorts", name := "weight", desc := "(I)I" } : Jvm.MethodName)) ∈ gtb := gtb_t 596 (by decide +kernel) (by decide +kernel)
theorem tw_597 : (Jvm.Cond.selects "SherdField$Sorts" ({ cls := "SherdField$Sorts", name := "weight", desc := "(I)I" } : Jvm.MethodName) ({ cls := "SherdField$Sorts", name := "weight", desc := "(I)I" } : Jvm.MethodName)) ∈ gtb := gtb_t 597 (by decide +kernel) (by decide +kernel)
theorem tw_598 : (Jvm.Cond.code ({ cls := "SherdField$Sorts", name := "weight", desc := "(I)I" } : Jvm.MethodName) prog_10_method_6_code (2 : Nat) (Option.some Jvm.ClassFile.FieldType.int)) ∈ gtb := gtb_t 598 (by decide +kernel) (by decide +kernel)
theorem tw_599 : (Jvm.Cond.methodLink "SherdField$Heaps" (91 : Nat) ({ cls := "SherdField$Eyes", name := "amend", desc := "(III)I" } : Jvm.MethodName)) ∈ gtb := gtb_t 599 (by decide +kernel) (by decide +kernel)
theorem tw_600 : (Jvm.Cond.methodLink "SherdField" (241 : Nat) ({ cls := "SherdField$Heaps", name := "worthAt", desc := "(I)I" } : Jvm.MethodName)) ∈ gtb := gtb_t 600 (by decide +kernel) (by decide +kernel)
theorem tw_601 : (Jvm.Cond.instanceMethod ({ cls := "SherdField$Heaps", name := "worthAt", desc := "(I)I" } : Jvm.MethodName)) ∈ gtb := gtb_t 601 (by decide +kernel) (by decide +kernel)
theorem tw_602 : (Jvm.Cond.selects "SherdField$Heaps" ({ cls := "SherdField$Heaps", name := "worthAt", desc := "(I)I" } : Jvm.MethodName) ({ cls := "SherdField$Heaps", name := "worthAt", desc := "(I)I" } : Jvm.MethodName)) ∈ gtb := gtb_t 602 (by decide +kernel) (by decide +kernel)
theorem tw_603 : (Jvm.Cond.code ({ cls := "SherdField$Heaps", name := "worthAt", desc := "(I)I" } : Jvm.MethodName) prog_5_method_3_code (2 : Nat) (Option.some Jvm.ClassFile.FieldType.int)) ∈ gtb := gtb_t 603 (by decide +kernel) (by decide +kernel)
theorem tw_604 : (Jvm.Cond.methodLink "SherdField" (244 : Nat) ({ cls := "SherdField$Heaps", name := "sumAround", desc := "(I)I" } : Jvm.MethodName)) ∈ gtb := gtb_t 604 (by decide +kernel) (by decide +kernel)
theorem tw_605 : (Jvm.Cond.instanceMethod ({ cls := "SherdField$Heaps", name := "sumAround", desc := "(I)I" } : Jvm.MethodName)) ∈ gtb := gtb_t 605 (by decide +kernel) (by decide +kernel)
theorem tw_606 : (Jvm.Cond.selects "SherdField$Heaps" ({ cls := "SherdField$Heaps", name := "sumAround", desc := "(I)I" } : Jvm.MethodName) ({ cls := "SherdField$Heaps", name := "sumAround", desc := "(I)I" } : Jvm.MethodName)) ∈ gtb := gtb_t 606 (by decide +kernel) (by decide +kernel)
theorem tw_607 : (Jvm.Cond.code ({ cls := "SherdField$Heaps", name := "sumAround", desc := "(I)I" } : Jvm.MethodName) prog_5_method_4_code (2 : Nat) (Option.some Jvm.ClassFile.FieldType.int)) ∈ gtb := gtb_t 607 (by decide +kernel) (by decide +kernel)
theorem tw_608 : (Jvm.Cond.methodLink "SherdField$Heaps" (62 : Nat) ({ cls := "SherdField$Ground", name := "ringSum", desc := "([II)I" } : Jvm.MethodName)) ∈ gtb := gtb_t 608 (by decide +kernel) (by decide +kernel)
theorem tw_609 : (Jvm.Cond.instanceMethod ({ cls := "SherdField$Ground", name := "ringSum", desc := "([II)I" } : Jvm.MethodName)) ∈ gtb := gtb_t 609 (by decide +kernel) (by decide +kernel)
theorem tw_610 : (Jvm.Cond.selects "SherdField$Ground" ({ cls := "SherdField$Ground", name := "ringSum", desc := "([II)I" } : Jvm.MethodName) ({ cls := "SherdField$Ground", name := "ringSum", desc := "([II)I" } : Jvm.MethodName)) ∈ gtb := gtb_t 610 (by decide +kernel) (by decide +kernel)
theorem tw_611 : (Jvm.Cond.code ({ cls := "SherdField$Ground", name := "ringSum", desc := "([II)I" } : Jvm.MethodName) prog_4_method_13_code (12 : Nat) (Option.some Jvm.ClassFile.FieldType.int)) ∈ gtb := gtb_t 611 (by decide +kernel) (by decide +kernel)
theorem tw_612 : (Jvm.Cond.methodLink "SherdField$Ground" (45 : Nat) ({ cls := "SherdField$Ground", name := "columnOf", desc := "(I)I" } : Jvm.MethodName)) ∈ gtb := gtb_t 612 (by decide +kernel) (by decide +kernel)
theorem tw_613 : (Jvm.Cond.methodLink "SherdField$Ground" (48 : Nat) ({ cls := "java/lang/Math", name := "max", desc := "(II)I" } : Jvm.MethodName)) ∈ gtb := gtb_t 613 (by decide +kernel) (by decide +kernel)
theorem tw_614 : (Jvm.Cond.methodLink "SherdField$Ground" (54 : Nat) ({ cls := "java/lang/Math", name := "min", desc := "(II)I" } : Jvm.MethodName)) ∈ gtb := gtb_t 614 (by decide +kernel) (by decide +kernel)
theorem tw_615 : (Jvm.Cond.methodLink "SherdFieldLaw" (74 : Nat) ({ cls := "SherdField", name := "greatest", desc := "()I" } : Jvm.MethodName)) ∈ gtb := gtb_t 615 (by decide +kernel) (by decide +kernel)
theorem tw_616 : (Jvm.Cond.instanceMethod ({ cls := "SherdField", name := "greatest", desc := "()I" } : Jvm.MethodName)) ∈ gtb := gtb_t 616 (by decide +kernel) (by decide +kernel)
theorem tw_617 : (Jvm.Cond.selects "SherdField" ({ cls := "SherdField", name := "greatest", desc := "()I" } : Jvm.MethodName) ({ cls := "SherdField", name := "greatest", desc := "()I" } : Jvm.MethodName)) ∈ gtb := gtb_t 617 (by decide +kernel) (by decide +kernel)
theorem tw_618 : (Jvm.Cond.code ({ cls := "SherdField", name := "greatest", desc := "()I" } : Jvm.MethodName) prog_1_method_16_code (1 : Nat) (Option.some Jvm.ClassFile.FieldType.int)) ∈ gtb := gtb_t 618 (by decide +kernel) (by decide +kernel)
theorem tw_619 : (Jvm.Cond.methodLink "SherdField" (247 : Nat) ({ cls := "SherdField$Heaps", name := "richest", desc := "()I" } : Jvm.MethodName)) ∈ gtb := gtb_t 619 (by decide +kernel) (by decide +kernel)
theorem tw_620 : (Jvm.Cond.instanceMethod ({ cls := "SherdField$Heaps", name := "richest", desc := "()I" } : Jvm.MethodName)) ∈ gtb := gtb_t 620 (by decide +kernel) (by decide +kernel)
theorem tw_621 : (Jvm.Cond.selects "SherdField$Heaps" ({ cls := "SherdField$Heaps", name := "richest", desc := "()I" } : Jvm.MethodName) ({ cls := "SherdField$Heaps", name := "richest", desc := "()I" } : Jvm.MethodName)) ∈ gtb := gtb_t 621 (by decide +kernel) (by decide +kernel)
theorem tw_622 : (Jvm.Cond.code ({ cls := "SherdField$Heaps", name := "richest", desc := "()I" } : Jvm.MethodName) prog_5_method_5_code (1 : Nat) (Option.some Jvm.ClassFile.FieldType.int)) ∈ gtb := gtb_t 622 (by decide +kernel) (by decide +kernel)
theorem tw_623 : (Jvm.Cond.methodLink "SherdField$Heaps" (66 : Nat) ({ cls := "SherdField$Ground", name := "greatestRing", desc := "([I)I" } : Jvm.MethodName)) ∈ gtb := gtb_t 623 (by decide +kernel) (by decide +kernel)
theorem tw_624 : (Jvm.Cond.instanceMethod ({ cls := "SherdField$Ground", name := "greatestRing", desc := "([I)I" } : Jvm.MethodName)) ∈ gtb := gtb_t 624 (by decide +kernel) (by decide +kernel)
theorem tw_625 : (Jvm.Cond.selects "SherdField$Ground" ({ cls := "SherdField$Ground", name := "greatestRing", desc := "([I)I" } : Jvm.MethodName) ({ cls := "SherdField$Ground", name := "greatestRing", desc := "([I)I" } : Jvm.MethodName)) ∈ gtb := gtb_t 625 (by decide +kernel) (by decide +kernel)
theorem tw_626 : (Jvm.Cond.code ({ cls := "SherdField$Ground", name := "greatestRing", desc := "([I)I" } : Jvm.MethodName) prog_4_method_14_code (6 : Nat) (Option.some Jvm.ClassFile.FieldType.int)) ∈ gtb := gtb_t 626 (by decide +kernel) (by decide +kernel)
theorem tw_627 : (Jvm.Cond.methodLink "SherdField$Ground" (57 : Nat) ({ cls := "SherdField$Ground", name := "ringSum", desc := "([II)I" } : Jvm.MethodName)) ∈ gtb := gtb_t 627 (by decide +kernel) (by decide +kernel)
theorem tw_628 : (Jvm.Cond.methodLink "SherdFieldLaw" (78 : Nat) ({ cls := "SherdField", name := "heap", desc := "(II)I" } : Jvm.MethodName)) ∈ gtb := gtb_t 628 (by decide +kernel) (by decide +kernel)
theorem tw_629 : (Jvm.Cond.instanceMethod ({ cls := "SherdField", name := "heap", desc := "(II)I" } : Jvm.MethodName)) ∈ gtb := gtb_t 629 (by decide +kernel) (by decide +kernel)
theorem tw_630 : (Jvm.Cond.selects "SherdField" ({ cls := "SherdField", name := "heap", desc := "(II)I" } : Jvm.MethodName) ({ cls := "SherdField", name := "heap", desc := "(II)I" } : Jvm.MethodName)) ∈ gtb := gtb_t 630 (by decide +kernel) (by decide +kernel)
theorem tw_631 : (Jvm.Cond.code ({ cls := "SherdField", name := "heap", desc := "(II)I" } : Jvm.MethodName) prog_1_method_17_code (3 : Nat) (Option.some Jvm.ClassFile.FieldType.int)) ∈ gtb := gtb_t 631 (by decide +kernel) (by decide +kernel)
theorem tw_632 : (Jvm.Cond.methodLink "SherdField" (250 : Nat) ({ cls := "SherdField$Heaps", name := "standsOut", desc := "(IIII)Z" } : Jvm.MethodName)) ∈ gtb := gtb_t 632 (by decide +kernel) (by decide +kernel)
theorem tw_633 : (Jvm.Cond.instanceMethod ({ cls := "SherdField$Heaps", name := "standsOut", desc := "(IIII)Z" } : Jvm.MethodName)) ∈ gtb := gtb_t 633 (by decide +kernel) (by decide +kernel)
theorem tw_634 : (Jvm.Cond.selects "SherdField$Heaps" ({ cls := "SherdField$Heaps", name := "standsOut", desc := "(IIII)Z" } : Jvm.MethodName) ({ cls := "SherdField$Heaps", name := "standsOut", desc := "(IIII)Z" } : Jvm.MethodName)) ∈ gtb := gtb_t 634 (by decide +kernel) (by decide +kernel)
theorem tw_635 : (Jvm.Cond.code ({ cls := "SherdField$Heaps", name := "standsOut", desc := "(IIII)Z" } : Jvm.MethodName) prog_5_method_6_code (10 : Nat) (Option.some Jvm.ClassFile.FieldType.boolean)) ∈ gtb := gtb_t 635 (by decide +kernel) (by decide +kernel)
theorem tw_636 : (Jvm.Cond.methodLink "SherdField$Heaps" (70 : Nat) ({ cls := "SherdField$Heaps", name := "sumAround", desc := "(I)I" } : Jvm.MethodName)) ∈ gtb := gtb_t 636 (by decide +kernel) (by decide +kernel)
theorem tw_637 : (Jvm.Cond.methodLink "SherdField$Heaps" (73 : Nat) ({ cls := "SherdField$Heaps", name := "gatherWalked", desc := "()I" } : Jvm.MethodName)) ∈ gtb := gtb_t 637 (by decide +kernel) (by decide +kernel)
theorem tw_639 : (Jvm.Cond.instanceMethod ({ cls := "SherdField$Heaps", name := "gatherWalked", desc := "()I" } : Jvm.MethodName)) ∈ gtb := gtb_t 639 (by decide +kernel) (by decide +kernel)
theorem tw_640 : (Jvm.Cond.code ({ cls := "SherdField$Heaps", name := "gatherWalked", desc := "()I" } : Jvm.MethodName) prog_5_method_8_code (4 : Nat) (Option.some Jvm.ClassFile.FieldType.int)) ∈ gtb := gtb_t 640 (by decide +kernel) (by decide +kernel)
theorem tw_641 : (Jvm.Cond.methodLink "SherdField$Heaps" (76 : Nat) ({ cls := "SherdField$Heaps", name := "shuffle", desc := "(II)I" } : Jvm.MethodName)) ∈ gtb := gtb_t 641 (by decide +kernel) (by decide +kernel)
theorem tw_643 : (Jvm.Cond.instanceMethod ({ cls := "SherdField$Heaps", name := "shuffle", desc := "(II)I" } : Jvm.MethodName)) ∈ gtb := gtb_t 643 (by decide +kernel) (by decide +kernel)
theorem tw_644 : (Jvm.Cond.code ({ cls := "SherdField$Heaps", name := "shuffle", desc := "(II)I" } : Jvm.MethodName) prog_5_method_9_code (8 : Nat) (Option.some Jvm.ClassFile.FieldType.int)) ∈ gtb := gtb_t 644 (by decide +kernel) (by decide +kernel)
theorem tw_645 : (Jvm.Cond.constant "SherdField$Heaps" (94 : Nat) (1103515245 : Int32)) ∈ gtb := gtb_t 645 (by decide +kernel) (by decide +kernel)
theorem tw_646 : (Jvm.Cond.methodLink "SherdField$Heaps" (80 : Nat) ({ cls := "SherdField$Heaps", name := "richest", desc := "()I" } : Jvm.MethodName)) ∈ gtb := gtb_t 646 (by decide +kernel) (by decide +kernel)
theorem tw_647 : (Jvm.Cond.methodLink "SherdFieldLaw" (82 : Nat) ({ cls := "SherdField", name := "spade", desc := "(II)I" } : Jvm.MethodName)) ∈ gtb := gtb_t 647 (by decide +kernel) (by decide +kernel)
theorem tw_648 : (Jvm.Cond.instanceMethod ({ cls := "SherdField", name := "spade", desc := "(II)I" } : Jvm.MethodName)) ∈ gtb := gtb_t 648 (by decide +kernel) (by decide +kernel)
theorem tw_649 : (Jvm.Cond.selects "SherdField" ({ cls := "SherdField", name := "spade", desc := "(II)I" } : Jvm.MethodName) ({ cls := "SherdField", name := "spade", desc := "(II)I" } : Jvm.MethodName)) ∈ gtb := gtb_t 649 (by decide +kernel) (by decide +kernel)
theorem tw_650 : (Jvm.Cond.code ({ cls := "SherdField", name := "spade", desc := "(II)I" } : Jvm.MethodName) prog_1_method_18_code (4 : Nat) (Option.some Jvm.ClassFile.FieldType.int)) ∈ gtb := gtb_t 650 (by decide +kernel) (by decide +kernel)
theorem tw_651 : (Jvm.Cond.methodLink "SherdField" (254 : Nat) ({ cls := "SherdField$Ground", name := "isBarren", desc := "(I)Z" } : Jvm.MethodName)) ∈ gtb := gtb_t 651 (by decide +kernel) (by decide +kernel)
theorem tw_652 : (Jvm.Cond.methodLink "SherdField" (257 : Nat) ({ cls := "SherdField$Ground", name := "dig", desc := "(IZ)V" } : Jvm.MethodName)) ∈ gtb := gtb_t 652 (by decide +kernel) (by decide +kernel)
theorem tw_653 : (Jvm.Cond.instanceMethod ({ cls := "SherdField$Ground", name := "dig", desc := "(IZ)V" } : Jvm.MethodName)) ∈ gtb := gtb_t 653 (by decide +kernel) (by decide +kernel)
theorem tw_654 : (Jvm.Cond.selects "SherdField$Ground" ({ cls := "SherdField$Ground", name := "dig", desc := "(IZ)V" } : Jvm.MethodName) ({ cls := "SherdField$Ground", name := "dig", desc := "(IZ)V" } : Jvm.MethodName)) ∈ gtb := gtb_t 654 (by decide +kernel) (by decide +kernel)
theorem tw_655 : (Jvm.Cond.code ({ cls := "SherdField$Ground", name := "dig", desc := "(IZ)V" } : Jvm.MethodName) prog_4_method_11_code (5 : Nat) (Option.none : Option Jvm.ClassFile.FieldType)) ∈ gtb := gtb_t 655 (by decide +kernel) (by decide +kernel)
theorem tw_656 : (Jvm.Cond.constantLong "SherdField$Ground" (37 : Nat) (-1 : Int64)) ∈ gtb := gtb_t 656 (by decide +kernel) (by decide +kernel)
theorem tw_657 : (Jvm.Cond.methodLink "SherdFieldLaw" (86 : Nat) ({ cls := "SherdField", name := "rule", desc := "(II)I" } : Jvm.MethodName)) ∈ gtb := gtb_t 657 (by decide +kernel) (by decide +kernel)
theorem tw_658 : (Jvm.Cond.instanceMethod ({ cls := "SherdField", name := "rule", desc := "(II)I" } : Jvm.MethodName)) ∈ gtb := gtb_t 658 (by decide +kernel) (by decide +kernel)
theorem tw_659 : (Jvm.Cond.selects "SherdField" ({ cls := "SherdField", name := "rule", desc := "(II)I" } : Jvm.MethodName) ({ cls := "SherdField", name := "rule", desc := "(II)I" } : Jvm.MethodName)) ∈ gtb := gtb_t 659 (by decide +kernel) (by decide +kernel)
theorem tw_660 : (Jvm.Cond.code ({ cls := "SherdField", name := "rule", desc := "(II)I" } : Jvm.MethodName) prog_1_method_19_code (4 : Nat) (Option.some Jvm.ClassFile.FieldType.int)) ∈ gtb := gtb_t 660 (by decide +kernel) (by decide +kernel)
theorem tw_661 : (Jvm.Cond.methodLink "SherdFieldLaw" (90 : Nat) ({ cls := "SherdField", name := "plough", desc := "(II)I" } : Jvm.MethodName)) ∈ gtb := gtb_t 661 (by decide +kernel) (by decide +kernel)
theorem tw_662 : (Jvm.Cond.instanceMethod ({ cls := "SherdField", name := "plough", desc := "(II)I" } : Jvm.MethodName)) ∈ gtb := gtb_t 662 (by decide +kernel) (by decide +kernel)
theorem tw_663 : (Jvm.Cond.selects "SherdField" ({ cls := "SherdField", name := "plough", desc := "(II)I" } : Jvm.MethodName) ({ cls := "SherdField", name := "plough", desc := "(II)I" } : Jvm.MethodName)) ∈ gtb := gtb_t 663 (by decide +kernel) (by decide +kernel)
theorem tw_664 : (Jvm.Cond.code ({ cls := "SherdField", name := "plough", desc := "(II)I" } : Jvm.MethodName) prog_1_method_20_code (3 : Nat) (Option.some Jvm.ClassFile.FieldType.int)) ∈ gtb := gtb_t 664 (by decide +kernel) (by decide +kernel)
theorem tw_665 : (Jvm.Cond.methodLink "SherdField" (261 : Nat) ({ cls := "SherdField$Sheet", name := "isMissing", desc := "()Z" } : Jvm.MethodName)) ∈ gtb := gtb_t 665 (by decide +kernel) (by decide +kernel)
theorem tw_666 : (Jvm.Cond.instanceMethod ({ cls := "SherdField$Sheet", name := "isMissing", desc := "()Z" } : Jvm.MethodName)) ∈ gtb := gtb_t 666 (by decide +kernel) (by decide +kernel)
theorem tw_667 : (Jvm.Cond.selects "SherdField$Sheet" ({ cls := "SherdField$Sheet", name := "isMissing", desc := "()Z" } : Jvm.MethodName) ({ cls := "SherdField$Sheet", name := "isMissing", desc := "()Z" } : Jvm.MethodName)) ∈ gtb := gtb_t 667 (by decide +kernel) (by decide +kernel)
theorem tw_668 : (Jvm.Cond.code ({ cls := "SherdField$Sheet", name := "isMissing", desc := "()Z" } : Jvm.MethodName) prog_9_method_2_code (1 : Nat) (Option.some Jvm.ClassFile.FieldType.boolean)) ∈ gtb := gtb_t 668 (by decide +kernel) (by decide +kernel)
theorem tw_669 : (Jvm.Cond.constant "SherdField" (264 : Nat) (-1000000011 : Int32)) ∈ gtb := gtb_t 669 (by decide +kernel) (by decide +kernel)
theorem tw_670 : (Jvm.Cond.methodLink "SherdField" (265 : Nat) ({ cls := "SherdField$Ground", name := "behindPloughs", desc := "(LSherdField$Sheet;II)I" } : Jvm.MethodName)) ∈ gtb := gtb_t 670 (by decide +kernel) (by decide +kernel)
theorem tw_671 : (Jvm.Cond.instanceMethod ({ cls := "SherdField$Ground", name := "behindPloughs", desc := "(LSherdField$Sheet;II)I" } : Jvm.MethodName)) ∈ gtb := gtb_t 671 (by decide +kernel) (by decide +kernel)
theorem tw_672 : (Jvm.Cond.selects "SherdField$Ground" ({ cls := "SherdField$Ground", name := "behindPloughs", desc := "(LSherdField$Sheet;II)I" } : Jvm.MethodName) ({ cls := "SherdField$Ground", name := "behindPloughs", desc := "(LSherdField$Sheet;II)I" } : Jvm.MethodName)) ∈ gtb := gtb_t 672 (by decide +kernel) (by decide +kernel)
theorem tw_673 : (Jvm.Cond.code ({ cls := "SherdField$Ground", name := "behindPloughs", desc := "(LSherdField$Sheet;II)I" } : Jvm.MethodName) prog_4_method_15_code (6 : Nat) (Option.some Jvm.ClassFile.FieldType.int)) ∈ gtb := gtb_t 673 (by decide +kernel) (by decide +kernel)
theorem tw_674 : (Jvm.Cond.methodLink "SherdField$Ground" (61 : Nat) ({ cls := "SherdField$Sheet", name := "has", desc := "(I)Z" } : Jvm.MethodName)) ∈ gtb := gtb_t 674 (by decide +kernel) (by decide +kernel)
theorem tw_675 : (Jvm.Cond.instanceMethod ({ cls := "SherdField$Sheet", name := "has", desc := "(I)Z" } : Jvm.MethodName)) ∈ gtb := gtb_t 675 (by decide +kernel) (by decide +kernel)
theorem tw_676 : (Jvm.Cond.selects "SherdField$Sheet" ({ cls := "SherdField$Sheet", name := "has", desc := "(I)Z" } : Jvm.MethodName) ({ cls := "SherdField$Sheet", name := "has", desc := "(I)Z" } : Jvm.MethodName)) ∈ gtb := gtb_t 676 (by decide +kernel) (by decide +kernel)
theorem tw_677 : (Jvm.Cond.code ({ cls := "SherdField$Sheet", name := "has", desc := "(I)Z" } : Jvm.MethodName) prog_9_method_5_code (2 : Nat) (Option.some Jvm.ClassFile.FieldType.boolean)) ∈ gtb := gtb_t 677 (by decide +kernel) (by decide +kernel)
theorem tw_678 : (Jvm.Cond.methodLink "SherdField$Ground" (67 : Nat) ({ cls := "SherdField$Sheet", name := "at", desc := "(I)I" } : Jvm.MethodName)) ∈ gtb := gtb_t 678 (by decide +kernel) (by decide +kernel)
theorem tw_679 : (Jvm.Cond.instanceMethod ({ cls := "SherdField$Sheet", name := "at", desc := "(I)I" } : Jvm.MethodName)) ∈ gtb := gtb_t 679 (by decide +kernel) (by decide +kernel)
theorem tw_680 : (Jvm.Cond.selects "SherdField$Sheet" ({ cls := "SherdField$Sheet", name := "at", desc := "(I)I" } : Jvm.MethodName) ({ cls := "SherdField$Sheet", name := "at", desc := "(I)I" } : Jvm.MethodName)) ∈ gtb := gtb_t 680 (by decide +kernel) (by decide +kernel)
theorem tw_681 : (Jvm.Cond.code ({ cls := "SherdField$Sheet", name := "at", desc := "(I)I" } : Jvm.MethodName) prog_9_method_7_code (2 : Nat) (Option.some Jvm.ClassFile.FieldType.int)) ∈ gtb := gtb_t 681 (by decide +kernel) (by decide +kernel)
theorem tw_683 : (Jvm.Cond.methodLink "SherdField$Ground" (74 : Nat) ({ cls := "SherdField$Ground", name := "ploughOnce", desc := "()V" } : Jvm.MethodName)) ∈ gtb := gtb_t 683 (by decide +kernel) (by decide +kernel)
theorem tw_685 : (Jvm.Cond.instanceMethod ({ cls := "SherdField$Ground", name := "ploughOnce", desc := "()V" } : Jvm.MethodName)) ∈ gtb := gtb_t 685 (by decide +kernel) (by decide +kernel)
theorem tw_686 : (Jvm.Cond.code ({ cls := "SherdField$Ground", name := "ploughOnce", desc := "()V" } : Jvm.MethodName) prog_4_method_16_code (2 : Nat) (Option.none : Option Jvm.ClassFile.FieldType)) ∈ gtb := gtb_t 686 (by decide +kernel) (by decide +kernel)
theorem tw_687 : (Jvm.Cond.methodLink "SherdField$Ground" (77 : Nat) ({ cls := "java/util/Arrays", name := "fill", desc := "([II)V" } : Jvm.MethodName)) ∈ gtb := gtb_t 687 (by decide +kernel) (by decide +kernel)
theorem tw_688 : (Jvm.Cond.methodLink "SherdField$Ground" (83 : Nat) ({ cls := "SherdField$Ground", name := "spreadFrom", desc := "(I)V" } : Jvm.MethodName)) ∈ gtb := gtb_t 688 (by decide +kernel) (by decide +kernel)
theorem tw_690 : (Jvm.Cond.instanceMethod ({ cls := "SherdField$Ground", name := "spreadFrom", desc := "(I)V" } : Jvm.MethodName)) ∈ gtb := gtb_t 690 (by decide +kernel) (by decide +kernel)
theorem tw_691 : (Jvm.Cond.code ({ cls := "SherdField$Ground", name := "spreadFrom", desc := "(I)V" } : Jvm.MethodName) prog_4_method_17_code (8 : Nat) (Option.none : Option Jvm.ClassFile.FieldType)) ∈ gtb := gtb_t 691 (by decide +kernel) (by decide +kernel)
theorem tw_693 : (Jvm.Cond.methodLink "SherdFieldLaw" (94 : Nat) ({ cls := "SherdField", name := "profile", desc := "(III)I" } : Jvm.MethodName)) ∈ gtb := gtb_t 693 (by decide +kernel) (by decide +kernel)
theorem tw_694 : (Jvm.Cond.instanceMethod ({ cls := "SherdField", name := "profile", desc := "(III)I" } : Jvm.MethodName)) ∈ gtb := gtb_t 694 (by decide +kernel) (by decide +kernel)
theorem tw_695 : (Jvm.Cond.selects "SherdField" ({ cls := "SherdField", name := "profile", desc := "(III)I" } : Jvm.MethodName) ({ cls := "SherdField", name := "profile", desc := "(III)I" } : Jvm.MethodName)) ∈ gtb := gtb_t 695 (by decide +kernel) (by decide +kernel)
theorem tw_696 : (Jvm.Cond.code ({ cls := "SherdField", name := "profile", desc := "(III)I" } : Jvm.MethodName) prog_1_method_21_code (4 : Nat) (Option.some Jvm.ClassFile.FieldType.int)) ∈ gtb := gtb_t 696 (by decide +kernel) (by decide +kernel)
theorem tw_697 : (Jvm.Cond.methodLink "SherdField" (269 : Nat) ({ cls := "SherdField", name := "isPeriod", desc := "(I)Z" } : Jvm.MethodName)) ∈ gtb := gtb_t 697 (by decide +kernel) (by decide +kernel)
theorem tw_698 : (Jvm.Cond.static ({ cls := "SherdField", name := "isPeriod", desc := "(I)Z" } : Jvm.MethodName)) ∈ gtb := gtb_t 698 (by decide +kernel) (by decide +kernel)
theorem tw_699 : (Jvm.Cond.code ({ cls := "SherdField", name := "isPeriod", desc := "(I)Z" } : Jvm.MethodName) prog_1_method_38_code (1 : Nat) (Option.some Jvm.ClassFile.FieldType.boolean)) ∈ gtb := gtb_t 699 (by decide +kernel) (by decide +kernel)
theorem tw_700 : (Jvm.Cond.methodLink "SherdField" (272 : Nat) ({ cls := "SherdField$Periods", name := "become", desc := "(III)I" } : Jvm.MethodName)) ∈ gtb := gtb_t 700 (by decide +kernel) (by decide +kernel)
theorem tw_701 : (Jvm.Cond.instanceMethod ({ cls := "SherdField$Periods", name := "become", desc := "(III)I" } : Jvm.MethodName)) ∈ gtb := gtb_t 701 (by decide +kernel) (by decide +kernel)
theorem tw_702 : (Jvm.Cond.selects "SherdField$Periods" ({ cls := "SherdField$Periods", name := "become", desc := "(III)I" } : Jvm.MethodName) ({ cls := "SherdField$Periods", name := "become", desc := "(III)I" } : Jvm.MethodName)) ∈ gtb := gtb_t 702 (by decide +kernel) (by decide +kernel)
theorem tw_703 : (Jvm.Cond.code ({ cls := "SherdField$Periods", name := "become", desc := "(III)I" } : Jvm.MethodName) prog_8_method_2_code (5 : Nat) (Option.some Jvm.ClassFile.FieldType.int)) ∈ gtb := gtb_t 703 (by decide +kernel) (by decide +kernel)
theorem tw_704 : (Jvm.Cond.methodLink "SherdFieldLaw" (98 : Nat) ({ cls := "SherdField", name := "mixed", desc := "(I)I" } : Jvm.MethodName)) ∈ gtb := gtb_t 704 (by decide +kernel) (by decide +kernel)
theorem tw_705 : (Jvm.Cond.instanceMethod ({ cls := "SherdField", name := "mixed", desc := "(I)I" } : Jvm.MethodName)) ∈ gtb := gtb_t 705 (by decide +kernel) (by decide +kernel)
theorem tw_706 : (Jvm.Cond.selects "SherdField" ({ cls := "SherdField", name := "mixed", desc := "(I)I" } : Jvm.MethodName) ({ cls := "SherdField", name := "mixed", desc := "(I)I" } : Jvm.MethodName)) ∈ gtb := gtb_t 706 (by decide +kernel) (by decide +kernel)
theorem tw_707 : (Jvm.Cond.code ({ cls := "SherdField", name := "mixed", desc := "(I)I" } : Jvm.MethodName) prog_1_method_22_code (3 : Nat) (Option.some Jvm.ClassFile.FieldType.int)) ∈ gtb := gtb_t 707 (by decide +kernel) (by decide +kernel)
theorem tw_708 : (Jvm.Cond.methodLink "SherdField" (274 : Nat) ({ cls := "SherdField", name := "countedOf", desc := "(I)I" } : Jvm.MethodName)) ∈ gtb := gtb_t 708 (by decide +kernel) (by decide +kernel)
theorem tw_710 : (Jvm.Cond.instanceMethod ({ cls := "SherdField", name := "countedOf", desc := "(I)I" } : Jvm.MethodName)) ∈ gtb := gtb_t 710 (by decide +kernel) (by decide +kernel)
theorem tw_711 : (Jvm.Cond.code ({ cls := "SherdField", name := "countedOf", desc := "(I)I" } : Jvm.MethodName) prog_1_method_42_code (4 : Nat) (Option.some Jvm.ClassFile.FieldType.int)) ∈ gtb := gtb_t 711 (by decide +kernel) (by decide +kernel)
theorem tw_712 : (Jvm.Cond.methodLink "SherdField" (347 : Nat) ({ cls := "SherdField$Walks", name := "sumOf", desc := "(II)I" } : Jvm.MethodName)) ∈ gtb := gtb_t 712 (by decide +kernel) (by decide +kernel)
theorem tw_713 : (Jvm.Cond.methodLink "SherdField" (277 : Nat) ({ cls := "SherdField$Periods", name := "tell", desc := "(II)V" } : Jvm.MethodName)) ∈ gtb := gtb_t 713 (by decide +kernel) (by decide +kernel)
theorem tw_714 : (Jvm.Cond.instanceMethod ({ cls := "SherdField$Periods", name := "tell", desc := "(II)V" } : Jvm.MethodName)) ∈ gtb := gtb_t 714 (by decide +kernel) (by decide +kernel)
theorem tw_715 : (Jvm.Cond.selects "SherdField$Periods" ({ cls := "SherdField$Periods", name := "tell", desc := "(II)V" } : Jvm.MethodName) ({ cls := "SherdField$Periods", name := "tell", desc := "(II)V" } : Jvm.MethodName)) ∈ gtb := gtb_t 715 (by decide +kernel) (by decide +kernel)
theorem tw_716 : (Jvm.Cond.code ({ cls := "SherdField$Periods", name := "tell", desc := "(II)V" } : Jvm.MethodName) prog_8_method_3_code (3 : Nat) (Option.none : Option Jvm.ClassFile.FieldType)) ∈ gtb := gtb_t 716 (by decide +kernel) (by decide +kernel)
theorem tw_717 : (Jvm.Cond.methodLink "SherdField" (280 : Nat) ({ cls := "SherdField$Periods", name := "bestPart", desc := "(I)I" } : Jvm.MethodName)) ∈ gtb := gtb_t 717 (by decide +kernel) (by decide +kernel)
theorem tw_718 : (Jvm.Cond.instanceMethod ({ cls := "SherdField$Periods", name := "bestPart", desc := "(I)I" } : Jvm.MethodName)) ∈ gtb := gtb_t 718 (by decide +kernel) (by decide +kernel)
theorem tw_719 : (Jvm.Cond.selects "SherdField$Periods" ({ cls := "SherdField$Periods", name := "bestPart", desc := "(I)I" } : Jvm.MethodName) ({ cls := "SherdField$Periods", name := "bestPart", desc := "(I)I" } : Jvm.MethodName)) ∈ gtb := gtb_t 719 (by decide +kernel) (by decide +kernel)
theorem tw_720 : (Jvm.Cond.code ({ cls := "SherdField$Periods", name := "bestPart", desc := "(I)I" } : Jvm.MethodName) prog_8_method_4_code (2 : Nat) (Option.some Jvm.ClassFile.FieldType.int)) ∈ gtb := gtb_t 720 (by decide +kernel) (by decide +kernel)
theorem tw_721 : (Jvm.Cond.methodLink "SherdField$Periods" (21 : Nat) ({ cls := "SherdField$Periods", name := "seekBest", desc := "()V" } : Jvm.MethodName)) ∈ gtb := gtb_t 721 (by decide +kernel) (by decide +kernel)
theorem tw_723 : (Jvm.Cond.instanceMethod ({ cls := "SherdField$Periods", name := "seekBest", desc := "()V" } : Jvm.MethodName)) ∈ gtb := gtb_t 723 (by decide +kernel) (by decide +kernel)
theorem tw_724 : (Jvm.Cond.code ({ cls := "SherdField$Periods", name := "seekBest", desc := "()V" } : Jvm.MethodName) prog_8_method_5_code (7 : Nat) (Option.none : Option Jvm.ClassFile.FieldType)) ∈ gtb := gtb_t 724 (by decide +kernel) (by decide +kernel)
theorem tw_725 : (Jvm.Cond.constantLong "SherdField$Periods" (24 : Nat) (-1 : Int64)) ∈ gtb := gtb_t 725 (by decide +kernel) (by decide +kernel)
theorem tw_726 : (Jvm.Cond.methodLink "SherdField$Periods" (26 : Nat) ({ cls := "SherdField$Periods", name := "misfit", desc := "(III)J" } : Jvm.MethodName)) ∈ gtb := gtb_t 726 (by decide +kernel) (by decide +kernel)
theorem tw_728 : (Jvm.Cond.instanceMethod ({ cls := "SherdField$Periods", name := "misfit", desc := "(III)J" } : Jvm.MethodName)) ∈ gtb := gtb_t 728 (by decide +kernel) (by decide +kernel)
theorem tw_729 : (Jvm.Cond.code ({ cls := "SherdField$Periods", name := "misfit", desc := "(III)J" } : Jvm.MethodName) prog_8_method_6_code (9 : Nat) (Option.some Jvm.ClassFile.FieldType.long)) ∈ gtb := gtb_t 729 (by decide +kernel) (by decide +kernel)
theorem tw_730 : (Jvm.Cond.methodLink "SherdFieldLaw" (102 : Nat) ({ cls := "SherdField", name := "feed", desc := "(III)I" } : Jvm.MethodName)) ∈ gtb := gtb_t 730 (by decide +kernel) (by decide +kernel)
theorem tw_731 : (Jvm.Cond.instanceMethod ({ cls := "SherdField", name := "feed", desc := "(III)I" } : Jvm.MethodName)) ∈ gtb := gtb_t 731 (by decide +kernel) (by decide +kernel)
theorem tw_732 : (Jvm.Cond.selects "SherdField" ({ cls := "SherdField", name := "feed", desc := "(III)I" } : Jvm.MethodName) ({ cls := "SherdField", name := "feed", desc := "(III)I" } : Jvm.MethodName)) ∈ gtb := gtb_t 732 (by decide +kernel) (by decide +kernel)
theorem tw_733 : (Jvm.Cond.code ({ cls := "SherdField", name := "feed", desc := "(III)I" } : Jvm.MethodName) prog_1_method_23_code (4 : Nat) (Option.some Jvm.ClassFile.FieldType.int)) ∈ gtb := gtb_t 733 (by decide +kernel) (by decide +kernel)
theorem tw_734 : (Jvm.Cond.methodLink "SherdField" (283 : Nat) ({ cls := "SherdField$Tape", name := "hasRoom", desc := "()Z" } : Jvm.MethodName)) ∈ gtb := gtb_t 734 (by decide +kernel) (by decide +kernel)
theorem tw_735 : (Jvm.Cond.instanceMethod ({ cls := "SherdField$Tape", name := "hasRoom", desc := "()Z" } : Jvm.MethodName)) ∈ gtb := gtb_t 735 (by decide +kernel) (by decide +kernel)
theorem tw_736 : (Jvm.Cond.selects "SherdField$Tape" ({ cls := "SherdField$Tape", name := "hasRoom", desc := "()Z" } : Jvm.MethodName) ({ cls := "SherdField$Tape", name := "hasRoom", desc := "()Z" } : Jvm.MethodName)) ∈ gtb := gtb_t 736 (by decide +kernel) (by decide +kernel)
theorem tw_737 : (Jvm.Cond.code ({ cls := "SherdField$Tape", name := "hasRoom", desc := "()Z" } : Jvm.MethodName) prog_11_method_3_code (1 : Nat) (Option.some Jvm.ClassFile.FieldType.boolean)) ∈ gtb := gtb_t 737 (by decide +kernel) (by decide +kernel)
theorem tw_738 : (Jvm.Cond.methodLink "SherdField" (286 : Nat) ({ cls := "SherdField$Tape", name := "add", desc := "(I)V" } : Jvm.MethodName)) ∈ gtb := gtb_t 738 (by decide +kernel) (by decide +kernel)
theorem tw_739 : (Jvm.Cond.instanceMethod ({ cls := "SherdField$Tape", name := "add", desc := "(I)V" } : Jvm.MethodName)) ∈ gtb := gtb_t 739 (by decide +kernel) (by decide +kernel)
theorem tw_740 : (Jvm.Cond.selects "SherdField$Tape" ({ cls := "SherdField$Tape", name := "add", desc := "(I)V" } : Jvm.MethodName) ({ cls := "SherdField$Tape", name := "add", desc := "(I)V" } : Jvm.MethodName)) ∈ gtb := gtb_t 740 (by decide +kernel) (by decide +kernel)
theorem tw_741 : (Jvm.Cond.code ({ cls := "SherdField$Tape", name := "add", desc := "(I)V" } : Jvm.MethodName) prog_11_method_4_code (3 : Nat) (Option.none : Option Jvm.ClassFile.FieldType)) ∈ gtb := gtb_t 741 (by decide +kernel) (by decide +kernel)
theorem tw_742 : (Jvm.Cond.methodLink "SherdField" (289 : Nat) ({ cls := "SherdField$Tape", name := "length", desc := "()I" } : Jvm.MethodName)) ∈ gtb := gtb_t 742 (by decide +kernel) (by decide +kernel)
theorem tw_743 : (Jvm.Cond.instanceMethod ({ cls := "SherdField$Tape", name := "length", desc := "()I" } : Jvm.MethodName)) ∈ gtb := gtb_t 743 (by decide +kernel) (by decide +kernel)
theorem tw_744 : (Jvm.Cond.selects "SherdField$Tape" ({ cls := "SherdField$Tape", name := "length", desc := "()I" } : Jvm.MethodName) ({ cls := "SherdField$Tape", name := "length", desc := "()I" } : Jvm.MethodName)) ∈ gtb := gtb_t 744 (by decide +kernel) (by decide +kernel)
theorem tw_745 : (Jvm.Cond.code ({ cls := "SherdField$Tape", name := "length", desc := "()I" } : Jvm.MethodName) prog_11_method_2_code (1 : Nat) (Option.some Jvm.ClassFile.FieldType.int)) ∈ gtb := gtb_t 745 (by decide +kernel) (by decide +kernel)
theorem tw_746 : (Jvm.Cond.methodLink "SherdFieldLaw" (106 : Nat) ({ cls := "SherdField", name := "trim", desc := "(I)I" } : Jvm.MethodName)) ∈ gtb := gtb_t 746 (by decide +kernel) (by decide +kernel)
theorem tw_747 : (Jvm.Cond.instanceMethod ({ cls := "SherdField", name := "trim", desc := "(I)I" } : Jvm.MethodName)) ∈ gtb := gtb_t 747 (by decide +kernel) (by decide +kernel)
theorem tw_748 : (Jvm.Cond.selects "SherdField" ({ cls := "SherdField", name := "trim", desc := "(I)I" } : Jvm.MethodName) ({ cls := "SherdField", name := "trim", desc := "(I)I" } : Jvm.MethodName)) ∈ gtb := gtb_t 748 (by decide +kernel) (by decide +kernel)
theorem tw_749 : (Jvm.Cond.code ({ cls := "SherdField", name := "trim", desc := "(I)I" } : Jvm.MethodName) prog_1_method_24_code (2 : Nat) (Option.some Jvm.ClassFile.FieldType.int)) ∈ gtb := gtb_t 749 (by decide +kernel) (by decide +kernel)
theorem tw_750 : (Jvm.Cond.methodLink "SherdField" (292 : Nat) ({ cls := "SherdField$Tape", name := "keep", desc := "(I)V" } : Jvm.MethodName)) ∈ gtb := gtb_t 750 (by decide +kernel) (by decide +kernel)
theorem tw_751 : (Jvm.Cond.instanceMethod ({ cls := "SherdField$Tape", name := "keep", desc := "(I)V" } : Jvm.MethodName)) ∈ gtb := gtb_t 751 (by decide +kernel) (by decide +kernel)
theorem tw_752 : (Jvm.Cond.selects "SherdField$Tape" ({ cls := "SherdField$Tape", name := "keep", desc := "(I)V" } : Jvm.MethodName) ({ cls := "SherdField$Tape", name := "keep", desc := "(I)V" } : Jvm.MethodName)) ∈ gtb := gtb_t 752 (by decide +kernel) (by decide +kernel)
theorem tw_753 : (Jvm.Cond.code ({ cls := "SherdField$Tape", name := "keep", desc := "(I)V" } : Jvm.MethodName) prog_11_method_5_code (2 : Nat) (Option.none : Option Jvm.ClassFile.FieldType)) ∈ gtb := gtb_t 753 (by decide +kernel) (by decide +kernel)
theorem tw_754 : (Jvm.Cond.methodLink "SherdFieldLaw" (110 : Nat) ({ cls := "SherdField", name := "leave", desc := "()I" } : Jvm.MethodName)) ∈ gtb := gtb_t 754 (by decide +kernel) (by decide +kernel)
theorem tw_755 : (Jvm.Cond.instanceMethod ({ cls := "SherdField", name := "leave", desc := "()I" } : Jvm.MethodName)) ∈ gtb := gtb_t 755 (by decide +kernel) (by decide +kernel)
theorem tw_756 : (Jvm.Cond.selects "SherdField" ({ cls := "SherdField", name := "leave", desc := "()I" } : Jvm.MethodName) ({ cls := "SherdField", name := "leave", desc := "()I" } : Jvm.MethodName)) ∈ gtb := gtb_t 756 (by decide +kernel) (by decide +kernel)
theorem tw_757 : (Jvm.Cond.code ({ cls := "SherdField", name := "leave", desc := "()I" } : Jvm.MethodName) prog_1_method_25_code (2 : Nat) (Option.some Jvm.ClassFile.FieldType.int)) ∈ gtb := gtb_t 757 (by decide +kernel) (by decide +kernel)
theorem tw_758 : (Jvm.Cond.methodLink "SherdField" (295 : Nat) ({ cls := "SherdField$LeaveReader", name := "read", desc := "()I" } : Jvm.MethodName)) ∈ gtb := gtb_t 758 (by decide +kernel) (by decide +kernel)
theorem tw_759 : (Jvm.Cond.instanceMethod ({ cls := "SherdField$LeaveReader", name := "read", desc := "()I" } : Jvm.MethodName)) ∈ gtb := gtb_t 759 (by decide +kernel) (by decide +kernel)
theorem tw_760 : (Jvm.Cond.selects "SherdField$LeaveReader" ({ cls := "SherdField$LeaveReader", name := "read", desc := "()I" } : Jvm.MethodName) ({ cls := "SherdField$LeaveReader", name := "read", desc := "()I" } : Jvm.MethodName)) ∈ gtb := gtb_t 760 (by decide +kernel) (by decide +kernel)
theorem tw_761 : (Jvm.Cond.code ({ cls := "SherdField$LeaveReader", name := "read", desc := "()I" } : Jvm.MethodName) prog_6_method_2_code (1 : Nat) (Option.some Jvm.ClassFile.FieldType.int)) ∈ gtb := gtb_t 761 (by decide +kernel) (by decide +kernel)
theorem tw_762 : (Jvm.Cond.methodLink "SherdField$LeaveReader" (22 : Nat) ({ cls := "SherdField$LeaveReader", name := "goOn", desc := "()V" } : Jvm.MethodName)) ∈ gtb := gtb_t 762 (by decide +kernel) (by decide +kernel)
theorem tw_764 : (Jvm.Cond.instanceMethod ({ cls := "SherdField$LeaveReader", name := "goOn", desc := "()V" } : Jvm.MethodName)) ∈ gtb := gtb_t 764 (by decide +kernel) (by decide +kernel)
theorem tw_765 : (Jvm.Cond.code ({ cls := "SherdField$LeaveReader", name := "goOn", desc := "()V" } : Jvm.MethodName) prog_6_method_15_code (1 : Nat) (Option.none : Option Jvm.ClassFile.FieldType)) ∈ gtb := gtb_t 765 (by decide +kernel) (by decide +kernel)
theorem tw_766 : (Jvm.Cond.methodLink "SherdField$LeaveReader" (37 : Nat) ({ cls := "SherdField$Tape", name := "length", desc := "()I" } : Jvm.MethodName)) ∈ gtb := gtb_t 766 (by decide +kernel) (by decide +kernel)
theorem tw_767 : (Jvm.Cond.methodLink "SherdField$LeaveReader" (92 : Nat) ({ cls := "SherdField$Tape", name := "at", desc := "(I)I" } : Jvm.MethodName)) ∈ gtb := gtb_t 767 (by decide +kernel) (by decide +kernel)
theorem tw_768 : (Jvm.Cond.instanceMethod ({ cls := "SherdField$Tape", name := "at", desc := "(I)I" } : Jvm.MethodName)) ∈ gtb := gtb_t 768 (by decide +kernel) (by decide +kernel)
theorem tw_769 : (Jvm.Cond.selects "SherdField$Tape" ({ cls := "SherdField$Tape", name := "at", desc := "(I)I" } : Jvm.MethodName) ({ cls := "SherdField$Tape", name := "at", desc := "(I)I" } : Jvm.MethodName)) ∈ gtb := gtb_t 769 (by decide +kernel) (by decide +kernel)
theorem tw_770 : (Jvm.Cond.code ({ cls := "SherdField$Tape", name := "at", desc := "(I)I" } : Jvm.MethodName) prog_11_method_6_code (2 : Nat) (Option.some Jvm.ClassFile.FieldType.int)) ∈ gtb := gtb_t 770 (by decide +kernel) (by decide +kernel)
theorem tw_771 : (Jvm.Cond.methodLink "SherdField$LeaveReader" (25 : Nat) ({ cls := "SherdField$LeaveReader", name := "readRows", desc := "()V" } : Jvm.MethodName)) ∈ gtb := gtb_t 771 (by decide +kernel) (by decide +kernel)
theorem tw_773 : (Jvm.Cond.instanceMethod ({ cls := "SherdField$LeaveReader", name := "readRows", desc := "()V" } : Jvm.MethodName)) ∈ gtb := gtb_t 773 (by decide +kernel) (by decide +kernel)
theorem tw_774 : (Jvm.Cond.code ({ cls := "SherdField$LeaveReader", name := "readRows", desc := "()V" } : Jvm.MethodName) prog_6_method_8_code (1 : Nat) (Option.none : Option Jvm.ClassFile.FieldType)) ∈ gtb := gtb_t 774 (by decide +kernel) (by decide +kernel)
theorem tw_776 : (Jvm.Cond.methodLink "SherdField$LeaveReader" (63 : Nat) ({ cls := "SherdField$LeaveReader", name := "expect", desc := "(Ljava/lang/String;)V" } : Jvm.MethodName)) ∈ gtb := gtb_t 776 (by decide +kernel) (by decide +kernel)
theorem tw_778 : (Jvm.Cond.instanceMethod ({ cls := "SherdField$LeaveReader", name := "expect", desc := "(Ljava/lang/String;)V" } : Jvm.MethodName)) ∈ gtb := gtb_t 778 (by decide +kernel) (by decide +kernel)
theorem tw_779 : (Jvm.Cond.code ({ cls := "SherdField$LeaveReader", name := "expect", desc := "(Ljava/lang/String;)V" } : Jvm.MethodName) prog_6_method_13_code (2 : Nat) (Option.none : Option Jvm.ClassFile.FieldType)) ∈ gtb := gtb_t 779 (by decide +kernel) (by decide +kernel)
theorem tw_780 : (Jvm.Cond.methodLink "SherdField$LeaveReader" (73 : Nat) ({ cls := "SherdField$LeaveReader", name := "isSound", desc := "()Z" } : Jvm.MethodName)) ∈ gtb := gtb_t 780 (by decide +kernel) (by decide +kernel)
theorem tw_782 : (Jvm.Cond.instanceMethod ({ cls := "SherdField$LeaveReader", name := "isSound", desc := "()Z" } : Jvm.MethodName)) ∈ gtb := gtb_t 782 (by decide +kernel) (by decide +kernel)
theorem tw_783 : (Jvm.Cond.code ({ cls := "SherdField$LeaveReader", name := "isSound", desc := "()Z" } : Jvm.MethodName) prog_6_method_11_code (1 : Nat) (Option.some Jvm.ClassFile.FieldType.boolean)) ∈ gtb := gtb_t 783 (by decide +kernel) (by decide +kernel)
theorem tw_784 : (Jvm.Cond.methodLink "SherdField$LeaveReader" (79 : Nat) ({ cls := "SherdField$LeaveReader", name := "isAt", desc := "(Ljava/lang/String;)Z" } : Jvm.MethodName)) ∈ gtb := gtb_t 784 (by decide +kernel) (by decide +kernel)
theorem tw_786 : (Jvm.Cond.instanceMethod ({ cls := "SherdField$LeaveReader", name := "isAt", desc := "(Ljava/lang/String;)Z" } : Jvm.MethodName)) ∈ gtb := gtb_t 786 (by decide +kernel) (by decide +kernel)
theorem tw_787 : (Jvm.Cond.code ({ cls := "SherdField$LeaveReader", name := "isAt", desc := "(Ljava/lang/String;)Z" } : Jvm.MethodName) prog_6_method_16_code (3 : Nat) (Option.some Jvm.ClassFile.FieldType.boolean)) ∈ gtb := gtb_t 787 (by decide +kernel) (by decide +kernel)
theorem tw_788 : (Jvm.Cond.methodLink "SherdField$LeaveReader" (96 : Nat) ({ cls := "java/lang/String", name := "length", desc := "()I" } : Jvm.MethodName)) ∈ gtb := gtb_t 788 (by decide +kernel) (by decide +kernel)
theorem tw_789 : (Jvm.Cond.instanceMethod ({ cls := "java/lang/String", name := "length", desc := "()I" } : Jvm.MethodName)) ∈ gtb := gtb_t 789 (by decide +kernel) (by decide +kernel)
theorem tw_790 : (Jvm.Cond.selects "java/lang/String" ({ cls := "java/lang/String", name := "length", desc := "()I" } : Jvm.MethodName) ({ cls := "java/lang/String", name := "length", desc := "()I" } : Jvm.MethodName)) ∈ gtb := gtb_t 790 (by decide +kernel) (by decide +kernel)
theorem tw_791 : (Jvm.Cond.code ({ cls := "java/lang/String", name := "length", desc := "()I" } : Jvm.MethodName) prog_17_method_54_code (1 : Nat) (Option.some Jvm.ClassFile.FieldType.int)) ∈ gtb := gtb_t 791 (by decide +kernel) (by decide +kernel)
theorem tw_792 : (Jvm.Cond.methodLink "java/lang/String" (335 : Nat) ({ cls := "java/lang/String", name := "coder", desc := "()B" } : Jvm.MethodName)) ∈ gtb := gtb_t 792 (by decide +kernel) (by decide +kernel)
theorem tw_793 : (Jvm.Cond.instanceMethod ({ cls := "java/lang/String", name := "coder", desc := "()B" } : Jvm.MethodName)) ∈ gtb := gtb_t 793 (by decide +kernel) (by decide +kernel)
theorem tw_794 : (Jvm.Cond.selects "java/lang/String" ({ cls := "java/lang/String", name := "coder", desc := "()B" } : Jvm.MethodName) ({ cls := "java/lang/String", name := "coder", desc := "()B" } : Jvm.MethodName)) ∈ gtb := gtb_t 794 (by decide +kernel) (by decide +kernel)
theorem tw_795 : (Jvm.Cond.code ({ cls := "java/lang/String", name := "coder", desc := "()B" } : Jvm.MethodName) prog_17_method_152_code (1 : Nat) (Option.some Jvm.ClassFile.FieldType.byte)) ∈ gtb := gtb_t 795 (by decide +kernel) (by decide +kernel)
theorem tw_796 : (Jvm.Cond.fieldLink "java/lang/String" (38 : Nat) "java/lang/String" "COMPACT_STRINGS" "Z") ∈ gtb := gtb_t 796 (by decide +kernel) (by decide +kernel)
theorem tw_798 : (Jvm.Cond.methodLink "SherdField$LeaveReader" (99 : Nat) ({ cls := "java/lang/String", name := "charAt", desc := "(I)C" } : Jvm.MethodName)) ∈ gtb := gtb_t 798 (by decide +kernel) (by decide +kernel)
theorem tw_799 : (Jvm.Cond.instanceMethod ({ cls := "java/lang/String", name := "charAt", desc := "(I)C" } : Jvm.MethodName)) ∈ gtb := gtb_t 799 (by decide +kernel) (by decide +kernel)
theorem tw_800 : (Jvm.Cond.selects "java/lang/String" ({ cls := "java/lang/String", name := "charAt", desc := "(I)C" } : Jvm.MethodName) ({ cls := "java/lang/String", name := "charAt", desc := "(I)C" } : Jvm.MethodName)) ∈ gtb := gtb_t 800 (by decide +kernel) (by decide +kernel)
theorem tw_801 : (Jvm.Cond.code ({ cls := "java/lang/String", name := "charAt", desc := "(I)C" } : Jvm.MethodName) prog_17_method_56_code (2 : Nat) (Option.some Jvm.ClassFile.FieldType.char)) ∈ gtb := gtb_t 801 (by decide +kernel) (by decide +kernel)
theorem tw_802 : (Jvm.Cond.methodLink "java/lang/String" (492 : Nat) ({ cls := "java/lang/String", name := "isLatin1", desc := "()Z" } : Jvm.MethodName)) ∈ gtb := gtb_t 802 (by decide +kernel) (by decide +kernel)
theorem tw_803 : (Jvm.Cond.instanceMethod ({ cls := "java/lang/String", name := "isLatin1", desc := "()Z" } : Jvm.MethodName)) ∈ gtb := gtb_t 803 (by decide +kernel) (by decide +kernel)
theorem tw_804 : (Jvm.Cond.selects "java/lang/String" ({ cls := "java/lang/String", name := "isLatin1", desc := "()Z" } : Jvm.MethodName) ({ cls := "java/lang/String", name := "isLatin1", desc := "()Z" } : Jvm.MethodName)) ∈ gtb := gtb_t 804 (by decide +kernel) (by decide +kernel)
theorem tw_805 : (Jvm.Cond.code ({ cls := "java/lang/String", name := "isLatin1", desc := "()Z" } : Jvm.MethodName) prog_17_method_154_code (1 : Nat) (Option.some Jvm.ClassFile.FieldType.boolean)) ∈ gtb := gtb_t 805 (by decide +kernel) (by decide +kernel)
theorem tw_806 : (Jvm.Cond.methodLink "java/lang/String" (495 : Nat) ({ cls := "java/lang/StringLatin1", name := "charAt", desc := "([BI)C" } : Jvm.MethodName)) ∈ gtb := gtb_t 806 (by decide +kernel) (by decide +kernel)
theorem tw_807 : (Jvm.Cond.static ({ cls := "java/lang/StringLatin1", name := "charAt", desc := "([BI)C" } : Jvm.MethodName)) ∈ gtb := gtb_t 807 (by decide +kernel) (by decide +kernel)
theorem tw_808 : (Jvm.Cond.code ({ cls := "java/lang/StringLatin1", name := "charAt", desc := "([BI)C" } : Jvm.MethodName) prog_18_method_2_code (2 : Nat) (Option.some Jvm.ClassFile.FieldType.char)) ∈ gtb := gtb_t 808 (by decide +kernel) (by decide +kernel)
theorem tw_809 : (Jvm.Cond.methodLink "java/lang/StringLatin1" (9 : Nat) ({ cls := "java/lang/String", name := "checkIndex", desc := "(II)V" } : Jvm.MethodName)) ∈ gtb := gtb_t 809 (by decide +kernel) (by decide +kernel)
theorem tw_810 : (Jvm.Cond.static ({ cls := "java/lang/String", name := "checkIndex", desc := "(II)V" } : Jvm.MethodName)) ∈ gtb := gtb_t 810 (by decide +kernel) (by decide +kernel)
theorem tw_811 : (Jvm.Cond.code ({ cls := "java/lang/String", name := "checkIndex", desc := "(II)V" } : Jvm.MethodName) prog_17_method_155_code (2 : Nat) (Option.none : Option Jvm.ClassFile.FieldType)) ∈ gtb := gtb_t 811 (by decide +kernel) (by decide +kernel)
theorem tw_812 : (Jvm.Cond.fieldLink "java/lang/String" (1053 : Nat) "jdk/internal/util/Preconditions" "SIOOBE_FORMATTER" "Ljava/util/function/BiFunction;") ∈ gtb := gtb_t 812 (by decide +kernel) (by decide +kernel)
theorem tw_814 : (Jvm.Cond.methodLink "java/lang/String" (1059 : Nat) ({ cls := "jdk/internal/util/Preconditions", name := "checkIndex", desc := "(IILjava/util/function/BiFunction;)I" } : Jvm.MethodName)) ∈ gtb := gtb_t 814 (by decide +kernel) (by decide +kernel)
theorem tw_815 : (Jvm.Cond.static ({ cls := "jdk/internal/util/Preconditions", name := "checkIndex", desc := "(IILjava/util/function/BiFunction;)I" } : Jvm.MethodName)) ∈ gtb := gtb_t 815 (by decide +kernel) (by decide +kernel)
theorem tw_816 : (Jvm.Cond.code ({ cls := "jdk/internal/util/Preconditions", name := "checkIndex", desc := "(IILjava/util/function/BiFunction;)I" } : Jvm.MethodName) prog_22_method_11_code (3 : Nat) (Option.some Jvm.ClassFile.FieldType.int)) ∈ gtb := gtb_t 816 (by decide +kernel) (by decide +kernel)
theorem tw_817 : (Jvm.Cond.methodLink "java/lang/String" (498 : Nat) ({ cls := "java/lang/StringUTF16", name := "charAt", desc := "([BI)C" } : Jvm.MethodName)) ∈ gtb := gtb_t 817 (by decide +kernel) (by decide +kernel)
theorem tw_818 : (Jvm.Cond.static ({ cls := "java/lang/StringUTF16", name := "charAt", desc := "([BI)C" } : Jvm.MethodName)) ∈ gtb := gtb_t 818 (by decide +kernel) (by decide +kernel)
theorem tw_819 : (Jvm.Cond.code ({ cls := "java/lang/StringUTF16", name := "charAt", desc := "([BI)C" } : Jvm.MethodName) prog_19_method_83_code (2 : Nat) (Option.some Jvm.ClassFile.FieldType.char)) ∈ gtb := gtb_t 819 (by decide +kernel) (by decide +kernel)
theorem tw_820 : (Jvm.Cond.methodLink "java/lang/StringUTF16" (67 : Nat) ({ cls := "java/lang/StringUTF16", name := "checkIndex", desc := "(I[B)V" } : Jvm.MethodName)) ∈ gtb := gtb_t 820 (by decide +kernel) (by decide +kernel)
theorem tw_821 : (Jvm.Cond.static ({ cls := "java/lang/StringUTF16", name := "checkIndex", desc := "(I[B)V" } : Jvm.MethodName)) ∈ gtb := gtb_t 821 (by decide +kernel) (by decide +kernel)
theorem tw_822 : (Jvm.Cond.code ({ cls := "java/lang/StringUTF16", name := "checkIndex", desc := "(I[B)V" } : Jvm.MethodName) prog_19_method_91_code (2 : Nat) (Option.none : Option Jvm.ClassFile.FieldType)) ∈ gtb := gtb_t 822 (by decide +kernel) (by decide +kernel)
theorem tw_823 : (Jvm.Cond.methodLink "java/lang/StringUTF16" (48 : Nat) ({ cls := "java/lang/StringUTF16", name := "length", desc := "([B)I" } : Jvm.MethodName)) ∈ gtb := gtb_t 823 (by decide +kernel) (by decide +kernel)
theorem tw_824 : (Jvm.Cond.static ({ cls := "java/lang/StringUTF16", name := "length", desc := "([B)I" } : Jvm.MethodName)) ∈ gtb := gtb_t 824 (by decide +kernel) (by decide +kernel)
theorem tw_825 : (Jvm.Cond.code ({ cls := "java/lang/StringUTF16", name := "length", desc := "([B)I" } : Jvm.MethodName) prog_19_method_6_code (1 : Nat) (Option.some Jvm.ClassFile.FieldType.int)) ∈ gtb := gtb_t 825 (by decide +kernel) (by decide +kernel)
theorem tw_826 : (Jvm.Cond.methodLink "java/lang/StringUTF16" (414 : Nat) ({ cls := "java/lang/String", name := "checkIndex", desc := "(II)V" } : Jvm.MethodName)) ∈ gtb := gtb_t 826 (by decide +kernel) (by decide +kernel)
theorem tw_827 : (Jvm.Cond.methodLink "java/lang/StringUTF16" (71 : Nat) ({ cls := "java/lang/StringUTF16", name := "getChar", desc := "([BI)C" } : Jvm.MethodName)) ∈ gtb := gtb_t 827 (by decide +kernel) (by decide +kernel)
theorem tw_828 : (Jvm.Cond.static ({ cls := "java/lang/StringUTF16", name := "getChar", desc := "([BI)C" } : Jvm.MethodName)) ∈ gtb := gtb_t 828 (by decide +kernel) (by decide +kernel)
theorem tw_829 : (Jvm.Cond.code ({ cls := "java/lang/StringUTF16", name := "getChar", desc := "([BI)C" } : Jvm.MethodName) prog_19_method_5_code (2 : Nat) (Option.some Jvm.ClassFile.FieldType.char)) ∈ gtb := gtb_t 829 (by decide +kernel) (by decide +kernel)
theorem tw_830 : (Jvm.Cond.fieldLink "java/lang/StringUTF16" (44 : Nat) "java/lang/StringUTF16" "$assertionsDisabled" "Z") ∈ gtb := gtb_t 830 (by decide +kernel) (by decide +kernel)
theorem tw_832 : (Jvm.Cond.fieldLink "java/lang/StringUTF16" (59 : Nat) "java/lang/StringUTF16" "HI_BYTE_SHIFT" "I") ∈ gtb := gtb_t 832 (by decide +kernel) (by decide +kernel)
theorem tw_834 : (Jvm.Cond.fieldLink "java/lang/StringUTF16" (63 : Nat) "java/lang/StringUTF16" "LO_BYTE_SHIFT" "I") ∈ gtb := gtb_t 834 (by decide +kernel) (by decide +kernel)
theorem tw_836 : (Jvm.Cond.methodLink "SherdField$LeaveReader" (43 : Nat) ({ cls := "SherdField$LeaveReader", name := "tellFault", desc := "()V" } : Jvm.MethodName)) ∈ gtb := gtb_t 836 (by decide +kernel) (by decide +kernel)
theorem tw_838 : (Jvm.Cond.instanceMethod ({ cls := "SherdField$LeaveReader", name := "tellFault", desc := "()V" } : Jvm.MethodName)) ∈ gtb := gtb_t 838 (by decide +kernel) (by decide +kernel)
theorem tw_839 : (Jvm.Cond.code ({ cls := "SherdField$LeaveReader", name := "tellFault", desc := "()V" } : Jvm.MethodName) prog_6_method_12_code (1 : Nat) (Option.none : Option Jvm.ClassFile.FieldType)) ∈ gtb := gtb_t 839 (by decide +kernel) (by decide +kernel)
theorem tw_840 : (Jvm.Cond.methodLink "SherdField$LeaveReader" (67 : Nat) ({ cls := "SherdField$LeaveReader", name := "expectNumber", desc := "(II)I" } : Jvm.MethodName)) ∈ gtb := gtb_t 840 (by decide +kernel) (by decide +kernel)
theorem tw_842 : (Jvm.Cond.instanceMethod ({ cls := "SherdField$LeaveReader", name := "expectNumber", desc := "(II)I" } : Jvm.MethodName)) ∈ gtb := gtb_t 842 (by decide +kernel) (by decide +kernel)
theorem tw_843 : (Jvm.Cond.code ({ cls := "SherdField$LeaveReader", name := "expectNumber", desc := "(II)I" } : Jvm.MethodName) prog_6_method_14_code (4 : Nat) (Option.some Jvm.ClassFile.FieldType.int)) ∈ gtb := gtb_t 843 (by decide +kernel) (by decide +kernel)
theorem tw_844 : (Jvm.Cond.methodLink "SherdField$LeaveReader" (89 : Nat) ({ cls := "SherdField$LeaveReader", name := "valueAtHand", desc := "()I" } : Jvm.MethodName)) ∈ gtb := gtb_t 844 (by decide +kernel) (by decide +kernel)
theorem tw_846 : (Jvm.Cond.instanceMethod ({ cls := "SherdField$LeaveReader", name := "valueAtHand", desc := "()I" } : Jvm.MethodName)) ∈ gtb := gtb_t 846 (by decide +kernel) (by decide +kernel)
theorem tw_847 : (Jvm.Cond.code ({ cls := "SherdField$LeaveReader", name := "valueAtHand", desc := "()I" } : Jvm.MethodName) prog_6_method_17_code (4 : Nat) (Option.some Jvm.ClassFile.FieldType.int)) ∈ gtb := gtb_t 847 (by decide +kernel) (by decide +kernel)
theorem tw_848 : (Jvm.Cond.constant "SherdField$LeaveReader" (103 : Nat) (100000 : Int32)) ∈ gtb := gtb_t 848 (by decide +kernel) (by decide +kernel)
theorem tw_849 : (Jvm.Cond.methodLink "SherdField$LeaveReader" (104 : Nat) ({ cls := "java/lang/Math", name := "min", desc := "(II)I" } : Jvm.MethodName)) ∈ gtb := gtb_t 849 (by decide +kernel) (by decide +kernel)
theorem tw_851 : (Jvm.Cond.methodLink "SherdField$LeaveReader" (28 : Nat) ({ cls := "SherdField$LeaveReader", name := "readDays", desc := "()V" } : Jvm.MethodName)) ∈ gtb := gtb_t 851 (by decide +kernel) (by decide +kernel)
theorem tw_853 : (Jvm.Cond.instanceMethod ({ cls := "SherdField$LeaveReader", name := "readDays", desc := "()V" } : Jvm.MethodName)) ∈ gtb := gtb_t 853 (by decide +kernel) (by decide +kernel)
theorem tw_854 : (Jvm.Cond.code ({ cls := "SherdField$LeaveReader", name := "readDays", desc := "()V" } : Jvm.MethodName) prog_6_method_9_code (1 : Nat) (Option.none : Option Jvm.ClassFile.FieldType)) ∈ gtb := gtb_t 854 (by decide +kernel) (by decide +kernel)
theorem tw_856 : (Jvm.Cond.methodLink "SherdField$LeaveReader" (31 : Nat) ({ cls := "SherdField$LeaveReader", name := "readBarred", desc := "()V" } : Jvm.MethodName)) ∈ gtb := gtb_t 856 (by decide +kernel) (by decide +kernel)
theorem tw_858 : (Jvm.Cond.instanceMethod ({ cls := "SherdField$LeaveReader", name := "readBarred", desc := "()V" } : Jvm.MethodName)) ∈ gtb := gtb_t 858 (by decide +kernel) (by decide +kernel)
theorem tw_859 : (Jvm.Cond.code ({ cls := "SherdField$LeaveReader", name := "readBarred", desc := "()V" } : Jvm.MethodName) prog_6_method_10_code (3 : Nat) (Option.none : Option Jvm.ClassFile.FieldType)) ∈ gtb := gtb_t 859 (by decide +kernel) (by decide +kernel)
theorem tw_863 : (Jvm.Cond.methodLink "SherdField" (298 : Nat) ({ cls := "SherdField$Leaves", name := "isFull", desc := "()Z" } : Jvm.MethodName)) ∈ gtb := gtb_t 863 (by decide +kernel) (by decide +kernel)
theorem tw_864 : (Jvm.Cond.instanceMethod ({ cls := "SherdField$Leaves", name := "isFull", desc := "()Z" } : Jvm.MethodName)) ∈ gtb := gtb_t 864 (by decide +kernel) (by decide +kernel)
theorem tw_865 : (Jvm.Cond.selects "SherdField$Leaves" ({ cls := "SherdField$Leaves", name := "isFull", desc := "()Z" } : Jvm.MethodName) ({ cls := "SherdField$Leaves", name := "isFull", desc := "()Z" } : Jvm.MethodName)) ∈ gtb := gtb_t 865 (by decide +kernel) (by decide +kernel)
theorem tw_866 : (Jvm.Cond.code ({ cls := "SherdField$Leaves", name := "isFull", desc := "()Z" } : Jvm.MethodName) prog_7_method_3_code (1 : Nat) (Option.some Jvm.ClassFile.FieldType.boolean)) ∈ gtb := gtb_t 866 (by decide +kernel) (by decide +kernel)
theorem tw_867 : (Jvm.Cond.methodLink "SherdField" (299 : Nat) ({ cls := "SherdField$Leaves", name := "add", desc := "(LSherdField$LeaveReader;)I" } : Jvm.MethodName)) ∈ gtb := gtb_t 867 (by decide +kernel) (by decide +kernel)
theorem tw_868 : (Jvm.Cond.instanceMethod ({ cls := "SherdField$Leaves", name := "add", desc := "(LSherdField$LeaveReader;)I" } : Jvm.MethodName)) ∈ gtb := gtb_t 868 (by decide +kernel) (by decide +kernel)
theorem tw_869 : (Jvm.Cond.selects "SherdField$Leaves" ({ cls := "SherdField$Leaves", name := "add", desc := "(LSherdField$LeaveReader;)I" } : Jvm.MethodName) ({ cls := "SherdField$Leaves", name := "add", desc := "(LSherdField$LeaveReader;)I" } : Jvm.MethodName)) ∈ gtb := gtb_t 869 (by decide +kernel) (by decide +kernel)
theorem tw_870 : (Jvm.Cond.code ({ cls := "SherdField$Leaves", name := "add", desc := "(LSherdField$LeaveReader;)I" } : Jvm.MethodName) prog_7_method_5_code (2 : Nat) (Option.some Jvm.ClassFile.FieldType.int)) ∈ gtb := gtb_t 870 (by decide +kernel) (by decide +kernel)
theorem tw_871 : (Jvm.Cond.methodLink "SherdField$Leaves" (35 : Nat) ({ cls := "SherdField$LeaveReader", name := "firstRow", desc := "()I" } : Jvm.MethodName)) ∈ gtb := gtb_t 871 (by decide +kernel) (by decide +kernel)
theorem tw_872 : (Jvm.Cond.instanceMethod ({ cls := "SherdField$LeaveReader", name := "firstRow", desc := "()I" } : Jvm.MethodName)) ∈ gtb := gtb_t 872 (by decide +kernel) (by decide +kernel)
theorem tw_873 : (Jvm.Cond.selects "SherdField$LeaveReader" ({ cls := "SherdField$LeaveReader", name := "firstRow", desc := "()I" } : Jvm.MethodName) ({ cls := "SherdField$LeaveReader", name := "firstRow", desc := "()I" } : Jvm.MethodName)) ∈ gtb := gtb_t 873 (by decide +kernel) (by decide +kernel)
theorem tw_874 : (Jvm.Cond.code ({ cls := "SherdField$LeaveReader", name := "firstRow", desc := "()I" } : Jvm.MethodName) prog_6_method_3_code (1 : Nat) (Option.some Jvm.ClassFile.FieldType.int)) ∈ gtb := gtb_t 874 (by decide +kernel) (by decide +kernel)
theorem tw_875 : (Jvm.Cond.methodLink "SherdField$Leaves" (41 : Nat) ({ cls := "SherdField$LeaveReader", name := "lastRow", desc := "()I" } : Jvm.MethodName)) ∈ gtb := gtb_t 875 (by decide +kernel) (by decide +kernel)
theorem tw_876 : (Jvm.Cond.instanceMethod ({ cls := "SherdField$LeaveReader", name := "lastRow", desc := "()I" } : Jvm.MethodName)) ∈ gtb := gtb_t 876 (by decide +kernel) (by decide +kernel)
theorem tw_877 : (Jvm.Cond.selects "SherdField$LeaveReader" ({ cls := "SherdField$LeaveReader", name := "lastRow", desc := "()I" } : Jvm.MethodName) ({ cls := "SherdField$LeaveReader", name := "lastRow", desc := "()I" } : Jvm.MethodName)) ∈ gtb := gtb_t 877 (by decide +kernel) (by decide +kernel)
theorem tw_878 : (Jvm.Cond.code ({ cls := "SherdField$LeaveReader", name := "lastRow", desc := "()I" } : Jvm.MethodName) prog_6_method_4_code (1 : Nat) (Option.some Jvm.ClassFile.FieldType.int)) ∈ gtb := gtb_t 878 (by decide +kernel) (by decide +kernel)
theorem tw_879 : (Jvm.Cond.methodLink "SherdField$Leaves" (44 : Nat) ({ cls := "SherdField$LeaveReader", name := "firstDay", desc := "()I" } : Jvm.MethodName)) ∈ gtb := gtb_t 879 (by decide +kernel) (by decide +kernel)
theorem tw_880 : (Jvm.Cond.instanceMethod ({ cls := "SherdField$LeaveReader", name := "firstDay", desc := "()I" } : Jvm.MethodName)) ∈ gtb := gtb_t 880 (by decide +kernel) (by decide +kernel)
theorem tw_881 : (Jvm.Cond.selects "SherdField$LeaveReader" ({ cls := "SherdField$LeaveReader", name := "firstDay", desc := "()I" } : Jvm.MethodName) ({ cls := "SherdField$LeaveReader", name := "firstDay", desc := "()I" } : Jvm.MethodName)) ∈ gtb := gtb_t 881 (by decide +kernel) (by decide +kernel)
theorem tw_882 : (Jvm.Cond.code ({ cls := "SherdField$LeaveReader", name := "firstDay", desc := "()I" } : Jvm.MethodName) prog_6_method_5_code (1 : Nat) (Option.some Jvm.ClassFile.FieldType.int)) ∈ gtb := gtb_t 882 (by decide +kernel) (by decide +kernel)
theorem tw_883 : (Jvm.Cond.methodLink "SherdField$Leaves" (47 : Nat) ({ cls := "SherdField$LeaveReader", name := "lastDay", desc := "()I" } : Jvm.MethodName)) ∈ gtb := gtb_t 883 (by decide +kernel) (by decide +kernel)
theorem tw_884 : (Jvm.Cond.instanceMethod ({ cls := "SherdField$LeaveReader", name := "lastDay", desc := "()I" } : Jvm.MethodName)) ∈ gtb := gtb_t 884 (by decide +kernel) (by decide +kernel)
theorem tw_885 : (Jvm.Cond.selects "SherdField$LeaveReader" ({ cls := "SherdField$LeaveReader", name := "lastDay", desc := "()I" } : Jvm.MethodName) ({ cls := "SherdField$LeaveReader", name := "lastDay", desc := "()I" } : Jvm.MethodName)) ∈ gtb := gtb_t 885 (by decide +kernel) (by decide +kernel)
theorem tw_886 : (Jvm.Cond.code ({ cls := "SherdField$LeaveReader", name := "lastDay", desc := "()I" } : Jvm.MethodName) prog_6_method_6_code (1 : Nat) (Option.some Jvm.ClassFile.FieldType.int)) ∈ gtb := gtb_t 886 (by decide +kernel) (by decide +kernel)
theorem tw_887 : (Jvm.Cond.methodLink "SherdField$Leaves" (50 : Nat) ({ cls := "SherdField$LeaveReader", name := "barred", desc := "()I" } : Jvm.MethodName)) ∈ gtb := gtb_t 887 (by decide +kernel) (by decide +kernel)
theorem tw_888 : (Jvm.Cond.instanceMethod ({ cls := "SherdField$LeaveReader", name := "barred", desc := "()I" } : Jvm.MethodName)) ∈ gtb := gtb_t 888 (by decide +kernel) (by decide +kernel)
theorem tw_889 : (Jvm.Cond.selects "SherdField$LeaveReader" ({ cls := "SherdField$LeaveReader", name := "barred", desc := "()I" } : Jvm.MethodName) ({ cls := "SherdField$LeaveReader", name := "barred", desc := "()I" } : Jvm.MethodName)) ∈ gtb := gtb_t 889 (by decide +kernel) (by decide +kernel)
theorem tw_890 : (Jvm.Cond.code ({ cls := "SherdField$LeaveReader", name := "barred", desc := "()I" } : Jvm.MethodName) prog_6_method_7_code (1 : Nat) (Option.some Jvm.ClassFile.FieldType.int)) ∈ gtb := gtb_t 890 (by decide +kernel) (by decide +kernel)
theorem tw_891 : (Jvm.Cond.methodLink "SherdFieldLaw" (114 : Nat) ({ cls := "SherdField", name := "withdraw", desc := "(I)I" } : Jvm.MethodName)) ∈ gtb := gtb_t 891 (by decide +kernel) (by decide +kernel)
theorem tw_892 : (Jvm.Cond.instanceMethod ({ cls := "SherdField", name := "withdraw", desc := "(I)I" } : Jvm.MethodName)) ∈ gtb := gtb_t 892 (by decide +kernel) (by decide +kernel)
theorem tw_893 : (Jvm.Cond.selects "SherdField" ({ cls := "SherdField", name := "withdraw", desc := "(I)I" } : Jvm.MethodName) ({ cls := "SherdField", name := "withdraw", desc := "(I)I" } : Jvm.MethodName)) ∈ gtb := gtb_t 893 (by decide +kernel) (by decide +kernel)
theorem tw_894 : (Jvm.Cond.code ({ cls := "SherdField", name := "withdraw", desc := "(I)I" } : Jvm.MethodName) prog_1_method_26_code (2 : Nat) (Option.some Jvm.ClassFile.FieldType.int)) ∈ gtb := gtb_t 894 (by decide +kernel) (by decide +kernel)
theorem tw_895 : (Jvm.Cond.methodLink "SherdField" (302 : Nat) ({ cls := "SherdField$Leaves", name := "has", desc := "(I)Z" } : Jvm.MethodName)) ∈ gtb := gtb_t 895 (by decide +kernel) (by decide +kernel)
theorem tw_896 : (Jvm.Cond.instanceMethod ({ cls := "SherdField$Leaves", name := "has", desc := "(I)Z" } : Jvm.MethodName)) ∈ gtb := gtb_t 896 (by decide +kernel) (by decide +kernel)
theorem tw_897 : (Jvm.Cond.selects "SherdField$Leaves" ({ cls := "SherdField$Leaves", name := "has", desc := "(I)Z" } : Jvm.MethodName) ({ cls := "SherdField$Leaves", name := "has", desc := "(I)Z" } : Jvm.MethodName)) ∈ gtb := gtb_t 897 (by decide +kernel) (by decide +kernel)
theorem tw_898 : (Jvm.Cond.code ({ cls := "SherdField$Leaves", name := "has", desc := "(I)Z" } : Jvm.MethodName) prog_7_method_4_code (2 : Nat) (Option.some Jvm.ClassFile.FieldType.boolean)) ∈ gtb := gtb_t 898 (by decide +kernel) (by decide +kernel)
theorem tw_899 : (Jvm.Cond.methodLink "SherdField" (303 : Nat) ({ cls := "SherdField$Leaves", name := "isWithdrawn", desc := "(I)Z" } : Jvm.MethodName)) ∈ gtb := gtb_t 899 (by decide +kernel) (by decide +kernel)
theorem tw_900 : (Jvm.Cond.instanceMethod ({ cls := "SherdField$Leaves", name := "isWithdrawn", desc := "(I)Z" } : Jvm.MethodName)) ∈ gtb := gtb_t 900 (by decide +kernel) (by decide +kernel)
theorem tw_901 : (Jvm.Cond.selects "SherdField$Leaves" ({ cls := "SherdField$Leaves", name := "isWithdrawn", desc := "(I)Z" } : Jvm.MethodName) ({ cls := "SherdField$Leaves", name := "isWithdrawn", desc := "(I)Z" } : Jvm.MethodName)) ∈ gtb := gtb_t 901 (by decide +kernel) (by decide +kernel)
theorem tw_902 : (Jvm.Cond.code ({ cls := "SherdField$Leaves", name := "isWithdrawn", desc := "(I)Z" } : Jvm.MethodName) prog_7_method_6_code (2 : Nat) (Option.some Jvm.ClassFile.FieldType.boolean)) ∈ gtb := gtb_t 902 (by decide +kernel) (by decide +kernel)
theorem tw_903 : (Jvm.Cond.methodLink "SherdField" (306 : Nat) ({ cls := "SherdField$Leaves", name := "takeBack", desc := "(I)V" } : Jvm.MethodName)) ∈ gtb := gtb_t 903 (by decide +kernel) (by decide +kernel)
theorem tw_904 : (Jvm.Cond.instanceMethod ({ cls := "SherdField$Leaves", name := "takeBack", desc := "(I)V" } : Jvm.MethodName)) ∈ gtb := gtb_t 904 (by decide +kernel) (by decide +kernel)
theorem tw_905 : (Jvm.Cond.selects "SherdField$Leaves" ({ cls := "SherdField$Leaves", name := "takeBack", desc := "(I)V" } : Jvm.MethodName) ({ cls := "SherdField$Leaves", name := "takeBack", desc := "(I)V" } : Jvm.MethodName)) ∈ gtb := gtb_t 905 (by decide +kernel) (by decide +kernel)
theorem tw_906 : (Jvm.Cond.code ({ cls := "SherdField$Leaves", name := "takeBack", desc := "(I)V" } : Jvm.MethodName) prog_7_method_7_code (2 : Nat) (Option.none : Option Jvm.ClassFile.FieldType)) ∈ gtb := gtb_t 906 (by decide +kernel) (by decide +kernel)
theorem tw_907 : (Jvm.Cond.methodLink "SherdFieldLaw" (118 : Nat) ({ cls := "SherdField", name := "lets", desc := "(III)I" } : Jvm.MethodName)) ∈ gtb := gtb_t 907 (by decide +kernel) (by decide +kernel)
theorem tw_908 : (Jvm.Cond.instanceMethod ({ cls := "SherdField", name := "lets", desc := "(III)I" } : Jvm.MethodName)) ∈ gtb := gtb_t 908 (by decide +kernel) (by decide +kernel)
theorem tw_909 : (Jvm.Cond.selects "SherdField" ({ cls := "SherdField", name := "lets", desc := "(III)I" } : Jvm.MethodName) ({ cls := "SherdField", name := "lets", desc := "(III)I" } : Jvm.MethodName)) ∈ gtb := gtb_t 909 (by decide +kernel) (by decide +kernel)
theorem tw_910 : (Jvm.Cond.code ({ cls := "SherdField", name := "lets", desc := "(III)I" } : Jvm.MethodName) prog_1_method_27_code (5 : Nat) (Option.some Jvm.ClassFile.FieldType.int)) ∈ gtb := gtb_t 910 (by decide +kernel) (by decide +kernel)
theorem tw_911 : (Jvm.Cond.methodLink "SherdFieldLaw" (122 : Nat) ({ cls := "SherdField", name := "days", desc := "(I)I" } : Jvm.MethodName)) ∈ gtb := gtb_t 911 (by decide +kernel) (by decide +kernel)
theorem tw_912 : (Jvm.Cond.instanceMethod ({ cls := "SherdField", name := "days", desc := "(I)I" } : Jvm.MethodName)) ∈ gtb := gtb_t 912 (by decide +kernel) (by decide +kernel)
theorem tw_913 : (Jvm.Cond.selects "SherdField" ({ cls := "SherdField", name := "days", desc := "(I)I" } : Jvm.MethodName) ({ cls := "SherdField", name := "days", desc := "(I)I" } : Jvm.MethodName)) ∈ gtb := gtb_t 913 (by decide +kernel) (by decide +kernel)
theorem tw_914 : (Jvm.Cond.code ({ cls := "SherdField", name := "days", desc := "(I)I" } : Jvm.MethodName) prog_1_method_28_code (2 : Nat) (Option.some Jvm.ClassFile.FieldType.int)) ∈ gtb := gtb_t 914 (by decide +kernel) (by decide +kernel)
theorem tw_915 : (Jvm.Cond.methodLink "SherdFieldLaw" (126 : Nat) ({ cls := "SherdField", name := "sheet", desc := "(II)I" } : Jvm.MethodName)) ∈ gtb := gtb_t 915 (by decide +kernel) (by decide +kernel)
theorem tw_916 : (Jvm.Cond.instanceMethod ({ cls := "SherdField", name := "sheet", desc := "(II)I" } : Jvm.MethodName)) ∈ gtb := gtb_t 916 (by decide +kernel) (by decide +kernel)
theorem tw_917 : (Jvm.Cond.selects "SherdField" ({ cls := "SherdField", name := "sheet", desc := "(II)I" } : Jvm.MethodName) ({ cls := "SherdField", name := "sheet", desc := "(II)I" } : Jvm.MethodName)) ∈ gtb := gtb_t 917 (by decide +kernel) (by decide +kernel)
theorem tw_918 : (Jvm.Cond.code ({ cls := "SherdField", name := "sheet", desc := "(II)I" } : Jvm.MethodName) prog_1_method_29_code (3 : Nat) (Option.some Jvm.ClassFile.FieldType.int)) ∈ gtb := gtb_t 918 (by decide +kernel) (by decide +kernel)
theorem tw_919 : (Jvm.Cond.methodLink "SherdField" (309 : Nat) ({ cls := "SherdField", name := "isSheet", desc := "(I)Z" } : Jvm.MethodName)) ∈ gtb := gtb_t 919 (by decide +kernel) (by decide +kernel)
theorem tw_920 : (Jvm.Cond.static ({ cls := "SherdField", name := "isSheet", desc := "(I)Z" } : Jvm.MethodName)) ∈ gtb := gtb_t 920 (by decide +kernel) (by decide +kernel)
theorem tw_921 : (Jvm.Cond.code ({ cls := "SherdField", name := "isSheet", desc := "(I)Z" } : Jvm.MethodName) prog_1_method_39_code (1 : Nat) (Option.some Jvm.ClassFile.FieldType.boolean)) ∈ gtb := gtb_t 921 (by decide +kernel) (by decide +kernel)
theorem tw_922 : (Jvm.Cond.constant "SherdField" (312 : Nat) (-1000000014 : Int32)) ∈ gtb := gtb_t 922 (by decide +kernel) (by decide +kernel)
theorem tw_923 : (Jvm.Cond.methodLink "SherdField" (313 : Nat) ({ cls := "SherdField", name := "sheetNumbered", desc := "(I)LSherdField$Sheet;" } : Jvm.MethodName)) ∈ gtb := gtb_t 923 (by decide +kernel) (by decide +kernel)
theorem tw_925 : (Jvm.Cond.instanceMethod ({ cls := "SherdField", name := "sheetNumbered", desc := "(I)LSherdField$Sheet;" } : Jvm.MethodName)) ∈ gtb := gtb_t 925 (by decide +kernel) (by decide +kernel)
theorem tw_926 : (Jvm.Cond.code ({ cls := "SherdField", name := "sheetNumbered", desc := "(I)LSherdField$Sheet;" } : Jvm.MethodName) prog_1_method_40_code (2 : Nat) (Option.some (Jvm.ClassFile.FieldType.object "SherdField$Sheet"))) ∈ gtb := gtb_t 926 (by decide +kernel) (by decide +kernel)
theorem tw_927 : (Jvm.Cond.methodLink "SherdField" (317 : Nat) ({ cls := "SherdField$Sheet", name := "renew", desc := "(I)V" } : Jvm.MethodName)) ∈ gtb := gtb_t 927 (by decide +kernel) (by decide +kernel)
theorem tw_928 : (Jvm.Cond.instanceMethod ({ cls := "SherdField$Sheet", name := "renew", desc := "(I)V" } : Jvm.MethodName)) ∈ gtb := gtb_t 928 (by decide +kernel) (by decide +kernel)
theorem tw_929 : (Jvm.Cond.selects "SherdField$Sheet" ({ cls := "SherdField$Sheet", name := "renew", desc := "(I)V" } : Jvm.MethodName) ({ cls := "SherdField$Sheet", name := "renew", desc := "(I)V" } : Jvm.MethodName)) ∈ gtb := gtb_t 929 (by decide +kernel) (by decide +kernel)
theorem tw_930 : (Jvm.Cond.code ({ cls := "SherdField$Sheet", name := "renew", desc := "(I)V" } : Jvm.MethodName) prog_9_method_3_code (2 : Nat) (Option.none : Option Jvm.ClassFile.FieldType)) ∈ gtb := gtb_t 930 (by decide +kernel) (by decide +kernel)
theorem tw_931 : (Jvm.Cond.methodLink "SherdField$Sheet" (19 : Nat) ({ cls := "java/util/Arrays", name := "fill", desc := "([SS)V" } : Jvm.MethodName)) ∈ gtb := gtb_t 931 (by decide +kernel) (by decide +kernel)
theorem tw_932 : (Jvm.Cond.static ({ cls := "java/util/Arrays", name := "fill", desc := "([SS)V" } : Jvm.MethodName)) ∈ gtb := gtb_t 932 (by decide +kernel) (by decide +kernel)
theorem tw_933 : (Jvm.Cond.code ({ cls := "java/util/Arrays", name := "fill", desc := "([SS)V" } : Jvm.MethodName) prog_21_method_105_code (4 : Nat) (Option.none : Option Jvm.ClassFile.FieldType)) ∈ gtb := gtb_t 933 (by decide +kernel) (by decide +kernel)
theorem tw_934 : (Jvm.Cond.methodLink "SherdFieldLaw" (130 : Nat) ({ cls := "SherdField", name := "mark", desc := "(III)I" } : Jvm.MethodName)) ∈ gtb := gtb_t 934 (by decide +kernel) (by decide +kernel)
theorem tw_935 : (Jvm.Cond.instanceMethod ({ cls := "SherdField", name := "mark", desc := "(III)I" } : Jvm.MethodName)) ∈ gtb := gtb_t 935 (by decide +kernel) (by decide +kernel)
theorem tw_936 : (Jvm.Cond.selects "SherdField" ({ cls := "SherdField", name := "mark", desc := "(III)I" } : Jvm.MethodName) ({ cls := "SherdField", name := "mark", desc := "(III)I" } : Jvm.MethodName)) ∈ gtb := gtb_t 936 (by decide +kernel) (by decide +kernel)
theorem tw_937 : (Jvm.Cond.code ({ cls := "SherdField", name := "mark", desc := "(III)I" } : Jvm.MethodName) prog_1_method_30_code (5 : Nat) (Option.some Jvm.ClassFile.FieldType.int)) ∈ gtb := gtb_t 937 (by decide +kernel) (by decide +kernel)
theorem tw_938 : (Jvm.Cond.methodLink "SherdField" (319 : Nat) ({ cls := "SherdField$Sheet", name := "has", desc := "(I)Z" } : Jvm.MethodName)) ∈ gtb := gtb_t 938 (by decide +kernel) (by decide +kernel)
theorem tw_939 : (Jvm.Cond.constant "SherdField" (320 : Nat) (-1000000013 : Int32)) ∈ gtb := gtb_t 939 (by decide +kernel) (by decide +kernel)
theorem tw_940 : (Jvm.Cond.methodLink "SherdField" (321 : Nat) ({ cls := "SherdField$Sheet", name := "put", desc := "(II)I" } : Jvm.MethodName)) ∈ gtb := gtb_t 940 (by decide +kernel) (by decide +kernel)
theorem tw_941 : (Jvm.Cond.instanceMethod ({ cls := "SherdField$Sheet", name := "put", desc := "(II)I" } : Jvm.MethodName)) ∈ gtb := gtb_t 941 (by decide +kernel) (by decide +kernel)
theorem tw_942 : (Jvm.Cond.selects "SherdField$Sheet" ({ cls := "SherdField$Sheet", name := "put", desc := "(II)I" } : Jvm.MethodName) ({ cls := "SherdField$Sheet", name := "put", desc := "(II)I" } : Jvm.MethodName)) ∈ gtb := gtb_t 942 (by decide +kernel) (by decide +kernel)
theorem tw_943 : (Jvm.Cond.code ({ cls := "SherdField$Sheet", name := "put", desc := "(II)I" } : Jvm.MethodName) prog_9_method_8_code (4 : Nat) (Option.some Jvm.ClassFile.FieldType.int)) ∈ gtb := gtb_t 943 (by decide +kernel) (by decide +kernel)
theorem tw_944 : (Jvm.Cond.methodLink "SherdFieldLaw" (134 : Nat) ({ cls := "SherdField", name := "copy", desc := "(IIIII)I" } : Jvm.MethodName)) ∈ gtb := gtb_t 944 (by decide +kernel) (by decide +kernel)
theorem tw_945 : (Jvm.Cond.instanceMethod ({ cls := "SherdField", name := "copy", desc := "(IIIII)I" } : Jvm.MethodName)) ∈ gtb := gtb_t 945 (by decide +kernel) (by decide +kernel)
theorem tw_946 : (Jvm.Cond.selects "SherdField" ({ cls := "SherdField", name := "copy", desc := "(IIIII)I" } : Jvm.MethodName) ({ cls := "SherdField", name := "copy", desc := "(IIIII)I" } : Jvm.MethodName)) ∈ gtb := gtb_t 946 (by decide +kernel) (by decide +kernel)
theorem tw_947 : (Jvm.Cond.code ({ cls := "SherdField", name := "copy", desc := "(IIIII)I" } : Jvm.MethodName) prog_1_method_31_code (8 : Nat) (Option.some Jvm.ClassFile.FieldType.int)) ∈ gtb := gtb_t 947 (by decide +kernel) (by decide +kernel)
theorem tw_948 : (Jvm.Cond.methodLink "SherdField" (324 : Nat) ({ cls := "SherdField$Sheet", name := "hasRun", desc := "(II)Z" } : Jvm.MethodName)) ∈ gtb := gtb_t 948 (by decide +kernel) (by decide +kernel)
theorem tw_949 : (Jvm.Cond.instanceMethod ({ cls := "SherdField$Sheet", name := "hasRun", desc := "(II)Z" } : Jvm.MethodName)) ∈ gtb := gtb_t 949 (by decide +kernel) (by decide +kernel)
theorem tw_950 : (Jvm.Cond.selects "SherdField$Sheet" ({ cls := "SherdField$Sheet", name := "hasRun", desc := "(II)Z" } : Jvm.MethodName) ({ cls := "SherdField$Sheet", name := "hasRun", desc := "(II)Z" } : Jvm.MethodName)) ∈ gtb := gtb_t 950 (by decide +kernel) (by decide +kernel)
theorem tw_951 : (Jvm.Cond.code ({ cls := "SherdField$Sheet", name := "hasRun", desc := "(II)Z" } : Jvm.MethodName) prog_9_method_6_code (3 : Nat) (Option.some Jvm.ClassFile.FieldType.boolean)) ∈ gtb := gtb_t 951 (by decide +kernel) (by decide +kernel)
theorem tw_952 : (Jvm.Cond.methodLink "SherdField" (327 : Nat) ({ cls := "SherdField$Sheet", name := "take", desc := "(LSherdField$Sheet;III)V" } : Jvm.MethodName)) ∈ gtb := gtb_t 952 (by decide +kernel) (by decide +kernel)
theorem tw_953 : (Jvm.Cond.instanceMethod ({ cls := "SherdField$Sheet", name := "take", desc := "(LSherdField$Sheet;III)V" } : Jvm.MethodName)) ∈ gtb := gtb_t 953 (by decide +kernel) (by decide +kernel)
theorem tw_954 : (Jvm.Cond.selects "SherdField$Sheet" ({ cls := "SherdField$Sheet", name := "take", desc := "(LSherdField$Sheet;III)V" } : Jvm.MethodName) ({ cls := "SherdField$Sheet", name := "take", desc := "(LSherdField$Sheet;III)V" } : Jvm.MethodName)) ∈ gtb := gtb_t 954 (by decide +kernel) (by decide +kernel)
theorem tw_955 : (Jvm.Cond.code ({ cls := "SherdField$Sheet", name := "take", desc := "(LSherdField$Sheet;III)V" } : Jvm.MethodName) prog_9_method_9_code (5 : Nat) (Option.none : Option Jvm.ClassFile.FieldType)) ∈ gtb := gtb_t 955 (by decide +kernel) (by decide +kernel)
theorem tw_956 : (Jvm.Cond.methodLink "SherdField$Sheet" (25 : Nat) ({ cls := "java/lang/System", name := "arraycopy", desc := "(Ljava/lang/Object;ILjava/lang/Object;II)V" } : Jvm.MethodName)) ∈ gtb := gtb_t 956 (by decide +kernel) (by decide +kernel)
theorem tw_957 : (Jvm.Cond.static ({ cls := "java/lang/System", name := "arraycopy", desc := "(Ljava/lang/Object;ILjava/lang/Object;II)V" } : Jvm.MethodName)) ∈ gtb := gtb_t 957 (by decide +kernel) (by decide +kernel)
theorem tw_959 : (Jvm.Cond.methodLink "SherdFieldLaw" (139 : Nat) ({ cls := "SherdField", name := "lose", desc := "(I)I" } : Jvm.MethodName)) ∈ gtb := gtb_t 959 (by decide +kernel) (by decide +kernel)
theorem tw_960 : (Jvm.Cond.instanceMethod ({ cls := "SherdField", name := "lose", desc := "(I)I" } : Jvm.MethodName)) ∈ gtb := gtb_t 960 (by decide +kernel) (by decide +kernel)
theorem tw_961 : (Jvm.Cond.selects "SherdField" ({ cls := "SherdField", name := "lose", desc := "(I)I" } : Jvm.MethodName) ({ cls := "SherdField", name := "lose", desc := "(I)I" } : Jvm.MethodName)) ∈ gtb := gtb_t 961 (by decide +kernel) (by decide +kernel)
theorem tw_962 : (Jvm.Cond.code ({ cls := "SherdField", name := "lose", desc := "(I)I" } : Jvm.MethodName) prog_1_method_32_code (3 : Nat) (Option.some Jvm.ClassFile.FieldType.int)) ∈ gtb := gtb_t 962 (by decide +kernel) (by decide +kernel)
theorem tw_963 : (Jvm.Cond.methodLink "SherdField" (331 : Nat) ({ cls := "SherdField$Sheet", name := "vanish", desc := "()I" } : Jvm.MethodName)) ∈ gtb := gtb_t 963 (by decide +kernel) (by decide +kernel)
theorem tw_964 : (Jvm.Cond.instanceMethod ({ cls := "SherdField$Sheet", name := "vanish", desc := "()I" } : Jvm.MethodName)) ∈ gtb := gtb_t 964 (by decide +kernel) (by decide +kernel)
theorem tw_965 : (Jvm.Cond.selects "SherdField$Sheet" ({ cls := "SherdField$Sheet", name := "vanish", desc := "()I" } : Jvm.MethodName) ({ cls := "SherdField$Sheet", name := "vanish", desc := "()I" } : Jvm.MethodName)) ∈ gtb := gtb_t 965 (by decide +kernel) (by decide +kernel)
theorem tw_966 : (Jvm.Cond.code ({ cls := "SherdField$Sheet", name := "vanish", desc := "()I" } : Jvm.MethodName) prog_9_method_4_code (2 : Nat) (Option.some Jvm.ClassFile.FieldType.int)) ∈ gtb := gtb_t 966 (by decide +kernel) (by decide +kernel)
theorem tw_967 : (Jvm.Cond.methodLink "SherdFieldLaw" (143 : Nat) ({ cls := "SherdField", name := "many", desc := "(I)I" } : Jvm.MethodName)) ∈ gtb := gtb_t 967 (by decide +kernel) (by decide +kernel)
theorem tw_968 : (Jvm.Cond.instanceMethod ({ cls := "SherdField", name := "many", desc := "(I)I" } : Jvm.MethodName)) ∈ gtb := gtb_t 968 (by decide +kernel) (by decide +kernel)
theorem tw_969 : (Jvm.Cond.selects "SherdField" ({ cls := "SherdField", name := "many", desc := "(I)I" } : Jvm.MethodName) ({ cls := "SherdField", name := "many", desc := "(I)I" } : Jvm.MethodName)) ∈ gtb := gtb_t 969 (by decide +kernel) (by decide +kernel)
theorem tw_970 : (Jvm.Cond.code ({ cls := "SherdField", name := "many", desc := "(I)I" } : Jvm.MethodName) prog_1_method_33_code (2 : Nat) (Option.some Jvm.ClassFile.FieldType.int)) ∈ gtb := gtb_t 970 (by decide +kernel) (by decide +kernel)
theorem tw_971 : (Jvm.Cond.methodLink "SherdField" (334 : Nat) ({ cls := "SherdField$Walks", name := "number", desc := "()I" } : Jvm.MethodName)) ∈ gtb := gtb_t 971 (by decide +kernel) (by decide +kernel)
theorem tw_972 : (Jvm.Cond.methodLink "SherdField" (337 : Nat) ({ cls := "SherdField$Finds", name := "number", desc := "()I" } : Jvm.MethodName)) ∈ gtb := gtb_t 972 (by decide +kernel) (by decide +kernel)
theorem tw_973 : (Jvm.Cond.instanceMethod ({ cls := "SherdField$Finds", name := "number", desc := "()I" } : Jvm.MethodName)) ∈ gtb := gtb_t 973 (by decide +kernel) (by decide +kernel)
theorem tw_974 : (Jvm.Cond.selects "SherdField$Finds" ({ cls := "SherdField$Finds", name := "number", desc := "()I" } : Jvm.MethodName) ({ cls := "SherdField$Finds", name := "number", desc := "()I" } : Jvm.MethodName)) ∈ gtb := gtb_t 974 (by decide +kernel) (by decide +kernel)
theorem tw_975 : (Jvm.Cond.code ({ cls := "SherdField$Finds", name := "number", desc := "()I" } : Jvm.MethodName) prog_3_method_3_code (1 : Nat) (Option.some Jvm.ClassFile.FieldType.int)) ∈ gtb := gtb_t 975 (by decide +kernel) (by decide +kernel)
theorem tw_976 : (Jvm.Cond.methodLink "SherdField" (338 : Nat) ({ cls := "SherdField", name := "gaps", desc := "()I" } : Jvm.MethodName)) ∈ gtb := gtb_t 976 (by decide +kernel) (by decide +kernel)
theorem tw_978 : (Jvm.Cond.instanceMethod ({ cls := "SherdField", name := "gaps", desc := "()I" } : Jvm.MethodName)) ∈ gtb := gtb_t 978 (by decide +kernel) (by decide +kernel)
theorem tw_979 : (Jvm.Cond.code ({ cls := "SherdField", name := "gaps", desc := "()I" } : Jvm.MethodName) prog_1_method_43_code (3 : Nat) (Option.some Jvm.ClassFile.FieldType.int)) ∈ gtb := gtb_t 979 (by decide +kernel) (by decide +kernel)
theorem tw_980 : (Jvm.Cond.methodLink "SherdField" (341 : Nat) ({ cls := "SherdField$Leaves", name := "standing", desc := "()I" } : Jvm.MethodName)) ∈ gtb := gtb_t 980 (by decide +kernel) (by decide +kernel)
theorem tw_981 : (Jvm.Cond.instanceMethod ({ cls := "SherdField$Leaves", name := "standing", desc := "()I" } : Jvm.MethodName)) ∈ gtb := gtb_t 981 (by decide +kernel) (by decide +kernel)
theorem tw_982 : (Jvm.Cond.selects "SherdField$Leaves" ({ cls := "SherdField$Leaves", name := "standing", desc := "()I" } : Jvm.MethodName) ({ cls := "SherdField$Leaves", name := "standing", desc := "()I" } : Jvm.MethodName)) ∈ gtb := gtb_t 982 (by decide +kernel) (by decide +kernel)
theorem tw_983 : (Jvm.Cond.code ({ cls := "SherdField$Leaves", name := "standing", desc := "()I" } : Jvm.MethodName) prog_7_method_8_code (3 : Nat) (Option.some Jvm.ClassFile.FieldType.int)) ∈ gtb := gtb_t 983 (by decide +kernel) (by decide +kernel)
theorem tw_985 : (Jvm.Cond.methodLink "SherdField" (344 : Nat) ({ cls := "SherdField$Ground", name := "barrenPaces", desc := "()I" } : Jvm.MethodName)) ∈ gtb := gtb_t 985 (by decide +kernel) (by decide +kernel)
theorem tw_986 : (Jvm.Cond.instanceMethod ({ cls := "SherdField$Ground", name := "barrenPaces", desc := "()I" } : Jvm.MethodName)) ∈ gtb := gtb_t 986 (by decide +kernel) (by decide +kernel)
theorem tw_987 : (Jvm.Cond.selects "SherdField$Ground" ({ cls := "SherdField$Ground", name := "barrenPaces", desc := "()I" } : Jvm.MethodName) ({ cls := "SherdField$Ground", name := "barrenPaces", desc := "()I" } : Jvm.MethodName)) ∈ gtb := gtb_t 987 (by decide +kernel) (by decide +kernel)
theorem tw_988 : (Jvm.Cond.code ({ cls := "SherdField$Ground", name := "barrenPaces", desc := "()I" } : Jvm.MethodName) prog_4_method_12_code (1 : Nat) (Option.some Jvm.ClassFile.FieldType.int)) ∈ gtb := gtb_t 988 (by decide +kernel) (by decide +kernel)
theorem tw_989 : (Jvm.Cond.methodLink "SherdField$Ground" (39 : Nat) ({ cls := "java/lang/Long", name := "bitCount", desc := "(J)I" } : Jvm.MethodName)) ∈ gtb := gtb_t 989 (by decide +kernel) (by decide +kernel)
theorem tw_990 : (Jvm.Cond.static ({ cls := "java/lang/Long", name := "bitCount", desc := "(J)I" } : Jvm.MethodName)) ∈ gtb := gtb_t 990 (by decide +kernel) (by decide +kernel)
theorem tw_991 : (Jvm.Cond.code ({ cls := "java/lang/Long", name := "bitCount", desc := "(J)I" } : Jvm.MethodName) prog_15_method_50_code (2 : Nat) (Option.some Jvm.ClassFile.FieldType.int)) ∈ gtb := gtb_t 991 (by decide +kernel) (by decide +kernel)
theorem tw_992 : (Jvm.Cond.constantLong "java/lang/Long" (314 : Nat) (6148914691236517205 : Int64)) ∈ gtb := gtb_t 992 (by decide +kernel) (by decide +kernel)
theorem tw_993 : (Jvm.Cond.constantLong "java/lang/Long" (316 : Nat) (3689348814741910323 : Int64)) ∈ gtb := gtb_t 993 (by decide +kernel) (by decide +kernel)
theorem tw_994 : (Jvm.Cond.constantLong "java/lang/Long" (318 : Nat) (1085102592571150095 : Int64)) ∈ gtb := gtb_t 994 (by decide +kernel) (by decide +kernel)
theorem tw_995 : (Jvm.Cond.classLink "SherdFieldLaw" (10 : Nat) "SherdFieldModel") ∈ gtb := gtb_t 995 (by decide +kernel) (by decide +kernel)
theorem tw_996 : (Jvm.Cond.instantiable "SherdFieldModel" (43 : Nat)) ∈ gtb := gtb_t 996 (by decide +kernel) (by decide +kernel)
theorem tw_997 : (Jvm.Cond.methodLink "SherdFieldLaw" (12 : Nat) ({ cls := "SherdFieldModel", name := "<init>", desc := "()V" } : Jvm.MethodName)) ∈ gtb := gtb_t 997 (by decide +kernel) (by decide +kernel)
theorem tw_998 : (Jvm.Cond.instanceMethod ({ cls := "SherdFieldModel", name := "<init>", desc := "()V" } : Jvm.MethodName)) ∈ gtb := gtb_t 998 (by decide +kernel) (by decide +kernel)
theorem tw_999 : (Jvm.Cond.code ({ cls := "SherdFieldModel", name := "<init>", desc := "()V" } : Jvm.MethodName) prog_14_method_1_code (2 : Nat) (Option.none : Option Jvm.ClassFile.FieldType)) ∈ gtb := gtb_t 999 (by decide +kernel) (by decide +kernel)
theorem tw_1000 : (Jvm.Cond.methodLink "SherdFieldModel" (1 : Nat) ({ cls := "java/lang/Object", name := "<init>", desc := "()V" } : Jvm.MethodName)) ∈ gtb := gtb_t 1000 (by decide +kernel) (by decide +kernel)
theorem tw_1001 : (Jvm.Cond.fieldLink "SherdFieldModel" (7 : Nat) "SherdFieldModel" "wide" "I") ∈ gtb := gtb_t 1001 (by decide +kernel) (by decide +kernel)
theorem tw_1002 : (Jvm.Cond.fieldLink "SherdFieldModel" (13 : Nat) "SherdFieldModel" "high" "I") ∈ gtb := gtb_t 1002 (by decide +kernel) (by decide +kernel)
theorem tw_1003 : (Jvm.Cond.fieldLink "SherdFieldModel" (16 : Nat) "SherdFieldModel" "sorts" "[I") ∈ gtb := gtb_t 1003 (by decide +kernel) (by decide +kernel)
theorem tw_1004 : (Jvm.Cond.fieldLink "SherdFieldModel" (142 : Nat) "SherdFieldModel" "today" "I") ∈ gtb := gtb_t 1004 (by decide +kernel) (by decide +kernel)
theorem tw_1005 : (Jvm.Cond.fieldLink "SherdFieldModel" (117 : Nat) "SherdFieldModel" "walks" "I") ∈ gtb := gtb_t 1005 (by decide +kernel) (by decide +kernel)
theorem tw_1006 : (Jvm.Cond.fieldLink "SherdFieldModel" (20 : Nat) "SherdFieldModel" "walker" "[I") ∈ gtb := gtb_t 1006 (by decide +kernel) (by decide +kernel)
theorem tw_1007 : (Jvm.Cond.fieldLink "SherdFieldModel" (23 : Nat) "SherdFieldModel" "rowOf" "[I") ∈ gtb := gtb_t 1007 (by decide +kernel) (by decide +kernel)
theorem tw_1008 : (Jvm.Cond.fieldLink "SherdFieldModel" (26 : Nat) "SherdFieldModel" "dayOf" "[I") ∈ gtb := gtb_t 1008 (by decide +kernel) (by decide +kernel)
theorem tw_1009 : (Jvm.Cond.fieldLink "SherdFieldModel" (121 : Nat) "SherdFieldModel" "finds" "I") ∈ gtb := gtb_t 1009 (by decide +kernel) (by decide +kernel)
theorem tw_1010 : (Jvm.Cond.fieldLink "SherdFieldModel" (29 : Nat) "SherdFieldModel" "fWalk" "[I") ∈ gtb := gtb_t 1010 (by decide +kernel) (by decide +kernel)
theorem tw_1011 : (Jvm.Cond.fieldLink "SherdFieldModel" (32 : Nat) "SherdFieldModel" "fPace" "[I") ∈ gtb := gtb_t 1011 (by decide +kernel) (by decide +kernel)
theorem tw_1012 : (Jvm.Cond.fieldLink "SherdFieldModel" (35 : Nat) "SherdFieldModel" "fKind" "[I") ∈ gtb := gtb_t 1012 (by decide +kernel) (by decide +kernel)
theorem tw_1013 : (Jvm.Cond.fieldLink "SherdFieldModel" (38 : Nat) "SherdFieldModel" "fMany" "[I") ∈ gtb := gtb_t 1013 (by decide +kernel) (by decide +kernel)
theorem tw_1014 : (Jvm.Cond.fieldLink "SherdFieldModel" (41 : Nat) "SherdFieldModel" "isEmpty" "[Z") ∈ gtb := gtb_t 1014 (by decide +kernel) (by decide +kernel)
theorem tw_1015 : (Jvm.Cond.fieldLink "SherdFieldModel" (45 : Nat) "SherdFieldModel" "seed" "I") ∈ gtb := gtb_t 1015 (by decide +kernel) (by decide +kernel)
theorem tw_1016 : (Jvm.Cond.fieldLink "SherdFieldModel" (188 : Nat) "SherdFieldModel" "spare" "I") ∈ gtb := gtb_t 1016 (by decide +kernel) (by decide +kernel)
theorem tw_1017 : (Jvm.Cond.fieldLink "SherdFieldModel" (48 : Nat) "SherdFieldModel" "profile" "[I") ∈ gtb := gtb_t 1017 (by decide +kernel) (by decide +kernel)
theorem tw_1018 : (Jvm.Cond.fieldLink "SherdFieldModel" (51 : Nat) "SherdFieldModel" "tape" "[I") ∈ gtb := gtb_t 1018 (by decide +kernel) (by decide +kernel)
theorem tw_1019 : (Jvm.Cond.fieldLink "SherdFieldModel" (204 : Nat) "SherdFieldModel" "taped" "I") ∈ gtb := gtb_t 1019 (by decide +kernel) (by decide +kernel)
theorem tw_1020 : (Jvm.Cond.fieldLink "SherdFieldModel" (128 : Nat) "SherdFieldModel" "leaves" "I") ∈ gtb := gtb_t 1020 (by decide +kernel) (by decide +kernel)
theorem tw_1021 : (Jvm.Cond.fieldLink "SherdFieldModel" (54 : Nat) "SherdFieldModel" "lFrom" "[I") ∈ gtb := gtb_t 1021 (by decide +kernel) (by decide +kernel)
theorem tw_1022 : (Jvm.Cond.fieldLink "SherdFieldModel" (57 : Nat) "SherdFieldModel" "lTo" "[I") ∈ gtb := gtb_t 1022 (by decide +kernel) (by decide +kernel)
theorem tw_1023 : (Jvm.Cond.fieldLink "SherdFieldModel" (60 : Nat) "SherdFieldModel" "lFirst" "[I") ∈ gtb := gtb_t 1023 (by decide +kernel) (by decide +kernel)
theorem tw_1024 : (Jvm.Cond.fieldLink "SherdFieldModel" (63 : Nat) "SherdFieldModel" "lLast" "[I") ∈ gtb := gtb_t 1024 (by decide +kernel) (by decide +kernel)
theorem tw_1025 : (Jvm.Cond.fieldLink "SherdFieldModel" (66 : Nat) "SherdFieldModel" "lNot" "[I") ∈ gtb := gtb_t 1025 (by decide +kernel) (by decide +kernel)
theorem tw_1026 : (Jvm.Cond.fieldLink "SherdFieldModel" (69 : Nat) "SherdFieldModel" "isBack" "[Z") ∈ gtb := gtb_t 1026 (by decide +kernel) (by decide +kernel)
theorem tw_1027 : (Jvm.Cond.fieldLink "SherdFieldModel" (72 : Nat) "SherdFieldModel" "places" "[I") ∈ gtb := gtb_t 1027 (by decide +kernel) (by decide +kernel)
theorem tw_1028 : (Jvm.Cond.fieldLink "SherdFieldModel" (75 : Nat) "SherdFieldModel" "numbers" "[I") ∈ gtb := gtb_t 1028 (by decide +kernel) (by decide +kernel)
theorem tw_1029 : (Jvm.Cond.fieldLink "SherdFieldModel" (78 : Nat) "SherdFieldModel" "fines" "[I") ∈ gtb := gtb_t 1029 (by decide +kernel) (by decide +kernel)
theorem tw_1030 : (Jvm.Cond.fieldLink "SherdFieldModel" (81 : Nat) "SherdFieldModel" "eyes" "[I") ∈ gtb := gtb_t 1030 (by decide +kernel) (by decide +kernel)
theorem tw_1031 : (Jvm.Cond.fieldLink "SherdFieldModel" (84 : Nat) "SherdFieldModel" "chosen" "[I") ∈ gtb := gtb_t 1031 (by decide +kernel) (by decide +kernel)
theorem tw_1032 : (Jvm.Cond.fieldLink "SherdFieldModel" (87 : Nat) "SherdFieldModel" "worths" "[I") ∈ gtb := gtb_t 1032 (by decide +kernel) (by decide +kernel)
theorem tw_1033 : (Jvm.Cond.fieldLink "SherdFieldModel" (90 : Nat) "SherdFieldModel" "walked" "[I") ∈ gtb := gtb_t 1033 (by decide +kernel) (by decide +kernel)
theorem tw_1034 : (Jvm.Cond.fieldLink "SherdFieldModel" (93 : Nat) "SherdFieldModel" "soil" "[I") ∈ gtb := gtb_t 1034 (by decide +kernel) (by decide +kernel)
theorem tw_1035 : (Jvm.Cond.fieldLink "SherdFieldModel" (96 : Nat) "SherdFieldModel" "next" "[I") ∈ gtb := gtb_t 1035 (by decide +kernel) (by decide +kernel)
theorem tw_1036 : (Jvm.Cond.fieldLink "SherdFieldModel" (99 : Nat) "SherdFieldModel" "counted" "[J") ∈ gtb := gtb_t 1036 (by decide +kernel) (by decide +kernel)
theorem tw_1037 : (Jvm.Cond.fieldLink "SherdFieldModel" (211 : Nat) "SherdFieldModel" "read" "I") ∈ gtb := gtb_t 1037 (by decide +kernel) (by decide +kernel)
theorem tw_1038 : (Jvm.Cond.fieldLink "SherdFieldModel" (214 : Nat) "SherdFieldModel" "from" "I") ∈ gtb := gtb_t 1038 (by decide +kernel) (by decide +kernel)
theorem tw_1039 : (Jvm.Cond.fieldLink "SherdFieldModel" (217 : Nat) "SherdFieldModel" "long1" "I") ∈ gtb := gtb_t 1039 (by decide +kernel) (by decide +kernel)
theorem tw_1040 : (Jvm.Cond.fieldLink "SherdFieldModel" (225 : Nat) "SherdFieldModel" "spanFrom" "I") ∈ gtb := gtb_t 1040 (by decide +kernel) (by decide +kernel)
theorem tw_1041 : (Jvm.Cond.fieldLink "SherdFieldModel" (231 : Nat) "SherdFieldModel" "spanTo" "I") ∈ gtb := gtb_t 1041 (by decide +kernel) (by decide +kernel)
theorem tw_1042 : (Jvm.Cond.fieldLink "SherdFieldModel" (103 : Nat) "SherdFieldModel" "aside" "[I") ∈ gtb := gtb_t 1042 (by decide +kernel) (by decide +kernel)
theorem tw_1043 : (Jvm.Cond.fieldLink "SherdFieldModel" (106 : Nat) "SherdFieldModel" "carried" "[I") ∈ gtb := gtb_t 1043 (by decide +kernel) (by decide +kernel)
theorem tw_1131 : (Jvm.Cond.arrayClass Jvm.ClassFile.FieldType.long) ∈ gtb := gtb_t 1131 (by decide +kernel) (by decide +kernel)
theorem tw_1132 : (Jvm.Cond.methodLink "SherdFieldLaw" (17 : Nat) ({ cls := "SherdFieldModel", name := "field", desc := "(II)I" } : Jvm.MethodName)) ∈ gtb := gtb_t 1132 (by decide +kernel) (by decide +kernel)
theorem tw_1133 : (Jvm.Cond.instanceMethod ({ cls := "SherdFieldModel", name := "field", desc := "(II)I" } : Jvm.MethodName)) ∈ gtb := gtb_t 1133 (by decide +kernel) (by decide +kernel)
theorem tw_1134 : (Jvm.Cond.selects "SherdFieldModel" ({ cls := "SherdFieldModel", name := "field", desc := "(II)I" } : Jvm.MethodName) ({ cls := "SherdFieldModel", name := "field", desc := "(II)I" } : Jvm.MethodName)) ∈ gtb := gtb_t 1134 (by decide +kernel) (by decide +kernel)
theorem tw_1135 : (Jvm.Cond.code ({ cls := "SherdFieldModel", name := "field", desc := "(II)I" } : Jvm.MethodName) prog_14_method_9_code (4 : Nat) (Option.some Jvm.ClassFile.FieldType.int)) ∈ gtb := gtb_t 1135 (by decide +kernel) (by decide +kernel)
theorem tw_1136 : (Jvm.Cond.methodLink "SherdFieldModel" (113 : Nat) ({ cls := "SherdFieldModel", name := "isIn", desc := "(III)Z" } : Jvm.MethodName)) ∈ gtb := gtb_t 1136 (by decide +kernel) (by decide +kernel)
theorem tw_1137 : (Jvm.Cond.static ({ cls := "SherdFieldModel", name := "isIn", desc := "(III)Z" } : Jvm.MethodName)) ∈ gtb := gtb_t 1137 (by decide +kernel) (by decide +kernel)
theorem tw_1138 : (Jvm.Cond.code ({ cls := "SherdFieldModel", name := "isIn", desc := "(III)Z" } : Jvm.MethodName) prog_14_method_2_code (3 : Nat) (Option.some Jvm.ClassFile.FieldType.boolean)) ∈ gtb := gtb_t 1138 (by decide +kernel) (by decide +kernel)
theorem tw_1139 : (Jvm.Cond.constant "SherdFieldModel" (120 : Nat) (-1000000001 : Int32)) ∈ gtb := gtb_t 1139 (by decide +kernel) (by decide +kernel)
theorem tw_1140 : (Jvm.Cond.methodLink "SherdFieldModel" (109 : Nat) ({ cls := "SherdFieldModel", name := "paces", desc := "()I" } : Jvm.MethodName)) ∈ gtb := gtb_t 1140 (by decide +kernel) (by decide +kernel)
theorem tw_1142 : (Jvm.Cond.instanceMethod ({ cls := "SherdFieldModel", name := "paces", desc := "()I" } : Jvm.MethodName)) ∈ gtb := gtb_t 1142 (by decide +kernel) (by decide +kernel)
theorem tw_1143 : (Jvm.Cond.code ({ cls := "SherdFieldModel", name := "paces", desc := "()I" } : Jvm.MethodName) prog_14_method_3_code (1 : Nat) (Option.some Jvm.ClassFile.FieldType.int)) ∈ gtb := gtb_t 1143 (by decide +kernel) (by decide +kernel)
theorem tw_1144 : (Jvm.Cond.methodLink "SherdFieldLaw" (21 : Nat) ({ cls := "SherdFieldModel", name := "sort", desc := "(II)I" } : Jvm.MethodName)) ∈ gtb := gtb_t 1144 (by decide +kernel) (by decide +kernel)
theorem tw_1145 : (Jvm.Cond.instanceMethod ({ cls := "SherdFieldModel", name := "sort", desc := "(II)I" } : Jvm.MethodName)) ∈ gtb := gtb_t 1145 (by decide +kernel) (by decide +kernel)
theorem tw_1146 : (Jvm.Cond.selects "SherdFieldModel" ({ cls := "SherdFieldModel", name := "sort", desc := "(II)I" } : Jvm.MethodName) ({ cls := "SherdFieldModel", name := "sort", desc := "(II)I" } : Jvm.MethodName)) ∈ gtb := gtb_t 1146 (by decide +kernel) (by decide +kernel)
theorem tw_1147 : (Jvm.Cond.code ({ cls := "SherdFieldModel", name := "sort", desc := "(II)I" } : Jvm.MethodName) prog_14_method_10_code (4 : Nat) (Option.some Jvm.ClassFile.FieldType.int)) ∈ gtb := gtb_t 1147 (by decide +kernel) (by decide +kernel)
theorem tw_1148 : (Jvm.Cond.methodLink "SherdFieldModel" (124 : Nat) ({ cls := "SherdFieldModel", name := "isKind", desc := "(I)Z" } : Jvm.MethodName)) ∈ gtb := gtb_t 1148 (by decide +kernel) (by decide +kernel)
theorem tw_1149 : (Jvm.Cond.static ({ cls := "SherdFieldModel", name := "isKind", desc := "(I)Z" } : Jvm.MethodName)) ∈ gtb := gtb_t 1149 (by decide +kernel) (by decide +kernel)
theorem tw_1150 : (Jvm.Cond.code ({ cls := "SherdFieldModel", name := "isKind", desc := "(I)Z" } : Jvm.MethodName) prog_14_method_6_code (1 : Nat) (Option.some Jvm.ClassFile.FieldType.boolean)) ∈ gtb := gtb_t 1150 (by decide +kernel) (by decide +kernel)
theorem tw_1151 : (Jvm.Cond.methodLink "SherdFieldLaw" (25 : Nat) ({ cls := "SherdFieldModel", name := "isOf", desc := "(II)I" } : Jvm.MethodName)) ∈ gtb := gtb_t 1151 (by decide +kernel) (by decide +kernel)
theorem tw_1152 : (Jvm.Cond.instanceMethod ({ cls := "SherdFieldModel", name := "isOf", desc := "(II)I" } : Jvm.MethodName)) ∈ gtb := gtb_t 1152 (by decide +kernel) (by decide +kernel)
theorem tw_1153 : (Jvm.Cond.selects "SherdFieldModel" ({ cls := "SherdFieldModel", name := "isOf", desc := "(II)I" } : Jvm.MethodName) ({ cls := "SherdFieldModel", name := "isOf", desc := "(II)I" } : Jvm.MethodName)) ∈ gtb := gtb_t 1153 (by decide +kernel) (by decide +kernel)
theorem tw_1154 : (Jvm.Cond.code ({ cls := "SherdFieldModel", name := "isOf", desc := "(II)I" } : Jvm.MethodName) prog_14_method_11_code (3 : Nat) (Option.some Jvm.ClassFile.FieldType.int)) ∈ gtb := gtb_t 1154 (by decide +kernel) (by decide +kernel)
theorem tw_1155 : (Jvm.Cond.methodLink "SherdFieldLaw" (29 : Nat) ({ cls := "SherdFieldModel", name := "walk", desc := "(II)I" } : Jvm.MethodName)) ∈ gtb := gtb_t 1155 (by decide +kernel) (by decide +kernel)
theorem tw_1156 : (Jvm.Cond.instanceMethod ({ cls := "SherdFieldModel", name := "walk", desc := "(II)I" } : Jvm.MethodName)) ∈ gtb := gtb_t 1156 (by decide +kernel) (by decide +kernel)
theorem tw_1157 : (Jvm.Cond.selects "SherdFieldModel" ({ cls := "SherdFieldModel", name := "walk", desc := "(II)I" } : Jvm.MethodName) ({ cls := "SherdFieldModel", name := "walk", desc := "(II)I" } : Jvm.MethodName)) ∈ gtb := gtb_t 1157 (by decide +kernel) (by decide +kernel)
theorem tw_1158 : (Jvm.Cond.code ({ cls := "SherdFieldModel", name := "walk", desc := "(II)I" } : Jvm.MethodName) prog_14_method_14_code (3 : Nat) (Option.some Jvm.ClassFile.FieldType.int)) ∈ gtb := gtb_t 1158 (by decide +kernel) (by decide +kernel)
theorem tw_1159 : (Jvm.Cond.methodLink "SherdFieldModel" (136 : Nat) ({ cls := "SherdFieldModel", name := "isWalker", desc := "(I)Z" } : Jvm.MethodName)) ∈ gtb := gtb_t 1159 (by decide +kernel) (by decide +kernel)
theorem tw_1160 : (Jvm.Cond.static ({ cls := "SherdFieldModel", name := "isWalker", desc := "(I)Z" } : Jvm.MethodName)) ∈ gtb := gtb_t 1160 (by decide +kernel) (by decide +kernel)
theorem tw_1161 : (Jvm.Cond.code ({ cls := "SherdFieldModel", name := "isWalker", desc := "(I)Z" } : Jvm.MethodName) prog_14_method_7_code (1 : Nat) (Option.some Jvm.ClassFile.FieldType.boolean)) ∈ gtb := gtb_t 1161 (by decide +kernel) (by decide +kernel)
theorem tw_1162 : (Jvm.Cond.methodLink "SherdFieldModel" (139 : Nat) ({ cls := "SherdFieldModel", name := "isRow", desc := "(I)Z" } : Jvm.MethodName)) ∈ gtb := gtb_t 1162 (by decide +kernel) (by decide +kernel)
theorem tw_1164 : (Jvm.Cond.instanceMethod ({ cls := "SherdFieldModel", name := "isRow", desc := "(I)Z" } : Jvm.MethodName)) ∈ gtb := gtb_t 1164 (by decide +kernel) (by decide +kernel)
theorem tw_1165 : (Jvm.Cond.code ({ cls := "SherdFieldModel", name := "isRow", desc := "(I)Z" } : Jvm.MethodName) prog_14_method_5_code (2 : Nat) (Option.some Jvm.ClassFile.FieldType.boolean)) ∈ gtb := gtb_t 1165 (by decide +kernel) (by decide +kernel)
theorem tw_1166 : (Jvm.Cond.methodLink "SherdFieldModel" (145 : Nat) ({ cls := "SherdFieldModel", name := "letBy", desc := "(III)I" } : Jvm.MethodName)) ∈ gtb := gtb_t 1166 (by decide +kernel) (by decide +kernel)
theorem tw_1168 : (Jvm.Cond.instanceMethod ({ cls := "SherdFieldModel", name := "letBy", desc := "(III)I" } : Jvm.MethodName)) ∈ gtb := gtb_t 1168 (by decide +kernel) (by decide +kernel)
theorem tw_1169 : (Jvm.Cond.code ({ cls := "SherdFieldModel", name := "letBy", desc := "(III)I" } : Jvm.MethodName) prog_14_method_13_code (5 : Nat) (Option.some Jvm.ClassFile.FieldType.int)) ∈ gtb := gtb_t 1169 (by decide +kernel) (by decide +kernel)
theorem tw_1170 : (Jvm.Cond.methodLink "SherdFieldModel" (131 : Nat) ({ cls := "SherdFieldModel", name := "isLet", desc := "(IIII)Z" } : Jvm.MethodName)) ∈ gtb := gtb_t 1170 (by decide +kernel) (by decide +kernel)
theorem tw_1172 : (Jvm.Cond.instanceMethod ({ cls := "SherdFieldModel", name := "isLet", desc := "(IIII)Z" } : Jvm.MethodName)) ∈ gtb := gtb_t 1172 (by decide +kernel) (by decide +kernel)
theorem tw_1173 : (Jvm.Cond.code ({ cls := "SherdFieldModel", name := "isLet", desc := "(IIII)Z" } : Jvm.MethodName) prog_14_method_12_code (6 : Nat) (Option.some Jvm.ClassFile.FieldType.boolean)) ∈ gtb := gtb_t 1173 (by decide +kernel) (by decide +kernel)
theorem tw_1174 : (Jvm.Cond.constant "SherdFieldModel" (135 : Nat) (-1000000005 : Int32)) ∈ gtb := gtb_t 1174 (by decide +kernel) (by decide +kernel)
theorem tw_1175 : (Jvm.Cond.constant "SherdFieldModel" (149 : Nat) (-1000000002 : Int32)) ∈ gtb := gtb_t 1175 (by decide +kernel) (by decide +kernel)
theorem tw_1176 : (Jvm.Cond.constant "SherdFieldModel" (150 : Nat) (-1000000003 : Int32)) ∈ gtb := gtb_t 1176 (by decide +kernel) (by decide +kernel)
theorem tw_1177 : (Jvm.Cond.methodLink "SherdFieldLaw" (34 : Nat) ({ cls := "SherdFieldModel", name := "find", desc := "(IIII)I" } : Jvm.MethodName)) ∈ gtb := gtb_t 1177 (by decide +kernel) (by decide +kernel)
theorem tw_1178 : (Jvm.Cond.instanceMethod ({ cls := "SherdFieldModel", name := "find", desc := "(IIII)I" } : Jvm.MethodName)) ∈ gtb := gtb_t 1178 (by decide +kernel) (by decide +kernel)
theorem tw_1179 : (Jvm.Cond.selects "SherdFieldModel" ({ cls := "SherdFieldModel", name := "find", desc := "(IIII)I" } : Jvm.MethodName) ({ cls := "SherdFieldModel", name := "find", desc := "(IIII)I" } : Jvm.MethodName)) ∈ gtb := gtb_t 1179 (by decide +kernel) (by decide +kernel)
theorem tw_1180 : (Jvm.Cond.code ({ cls := "SherdFieldModel", name := "find", desc := "(IIII)I" } : Jvm.MethodName) prog_14_method_15_code (5 : Nat) (Option.some Jvm.ClassFile.FieldType.int)) ∈ gtb := gtb_t 1180 (by decide +kernel) (by decide +kernel)
theorem tw_1181 : (Jvm.Cond.methodLink "SherdFieldModel" (151 : Nat) ({ cls := "SherdFieldModel", name := "isWalk", desc := "(I)Z" } : Jvm.MethodName)) ∈ gtb := gtb_t 1181 (by decide +kernel) (by decide +kernel)
theorem tw_1183 : (Jvm.Cond.instanceMethod ({ cls := "SherdFieldModel", name := "isWalk", desc := "(I)Z" } : Jvm.MethodName)) ∈ gtb := gtb_t 1183 (by decide +kernel) (by decide +kernel)
theorem tw_1184 : (Jvm.Cond.code ({ cls := "SherdFieldModel", name := "isWalk", desc := "(I)Z" } : Jvm.MethodName) prog_14_method_8_code (2 : Nat) (Option.some Jvm.ClassFile.FieldType.boolean)) ∈ gtb := gtb_t 1184 (by decide +kernel) (by decide +kernel)
theorem tw_1185 : (Jvm.Cond.methodLink "SherdFieldModel" (154 : Nat) ({ cls := "SherdFieldModel", name := "isPace", desc := "(I)Z" } : Jvm.MethodName)) ∈ gtb := gtb_t 1185 (by decide +kernel) (by decide +kernel)
theorem tw_1187 : (Jvm.Cond.instanceMethod ({ cls := "SherdFieldModel", name := "isPace", desc := "(I)Z" } : Jvm.MethodName)) ∈ gtb := gtb_t 1187 (by decide +kernel) (by decide +kernel)
theorem tw_1188 : (Jvm.Cond.code ({ cls := "SherdFieldModel", name := "isPace", desc := "(I)Z" } : Jvm.MethodName) prog_14_method_4_code (2 : Nat) (Option.some Jvm.ClassFile.FieldType.boolean)) ∈ gtb := gtb_t 1188 (by decide +kernel) (by decide +kernel)
theorem tw_1189 : (Jvm.Cond.methodLink "SherdFieldLaw" (38 : Nat) ({ cls := "SherdFieldModel", name := "told", desc := "(II)I" } : Jvm.MethodName)) ∈ gtb := gtb_t 1189 (by decide +kernel) (by decide +kernel)
theorem tw_1190 : (Jvm.Cond.instanceMethod ({ cls := "SherdFieldModel", name := "told", desc := "(II)I" } : Jvm.MethodName)) ∈ gtb := gtb_t 1190 (by decide +kernel) (by decide +kernel)
theorem tw_1191 : (Jvm.Cond.selects "SherdFieldModel" ({ cls := "SherdFieldModel", name := "told", desc := "(II)I" } : Jvm.MethodName) ({ cls := "SherdFieldModel", name := "told", desc := "(II)I" } : Jvm.MethodName)) ∈ gtb := gtb_t 1191 (by decide +kernel) (by decide +kernel)
theorem tw_1192 : (Jvm.Cond.code ({ cls := "SherdFieldModel", name := "told", desc := "(II)I" } : Jvm.MethodName) prog_14_method_18_code (3 : Nat) (Option.some Jvm.ClassFile.FieldType.int)) ∈ gtb := gtb_t 1192 (by decide +kernel) (by decide +kernel)
theorem tw_1193 : (Jvm.Cond.methodLink "SherdFieldModel" (157 : Nat) ({ cls := "SherdFieldModel", name := "found", desc := "(IZ)I" } : Jvm.MethodName)) ∈ gtb := gtb_t 1193 (by decide +kernel) (by decide +kernel)
theorem tw_1195 : (Jvm.Cond.instanceMethod ({ cls := "SherdFieldModel", name := "found", desc := "(IZ)I" } : Jvm.MethodName)) ∈ gtb := gtb_t 1195 (by decide +kernel) (by decide +kernel)
theorem tw_1196 : (Jvm.Cond.code ({ cls := "SherdFieldModel", name := "found", desc := "(IZ)I" } : Jvm.MethodName) prog_14_method_16_code (5 : Nat) (Option.some Jvm.ClassFile.FieldType.int)) ∈ gtb := gtb_t 1196 (by decide +kernel) (by decide +kernel)
theorem tw_1197 : (Jvm.Cond.methodLink "SherdFieldModel" (161 : Nat) ({ cls := "SherdFieldModel", name := "walkOf", desc := "(I)I" } : Jvm.MethodName)) ∈ gtb := gtb_t 1197 (by decide +kernel) (by decide +kernel)
theorem tw_1199 : (Jvm.Cond.instanceMethod ({ cls := "SherdFieldModel", name := "walkOf", desc := "(I)I" } : Jvm.MethodName)) ∈ gtb := gtb_t 1199 (by decide +kernel) (by decide +kernel)
theorem tw_1200 : (Jvm.Cond.code ({ cls := "SherdFieldModel", name := "walkOf", desc := "(I)I" } : Jvm.MethodName) prog_14_method_17_code (6 : Nat) (Option.some Jvm.ClassFile.FieldType.int)) ∈ gtb := gtb_t 1200 (by decide +kernel) (by decide +kernel)
theorem tw_1201 : (Jvm.Cond.methodLink "SherdFieldLaw" (42 : Nat) ({ cls := "SherdFieldModel", name := "of", desc := "(II)I" } : Jvm.MethodName)) ∈ gtb := gtb_t 1201 (by decide +kernel) (by decide +kernel)
theorem tw_1202 : (Jvm.Cond.instanceMethod ({ cls := "SherdFieldModel", name := "of", desc := "(II)I" } : Jvm.MethodName)) ∈ gtb := gtb_t 1202 (by decide +kernel) (by decide +kernel)
theorem tw_1203 : (Jvm.Cond.selects "SherdFieldModel" ({ cls := "SherdFieldModel", name := "of", desc := "(II)I" } : Jvm.MethodName) ({ cls := "SherdFieldModel", name := "of", desc := "(II)I" } : Jvm.MethodName)) ∈ gtb := gtb_t 1203 (by decide +kernel) (by decide +kernel)
theorem tw_1204 : (Jvm.Cond.code ({ cls := "SherdFieldModel", name := "of", desc := "(II)I" } : Jvm.MethodName) prog_14_method_19_code (3 : Nat) (Option.some Jvm.ClassFile.FieldType.int)) ∈ gtb := gtb_t 1204 (by decide +kernel) (by decide +kernel)
theorem tw_1205 : (Jvm.Cond.methodLink "SherdFieldLaw" (46 : Nat) ({ cls := "SherdFieldModel", name := "count", desc := "(II)I" } : Jvm.MethodName)) ∈ gtb := gtb_t 1205 (by decide +kernel) (by decide +kernel)
theorem tw_1206 : (Jvm.Cond.instanceMethod ({ cls := "SherdFieldModel", name := "count", desc := "(II)I" } : Jvm.MethodName)) ∈ gtb := gtb_t 1206 (by decide +kernel) (by decide +kernel)
theorem tw_1207 : (Jvm.Cond.selects "SherdFieldModel" ({ cls := "SherdFieldModel", name := "count", desc := "(II)I" } : Jvm.MethodName) ({ cls := "SherdFieldModel", name := "count", desc := "(II)I" } : Jvm.MethodName)) ∈ gtb := gtb_t 1207 (by decide +kernel) (by decide +kernel)
theorem tw_1208 : (Jvm.Cond.code ({ cls := "SherdFieldModel", name := "count", desc := "(II)I" } : Jvm.MethodName) prog_14_method_21_code (3 : Nat) (Option.some Jvm.ClassFile.FieldType.int)) ∈ gtb := gtb_t 1208 (by decide +kernel) (by decide +kernel)
theorem tw_1209 : (Jvm.Cond.methodLink "SherdFieldModel" (165 : Nat) ({ cls := "SherdFieldModel", name := "at", desc := "(III)I" } : Jvm.MethodName)) ∈ gtb := gtb_t 1209 (by decide +kernel) (by decide +kernel)
theorem tw_1211 : (Jvm.Cond.instanceMethod ({ cls := "SherdFieldModel", name := "at", desc := "(III)I" } : Jvm.MethodName)) ∈ gtb := gtb_t 1211 (by decide +kernel) (by decide +kernel)
theorem tw_1212 : (Jvm.Cond.code ({ cls := "SherdFieldModel", name := "at", desc := "(III)I" } : Jvm.MethodName) prog_14_method_20_code (6 : Nat) (Option.some Jvm.ClassFile.FieldType.int)) ∈ gtb := gtb_t 1212 (by decide +kernel) (by decide +kernel)
theorem tw_1213 : (Jvm.Cond.methodLink "SherdFieldLaw" (51 : Nat) ({ cls := "SherdFieldModel", name := "gap", desc := "()I" } : Jvm.MethodName)) ∈ gtb := gtb_t 1213 (by decide +kernel) (by decide +kernel)
theorem tw_1214 : (Jvm.Cond.instanceMethod ({ cls := "SherdFieldModel", name := "gap", desc := "()I" } : Jvm.MethodName)) ∈ gtb := gtb_t 1214 (by decide +kernel) (by decide +kernel)
theorem tw_1215 : (Jvm.Cond.selects "SherdFieldModel" ({ cls := "SherdFieldModel", name := "gap", desc := "()I" } : Jvm.MethodName) ({ cls := "SherdFieldModel", name := "gap", desc := "()I" } : Jvm.MethodName)) ∈ gtb := gtb_t 1215 (by decide +kernel) (by decide +kernel)
theorem tw_1216 : (Jvm.Cond.code ({ cls := "SherdFieldModel", name := "gap", desc := "()I" } : Jvm.MethodName) prog_14_method_22_code (2 : Nat) (Option.some Jvm.ClassFile.FieldType.int)) ∈ gtb := gtb_t 1216 (by decide +kernel) (by decide +kernel)
theorem tw_1217 : (Jvm.Cond.methodLink "SherdFieldLaw" (55 : Nat) ({ cls := "SherdFieldModel", name := "led", desc := "(II)I" } : Jvm.MethodName)) ∈ gtb := gtb_t 1217 (by decide +kernel) (by decide +kernel)
theorem tw_1218 : (Jvm.Cond.instanceMethod ({ cls := "SherdFieldModel", name := "led", desc := "(II)I" } : Jvm.MethodName)) ∈ gtb := gtb_t 1218 (by decide +kernel) (by decide +kernel)
theorem tw_1219 : (Jvm.Cond.selects "SherdFieldModel" ({ cls := "SherdFieldModel", name := "led", desc := "(II)I" } : Jvm.MethodName) ({ cls := "SherdFieldModel", name := "led", desc := "(II)I" } : Jvm.MethodName)) ∈ gtb := gtb_t 1219 (by decide +kernel) (by decide +kernel)
theorem tw_1220 : (Jvm.Cond.code ({ cls := "SherdFieldModel", name := "led", desc := "(II)I" } : Jvm.MethodName) prog_14_method_23_code (6 : Nat) (Option.some Jvm.ClassFile.FieldType.int)) ∈ gtb := gtb_t 1220 (by decide +kernel) (by decide +kernel)
theorem tw_1221 : (Jvm.Cond.methodLink "SherdFieldLaw" (60 : Nat) ({ cls := "SherdFieldModel", name := "pair", desc := "(III)I" } : Jvm.MethodName)) ∈ gtb := gtb_t 1221 (by decide +kernel) (by decide +kernel)
theorem tw_1222 : (Jvm.Cond.instanceMethod ({ cls := "SherdFieldModel", name := "pair", desc := "(III)I" } : Jvm.MethodName)) ∈ gtb := gtb_t 1222 (by decide +kernel) (by decide +kernel)
theorem tw_1223 : (Jvm.Cond.selects "SherdFieldModel" ({ cls := "SherdFieldModel", name := "pair", desc := "(III)I" } : Jvm.MethodName) ({ cls := "SherdFieldModel", name := "pair", desc := "(III)I" } : Jvm.MethodName)) ∈ gtb := gtb_t 1223 (by decide +kernel) (by decide +kernel)
theorem tw_1224 : (Jvm.Cond.code ({ cls := "SherdFieldModel", name := "pair", desc := "(III)I" } : Jvm.MethodName) prog_14_method_24_code (7 : Nat) (Option.some Jvm.ClassFile.FieldType.int)) ∈ gtb := gtb_t 1224 (by decide +kernel) (by decide +kernel)
theorem tw_1225 : (Jvm.Cond.methodLink "SherdFieldLaw" (65 : Nat) ({ cls := "SherdFieldModel", name := "eye", desc := "(I)I" } : Jvm.MethodName)) ∈ gtb := gtb_t 1225 (by decide +kernel) (by decide +kernel)
theorem tw_1226 : (Jvm.Cond.instanceMethod ({ cls := "SherdFieldModel", name := "eye", desc := "(I)I" } : Jvm.MethodName)) ∈ gtb := gtb_t 1226 (by decide +kernel) (by decide +kernel)
theorem tw_1227 : (Jvm.Cond.selects "SherdFieldModel" ({ cls := "SherdFieldModel", name := "eye", desc := "(I)I" } : Jvm.MethodName) ({ cls := "SherdFieldModel", name := "eye", desc := "(I)I" } : Jvm.MethodName)) ∈ gtb := gtb_t 1227 (by decide +kernel) (by decide +kernel)
theorem tw_1228 : (Jvm.Cond.code ({ cls := "SherdFieldModel", name := "eye", desc := "(I)I" } : Jvm.MethodName) prog_14_method_26_code (2 : Nat) (Option.some Jvm.ClassFile.FieldType.int)) ∈ gtb := gtb_t 1228 (by decide +kernel) (by decide +kernel)
theorem tw_1229 : (Jvm.Cond.methodLink "SherdFieldModel" (168 : Nat) ({ cls := "SherdFieldModel", name := "eyeOf", desc := "(I)I" } : Jvm.MethodName)) ∈ gtb := gtb_t 1229 (by decide +kernel) (by decide +kernel)
theorem tw_1231 : (Jvm.Cond.instanceMethod ({ cls := "SherdFieldModel", name := "eyeOf", desc := "(I)I" } : Jvm.MethodName)) ∈ gtb := gtb_t 1231 (by decide +kernel) (by decide +kernel)
theorem tw_1232 : (Jvm.Cond.code ({ cls := "SherdFieldModel", name := "eyeOf", desc := "(I)I" } : Jvm.MethodName) prog_14_method_25_code (6 : Nat) (Option.some Jvm.ClassFile.FieldType.int)) ∈ gtb := gtb_t 1232 (by decide +kernel) (by decide +kernel)
theorem tw_1233 : (Jvm.Cond.methodLink "SherdFieldLaw" (69 : Nat) ({ cls := "SherdFieldModel", name := "corrected", desc := "(II)I" } : Jvm.MethodName)) ∈ gtb := gtb_t 1233 (by decide +kernel) (by decide +kernel)
theorem tw_1234 : (Jvm.Cond.instanceMethod ({ cls := "SherdFieldModel", name := "corrected", desc := "(II)I" } : Jvm.MethodName)) ∈ gtb := gtb_t 1234 (by decide +kernel) (by decide +kernel)
theorem tw_1235 : (Jvm.Cond.selects "SherdFieldModel" ({ cls := "SherdFieldModel", name := "corrected", desc := "(II)I" } : Jvm.MethodName) ({ cls := "SherdFieldModel", name := "corrected", desc := "(II)I" } : Jvm.MethodName)) ∈ gtb := gtb_t 1235 (by decide +kernel) (by decide +kernel)
theorem tw_1236 : (Jvm.Cond.code ({ cls := "SherdFieldModel", name := "corrected", desc := "(II)I" } : Jvm.MethodName) prog_14_method_29_code (3 : Nat) (Option.some Jvm.ClassFile.FieldType.int)) ∈ gtb := gtb_t 1236 (by decide +kernel) (by decide +kernel)
theorem tw_1237 : (Jvm.Cond.methodLink "SherdFieldModel" (171 : Nat) ({ cls := "SherdFieldModel", name := "look", desc := "()V" } : Jvm.MethodName)) ∈ gtb := gtb_t 1237 (by decide +kernel) (by decide +kernel)
theorem tw_1239 : (Jvm.Cond.instanceMethod ({ cls := "SherdFieldModel", name := "look", desc := "()V" } : Jvm.MethodName)) ∈ gtb := gtb_t 1239 (by decide +kernel) (by decide +kernel)
theorem tw_1240 : (Jvm.Cond.code ({ cls := "SherdFieldModel", name := "look", desc := "()V" } : Jvm.MethodName) prog_14_method_27_code (2 : Nat) (Option.none : Option Jvm.ClassFile.FieldType)) ∈ gtb := gtb_t 1240 (by decide +kernel) (by decide +kernel)
theorem tw_1241 : (Jvm.Cond.methodLink "SherdFieldModel" (174 : Nat) ({ cls := "SherdFieldModel", name := "correctedAt", desc := "(II)I" } : Jvm.MethodName)) ∈ gtb := gtb_t 1241 (by decide +kernel) (by decide +kernel)
theorem tw_1243 : (Jvm.Cond.instanceMethod ({ cls := "SherdFieldModel", name := "correctedAt", desc := "(II)I" } : Jvm.MethodName)) ∈ gtb := gtb_t 1243 (by decide +kernel) (by decide +kernel)
theorem tw_1244 : (Jvm.Cond.code ({ cls := "SherdFieldModel", name := "correctedAt", desc := "(II)I" } : Jvm.MethodName) prog_14_method_28_code (7 : Nat) (Option.some Jvm.ClassFile.FieldType.int)) ∈ gtb := gtb_t 1244 (by decide +kernel) (by decide +kernel)
theorem tw_1245 : (Jvm.Cond.methodLink "SherdFieldLaw" (73 : Nat) ({ cls := "SherdFieldModel", name := "worth", desc := "(II)I" } : Jvm.MethodName)) ∈ gtb := gtb_t 1245 (by decide +kernel) (by decide +kernel)
theorem tw_1246 : (Jvm.Cond.instanceMethod ({ cls := "SherdFieldModel", name := "worth", desc := "(II)I" } : Jvm.MethodName)) ∈ gtb := gtb_t 1246 (by decide +kernel) (by decide +kernel)
theorem tw_1247 : (Jvm.Cond.selects "SherdFieldModel" ({ cls := "SherdFieldModel", name := "worth", desc := "(II)I" } : Jvm.MethodName) ({ cls := "SherdFieldModel", name := "worth", desc := "(II)I" } : Jvm.MethodName)) ∈ gtb := gtb_t 1247 (by decide +kernel) (by decide +kernel)
theorem tw_1248 : (Jvm.Cond.code ({ cls := "SherdFieldModel", name := "worth", desc := "(II)I" } : Jvm.MethodName) prog_14_method_32_code (3 : Nat) (Option.some Jvm.ClassFile.FieldType.int)) ∈ gtb := gtb_t 1248 (by decide +kernel) (by decide +kernel)
theorem tw_1249 : (Jvm.Cond.methodLink "SherdFieldModel" (178 : Nat) ({ cls := "SherdFieldModel", name := "weigh", desc := "()V" } : Jvm.MethodName)) ∈ gtb := gtb_t 1249 (by decide +kernel) (by decide +kernel)
theorem tw_1251 : (Jvm.Cond.instanceMethod ({ cls := "SherdFieldModel", name := "weigh", desc := "()V" } : Jvm.MethodName)) ∈ gtb := gtb_t 1251 (by decide +kernel) (by decide +kernel)
theorem tw_1252 : (Jvm.Cond.code ({ cls := "SherdFieldModel", name := "weigh", desc := "()V" } : Jvm.MethodName) prog_14_method_30_code (3 : Nat) (Option.none : Option Jvm.ClassFile.FieldType)) ∈ gtb := gtb_t 1252 (by decide +kernel) (by decide +kernel)
theorem tw_1253 : (Jvm.Cond.methodLink "SherdFieldModel" (181 : Nat) ({ cls := "SherdFieldModel", name := "ring", desc := "(I)I" } : Jvm.MethodName)) ∈ gtb := gtb_t 1253 (by decide +kernel) (by decide +kernel)
theorem tw_1255 : (Jvm.Cond.instanceMethod ({ cls := "SherdFieldModel", name := "ring", desc := "(I)I" } : Jvm.MethodName)) ∈ gtb := gtb_t 1255 (by decide +kernel) (by decide +kernel)
theorem tw_1256 : (Jvm.Cond.code ({ cls := "SherdFieldModel", name := "ring", desc := "(I)I" } : Jvm.MethodName) prog_14_method_31_code (5 : Nat) (Option.some Jvm.ClassFile.FieldType.int)) ∈ gtb := gtb_t 1256 (by decide +kernel) (by decide +kernel)
theorem tw_1257 : (Jvm.Cond.methodLink "SherdFieldLaw" (77 : Nat) ({ cls := "SherdFieldModel", name := "greatest", desc := "()I" } : Jvm.MethodName)) ∈ gtb := gtb_t 1257 (by decide +kernel) (by decide +kernel)
theorem tw_1258 : (Jvm.Cond.instanceMethod ({ cls := "SherdFieldModel", name := "greatest", desc := "()I" } : Jvm.MethodName)) ∈ gtb := gtb_t 1258 (by decide +kernel) (by decide +kernel)
theorem tw_1259 : (Jvm.Cond.selects "SherdFieldModel" ({ cls := "SherdFieldModel", name := "greatest", desc := "()I" } : Jvm.MethodName) ({ cls := "SherdFieldModel", name := "greatest", desc := "()I" } : Jvm.MethodName)) ∈ gtb := gtb_t 1259 (by decide +kernel) (by decide +kernel)
theorem tw_1260 : (Jvm.Cond.code ({ cls := "SherdFieldModel", name := "greatest", desc := "()I" } : Jvm.MethodName) prog_14_method_34_code (1 : Nat) (Option.some Jvm.ClassFile.FieldType.int)) ∈ gtb := gtb_t 1260 (by decide +kernel) (by decide +kernel)
theorem tw_1261 : (Jvm.Cond.methodLink "SherdFieldModel" (184 : Nat) ({ cls := "SherdFieldModel", name := "best", desc := "()I" } : Jvm.MethodName)) ∈ gtb := gtb_t 1261 (by decide +kernel) (by decide +kernel)
theorem tw_1263 : (Jvm.Cond.instanceMethod ({ cls := "SherdFieldModel", name := "best", desc := "()I" } : Jvm.MethodName)) ∈ gtb := gtb_t 1263 (by decide +kernel) (by decide +kernel)
theorem tw_1264 : (Jvm.Cond.code ({ cls := "SherdFieldModel", name := "best", desc := "()I" } : Jvm.MethodName) prog_14_method_33_code (3 : Nat) (Option.some Jvm.ClassFile.FieldType.int)) ∈ gtb := gtb_t 1264 (by decide +kernel) (by decide +kernel)
theorem tw_1265 : (Jvm.Cond.methodLink "SherdFieldLaw" (81 : Nat) ({ cls := "SherdFieldModel", name := "heap", desc := "(II)I" } : Jvm.MethodName)) ∈ gtb := gtb_t 1265 (by decide +kernel) (by decide +kernel)
theorem tw_1266 : (Jvm.Cond.instanceMethod ({ cls := "SherdFieldModel", name := "heap", desc := "(II)I" } : Jvm.MethodName)) ∈ gtb := gtb_t 1266 (by decide +kernel) (by decide +kernel)
theorem tw_1267 : (Jvm.Cond.selects "SherdFieldModel" ({ cls := "SherdFieldModel", name := "heap", desc := "(II)I" } : Jvm.MethodName) ({ cls := "SherdFieldModel", name := "heap", desc := "(II)I" } : Jvm.MethodName)) ∈ gtb := gtb_t 1267 (by decide +kernel) (by decide +kernel)
theorem tw_1268 : (Jvm.Cond.code ({ cls := "SherdFieldModel", name := "heap", desc := "(II)I" } : Jvm.MethodName) prog_14_method_35_code (11 : Nat) (Option.some Jvm.ClassFile.FieldType.int)) ∈ gtb := gtb_t 1268 (by decide +kernel) (by decide +kernel)
theorem tw_1269 : (Jvm.Cond.constant "SherdFieldModel" (187 : Nat) (1103515245 : Int32)) ∈ gtb := gtb_t 1269 (by decide +kernel) (by decide +kernel)
theorem tw_1270 : (Jvm.Cond.methodLink "SherdFieldLaw" (85 : Nat) ({ cls := "SherdFieldModel", name := "spade", desc := "(II)I" } : Jvm.MethodName)) ∈ gtb := gtb_t 1270 (by decide +kernel) (by decide +kernel)
theorem tw_1271 : (Jvm.Cond.instanceMethod ({ cls := "SherdFieldModel", name := "spade", desc := "(II)I" } : Jvm.MethodName)) ∈ gtb := gtb_t 1271 (by decide +kernel) (by decide +kernel)
theorem tw_1272 : (Jvm.Cond.selects "SherdFieldModel" ({ cls := "SherdFieldModel", name := "spade", desc := "(II)I" } : Jvm.MethodName) ({ cls := "SherdFieldModel", name := "spade", desc := "(II)I" } : Jvm.MethodName)) ∈ gtb := gtb_t 1272 (by decide +kernel) (by decide +kernel)
theorem tw_1273 : (Jvm.Cond.code ({ cls := "SherdFieldModel", name := "spade", desc := "(II)I" } : Jvm.MethodName) prog_14_method_36_code (4 : Nat) (Option.some Jvm.ClassFile.FieldType.int)) ∈ gtb := gtb_t 1273 (by decide +kernel) (by decide +kernel)
theorem tw_1274 : (Jvm.Cond.methodLink "SherdFieldLaw" (89 : Nat) ({ cls := "SherdFieldModel", name := "rule", desc := "(II)I" } : Jvm.MethodName)) ∈ gtb := gtb_t 1274 (by decide +kernel) (by decide +kernel)
theorem tw_1275 : (Jvm.Cond.instanceMethod ({ cls := "SherdFieldModel", name := "rule", desc := "(II)I" } : Jvm.MethodName)) ∈ gtb := gtb_t 1275 (by decide +kernel) (by decide +kernel)
theorem tw_1276 : (Jvm.Cond.selects "SherdFieldModel" ({ cls := "SherdFieldModel", name := "rule", desc := "(II)I" } : Jvm.MethodName) ({ cls := "SherdFieldModel", name := "rule", desc := "(II)I" } : Jvm.MethodName)) ∈ gtb := gtb_t 1276 (by decide +kernel) (by decide +kernel)
theorem tw_1277 : (Jvm.Cond.code ({ cls := "SherdFieldModel", name := "rule", desc := "(II)I" } : Jvm.MethodName) prog_14_method_37_code (4 : Nat) (Option.some Jvm.ClassFile.FieldType.int)) ∈ gtb := gtb_t 1277 (by decide +kernel) (by decide +kernel)
theorem tw_1278 : (Jvm.Cond.methodLink "SherdFieldLaw" (93 : Nat) ({ cls := "SherdFieldModel", name := "plough", desc := "(II)I" } : Jvm.MethodName)) ∈ gtb := gtb_t 1278 (by decide +kernel) (by decide +kernel)
theorem tw_1279 : (Jvm.Cond.instanceMethod ({ cls := "SherdFieldModel", name := "plough", desc := "(II)I" } : Jvm.MethodName)) ∈ gtb := gtb_t 1279 (by decide +kernel) (by decide +kernel)
theorem tw_1280 : (Jvm.Cond.selects "SherdFieldModel" ({ cls := "SherdFieldModel", name := "plough", desc := "(II)I" } : Jvm.MethodName) ({ cls := "SherdFieldModel", name := "plough", desc := "(II)I" } : Jvm.MethodName)) ∈ gtb := gtb_t 1280 (by decide +kernel) (by decide +kernel)
theorem tw_1281 : (Jvm.Cond.code ({ cls := "SherdFieldModel", name := "plough", desc := "(II)I" } : Jvm.MethodName) prog_14_method_40_code (4 : Nat) (Option.some Jvm.ClassFile.FieldType.int)) ∈ gtb := gtb_t 1281 (by decide +kernel) (by decide +kernel)
theorem tw_1282 : (Jvm.Cond.constant "SherdFieldModel" (194 : Nat) (-1000000011 : Int32)) ∈ gtb := gtb_t 1282 (by decide +kernel) (by decide +kernel)
theorem tw_1283 : (Jvm.Cond.methodLink "SherdFieldModel" (195 : Nat) ({ cls := "SherdFieldModel", name := "ploughOnce", desc := "()V" } : Jvm.MethodName)) ∈ gtb := gtb_t 1283 (by decide +kernel) (by decide +kernel)
theorem tw_1285 : (Jvm.Cond.instanceMethod ({ cls := "SherdFieldModel", name := "ploughOnce", desc := "()V" } : Jvm.MethodName)) ∈ gtb := gtb_t 1285 (by decide +kernel) (by decide +kernel)
theorem tw_1286 : (Jvm.Cond.code ({ cls := "SherdFieldModel", name := "ploughOnce", desc := "()V" } : Jvm.MethodName) prog_14_method_39_code (3 : Nat) (Option.none : Option Jvm.ClassFile.FieldType)) ∈ gtb := gtb_t 1286 (by decide +kernel) (by decide +kernel)
theorem tw_1287 : (Jvm.Cond.methodLink "SherdFieldModel" (191 : Nat) ({ cls := "SherdFieldModel", name := "besideMany", desc := "(I)I" } : Jvm.MethodName)) ∈ gtb := gtb_t 1287 (by decide +kernel) (by decide +kernel)
theorem tw_1289 : (Jvm.Cond.instanceMethod ({ cls := "SherdFieldModel", name := "besideMany", desc := "(I)I" } : Jvm.MethodName)) ∈ gtb := gtb_t 1289 (by decide +kernel) (by decide +kernel)
theorem tw_1290 : (Jvm.Cond.code ({ cls := "SherdFieldModel", name := "besideMany", desc := "(I)I" } : Jvm.MethodName) prog_14_method_38_code (3 : Nat) (Option.some Jvm.ClassFile.FieldType.int)) ∈ gtb := gtb_t 1290 (by decide +kernel) (by decide +kernel)
theorem tw_1291 : (Jvm.Cond.methodLink "SherdFieldLaw" (97 : Nat) ({ cls := "SherdFieldModel", name := "profile", desc := "(III)I" } : Jvm.MethodName)) ∈ gtb := gtb_t 1291 (by decide +kernel) (by decide +kernel)
theorem tw_1292 : (Jvm.Cond.instanceMethod ({ cls := "SherdFieldModel", name := "profile", desc := "(III)I" } : Jvm.MethodName)) ∈ gtb := gtb_t 1292 (by decide +kernel) (by decide +kernel)
theorem tw_1293 : (Jvm.Cond.selects "SherdFieldModel" ({ cls := "SherdFieldModel", name := "profile", desc := "(III)I" } : Jvm.MethodName) ({ cls := "SherdFieldModel", name := "profile", desc := "(III)I" } : Jvm.MethodName)) ∈ gtb := gtb_t 1293 (by decide +kernel) (by decide +kernel)
theorem tw_1294 : (Jvm.Cond.code ({ cls := "SherdFieldModel", name := "profile", desc := "(III)I" } : Jvm.MethodName) prog_14_method_41_code (5 : Nat) (Option.some Jvm.ClassFile.FieldType.int)) ∈ gtb := gtb_t 1294 (by decide +kernel) (by decide +kernel)
theorem tw_1295 : (Jvm.Cond.methodLink "SherdFieldLaw" (101 : Nat) ({ cls := "SherdFieldModel", name := "mixed", desc := "(I)I" } : Jvm.MethodName)) ∈ gtb := gtb_t 1295 (by decide +kernel) (by decide +kernel)
theorem tw_1296 : (Jvm.Cond.instanceMethod ({ cls := "SherdFieldModel", name := "mixed", desc := "(I)I" } : Jvm.MethodName)) ∈ gtb := gtb_t 1296 (by decide +kernel) (by decide +kernel)
theorem tw_1297 : (Jvm.Cond.selects "SherdFieldModel" ({ cls := "SherdFieldModel", name := "mixed", desc := "(I)I" } : Jvm.MethodName) ({ cls := "SherdFieldModel", name := "mixed", desc := "(I)I" } : Jvm.MethodName)) ∈ gtb := gtb_t 1297 (by decide +kernel) (by decide +kernel)
theorem tw_1298 : (Jvm.Cond.code ({ cls := "SherdFieldModel", name := "mixed", desc := "(I)I" } : Jvm.MethodName) prog_14_method_43_code (10 : Nat) (Option.some Jvm.ClassFile.FieldType.int)) ∈ gtb := gtb_t 1298 (by decide +kernel) (by decide +kernel)
theorem tw_1299 : (Jvm.Cond.methodLink "SherdFieldModel" (200 : Nat) ({ cls := "SherdFieldModel", name := "far", desc := "(III)J" } : Jvm.MethodName)) ∈ gtb := gtb_t 1299 (by decide +kernel) (by decide +kernel)
theorem tw_1301 : (Jvm.Cond.instanceMethod ({ cls := "SherdFieldModel", name := "far", desc := "(III)J" } : Jvm.MethodName)) ∈ gtb := gtb_t 1301 (by decide +kernel) (by decide +kernel)
theorem tw_1302 : (Jvm.Cond.code ({ cls := "SherdFieldModel", name := "far", desc := "(III)J" } : Jvm.MethodName) prog_14_method_42_code (9 : Nat) (Option.some Jvm.ClassFile.FieldType.long)) ∈ gtb := gtb_t 1302 (by decide +kernel) (by decide +kernel)
theorem tw_1303 : (Jvm.Cond.constantLong "SherdFieldModel" (198 : Nat) (20 : Int64)) ∈ gtb := gtb_t 1303 (by decide +kernel) (by decide +kernel)
theorem tw_1304 : (Jvm.Cond.methodLink "SherdFieldLaw" (105 : Nat) ({ cls := "SherdFieldModel", name := "feed", desc := "(III)I" } : Jvm.MethodName)) ∈ gtb := gtb_t 1304 (by decide +kernel) (by decide +kernel)
theorem tw_1305 : (Jvm.Cond.instanceMethod ({ cls := "SherdFieldModel", name := "feed", desc := "(III)I" } : Jvm.MethodName)) ∈ gtb := gtb_t 1305 (by decide +kernel) (by decide +kernel)
theorem tw_1306 : (Jvm.Cond.selects "SherdFieldModel" ({ cls := "SherdFieldModel", name := "feed", desc := "(III)I" } : Jvm.MethodName) ({ cls := "SherdFieldModel", name := "feed", desc := "(III)I" } : Jvm.MethodName)) ∈ gtb := gtb_t 1306 (by decide +kernel) (by decide +kernel)
theorem tw_1307 : (Jvm.Cond.code ({ cls := "SherdFieldModel", name := "feed", desc := "(III)I" } : Jvm.MethodName) prog_14_method_45_code (4 : Nat) (Option.some Jvm.ClassFile.FieldType.int)) ∈ gtb := gtb_t 1307 (by decide +kernel) (by decide +kernel)
theorem tw_1308 : (Jvm.Cond.methodLink "SherdFieldModel" (207 : Nat) ({ cls := "SherdFieldModel", name := "four", desc := "(I)V" } : Jvm.MethodName)) ∈ gtb := gtb_t 1308 (by decide +kernel) (by decide +kernel)
theorem tw_1310 : (Jvm.Cond.instanceMethod ({ cls := "SherdFieldModel", name := "four", desc := "(I)V" } : Jvm.MethodName)) ∈ gtb := gtb_t 1310 (by decide +kernel) (by decide +kernel)
theorem tw_1311 : (Jvm.Cond.code ({ cls := "SherdFieldModel", name := "four", desc := "(I)V" } : Jvm.MethodName) prog_14_method_44_code (3 : Nat) (Option.none : Option Jvm.ClassFile.FieldType)) ∈ gtb := gtb_t 1311 (by decide +kernel) (by decide +kernel)
theorem tw_1312 : (Jvm.Cond.methodLink "SherdFieldLaw" (109 : Nat) ({ cls := "SherdFieldModel", name := "trim", desc := "(I)I" } : Jvm.MethodName)) ∈ gtb := gtb_t 1312 (by decide +kernel) (by decide +kernel)
theorem tw_1313 : (Jvm.Cond.instanceMethod ({ cls := "SherdFieldModel", name := "trim", desc := "(I)I" } : Jvm.MethodName)) ∈ gtb := gtb_t 1313 (by decide +kernel) (by decide +kernel)
theorem tw_1314 : (Jvm.Cond.selects "SherdFieldModel" ({ cls := "SherdFieldModel", name := "trim", desc := "(I)I" } : Jvm.MethodName) ({ cls := "SherdFieldModel", name := "trim", desc := "(I)I" } : Jvm.MethodName)) ∈ gtb := gtb_t 1314 (by decide +kernel) (by decide +kernel)
theorem tw_1315 : (Jvm.Cond.code ({ cls := "SherdFieldModel", name := "trim", desc := "(I)I" } : Jvm.MethodName) prog_14_method_46_code (2 : Nat) (Option.some Jvm.ClassFile.FieldType.int)) ∈ gtb := gtb_t 1315 (by decide +kernel) (by decide +kernel)
theorem tw_1316 : (Jvm.Cond.methodLink "SherdFieldLaw" (113 : Nat) ({ cls := "SherdFieldModel", name := "leave", desc := "()I" } : Jvm.MethodName)) ∈ gtb := gtb_t 1316 (by decide +kernel) (by decide +kernel)
theorem tw_1317 : (Jvm.Cond.instanceMethod ({ cls := "SherdFieldModel", name := "leave", desc := "()I" } : Jvm.MethodName)) ∈ gtb := gtb_t 1317 (by decide +kernel) (by decide +kernel)
theorem tw_1318 : (Jvm.Cond.selects "SherdFieldModel" ({ cls := "SherdFieldModel", name := "leave", desc := "()I" } : Jvm.MethodName) ({ cls := "SherdFieldModel", name := "leave", desc := "()I" } : Jvm.MethodName)) ∈ gtb := gtb_t 1318 (by decide +kernel) (by decide +kernel)
theorem tw_1319 : (Jvm.Cond.code ({ cls := "SherdFieldModel", name := "leave", desc := "()I" } : Jvm.MethodName) prog_14_method_54_code (3 : Nat) (Option.some Jvm.ClassFile.FieldType.int)) ∈ gtb := gtb_t 1319 (by decide +kernel) (by decide +kernel)
theorem tw_1320 : (Jvm.Cond.methodLink "SherdFieldModel" (240 : Nat) ({ cls := "SherdFieldModel", name := "readLeave", desc := "(I)I" } : Jvm.MethodName)) ∈ gtb := gtb_t 1320 (by decide +kernel) (by decide +kernel)
theorem tw_1322 : (Jvm.Cond.instanceMethod ({ cls := "SherdFieldModel", name := "readLeave", desc := "(I)I" } : Jvm.MethodName)) ∈ gtb := gtb_t 1322 (by decide +kernel) (by decide +kernel)
theorem tw_1323 : (Jvm.Cond.code ({ cls := "SherdFieldModel", name := "readLeave", desc := "(I)I" } : Jvm.MethodName) prog_14_method_52_code (5 : Nat) (Option.some Jvm.ClassFile.FieldType.int)) ∈ gtb := gtb_t 1323 (by decide +kernel) (by decide +kernel)
theorem tw_1324 : (Jvm.Cond.methodLink "SherdFieldModel" (220 : Nat) ({ cls := "SherdFieldModel", name := "next", desc := "()V" } : Jvm.MethodName)) ∈ gtb := gtb_t 1324 (by decide +kernel) (by decide +kernel)
theorem tw_1326 : (Jvm.Cond.instanceMethod ({ cls := "SherdFieldModel", name := "next", desc := "()V" } : Jvm.MethodName)) ∈ gtb := gtb_t 1326 (by decide +kernel) (by decide +kernel)
theorem tw_1327 : (Jvm.Cond.code ({ cls := "SherdFieldModel", name := "next", desc := "()V" } : Jvm.MethodName) prog_14_method_47_code (1 : Nat) (Option.none : Option Jvm.ClassFile.FieldType)) ∈ gtb := gtb_t 1327 (by decide +kernel) (by decide +kernel)
theorem tw_1328 : (Jvm.Cond.methodLink "SherdFieldModel" (228 : Nat) ({ cls := "SherdFieldModel", name := "isWord", desc := "(IIII)Z" } : Jvm.MethodName)) ∈ gtb := gtb_t 1328 (by decide +kernel) (by decide +kernel)
theorem tw_1330 : (Jvm.Cond.instanceMethod ({ cls := "SherdFieldModel", name := "isWord", desc := "(IIII)Z" } : Jvm.MethodName)) ∈ gtb := gtb_t 1330 (by decide +kernel) (by decide +kernel)
theorem tw_1331 : (Jvm.Cond.code ({ cls := "SherdFieldModel", name := "isWord", desc := "(IIII)Z" } : Jvm.MethodName) prog_14_method_49_code (6 : Nat) (Option.some Jvm.ClassFile.FieldType.boolean)) ∈ gtb := gtb_t 1331 (by decide +kernel) (by decide +kernel)
theorem tw_1332 : (Jvm.Cond.methodLink "SherdFieldModel" (234 : Nat) ({ cls := "SherdFieldModel", name := "isSpan", desc := "(I)Z" } : Jvm.MethodName)) ∈ gtb := gtb_t 1332 (by decide +kernel) (by decide +kernel)
theorem tw_1334 : (Jvm.Cond.instanceMethod ({ cls := "SherdFieldModel", name := "isSpan", desc := "(I)Z" } : Jvm.MethodName)) ∈ gtb := gtb_t 1334 (by decide +kernel) (by decide +kernel)
theorem tw_1335 : (Jvm.Cond.code ({ cls := "SherdFieldModel", name := "isSpan", desc := "(I)Z" } : Jvm.MethodName) prog_14_method_51_code (2 : Nat) (Option.some Jvm.ClassFile.FieldType.boolean)) ∈ gtb := gtb_t 1335 (by decide +kernel) (by decide +kernel)
theorem tw_1336 : (Jvm.Cond.methodLink "SherdFieldModel" (222 : Nat) ({ cls := "SherdFieldModel", name := "number", desc := "()I" } : Jvm.MethodName)) ∈ gtb := gtb_t 1336 (by decide +kernel) (by decide +kernel)
theorem tw_1338 : (Jvm.Cond.instanceMethod ({ cls := "SherdFieldModel", name := "number", desc := "()I" } : Jvm.MethodName)) ∈ gtb := gtb_t 1338 (by decide +kernel) (by decide +kernel)
theorem tw_1339 : (Jvm.Cond.code ({ cls := "SherdFieldModel", name := "number", desc := "()I" } : Jvm.MethodName) prog_14_method_50_code (3 : Nat) (Option.some Jvm.ClassFile.FieldType.int)) ∈ gtb := gtb_t 1339 (by decide +kernel) (by decide +kernel)
theorem tw_1340 : (Jvm.Cond.methodLink "SherdFieldModel" (237 : Nat) ({ cls := "SherdFieldModel", name := "here", desc := "()I" } : Jvm.MethodName)) ∈ gtb := gtb_t 1340 (by decide +kernel) (by decide +kernel)
theorem tw_1342 : (Jvm.Cond.instanceMethod ({ cls := "SherdFieldModel", name := "here", desc := "()I" } : Jvm.MethodName)) ∈ gtb := gtb_t 1342 (by decide +kernel) (by decide +kernel)
theorem tw_1343 : (Jvm.Cond.code ({ cls := "SherdFieldModel", name := "here", desc := "()I" } : Jvm.MethodName) prog_14_method_48_code (1 : Nat) (Option.some Jvm.ClassFile.FieldType.int)) ∈ gtb := gtb_t 1343 (by decide +kernel) (by decide +kernel)
theorem tw_1344 : (Jvm.Cond.methodLink "SherdFieldModel" (243 : Nat) ({ cls := "SherdFieldModel", name := "put", desc := "(I)V" } : Jvm.MethodName)) ∈ gtb := gtb_t 1344 (by decide +kernel) (by decide +kernel)
theorem tw_1346 : (Jvm.Cond.instanceMethod ({ cls := "SherdFieldModel", name := "put", desc := "(I)V" } : Jvm.MethodName)) ∈ gtb := gtb_t 1346 (by decide +kernel) (by decide +kernel)
theorem tw_1347 : (Jvm.Cond.code ({ cls := "SherdFieldModel", name := "put", desc := "(I)V" } : Jvm.MethodName) prog_14_method_53_code (2 : Nat) (Option.none : Option Jvm.ClassFile.FieldType)) ∈ gtb := gtb_t 1347 (by decide +kernel) (by decide +kernel)
theorem tw_1348 : (Jvm.Cond.methodLink "SherdFieldLaw" (117 : Nat) ({ cls := "SherdFieldModel", name := "withdraw", desc := "(I)I" } : Jvm.MethodName)) ∈ gtb := gtb_t 1348 (by decide +kernel) (by decide +kernel)
theorem tw_1349 : (Jvm.Cond.instanceMethod ({ cls := "SherdFieldModel", name := "withdraw", desc := "(I)I" } : Jvm.MethodName)) ∈ gtb := gtb_t 1349 (by decide +kernel) (by decide +kernel)
theorem tw_1350 : (Jvm.Cond.selects "SherdFieldModel" ({ cls := "SherdFieldModel", name := "withdraw", desc := "(I)I" } : Jvm.MethodName) ({ cls := "SherdFieldModel", name := "withdraw", desc := "(I)I" } : Jvm.MethodName)) ∈ gtb := gtb_t 1350 (by decide +kernel) (by decide +kernel)
theorem tw_1351 : (Jvm.Cond.code ({ cls := "SherdFieldModel", name := "withdraw", desc := "(I)I" } : Jvm.MethodName) prog_14_method_55_code (2 : Nat) (Option.some Jvm.ClassFile.FieldType.int)) ∈ gtb := gtb_t 1351 (by decide +kernel) (by decide +kernel)
theorem tw_1352 : (Jvm.Cond.methodLink "SherdFieldLaw" (121 : Nat) ({ cls := "SherdFieldModel", name := "lets", desc := "(III)I" } : Jvm.MethodName)) ∈ gtb := gtb_t 1352 (by decide +kernel) (by decide +kernel)
theorem tw_1353 : (Jvm.Cond.instanceMethod ({ cls := "SherdFieldModel", name := "lets", desc := "(III)I" } : Jvm.MethodName)) ∈ gtb := gtb_t 1353 (by decide +kernel) (by decide +kernel)
theorem tw_1354 : (Jvm.Cond.selects "SherdFieldModel" ({ cls := "SherdFieldModel", name := "lets", desc := "(III)I" } : Jvm.MethodName) ({ cls := "SherdFieldModel", name := "lets", desc := "(III)I" } : Jvm.MethodName)) ∈ gtb := gtb_t 1354 (by decide +kernel) (by decide +kernel)
theorem tw_1355 : (Jvm.Cond.code ({ cls := "SherdFieldModel", name := "lets", desc := "(III)I" } : Jvm.MethodName) prog_14_method_56_code (4 : Nat) (Option.some Jvm.ClassFile.FieldType.int)) ∈ gtb := gtb_t 1355 (by decide +kernel) (by decide +kernel)
theorem tw_1356 : (Jvm.Cond.methodLink "SherdFieldLaw" (125 : Nat) ({ cls := "SherdFieldModel", name := "days", desc := "(I)I" } : Jvm.MethodName)) ∈ gtb := gtb_t 1356 (by decide +kernel) (by decide +kernel)
theorem tw_1357 : (Jvm.Cond.instanceMethod ({ cls := "SherdFieldModel", name := "days", desc := "(I)I" } : Jvm.MethodName)) ∈ gtb := gtb_t 1357 (by decide +kernel) (by decide +kernel)
theorem tw_1358 : (Jvm.Cond.selects "SherdFieldModel" ({ cls := "SherdFieldModel", name := "days", desc := "(I)I" } : Jvm.MethodName) ({ cls := "SherdFieldModel", name := "days", desc := "(I)I" } : Jvm.MethodName)) ∈ gtb := gtb_t 1358 (by decide +kernel) (by decide +kernel)
theorem tw_1359 : (Jvm.Cond.code ({ cls := "SherdFieldModel", name := "days", desc := "(I)I" } : Jvm.MethodName) prog_14_method_57_code (2 : Nat) (Option.some Jvm.ClassFile.FieldType.int)) ∈ gtb := gtb_t 1359 (by decide +kernel) (by decide +kernel)
theorem tw_1360 : (Jvm.Cond.methodLink "SherdFieldLaw" (129 : Nat) ({ cls := "SherdFieldModel", name := "sheet", desc := "(II)I" } : Jvm.MethodName)) ∈ gtb := gtb_t 1360 (by decide +kernel) (by decide +kernel)
theorem tw_1361 : (Jvm.Cond.instanceMethod ({ cls := "SherdFieldModel", name := "sheet", desc := "(II)I" } : Jvm.MethodName)) ∈ gtb := gtb_t 1361 (by decide +kernel) (by decide +kernel)
theorem tw_1362 : (Jvm.Cond.selects "SherdFieldModel" ({ cls := "SherdFieldModel", name := "sheet", desc := "(II)I" } : Jvm.MethodName) ({ cls := "SherdFieldModel", name := "sheet", desc := "(II)I" } : Jvm.MethodName)) ∈ gtb := gtb_t 1362 (by decide +kernel) (by decide +kernel)
theorem tw_1363 : (Jvm.Cond.code ({ cls := "SherdFieldModel", name := "sheet", desc := "(II)I" } : Jvm.MethodName) prog_14_method_59_code (4 : Nat) (Option.some Jvm.ClassFile.FieldType.int)) ∈ gtb := gtb_t 1363 (by decide +kernel) (by decide +kernel)
theorem tw_1364 : (Jvm.Cond.methodLink "SherdFieldModel" (246 : Nat) ({ cls := "SherdFieldModel", name := "isSheet", desc := "(I)Z" } : Jvm.MethodName)) ∈ gtb := gtb_t 1364 (by decide +kernel) (by decide +kernel)
theorem tw_1365 : (Jvm.Cond.static ({ cls := "SherdFieldModel", name := "isSheet", desc := "(I)Z" } : Jvm.MethodName)) ∈ gtb := gtb_t 1365 (by decide +kernel) (by decide +kernel)
theorem tw_1366 : (Jvm.Cond.code ({ cls := "SherdFieldModel", name := "isSheet", desc := "(I)Z" } : Jvm.MethodName) prog_14_method_58_code (1 : Nat) (Option.some Jvm.ClassFile.FieldType.boolean)) ∈ gtb := gtb_t 1366 (by decide +kernel) (by decide +kernel)
theorem tw_1367 : (Jvm.Cond.constant "SherdFieldModel" (249 : Nat) (-1000000014 : Int32)) ∈ gtb := gtb_t 1367 (by decide +kernel) (by decide +kernel)
theorem tw_1368 : (Jvm.Cond.methodLink "SherdFieldLaw" (133 : Nat) ({ cls := "SherdFieldModel", name := "mark", desc := "(III)I" } : Jvm.MethodName)) ∈ gtb := gtb_t 1368 (by decide +kernel) (by decide +kernel)
theorem tw_1369 : (Jvm.Cond.instanceMethod ({ cls := "SherdFieldModel", name := "mark", desc := "(III)I" } : Jvm.MethodName)) ∈ gtb := gtb_t 1369 (by decide +kernel) (by decide +kernel)
theorem tw_1370 : (Jvm.Cond.selects "SherdFieldModel" ({ cls := "SherdFieldModel", name := "mark", desc := "(III)I" } : Jvm.MethodName) ({ cls := "SherdFieldModel", name := "mark", desc := "(III)I" } : Jvm.MethodName)) ∈ gtb := gtb_t 1370 (by decide +kernel) (by decide +kernel)
theorem tw_1371 : (Jvm.Cond.code ({ cls := "SherdFieldModel", name := "mark", desc := "(III)I" } : Jvm.MethodName) prog_14_method_60_code (5 : Nat) (Option.some Jvm.ClassFile.FieldType.int)) ∈ gtb := gtb_t 1371 (by decide +kernel) (by decide +kernel)
theorem tw_1372 : (Jvm.Cond.constant "SherdFieldModel" (250 : Nat) (-1000000013 : Int32)) ∈ gtb := gtb_t 1372 (by decide +kernel) (by decide +kernel)
theorem tw_1373 : (Jvm.Cond.methodLink "SherdFieldLaw" (138 : Nat) ({ cls := "SherdFieldModel", name := "copy", desc := "(IIIII)I" } : Jvm.MethodName)) ∈ gtb := gtb_t 1373 (by decide +kernel) (by decide +kernel)
theorem tw_1374 : (Jvm.Cond.instanceMethod ({ cls := "SherdFieldModel", name := "copy", desc := "(IIIII)I" } : Jvm.MethodName)) ∈ gtb := gtb_t 1374 (by decide +kernel) (by decide +kernel)
theorem tw_1375 : (Jvm.Cond.selects "SherdFieldModel" ({ cls := "SherdFieldModel", name := "copy", desc := "(IIIII)I" } : Jvm.MethodName) ({ cls := "SherdFieldModel", name := "copy", desc := "(IIIII)I" } : Jvm.MethodName)) ∈ gtb := gtb_t 1375 (by decide +kernel) (by decide +kernel)
theorem tw_1376 : (Jvm.Cond.code ({ cls := "SherdFieldModel", name := "copy", desc := "(IIIII)I" } : Jvm.MethodName) prog_14_method_61_code (7 : Nat) (Option.some Jvm.ClassFile.FieldType.int)) ∈ gtb := gtb_t 1376 (by decide +kernel) (by decide +kernel)
theorem tw_1377 : (Jvm.Cond.methodLink "SherdFieldLaw" (142 : Nat) ({ cls := "SherdFieldModel", name := "lose", desc := "(I)I" } : Jvm.MethodName)) ∈ gtb := gtb_t 1377 (by decide +kernel) (by decide +kernel)
theorem tw_1378 : (Jvm.Cond.instanceMethod ({ cls := "SherdFieldModel", name := "lose", desc := "(I)I" } : Jvm.MethodName)) ∈ gtb := gtb_t 1378 (by decide +kernel) (by decide +kernel)
theorem tw_1379 : (Jvm.Cond.selects "SherdFieldModel" ({ cls := "SherdFieldModel", name := "lose", desc := "(I)I" } : Jvm.MethodName) ({ cls := "SherdFieldModel", name := "lose", desc := "(I)I" } : Jvm.MethodName)) ∈ gtb := gtb_t 1379 (by decide +kernel) (by decide +kernel)
theorem tw_1380 : (Jvm.Cond.code ({ cls := "SherdFieldModel", name := "lose", desc := "(I)I" } : Jvm.MethodName) prog_14_method_62_code (3 : Nat) (Option.some Jvm.ClassFile.FieldType.int)) ∈ gtb := gtb_t 1380 (by decide +kernel) (by decide +kernel)
theorem tw_1381 : (Jvm.Cond.methodLink "SherdFieldLaw" (146 : Nat) ({ cls := "SherdFieldModel", name := "many", desc := "(I)I" } : Jvm.MethodName)) ∈ gtb := gtb_t 1381 (by decide +kernel) (by decide +kernel)
theorem tw_1382 : (Jvm.Cond.instanceMethod ({ cls := "SherdFieldModel", name := "many", desc := "(I)I" } : Jvm.MethodName)) ∈ gtb := gtb_t 1382 (by decide +kernel) (by decide +kernel)
theorem tw_1383 : (Jvm.Cond.selects "SherdFieldModel" ({ cls := "SherdFieldModel", name := "many", desc := "(I)I" } : Jvm.MethodName) ({ cls := "SherdFieldModel", name := "many", desc := "(I)I" } : Jvm.MethodName)) ∈ gtb := gtb_t 1383 (by decide +kernel) (by decide +kernel)
theorem tw_1384 : (Jvm.Cond.code ({ cls := "SherdFieldModel", name := "many", desc := "(I)I" } : Jvm.MethodName) prog_14_method_63_code (4 : Nat) (Option.some Jvm.ClassFile.FieldType.int)) ∈ gtb := gtb_t 1384 (by decide +kernel) (by decide +kernel)
theorem tw_1385 : (Jvm.Cond.fieldLink "java/lang/String" (9 : Nat) "java/lang/String" "value" "[B") ∈ gtb := gtb_t 1385 (by decide +kernel) (by decide +kernel)
theorem tw_1386 : (Jvm.Cond.fieldLink "java/lang/String" (15 : Nat) "java/lang/String" "coder" "B") ∈ gtb := gtb_t 1386 (by decide +kernel) (by decide +kernel)
theorem ts_0 : Cond.selects "SherdField$Leaves" (⟨"SherdField$Leaves", "covers", "(III)Z"⟩ : MethodName) (⟨"SherdField$Leaves", "covers", "(III)Z"⟩ : MethodName) ∈ gtb := gtb_s 0 (by decide +kernel) (by decide +kernel)
theorem ts_1 : Cond.selects "SherdField" (⟨"SherdField", "tellerAt", "(I)I"⟩ : MethodName) (⟨"SherdField", "tellerAt", "(I)I"⟩ : MethodName) ∈ gtb := gtb_s 1 (by decide +kernel) (by decide +kernel)
theorem ts_2 : Cond.selects "SherdField$Eyes" (⟨"SherdField$Eyes", "walksBeside", "(II)I"⟩ : MethodName) (⟨"SherdField$Eyes", "walksBeside", "(II)I"⟩ : MethodName) ∈ gtb := gtb_s 2 (by decide +kernel) (by decide +kernel)
theorem ts_3 : Cond.selects "SherdField$Eyes" (⟨"SherdField$Eyes", "arePair", "(II)Z"⟩ : MethodName) (⟨"SherdField$Eyes", "arePair", "(II)Z"⟩ : MethodName) ∈ gtb := gtb_s 3 (by decide +kernel) (by decide +kernel)
theorem ts_4 : Cond.selects "SherdField$Eyes" (⟨"SherdField$Eyes", "seenIn", "(I)I"⟩ : MethodName) (⟨"SherdField$Eyes", "seenIn", "(I)I"⟩ : MethodName) ∈ gtb := gtb_s 4 (by decide +kernel) (by decide +kernel)
theorem ts_5 : Cond.selects "SherdField$Heaps" (⟨"SherdField$Heaps", "weighed", "(III)I"⟩ : MethodName) (⟨"SherdField$Heaps", "weighed", "(III)I"⟩ : MethodName) ∈ gtb := gtb_s 5 (by decide +kernel) (by decide +kernel)
theorem ts_6 : Cond.selects "SherdField$Heaps" (⟨"SherdField$Heaps", "gatherWalked", "()I"⟩ : MethodName) (⟨"SherdField$Heaps", "gatherWalked", "()I"⟩ : MethodName) ∈ gtb := gtb_s 6 (by decide +kernel) (by decide +kernel)
theorem ts_7 : Cond.selects "SherdField$Heaps" (⟨"SherdField$Heaps", "shuffle", "(II)I"⟩ : MethodName) (⟨"SherdField$Heaps", "shuffle", "(II)I"⟩ : MethodName) ∈ gtb := gtb_s 7 (by decide +kernel) (by decide +kernel)
theorem ts_8 : Cond.selects "SherdField$Ground" (⟨"SherdField$Ground", "ploughOnce", "()V"⟩ : MethodName) (⟨"SherdField$Ground", "ploughOnce", "()V"⟩ : MethodName) ∈ gtb := gtb_s 8 (by decide +kernel) (by decide +kernel)
theorem ts_9 : Cond.selects "SherdField$Ground" (⟨"SherdField$Ground", "spreadFrom", "(I)V"⟩ : MethodName) (⟨"SherdField$Ground", "spreadFrom", "(I)V"⟩ : MethodName) ∈ gtb := gtb_s 9 (by decide +kernel) (by decide +kernel)
theorem ts_10 : Cond.selects "SherdField" (⟨"SherdField", "countedOf", "(I)I"⟩ : MethodName) (⟨"SherdField", "countedOf", "(I)I"⟩ : MethodName) ∈ gtb := gtb_s 10 (by decide +kernel) (by decide +kernel)
theorem ts_11 : Cond.selects "SherdField$Periods" (⟨"SherdField$Periods", "seekBest", "()V"⟩ : MethodName) (⟨"SherdField$Periods", "seekBest", "()V"⟩ : MethodName) ∈ gtb := gtb_s 11 (by decide +kernel) (by decide +kernel)
theorem ts_12 : Cond.selects "SherdField$Periods" (⟨"SherdField$Periods", "misfit", "(III)J"⟩ : MethodName) (⟨"SherdField$Periods", "misfit", "(III)J"⟩ : MethodName) ∈ gtb := gtb_s 12 (by decide +kernel) (by decide +kernel)
theorem ts_13 : Cond.selects "SherdField$LeaveReader" (⟨"SherdField$LeaveReader", "goOn", "()V"⟩ : MethodName) (⟨"SherdField$LeaveReader", "goOn", "()V"⟩ : MethodName) ∈ gtb := gtb_s 13 (by decide +kernel) (by decide +kernel)
theorem ts_14 : Cond.selects "SherdField$LeaveReader" (⟨"SherdField$LeaveReader", "readRows", "()V"⟩ : MethodName) (⟨"SherdField$LeaveReader", "readRows", "()V"⟩ : MethodName) ∈ gtb := gtb_s 14 (by decide +kernel) (by decide +kernel)
theorem ts_15 : Cond.selects "SherdField$LeaveReader" (⟨"SherdField$LeaveReader", "expect", "(Ljava/lang/String;)V"⟩ : MethodName) (⟨"SherdField$LeaveReader", "expect", "(Ljava/lang/String;)V"⟩ : MethodName) ∈ gtb := gtb_s 15 (by decide +kernel) (by decide +kernel)
theorem ts_16 : Cond.selects "SherdField$LeaveReader" (⟨"SherdField$LeaveReader", "isSound", "()Z"⟩ : MethodName) (⟨"SherdField$LeaveReader", "isSound", "()Z"⟩ : MethodName) ∈ gtb := gtb_s 16 (by decide +kernel) (by decide +kernel)
theorem ts_17 : Cond.selects "SherdField$LeaveReader" (⟨"SherdField$LeaveReader", "isAt", "(Ljava/lang/String;)Z"⟩ : MethodName) (⟨"SherdField$LeaveReader", "isAt", "(Ljava/lang/String;)Z"⟩ : MethodName) ∈ gtb := gtb_s 17 (by decide +kernel) (by decide +kernel)
theorem ts_18 : Cond.selects "SherdField$LeaveReader" (⟨"SherdField$LeaveReader", "tellFault", "()V"⟩ : MethodName) (⟨"SherdField$LeaveReader", "tellFault", "()V"⟩ : MethodName) ∈ gtb := gtb_s 18 (by decide +kernel) (by decide +kernel)
theorem ts_19 : Cond.selects "SherdField$LeaveReader" (⟨"SherdField$LeaveReader", "expectNumber", "(II)I"⟩ : MethodName) (⟨"SherdField$LeaveReader", "expectNumber", "(II)I"⟩ : MethodName) ∈ gtb := gtb_s 19 (by decide +kernel) (by decide +kernel)
theorem ts_20 : Cond.selects "SherdField$LeaveReader" (⟨"SherdField$LeaveReader", "valueAtHand", "()I"⟩ : MethodName) (⟨"SherdField$LeaveReader", "valueAtHand", "()I"⟩ : MethodName) ∈ gtb := gtb_s 20 (by decide +kernel) (by decide +kernel)
theorem ts_21 : Cond.selects "SherdField$LeaveReader" (⟨"SherdField$LeaveReader", "readDays", "()V"⟩ : MethodName) (⟨"SherdField$LeaveReader", "readDays", "()V"⟩ : MethodName) ∈ gtb := gtb_s 21 (by decide +kernel) (by decide +kernel)
theorem ts_22 : Cond.selects "SherdField$LeaveReader" (⟨"SherdField$LeaveReader", "readBarred", "()V"⟩ : MethodName) (⟨"SherdField$LeaveReader", "readBarred", "()V"⟩ : MethodName) ∈ gtb := gtb_s 22 (by decide +kernel) (by decide +kernel)
theorem ts_23 : Cond.selects "SherdField" (⟨"SherdField", "sheetNumbered", "(I)LSherdField$Sheet;"⟩ : MethodName) (⟨"SherdField", "sheetNumbered", "(I)LSherdField$Sheet;"⟩ : MethodName) ∈ gtb := gtb_s 23 (by decide +kernel) (by decide +kernel)
theorem ts_24 : Cond.selects "SherdField" (⟨"SherdField", "gaps", "()I"⟩ : MethodName) (⟨"SherdField", "gaps", "()I"⟩ : MethodName) ∈ gtb := gtb_s 24 (by decide +kernel) (by decide +kernel)
theorem ts_25 : Cond.selects "SherdFieldModel" (⟨"SherdFieldModel", "paces", "()I"⟩ : MethodName) (⟨"SherdFieldModel", "paces", "()I"⟩ : MethodName) ∈ gtb := gtb_s 25 (by decide +kernel) (by decide +kernel)
theorem ts_26 : Cond.selects "SherdFieldModel" (⟨"SherdFieldModel", "isRow", "(I)Z"⟩ : MethodName) (⟨"SherdFieldModel", "isRow", "(I)Z"⟩ : MethodName) ∈ gtb := gtb_s 26 (by decide +kernel) (by decide +kernel)
theorem ts_27 : Cond.selects "SherdFieldModel" (⟨"SherdFieldModel", "letBy", "(III)I"⟩ : MethodName) (⟨"SherdFieldModel", "letBy", "(III)I"⟩ : MethodName) ∈ gtb := gtb_s 27 (by decide +kernel) (by decide +kernel)
theorem ts_28 : Cond.selects "SherdFieldModel" (⟨"SherdFieldModel", "isLet", "(IIII)Z"⟩ : MethodName) (⟨"SherdFieldModel", "isLet", "(IIII)Z"⟩ : MethodName) ∈ gtb := gtb_s 28 (by decide +kernel) (by decide +kernel)
theorem ts_29 : Cond.selects "SherdFieldModel" (⟨"SherdFieldModel", "isWalk", "(I)Z"⟩ : MethodName) (⟨"SherdFieldModel", "isWalk", "(I)Z"⟩ : MethodName) ∈ gtb := gtb_s 29 (by decide +kernel) (by decide +kernel)
theorem ts_30 : Cond.selects "SherdFieldModel" (⟨"SherdFieldModel", "isPace", "(I)Z"⟩ : MethodName) (⟨"SherdFieldModel", "isPace", "(I)Z"⟩ : MethodName) ∈ gtb := gtb_s 30 (by decide +kernel) (by decide +kernel)
theorem ts_31 : Cond.selects "SherdFieldModel" (⟨"SherdFieldModel", "found", "(IZ)I"⟩ : MethodName) (⟨"SherdFieldModel", "found", "(IZ)I"⟩ : MethodName) ∈ gtb := gtb_s 31 (by decide +kernel) (by decide +kernel)
theorem ts_32 : Cond.selects "SherdFieldModel" (⟨"SherdFieldModel", "walkOf", "(I)I"⟩ : MethodName) (⟨"SherdFieldModel", "walkOf", "(I)I"⟩ : MethodName) ∈ gtb := gtb_s 32 (by decide +kernel) (by decide +kernel)
theorem ts_33 : Cond.selects "SherdFieldModel" (⟨"SherdFieldModel", "at", "(III)I"⟩ : MethodName) (⟨"SherdFieldModel", "at", "(III)I"⟩ : MethodName) ∈ gtb := gtb_s 33 (by decide +kernel) (by decide +kernel)
theorem ts_34 : Cond.selects "SherdFieldModel" (⟨"SherdFieldModel", "eyeOf", "(I)I"⟩ : MethodName) (⟨"SherdFieldModel", "eyeOf", "(I)I"⟩ : MethodName) ∈ gtb := gtb_s 34 (by decide +kernel) (by decide +kernel)
theorem ts_35 : Cond.selects "SherdFieldModel" (⟨"SherdFieldModel", "look", "()V"⟩ : MethodName) (⟨"SherdFieldModel", "look", "()V"⟩ : MethodName) ∈ gtb := gtb_s 35 (by decide +kernel) (by decide +kernel)
theorem ts_36 : Cond.selects "SherdFieldModel" (⟨"SherdFieldModel", "correctedAt", "(II)I"⟩ : MethodName) (⟨"SherdFieldModel", "correctedAt", "(II)I"⟩ : MethodName) ∈ gtb := gtb_s 36 (by decide +kernel) (by decide +kernel)
theorem ts_37 : Cond.selects "SherdFieldModel" (⟨"SherdFieldModel", "weigh", "()V"⟩ : MethodName) (⟨"SherdFieldModel", "weigh", "()V"⟩ : MethodName) ∈ gtb := gtb_s 37 (by decide +kernel) (by decide +kernel)
theorem ts_38 : Cond.selects "SherdFieldModel" (⟨"SherdFieldModel", "ring", "(I)I"⟩ : MethodName) (⟨"SherdFieldModel", "ring", "(I)I"⟩ : MethodName) ∈ gtb := gtb_s 38 (by decide +kernel) (by decide +kernel)
theorem ts_39 : Cond.selects "SherdFieldModel" (⟨"SherdFieldModel", "best", "()I"⟩ : MethodName) (⟨"SherdFieldModel", "best", "()I"⟩ : MethodName) ∈ gtb := gtb_s 39 (by decide +kernel) (by decide +kernel)
theorem ts_40 : Cond.selects "SherdFieldModel" (⟨"SherdFieldModel", "ploughOnce", "()V"⟩ : MethodName) (⟨"SherdFieldModel", "ploughOnce", "()V"⟩ : MethodName) ∈ gtb := gtb_s 40 (by decide +kernel) (by decide +kernel)
theorem ts_41 : Cond.selects "SherdFieldModel" (⟨"SherdFieldModel", "besideMany", "(I)I"⟩ : MethodName) (⟨"SherdFieldModel", "besideMany", "(I)I"⟩ : MethodName) ∈ gtb := gtb_s 41 (by decide +kernel) (by decide +kernel)
theorem ts_42 : Cond.selects "SherdFieldModel" (⟨"SherdFieldModel", "far", "(III)J"⟩ : MethodName) (⟨"SherdFieldModel", "far", "(III)J"⟩ : MethodName) ∈ gtb := gtb_s 42 (by decide +kernel) (by decide +kernel)
theorem ts_43 : Cond.selects "SherdFieldModel" (⟨"SherdFieldModel", "four", "(I)V"⟩ : MethodName) (⟨"SherdFieldModel", "four", "(I)V"⟩ : MethodName) ∈ gtb := gtb_s 43 (by decide +kernel) (by decide +kernel)
theorem ts_44 : Cond.selects "SherdFieldModel" (⟨"SherdFieldModel", "readLeave", "(I)I"⟩ : MethodName) (⟨"SherdFieldModel", "readLeave", "(I)I"⟩ : MethodName) ∈ gtb := gtb_s 44 (by decide +kernel) (by decide +kernel)
theorem ts_45 : Cond.selects "SherdFieldModel" (⟨"SherdFieldModel", "next", "()V"⟩ : MethodName) (⟨"SherdFieldModel", "next", "()V"⟩ : MethodName) ∈ gtb := gtb_s 45 (by decide +kernel) (by decide +kernel)
theorem ts_46 : Cond.selects "SherdFieldModel" (⟨"SherdFieldModel", "isWord", "(IIII)Z"⟩ : MethodName) (⟨"SherdFieldModel", "isWord", "(IIII)Z"⟩ : MethodName) ∈ gtb := gtb_s 46 (by decide +kernel) (by decide +kernel)
theorem ts_47 : Cond.selects "SherdFieldModel" (⟨"SherdFieldModel", "isSpan", "(I)Z"⟩ : MethodName) (⟨"SherdFieldModel", "isSpan", "(I)Z"⟩ : MethodName) ∈ gtb := gtb_s 47 (by decide +kernel) (by decide +kernel)
theorem ts_48 : Cond.selects "SherdFieldModel" (⟨"SherdFieldModel", "number", "()I"⟩ : MethodName) (⟨"SherdFieldModel", "number", "()I"⟩ : MethodName) ∈ gtb := gtb_s 48 (by decide +kernel) (by decide +kernel)
theorem ts_49 : Cond.selects "SherdFieldModel" (⟨"SherdFieldModel", "here", "()I"⟩ : MethodName) (⟨"SherdFieldModel", "here", "()I"⟩ : MethodName) ∈ gtb := gtb_s 49 (by decide +kernel) (by decide +kernel)
theorem ts_50 : Cond.selects "SherdFieldModel" (⟨"SherdFieldModel", "put", "(I)V"⟩ : MethodName) (⟨"SherdFieldModel", "put", "(I)V"⟩ : MethodName) ∈ gtb := gtb_s 50 (by decide +kernel) (by decide +kernel)
set_option maxRecDepth 100000 in
theorem inX0 : ∀ w ∈ u_ws RX0 TX0 2, w ∈ gtb := by decide +kernel
set_option maxRecDepth 100000 in
theorem inX1 : ∀ w ∈ u_ws RX1 TX1 5, w ∈ gtb := by decide +kernel
set_option maxRecDepth 100000 in
theorem inX2 : ∀ w ∈ u_ws RX2 TX2 5, w ∈ gtb := by decide +kernel
set_option maxRecDepth 100000 in
theorem inX3 : ∀ w ∈ u_ws RX3 TX3 6, w ∈ gtb := by decide +kernel
set_option maxRecDepth 100000 in
theorem inX4 : ∀ w ∈ u_ws RX4 TX4 9, w ∈ gtb := by decide +kernel
set_option maxRecDepth 100000 in
theorem inX5 : ∀ w ∈ u_ws RX5 TX5 7, w ∈ gtb := by decide +kernel
set_option maxRecDepth 100000 in
theorem inX6 : ∀ w ∈ u_ws RX6 TX6 3, w ∈ gtb := by decide +kernel
set_option maxRecDepth 100000 in
theorem inX7 : ∀ w ∈ u_ws RX7 TX7 2, w ∈ gtb := by decide +kernel
set_option maxRecDepth 100000 in
theorem inX8 : ∀ w ∈ u_ws RX8 TX8 1, w ∈ gtb := by decide +kernel
set_option maxRecDepth 100000 in
theorem inX9 : ∀ w ∈ u_ws RX9 TX9 2, w ∈ gtb := by decide +kernel
set_option maxRecDepth 100000 in
theorem inX10 : ∀ w ∈ u_ws RX10 TX10 6, w ∈ gtb := by decide +kernel
set_option maxRecDepth 100000 in
theorem inX11 : ∀ w ∈ u_ws RX11 TX11 15, w ∈ gtb := by decide +kernel
set_option maxRecDepth 100000 in
theorem inX12 : ∀ w ∈ u_ws RX12 TX12 43, w ∈ gtb := by decide +kernel
theorem mi_X11_init : Mi yX11_init cX11_init 1 none 0 := ⟨tw_26, tw_1, by decide +kernel⟩
theorem mi_X2_init : Mi yX2_init cX2_init 1 none 0 := ⟨tw_34, tw_2, by decide +kernel⟩
theorem mi_X8_init : Mi yX8_init cX8_init 1 none 0 := ⟨tw_57, tw_3, by decide +kernel⟩
theorem mi_X10_init : Mi yX10_init cX10_init 1 none 0 := ⟨tw_67, tw_4, by decide +kernel⟩
theorem mi_X1_init : Mi yX1_init cX1_init 1 none 0 := ⟨tw_92, tw_5, by decide +kernel⟩
theorem mi_X6_init : Mi yX6_init cX6_init 1 none 0 := ⟨tw_114, tw_6, by decide +kernel⟩
theorem mi_X9_init : Mi yX9_init cX9_init 1 none 0 := ⟨tw_130, tw_7, by decide +kernel⟩
theorem mi_X5_init : Mi yX5_init cX5_init 1 none 0 := ⟨tw_144, tw_8, by decide +kernel⟩
theorem mi_X7_init : Mi yX7_init cX7_init 1 none 0 := ⟨tw_173, tw_9, by decide +kernel⟩
theorem mi_X0_init : Mi yX0_init cX0_init 3 none 2 := ⟨tw_187, tw_10, by decide +kernel⟩
theorem mi_X3_init : Mi yX3_init cX3_init 5 none 4 := ⟨tw_200, tw_11, by decide +kernel⟩
theorem mi_X4_init : Mi yX4_init cX4_init 2 none 1 := ⟨tw_225, tw_12, by decide +kernel⟩
theorem mi_X11_field : MiV yX11_field cX11_field 3 (some .int) 2 := ⟨⟨tw_304, tw_1, by decide +kernel⟩, tw_302, tw_303⟩
theorem mi_X11_within : MiS yX11_within cX11_within 3 (some .boolean) 3 := ⟨⟨tw_307, tw_1, by decide +kernel⟩, tw_306⟩
theorem mi_X2_renew : MiV yX2_renew cX2_renew 3 none 2 := ⟨⟨tw_312, tw_2, by decide +kernel⟩, tw_310, tw_311⟩
theorem mi_X10_clear : MiV yX10_clear cX10_clear 1 none 0 := ⟨⟨tw_316, tw_4, by decide +kernel⟩, tw_314, tw_315⟩
theorem mi_J7_fill_53178 : MiS yJ7_fill_53178 cJ7_fill_53178 4 none 2 := ⟨⟨tw_319, tw_14, by decide +kernel⟩, tw_318⟩
theorem mi_X1_clear : MiV yX1_clear cX1_clear 1 none 0 := ⟨⟨tw_323, tw_5, by decide +kernel⟩, tw_321, tw_322⟩
theorem mi_X2_paces : MiV yX2_paces cX2_paces 1 (some .int) 0 := ⟨⟨tw_327, tw_2, by decide +kernel⟩, tw_325, tw_326⟩
theorem mi_X11_sort : MiV yX11_sort cX11_sort 3 (some .int) 2 := ⟨⟨tw_331, tw_1, by decide +kernel⟩, tw_329, tw_330⟩
theorem mi_X11_isKind : MiS yX11_isKind cX11_isKind 1 (some .boolean) 1 := ⟨⟨tw_334, tw_1, by decide +kernel⟩, tw_333⟩
theorem mi_X8_isSort : MiS yX8_isSort cX8_isSort 1 (some .boolean) 1 := ⟨⟨tw_337, tw_3, by decide +kernel⟩, tw_336⟩
theorem mi_X8_become : MiV yX8_become cX8_become 4 (some .int) 2 := ⟨⟨tw_342, tw_3, by decide +kernel⟩, tw_340, tw_341⟩
theorem mi_X11_isOf : MiV yX11_isOf cX11_isOf 3 (some .int) 2 := ⟨⟨tw_346, tw_1, by decide +kernel⟩, tw_344, tw_345⟩
theorem mi_X8_counts : MiV yX8_counts cX8_counts 4 (some .boolean) 2 := ⟨⟨tw_350, tw_3, by decide +kernel⟩, tw_348, tw_349⟩
theorem mi_X11_toInt : MiS yX11_toInt cX11_toInt 1 (some .int) 1 := ⟨⟨tw_353, tw_1, by decide +kernel⟩, tw_352⟩
theorem mi_X11_walk : MiV yX11_walk cX11_walk 3 (some .int) 2 := ⟨⟨tw_357, tw_1, by decide +kernel⟩, tw_355, tw_356⟩
theorem mi_X11_isWalker : MiS yX11_isWalker cX11_isWalker 1 (some .boolean) 1 := ⟨⟨tw_360, tw_1, by decide +kernel⟩, tw_359⟩
theorem mi_X2_hasRow : MiV yX2_hasRow cX2_hasRow 2 (some .boolean) 1 := ⟨⟨tw_364, tw_2, by decide +kernel⟩, tw_362, tw_363⟩
theorem mi_X5_wereGiven : MiV yX5_wereGiven cX5_wereGiven 1 (some .boolean) 0 := ⟨⟨tw_368, tw_8, by decide +kernel⟩, tw_366, tw_367⟩
theorem mi_X5_firstLetting : MiV yX5_firstLetting cX5_firstLetting 5 (some .int) 3 := ⟨⟨tw_372, tw_8, by decide +kernel⟩, tw_370, tw_371⟩
theorem mi_X5_covers : MiV yX5_covers cX5_covers 4 (some .boolean) 3 := ⟨⟨tw_376, tw_8, by decide +kernel⟩, tw_375, ts_0⟩
theorem mi_X10_isFull : MiV yX10_isFull cX10_isFull 1 (some .boolean) 0 := ⟨⟨tw_382, tw_4, by decide +kernel⟩, tw_380, tw_381⟩
theorem mi_X10_add : MiV yX10_add cX10_add 4 (some .int) 3 := ⟨⟨tw_387, tw_4, by decide +kernel⟩, tw_385, tw_386⟩
theorem mi_X11_find : MiV yX11_find cX11_find 5 (some .int) 4 := ⟨⟨tw_391, tw_1, by decide +kernel⟩, tw_389, tw_390⟩
theorem mi_X10_has : MiV yX10_has cX10_has 2 (some .boolean) 1 := ⟨⟨tw_395, tw_4, by decide +kernel⟩, tw_393, tw_394⟩
theorem mi_X2_hasPace : MiV yX2_hasPace cX2_hasPace 2 (some .boolean) 1 := ⟨⟨tw_399, tw_2, by decide +kernel⟩, tw_397, tw_398⟩
theorem mi_X2_rowOf : MiV yX2_rowOf cX2_rowOf 2 (some .int) 1 := ⟨⟨tw_404, tw_2, by decide +kernel⟩, tw_402, tw_403⟩
theorem mi_X10_rowOf : MiV yX10_rowOf cX10_rowOf 2 (some .int) 1 := ⟨⟨tw_408, tw_4, by decide +kernel⟩, tw_406, tw_407⟩
theorem mi_X1_isFull : MiV yX1_isFull cX1_isFull 1 (some .boolean) 0 := ⟨⟨tw_412, tw_5, by decide +kernel⟩, tw_410, tw_411⟩
theorem mi_X2_columnOf : MiV yX2_columnOf cX2_columnOf 2 (some .int) 1 := ⟨⟨tw_416, tw_2, by decide +kernel⟩, tw_414, tw_415⟩
theorem mi_X10_bear : MiV yX10_bear cX10_bear 5 none 4 := ⟨⟨tw_421, tw_4, by decide +kernel⟩, tw_419, tw_420⟩
theorem mi_X10_tallyPlace : MiS yX10_tallyPlace cX10_tallyPlace 3 (some .int) 3 := ⟨⟨tw_424, tw_4, by decide +kernel⟩, tw_423⟩
theorem mi_X1_add : MiV yX1_add cX1_add 5 (some .int) 4 := ⟨⟨tw_428, tw_5, by decide +kernel⟩, tw_426, tw_427⟩
theorem mi_X11_told : MiV yX11_told cX11_told 3 (some .int) 2 := ⟨⟨tw_432, tw_1, by decide +kernel⟩, tw_430, tw_431⟩
theorem mi_X10_walkerOf : MiV yX10_walkerOf cX10_walkerOf 2 (some .int) 1 := ⟨⟨tw_436, tw_4, by decide +kernel⟩, tw_434, tw_435⟩
theorem mi_X10_dayOf : MiV yX10_dayOf cX10_dayOf 2 (some .int) 1 := ⟨⟨tw_440, tw_4, by decide +kernel⟩, tw_438, tw_439⟩
theorem mi_X10_total : MiV yX10_total cX10_total 4 (some .int) 1 := ⟨⟨tw_444, tw_4, by decide +kernel⟩, tw_442, tw_443⟩
theorem mi_X10_sumOf : MiV yX10_sumOf cX10_sumOf 3 (some .int) 2 := ⟨⟨tw_448, tw_4, by decide +kernel⟩, tw_446, tw_447⟩
theorem mi_X10_teller : MiV yX10_teller cX10_teller 5 (some .int) 1 := ⟨⟨tw_453, tw_4, by decide +kernel⟩, tw_451, tw_452⟩
theorem mi_X11_of : MiV yX11_of cX11_of 3 (some .int) 2 := ⟨⟨tw_458, tw_1, by decide +kernel⟩, tw_456, tw_457⟩
theorem mi_X1_has : MiV yX1_has cX1_has 2 (some .boolean) 1 := ⟨⟨tw_462, tw_5, by decide +kernel⟩, tw_460, tw_461⟩
theorem mi_X1_walkOf : MiV yX1_walkOf cX1_walkOf 2 (some .int) 1 := ⟨⟨tw_466, tw_5, by decide +kernel⟩, tw_464, tw_465⟩
theorem mi_X1_paceOf : MiV yX1_paceOf cX1_paceOf 2 (some .int) 1 := ⟨⟨tw_470, tw_5, by decide +kernel⟩, tw_468, tw_469⟩
theorem mi_X1_kindOf : MiV yX1_kindOf cX1_kindOf 2 (some .int) 1 := ⟨⟨tw_474, tw_5, by decide +kernel⟩, tw_472, tw_473⟩
theorem mi_X1_numberOf : MiV yX1_numberOf cX1_numberOf 2 (some .int) 1 := ⟨⟨tw_478, tw_5, by decide +kernel⟩, tw_476, tw_477⟩
theorem mi_X11_count : MiV yX11_count cX11_count 3 (some .int) 2 := ⟨⟨tw_482, tw_1, by decide +kernel⟩, tw_480, tw_481⟩
theorem mi_X11_tellerAt : MiV yX11_tellerAt cX11_tellerAt 2 (some .int) 1 := ⟨⟨tw_486, tw_1, by decide +kernel⟩, tw_485, ts_1⟩
theorem mi_X10_borne : MiV yX10_borne cX10_borne 4 (some .int) 3 := ⟨⟨tw_490, tw_4, by decide +kernel⟩, tw_488, tw_489⟩
theorem mi_X11_gap : MiV yX11_gap cX11_gap 2 (some .int) 0 := ⟨⟨tw_494, tw_1, by decide +kernel⟩, tw_492, tw_493⟩
theorem mi_X2_rows : MiV yX2_rows cX2_rows 1 (some .int) 0 := ⟨⟨tw_498, tw_2, by decide +kernel⟩, tw_496, tw_497⟩
theorem mi_X11_led : MiV yX11_led cX11_led 4 (some .int) 2 := ⟨⟨tw_503, tw_1, by decide +kernel⟩, tw_501, tw_502⟩
theorem mi_X1_inWalkAt : MiV yX1_inWalkAt cX1_inWalkAt 6 (some .int) 3 := ⟨⟨tw_507, tw_5, by decide +kernel⟩, tw_505, tw_506⟩
theorem mi_X11_pair : MiV yX11_pair cX11_pair 4 (some .int) 3 := ⟨⟨tw_511, tw_1, by decide +kernel⟩, tw_509, tw_510⟩
theorem mi_X0_pairs : MiV yX0_pairs cX0_pairs 5 (some .int) 2 := ⟨⟨tw_515, tw_10, by decide +kernel⟩, tw_513, tw_514⟩
theorem mi_X10_number : MiV yX10_number cX10_number 1 (some .int) 0 := ⟨⟨tw_519, tw_4, by decide +kernel⟩, tw_517, tw_518⟩
theorem mi_X0_walksBeside : MiV yX0_walksBeside cX0_walksBeside 5 (some .int) 2 := ⟨⟨tw_524, tw_10, by decide +kernel⟩, tw_523, ts_2⟩
theorem mi_X0_arePair : MiV yX0_arePair cX0_arePair 3 (some .boolean) 2 := ⟨⟨tw_528, tw_10, by decide +kernel⟩, tw_527, ts_3⟩
theorem mi_X0_seenBeside : MiV yX0_seenBeside cX0_seenBeside 5 (some .int) 2 := ⟨⟨tw_533, tw_10, by decide +kernel⟩, tw_531, tw_532⟩
theorem mi_X0_seenIn : MiV yX0_seenIn cX0_seenIn 4 (some .int) 1 := ⟨⟨tw_537, tw_10, by decide +kernel⟩, tw_536, ts_4⟩
theorem mi_X8_isCoarse : MiV yX8_isCoarse cX8_isCoarse 2 (some .boolean) 1 := ⟨⟨tw_541, tw_3, by decide +kernel⟩, tw_539, tw_540⟩
theorem mi_X11_eye : MiV yX11_eye cX11_eye 2 (some .int) 1 := ⟨⟨tw_546, tw_1, by decide +kernel⟩, tw_544, tw_545⟩
theorem mi_X0_hundredths : MiV yX0_hundredths cX0_hundredths 7 (some .int) 1 := ⟨⟨tw_550, tw_10, by decide +kernel⟩, tw_548, tw_549⟩
theorem mi_J9_max_7cf53 : MiS yJ9_max_7cf53 cJ9_max_7cf53 2 (some .int) 2 := ⟨⟨tw_553, tw_15, by decide +kernel⟩, tw_552⟩
theorem mi_X11_corrected : MiV yX11_corrected cX11_corrected 5 (some .int) 2 := ⟨⟨tw_557, tw_1, by decide +kernel⟩, tw_555, tw_556⟩
theorem mi_X0_ofTeller : MiV yX0_ofTeller cX0_ofTeller 2 (some .int) 1 := ⟨⟨tw_561, tw_10, by decide +kernel⟩, tw_559, tw_560⟩
theorem mi_X0_amend : MiV yX0_amend cX0_amend 4 (some .int) 3 := ⟨⟨tw_567, tw_10, by decide +kernel⟩, tw_565, tw_566⟩
theorem mi_J9_min_7cf53 : MiS yJ9_min_7cf53 cJ9_min_7cf53 2 (some .int) 2 := ⟨⟨tw_570, tw_15, by decide +kernel⟩, tw_569⟩
theorem mi_X11_worth : MiV yX11_worth cX11_worth 3 (some .int) 2 := ⟨⟨tw_574, tw_1, by decide +kernel⟩, tw_572, tw_573⟩
theorem mi_X3_lay : MiV yX3_lay cX3_lay 6 none 0 := ⟨⟨tw_578, tw_11, by decide +kernel⟩, tw_576, tw_577⟩
theorem mi_X2_columns : MiV yX2_columns cX2_columns 1 (some .int) 0 := ⟨⟨tw_585, tw_2, by decide +kernel⟩, tw_583, tw_584⟩
theorem mi_X2_isBarren : MiV yX2_isBarren cX2_isBarren 2 (some .boolean) 1 := ⟨⟨tw_589, tw_2, by decide +kernel⟩, tw_587, tw_588⟩
theorem mi_X3_weighed : MiV yX3_weighed cX3_weighed 7 (some .int) 3 := ⟨⟨tw_593, tw_11, by decide +kernel⟩, tw_592, ts_5⟩
theorem mi_X8_weight : MiV yX8_weight cX8_weight 2 (some .int) 1 := ⟨⟨tw_598, tw_3, by decide +kernel⟩, tw_596, tw_597⟩
theorem mi_X3_worthAt : MiV yX3_worthAt cX3_worthAt 2 (some .int) 1 := ⟨⟨tw_603, tw_11, by decide +kernel⟩, tw_601, tw_602⟩
theorem mi_X3_sumAround : MiV yX3_sumAround cX3_sumAround 2 (some .int) 1 := ⟨⟨tw_607, tw_11, by decide +kernel⟩, tw_605, tw_606⟩
theorem mi_X2_ringSum : MiV yX2_ringSum cX2_ringSum 12 (some .int) 2 := ⟨⟨tw_611, tw_2, by decide +kernel⟩, tw_609, tw_610⟩
theorem mi_X11_greatest : MiV yX11_greatest cX11_greatest 1 (some .int) 0 := ⟨⟨tw_618, tw_1, by decide +kernel⟩, tw_616, tw_617⟩
theorem mi_X3_richest : MiV yX3_richest cX3_richest 1 (some .int) 0 := ⟨⟨tw_622, tw_11, by decide +kernel⟩, tw_620, tw_621⟩
theorem mi_X2_greatestRing : MiV yX2_greatestRing cX2_greatestRing 6 (some .int) 1 := ⟨⟨tw_626, tw_2, by decide +kernel⟩, tw_624, tw_625⟩
theorem mi_X11_heap : MiV yX11_heap cX11_heap 3 (some .int) 2 := ⟨⟨tw_631, tw_1, by decide +kernel⟩, tw_629, tw_630⟩
theorem mi_X3_standsOut : MiV yX3_standsOut cX3_standsOut 10 (some .boolean) 4 := ⟨⟨tw_635, tw_11, by decide +kernel⟩, tw_633, tw_634⟩
theorem mi_X3_gatherWalked : MiV yX3_gatherWalked cX3_gatherWalked 4 (some .int) 0 := ⟨⟨tw_640, tw_11, by decide +kernel⟩, tw_639, ts_6⟩
theorem mi_X3_shuffle : MiV yX3_shuffle cX3_shuffle 8 (some .int) 2 := ⟨⟨tw_644, tw_11, by decide +kernel⟩, tw_643, ts_7⟩
theorem mi_X11_spade : MiV yX11_spade cX11_spade 4 (some .int) 2 := ⟨⟨tw_650, tw_1, by decide +kernel⟩, tw_648, tw_649⟩
theorem mi_X2_dig : MiV yX2_dig cX2_dig 5 none 2 := ⟨⟨tw_655, tw_2, by decide +kernel⟩, tw_653, tw_654⟩
theorem mi_X11_rule : MiV yX11_rule cX11_rule 4 (some .int) 2 := ⟨⟨tw_660, tw_1, by decide +kernel⟩, tw_658, tw_659⟩
theorem mi_X11_plough : MiV yX11_plough cX11_plough 3 (some .int) 2 := ⟨⟨tw_664, tw_1, by decide +kernel⟩, tw_662, tw_663⟩
theorem mi_X7_isMissing : MiV yX7_isMissing cX7_isMissing 1 (some .boolean) 0 := ⟨⟨tw_668, tw_9, by decide +kernel⟩, tw_666, tw_667⟩
theorem mi_X2_behindPloughs : MiV yX2_behindPloughs cX2_behindPloughs 6 (some .int) 3 := ⟨⟨tw_673, tw_2, by decide +kernel⟩, tw_671, tw_672⟩
theorem mi_X7_has : MiV yX7_has cX7_has 2 (some .boolean) 1 := ⟨⟨tw_677, tw_9, by decide +kernel⟩, tw_675, tw_676⟩
theorem mi_X7_at : MiV yX7_at cX7_at 2 (some .int) 1 := ⟨⟨tw_681, tw_9, by decide +kernel⟩, tw_679, tw_680⟩
theorem mi_X2_ploughOnce : MiV yX2_ploughOnce cX2_ploughOnce 2 none 0 := ⟨⟨tw_686, tw_2, by decide +kernel⟩, tw_685, ts_8⟩
theorem mi_X2_spreadFrom : MiV yX2_spreadFrom cX2_spreadFrom 8 none 1 := ⟨⟨tw_691, tw_2, by decide +kernel⟩, tw_690, ts_9⟩
theorem mi_X11_profile : MiV yX11_profile cX11_profile 4 (some .int) 3 := ⟨⟨tw_696, tw_1, by decide +kernel⟩, tw_694, tw_695⟩
theorem mi_X11_isPeriod : MiS yX11_isPeriod cX11_isPeriod 1 (some .boolean) 1 := ⟨⟨tw_699, tw_1, by decide +kernel⟩, tw_698⟩
theorem mi_X6_become : MiV yX6_become cX6_become 5 (some .int) 3 := ⟨⟨tw_703, tw_6, by decide +kernel⟩, tw_701, tw_702⟩
theorem mi_X11_mixed : MiV yX11_mixed cX11_mixed 3 (some .int) 1 := ⟨⟨tw_707, tw_1, by decide +kernel⟩, tw_705, tw_706⟩
theorem mi_X11_countedOf : MiV yX11_countedOf cX11_countedOf 4 (some .int) 1 := ⟨⟨tw_711, tw_1, by decide +kernel⟩, tw_710, ts_10⟩
theorem mi_X6_tell : MiV yX6_tell cX6_tell 3 none 2 := ⟨⟨tw_716, tw_6, by decide +kernel⟩, tw_714, tw_715⟩
theorem mi_X6_bestPart : MiV yX6_bestPart cX6_bestPart 2 (some .int) 1 := ⟨⟨tw_720, tw_6, by decide +kernel⟩, tw_718, tw_719⟩
theorem mi_X6_seekBest : MiV yX6_seekBest cX6_seekBest 7 none 0 := ⟨⟨tw_724, tw_6, by decide +kernel⟩, tw_723, ts_11⟩
theorem mi_X6_misfit : MiV yX6_misfit cX6_misfit 9 (some .long) 3 := ⟨⟨tw_729, tw_6, by decide +kernel⟩, tw_728, ts_12⟩
theorem mi_X11_feed : MiV yX11_feed cX11_feed 4 (some .int) 3 := ⟨⟨tw_733, tw_1, by decide +kernel⟩, tw_731, tw_732⟩
theorem mi_X9_hasRoom : MiV yX9_hasRoom cX9_hasRoom 1 (some .boolean) 0 := ⟨⟨tw_737, tw_7, by decide +kernel⟩, tw_735, tw_736⟩
theorem mi_X9_add : MiV yX9_add cX9_add 3 none 1 := ⟨⟨tw_741, tw_7, by decide +kernel⟩, tw_739, tw_740⟩
theorem mi_X9_length : MiV yX9_length cX9_length 1 (some .int) 0 := ⟨⟨tw_745, tw_7, by decide +kernel⟩, tw_743, tw_744⟩
theorem mi_X11_trim : MiV yX11_trim cX11_trim 2 (some .int) 1 := ⟨⟨tw_749, tw_1, by decide +kernel⟩, tw_747, tw_748⟩
theorem mi_X9_keep : MiV yX9_keep cX9_keep 2 none 1 := ⟨⟨tw_753, tw_7, by decide +kernel⟩, tw_751, tw_752⟩
theorem mi_X11_leave : MiV yX11_leave cX11_leave 2 (some .int) 0 := ⟨⟨tw_757, tw_1, by decide +kernel⟩, tw_755, tw_756⟩
theorem mi_X4_read : MiV yX4_read cX4_read 1 (some .int) 0 := ⟨⟨tw_761, tw_12, by decide +kernel⟩, tw_759, tw_760⟩
theorem mi_X4_goOn : MiV yX4_goOn cX4_goOn 1 none 0 := ⟨⟨tw_765, tw_12, by decide +kernel⟩, tw_764, ts_13⟩
theorem mi_X9_at : MiV yX9_at cX9_at 2 (some .int) 1 := ⟨⟨tw_770, tw_7, by decide +kernel⟩, tw_768, tw_769⟩
theorem mi_X4_readRows : MiV yX4_readRows cX4_readRows 1 none 0 := ⟨⟨tw_774, tw_12, by decide +kernel⟩, tw_773, ts_14⟩
theorem mi_X4_expect : MiV yX4_expect cX4_expect 2 none 1 := ⟨⟨tw_779, tw_12, by decide +kernel⟩, tw_778, ts_15⟩
theorem mi_X4_isSound : MiV yX4_isSound cX4_isSound 1 (some .boolean) 0 := ⟨⟨tw_783, tw_12, by decide +kernel⟩, tw_782, ts_16⟩
theorem mi_X4_isAt : MiV yX4_isAt cX4_isAt 3 (some .boolean) 1 := ⟨⟨tw_787, tw_12, by decide +kernel⟩, tw_786, ts_17⟩
theorem mi_J0_length_8abf5 : MiV yJ0_length_8abf5 cJ0_length_8abf5 1 (some .int) 0 := ⟨⟨tw_791, tw_16, by decide +kernel⟩, tw_789, tw_790⟩
theorem mi_J0_coder_7d493 : MiV yJ0_coder_7d493 cJ0_coder_7d493 1 (some .byte) 0 := ⟨⟨tw_795, tw_16, by decide +kernel⟩, tw_793, tw_794⟩
theorem mi_J0_charAt_5068e : MiV yJ0_charAt_5068e cJ0_charAt_5068e 2 (some .char) 1 := ⟨⟨tw_801, tw_16, by decide +kernel⟩, tw_799, tw_800⟩
theorem mi_J0_isLatin1_aae02 : MiV yJ0_isLatin1_aae02 cJ0_isLatin1_aae02 1 (some .boolean) 0 := ⟨⟨tw_805, tw_16, by decide +kernel⟩, tw_803, tw_804⟩
theorem mi_J1_charAt_3b067 : MiS yJ1_charAt_3b067 cJ1_charAt_3b067 2 (some .char) 2 := ⟨⟨tw_808, tw_17, by decide +kernel⟩, tw_807⟩
theorem mi_J0_checkIndex_df160 : MiS yJ0_checkIndex_df160 cJ0_checkIndex_df160 2 none 2 := ⟨⟨tw_811, tw_16, by decide +kernel⟩, tw_810⟩
theorem mi_J3_checkIndex_8e157 : MiS yJ3_checkIndex_8e157 cJ3_checkIndex_8e157 3 (some .int) 3 := ⟨⟨tw_816, tw_18, by decide +kernel⟩, tw_815⟩
theorem mi_J2_charAt_3b067 : MiS yJ2_charAt_3b067 cJ2_charAt_3b067 2 (some .char) 2 := ⟨⟨tw_819, tw_19, by decide +kernel⟩, tw_818⟩
theorem mi_J2_checkIndex_2214a : MiS yJ2_checkIndex_2214a cJ2_checkIndex_2214a 2 none 2 := ⟨⟨tw_822, tw_19, by decide +kernel⟩, tw_821⟩
theorem mi_J2_length_9d52b : MiS yJ2_length_9d52b cJ2_length_9d52b 1 (some .int) 1 := ⟨⟨tw_825, tw_19, by decide +kernel⟩, tw_824⟩
theorem mi_J2_getChar_3b067 : MiS yJ2_getChar_3b067 cJ2_getChar_3b067 2 (some .char) 2 := ⟨⟨tw_829, tw_19, by decide +kernel⟩, tw_828⟩
theorem mi_X4_tellFault : MiV yX4_tellFault cX4_tellFault 1 none 0 := ⟨⟨tw_839, tw_12, by decide +kernel⟩, tw_838, ts_18⟩
theorem mi_X4_expectNumber : MiV yX4_expectNumber cX4_expectNumber 4 (some .int) 2 := ⟨⟨tw_843, tw_12, by decide +kernel⟩, tw_842, ts_19⟩
theorem mi_X4_valueAtHand : MiV yX4_valueAtHand cX4_valueAtHand 4 (some .int) 0 := ⟨⟨tw_847, tw_12, by decide +kernel⟩, tw_846, ts_20⟩
theorem mi_X4_readDays : MiV yX4_readDays cX4_readDays 1 none 0 := ⟨⟨tw_854, tw_12, by decide +kernel⟩, tw_853, ts_21⟩
theorem mi_X4_readBarred : MiV yX4_readBarred cX4_readBarred 3 none 0 := ⟨⟨tw_859, tw_12, by decide +kernel⟩, tw_858, ts_22⟩
theorem mi_X5_isFull : MiV yX5_isFull cX5_isFull 1 (some .boolean) 0 := ⟨⟨tw_866, tw_8, by decide +kernel⟩, tw_864, tw_865⟩
theorem mi_X5_add : MiV yX5_add cX5_add 2 (some .int) 1 := ⟨⟨tw_870, tw_8, by decide +kernel⟩, tw_868, tw_869⟩
theorem mi_X4_firstRow : MiV yX4_firstRow cX4_firstRow 1 (some .int) 0 := ⟨⟨tw_874, tw_12, by decide +kernel⟩, tw_872, tw_873⟩
theorem mi_X4_lastRow : MiV yX4_lastRow cX4_lastRow 1 (some .int) 0 := ⟨⟨tw_878, tw_12, by decide +kernel⟩, tw_876, tw_877⟩
theorem mi_X4_firstDay : MiV yX4_firstDay cX4_firstDay 1 (some .int) 0 := ⟨⟨tw_882, tw_12, by decide +kernel⟩, tw_880, tw_881⟩
theorem mi_X4_lastDay : MiV yX4_lastDay cX4_lastDay 1 (some .int) 0 := ⟨⟨tw_886, tw_12, by decide +kernel⟩, tw_884, tw_885⟩
theorem mi_X4_barred : MiV yX4_barred cX4_barred 1 (some .int) 0 := ⟨⟨tw_890, tw_12, by decide +kernel⟩, tw_888, tw_889⟩
theorem mi_X11_withdraw : MiV yX11_withdraw cX11_withdraw 2 (some .int) 1 := ⟨⟨tw_894, tw_1, by decide +kernel⟩, tw_892, tw_893⟩
theorem mi_X5_has : MiV yX5_has cX5_has 2 (some .boolean) 1 := ⟨⟨tw_898, tw_8, by decide +kernel⟩, tw_896, tw_897⟩
theorem mi_X5_isWithdrawn : MiV yX5_isWithdrawn cX5_isWithdrawn 2 (some .boolean) 1 := ⟨⟨tw_902, tw_8, by decide +kernel⟩, tw_900, tw_901⟩
theorem mi_X5_takeBack : MiV yX5_takeBack cX5_takeBack 2 none 1 := ⟨⟨tw_906, tw_8, by decide +kernel⟩, tw_904, tw_905⟩
theorem mi_X11_lets : MiV yX11_lets cX11_lets 5 (some .int) 3 := ⟨⟨tw_910, tw_1, by decide +kernel⟩, tw_908, tw_909⟩
theorem mi_X11_days : MiV yX11_days cX11_days 2 (some .int) 1 := ⟨⟨tw_914, tw_1, by decide +kernel⟩, tw_912, tw_913⟩
theorem mi_X11_sheet : MiV yX11_sheet cX11_sheet 3 (some .int) 2 := ⟨⟨tw_918, tw_1, by decide +kernel⟩, tw_916, tw_917⟩
theorem mi_X11_isSheet : MiS yX11_isSheet cX11_isSheet 1 (some .boolean) 1 := ⟨⟨tw_921, tw_1, by decide +kernel⟩, tw_920⟩
theorem mi_X11_sheetNumbered : MiV yX11_sheetNumbered cX11_sheetNumbered 2 (some (.object "SherdField$Sheet")) 1 := ⟨⟨tw_926, tw_1, by decide +kernel⟩, tw_925, ts_23⟩
theorem mi_X7_renew : MiV yX7_renew cX7_renew 2 none 1 := ⟨⟨tw_930, tw_9, by decide +kernel⟩, tw_928, tw_929⟩
theorem mi_J7_fill_fb410 : MiS yJ7_fill_fb410 cJ7_fill_fb410 4 none 2 := ⟨⟨tw_933, tw_14, by decide +kernel⟩, tw_932⟩
theorem mi_X11_mark : MiV yX11_mark cX11_mark 5 (some .int) 3 := ⟨⟨tw_937, tw_1, by decide +kernel⟩, tw_935, tw_936⟩
theorem mi_X7_put : MiV yX7_put cX7_put 4 (some .int) 2 := ⟨⟨tw_943, tw_9, by decide +kernel⟩, tw_941, tw_942⟩
theorem mi_X11_copy : MiV yX11_copy cX11_copy 8 (some .int) 5 := ⟨⟨tw_947, tw_1, by decide +kernel⟩, tw_945, tw_946⟩
theorem mi_X7_hasRun : MiV yX7_hasRun cX7_hasRun 3 (some .boolean) 2 := ⟨⟨tw_951, tw_9, by decide +kernel⟩, tw_949, tw_950⟩
theorem mi_X7_take : MiV yX7_take cX7_take 5 none 4 := ⟨⟨tw_955, tw_9, by decide +kernel⟩, tw_953, tw_954⟩
theorem mi_X11_lose : MiV yX11_lose cX11_lose 3 (some .int) 1 := ⟨⟨tw_962, tw_1, by decide +kernel⟩, tw_960, tw_961⟩
theorem mi_X7_vanish : MiV yX7_vanish cX7_vanish 2 (some .int) 0 := ⟨⟨tw_966, tw_9, by decide +kernel⟩, tw_964, tw_965⟩
theorem mi_X11_many : MiV yX11_many cX11_many 2 (some .int) 1 := ⟨⟨tw_970, tw_1, by decide +kernel⟩, tw_968, tw_969⟩
theorem mi_X1_number : MiV yX1_number cX1_number 1 (some .int) 0 := ⟨⟨tw_975, tw_5, by decide +kernel⟩, tw_973, tw_974⟩
theorem mi_X11_gaps : MiV yX11_gaps cX11_gaps 3 (some .int) 0 := ⟨⟨tw_979, tw_1, by decide +kernel⟩, tw_978, ts_24⟩
theorem mi_X5_standing : MiV yX5_standing cX5_standing 3 (some .int) 0 := ⟨⟨tw_983, tw_8, by decide +kernel⟩, tw_981, tw_982⟩
theorem mi_X2_barrenPaces : MiV yX2_barrenPaces cX2_barrenPaces 1 (some .int) 0 := ⟨⟨tw_988, tw_2, by decide +kernel⟩, tw_986, tw_987⟩
theorem mi_J13_bitCount_95d88 : MiS yJ13_bitCount_95d88 cJ13_bitCount_95d88 2 (some .int) 1 := ⟨⟨tw_991, tw_21, by decide +kernel⟩, tw_990⟩
theorem mi_X12_init : Mi yX12_init cX12_init 2 none 0 := ⟨tw_999, tw_13, by decide +kernel⟩
theorem mi_X12_field : MiV yX12_field cX12_field 4 (some .int) 2 := ⟨⟨tw_1135, tw_13, by decide +kernel⟩, tw_1133, tw_1134⟩
theorem mi_X12_isIn : MiS yX12_isIn cX12_isIn 3 (some .boolean) 3 := ⟨⟨tw_1138, tw_13, by decide +kernel⟩, tw_1137⟩
theorem mi_X12_paces : MiV yX12_paces cX12_paces 1 (some .int) 0 := ⟨⟨tw_1143, tw_13, by decide +kernel⟩, tw_1142, ts_25⟩
theorem mi_X12_sort : MiV yX12_sort cX12_sort 4 (some .int) 2 := ⟨⟨tw_1147, tw_13, by decide +kernel⟩, tw_1145, tw_1146⟩
theorem mi_X12_isKind : MiS yX12_isKind cX12_isKind 1 (some .boolean) 1 := ⟨⟨tw_1150, tw_13, by decide +kernel⟩, tw_1149⟩
theorem mi_X12_isOf : MiV yX12_isOf cX12_isOf 3 (some .int) 2 := ⟨⟨tw_1154, tw_13, by decide +kernel⟩, tw_1152, tw_1153⟩
theorem mi_X12_walk : MiV yX12_walk cX12_walk 3 (some .int) 2 := ⟨⟨tw_1158, tw_13, by decide +kernel⟩, tw_1156, tw_1157⟩
theorem mi_X12_isWalker : MiS yX12_isWalker cX12_isWalker 1 (some .boolean) 1 := ⟨⟨tw_1161, tw_13, by decide +kernel⟩, tw_1160⟩
theorem mi_X12_isRow : MiV yX12_isRow cX12_isRow 2 (some .boolean) 1 := ⟨⟨tw_1165, tw_13, by decide +kernel⟩, tw_1164, ts_26⟩
theorem mi_X12_letBy : MiV yX12_letBy cX12_letBy 5 (some .int) 3 := ⟨⟨tw_1169, tw_13, by decide +kernel⟩, tw_1168, ts_27⟩
theorem mi_X12_isLet : MiV yX12_isLet cX12_isLet 6 (some .boolean) 4 := ⟨⟨tw_1173, tw_13, by decide +kernel⟩, tw_1172, ts_28⟩
theorem mi_X12_find : MiV yX12_find cX12_find 5 (some .int) 4 := ⟨⟨tw_1180, tw_13, by decide +kernel⟩, tw_1178, tw_1179⟩
theorem mi_X12_isWalk : MiV yX12_isWalk cX12_isWalk 2 (some .boolean) 1 := ⟨⟨tw_1184, tw_13, by decide +kernel⟩, tw_1183, ts_29⟩
theorem mi_X12_isPace : MiV yX12_isPace cX12_isPace 2 (some .boolean) 1 := ⟨⟨tw_1188, tw_13, by decide +kernel⟩, tw_1187, ts_30⟩
theorem mi_X12_told : MiV yX12_told cX12_told 3 (some .int) 2 := ⟨⟨tw_1192, tw_13, by decide +kernel⟩, tw_1190, tw_1191⟩
theorem mi_X12_found : MiV yX12_found cX12_found 5 (some .int) 2 := ⟨⟨tw_1196, tw_13, by decide +kernel⟩, tw_1195, ts_31⟩
theorem mi_X12_walkOf : MiV yX12_walkOf cX12_walkOf 6 (some .int) 1 := ⟨⟨tw_1200, tw_13, by decide +kernel⟩, tw_1199, ts_32⟩
theorem mi_X12_of : MiV yX12_of cX12_of 3 (some .int) 2 := ⟨⟨tw_1204, tw_13, by decide +kernel⟩, tw_1202, tw_1203⟩
theorem mi_X12_count : MiV yX12_count cX12_count 3 (some .int) 2 := ⟨⟨tw_1208, tw_13, by decide +kernel⟩, tw_1206, tw_1207⟩
theorem mi_X12_at : MiV yX12_at cX12_at 6 (some .int) 3 := ⟨⟨tw_1212, tw_13, by decide +kernel⟩, tw_1211, ts_33⟩
theorem mi_X12_gap : MiV yX12_gap cX12_gap 2 (some .int) 0 := ⟨⟨tw_1216, tw_13, by decide +kernel⟩, tw_1214, tw_1215⟩
theorem mi_X12_led : MiV yX12_led cX12_led 6 (some .int) 2 := ⟨⟨tw_1220, tw_13, by decide +kernel⟩, tw_1218, tw_1219⟩
theorem mi_X12_pair : MiV yX12_pair cX12_pair 7 (some .int) 3 := ⟨⟨tw_1224, tw_13, by decide +kernel⟩, tw_1222, tw_1223⟩
theorem mi_X12_eye : MiV yX12_eye cX12_eye 2 (some .int) 1 := ⟨⟨tw_1228, tw_13, by decide +kernel⟩, tw_1226, tw_1227⟩
theorem mi_X12_eyeOf : MiV yX12_eyeOf cX12_eyeOf 6 (some .int) 1 := ⟨⟨tw_1232, tw_13, by decide +kernel⟩, tw_1231, ts_34⟩
theorem mi_X12_corrected : MiV yX12_corrected cX12_corrected 3 (some .int) 2 := ⟨⟨tw_1236, tw_13, by decide +kernel⟩, tw_1234, tw_1235⟩
theorem mi_X12_look : MiV yX12_look cX12_look 2 none 0 := ⟨⟨tw_1240, tw_13, by decide +kernel⟩, tw_1239, ts_35⟩
theorem mi_X12_correctedAt : MiV yX12_correctedAt cX12_correctedAt 7 (some .int) 2 := ⟨⟨tw_1244, tw_13, by decide +kernel⟩, tw_1243, ts_36⟩
theorem mi_X12_worth : MiV yX12_worth cX12_worth 3 (some .int) 2 := ⟨⟨tw_1248, tw_13, by decide +kernel⟩, tw_1246, tw_1247⟩
theorem mi_X12_weigh : MiV yX12_weigh cX12_weigh 3 none 0 := ⟨⟨tw_1252, tw_13, by decide +kernel⟩, tw_1251, ts_37⟩
theorem mi_X12_ring : MiV yX12_ring cX12_ring 5 (some .int) 1 := ⟨⟨tw_1256, tw_13, by decide +kernel⟩, tw_1255, ts_38⟩
theorem mi_X12_greatest : MiV yX12_greatest cX12_greatest 1 (some .int) 0 := ⟨⟨tw_1260, tw_13, by decide +kernel⟩, tw_1258, tw_1259⟩
theorem mi_X12_best : MiV yX12_best cX12_best 3 (some .int) 0 := ⟨⟨tw_1264, tw_13, by decide +kernel⟩, tw_1263, ts_39⟩
theorem mi_X12_heap : MiV yX12_heap cX12_heap 11 (some .int) 2 := ⟨⟨tw_1268, tw_13, by decide +kernel⟩, tw_1266, tw_1267⟩
theorem mi_X12_spade : MiV yX12_spade cX12_spade 4 (some .int) 2 := ⟨⟨tw_1273, tw_13, by decide +kernel⟩, tw_1271, tw_1272⟩
theorem mi_X12_rule : MiV yX12_rule cX12_rule 4 (some .int) 2 := ⟨⟨tw_1277, tw_13, by decide +kernel⟩, tw_1275, tw_1276⟩
theorem mi_X12_plough : MiV yX12_plough cX12_plough 4 (some .int) 2 := ⟨⟨tw_1281, tw_13, by decide +kernel⟩, tw_1279, tw_1280⟩
theorem mi_X12_ploughOnce : MiV yX12_ploughOnce cX12_ploughOnce 3 none 0 := ⟨⟨tw_1286, tw_13, by decide +kernel⟩, tw_1285, ts_40⟩
theorem mi_X12_besideMany : MiV yX12_besideMany cX12_besideMany 3 (some .int) 1 := ⟨⟨tw_1290, tw_13, by decide +kernel⟩, tw_1289, ts_41⟩
theorem mi_X12_profile : MiV yX12_profile cX12_profile 5 (some .int) 3 := ⟨⟨tw_1294, tw_13, by decide +kernel⟩, tw_1292, tw_1293⟩
theorem mi_X12_mixed : MiV yX12_mixed cX12_mixed 10 (some .int) 1 := ⟨⟨tw_1298, tw_13, by decide +kernel⟩, tw_1296, tw_1297⟩
theorem mi_X12_far : MiV yX12_far cX12_far 9 (some .long) 3 := ⟨⟨tw_1302, tw_13, by decide +kernel⟩, tw_1301, ts_42⟩
theorem mi_X12_feed : MiV yX12_feed cX12_feed 4 (some .int) 3 := ⟨⟨tw_1307, tw_13, by decide +kernel⟩, tw_1305, tw_1306⟩
theorem mi_X12_four : MiV yX12_four cX12_four 3 none 1 := ⟨⟨tw_1311, tw_13, by decide +kernel⟩, tw_1310, ts_43⟩
theorem mi_X12_trim : MiV yX12_trim cX12_trim 2 (some .int) 1 := ⟨⟨tw_1315, tw_13, by decide +kernel⟩, tw_1313, tw_1314⟩
theorem mi_X12_leave : MiV yX12_leave cX12_leave 3 (some .int) 0 := ⟨⟨tw_1319, tw_13, by decide +kernel⟩, tw_1317, tw_1318⟩
theorem mi_X12_readLeave : MiV yX12_readLeave cX12_readLeave 5 (some .int) 1 := ⟨⟨tw_1323, tw_13, by decide +kernel⟩, tw_1322, ts_44⟩
theorem mi_X12_next : MiV yX12_next cX12_next 1 none 0 := ⟨⟨tw_1327, tw_13, by decide +kernel⟩, tw_1326, ts_45⟩
theorem mi_X12_isWord : MiV yX12_isWord cX12_isWord 6 (some .boolean) 4 := ⟨⟨tw_1331, tw_13, by decide +kernel⟩, tw_1330, ts_46⟩
theorem mi_X12_isSpan : MiV yX12_isSpan cX12_isSpan 2 (some .boolean) 1 := ⟨⟨tw_1335, tw_13, by decide +kernel⟩, tw_1334, ts_47⟩
theorem mi_X12_number : MiV yX12_number cX12_number 3 (some .int) 0 := ⟨⟨tw_1339, tw_13, by decide +kernel⟩, tw_1338, ts_48⟩
theorem mi_X12_here : MiV yX12_here cX12_here 1 (some .int) 0 := ⟨⟨tw_1343, tw_13, by decide +kernel⟩, tw_1342, ts_49⟩
theorem mi_X12_put : MiV yX12_put cX12_put 2 none 1 := ⟨⟨tw_1347, tw_13, by decide +kernel⟩, tw_1346, ts_50⟩
theorem mi_X12_withdraw : MiV yX12_withdraw cX12_withdraw 2 (some .int) 1 := ⟨⟨tw_1351, tw_13, by decide +kernel⟩, tw_1349, tw_1350⟩
theorem mi_X12_lets : MiV yX12_lets cX12_lets 4 (some .int) 3 := ⟨⟨tw_1355, tw_13, by decide +kernel⟩, tw_1353, tw_1354⟩
theorem mi_X12_days : MiV yX12_days cX12_days 2 (some .int) 1 := ⟨⟨tw_1359, tw_13, by decide +kernel⟩, tw_1357, tw_1358⟩
theorem mi_X12_sheet : MiV yX12_sheet cX12_sheet 4 (some .int) 2 := ⟨⟨tw_1363, tw_13, by decide +kernel⟩, tw_1361, tw_1362⟩
theorem mi_X12_isSheet : MiS yX12_isSheet cX12_isSheet 1 (some .boolean) 1 := ⟨⟨tw_1366, tw_13, by decide +kernel⟩, tw_1365⟩
theorem mi_X12_mark : MiV yX12_mark cX12_mark 5 (some .int) 3 := ⟨⟨tw_1371, tw_13, by decide +kernel⟩, tw_1369, tw_1370⟩
theorem mi_X12_copy : MiV yX12_copy cX12_copy 7 (some .int) 5 := ⟨⟨tw_1376, tw_13, by decide +kernel⟩, tw_1374, tw_1375⟩
theorem mi_X12_lose : MiV yX12_lose cX12_lose 3 (some .int) 1 := ⟨⟨tw_1380, tw_13, by decide +kernel⟩, tw_1378, tw_1379⟩
theorem mi_X12_many : MiV yX12_many cX12_many 4 (some .int) 1 := ⟨⟨tw_1384, tw_13, by decide +kernel⟩, tw_1382, tw_1383⟩
end
section
/-- addresses are apart and may be written -/
def Oka (n : Nat) (ad : Nat → Nat) (A : Nat → Prop) : Prop := (∀ i j : Nat, i < n → j < n → ad i = ad j → i = j) ∧ ∀ i : Nat, i < n → A (ad i)
/-- the world of SherdField -/
def cw (E : Ev) (ad : Nat → Nat) (sc : Nat → Int32) (ar : Nat → Nat → Int32) (bl : Int64) : va_W := [(ad 0, .inr (11, [.ref (ad 1), .ref (ad 2), .ref (ad 3), .ref (ad 4), .ref (ad 5), .ref (ad 6), .ref (ad 7), .ref (ad 8), .ref (ad 9), .ref (ad 10), .ref (ad 11), .ref (ad 12), .int (sc 0), .int (sc 1), .int (sc 2)])), (ad 1, .inr (2, [.int (sc 3), .int (sc 4), .long bl, .ref (ad 13), .ref (ad 14)])), (ad 2, .inr (8, [.ref (ad 15)])), (ad 3, .inr (10, [.ref (ad 16), .ref (ad 17), .ref (ad 18), .ref (ad 19), .ref (ad 20), .int (sc 5)])), (ad 4, .inr (1, [.ref (ad 21), .ref (ad 22), .ref (ad 23), .ref (ad 24), .int (sc 6)])), (ad 5, .inr (0, [.ref (ad 3), .ref (ad 2)])), (ad 6, .inr (3, [.ref (ad 1), .ref (ad 3), .ref (ad 5), .ref (ad 2), .ref (ad 25), .ref (ad 26)])), (ad 7, .inr (6, [.ref (ad 27), .ref (ad 28), .ref (ad 29)])), (ad 8, .inr (9, [.ref (ad 30), .int (sc 7)])), (ad 9, .inr (4, [.ref (ad 8), .int (sc 8), .int (sc 9), .int (sc 10), .int (sc 11), .int (sc 12), .int (sc 13), .int (sc 14), .int (sc 15)])), (ad 10, .inr (5, [.ref (ad 31), .ref (ad 32), .ref (ad 33), .ref (ad 34), .ref (ad 35), .ref (ad 36), .int (sc 16)])), (ad 11, .inr (7, [.ref (ad 37), .int (sc 17)])), (ad 12, .inr (7, [.ref (ad 38), .int (sc 18)])), (ad 13, .inl (E.2.2.1 1, 64, .inl (ar 13))), (ad 14, .inl (E.2.2.1 1, 64, .inl (ar 14))), (ad 15, .inl (E.2.2.1 1, 4, .inl (ar 15))), (ad 16, .inl (E.2.2.1 1, 60, .inl (ar 16))), (ad 17, .inl (E.2.2.1 1, 60, .inl (ar 17))), (ad 18, .inl (E.2.2.1 1, 60, .inl (ar 18))), (ad 19, .inl (E.2.2.1 1, 240, .inl (ar 19))), (ad 20, .inl (E.2.2.1 1, 1920, .inl (ar 20))), (ad 21, .inl (E.2.2.1 1, 200, .inl (ar 21))), (ad 22, .inl (E.2.2.1 1, 200, .inl (ar 22))), (ad 23, .inl (E.2.2.1 1, 200, .inl (ar 23))), (ad 24, .inl (E.2.2.1 1, 200, .inl (ar 24))), (ad 25, .inl (E.2.2.1 1, 64, .inl (ar 25))), (ad 26, .inl (E.2.2.1 1, 64, .inl (ar 26))), (ad 27, .inl (E.2.2.1 1, 12, .inl (ar 27))), (ad 28, .inl (E.2.2.1 1, 4, .inl (ar 28))), (ad 29, .inl (E.2.2.1 1, 3, .inl (ar 29))), (ad 30, .inl (E.2.2.1 0, 60, .inl (ar 30))), (ad 31, .inl (E.2.2.1 1, 12, .inl (ar 31))), (ad 32, .inl (E.2.2.1 1, 12, .inl (ar 32))), (ad 33, .inl (E.2.2.1 1, 12, .inl (ar 33))), (ad 34, .inl (E.2.2.1 1, 12, .inl (ar 34))), (ad 35, .inl (E.2.2.1 1, 12, .inl (ar 35))), (ad 36, .inl (E.2.2.1 4, 12, .inl (ar 36))), (ad 37, .inl (E.2.2.1 3, 64, .inl (ar 37))), (ad 38, .inl (E.2.2.1 3, 64, .inl (ar 38)))]
/-- the world of SherdFieldModel -/
def mw (E : Ev) (ad : Nat → Nat) (sc : Nat → Int32) (ar : Nat → Nat → Int32) (la : Nat → Int64) : va_W := [(ad 0, .inr (12, [.int (sc 0), .int (sc 1), .ref (ad 1), .int (sc 2), .int (sc 3), .ref (ad 2), .ref (ad 3), .ref (ad 4), .int (sc 4), .ref (ad 5), .ref (ad 6), .ref (ad 7), .ref (ad 8), .ref (ad 9), .int (sc 5), .int (sc 6), .ref (ad 10), .ref (ad 11), .int (sc 7), .int (sc 8), .ref (ad 12), .ref (ad 13), .ref (ad 14), .ref (ad 15), .ref (ad 16), .ref (ad 17), .ref (ad 18), .ref (ad 19), .ref (ad 20), .ref (ad 21), .ref (ad 22), .ref (ad 23), .ref (ad 24), .ref (ad 25), .ref (ad 26), .ref (ad 27), .int (sc 9), .int (sc 10), .int (sc 11), .int (sc 12), .int (sc 13), .ref (ad 28), .ref (ad 29)])), (ad 1, .inl (E.2.2.1 1, 4, .inl (ar 1))), (ad 2, .inl (E.2.2.1 1, 60, .inl (ar 2))), (ad 3, .inl (E.2.2.1 1, 60, .inl (ar 3))), (ad 4, .inl (E.2.2.1 1, 60, .inl (ar 4))), (ad 5, .inl (E.2.2.1 1, 200, .inl (ar 5))), (ad 6, .inl (E.2.2.1 1, 200, .inl (ar 6))), (ad 7, .inl (E.2.2.1 1, 200, .inl (ar 7))), (ad 8, .inl (E.2.2.1 1, 200, .inl (ar 8))), (ad 9, .inl (E.2.2.1 4, 64, .inl (ar 9))), (ad 10, .inl (E.2.2.1 1, 12, .inl (ar 10))), (ad 11, .inl (E.2.2.1 1, 60, .inl (ar 11))), (ad 12, .inl (E.2.2.1 1, 12, .inl (ar 12))), (ad 13, .inl (E.2.2.1 1, 12, .inl (ar 13))), (ad 14, .inl (E.2.2.1 1, 12, .inl (ar 14))), (ad 15, .inl (E.2.2.1 1, 12, .inl (ar 15))), (ad 16, .inl (E.2.2.1 1, 12, .inl (ar 16))), (ad 17, .inl (E.2.2.1 4, 12, .inl (ar 17))), (ad 18, .inl (E.2.2.1 1, 2, .inl (ar 18))), (ad 19, .inl (E.2.2.1 1, 128, .inl (ar 19))), (ad 20, .inl (E.2.2.1 1, 60, .inl (ar 20))), (ad 21, .inl (E.2.2.1 1, 5, .inl (ar 21))), (ad 22, .inl (E.2.2.1 1, 8, .inl (ar 22))), (ad 23, .inl (E.2.2.1 1, 64, .inl (ar 23))), (ad 24, .inl (E.2.2.1 1, 64, .inl (ar 24))), (ad 25, .inl (E.2.2.1 1, 64, .inl (ar 25))), (ad 26, .inl (E.2.2.1 1, 64, .inl (ar 26))), (ad 27, .inl (E.2.2.1 2, 4, .inr (.inl la))), (ad 28, .inl (E.2.2.1 1, 5, .inl (ar 28))), (ad 29, .inl (E.2.2.1 1, 64, .inl (ar 29)))]
theorem oka_D {n : Nat} {ad : Nat → Nat} {A : Nat → Prop} {ws : va_W} (h : Oka n ad A) (hm : ws.map (fun q => q.1) = (List.range n).map ad) : va_D A ws := by
  have key : ∀ (k : Nat) (q : Nat × va_E), ws[k]? = some q → k < n ∧ q.1 = ad k := by
    intro k q hk
    have h1 : (ws.map (fun q => q.1))[k]? = some q.1 := by rw [List.getElem?_map, hk]; rfl
    rw [hm, List.getElem?_map] at h1
    by_cases hkn : k < n
    · rw [List.getElem?_range hkn] at h1
      exact ⟨hkn, (Option.some.inj h1).symm⟩
    · rw [List.getElem?_eq_none (by simpa using hkn)] at h1
      cases h1
  refine ⟨fun i j p q hi hj e => ?_, fun k q hk => ?_⟩
  · obtain ⟨a1, a2⟩ := key i p hi
    obtain ⟨b1, b2⟩ := key j q hj
    exact h.1 i j a1 b1 (by rw [← a2, ← b2]; exact e)
  · obtain ⟨a1, a2⟩ := key k q hk
    rw [a2]; exact h.2 k a1
theorem cw_D {E : Ev} {ad : Nat → Nat} {A : Nat → Prop} (h : Oka 39 ad A) (sc : Nat → Int32) (ar : Nat → Nat → Int32) (bl : Int64) : va_D A (cw E ad sc ar bl) := oka_D h rfl
theorem mw_D {E : Ev} {ad : Nat → Nat} {A : Nat → Prop} (h : Oka 30 ad A) (sc : Nat → Int32) (ar : Nat → Nat → Int32) (la : Nat → Int64) : va_D A (mw E ad sc ar la) := oka_D h rfl
section WR
variable {p : Program} {l : Launch} {e : Env} {R : Room} {s : State} {m : MethodId} {args : Array Value} {below : List Frame} {meth : Method} {c : Code} {cells slots : Nat} {Q : State → Prop}
variable {E : Ev} {A : Nat → Prop} {nL : Nat} {pc : Nat} {lv : List (Nat × Value)} {st : List Value} {own : String} {cc : ByteArray} {ret : Option FieldType} {ad : Nat → Nat} {sc : Nat → Int32} {ar : Nat → Nat → Int32} {bl : Int64} {la : Nat → Int64} {index : Nat}
theorem gf_c0_ground (hc : Cx p s m args meth c E A own cc nL ret) (t : Cond.fieldLink own index "SherdField" "ground" "LSherdField$Ground;" ∈ gtb) (hd : decode cc pc = .ok (.getfield index, 3)) (k : G p l e R s m args below meth c cells slots Q E A nL (cw E ad sc ar bl) (pc + 3) lv (.ref (ad 1) :: st)) : G p l e R s m args below meth c cells slots Q E A nL (cw E ad sc ar bl) (pc) lv (.ref (ad 0) :: st) := g_get (C := RX11) (T := TX11) (N := 15) (ci := 11) hc inX11 0 rfl rfl 0 (by decide) t rfl rfl hd k
theorem gf_c0_sorts (hc : Cx p s m args meth c E A own cc nL ret) (t : Cond.fieldLink own index "SherdField" "sorts" "LSherdField$Sorts;" ∈ gtb) (hd : decode cc pc = .ok (.getfield index, 3)) (k : G p l e R s m args below meth c cells slots Q E A nL (cw E ad sc ar bl) (pc + 3) lv (.ref (ad 2) :: st)) : G p l e R s m args below meth c cells slots Q E A nL (cw E ad sc ar bl) (pc) lv (.ref (ad 0) :: st) := g_get (C := RX11) (T := TX11) (N := 15) (ci := 11) hc inX11 0 rfl rfl 1 (by decide) t rfl rfl hd k
theorem gf_c0_walks (hc : Cx p s m args meth c E A own cc nL ret) (t : Cond.fieldLink own index "SherdField" "walks" "LSherdField$Walks;" ∈ gtb) (hd : decode cc pc = .ok (.getfield index, 3)) (k : G p l e R s m args below meth c cells slots Q E A nL (cw E ad sc ar bl) (pc + 3) lv (.ref (ad 3) :: st)) : G p l e R s m args below meth c cells slots Q E A nL (cw E ad sc ar bl) (pc) lv (.ref (ad 0) :: st) := g_get (C := RX11) (T := TX11) (N := 15) (ci := 11) hc inX11 0 rfl rfl 2 (by decide) t rfl rfl hd k
theorem gf_c0_finds (hc : Cx p s m args meth c E A own cc nL ret) (t : Cond.fieldLink own index "SherdField" "finds" "LSherdField$Finds;" ∈ gtb) (hd : decode cc pc = .ok (.getfield index, 3)) (k : G p l e R s m args below meth c cells slots Q E A nL (cw E ad sc ar bl) (pc + 3) lv (.ref (ad 4) :: st)) : G p l e R s m args below meth c cells slots Q E A nL (cw E ad sc ar bl) (pc) lv (.ref (ad 0) :: st) := g_get (C := RX11) (T := TX11) (N := 15) (ci := 11) hc inX11 0 rfl rfl 3 (by decide) t rfl rfl hd k
theorem gf_c0_eyes (hc : Cx p s m args meth c E A own cc nL ret) (t : Cond.fieldLink own index "SherdField" "eyes" "LSherdField$Eyes;" ∈ gtb) (hd : decode cc pc = .ok (.getfield index, 3)) (k : G p l e R s m args below meth c cells slots Q E A nL (cw E ad sc ar bl) (pc + 3) lv (.ref (ad 5) :: st)) : G p l e R s m args below meth c cells slots Q E A nL (cw E ad sc ar bl) (pc) lv (.ref (ad 0) :: st) := g_get (C := RX11) (T := TX11) (N := 15) (ci := 11) hc inX11 0 rfl rfl 4 (by decide) t rfl rfl hd k
theorem gf_c0_heaps (hc : Cx p s m args meth c E A own cc nL ret) (t : Cond.fieldLink own index "SherdField" "heaps" "LSherdField$Heaps;" ∈ gtb) (hd : decode cc pc = .ok (.getfield index, 3)) (k : G p l e R s m args below meth c cells slots Q E A nL (cw E ad sc ar bl) (pc + 3) lv (.ref (ad 6) :: st)) : G p l e R s m args below meth c cells slots Q E A nL (cw E ad sc ar bl) (pc) lv (.ref (ad 0) :: st) := g_get (C := RX11) (T := TX11) (N := 15) (ci := 11) hc inX11 0 rfl rfl 5 (by decide) t rfl rfl hd k
theorem gf_c0_periods (hc : Cx p s m args meth c E A own cc nL ret) (t : Cond.fieldLink own index "SherdField" "periods" "LSherdField$Periods;" ∈ gtb) (hd : decode cc pc = .ok (.getfield index, 3)) (k : G p l e R s m args below meth c cells slots Q E A nL (cw E ad sc ar bl) (pc + 3) lv (.ref (ad 7) :: st)) : G p l e R s m args below meth c cells slots Q E A nL (cw E ad sc ar bl) (pc) lv (.ref (ad 0) :: st) := g_get (C := RX11) (T := TX11) (N := 15) (ci := 11) hc inX11 0 rfl rfl 6 (by decide) t rfl rfl hd k
theorem gf_c0_tape (hc : Cx p s m args meth c E A own cc nL ret) (t : Cond.fieldLink own index "SherdField" "tape" "LSherdField$Tape;" ∈ gtb) (hd : decode cc pc = .ok (.getfield index, 3)) (k : G p l e R s m args below meth c cells slots Q E A nL (cw E ad sc ar bl) (pc + 3) lv (.ref (ad 8) :: st)) : G p l e R s m args below meth c cells slots Q E A nL (cw E ad sc ar bl) (pc) lv (.ref (ad 0) :: st) := g_get (C := RX11) (T := TX11) (N := 15) (ci := 11) hc inX11 0 rfl rfl 7 (by decide) t rfl rfl hd k
theorem gf_c0_reader (hc : Cx p s m args meth c E A own cc nL ret) (t : Cond.fieldLink own index "SherdField" "reader" "LSherdField$LeaveReader;" ∈ gtb) (hd : decode cc pc = .ok (.getfield index, 3)) (k : G p l e R s m args below meth c cells slots Q E A nL (cw E ad sc ar bl) (pc + 3) lv (.ref (ad 9) :: st)) : G p l e R s m args below meth c cells slots Q E A nL (cw E ad sc ar bl) (pc) lv (.ref (ad 0) :: st) := g_get (C := RX11) (T := TX11) (N := 15) (ci := 11) hc inX11 0 rfl rfl 8 (by decide) t rfl rfl hd k
theorem gf_c0_leaves (hc : Cx p s m args meth c E A own cc nL ret) (t : Cond.fieldLink own index "SherdField" "leaves" "LSherdField$Leaves;" ∈ gtb) (hd : decode cc pc = .ok (.getfield index, 3)) (k : G p l e R s m args below meth c cells slots Q E A nL (cw E ad sc ar bl) (pc + 3) lv (.ref (ad 10) :: st)) : G p l e R s m args below meth c cells slots Q E A nL (cw E ad sc ar bl) (pc) lv (.ref (ad 0) :: st) := g_get (C := RX11) (T := TX11) (N := 15) (ci := 11) hc inX11 0 rfl rfl 9 (by decide) t rfl rfl hd k
theorem gf_c0_firstSheet (hc : Cx p s m args meth c E A own cc nL ret) (t : Cond.fieldLink own index "SherdField" "firstSheet" "LSherdField$Sheet;" ∈ gtb) (hd : decode cc pc = .ok (.getfield index, 3)) (k : G p l e R s m args below meth c cells slots Q E A nL (cw E ad sc ar bl) (pc + 3) lv (.ref (ad 11) :: st)) : G p l e R s m args below meth c cells slots Q E A nL (cw E ad sc ar bl) (pc) lv (.ref (ad 0) :: st) := g_get (C := RX11) (T := TX11) (N := 15) (ci := 11) hc inX11 0 rfl rfl 10 (by decide) t rfl rfl hd k
theorem gf_c0_secondSheet (hc : Cx p s m args meth c E A own cc nL ret) (t : Cond.fieldLink own index "SherdField" "secondSheet" "LSherdField$Sheet;" ∈ gtb) (hd : decode cc pc = .ok (.getfield index, 3)) (k : G p l e R s m args below meth c cells slots Q E A nL (cw E ad sc ar bl) (pc + 3) lv (.ref (ad 12) :: st)) : G p l e R s m args below meth c cells slots Q E A nL (cw E ad sc ar bl) (pc) lv (.ref (ad 0) :: st) := g_get (C := RX11) (T := TX11) (N := 15) (ci := 11) hc inX11 0 rfl rfl 11 (by decide) t rfl rfl hd k
theorem gf_c0_today (hc : Cx p s m args meth c E A own cc nL ret) (t : Cond.fieldLink own index "SherdField" "today" "I" ∈ gtb) (hd : decode cc pc = .ok (.getfield index, 3)) (k : G p l e R s m args below meth c cells slots Q E A nL (cw E ad sc ar bl) (pc + 3) lv (.int (sc 0) :: st)) : G p l e R s m args below meth c cells slots Q E A nL (cw E ad sc ar bl) (pc) lv (.ref (ad 0) :: st) := g_get (C := RX11) (T := TX11) (N := 15) (ci := 11) hc inX11 0 rfl rfl 12 (by decide) t rfl rfl hd k
theorem pf_c0_today (hc : Cx p s m args meth c E A own cc nL ret) (hA : Oka 39 ad A) {v : Int32} (t : Cond.fieldLink own index "SherdField" "today" "I" ∈ gtb) (hd : decode cc pc = .ok (.putfield index, 3)) (k : G p l e R s m args below meth c cells slots Q E A nL (cw E ad (va_up sc 0 v) ar bl) (pc + 3) lv (st)) : G p l e R s m args below meth c cells slots Q E A nL (cw E ad sc ar bl) (pc) lv (.int v :: .ref (ad 0) :: st) := g_put (C := RX11) (T := TX11) (N := 15) (ci := 11) (ty := .int) hc (cw_D hA _ _ _) inX11 tyX11 tyX11_ok nmX11 0 rfl rfl 12 (by decide) t rfl rfl (by decide +kernel) rfl rfl (Nat.le_of_ble_eq_true rfl) rfl hd k
theorem gf_c0_seed (hc : Cx p s m args meth c E A own cc nL ret) (t : Cond.fieldLink own index "SherdField" "seed" "I" ∈ gtb) (hd : decode cc pc = .ok (.getfield index, 3)) (k : G p l e R s m args below meth c cells slots Q E A nL (cw E ad sc ar bl) (pc + 3) lv (.int (sc 1) :: st)) : G p l e R s m args below meth c cells slots Q E A nL (cw E ad sc ar bl) (pc) lv (.ref (ad 0) :: st) := g_get (C := RX11) (T := TX11) (N := 15) (ci := 11) hc inX11 0 rfl rfl 13 (by decide) t rfl rfl hd k
theorem pf_c0_seed (hc : Cx p s m args meth c E A own cc nL ret) (hA : Oka 39 ad A) {v : Int32} (t : Cond.fieldLink own index "SherdField" "seed" "I" ∈ gtb) (hd : decode cc pc = .ok (.putfield index, 3)) (k : G p l e R s m args below meth c cells slots Q E A nL (cw E ad (va_up sc 1 v) ar bl) (pc + 3) lv (st)) : G p l e R s m args below meth c cells slots Q E A nL (cw E ad sc ar bl) (pc) lv (.int v :: .ref (ad 0) :: st) := g_put (C := RX11) (T := TX11) (N := 15) (ci := 11) (ty := .int) hc (cw_D hA _ _ _) inX11 tyX11 tyX11_ok nmX11 0 rfl rfl 13 (by decide) t rfl rfl (by decide +kernel) rfl rfl (Nat.le_of_ble_eq_true rfl) rfl hd k
theorem gf_c0_spare (hc : Cx p s m args meth c E A own cc nL ret) (t : Cond.fieldLink own index "SherdField" "spare" "I" ∈ gtb) (hd : decode cc pc = .ok (.getfield index, 3)) (k : G p l e R s m args below meth c cells slots Q E A nL (cw E ad sc ar bl) (pc + 3) lv (.int (sc 2) :: st)) : G p l e R s m args below meth c cells slots Q E A nL (cw E ad sc ar bl) (pc) lv (.ref (ad 0) :: st) := g_get (C := RX11) (T := TX11) (N := 15) (ci := 11) hc inX11 0 rfl rfl 14 (by decide) t rfl rfl hd k
theorem pf_c0_spare (hc : Cx p s m args meth c E A own cc nL ret) (hA : Oka 39 ad A) {v : Int32} (t : Cond.fieldLink own index "SherdField" "spare" "I" ∈ gtb) (hd : decode cc pc = .ok (.putfield index, 3)) (k : G p l e R s m args below meth c cells slots Q E A nL (cw E ad (va_up sc 2 v) ar bl) (pc + 3) lv (st)) : G p l e R s m args below meth c cells slots Q E A nL (cw E ad sc ar bl) (pc) lv (.int v :: .ref (ad 0) :: st) := g_put (C := RX11) (T := TX11) (N := 15) (ci := 11) (ty := .int) hc (cw_D hA _ _ _) inX11 tyX11 tyX11_ok nmX11 0 rfl rfl 14 (by decide) t rfl rfl (by decide +kernel) rfl rfl (Nat.le_of_ble_eq_true rfl) rfl hd k
theorem gf_c1_wide (hc : Cx p s m args meth c E A own cc nL ret) (t : Cond.fieldLink own index "SherdField$Ground" "wide" "I" ∈ gtb) (hd : decode cc pc = .ok (.getfield index, 3)) (k : G p l e R s m args below meth c cells slots Q E A nL (cw E ad sc ar bl) (pc + 3) lv (.int (sc 3) :: st)) : G p l e R s m args below meth c cells slots Q E A nL (cw E ad sc ar bl) (pc) lv (.ref (ad 1) :: st) := g_get (C := RX2) (T := TX2) (N := 5) (ci := 2) hc inX2 1 rfl rfl 0 (by decide) t rfl rfl hd k
theorem pf_c1_wide (hc : Cx p s m args meth c E A own cc nL ret) (hA : Oka 39 ad A) {v : Int32} (t : Cond.fieldLink own index "SherdField$Ground" "wide" "I" ∈ gtb) (hd : decode cc pc = .ok (.putfield index, 3)) (k : G p l e R s m args below meth c cells slots Q E A nL (cw E ad (va_up sc 3 v) ar bl) (pc + 3) lv (st)) : G p l e R s m args below meth c cells slots Q E A nL (cw E ad sc ar bl) (pc) lv (.int v :: .ref (ad 1) :: st) := g_put (C := RX2) (T := TX2) (N := 5) (ci := 2) (ty := .int) hc (cw_D hA _ _ _) inX2 tyX2 tyX2_ok nmX2 1 rfl rfl 0 (by decide) t rfl rfl (by decide +kernel) rfl rfl (Nat.le_of_ble_eq_true rfl) rfl hd k
theorem gf_c1_high (hc : Cx p s m args meth c E A own cc nL ret) (t : Cond.fieldLink own index "SherdField$Ground" "high" "I" ∈ gtb) (hd : decode cc pc = .ok (.getfield index, 3)) (k : G p l e R s m args below meth c cells slots Q E A nL (cw E ad sc ar bl) (pc + 3) lv (.int (sc 4) :: st)) : G p l e R s m args below meth c cells slots Q E A nL (cw E ad sc ar bl) (pc) lv (.ref (ad 1) :: st) := g_get (C := RX2) (T := TX2) (N := 5) (ci := 2) hc inX2 1 rfl rfl 1 (by decide) t rfl rfl hd k
theorem pf_c1_high (hc : Cx p s m args meth c E A own cc nL ret) (hA : Oka 39 ad A) {v : Int32} (t : Cond.fieldLink own index "SherdField$Ground" "high" "I" ∈ gtb) (hd : decode cc pc = .ok (.putfield index, 3)) (k : G p l e R s m args below meth c cells slots Q E A nL (cw E ad (va_up sc 4 v) ar bl) (pc + 3) lv (st)) : G p l e R s m args below meth c cells slots Q E A nL (cw E ad sc ar bl) (pc) lv (.int v :: .ref (ad 1) :: st) := g_put (C := RX2) (T := TX2) (N := 5) (ci := 2) (ty := .int) hc (cw_D hA _ _ _) inX2 tyX2 tyX2_ok nmX2 1 rfl rfl 1 (by decide) t rfl rfl (by decide +kernel) rfl rfl (Nat.le_of_ble_eq_true rfl) rfl hd k
theorem gf_c1_barren (hc : Cx p s m args meth c E A own cc nL ret) (t : Cond.fieldLink own index "SherdField$Ground" "barren" "J" ∈ gtb) (hd : decode cc pc = .ok (.getfield index, 3)) (k : G p l e R s m args below meth c cells slots Q E A nL (cw E ad sc ar bl) (pc + 3) lv (.long bl :: st)) : G p l e R s m args below meth c cells slots Q E A nL (cw E ad sc ar bl) (pc) lv (.ref (ad 1) :: st) := g_get (C := RX2) (T := TX2) (N := 5) (ci := 2) hc inX2 1 rfl rfl 2 (by decide) t rfl rfl hd k
theorem pf_c1_barren (hc : Cx p s m args meth c E A own cc nL ret) (hA : Oka 39 ad A) {v : Int64} (t : Cond.fieldLink own index "SherdField$Ground" "barren" "J" ∈ gtb) (hd : decode cc pc = .ok (.putfield index, 3)) (k : G p l e R s m args below meth c cells slots Q E A nL (cw E ad sc ar v) (pc + 3) lv (st)) : G p l e R s m args below meth c cells slots Q E A nL (cw E ad sc ar bl) (pc) lv (.long v :: .ref (ad 1) :: st) := g_put (C := RX2) (T := TX2) (N := 5) (ci := 2) (ty := .long) hc (cw_D hA _ _ _) inX2 tyX2 tyX2_ok nmX2 1 rfl rfl 2 (by decide) t rfl rfl (by decide +kernel) rfl rfl (Nat.le_of_ble_eq_true rfl) rfl hd k
theorem gf_c1_lying (hc : Cx p s m args meth c E A own cc nL ret) (t : Cond.fieldLink own index "SherdField$Ground" "lying" "[I" ∈ gtb) (hd : decode cc pc = .ok (.getfield index, 3)) (k : G p l e R s m args below meth c cells slots Q E A nL (cw E ad sc ar bl) (pc + 3) lv (.ref (ad 13) :: st)) : G p l e R s m args below meth c cells slots Q E A nL (cw E ad sc ar bl) (pc) lv (.ref (ad 1) :: st) := g_get (C := RX2) (T := TX2) (N := 5) (ci := 2) hc inX2 1 rfl rfl 3 (by decide) t rfl rfl hd k
theorem gf_c1_spread (hc : Cx p s m args meth c E A own cc nL ret) (t : Cond.fieldLink own index "SherdField$Ground" "spread" "[I" ∈ gtb) (hd : decode cc pc = .ok (.getfield index, 3)) (k : G p l e R s m args below meth c cells slots Q E A nL (cw E ad sc ar bl) (pc + 3) lv (.ref (ad 14) :: st)) : G p l e R s m args below meth c cells slots Q E A nL (cw E ad sc ar bl) (pc) lv (.ref (ad 1) :: st) := g_get (C := RX2) (T := TX2) (N := 5) (ci := 2) hc inX2 1 rfl rfl 4 (by decide) t rfl rfl hd k
theorem gf_c2_sortOf (hc : Cx p s m args meth c E A own cc nL ret) (t : Cond.fieldLink own index "SherdField$Sorts" "sortOf" "[I" ∈ gtb) (hd : decode cc pc = .ok (.getfield index, 3)) (k : G p l e R s m args below meth c cells slots Q E A nL (cw E ad sc ar bl) (pc + 3) lv (.ref (ad 15) :: st)) : G p l e R s m args below meth c cells slots Q E A nL (cw E ad sc ar bl) (pc) lv (.ref (ad 2) :: st) := g_get (C := RX8) (T := TX8) (N := 1) (ci := 8) hc inX8 2 rfl rfl 0 (by decide) t rfl rfl hd k
theorem gf_c3_walkers (hc : Cx p s m args meth c E A own cc nL ret) (t : Cond.fieldLink own index "SherdField$Walks" "walkers" "[I" ∈ gtb) (hd : decode cc pc = .ok (.getfield index, 3)) (k : G p l e R s m args below meth c cells slots Q E A nL (cw E ad sc ar bl) (pc + 3) lv (.ref (ad 16) :: st)) : G p l e R s m args below meth c cells slots Q E A nL (cw E ad sc ar bl) (pc) lv (.ref (ad 3) :: st) := g_get (C := RX10) (T := TX10) (N := 6) (ci := 10) hc inX10 3 rfl rfl 0 (by decide) t rfl rfl hd k
theorem gf_c3_rows (hc : Cx p s m args meth c E A own cc nL ret) (t : Cond.fieldLink own index "SherdField$Walks" "rows" "[I" ∈ gtb) (hd : decode cc pc = .ok (.getfield index, 3)) (k : G p l e R s m args below meth c cells slots Q E A nL (cw E ad sc ar bl) (pc + 3) lv (.ref (ad 17) :: st)) : G p l e R s m args below meth c cells slots Q E A nL (cw E ad sc ar bl) (pc) lv (.ref (ad 3) :: st) := g_get (C := RX10) (T := TX10) (N := 6) (ci := 10) hc inX10 3 rfl rfl 1 (by decide) t rfl rfl hd k
theorem gf_c3_days (hc : Cx p s m args meth c E A own cc nL ret) (t : Cond.fieldLink own index "SherdField$Walks" "days" "[I" ∈ gtb) (hd : decode cc pc = .ok (.getfield index, 3)) (k : G p l e R s m args below meth c cells slots Q E A nL (cw E ad sc ar bl) (pc + 3) lv (.ref (ad 18) :: st)) : G p l e R s m args below meth c cells slots Q E A nL (cw E ad sc ar bl) (pc) lv (.ref (ad 3) :: st) := g_get (C := RX10) (T := TX10) (N := 6) (ci := 10) hc inX10 3 rfl rfl 2 (by decide) t rfl rfl hd k
theorem gf_c3_sums (hc : Cx p s m args meth c E A own cc nL ret) (t : Cond.fieldLink own index "SherdField$Walks" "sums" "[I" ∈ gtb) (hd : decode cc pc = .ok (.getfield index, 3)) (k : G p l e R s m args below meth c cells slots Q E A nL (cw E ad sc ar bl) (pc + 3) lv (.ref (ad 19) :: st)) : G p l e R s m args below meth c cells slots Q E A nL (cw E ad sc ar bl) (pc) lv (.ref (ad 3) :: st) := g_get (C := RX10) (T := TX10) (N := 6) (ci := 10) hc inX10 3 rfl rfl 3 (by decide) t rfl rfl hd k
theorem gf_c3_tallies (hc : Cx p s m args meth c E A own cc nL ret) (t : Cond.fieldLink own index "SherdField$Walks" "tallies" "[I" ∈ gtb) (hd : decode cc pc = .ok (.getfield index, 3)) (k : G p l e R s m args below meth c cells slots Q E A nL (cw E ad sc ar bl) (pc + 3) lv (.ref (ad 20) :: st)) : G p l e R s m args below meth c cells slots Q E A nL (cw E ad sc ar bl) (pc) lv (.ref (ad 3) :: st) := g_get (C := RX10) (T := TX10) (N := 6) (ci := 10) hc inX10 3 rfl rfl 4 (by decide) t rfl rfl hd k
theorem gf_c3_number (hc : Cx p s m args meth c E A own cc nL ret) (t : Cond.fieldLink own index "SherdField$Walks" "number" "I" ∈ gtb) (hd : decode cc pc = .ok (.getfield index, 3)) (k : G p l e R s m args below meth c cells slots Q E A nL (cw E ad sc ar bl) (pc + 3) lv (.int (sc 5) :: st)) : G p l e R s m args below meth c cells slots Q E A nL (cw E ad sc ar bl) (pc) lv (.ref (ad 3) :: st) := g_get (C := RX10) (T := TX10) (N := 6) (ci := 10) hc inX10 3 rfl rfl 5 (by decide) t rfl rfl hd k
theorem pf_c3_number (hc : Cx p s m args meth c E A own cc nL ret) (hA : Oka 39 ad A) {v : Int32} (t : Cond.fieldLink own index "SherdField$Walks" "number" "I" ∈ gtb) (hd : decode cc pc = .ok (.putfield index, 3)) (k : G p l e R s m args below meth c cells slots Q E A nL (cw E ad (va_up sc 5 v) ar bl) (pc + 3) lv (st)) : G p l e R s m args below meth c cells slots Q E A nL (cw E ad sc ar bl) (pc) lv (.int v :: .ref (ad 3) :: st) := g_put (C := RX10) (T := TX10) (N := 6) (ci := 10) (ty := .int) hc (cw_D hA _ _ _) inX10 tyX10 tyX10_ok nmX10 3 rfl rfl 5 (by decide) t rfl rfl (by decide +kernel) rfl rfl (Nat.le_of_ble_eq_true rfl) rfl hd k
theorem gf_c4_walks (hc : Cx p s m args meth c E A own cc nL ret) (t : Cond.fieldLink own index "SherdField$Finds" "walks" "[I" ∈ gtb) (hd : decode cc pc = .ok (.getfield index, 3)) (k : G p l e R s m args below meth c cells slots Q E A nL (cw E ad sc ar bl) (pc + 3) lv (.ref (ad 21) :: st)) : G p l e R s m args below meth c cells slots Q E A nL (cw E ad sc ar bl) (pc) lv (.ref (ad 4) :: st) := g_get (C := RX1) (T := TX1) (N := 5) (ci := 1) hc inX1 4 rfl rfl 0 (by decide) t rfl rfl hd k
theorem gf_c4_paces (hc : Cx p s m args meth c E A own cc nL ret) (t : Cond.fieldLink own index "SherdField$Finds" "paces" "[I" ∈ gtb) (hd : decode cc pc = .ok (.getfield index, 3)) (k : G p l e R s m args below meth c cells slots Q E A nL (cw E ad sc ar bl) (pc + 3) lv (.ref (ad 22) :: st)) : G p l e R s m args below meth c cells slots Q E A nL (cw E ad sc ar bl) (pc) lv (.ref (ad 4) :: st) := g_get (C := RX1) (T := TX1) (N := 5) (ci := 1) hc inX1 4 rfl rfl 1 (by decide) t rfl rfl hd k
theorem gf_c4_kinds (hc : Cx p s m args meth c E A own cc nL ret) (t : Cond.fieldLink own index "SherdField$Finds" "kinds" "[I" ∈ gtb) (hd : decode cc pc = .ok (.getfield index, 3)) (k : G p l e R s m args below meth c cells slots Q E A nL (cw E ad sc ar bl) (pc + 3) lv (.ref (ad 23) :: st)) : G p l e R s m args below meth c cells slots Q E A nL (cw E ad sc ar bl) (pc) lv (.ref (ad 4) :: st) := g_get (C := RX1) (T := TX1) (N := 5) (ci := 1) hc inX1 4 rfl rfl 2 (by decide) t rfl rfl hd k
theorem gf_c4_numbers (hc : Cx p s m args meth c E A own cc nL ret) (t : Cond.fieldLink own index "SherdField$Finds" "numbers" "[I" ∈ gtb) (hd : decode cc pc = .ok (.getfield index, 3)) (k : G p l e R s m args below meth c cells slots Q E A nL (cw E ad sc ar bl) (pc + 3) lv (.ref (ad 24) :: st)) : G p l e R s m args below meth c cells slots Q E A nL (cw E ad sc ar bl) (pc) lv (.ref (ad 4) :: st) := g_get (C := RX1) (T := TX1) (N := 5) (ci := 1) hc inX1 4 rfl rfl 3 (by decide) t rfl rfl hd k
theorem gf_c4_number (hc : Cx p s m args meth c E A own cc nL ret) (t : Cond.fieldLink own index "SherdField$Finds" "number" "I" ∈ gtb) (hd : decode cc pc = .ok (.getfield index, 3)) (k : G p l e R s m args below meth c cells slots Q E A nL (cw E ad sc ar bl) (pc + 3) lv (.int (sc 6) :: st)) : G p l e R s m args below meth c cells slots Q E A nL (cw E ad sc ar bl) (pc) lv (.ref (ad 4) :: st) := g_get (C := RX1) (T := TX1) (N := 5) (ci := 1) hc inX1 4 rfl rfl 4 (by decide) t rfl rfl hd k
theorem pf_c4_number (hc : Cx p s m args meth c E A own cc nL ret) (hA : Oka 39 ad A) {v : Int32} (t : Cond.fieldLink own index "SherdField$Finds" "number" "I" ∈ gtb) (hd : decode cc pc = .ok (.putfield index, 3)) (k : G p l e R s m args below meth c cells slots Q E A nL (cw E ad (va_up sc 6 v) ar bl) (pc + 3) lv (st)) : G p l e R s m args below meth c cells slots Q E A nL (cw E ad sc ar bl) (pc) lv (.int v :: .ref (ad 4) :: st) := g_put (C := RX1) (T := TX1) (N := 5) (ci := 1) (ty := .int) hc (cw_D hA _ _ _) inX1 tyX1 tyX1_ok nmX1 4 rfl rfl 4 (by decide) t rfl rfl (by decide +kernel) rfl rfl (Nat.le_of_ble_eq_true rfl) rfl hd k
theorem gf_c5_walks (hc : Cx p s m args meth c E A own cc nL ret) (t : Cond.fieldLink own index "SherdField$Eyes" "walks" "LSherdField$Walks;" ∈ gtb) (hd : decode cc pc = .ok (.getfield index, 3)) (k : G p l e R s m args below meth c cells slots Q E A nL (cw E ad sc ar bl) (pc + 3) lv (.ref (ad 3) :: st)) : G p l e R s m args below meth c cells slots Q E A nL (cw E ad sc ar bl) (pc) lv (.ref (ad 5) :: st) := g_get (C := RX0) (T := TX0) (N := 2) (ci := 0) hc inX0 5 rfl rfl 0 (by decide) t rfl rfl hd k
theorem gf_c5_sorts (hc : Cx p s m args meth c E A own cc nL ret) (t : Cond.fieldLink own index "SherdField$Eyes" "sorts" "LSherdField$Sorts;" ∈ gtb) (hd : decode cc pc = .ok (.getfield index, 3)) (k : G p l e R s m args below meth c cells slots Q E A nL (cw E ad sc ar bl) (pc + 3) lv (.ref (ad 2) :: st)) : G p l e R s m args below meth c cells slots Q E A nL (cw E ad sc ar bl) (pc) lv (.ref (ad 5) :: st) := g_get (C := RX0) (T := TX0) (N := 2) (ci := 0) hc inX0 5 rfl rfl 1 (by decide) t rfl rfl hd k
theorem gf_c6_ground (hc : Cx p s m args meth c E A own cc nL ret) (t : Cond.fieldLink own index "SherdField$Heaps" "ground" "LSherdField$Ground;" ∈ gtb) (hd : decode cc pc = .ok (.getfield index, 3)) (k : G p l e R s m args below meth c cells slots Q E A nL (cw E ad sc ar bl) (pc + 3) lv (.ref (ad 1) :: st)) : G p l e R s m args below meth c cells slots Q E A nL (cw E ad sc ar bl) (pc) lv (.ref (ad 6) :: st) := g_get (C := RX3) (T := TX3) (N := 6) (ci := 3) hc inX3 6 rfl rfl 0 (by decide) t rfl rfl hd k
theorem gf_c6_walks (hc : Cx p s m args meth c E A own cc nL ret) (t : Cond.fieldLink own index "SherdField$Heaps" "walks" "LSherdField$Walks;" ∈ gtb) (hd : decode cc pc = .ok (.getfield index, 3)) (k : G p l e R s m args below meth c cells slots Q E A nL (cw E ad sc ar bl) (pc + 3) lv (.ref (ad 3) :: st)) : G p l e R s m args below meth c cells slots Q E A nL (cw E ad sc ar bl) (pc) lv (.ref (ad 6) :: st) := g_get (C := RX3) (T := TX3) (N := 6) (ci := 3) hc inX3 6 rfl rfl 1 (by decide) t rfl rfl hd k
theorem gf_c6_eyes (hc : Cx p s m args meth c E A own cc nL ret) (t : Cond.fieldLink own index "SherdField$Heaps" "eyes" "LSherdField$Eyes;" ∈ gtb) (hd : decode cc pc = .ok (.getfield index, 3)) (k : G p l e R s m args below meth c cells slots Q E A nL (cw E ad sc ar bl) (pc + 3) lv (.ref (ad 5) :: st)) : G p l e R s m args below meth c cells slots Q E A nL (cw E ad sc ar bl) (pc) lv (.ref (ad 6) :: st) := g_get (C := RX3) (T := TX3) (N := 6) (ci := 3) hc inX3 6 rfl rfl 2 (by decide) t rfl rfl hd k
theorem gf_c6_sorts (hc : Cx p s m args meth c E A own cc nL ret) (t : Cond.fieldLink own index "SherdField$Heaps" "sorts" "LSherdField$Sorts;" ∈ gtb) (hd : decode cc pc = .ok (.getfield index, 3)) (k : G p l e R s m args below meth c cells slots Q E A nL (cw E ad sc ar bl) (pc + 3) lv (.ref (ad 2) :: st)) : G p l e R s m args below meth c cells slots Q E A nL (cw E ad sc ar bl) (pc) lv (.ref (ad 6) :: st) := g_get (C := RX3) (T := TX3) (N := 6) (ci := 3) hc inX3 6 rfl rfl 3 (by decide) t rfl rfl hd k
theorem gf_c6_worths (hc : Cx p s m args meth c E A own cc nL ret) (t : Cond.fieldLink own index "SherdField$Heaps" "worths" "[I" ∈ gtb) (hd : decode cc pc = .ok (.getfield index, 3)) (k : G p l e R s m args below meth c cells slots Q E A nL (cw E ad sc ar bl) (pc + 3) lv (.ref (ad 25) :: st)) : G p l e R s m args below meth c cells slots Q E A nL (cw E ad sc ar bl) (pc) lv (.ref (ad 6) :: st) := g_get (C := RX3) (T := TX3) (N := 6) (ci := 3) hc inX3 6 rfl rfl 4 (by decide) t rfl rfl hd k
theorem gf_c6_walked (hc : Cx p s m args meth c E A own cc nL ret) (t : Cond.fieldLink own index "SherdField$Heaps" "walked" "[I" ∈ gtb) (hd : decode cc pc = .ok (.getfield index, 3)) (k : G p l e R s m args below meth c cells slots Q E A nL (cw E ad sc ar bl) (pc + 3) lv (.ref (ad 26) :: st)) : G p l e R s m args below meth c cells slots Q E A nL (cw E ad sc ar bl) (pc) lv (.ref (ad 6) :: st) := g_get (C := RX3) (T := TX3) (N := 6) (ci := 3) hc inX3 6 rfl rfl 5 (by decide) t rfl rfl hd k
theorem gf_c7_profiles (hc : Cx p s m args meth c E A own cc nL ret) (t : Cond.fieldLink own index "SherdField$Periods" "profiles" "[I" ∈ gtb) (hd : decode cc pc = .ok (.getfield index, 3)) (k : G p l e R s m args below meth c cells slots Q E A nL (cw E ad sc ar bl) (pc + 3) lv (.ref (ad 27) :: st)) : G p l e R s m args below meth c cells slots Q E A nL (cw E ad sc ar bl) (pc) lv (.ref (ad 7) :: st) := g_get (C := RX6) (T := TX6) (N := 3) (ci := 6) hc inX6 7 rfl rfl 0 (by decide) t rfl rfl hd k
theorem gf_c7_counted (hc : Cx p s m args meth c E A own cc nL ret) (t : Cond.fieldLink own index "SherdField$Periods" "counted" "[I" ∈ gtb) (hd : decode cc pc = .ok (.getfield index, 3)) (k : G p l e R s m args below meth c cells slots Q E A nL (cw E ad sc ar bl) (pc + 3) lv (.ref (ad 28) :: st)) : G p l e R s m args below meth c cells slots Q E A nL (cw E ad sc ar bl) (pc) lv (.ref (ad 7) :: st) := g_get (C := RX6) (T := TX6) (N := 3) (ci := 6) hc inX6 7 rfl rfl 1 (by decide) t rfl rfl hd k
theorem gf_c7_best (hc : Cx p s m args meth c E A own cc nL ret) (t : Cond.fieldLink own index "SherdField$Periods" "best" "[I" ∈ gtb) (hd : decode cc pc = .ok (.getfield index, 3)) (k : G p l e R s m args below meth c cells slots Q E A nL (cw E ad sc ar bl) (pc + 3) lv (.ref (ad 29) :: st)) : G p l e R s m args below meth c cells slots Q E A nL (cw E ad sc ar bl) (pc) lv (.ref (ad 7) :: st) := g_get (C := RX6) (T := TX6) (N := 3) (ci := 6) hc inX6 7 rfl rfl 2 (by decide) t rfl rfl hd k
theorem gf_c8_bytes (hc : Cx p s m args meth c E A own cc nL ret) (t : Cond.fieldLink own index "SherdField$Tape" "bytes" "[B" ∈ gtb) (hd : decode cc pc = .ok (.getfield index, 3)) (k : G p l e R s m args below meth c cells slots Q E A nL (cw E ad sc ar bl) (pc + 3) lv (.ref (ad 30) :: st)) : G p l e R s m args below meth c cells slots Q E A nL (cw E ad sc ar bl) (pc) lv (.ref (ad 8) :: st) := g_get (C := RX9) (T := TX9) (N := 2) (ci := 9) hc inX9 8 rfl rfl 0 (by decide) t rfl rfl hd k
theorem gf_c8_length (hc : Cx p s m args meth c E A own cc nL ret) (t : Cond.fieldLink own index "SherdField$Tape" "length" "I" ∈ gtb) (hd : decode cc pc = .ok (.getfield index, 3)) (k : G p l e R s m args below meth c cells slots Q E A nL (cw E ad sc ar bl) (pc + 3) lv (.int (sc 7) :: st)) : G p l e R s m args below meth c cells slots Q E A nL (cw E ad sc ar bl) (pc) lv (.ref (ad 8) :: st) := g_get (C := RX9) (T := TX9) (N := 2) (ci := 9) hc inX9 8 rfl rfl 1 (by decide) t rfl rfl hd k
theorem pf_c8_length (hc : Cx p s m args meth c E A own cc nL ret) (hA : Oka 39 ad A) {v : Int32} (t : Cond.fieldLink own index "SherdField$Tape" "length" "I" ∈ gtb) (hd : decode cc pc = .ok (.putfield index, 3)) (k : G p l e R s m args below meth c cells slots Q E A nL (cw E ad (va_up sc 7 v) ar bl) (pc + 3) lv (st)) : G p l e R s m args below meth c cells slots Q E A nL (cw E ad sc ar bl) (pc) lv (.int v :: .ref (ad 8) :: st) := g_put (C := RX9) (T := TX9) (N := 2) (ci := 9) (ty := .int) hc (cw_D hA _ _ _) inX9 tyX9 tyX9_ok nmX9 8 rfl rfl 1 (by decide) t rfl rfl (by decide +kernel) rfl rfl (Nat.le_of_ble_eq_true rfl) rfl hd k
theorem gf_c9_tape (hc : Cx p s m args meth c E A own cc nL ret) (t : Cond.fieldLink own index "SherdField$LeaveReader" "tape" "LSherdField$Tape;" ∈ gtb) (hd : decode cc pc = .ok (.getfield index, 3)) (k : G p l e R s m args below meth c cells slots Q E A nL (cw E ad sc ar bl) (pc + 3) lv (.ref (ad 8) :: st)) : G p l e R s m args below meth c cells slots Q E A nL (cw E ad sc ar bl) (pc) lv (.ref (ad 9) :: st) := g_get (C := RX4) (T := TX4) (N := 9) (ci := 4) hc inX4 9 rfl rfl 0 (by decide) t rfl rfl hd k
theorem gf_c9_start (hc : Cx p s m args meth c E A own cc nL ret) (t : Cond.fieldLink own index "SherdField$LeaveReader" "start" "I" ∈ gtb) (hd : decode cc pc = .ok (.getfield index, 3)) (k : G p l e R s m args below meth c cells slots Q E A nL (cw E ad sc ar bl) (pc + 3) lv (.int (sc 8) :: st)) : G p l e R s m args below meth c cells slots Q E A nL (cw E ad sc ar bl) (pc) lv (.ref (ad 9) :: st) := g_get (C := RX4) (T := TX4) (N := 9) (ci := 4) hc inX4 9 rfl rfl 1 (by decide) t rfl rfl hd k
theorem pf_c9_start (hc : Cx p s m args meth c E A own cc nL ret) (hA : Oka 39 ad A) {v : Int32} (t : Cond.fieldLink own index "SherdField$LeaveReader" "start" "I" ∈ gtb) (hd : decode cc pc = .ok (.putfield index, 3)) (k : G p l e R s m args below meth c cells slots Q E A nL (cw E ad (va_up sc 8 v) ar bl) (pc + 3) lv (st)) : G p l e R s m args below meth c cells slots Q E A nL (cw E ad sc ar bl) (pc) lv (.int v :: .ref (ad 9) :: st) := g_put (C := RX4) (T := TX4) (N := 9) (ci := 4) (ty := .int) hc (cw_D hA _ _ _) inX4 tyX4 tyX4_ok nmX4 9 rfl rfl 1 (by decide) t rfl rfl (by decide +kernel) rfl rfl (Nat.le_of_ble_eq_true rfl) rfl hd k
theorem gf_c9_end (hc : Cx p s m args meth c E A own cc nL ret) (t : Cond.fieldLink own index "SherdField$LeaveReader" "end" "I" ∈ gtb) (hd : decode cc pc = .ok (.getfield index, 3)) (k : G p l e R s m args below meth c cells slots Q E A nL (cw E ad sc ar bl) (pc + 3) lv (.int (sc 9) :: st)) : G p l e R s m args below meth c cells slots Q E A nL (cw E ad sc ar bl) (pc) lv (.ref (ad 9) :: st) := g_get (C := RX4) (T := TX4) (N := 9) (ci := 4) hc inX4 9 rfl rfl 2 (by decide) t rfl rfl hd k
theorem pf_c9_end (hc : Cx p s m args meth c E A own cc nL ret) (hA : Oka 39 ad A) {v : Int32} (t : Cond.fieldLink own index "SherdField$LeaveReader" "end" "I" ∈ gtb) (hd : decode cc pc = .ok (.putfield index, 3)) (k : G p l e R s m args below meth c cells slots Q E A nL (cw E ad (va_up sc 9 v) ar bl) (pc + 3) lv (st)) : G p l e R s m args below meth c cells slots Q E A nL (cw E ad sc ar bl) (pc) lv (.int v :: .ref (ad 9) :: st) := g_put (C := RX4) (T := TX4) (N := 9) (ci := 4) (ty := .int) hc (cw_D hA _ _ _) inX4 tyX4 tyX4_ok nmX4 9 rfl rfl 2 (by decide) t rfl rfl (by decide +kernel) rfl rfl (Nat.le_of_ble_eq_true rfl) rfl hd k
theorem gf_c9_fault (hc : Cx p s m args meth c E A own cc nL ret) (t : Cond.fieldLink own index "SherdField$LeaveReader" "fault" "I" ∈ gtb) (hd : decode cc pc = .ok (.getfield index, 3)) (k : G p l e R s m args below meth c cells slots Q E A nL (cw E ad sc ar bl) (pc + 3) lv (.int (sc 10) :: st)) : G p l e R s m args below meth c cells slots Q E A nL (cw E ad sc ar bl) (pc) lv (.ref (ad 9) :: st) := g_get (C := RX4) (T := TX4) (N := 9) (ci := 4) hc inX4 9 rfl rfl 3 (by decide) t rfl rfl hd k
theorem pf_c9_fault (hc : Cx p s m args meth c E A own cc nL ret) (hA : Oka 39 ad A) {v : Int32} (t : Cond.fieldLink own index "SherdField$LeaveReader" "fault" "I" ∈ gtb) (hd : decode cc pc = .ok (.putfield index, 3)) (k : G p l e R s m args below meth c cells slots Q E A nL (cw E ad (va_up sc 10 v) ar bl) (pc + 3) lv (st)) : G p l e R s m args below meth c cells slots Q E A nL (cw E ad sc ar bl) (pc) lv (.int v :: .ref (ad 9) :: st) := g_put (C := RX4) (T := TX4) (N := 9) (ci := 4) (ty := .int) hc (cw_D hA _ _ _) inX4 tyX4 tyX4_ok nmX4 9 rfl rfl 3 (by decide) t rfl rfl (by decide +kernel) rfl rfl (Nat.le_of_ble_eq_true rfl) rfl hd k
theorem gf_c9_firstRow (hc : Cx p s m args meth c E A own cc nL ret) (t : Cond.fieldLink own index "SherdField$LeaveReader" "firstRow" "I" ∈ gtb) (hd : decode cc pc = .ok (.getfield index, 3)) (k : G p l e R s m args below meth c cells slots Q E A nL (cw E ad sc ar bl) (pc + 3) lv (.int (sc 11) :: st)) : G p l e R s m args below meth c cells slots Q E A nL (cw E ad sc ar bl) (pc) lv (.ref (ad 9) :: st) := g_get (C := RX4) (T := TX4) (N := 9) (ci := 4) hc inX4 9 rfl rfl 4 (by decide) t rfl rfl hd k
theorem pf_c9_firstRow (hc : Cx p s m args meth c E A own cc nL ret) (hA : Oka 39 ad A) {v : Int32} (t : Cond.fieldLink own index "SherdField$LeaveReader" "firstRow" "I" ∈ gtb) (hd : decode cc pc = .ok (.putfield index, 3)) (k : G p l e R s m args below meth c cells slots Q E A nL (cw E ad (va_up sc 11 v) ar bl) (pc + 3) lv (st)) : G p l e R s m args below meth c cells slots Q E A nL (cw E ad sc ar bl) (pc) lv (.int v :: .ref (ad 9) :: st) := g_put (C := RX4) (T := TX4) (N := 9) (ci := 4) (ty := .int) hc (cw_D hA _ _ _) inX4 tyX4 tyX4_ok nmX4 9 rfl rfl 4 (by decide) t rfl rfl (by decide +kernel) rfl rfl (Nat.le_of_ble_eq_true rfl) rfl hd k
theorem gf_c9_lastRow (hc : Cx p s m args meth c E A own cc nL ret) (t : Cond.fieldLink own index "SherdField$LeaveReader" "lastRow" "I" ∈ gtb) (hd : decode cc pc = .ok (.getfield index, 3)) (k : G p l e R s m args below meth c cells slots Q E A nL (cw E ad sc ar bl) (pc + 3) lv (.int (sc 12) :: st)) : G p l e R s m args below meth c cells slots Q E A nL (cw E ad sc ar bl) (pc) lv (.ref (ad 9) :: st) := g_get (C := RX4) (T := TX4) (N := 9) (ci := 4) hc inX4 9 rfl rfl 5 (by decide) t rfl rfl hd k
theorem pf_c9_lastRow (hc : Cx p s m args meth c E A own cc nL ret) (hA : Oka 39 ad A) {v : Int32} (t : Cond.fieldLink own index "SherdField$LeaveReader" "lastRow" "I" ∈ gtb) (hd : decode cc pc = .ok (.putfield index, 3)) (k : G p l e R s m args below meth c cells slots Q E A nL (cw E ad (va_up sc 12 v) ar bl) (pc + 3) lv (st)) : G p l e R s m args below meth c cells slots Q E A nL (cw E ad sc ar bl) (pc) lv (.int v :: .ref (ad 9) :: st) := g_put (C := RX4) (T := TX4) (N := 9) (ci := 4) (ty := .int) hc (cw_D hA _ _ _) inX4 tyX4 tyX4_ok nmX4 9 rfl rfl 5 (by decide) t rfl rfl (by decide +kernel) rfl rfl (Nat.le_of_ble_eq_true rfl) rfl hd k
theorem gf_c9_firstDay (hc : Cx p s m args meth c E A own cc nL ret) (t : Cond.fieldLink own index "SherdField$LeaveReader" "firstDay" "I" ∈ gtb) (hd : decode cc pc = .ok (.getfield index, 3)) (k : G p l e R s m args below meth c cells slots Q E A nL (cw E ad sc ar bl) (pc + 3) lv (.int (sc 13) :: st)) : G p l e R s m args below meth c cells slots Q E A nL (cw E ad sc ar bl) (pc) lv (.ref (ad 9) :: st) := g_get (C := RX4) (T := TX4) (N := 9) (ci := 4) hc inX4 9 rfl rfl 6 (by decide) t rfl rfl hd k
theorem pf_c9_firstDay (hc : Cx p s m args meth c E A own cc nL ret) (hA : Oka 39 ad A) {v : Int32} (t : Cond.fieldLink own index "SherdField$LeaveReader" "firstDay" "I" ∈ gtb) (hd : decode cc pc = .ok (.putfield index, 3)) (k : G p l e R s m args below meth c cells slots Q E A nL (cw E ad (va_up sc 13 v) ar bl) (pc + 3) lv (st)) : G p l e R s m args below meth c cells slots Q E A nL (cw E ad sc ar bl) (pc) lv (.int v :: .ref (ad 9) :: st) := g_put (C := RX4) (T := TX4) (N := 9) (ci := 4) (ty := .int) hc (cw_D hA _ _ _) inX4 tyX4 tyX4_ok nmX4 9 rfl rfl 6 (by decide) t rfl rfl (by decide +kernel) rfl rfl (Nat.le_of_ble_eq_true rfl) rfl hd k
theorem gf_c9_lastDay (hc : Cx p s m args meth c E A own cc nL ret) (t : Cond.fieldLink own index "SherdField$LeaveReader" "lastDay" "I" ∈ gtb) (hd : decode cc pc = .ok (.getfield index, 3)) (k : G p l e R s m args below meth c cells slots Q E A nL (cw E ad sc ar bl) (pc + 3) lv (.int (sc 14) :: st)) : G p l e R s m args below meth c cells slots Q E A nL (cw E ad sc ar bl) (pc) lv (.ref (ad 9) :: st) := g_get (C := RX4) (T := TX4) (N := 9) (ci := 4) hc inX4 9 rfl rfl 7 (by decide) t rfl rfl hd k
theorem pf_c9_lastDay (hc : Cx p s m args meth c E A own cc nL ret) (hA : Oka 39 ad A) {v : Int32} (t : Cond.fieldLink own index "SherdField$LeaveReader" "lastDay" "I" ∈ gtb) (hd : decode cc pc = .ok (.putfield index, 3)) (k : G p l e R s m args below meth c cells slots Q E A nL (cw E ad (va_up sc 14 v) ar bl) (pc + 3) lv (st)) : G p l e R s m args below meth c cells slots Q E A nL (cw E ad sc ar bl) (pc) lv (.int v :: .ref (ad 9) :: st) := g_put (C := RX4) (T := TX4) (N := 9) (ci := 4) (ty := .int) hc (cw_D hA _ _ _) inX4 tyX4 tyX4_ok nmX4 9 rfl rfl 7 (by decide) t rfl rfl (by decide +kernel) rfl rfl (Nat.le_of_ble_eq_true rfl) rfl hd k
theorem gf_c9_barred (hc : Cx p s m args meth c E A own cc nL ret) (t : Cond.fieldLink own index "SherdField$LeaveReader" "barred" "I" ∈ gtb) (hd : decode cc pc = .ok (.getfield index, 3)) (k : G p l e R s m args below meth c cells slots Q E A nL (cw E ad sc ar bl) (pc + 3) lv (.int (sc 15) :: st)) : G p l e R s m args below meth c cells slots Q E A nL (cw E ad sc ar bl) (pc) lv (.ref (ad 9) :: st) := g_get (C := RX4) (T := TX4) (N := 9) (ci := 4) hc inX4 9 rfl rfl 8 (by decide) t rfl rfl hd k
theorem pf_c9_barred (hc : Cx p s m args meth c E A own cc nL ret) (hA : Oka 39 ad A) {v : Int32} (t : Cond.fieldLink own index "SherdField$LeaveReader" "barred" "I" ∈ gtb) (hd : decode cc pc = .ok (.putfield index, 3)) (k : G p l e R s m args below meth c cells slots Q E A nL (cw E ad (va_up sc 15 v) ar bl) (pc + 3) lv (st)) : G p l e R s m args below meth c cells slots Q E A nL (cw E ad sc ar bl) (pc) lv (.int v :: .ref (ad 9) :: st) := g_put (C := RX4) (T := TX4) (N := 9) (ci := 4) (ty := .int) hc (cw_D hA _ _ _) inX4 tyX4 tyX4_ok nmX4 9 rfl rfl 8 (by decide) t rfl rfl (by decide +kernel) rfl rfl (Nat.le_of_ble_eq_true rfl) rfl hd k
theorem gf_c10_firstRows (hc : Cx p s m args meth c E A own cc nL ret) (t : Cond.fieldLink own index "SherdField$Leaves" "firstRows" "[I" ∈ gtb) (hd : decode cc pc = .ok (.getfield index, 3)) (k : G p l e R s m args below meth c cells slots Q E A nL (cw E ad sc ar bl) (pc + 3) lv (.ref (ad 31) :: st)) : G p l e R s m args below meth c cells slots Q E A nL (cw E ad sc ar bl) (pc) lv (.ref (ad 10) :: st) := g_get (C := RX5) (T := TX5) (N := 7) (ci := 5) hc inX5 10 rfl rfl 0 (by decide) t rfl rfl hd k
theorem gf_c10_lastRows (hc : Cx p s m args meth c E A own cc nL ret) (t : Cond.fieldLink own index "SherdField$Leaves" "lastRows" "[I" ∈ gtb) (hd : decode cc pc = .ok (.getfield index, 3)) (k : G p l e R s m args below meth c cells slots Q E A nL (cw E ad sc ar bl) (pc + 3) lv (.ref (ad 32) :: st)) : G p l e R s m args below meth c cells slots Q E A nL (cw E ad sc ar bl) (pc) lv (.ref (ad 10) :: st) := g_get (C := RX5) (T := TX5) (N := 7) (ci := 5) hc inX5 10 rfl rfl 1 (by decide) t rfl rfl hd k
theorem gf_c10_firstDays (hc : Cx p s m args meth c E A own cc nL ret) (t : Cond.fieldLink own index "SherdField$Leaves" "firstDays" "[I" ∈ gtb) (hd : decode cc pc = .ok (.getfield index, 3)) (k : G p l e R s m args below meth c cells slots Q E A nL (cw E ad sc ar bl) (pc + 3) lv (.ref (ad 33) :: st)) : G p l e R s m args below meth c cells slots Q E A nL (cw E ad sc ar bl) (pc) lv (.ref (ad 10) :: st) := g_get (C := RX5) (T := TX5) (N := 7) (ci := 5) hc inX5 10 rfl rfl 2 (by decide) t rfl rfl hd k
theorem gf_c10_lastDays (hc : Cx p s m args meth c E A own cc nL ret) (t : Cond.fieldLink own index "SherdField$Leaves" "lastDays" "[I" ∈ gtb) (hd : decode cc pc = .ok (.getfield index, 3)) (k : G p l e R s m args below meth c cells slots Q E A nL (cw E ad sc ar bl) (pc + 3) lv (.ref (ad 34) :: st)) : G p l e R s m args below meth c cells slots Q E A nL (cw E ad sc ar bl) (pc) lv (.ref (ad 10) :: st) := g_get (C := RX5) (T := TX5) (N := 7) (ci := 5) hc inX5 10 rfl rfl 3 (by decide) t rfl rfl hd k
theorem gf_c10_barred (hc : Cx p s m args meth c E A own cc nL ret) (t : Cond.fieldLink own index "SherdField$Leaves" "barred" "[I" ∈ gtb) (hd : decode cc pc = .ok (.getfield index, 3)) (k : G p l e R s m args below meth c cells slots Q E A nL (cw E ad sc ar bl) (pc + 3) lv (.ref (ad 35) :: st)) : G p l e R s m args below meth c cells slots Q E A nL (cw E ad sc ar bl) (pc) lv (.ref (ad 10) :: st) := g_get (C := RX5) (T := TX5) (N := 7) (ci := 5) hc inX5 10 rfl rfl 4 (by decide) t rfl rfl hd k
theorem gf_c10_withdrawn (hc : Cx p s m args meth c E A own cc nL ret) (t : Cond.fieldLink own index "SherdField$Leaves" "withdrawn" "[Z" ∈ gtb) (hd : decode cc pc = .ok (.getfield index, 3)) (k : G p l e R s m args below meth c cells slots Q E A nL (cw E ad sc ar bl) (pc + 3) lv (.ref (ad 36) :: st)) : G p l e R s m args below meth c cells slots Q E A nL (cw E ad sc ar bl) (pc) lv (.ref (ad 10) :: st) := g_get (C := RX5) (T := TX5) (N := 7) (ci := 5) hc inX5 10 rfl rfl 5 (by decide) t rfl rfl hd k
theorem gf_c10_number (hc : Cx p s m args meth c E A own cc nL ret) (t : Cond.fieldLink own index "SherdField$Leaves" "number" "I" ∈ gtb) (hd : decode cc pc = .ok (.getfield index, 3)) (k : G p l e R s m args below meth c cells slots Q E A nL (cw E ad sc ar bl) (pc + 3) lv (.int (sc 16) :: st)) : G p l e R s m args below meth c cells slots Q E A nL (cw E ad sc ar bl) (pc) lv (.ref (ad 10) :: st) := g_get (C := RX5) (T := TX5) (N := 7) (ci := 5) hc inX5 10 rfl rfl 6 (by decide) t rfl rfl hd k
theorem pf_c10_number (hc : Cx p s m args meth c E A own cc nL ret) (hA : Oka 39 ad A) {v : Int32} (t : Cond.fieldLink own index "SherdField$Leaves" "number" "I" ∈ gtb) (hd : decode cc pc = .ok (.putfield index, 3)) (k : G p l e R s m args below meth c cells slots Q E A nL (cw E ad (va_up sc 16 v) ar bl) (pc + 3) lv (st)) : G p l e R s m args below meth c cells slots Q E A nL (cw E ad sc ar bl) (pc) lv (.int v :: .ref (ad 10) :: st) := g_put (C := RX5) (T := TX5) (N := 7) (ci := 5) (ty := .int) hc (cw_D hA _ _ _) inX5 tyX5 tyX5_ok nmX5 10 rfl rfl 6 (by decide) t rfl rfl (by decide +kernel) rfl rfl (Nat.le_of_ble_eq_true rfl) rfl hd k
theorem gf_c11_places (hc : Cx p s m args meth c E A own cc nL ret) (t : Cond.fieldLink own index "SherdField$Sheet" "places" "[S" ∈ gtb) (hd : decode cc pc = .ok (.getfield index, 3)) (k : G p l e R s m args below meth c cells slots Q E A nL (cw E ad sc ar bl) (pc + 3) lv (.ref (ad 37) :: st)) : G p l e R s m args below meth c cells slots Q E A nL (cw E ad sc ar bl) (pc) lv (.ref (ad 11) :: st) := g_get (C := RX7) (T := TX7) (N := 2) (ci := 7) hc inX7 11 rfl rfl 0 (by decide) t rfl rfl hd k
theorem gf_c11_size (hc : Cx p s m args meth c E A own cc nL ret) (t : Cond.fieldLink own index "SherdField$Sheet" "size" "I" ∈ gtb) (hd : decode cc pc = .ok (.getfield index, 3)) (k : G p l e R s m args below meth c cells slots Q E A nL (cw E ad sc ar bl) (pc + 3) lv (.int (sc 17) :: st)) : G p l e R s m args below meth c cells slots Q E A nL (cw E ad sc ar bl) (pc) lv (.ref (ad 11) :: st) := g_get (C := RX7) (T := TX7) (N := 2) (ci := 7) hc inX7 11 rfl rfl 1 (by decide) t rfl rfl hd k
theorem pf_c11_size (hc : Cx p s m args meth c E A own cc nL ret) (hA : Oka 39 ad A) {v : Int32} (t : Cond.fieldLink own index "SherdField$Sheet" "size" "I" ∈ gtb) (hd : decode cc pc = .ok (.putfield index, 3)) (k : G p l e R s m args below meth c cells slots Q E A nL (cw E ad (va_up sc 17 v) ar bl) (pc + 3) lv (st)) : G p l e R s m args below meth c cells slots Q E A nL (cw E ad sc ar bl) (pc) lv (.int v :: .ref (ad 11) :: st) := g_put (C := RX7) (T := TX7) (N := 2) (ci := 7) (ty := .int) hc (cw_D hA _ _ _) inX7 tyX7 tyX7_ok nmX7 11 rfl rfl 1 (by decide) t rfl rfl (by decide +kernel) rfl rfl (Nat.le_of_ble_eq_true rfl) rfl hd k
theorem gf_c12_places (hc : Cx p s m args meth c E A own cc nL ret) (t : Cond.fieldLink own index "SherdField$Sheet" "places" "[S" ∈ gtb) (hd : decode cc pc = .ok (.getfield index, 3)) (k : G p l e R s m args below meth c cells slots Q E A nL (cw E ad sc ar bl) (pc + 3) lv (.ref (ad 38) :: st)) : G p l e R s m args below meth c cells slots Q E A nL (cw E ad sc ar bl) (pc) lv (.ref (ad 12) :: st) := g_get (C := RX7) (T := TX7) (N := 2) (ci := 7) hc inX7 12 rfl rfl 0 (by decide) t rfl rfl hd k
theorem gf_c12_size (hc : Cx p s m args meth c E A own cc nL ret) (t : Cond.fieldLink own index "SherdField$Sheet" "size" "I" ∈ gtb) (hd : decode cc pc = .ok (.getfield index, 3)) (k : G p l e R s m args below meth c cells slots Q E A nL (cw E ad sc ar bl) (pc + 3) lv (.int (sc 18) :: st)) : G p l e R s m args below meth c cells slots Q E A nL (cw E ad sc ar bl) (pc) lv (.ref (ad 12) :: st) := g_get (C := RX7) (T := TX7) (N := 2) (ci := 7) hc inX7 12 rfl rfl 1 (by decide) t rfl rfl hd k
theorem pf_c12_size (hc : Cx p s m args meth c E A own cc nL ret) (hA : Oka 39 ad A) {v : Int32} (t : Cond.fieldLink own index "SherdField$Sheet" "size" "I" ∈ gtb) (hd : decode cc pc = .ok (.putfield index, 3)) (k : G p l e R s m args below meth c cells slots Q E A nL (cw E ad (va_up sc 18 v) ar bl) (pc + 3) lv (st)) : G p l e R s m args below meth c cells slots Q E A nL (cw E ad sc ar bl) (pc) lv (.int v :: .ref (ad 12) :: st) := g_put (C := RX7) (T := TX7) (N := 2) (ci := 7) (ty := .int) hc (cw_D hA _ _ _) inX7 tyX7 tyX7_ok nmX7 12 rfl rfl 1 (by decide) t rfl rfl (by decide +kernel) rfl rfl (Nat.le_of_ble_eq_true rfl) rfl hd k
theorem la_c13 (hc : Cx p s m args meth c E A own cc nL ret) {x : Int32} (i : Nat) (hx : x = nI i) (hi : i < 64) (hd : decode cc pc = .ok (.iaload, 1)) (k : G p l e R s m args below meth c cells slots Q E A nL (cw E ad sc ar bl) (pc + 1) lv (.int (ar 13 i) :: st)) : G p l e R s m args below meth c cells slots Q E A nL (cw E ad sc ar bl) (pc) lv (.int x :: .ref (ad 13) :: st) := g_iald hc 13 1 rfl rfl i hx hi (by decide) hd k
theorem sa_c13 (hc : Cx p s m args meth c E A own cc nL ret) (hA : Oka 39 ad A) {x v : Int32} (i : Nat) (hx : x = nI i) (hi : i < 64) (hd : decode cc pc = .ok (.iastore, 1)) (k : G p l e R s m args below meth c cells slots Q E A nL (cw E ad sc (va_up ar 13 (upd (ar 13) i v)) bl) (pc + 1) lv (st)) : G p l e R s m args below meth c cells slots Q E A nL (cw E ad sc ar bl) (pc) lv (.int v :: .int x :: .ref (ad 13) :: st) := g_iast hc (cw_D hA _ _ _) 13 1 rfl rfl i hx hi (by decide) rfl hd k
theorem la_c14 (hc : Cx p s m args meth c E A own cc nL ret) {x : Int32} (i : Nat) (hx : x = nI i) (hi : i < 64) (hd : decode cc pc = .ok (.iaload, 1)) (k : G p l e R s m args below meth c cells slots Q E A nL (cw E ad sc ar bl) (pc + 1) lv (.int (ar 14 i) :: st)) : G p l e R s m args below meth c cells slots Q E A nL (cw E ad sc ar bl) (pc) lv (.int x :: .ref (ad 14) :: st) := g_iald hc 14 1 rfl rfl i hx hi (by decide) hd k
theorem sa_c14 (hc : Cx p s m args meth c E A own cc nL ret) (hA : Oka 39 ad A) {x v : Int32} (i : Nat) (hx : x = nI i) (hi : i < 64) (hd : decode cc pc = .ok (.iastore, 1)) (k : G p l e R s m args below meth c cells slots Q E A nL (cw E ad sc (va_up ar 14 (upd (ar 14) i v)) bl) (pc + 1) lv (st)) : G p l e R s m args below meth c cells slots Q E A nL (cw E ad sc ar bl) (pc) lv (.int v :: .int x :: .ref (ad 14) :: st) := g_iast hc (cw_D hA _ _ _) 14 1 rfl rfl i hx hi (by decide) rfl hd k
theorem la_c15 (hc : Cx p s m args meth c E A own cc nL ret) {x : Int32} (i : Nat) (hx : x = nI i) (hi : i < 4) (hd : decode cc pc = .ok (.iaload, 1)) (k : G p l e R s m args below meth c cells slots Q E A nL (cw E ad sc ar bl) (pc + 1) lv (.int (ar 15 i) :: st)) : G p l e R s m args below meth c cells slots Q E A nL (cw E ad sc ar bl) (pc) lv (.int x :: .ref (ad 15) :: st) := g_iald hc 15 1 rfl rfl i hx hi (by decide) hd k
theorem sa_c15 (hc : Cx p s m args meth c E A own cc nL ret) (hA : Oka 39 ad A) {x v : Int32} (i : Nat) (hx : x = nI i) (hi : i < 4) (hd : decode cc pc = .ok (.iastore, 1)) (k : G p l e R s m args below meth c cells slots Q E A nL (cw E ad sc (va_up ar 15 (upd (ar 15) i v)) bl) (pc + 1) lv (st)) : G p l e R s m args below meth c cells slots Q E A nL (cw E ad sc ar bl) (pc) lv (.int v :: .int x :: .ref (ad 15) :: st) := g_iast hc (cw_D hA _ _ _) 15 1 rfl rfl i hx hi (by decide) rfl hd k
theorem la_c16 (hc : Cx p s m args meth c E A own cc nL ret) {x : Int32} (i : Nat) (hx : x = nI i) (hi : i < 60) (hd : decode cc pc = .ok (.iaload, 1)) (k : G p l e R s m args below meth c cells slots Q E A nL (cw E ad sc ar bl) (pc + 1) lv (.int (ar 16 i) :: st)) : G p l e R s m args below meth c cells slots Q E A nL (cw E ad sc ar bl) (pc) lv (.int x :: .ref (ad 16) :: st) := g_iald hc 16 1 rfl rfl i hx hi (by decide) hd k
theorem sa_c16 (hc : Cx p s m args meth c E A own cc nL ret) (hA : Oka 39 ad A) {x v : Int32} (i : Nat) (hx : x = nI i) (hi : i < 60) (hd : decode cc pc = .ok (.iastore, 1)) (k : G p l e R s m args below meth c cells slots Q E A nL (cw E ad sc (va_up ar 16 (upd (ar 16) i v)) bl) (pc + 1) lv (st)) : G p l e R s m args below meth c cells slots Q E A nL (cw E ad sc ar bl) (pc) lv (.int v :: .int x :: .ref (ad 16) :: st) := g_iast hc (cw_D hA _ _ _) 16 1 rfl rfl i hx hi (by decide) rfl hd k
theorem la_c17 (hc : Cx p s m args meth c E A own cc nL ret) {x : Int32} (i : Nat) (hx : x = nI i) (hi : i < 60) (hd : decode cc pc = .ok (.iaload, 1)) (k : G p l e R s m args below meth c cells slots Q E A nL (cw E ad sc ar bl) (pc + 1) lv (.int (ar 17 i) :: st)) : G p l e R s m args below meth c cells slots Q E A nL (cw E ad sc ar bl) (pc) lv (.int x :: .ref (ad 17) :: st) := g_iald hc 17 1 rfl rfl i hx hi (by decide) hd k
theorem sa_c17 (hc : Cx p s m args meth c E A own cc nL ret) (hA : Oka 39 ad A) {x v : Int32} (i : Nat) (hx : x = nI i) (hi : i < 60) (hd : decode cc pc = .ok (.iastore, 1)) (k : G p l e R s m args below meth c cells slots Q E A nL (cw E ad sc (va_up ar 17 (upd (ar 17) i v)) bl) (pc + 1) lv (st)) : G p l e R s m args below meth c cells slots Q E A nL (cw E ad sc ar bl) (pc) lv (.int v :: .int x :: .ref (ad 17) :: st) := g_iast hc (cw_D hA _ _ _) 17 1 rfl rfl i hx hi (by decide) rfl hd k
theorem la_c18 (hc : Cx p s m args meth c E A own cc nL ret) {x : Int32} (i : Nat) (hx : x = nI i) (hi : i < 60) (hd : decode cc pc = .ok (.iaload, 1)) (k : G p l e R s m args below meth c cells slots Q E A nL (cw E ad sc ar bl) (pc + 1) lv (.int (ar 18 i) :: st)) : G p l e R s m args below meth c cells slots Q E A nL (cw E ad sc ar bl) (pc) lv (.int x :: .ref (ad 18) :: st) := g_iald hc 18 1 rfl rfl i hx hi (by decide) hd k
theorem sa_c18 (hc : Cx p s m args meth c E A own cc nL ret) (hA : Oka 39 ad A) {x v : Int32} (i : Nat) (hx : x = nI i) (hi : i < 60) (hd : decode cc pc = .ok (.iastore, 1)) (k : G p l e R s m args below meth c cells slots Q E A nL (cw E ad sc (va_up ar 18 (upd (ar 18) i v)) bl) (pc + 1) lv (st)) : G p l e R s m args below meth c cells slots Q E A nL (cw E ad sc ar bl) (pc) lv (.int v :: .int x :: .ref (ad 18) :: st) := g_iast hc (cw_D hA _ _ _) 18 1 rfl rfl i hx hi (by decide) rfl hd k
theorem la_c19 (hc : Cx p s m args meth c E A own cc nL ret) {x : Int32} (i : Nat) (hx : x = nI i) (hi : i < 240) (hd : decode cc pc = .ok (.iaload, 1)) (k : G p l e R s m args below meth c cells slots Q E A nL (cw E ad sc ar bl) (pc + 1) lv (.int (ar 19 i) :: st)) : G p l e R s m args below meth c cells slots Q E A nL (cw E ad sc ar bl) (pc) lv (.int x :: .ref (ad 19) :: st) := g_iald hc 19 1 rfl rfl i hx hi (by decide) hd k
theorem sa_c19 (hc : Cx p s m args meth c E A own cc nL ret) (hA : Oka 39 ad A) {x v : Int32} (i : Nat) (hx : x = nI i) (hi : i < 240) (hd : decode cc pc = .ok (.iastore, 1)) (k : G p l e R s m args below meth c cells slots Q E A nL (cw E ad sc (va_up ar 19 (upd (ar 19) i v)) bl) (pc + 1) lv (st)) : G p l e R s m args below meth c cells slots Q E A nL (cw E ad sc ar bl) (pc) lv (.int v :: .int x :: .ref (ad 19) :: st) := g_iast hc (cw_D hA _ _ _) 19 1 rfl rfl i hx hi (by decide) rfl hd k
theorem la_c20 (hc : Cx p s m args meth c E A own cc nL ret) {x : Int32} (i : Nat) (hx : x = nI i) (hi : i < 1920) (hd : decode cc pc = .ok (.iaload, 1)) (k : G p l e R s m args below meth c cells slots Q E A nL (cw E ad sc ar bl) (pc + 1) lv (.int (ar 20 i) :: st)) : G p l e R s m args below meth c cells slots Q E A nL (cw E ad sc ar bl) (pc) lv (.int x :: .ref (ad 20) :: st) := g_iald hc 20 1 rfl rfl i hx hi (by decide) hd k
theorem sa_c20 (hc : Cx p s m args meth c E A own cc nL ret) (hA : Oka 39 ad A) {x v : Int32} (i : Nat) (hx : x = nI i) (hi : i < 1920) (hd : decode cc pc = .ok (.iastore, 1)) (k : G p l e R s m args below meth c cells slots Q E A nL (cw E ad sc (va_up ar 20 (upd (ar 20) i v)) bl) (pc + 1) lv (st)) : G p l e R s m args below meth c cells slots Q E A nL (cw E ad sc ar bl) (pc) lv (.int v :: .int x :: .ref (ad 20) :: st) := g_iast hc (cw_D hA _ _ _) 20 1 rfl rfl i hx hi (by decide) rfl hd k
theorem la_c21 (hc : Cx p s m args meth c E A own cc nL ret) {x : Int32} (i : Nat) (hx : x = nI i) (hi : i < 200) (hd : decode cc pc = .ok (.iaload, 1)) (k : G p l e R s m args below meth c cells slots Q E A nL (cw E ad sc ar bl) (pc + 1) lv (.int (ar 21 i) :: st)) : G p l e R s m args below meth c cells slots Q E A nL (cw E ad sc ar bl) (pc) lv (.int x :: .ref (ad 21) :: st) := g_iald hc 21 1 rfl rfl i hx hi (by decide) hd k
theorem sa_c21 (hc : Cx p s m args meth c E A own cc nL ret) (hA : Oka 39 ad A) {x v : Int32} (i : Nat) (hx : x = nI i) (hi : i < 200) (hd : decode cc pc = .ok (.iastore, 1)) (k : G p l e R s m args below meth c cells slots Q E A nL (cw E ad sc (va_up ar 21 (upd (ar 21) i v)) bl) (pc + 1) lv (st)) : G p l e R s m args below meth c cells slots Q E A nL (cw E ad sc ar bl) (pc) lv (.int v :: .int x :: .ref (ad 21) :: st) := g_iast hc (cw_D hA _ _ _) 21 1 rfl rfl i hx hi (by decide) rfl hd k
theorem la_c22 (hc : Cx p s m args meth c E A own cc nL ret) {x : Int32} (i : Nat) (hx : x = nI i) (hi : i < 200) (hd : decode cc pc = .ok (.iaload, 1)) (k : G p l e R s m args below meth c cells slots Q E A nL (cw E ad sc ar bl) (pc + 1) lv (.int (ar 22 i) :: st)) : G p l e R s m args below meth c cells slots Q E A nL (cw E ad sc ar bl) (pc) lv (.int x :: .ref (ad 22) :: st) := g_iald hc 22 1 rfl rfl i hx hi (by decide) hd k
theorem sa_c22 (hc : Cx p s m args meth c E A own cc nL ret) (hA : Oka 39 ad A) {x v : Int32} (i : Nat) (hx : x = nI i) (hi : i < 200) (hd : decode cc pc = .ok (.iastore, 1)) (k : G p l e R s m args below meth c cells slots Q E A nL (cw E ad sc (va_up ar 22 (upd (ar 22) i v)) bl) (pc + 1) lv (st)) : G p l e R s m args below meth c cells slots Q E A nL (cw E ad sc ar bl) (pc) lv (.int v :: .int x :: .ref (ad 22) :: st) := g_iast hc (cw_D hA _ _ _) 22 1 rfl rfl i hx hi (by decide) rfl hd k
theorem la_c23 (hc : Cx p s m args meth c E A own cc nL ret) {x : Int32} (i : Nat) (hx : x = nI i) (hi : i < 200) (hd : decode cc pc = .ok (.iaload, 1)) (k : G p l e R s m args below meth c cells slots Q E A nL (cw E ad sc ar bl) (pc + 1) lv (.int (ar 23 i) :: st)) : G p l e R s m args below meth c cells slots Q E A nL (cw E ad sc ar bl) (pc) lv (.int x :: .ref (ad 23) :: st) := g_iald hc 23 1 rfl rfl i hx hi (by decide) hd k
theorem sa_c23 (hc : Cx p s m args meth c E A own cc nL ret) (hA : Oka 39 ad A) {x v : Int32} (i : Nat) (hx : x = nI i) (hi : i < 200) (hd : decode cc pc = .ok (.iastore, 1)) (k : G p l e R s m args below meth c cells slots Q E A nL (cw E ad sc (va_up ar 23 (upd (ar 23) i v)) bl) (pc + 1) lv (st)) : G p l e R s m args below meth c cells slots Q E A nL (cw E ad sc ar bl) (pc) lv (.int v :: .int x :: .ref (ad 23) :: st) := g_iast hc (cw_D hA _ _ _) 23 1 rfl rfl i hx hi (by decide) rfl hd k
theorem la_c24 (hc : Cx p s m args meth c E A own cc nL ret) {x : Int32} (i : Nat) (hx : x = nI i) (hi : i < 200) (hd : decode cc pc = .ok (.iaload, 1)) (k : G p l e R s m args below meth c cells slots Q E A nL (cw E ad sc ar bl) (pc + 1) lv (.int (ar 24 i) :: st)) : G p l e R s m args below meth c cells slots Q E A nL (cw E ad sc ar bl) (pc) lv (.int x :: .ref (ad 24) :: st) := g_iald hc 24 1 rfl rfl i hx hi (by decide) hd k
theorem sa_c24 (hc : Cx p s m args meth c E A own cc nL ret) (hA : Oka 39 ad A) {x v : Int32} (i : Nat) (hx : x = nI i) (hi : i < 200) (hd : decode cc pc = .ok (.iastore, 1)) (k : G p l e R s m args below meth c cells slots Q E A nL (cw E ad sc (va_up ar 24 (upd (ar 24) i v)) bl) (pc + 1) lv (st)) : G p l e R s m args below meth c cells slots Q E A nL (cw E ad sc ar bl) (pc) lv (.int v :: .int x :: .ref (ad 24) :: st) := g_iast hc (cw_D hA _ _ _) 24 1 rfl rfl i hx hi (by decide) rfl hd k
theorem la_c25 (hc : Cx p s m args meth c E A own cc nL ret) {x : Int32} (i : Nat) (hx : x = nI i) (hi : i < 64) (hd : decode cc pc = .ok (.iaload, 1)) (k : G p l e R s m args below meth c cells slots Q E A nL (cw E ad sc ar bl) (pc + 1) lv (.int (ar 25 i) :: st)) : G p l e R s m args below meth c cells slots Q E A nL (cw E ad sc ar bl) (pc) lv (.int x :: .ref (ad 25) :: st) := g_iald hc 25 1 rfl rfl i hx hi (by decide) hd k
theorem sa_c25 (hc : Cx p s m args meth c E A own cc nL ret) (hA : Oka 39 ad A) {x v : Int32} (i : Nat) (hx : x = nI i) (hi : i < 64) (hd : decode cc pc = .ok (.iastore, 1)) (k : G p l e R s m args below meth c cells slots Q E A nL (cw E ad sc (va_up ar 25 (upd (ar 25) i v)) bl) (pc + 1) lv (st)) : G p l e R s m args below meth c cells slots Q E A nL (cw E ad sc ar bl) (pc) lv (.int v :: .int x :: .ref (ad 25) :: st) := g_iast hc (cw_D hA _ _ _) 25 1 rfl rfl i hx hi (by decide) rfl hd k
theorem la_c26 (hc : Cx p s m args meth c E A own cc nL ret) {x : Int32} (i : Nat) (hx : x = nI i) (hi : i < 64) (hd : decode cc pc = .ok (.iaload, 1)) (k : G p l e R s m args below meth c cells slots Q E A nL (cw E ad sc ar bl) (pc + 1) lv (.int (ar 26 i) :: st)) : G p l e R s m args below meth c cells slots Q E A nL (cw E ad sc ar bl) (pc) lv (.int x :: .ref (ad 26) :: st) := g_iald hc 26 1 rfl rfl i hx hi (by decide) hd k
theorem sa_c26 (hc : Cx p s m args meth c E A own cc nL ret) (hA : Oka 39 ad A) {x v : Int32} (i : Nat) (hx : x = nI i) (hi : i < 64) (hd : decode cc pc = .ok (.iastore, 1)) (k : G p l e R s m args below meth c cells slots Q E A nL (cw E ad sc (va_up ar 26 (upd (ar 26) i v)) bl) (pc + 1) lv (st)) : G p l e R s m args below meth c cells slots Q E A nL (cw E ad sc ar bl) (pc) lv (.int v :: .int x :: .ref (ad 26) :: st) := g_iast hc (cw_D hA _ _ _) 26 1 rfl rfl i hx hi (by decide) rfl hd k
theorem la_c27 (hc : Cx p s m args meth c E A own cc nL ret) {x : Int32} (i : Nat) (hx : x = nI i) (hi : i < 12) (hd : decode cc pc = .ok (.iaload, 1)) (k : G p l e R s m args below meth c cells slots Q E A nL (cw E ad sc ar bl) (pc + 1) lv (.int (ar 27 i) :: st)) : G p l e R s m args below meth c cells slots Q E A nL (cw E ad sc ar bl) (pc) lv (.int x :: .ref (ad 27) :: st) := g_iald hc 27 1 rfl rfl i hx hi (by decide) hd k
theorem sa_c27 (hc : Cx p s m args meth c E A own cc nL ret) (hA : Oka 39 ad A) {x v : Int32} (i : Nat) (hx : x = nI i) (hi : i < 12) (hd : decode cc pc = .ok (.iastore, 1)) (k : G p l e R s m args below meth c cells slots Q E A nL (cw E ad sc (va_up ar 27 (upd (ar 27) i v)) bl) (pc + 1) lv (st)) : G p l e R s m args below meth c cells slots Q E A nL (cw E ad sc ar bl) (pc) lv (.int v :: .int x :: .ref (ad 27) :: st) := g_iast hc (cw_D hA _ _ _) 27 1 rfl rfl i hx hi (by decide) rfl hd k
theorem la_c28 (hc : Cx p s m args meth c E A own cc nL ret) {x : Int32} (i : Nat) (hx : x = nI i) (hi : i < 4) (hd : decode cc pc = .ok (.iaload, 1)) (k : G p l e R s m args below meth c cells slots Q E A nL (cw E ad sc ar bl) (pc + 1) lv (.int (ar 28 i) :: st)) : G p l e R s m args below meth c cells slots Q E A nL (cw E ad sc ar bl) (pc) lv (.int x :: .ref (ad 28) :: st) := g_iald hc 28 1 rfl rfl i hx hi (by decide) hd k
theorem sa_c28 (hc : Cx p s m args meth c E A own cc nL ret) (hA : Oka 39 ad A) {x v : Int32} (i : Nat) (hx : x = nI i) (hi : i < 4) (hd : decode cc pc = .ok (.iastore, 1)) (k : G p l e R s m args below meth c cells slots Q E A nL (cw E ad sc (va_up ar 28 (upd (ar 28) i v)) bl) (pc + 1) lv (st)) : G p l e R s m args below meth c cells slots Q E A nL (cw E ad sc ar bl) (pc) lv (.int v :: .int x :: .ref (ad 28) :: st) := g_iast hc (cw_D hA _ _ _) 28 1 rfl rfl i hx hi (by decide) rfl hd k
theorem la_c29 (hc : Cx p s m args meth c E A own cc nL ret) {x : Int32} (i : Nat) (hx : x = nI i) (hi : i < 3) (hd : decode cc pc = .ok (.iaload, 1)) (k : G p l e R s m args below meth c cells slots Q E A nL (cw E ad sc ar bl) (pc + 1) lv (.int (ar 29 i) :: st)) : G p l e R s m args below meth c cells slots Q E A nL (cw E ad sc ar bl) (pc) lv (.int x :: .ref (ad 29) :: st) := g_iald hc 29 1 rfl rfl i hx hi (by decide) hd k
theorem sa_c29 (hc : Cx p s m args meth c E A own cc nL ret) (hA : Oka 39 ad A) {x v : Int32} (i : Nat) (hx : x = nI i) (hi : i < 3) (hd : decode cc pc = .ok (.iastore, 1)) (k : G p l e R s m args below meth c cells slots Q E A nL (cw E ad sc (va_up ar 29 (upd (ar 29) i v)) bl) (pc + 1) lv (st)) : G p l e R s m args below meth c cells slots Q E A nL (cw E ad sc ar bl) (pc) lv (.int v :: .int x :: .ref (ad 29) :: st) := g_iast hc (cw_D hA _ _ _) 29 1 rfl rfl i hx hi (by decide) rfl hd k
theorem la_c30 (hc : Cx p s m args meth c E A own cc nL ret) {x : Int32} (i : Nat) (hx : x = nI i) (hi : i < 60) (hd : decode cc pc = .ok (.baload, 1)) (k : G p l e R s m args below meth c cells slots Q E A nL (cw E ad sc ar bl) (pc + 1) lv (.int (ar 30 i) :: st)) : G p l e R s m args below meth c cells slots Q E A nL (cw E ad sc ar bl) (pc) lv (.int x :: .ref (ad 30) :: st) := g_bald hc 30 0 rfl rfl i hx hi (by decide) hd k
theorem sa_c30 (hc : Cx p s m args meth c E A own cc nL ret) (hA : Oka 39 ad A) {x v : Int32} (i : Nat) (hx : x = nI i) (hi : i < 60) (hd : decode cc pc = .ok (.bastore, 1)) (k : G p l e R s m args below meth c cells slots Q E A nL (cw E ad sc (va_up ar 30 (upd (ar 30) i (vp_nar .byte v))) bl) (pc + 1) lv (st)) : G p l e R s m args below meth c cells slots Q E A nL (cw E ad sc ar bl) (pc) lv (.int v :: .int x :: .ref (ad 30) :: st) := g_bast hc (cw_D hA _ _ _) 30 0 rfl rfl i hx hi (by decide) rfl hd k
theorem la_c31 (hc : Cx p s m args meth c E A own cc nL ret) {x : Int32} (i : Nat) (hx : x = nI i) (hi : i < 12) (hd : decode cc pc = .ok (.iaload, 1)) (k : G p l e R s m args below meth c cells slots Q E A nL (cw E ad sc ar bl) (pc + 1) lv (.int (ar 31 i) :: st)) : G p l e R s m args below meth c cells slots Q E A nL (cw E ad sc ar bl) (pc) lv (.int x :: .ref (ad 31) :: st) := g_iald hc 31 1 rfl rfl i hx hi (by decide) hd k
theorem sa_c31 (hc : Cx p s m args meth c E A own cc nL ret) (hA : Oka 39 ad A) {x v : Int32} (i : Nat) (hx : x = nI i) (hi : i < 12) (hd : decode cc pc = .ok (.iastore, 1)) (k : G p l e R s m args below meth c cells slots Q E A nL (cw E ad sc (va_up ar 31 (upd (ar 31) i v)) bl) (pc + 1) lv (st)) : G p l e R s m args below meth c cells slots Q E A nL (cw E ad sc ar bl) (pc) lv (.int v :: .int x :: .ref (ad 31) :: st) := g_iast hc (cw_D hA _ _ _) 31 1 rfl rfl i hx hi (by decide) rfl hd k
theorem la_c32 (hc : Cx p s m args meth c E A own cc nL ret) {x : Int32} (i : Nat) (hx : x = nI i) (hi : i < 12) (hd : decode cc pc = .ok (.iaload, 1)) (k : G p l e R s m args below meth c cells slots Q E A nL (cw E ad sc ar bl) (pc + 1) lv (.int (ar 32 i) :: st)) : G p l e R s m args below meth c cells slots Q E A nL (cw E ad sc ar bl) (pc) lv (.int x :: .ref (ad 32) :: st) := g_iald hc 32 1 rfl rfl i hx hi (by decide) hd k
theorem sa_c32 (hc : Cx p s m args meth c E A own cc nL ret) (hA : Oka 39 ad A) {x v : Int32} (i : Nat) (hx : x = nI i) (hi : i < 12) (hd : decode cc pc = .ok (.iastore, 1)) (k : G p l e R s m args below meth c cells slots Q E A nL (cw E ad sc (va_up ar 32 (upd (ar 32) i v)) bl) (pc + 1) lv (st)) : G p l e R s m args below meth c cells slots Q E A nL (cw E ad sc ar bl) (pc) lv (.int v :: .int x :: .ref (ad 32) :: st) := g_iast hc (cw_D hA _ _ _) 32 1 rfl rfl i hx hi (by decide) rfl hd k
theorem la_c33 (hc : Cx p s m args meth c E A own cc nL ret) {x : Int32} (i : Nat) (hx : x = nI i) (hi : i < 12) (hd : decode cc pc = .ok (.iaload, 1)) (k : G p l e R s m args below meth c cells slots Q E A nL (cw E ad sc ar bl) (pc + 1) lv (.int (ar 33 i) :: st)) : G p l e R s m args below meth c cells slots Q E A nL (cw E ad sc ar bl) (pc) lv (.int x :: .ref (ad 33) :: st) := g_iald hc 33 1 rfl rfl i hx hi (by decide) hd k
theorem sa_c33 (hc : Cx p s m args meth c E A own cc nL ret) (hA : Oka 39 ad A) {x v : Int32} (i : Nat) (hx : x = nI i) (hi : i < 12) (hd : decode cc pc = .ok (.iastore, 1)) (k : G p l e R s m args below meth c cells slots Q E A nL (cw E ad sc (va_up ar 33 (upd (ar 33) i v)) bl) (pc + 1) lv (st)) : G p l e R s m args below meth c cells slots Q E A nL (cw E ad sc ar bl) (pc) lv (.int v :: .int x :: .ref (ad 33) :: st) := g_iast hc (cw_D hA _ _ _) 33 1 rfl rfl i hx hi (by decide) rfl hd k
theorem la_c34 (hc : Cx p s m args meth c E A own cc nL ret) {x : Int32} (i : Nat) (hx : x = nI i) (hi : i < 12) (hd : decode cc pc = .ok (.iaload, 1)) (k : G p l e R s m args below meth c cells slots Q E A nL (cw E ad sc ar bl) (pc + 1) lv (.int (ar 34 i) :: st)) : G p l e R s m args below meth c cells slots Q E A nL (cw E ad sc ar bl) (pc) lv (.int x :: .ref (ad 34) :: st) := g_iald hc 34 1 rfl rfl i hx hi (by decide) hd k
theorem sa_c34 (hc : Cx p s m args meth c E A own cc nL ret) (hA : Oka 39 ad A) {x v : Int32} (i : Nat) (hx : x = nI i) (hi : i < 12) (hd : decode cc pc = .ok (.iastore, 1)) (k : G p l e R s m args below meth c cells slots Q E A nL (cw E ad sc (va_up ar 34 (upd (ar 34) i v)) bl) (pc + 1) lv (st)) : G p l e R s m args below meth c cells slots Q E A nL (cw E ad sc ar bl) (pc) lv (.int v :: .int x :: .ref (ad 34) :: st) := g_iast hc (cw_D hA _ _ _) 34 1 rfl rfl i hx hi (by decide) rfl hd k
theorem la_c35 (hc : Cx p s m args meth c E A own cc nL ret) {x : Int32} (i : Nat) (hx : x = nI i) (hi : i < 12) (hd : decode cc pc = .ok (.iaload, 1)) (k : G p l e R s m args below meth c cells slots Q E A nL (cw E ad sc ar bl) (pc + 1) lv (.int (ar 35 i) :: st)) : G p l e R s m args below meth c cells slots Q E A nL (cw E ad sc ar bl) (pc) lv (.int x :: .ref (ad 35) :: st) := g_iald hc 35 1 rfl rfl i hx hi (by decide) hd k
theorem sa_c35 (hc : Cx p s m args meth c E A own cc nL ret) (hA : Oka 39 ad A) {x v : Int32} (i : Nat) (hx : x = nI i) (hi : i < 12) (hd : decode cc pc = .ok (.iastore, 1)) (k : G p l e R s m args below meth c cells slots Q E A nL (cw E ad sc (va_up ar 35 (upd (ar 35) i v)) bl) (pc + 1) lv (st)) : G p l e R s m args below meth c cells slots Q E A nL (cw E ad sc ar bl) (pc) lv (.int v :: .int x :: .ref (ad 35) :: st) := g_iast hc (cw_D hA _ _ _) 35 1 rfl rfl i hx hi (by decide) rfl hd k
theorem la_c36 (hc : Cx p s m args meth c E A own cc nL ret) {x : Int32} (i : Nat) (hx : x = nI i) (hi : i < 12) (hd : decode cc pc = .ok (.baload, 1)) (k : G p l e R s m args below meth c cells slots Q E A nL (cw E ad sc ar bl) (pc + 1) lv (.int (ar 36 i) :: st)) : G p l e R s m args below meth c cells slots Q E A nL (cw E ad sc ar bl) (pc) lv (.int x :: .ref (ad 36) :: st) := g_zald hc 36 4 rfl rfl i hx hi (by decide) hd k
theorem sa_c36 (hc : Cx p s m args meth c E A own cc nL ret) (hA : Oka 39 ad A) {x v : Int32} (i : Nat) (hx : x = nI i) (hi : i < 12) (hd : decode cc pc = .ok (.bastore, 1)) (k : G p l e R s m args below meth c cells slots Q E A nL (cw E ad sc (va_up ar 36 (upd (ar 36) i (vp_nar .boolean v))) bl) (pc + 1) lv (st)) : G p l e R s m args below meth c cells slots Q E A nL (cw E ad sc ar bl) (pc) lv (.int v :: .int x :: .ref (ad 36) :: st) := g_zast hc (cw_D hA _ _ _) 36 4 rfl rfl i hx hi (by decide) rfl hd k
theorem la_c37 (hc : Cx p s m args meth c E A own cc nL ret) {x : Int32} (i : Nat) (hx : x = nI i) (hi : i < 64) (hd : decode cc pc = .ok (.saload, 1)) (k : G p l e R s m args below meth c cells slots Q E A nL (cw E ad sc ar bl) (pc + 1) lv (.int (ar 37 i) :: st)) : G p l e R s m args below meth c cells slots Q E A nL (cw E ad sc ar bl) (pc) lv (.int x :: .ref (ad 37) :: st) := g_sald hc 37 3 rfl rfl i hx hi (by decide) hd k
theorem sa_c37 (hc : Cx p s m args meth c E A own cc nL ret) (hA : Oka 39 ad A) {x v : Int32} (i : Nat) (hx : x = nI i) (hi : i < 64) (hd : decode cc pc = .ok (.sastore, 1)) (k : G p l e R s m args below meth c cells slots Q E A nL (cw E ad sc (va_up ar 37 (upd (ar 37) i (vp_nar .short v))) bl) (pc + 1) lv (st)) : G p l e R s m args below meth c cells slots Q E A nL (cw E ad sc ar bl) (pc) lv (.int v :: .int x :: .ref (ad 37) :: st) := g_sast hc (cw_D hA _ _ _) 37 3 rfl rfl i hx hi (by decide) rfl hd k
theorem la_c38 (hc : Cx p s m args meth c E A own cc nL ret) {x : Int32} (i : Nat) (hx : x = nI i) (hi : i < 64) (hd : decode cc pc = .ok (.saload, 1)) (k : G p l e R s m args below meth c cells slots Q E A nL (cw E ad sc ar bl) (pc + 1) lv (.int (ar 38 i) :: st)) : G p l e R s m args below meth c cells slots Q E A nL (cw E ad sc ar bl) (pc) lv (.int x :: .ref (ad 38) :: st) := g_sald hc 38 3 rfl rfl i hx hi (by decide) hd k
theorem sa_c38 (hc : Cx p s m args meth c E A own cc nL ret) (hA : Oka 39 ad A) {x v : Int32} (i : Nat) (hx : x = nI i) (hi : i < 64) (hd : decode cc pc = .ok (.sastore, 1)) (k : G p l e R s m args below meth c cells slots Q E A nL (cw E ad sc (va_up ar 38 (upd (ar 38) i (vp_nar .short v))) bl) (pc + 1) lv (st)) : G p l e R s m args below meth c cells slots Q E A nL (cw E ad sc ar bl) (pc) lv (.int v :: .int x :: .ref (ad 38) :: st) := g_sast hc (cw_D hA _ _ _) 38 3 rfl rfl i hx hi (by decide) rfl hd k
theorem gf_m0_wide (hc : Cx p s m args meth c E A own cc nL ret) (t : Cond.fieldLink own index "SherdFieldModel" "wide" "I" ∈ gtb) (hd : decode cc pc = .ok (.getfield index, 3)) (k : G p l e R s m args below meth c cells slots Q E A nL (mw E ad sc ar la) (pc + 3) lv (.int (sc 0) :: st)) : G p l e R s m args below meth c cells slots Q E A nL (mw E ad sc ar la) (pc) lv (.ref (ad 0) :: st) := g_get (C := RX12) (T := TX12) (N := 43) (ci := 12) hc inX12 0 rfl rfl 0 (by decide) t rfl rfl hd k
theorem pf_m0_wide (hc : Cx p s m args meth c E A own cc nL ret) (hA : Oka 30 ad A) {v : Int32} (t : Cond.fieldLink own index "SherdFieldModel" "wide" "I" ∈ gtb) (hd : decode cc pc = .ok (.putfield index, 3)) (k : G p l e R s m args below meth c cells slots Q E A nL (mw E ad (va_up sc 0 v) ar la) (pc + 3) lv (st)) : G p l e R s m args below meth c cells slots Q E A nL (mw E ad sc ar la) (pc) lv (.int v :: .ref (ad 0) :: st) := g_put (C := RX12) (T := TX12) (N := 43) (ci := 12) (ty := .int) hc (mw_D hA _ _ _) inX12 tyX12 tyX12_ok nmX12 0 rfl rfl 0 (by decide) t rfl rfl (by decide +kernel) rfl rfl (Nat.le_of_ble_eq_true rfl) rfl hd k
theorem gf_m0_high (hc : Cx p s m args meth c E A own cc nL ret) (t : Cond.fieldLink own index "SherdFieldModel" "high" "I" ∈ gtb) (hd : decode cc pc = .ok (.getfield index, 3)) (k : G p l e R s m args below meth c cells slots Q E A nL (mw E ad sc ar la) (pc + 3) lv (.int (sc 1) :: st)) : G p l e R s m args below meth c cells slots Q E A nL (mw E ad sc ar la) (pc) lv (.ref (ad 0) :: st) := g_get (C := RX12) (T := TX12) (N := 43) (ci := 12) hc inX12 0 rfl rfl 1 (by decide) t rfl rfl hd k
theorem pf_m0_high (hc : Cx p s m args meth c E A own cc nL ret) (hA : Oka 30 ad A) {v : Int32} (t : Cond.fieldLink own index "SherdFieldModel" "high" "I" ∈ gtb) (hd : decode cc pc = .ok (.putfield index, 3)) (k : G p l e R s m args below meth c cells slots Q E A nL (mw E ad (va_up sc 1 v) ar la) (pc + 3) lv (st)) : G p l e R s m args below meth c cells slots Q E A nL (mw E ad sc ar la) (pc) lv (.int v :: .ref (ad 0) :: st) := g_put (C := RX12) (T := TX12) (N := 43) (ci := 12) (ty := .int) hc (mw_D hA _ _ _) inX12 tyX12 tyX12_ok nmX12 0 rfl rfl 1 (by decide) t rfl rfl (by decide +kernel) rfl rfl (Nat.le_of_ble_eq_true rfl) rfl hd k
theorem gf_m0_sorts (hc : Cx p s m args meth c E A own cc nL ret) (t : Cond.fieldLink own index "SherdFieldModel" "sorts" "[I" ∈ gtb) (hd : decode cc pc = .ok (.getfield index, 3)) (k : G p l e R s m args below meth c cells slots Q E A nL (mw E ad sc ar la) (pc + 3) lv (.ref (ad 1) :: st)) : G p l e R s m args below meth c cells slots Q E A nL (mw E ad sc ar la) (pc) lv (.ref (ad 0) :: st) := g_get (C := RX12) (T := TX12) (N := 43) (ci := 12) hc inX12 0 rfl rfl 2 (by decide) t rfl rfl hd k
theorem gf_m0_today (hc : Cx p s m args meth c E A own cc nL ret) (t : Cond.fieldLink own index "SherdFieldModel" "today" "I" ∈ gtb) (hd : decode cc pc = .ok (.getfield index, 3)) (k : G p l e R s m args below meth c cells slots Q E A nL (mw E ad sc ar la) (pc + 3) lv (.int (sc 2) :: st)) : G p l e R s m args below meth c cells slots Q E A nL (mw E ad sc ar la) (pc) lv (.ref (ad 0) :: st) := g_get (C := RX12) (T := TX12) (N := 43) (ci := 12) hc inX12 0 rfl rfl 3 (by decide) t rfl rfl hd k
theorem pf_m0_today (hc : Cx p s m args meth c E A own cc nL ret) (hA : Oka 30 ad A) {v : Int32} (t : Cond.fieldLink own index "SherdFieldModel" "today" "I" ∈ gtb) (hd : decode cc pc = .ok (.putfield index, 3)) (k : G p l e R s m args below meth c cells slots Q E A nL (mw E ad (va_up sc 2 v) ar la) (pc + 3) lv (st)) : G p l e R s m args below meth c cells slots Q E A nL (mw E ad sc ar la) (pc) lv (.int v :: .ref (ad 0) :: st) := g_put (C := RX12) (T := TX12) (N := 43) (ci := 12) (ty := .int) hc (mw_D hA _ _ _) inX12 tyX12 tyX12_ok nmX12 0 rfl rfl 3 (by decide) t rfl rfl (by decide +kernel) rfl rfl (Nat.le_of_ble_eq_true rfl) rfl hd k
theorem gf_m0_walks (hc : Cx p s m args meth c E A own cc nL ret) (t : Cond.fieldLink own index "SherdFieldModel" "walks" "I" ∈ gtb) (hd : decode cc pc = .ok (.getfield index, 3)) (k : G p l e R s m args below meth c cells slots Q E A nL (mw E ad sc ar la) (pc + 3) lv (.int (sc 3) :: st)) : G p l e R s m args below meth c cells slots Q E A nL (mw E ad sc ar la) (pc) lv (.ref (ad 0) :: st) := g_get (C := RX12) (T := TX12) (N := 43) (ci := 12) hc inX12 0 rfl rfl 4 (by decide) t rfl rfl hd k
theorem pf_m0_walks (hc : Cx p s m args meth c E A own cc nL ret) (hA : Oka 30 ad A) {v : Int32} (t : Cond.fieldLink own index "SherdFieldModel" "walks" "I" ∈ gtb) (hd : decode cc pc = .ok (.putfield index, 3)) (k : G p l e R s m args below meth c cells slots Q E A nL (mw E ad (va_up sc 3 v) ar la) (pc + 3) lv (st)) : G p l e R s m args below meth c cells slots Q E A nL (mw E ad sc ar la) (pc) lv (.int v :: .ref (ad 0) :: st) := g_put (C := RX12) (T := TX12) (N := 43) (ci := 12) (ty := .int) hc (mw_D hA _ _ _) inX12 tyX12 tyX12_ok nmX12 0 rfl rfl 4 (by decide) t rfl rfl (by decide +kernel) rfl rfl (Nat.le_of_ble_eq_true rfl) rfl hd k
theorem gf_m0_walker (hc : Cx p s m args meth c E A own cc nL ret) (t : Cond.fieldLink own index "SherdFieldModel" "walker" "[I" ∈ gtb) (hd : decode cc pc = .ok (.getfield index, 3)) (k : G p l e R s m args below meth c cells slots Q E A nL (mw E ad sc ar la) (pc + 3) lv (.ref (ad 2) :: st)) : G p l e R s m args below meth c cells slots Q E A nL (mw E ad sc ar la) (pc) lv (.ref (ad 0) :: st) := g_get (C := RX12) (T := TX12) (N := 43) (ci := 12) hc inX12 0 rfl rfl 5 (by decide) t rfl rfl hd k
theorem gf_m0_rowOf (hc : Cx p s m args meth c E A own cc nL ret) (t : Cond.fieldLink own index "SherdFieldModel" "rowOf" "[I" ∈ gtb) (hd : decode cc pc = .ok (.getfield index, 3)) (k : G p l e R s m args below meth c cells slots Q E A nL (mw E ad sc ar la) (pc + 3) lv (.ref (ad 3) :: st)) : G p l e R s m args below meth c cells slots Q E A nL (mw E ad sc ar la) (pc) lv (.ref (ad 0) :: st) := g_get (C := RX12) (T := TX12) (N := 43) (ci := 12) hc inX12 0 rfl rfl 6 (by decide) t rfl rfl hd k
theorem gf_m0_dayOf (hc : Cx p s m args meth c E A own cc nL ret) (t : Cond.fieldLink own index "SherdFieldModel" "dayOf" "[I" ∈ gtb) (hd : decode cc pc = .ok (.getfield index, 3)) (k : G p l e R s m args below meth c cells slots Q E A nL (mw E ad sc ar la) (pc + 3) lv (.ref (ad 4) :: st)) : G p l e R s m args below meth c cells slots Q E A nL (mw E ad sc ar la) (pc) lv (.ref (ad 0) :: st) := g_get (C := RX12) (T := TX12) (N := 43) (ci := 12) hc inX12 0 rfl rfl 7 (by decide) t rfl rfl hd k
theorem gf_m0_finds (hc : Cx p s m args meth c E A own cc nL ret) (t : Cond.fieldLink own index "SherdFieldModel" "finds" "I" ∈ gtb) (hd : decode cc pc = .ok (.getfield index, 3)) (k : G p l e R s m args below meth c cells slots Q E A nL (mw E ad sc ar la) (pc + 3) lv (.int (sc 4) :: st)) : G p l e R s m args below meth c cells slots Q E A nL (mw E ad sc ar la) (pc) lv (.ref (ad 0) :: st) := g_get (C := RX12) (T := TX12) (N := 43) (ci := 12) hc inX12 0 rfl rfl 8 (by decide) t rfl rfl hd k
theorem pf_m0_finds (hc : Cx p s m args meth c E A own cc nL ret) (hA : Oka 30 ad A) {v : Int32} (t : Cond.fieldLink own index "SherdFieldModel" "finds" "I" ∈ gtb) (hd : decode cc pc = .ok (.putfield index, 3)) (k : G p l e R s m args below meth c cells slots Q E A nL (mw E ad (va_up sc 4 v) ar la) (pc + 3) lv (st)) : G p l e R s m args below meth c cells slots Q E A nL (mw E ad sc ar la) (pc) lv (.int v :: .ref (ad 0) :: st) := g_put (C := RX12) (T := TX12) (N := 43) (ci := 12) (ty := .int) hc (mw_D hA _ _ _) inX12 tyX12 tyX12_ok nmX12 0 rfl rfl 8 (by decide) t rfl rfl (by decide +kernel) rfl rfl (Nat.le_of_ble_eq_true rfl) rfl hd k
theorem gf_m0_fWalk (hc : Cx p s m args meth c E A own cc nL ret) (t : Cond.fieldLink own index "SherdFieldModel" "fWalk" "[I" ∈ gtb) (hd : decode cc pc = .ok (.getfield index, 3)) (k : G p l e R s m args below meth c cells slots Q E A nL (mw E ad sc ar la) (pc + 3) lv (.ref (ad 5) :: st)) : G p l e R s m args below meth c cells slots Q E A nL (mw E ad sc ar la) (pc) lv (.ref (ad 0) :: st) := g_get (C := RX12) (T := TX12) (N := 43) (ci := 12) hc inX12 0 rfl rfl 9 (by decide) t rfl rfl hd k
theorem gf_m0_fPace (hc : Cx p s m args meth c E A own cc nL ret) (t : Cond.fieldLink own index "SherdFieldModel" "fPace" "[I" ∈ gtb) (hd : decode cc pc = .ok (.getfield index, 3)) (k : G p l e R s m args below meth c cells slots Q E A nL (mw E ad sc ar la) (pc + 3) lv (.ref (ad 6) :: st)) : G p l e R s m args below meth c cells slots Q E A nL (mw E ad sc ar la) (pc) lv (.ref (ad 0) :: st) := g_get (C := RX12) (T := TX12) (N := 43) (ci := 12) hc inX12 0 rfl rfl 10 (by decide) t rfl rfl hd k
theorem gf_m0_fKind (hc : Cx p s m args meth c E A own cc nL ret) (t : Cond.fieldLink own index "SherdFieldModel" "fKind" "[I" ∈ gtb) (hd : decode cc pc = .ok (.getfield index, 3)) (k : G p l e R s m args below meth c cells slots Q E A nL (mw E ad sc ar la) (pc + 3) lv (.ref (ad 7) :: st)) : G p l e R s m args below meth c cells slots Q E A nL (mw E ad sc ar la) (pc) lv (.ref (ad 0) :: st) := g_get (C := RX12) (T := TX12) (N := 43) (ci := 12) hc inX12 0 rfl rfl 11 (by decide) t rfl rfl hd k
theorem gf_m0_fMany (hc : Cx p s m args meth c E A own cc nL ret) (t : Cond.fieldLink own index "SherdFieldModel" "fMany" "[I" ∈ gtb) (hd : decode cc pc = .ok (.getfield index, 3)) (k : G p l e R s m args below meth c cells slots Q E A nL (mw E ad sc ar la) (pc + 3) lv (.ref (ad 8) :: st)) : G p l e R s m args below meth c cells slots Q E A nL (mw E ad sc ar la) (pc) lv (.ref (ad 0) :: st) := g_get (C := RX12) (T := TX12) (N := 43) (ci := 12) hc inX12 0 rfl rfl 12 (by decide) t rfl rfl hd k
theorem gf_m0_isEmpty (hc : Cx p s m args meth c E A own cc nL ret) (t : Cond.fieldLink own index "SherdFieldModel" "isEmpty" "[Z" ∈ gtb) (hd : decode cc pc = .ok (.getfield index, 3)) (k : G p l e R s m args below meth c cells slots Q E A nL (mw E ad sc ar la) (pc + 3) lv (.ref (ad 9) :: st)) : G p l e R s m args below meth c cells slots Q E A nL (mw E ad sc ar la) (pc) lv (.ref (ad 0) :: st) := g_get (C := RX12) (T := TX12) (N := 43) (ci := 12) hc inX12 0 rfl rfl 13 (by decide) t rfl rfl hd k
theorem gf_m0_seed (hc : Cx p s m args meth c E A own cc nL ret) (t : Cond.fieldLink own index "SherdFieldModel" "seed" "I" ∈ gtb) (hd : decode cc pc = .ok (.getfield index, 3)) (k : G p l e R s m args below meth c cells slots Q E A nL (mw E ad sc ar la) (pc + 3) lv (.int (sc 5) :: st)) : G p l e R s m args below meth c cells slots Q E A nL (mw E ad sc ar la) (pc) lv (.ref (ad 0) :: st) := g_get (C := RX12) (T := TX12) (N := 43) (ci := 12) hc inX12 0 rfl rfl 14 (by decide) t rfl rfl hd k
theorem pf_m0_seed (hc : Cx p s m args meth c E A own cc nL ret) (hA : Oka 30 ad A) {v : Int32} (t : Cond.fieldLink own index "SherdFieldModel" "seed" "I" ∈ gtb) (hd : decode cc pc = .ok (.putfield index, 3)) (k : G p l e R s m args below meth c cells slots Q E A nL (mw E ad (va_up sc 5 v) ar la) (pc + 3) lv (st)) : G p l e R s m args below meth c cells slots Q E A nL (mw E ad sc ar la) (pc) lv (.int v :: .ref (ad 0) :: st) := g_put (C := RX12) (T := TX12) (N := 43) (ci := 12) (ty := .int) hc (mw_D hA _ _ _) inX12 tyX12 tyX12_ok nmX12 0 rfl rfl 14 (by decide) t rfl rfl (by decide +kernel) rfl rfl (Nat.le_of_ble_eq_true rfl) rfl hd k
theorem gf_m0_spare (hc : Cx p s m args meth c E A own cc nL ret) (t : Cond.fieldLink own index "SherdFieldModel" "spare" "I" ∈ gtb) (hd : decode cc pc = .ok (.getfield index, 3)) (k : G p l e R s m args below meth c cells slots Q E A nL (mw E ad sc ar la) (pc + 3) lv (.int (sc 6) :: st)) : G p l e R s m args below meth c cells slots Q E A nL (mw E ad sc ar la) (pc) lv (.ref (ad 0) :: st) := g_get (C := RX12) (T := TX12) (N := 43) (ci := 12) hc inX12 0 rfl rfl 15 (by decide) t rfl rfl hd k
theorem pf_m0_spare (hc : Cx p s m args meth c E A own cc nL ret) (hA : Oka 30 ad A) {v : Int32} (t : Cond.fieldLink own index "SherdFieldModel" "spare" "I" ∈ gtb) (hd : decode cc pc = .ok (.putfield index, 3)) (k : G p l e R s m args below meth c cells slots Q E A nL (mw E ad (va_up sc 6 v) ar la) (pc + 3) lv (st)) : G p l e R s m args below meth c cells slots Q E A nL (mw E ad sc ar la) (pc) lv (.int v :: .ref (ad 0) :: st) := g_put (C := RX12) (T := TX12) (N := 43) (ci := 12) (ty := .int) hc (mw_D hA _ _ _) inX12 tyX12 tyX12_ok nmX12 0 rfl rfl 15 (by decide) t rfl rfl (by decide +kernel) rfl rfl (Nat.le_of_ble_eq_true rfl) rfl hd k
theorem gf_m0_profile (hc : Cx p s m args meth c E A own cc nL ret) (t : Cond.fieldLink own index "SherdFieldModel" "profile" "[I" ∈ gtb) (hd : decode cc pc = .ok (.getfield index, 3)) (k : G p l e R s m args below meth c cells slots Q E A nL (mw E ad sc ar la) (pc + 3) lv (.ref (ad 10) :: st)) : G p l e R s m args below meth c cells slots Q E A nL (mw E ad sc ar la) (pc) lv (.ref (ad 0) :: st) := g_get (C := RX12) (T := TX12) (N := 43) (ci := 12) hc inX12 0 rfl rfl 16 (by decide) t rfl rfl hd k
theorem gf_m0_tape (hc : Cx p s m args meth c E A own cc nL ret) (t : Cond.fieldLink own index "SherdFieldModel" "tape" "[I" ∈ gtb) (hd : decode cc pc = .ok (.getfield index, 3)) (k : G p l e R s m args below meth c cells slots Q E A nL (mw E ad sc ar la) (pc + 3) lv (.ref (ad 11) :: st)) : G p l e R s m args below meth c cells slots Q E A nL (mw E ad sc ar la) (pc) lv (.ref (ad 0) :: st) := g_get (C := RX12) (T := TX12) (N := 43) (ci := 12) hc inX12 0 rfl rfl 17 (by decide) t rfl rfl hd k
theorem gf_m0_taped (hc : Cx p s m args meth c E A own cc nL ret) (t : Cond.fieldLink own index "SherdFieldModel" "taped" "I" ∈ gtb) (hd : decode cc pc = .ok (.getfield index, 3)) (k : G p l e R s m args below meth c cells slots Q E A nL (mw E ad sc ar la) (pc + 3) lv (.int (sc 7) :: st)) : G p l e R s m args below meth c cells slots Q E A nL (mw E ad sc ar la) (pc) lv (.ref (ad 0) :: st) := g_get (C := RX12) (T := TX12) (N := 43) (ci := 12) hc inX12 0 rfl rfl 18 (by decide) t rfl rfl hd k
theorem pf_m0_taped (hc : Cx p s m args meth c E A own cc nL ret) (hA : Oka 30 ad A) {v : Int32} (t : Cond.fieldLink own index "SherdFieldModel" "taped" "I" ∈ gtb) (hd : decode cc pc = .ok (.putfield index, 3)) (k : G p l e R s m args below meth c cells slots Q E A nL (mw E ad (va_up sc 7 v) ar la) (pc + 3) lv (st)) : G p l e R s m args below meth c cells slots Q E A nL (mw E ad sc ar la) (pc) lv (.int v :: .ref (ad 0) :: st) := g_put (C := RX12) (T := TX12) (N := 43) (ci := 12) (ty := .int) hc (mw_D hA _ _ _) inX12 tyX12 tyX12_ok nmX12 0 rfl rfl 18 (by decide) t rfl rfl (by decide +kernel) rfl rfl (Nat.le_of_ble_eq_true rfl) rfl hd k
theorem gf_m0_leaves (hc : Cx p s m args meth c E A own cc nL ret) (t : Cond.fieldLink own index "SherdFieldModel" "leaves" "I" ∈ gtb) (hd : decode cc pc = .ok (.getfield index, 3)) (k : G p l e R s m args below meth c cells slots Q E A nL (mw E ad sc ar la) (pc + 3) lv (.int (sc 8) :: st)) : G p l e R s m args below meth c cells slots Q E A nL (mw E ad sc ar la) (pc) lv (.ref (ad 0) :: st) := g_get (C := RX12) (T := TX12) (N := 43) (ci := 12) hc inX12 0 rfl rfl 19 (by decide) t rfl rfl hd k
theorem pf_m0_leaves (hc : Cx p s m args meth c E A own cc nL ret) (hA : Oka 30 ad A) {v : Int32} (t : Cond.fieldLink own index "SherdFieldModel" "leaves" "I" ∈ gtb) (hd : decode cc pc = .ok (.putfield index, 3)) (k : G p l e R s m args below meth c cells slots Q E A nL (mw E ad (va_up sc 8 v) ar la) (pc + 3) lv (st)) : G p l e R s m args below meth c cells slots Q E A nL (mw E ad sc ar la) (pc) lv (.int v :: .ref (ad 0) :: st) := g_put (C := RX12) (T := TX12) (N := 43) (ci := 12) (ty := .int) hc (mw_D hA _ _ _) inX12 tyX12 tyX12_ok nmX12 0 rfl rfl 19 (by decide) t rfl rfl (by decide +kernel) rfl rfl (Nat.le_of_ble_eq_true rfl) rfl hd k
theorem gf_m0_lFrom (hc : Cx p s m args meth c E A own cc nL ret) (t : Cond.fieldLink own index "SherdFieldModel" "lFrom" "[I" ∈ gtb) (hd : decode cc pc = .ok (.getfield index, 3)) (k : G p l e R s m args below meth c cells slots Q E A nL (mw E ad sc ar la) (pc + 3) lv (.ref (ad 12) :: st)) : G p l e R s m args below meth c cells slots Q E A nL (mw E ad sc ar la) (pc) lv (.ref (ad 0) :: st) := g_get (C := RX12) (T := TX12) (N := 43) (ci := 12) hc inX12 0 rfl rfl 20 (by decide) t rfl rfl hd k
theorem gf_m0_lTo (hc : Cx p s m args meth c E A own cc nL ret) (t : Cond.fieldLink own index "SherdFieldModel" "lTo" "[I" ∈ gtb) (hd : decode cc pc = .ok (.getfield index, 3)) (k : G p l e R s m args below meth c cells slots Q E A nL (mw E ad sc ar la) (pc + 3) lv (.ref (ad 13) :: st)) : G p l e R s m args below meth c cells slots Q E A nL (mw E ad sc ar la) (pc) lv (.ref (ad 0) :: st) := g_get (C := RX12) (T := TX12) (N := 43) (ci := 12) hc inX12 0 rfl rfl 21 (by decide) t rfl rfl hd k
theorem gf_m0_lFirst (hc : Cx p s m args meth c E A own cc nL ret) (t : Cond.fieldLink own index "SherdFieldModel" "lFirst" "[I" ∈ gtb) (hd : decode cc pc = .ok (.getfield index, 3)) (k : G p l e R s m args below meth c cells slots Q E A nL (mw E ad sc ar la) (pc + 3) lv (.ref (ad 14) :: st)) : G p l e R s m args below meth c cells slots Q E A nL (mw E ad sc ar la) (pc) lv (.ref (ad 0) :: st) := g_get (C := RX12) (T := TX12) (N := 43) (ci := 12) hc inX12 0 rfl rfl 22 (by decide) t rfl rfl hd k
theorem gf_m0_lLast (hc : Cx p s m args meth c E A own cc nL ret) (t : Cond.fieldLink own index "SherdFieldModel" "lLast" "[I" ∈ gtb) (hd : decode cc pc = .ok (.getfield index, 3)) (k : G p l e R s m args below meth c cells slots Q E A nL (mw E ad sc ar la) (pc + 3) lv (.ref (ad 15) :: st)) : G p l e R s m args below meth c cells slots Q E A nL (mw E ad sc ar la) (pc) lv (.ref (ad 0) :: st) := g_get (C := RX12) (T := TX12) (N := 43) (ci := 12) hc inX12 0 rfl rfl 23 (by decide) t rfl rfl hd k
theorem gf_m0_lNot (hc : Cx p s m args meth c E A own cc nL ret) (t : Cond.fieldLink own index "SherdFieldModel" "lNot" "[I" ∈ gtb) (hd : decode cc pc = .ok (.getfield index, 3)) (k : G p l e R s m args below meth c cells slots Q E A nL (mw E ad sc ar la) (pc + 3) lv (.ref (ad 16) :: st)) : G p l e R s m args below meth c cells slots Q E A nL (mw E ad sc ar la) (pc) lv (.ref (ad 0) :: st) := g_get (C := RX12) (T := TX12) (N := 43) (ci := 12) hc inX12 0 rfl rfl 24 (by decide) t rfl rfl hd k
theorem gf_m0_isBack (hc : Cx p s m args meth c E A own cc nL ret) (t : Cond.fieldLink own index "SherdFieldModel" "isBack" "[Z" ∈ gtb) (hd : decode cc pc = .ok (.getfield index, 3)) (k : G p l e R s m args below meth c cells slots Q E A nL (mw E ad sc ar la) (pc + 3) lv (.ref (ad 17) :: st)) : G p l e R s m args below meth c cells slots Q E A nL (mw E ad sc ar la) (pc) lv (.ref (ad 0) :: st) := g_get (C := RX12) (T := TX12) (N := 43) (ci := 12) hc inX12 0 rfl rfl 25 (by decide) t rfl rfl hd k
theorem gf_m0_places (hc : Cx p s m args meth c E A own cc nL ret) (t : Cond.fieldLink own index "SherdFieldModel" "places" "[I" ∈ gtb) (hd : decode cc pc = .ok (.getfield index, 3)) (k : G p l e R s m args below meth c cells slots Q E A nL (mw E ad sc ar la) (pc + 3) lv (.ref (ad 18) :: st)) : G p l e R s m args below meth c cells slots Q E A nL (mw E ad sc ar la) (pc) lv (.ref (ad 0) :: st) := g_get (C := RX12) (T := TX12) (N := 43) (ci := 12) hc inX12 0 rfl rfl 26 (by decide) t rfl rfl hd k
theorem gf_m0_numbers (hc : Cx p s m args meth c E A own cc nL ret) (t : Cond.fieldLink own index "SherdFieldModel" "numbers" "[I" ∈ gtb) (hd : decode cc pc = .ok (.getfield index, 3)) (k : G p l e R s m args below meth c cells slots Q E A nL (mw E ad sc ar la) (pc + 3) lv (.ref (ad 19) :: st)) : G p l e R s m args below meth c cells slots Q E A nL (mw E ad sc ar la) (pc) lv (.ref (ad 0) :: st) := g_get (C := RX12) (T := TX12) (N := 43) (ci := 12) hc inX12 0 rfl rfl 27 (by decide) t rfl rfl hd k
theorem gf_m0_fines (hc : Cx p s m args meth c E A own cc nL ret) (t : Cond.fieldLink own index "SherdFieldModel" "fines" "[I" ∈ gtb) (hd : decode cc pc = .ok (.getfield index, 3)) (k : G p l e R s m args below meth c cells slots Q E A nL (mw E ad sc ar la) (pc + 3) lv (.ref (ad 20) :: st)) : G p l e R s m args below meth c cells slots Q E A nL (mw E ad sc ar la) (pc) lv (.ref (ad 0) :: st) := g_get (C := RX12) (T := TX12) (N := 43) (ci := 12) hc inX12 0 rfl rfl 28 (by decide) t rfl rfl hd k
theorem gf_m0_eyes (hc : Cx p s m args meth c E A own cc nL ret) (t : Cond.fieldLink own index "SherdFieldModel" "eyes" "[I" ∈ gtb) (hd : decode cc pc = .ok (.getfield index, 3)) (k : G p l e R s m args below meth c cells slots Q E A nL (mw E ad sc ar la) (pc + 3) lv (.ref (ad 21) :: st)) : G p l e R s m args below meth c cells slots Q E A nL (mw E ad sc ar la) (pc) lv (.ref (ad 0) :: st) := g_get (C := RX12) (T := TX12) (N := 43) (ci := 12) hc inX12 0 rfl rfl 29 (by decide) t rfl rfl hd k
theorem gf_m0_chosen (hc : Cx p s m args meth c E A own cc nL ret) (t : Cond.fieldLink own index "SherdFieldModel" "chosen" "[I" ∈ gtb) (hd : decode cc pc = .ok (.getfield index, 3)) (k : G p l e R s m args below meth c cells slots Q E A nL (mw E ad sc ar la) (pc + 3) lv (.ref (ad 22) :: st)) : G p l e R s m args below meth c cells slots Q E A nL (mw E ad sc ar la) (pc) lv (.ref (ad 0) :: st) := g_get (C := RX12) (T := TX12) (N := 43) (ci := 12) hc inX12 0 rfl rfl 30 (by decide) t rfl rfl hd k
theorem gf_m0_worths (hc : Cx p s m args meth c E A own cc nL ret) (t : Cond.fieldLink own index "SherdFieldModel" "worths" "[I" ∈ gtb) (hd : decode cc pc = .ok (.getfield index, 3)) (k : G p l e R s m args below meth c cells slots Q E A nL (mw E ad sc ar la) (pc + 3) lv (.ref (ad 23) :: st)) : G p l e R s m args below meth c cells slots Q E A nL (mw E ad sc ar la) (pc) lv (.ref (ad 0) :: st) := g_get (C := RX12) (T := TX12) (N := 43) (ci := 12) hc inX12 0 rfl rfl 31 (by decide) t rfl rfl hd k
theorem gf_m0_walked (hc : Cx p s m args meth c E A own cc nL ret) (t : Cond.fieldLink own index "SherdFieldModel" "walked" "[I" ∈ gtb) (hd : decode cc pc = .ok (.getfield index, 3)) (k : G p l e R s m args below meth c cells slots Q E A nL (mw E ad sc ar la) (pc + 3) lv (.ref (ad 24) :: st)) : G p l e R s m args below meth c cells slots Q E A nL (mw E ad sc ar la) (pc) lv (.ref (ad 0) :: st) := g_get (C := RX12) (T := TX12) (N := 43) (ci := 12) hc inX12 0 rfl rfl 32 (by decide) t rfl rfl hd k
theorem gf_m0_soil (hc : Cx p s m args meth c E A own cc nL ret) (t : Cond.fieldLink own index "SherdFieldModel" "soil" "[I" ∈ gtb) (hd : decode cc pc = .ok (.getfield index, 3)) (k : G p l e R s m args below meth c cells slots Q E A nL (mw E ad sc ar la) (pc + 3) lv (.ref (ad 25) :: st)) : G p l e R s m args below meth c cells slots Q E A nL (mw E ad sc ar la) (pc) lv (.ref (ad 0) :: st) := g_get (C := RX12) (T := TX12) (N := 43) (ci := 12) hc inX12 0 rfl rfl 33 (by decide) t rfl rfl hd k
theorem gf_m0_next (hc : Cx p s m args meth c E A own cc nL ret) (t : Cond.fieldLink own index "SherdFieldModel" "next" "[I" ∈ gtb) (hd : decode cc pc = .ok (.getfield index, 3)) (k : G p l e R s m args below meth c cells slots Q E A nL (mw E ad sc ar la) (pc + 3) lv (.ref (ad 26) :: st)) : G p l e R s m args below meth c cells slots Q E A nL (mw E ad sc ar la) (pc) lv (.ref (ad 0) :: st) := g_get (C := RX12) (T := TX12) (N := 43) (ci := 12) hc inX12 0 rfl rfl 34 (by decide) t rfl rfl hd k
theorem gf_m0_counted (hc : Cx p s m args meth c E A own cc nL ret) (t : Cond.fieldLink own index "SherdFieldModel" "counted" "[J" ∈ gtb) (hd : decode cc pc = .ok (.getfield index, 3)) (k : G p l e R s m args below meth c cells slots Q E A nL (mw E ad sc ar la) (pc + 3) lv (.ref (ad 27) :: st)) : G p l e R s m args below meth c cells slots Q E A nL (mw E ad sc ar la) (pc) lv (.ref (ad 0) :: st) := g_get (C := RX12) (T := TX12) (N := 43) (ci := 12) hc inX12 0 rfl rfl 35 (by decide) t rfl rfl hd k
theorem gf_m0_read (hc : Cx p s m args meth c E A own cc nL ret) (t : Cond.fieldLink own index "SherdFieldModel" "read" "I" ∈ gtb) (hd : decode cc pc = .ok (.getfield index, 3)) (k : G p l e R s m args below meth c cells slots Q E A nL (mw E ad sc ar la) (pc + 3) lv (.int (sc 9) :: st)) : G p l e R s m args below meth c cells slots Q E A nL (mw E ad sc ar la) (pc) lv (.ref (ad 0) :: st) := g_get (C := RX12) (T := TX12) (N := 43) (ci := 12) hc inX12 0 rfl rfl 36 (by decide) t rfl rfl hd k
theorem pf_m0_read (hc : Cx p s m args meth c E A own cc nL ret) (hA : Oka 30 ad A) {v : Int32} (t : Cond.fieldLink own index "SherdFieldModel" "read" "I" ∈ gtb) (hd : decode cc pc = .ok (.putfield index, 3)) (k : G p l e R s m args below meth c cells slots Q E A nL (mw E ad (va_up sc 9 v) ar la) (pc + 3) lv (st)) : G p l e R s m args below meth c cells slots Q E A nL (mw E ad sc ar la) (pc) lv (.int v :: .ref (ad 0) :: st) := g_put (C := RX12) (T := TX12) (N := 43) (ci := 12) (ty := .int) hc (mw_D hA _ _ _) inX12 tyX12 tyX12_ok nmX12 0 rfl rfl 36 (by decide) t rfl rfl (by decide +kernel) rfl rfl (Nat.le_of_ble_eq_true rfl) rfl hd k
theorem gf_m0_from (hc : Cx p s m args meth c E A own cc nL ret) (t : Cond.fieldLink own index "SherdFieldModel" "from" "I" ∈ gtb) (hd : decode cc pc = .ok (.getfield index, 3)) (k : G p l e R s m args below meth c cells slots Q E A nL (mw E ad sc ar la) (pc + 3) lv (.int (sc 10) :: st)) : G p l e R s m args below meth c cells slots Q E A nL (mw E ad sc ar la) (pc) lv (.ref (ad 0) :: st) := g_get (C := RX12) (T := TX12) (N := 43) (ci := 12) hc inX12 0 rfl rfl 37 (by decide) t rfl rfl hd k
theorem pf_m0_from (hc : Cx p s m args meth c E A own cc nL ret) (hA : Oka 30 ad A) {v : Int32} (t : Cond.fieldLink own index "SherdFieldModel" "from" "I" ∈ gtb) (hd : decode cc pc = .ok (.putfield index, 3)) (k : G p l e R s m args below meth c cells slots Q E A nL (mw E ad (va_up sc 10 v) ar la) (pc + 3) lv (st)) : G p l e R s m args below meth c cells slots Q E A nL (mw E ad sc ar la) (pc) lv (.int v :: .ref (ad 0) :: st) := g_put (C := RX12) (T := TX12) (N := 43) (ci := 12) (ty := .int) hc (mw_D hA _ _ _) inX12 tyX12 tyX12_ok nmX12 0 rfl rfl 37 (by decide) t rfl rfl (by decide +kernel) rfl rfl (Nat.le_of_ble_eq_true rfl) rfl hd k
theorem gf_m0_long1 (hc : Cx p s m args meth c E A own cc nL ret) (t : Cond.fieldLink own index "SherdFieldModel" "long1" "I" ∈ gtb) (hd : decode cc pc = .ok (.getfield index, 3)) (k : G p l e R s m args below meth c cells slots Q E A nL (mw E ad sc ar la) (pc + 3) lv (.int (sc 11) :: st)) : G p l e R s m args below meth c cells slots Q E A nL (mw E ad sc ar la) (pc) lv (.ref (ad 0) :: st) := g_get (C := RX12) (T := TX12) (N := 43) (ci := 12) hc inX12 0 rfl rfl 38 (by decide) t rfl rfl hd k
theorem pf_m0_long1 (hc : Cx p s m args meth c E A own cc nL ret) (hA : Oka 30 ad A) {v : Int32} (t : Cond.fieldLink own index "SherdFieldModel" "long1" "I" ∈ gtb) (hd : decode cc pc = .ok (.putfield index, 3)) (k : G p l e R s m args below meth c cells slots Q E A nL (mw E ad (va_up sc 11 v) ar la) (pc + 3) lv (st)) : G p l e R s m args below meth c cells slots Q E A nL (mw E ad sc ar la) (pc) lv (.int v :: .ref (ad 0) :: st) := g_put (C := RX12) (T := TX12) (N := 43) (ci := 12) (ty := .int) hc (mw_D hA _ _ _) inX12 tyX12 tyX12_ok nmX12 0 rfl rfl 38 (by decide) t rfl rfl (by decide +kernel) rfl rfl (Nat.le_of_ble_eq_true rfl) rfl hd k
theorem gf_m0_spanFrom (hc : Cx p s m args meth c E A own cc nL ret) (t : Cond.fieldLink own index "SherdFieldModel" "spanFrom" "I" ∈ gtb) (hd : decode cc pc = .ok (.getfield index, 3)) (k : G p l e R s m args below meth c cells slots Q E A nL (mw E ad sc ar la) (pc + 3) lv (.int (sc 12) :: st)) : G p l e R s m args below meth c cells slots Q E A nL (mw E ad sc ar la) (pc) lv (.ref (ad 0) :: st) := g_get (C := RX12) (T := TX12) (N := 43) (ci := 12) hc inX12 0 rfl rfl 39 (by decide) t rfl rfl hd k
theorem pf_m0_spanFrom (hc : Cx p s m args meth c E A own cc nL ret) (hA : Oka 30 ad A) {v : Int32} (t : Cond.fieldLink own index "SherdFieldModel" "spanFrom" "I" ∈ gtb) (hd : decode cc pc = .ok (.putfield index, 3)) (k : G p l e R s m args below meth c cells slots Q E A nL (mw E ad (va_up sc 12 v) ar la) (pc + 3) lv (st)) : G p l e R s m args below meth c cells slots Q E A nL (mw E ad sc ar la) (pc) lv (.int v :: .ref (ad 0) :: st) := g_put (C := RX12) (T := TX12) (N := 43) (ci := 12) (ty := .int) hc (mw_D hA _ _ _) inX12 tyX12 tyX12_ok nmX12 0 rfl rfl 39 (by decide) t rfl rfl (by decide +kernel) rfl rfl (Nat.le_of_ble_eq_true rfl) rfl hd k
theorem gf_m0_spanTo (hc : Cx p s m args meth c E A own cc nL ret) (t : Cond.fieldLink own index "SherdFieldModel" "spanTo" "I" ∈ gtb) (hd : decode cc pc = .ok (.getfield index, 3)) (k : G p l e R s m args below meth c cells slots Q E A nL (mw E ad sc ar la) (pc + 3) lv (.int (sc 13) :: st)) : G p l e R s m args below meth c cells slots Q E A nL (mw E ad sc ar la) (pc) lv (.ref (ad 0) :: st) := g_get (C := RX12) (T := TX12) (N := 43) (ci := 12) hc inX12 0 rfl rfl 40 (by decide) t rfl rfl hd k
theorem pf_m0_spanTo (hc : Cx p s m args meth c E A own cc nL ret) (hA : Oka 30 ad A) {v : Int32} (t : Cond.fieldLink own index "SherdFieldModel" "spanTo" "I" ∈ gtb) (hd : decode cc pc = .ok (.putfield index, 3)) (k : G p l e R s m args below meth c cells slots Q E A nL (mw E ad (va_up sc 13 v) ar la) (pc + 3) lv (st)) : G p l e R s m args below meth c cells slots Q E A nL (mw E ad sc ar la) (pc) lv (.int v :: .ref (ad 0) :: st) := g_put (C := RX12) (T := TX12) (N := 43) (ci := 12) (ty := .int) hc (mw_D hA _ _ _) inX12 tyX12 tyX12_ok nmX12 0 rfl rfl 40 (by decide) t rfl rfl (by decide +kernel) rfl rfl (Nat.le_of_ble_eq_true rfl) rfl hd k
theorem gf_m0_aside (hc : Cx p s m args meth c E A own cc nL ret) (t : Cond.fieldLink own index "SherdFieldModel" "aside" "[I" ∈ gtb) (hd : decode cc pc = .ok (.getfield index, 3)) (k : G p l e R s m args below meth c cells slots Q E A nL (mw E ad sc ar la) (pc + 3) lv (.ref (ad 28) :: st)) : G p l e R s m args below meth c cells slots Q E A nL (mw E ad sc ar la) (pc) lv (.ref (ad 0) :: st) := g_get (C := RX12) (T := TX12) (N := 43) (ci := 12) hc inX12 0 rfl rfl 41 (by decide) t rfl rfl hd k
theorem gf_m0_carried (hc : Cx p s m args meth c E A own cc nL ret) (t : Cond.fieldLink own index "SherdFieldModel" "carried" "[I" ∈ gtb) (hd : decode cc pc = .ok (.getfield index, 3)) (k : G p l e R s m args below meth c cells slots Q E A nL (mw E ad sc ar la) (pc + 3) lv (.ref (ad 29) :: st)) : G p l e R s m args below meth c cells slots Q E A nL (mw E ad sc ar la) (pc) lv (.ref (ad 0) :: st) := g_get (C := RX12) (T := TX12) (N := 43) (ci := 12) hc inX12 0 rfl rfl 42 (by decide) t rfl rfl hd k
theorem la_m1 (hc : Cx p s m args meth c E A own cc nL ret) {x : Int32} (i : Nat) (hx : x = nI i) (hi : i < 4) (hd : decode cc pc = .ok (.iaload, 1)) (k : G p l e R s m args below meth c cells slots Q E A nL (mw E ad sc ar la) (pc + 1) lv (.int (ar 1 i) :: st)) : G p l e R s m args below meth c cells slots Q E A nL (mw E ad sc ar la) (pc) lv (.int x :: .ref (ad 1) :: st) := g_iald hc 1 1 rfl rfl i hx hi (by decide) hd k
theorem sa_m1 (hc : Cx p s m args meth c E A own cc nL ret) (hA : Oka 30 ad A) {x v : Int32} (i : Nat) (hx : x = nI i) (hi : i < 4) (hd : decode cc pc = .ok (.iastore, 1)) (k : G p l e R s m args below meth c cells slots Q E A nL (mw E ad sc (va_up ar 1 (upd (ar 1) i v)) la) (pc + 1) lv (st)) : G p l e R s m args below meth c cells slots Q E A nL (mw E ad sc ar la) (pc) lv (.int v :: .int x :: .ref (ad 1) :: st) := g_iast hc (mw_D hA _ _ _) 1 1 rfl rfl i hx hi (by decide) rfl hd k
theorem la_m2 (hc : Cx p s m args meth c E A own cc nL ret) {x : Int32} (i : Nat) (hx : x = nI i) (hi : i < 60) (hd : decode cc pc = .ok (.iaload, 1)) (k : G p l e R s m args below meth c cells slots Q E A nL (mw E ad sc ar la) (pc + 1) lv (.int (ar 2 i) :: st)) : G p l e R s m args below meth c cells slots Q E A nL (mw E ad sc ar la) (pc) lv (.int x :: .ref (ad 2) :: st) := g_iald hc 2 1 rfl rfl i hx hi (by decide) hd k
theorem sa_m2 (hc : Cx p s m args meth c E A own cc nL ret) (hA : Oka 30 ad A) {x v : Int32} (i : Nat) (hx : x = nI i) (hi : i < 60) (hd : decode cc pc = .ok (.iastore, 1)) (k : G p l e R s m args below meth c cells slots Q E A nL (mw E ad sc (va_up ar 2 (upd (ar 2) i v)) la) (pc + 1) lv (st)) : G p l e R s m args below meth c cells slots Q E A nL (mw E ad sc ar la) (pc) lv (.int v :: .int x :: .ref (ad 2) :: st) := g_iast hc (mw_D hA _ _ _) 2 1 rfl rfl i hx hi (by decide) rfl hd k
theorem la_m3 (hc : Cx p s m args meth c E A own cc nL ret) {x : Int32} (i : Nat) (hx : x = nI i) (hi : i < 60) (hd : decode cc pc = .ok (.iaload, 1)) (k : G p l e R s m args below meth c cells slots Q E A nL (mw E ad sc ar la) (pc + 1) lv (.int (ar 3 i) :: st)) : G p l e R s m args below meth c cells slots Q E A nL (mw E ad sc ar la) (pc) lv (.int x :: .ref (ad 3) :: st) := g_iald hc 3 1 rfl rfl i hx hi (by decide) hd k
theorem sa_m3 (hc : Cx p s m args meth c E A own cc nL ret) (hA : Oka 30 ad A) {x v : Int32} (i : Nat) (hx : x = nI i) (hi : i < 60) (hd : decode cc pc = .ok (.iastore, 1)) (k : G p l e R s m args below meth c cells slots Q E A nL (mw E ad sc (va_up ar 3 (upd (ar 3) i v)) la) (pc + 1) lv (st)) : G p l e R s m args below meth c cells slots Q E A nL (mw E ad sc ar la) (pc) lv (.int v :: .int x :: .ref (ad 3) :: st) := g_iast hc (mw_D hA _ _ _) 3 1 rfl rfl i hx hi (by decide) rfl hd k
theorem la_m4 (hc : Cx p s m args meth c E A own cc nL ret) {x : Int32} (i : Nat) (hx : x = nI i) (hi : i < 60) (hd : decode cc pc = .ok (.iaload, 1)) (k : G p l e R s m args below meth c cells slots Q E A nL (mw E ad sc ar la) (pc + 1) lv (.int (ar 4 i) :: st)) : G p l e R s m args below meth c cells slots Q E A nL (mw E ad sc ar la) (pc) lv (.int x :: .ref (ad 4) :: st) := g_iald hc 4 1 rfl rfl i hx hi (by decide) hd k
theorem sa_m4 (hc : Cx p s m args meth c E A own cc nL ret) (hA : Oka 30 ad A) {x v : Int32} (i : Nat) (hx : x = nI i) (hi : i < 60) (hd : decode cc pc = .ok (.iastore, 1)) (k : G p l e R s m args below meth c cells slots Q E A nL (mw E ad sc (va_up ar 4 (upd (ar 4) i v)) la) (pc + 1) lv (st)) : G p l e R s m args below meth c cells slots Q E A nL (mw E ad sc ar la) (pc) lv (.int v :: .int x :: .ref (ad 4) :: st) := g_iast hc (mw_D hA _ _ _) 4 1 rfl rfl i hx hi (by decide) rfl hd k
theorem la_m5 (hc : Cx p s m args meth c E A own cc nL ret) {x : Int32} (i : Nat) (hx : x = nI i) (hi : i < 200) (hd : decode cc pc = .ok (.iaload, 1)) (k : G p l e R s m args below meth c cells slots Q E A nL (mw E ad sc ar la) (pc + 1) lv (.int (ar 5 i) :: st)) : G p l e R s m args below meth c cells slots Q E A nL (mw E ad sc ar la) (pc) lv (.int x :: .ref (ad 5) :: st) := g_iald hc 5 1 rfl rfl i hx hi (by decide) hd k
theorem sa_m5 (hc : Cx p s m args meth c E A own cc nL ret) (hA : Oka 30 ad A) {x v : Int32} (i : Nat) (hx : x = nI i) (hi : i < 200) (hd : decode cc pc = .ok (.iastore, 1)) (k : G p l e R s m args below meth c cells slots Q E A nL (mw E ad sc (va_up ar 5 (upd (ar 5) i v)) la) (pc + 1) lv (st)) : G p l e R s m args below meth c cells slots Q E A nL (mw E ad sc ar la) (pc) lv (.int v :: .int x :: .ref (ad 5) :: st) := g_iast hc (mw_D hA _ _ _) 5 1 rfl rfl i hx hi (by decide) rfl hd k
theorem la_m6 (hc : Cx p s m args meth c E A own cc nL ret) {x : Int32} (i : Nat) (hx : x = nI i) (hi : i < 200) (hd : decode cc pc = .ok (.iaload, 1)) (k : G p l e R s m args below meth c cells slots Q E A nL (mw E ad sc ar la) (pc + 1) lv (.int (ar 6 i) :: st)) : G p l e R s m args below meth c cells slots Q E A nL (mw E ad sc ar la) (pc) lv (.int x :: .ref (ad 6) :: st) := g_iald hc 6 1 rfl rfl i hx hi (by decide) hd k
theorem sa_m6 (hc : Cx p s m args meth c E A own cc nL ret) (hA : Oka 30 ad A) {x v : Int32} (i : Nat) (hx : x = nI i) (hi : i < 200) (hd : decode cc pc = .ok (.iastore, 1)) (k : G p l e R s m args below meth c cells slots Q E A nL (mw E ad sc (va_up ar 6 (upd (ar 6) i v)) la) (pc + 1) lv (st)) : G p l e R s m args below meth c cells slots Q E A nL (mw E ad sc ar la) (pc) lv (.int v :: .int x :: .ref (ad 6) :: st) := g_iast hc (mw_D hA _ _ _) 6 1 rfl rfl i hx hi (by decide) rfl hd k
theorem la_m7 (hc : Cx p s m args meth c E A own cc nL ret) {x : Int32} (i : Nat) (hx : x = nI i) (hi : i < 200) (hd : decode cc pc = .ok (.iaload, 1)) (k : G p l e R s m args below meth c cells slots Q E A nL (mw E ad sc ar la) (pc + 1) lv (.int (ar 7 i) :: st)) : G p l e R s m args below meth c cells slots Q E A nL (mw E ad sc ar la) (pc) lv (.int x :: .ref (ad 7) :: st) := g_iald hc 7 1 rfl rfl i hx hi (by decide) hd k
theorem sa_m7 (hc : Cx p s m args meth c E A own cc nL ret) (hA : Oka 30 ad A) {x v : Int32} (i : Nat) (hx : x = nI i) (hi : i < 200) (hd : decode cc pc = .ok (.iastore, 1)) (k : G p l e R s m args below meth c cells slots Q E A nL (mw E ad sc (va_up ar 7 (upd (ar 7) i v)) la) (pc + 1) lv (st)) : G p l e R s m args below meth c cells slots Q E A nL (mw E ad sc ar la) (pc) lv (.int v :: .int x :: .ref (ad 7) :: st) := g_iast hc (mw_D hA _ _ _) 7 1 rfl rfl i hx hi (by decide) rfl hd k
theorem la_m8 (hc : Cx p s m args meth c E A own cc nL ret) {x : Int32} (i : Nat) (hx : x = nI i) (hi : i < 200) (hd : decode cc pc = .ok (.iaload, 1)) (k : G p l e R s m args below meth c cells slots Q E A nL (mw E ad sc ar la) (pc + 1) lv (.int (ar 8 i) :: st)) : G p l e R s m args below meth c cells slots Q E A nL (mw E ad sc ar la) (pc) lv (.int x :: .ref (ad 8) :: st) := g_iald hc 8 1 rfl rfl i hx hi (by decide) hd k
theorem sa_m8 (hc : Cx p s m args meth c E A own cc nL ret) (hA : Oka 30 ad A) {x v : Int32} (i : Nat) (hx : x = nI i) (hi : i < 200) (hd : decode cc pc = .ok (.iastore, 1)) (k : G p l e R s m args below meth c cells slots Q E A nL (mw E ad sc (va_up ar 8 (upd (ar 8) i v)) la) (pc + 1) lv (st)) : G p l e R s m args below meth c cells slots Q E A nL (mw E ad sc ar la) (pc) lv (.int v :: .int x :: .ref (ad 8) :: st) := g_iast hc (mw_D hA _ _ _) 8 1 rfl rfl i hx hi (by decide) rfl hd k
theorem la_m9 (hc : Cx p s m args meth c E A own cc nL ret) {x : Int32} (i : Nat) (hx : x = nI i) (hi : i < 64) (hd : decode cc pc = .ok (.baload, 1)) (k : G p l e R s m args below meth c cells slots Q E A nL (mw E ad sc ar la) (pc + 1) lv (.int (ar 9 i) :: st)) : G p l e R s m args below meth c cells slots Q E A nL (mw E ad sc ar la) (pc) lv (.int x :: .ref (ad 9) :: st) := g_zald hc 9 4 rfl rfl i hx hi (by decide) hd k
theorem sa_m9 (hc : Cx p s m args meth c E A own cc nL ret) (hA : Oka 30 ad A) {x v : Int32} (i : Nat) (hx : x = nI i) (hi : i < 64) (hd : decode cc pc = .ok (.bastore, 1)) (k : G p l e R s m args below meth c cells slots Q E A nL (mw E ad sc (va_up ar 9 (upd (ar 9) i (vp_nar .boolean v))) la) (pc + 1) lv (st)) : G p l e R s m args below meth c cells slots Q E A nL (mw E ad sc ar la) (pc) lv (.int v :: .int x :: .ref (ad 9) :: st) := g_zast hc (mw_D hA _ _ _) 9 4 rfl rfl i hx hi (by decide) rfl hd k
theorem la_m10 (hc : Cx p s m args meth c E A own cc nL ret) {x : Int32} (i : Nat) (hx : x = nI i) (hi : i < 12) (hd : decode cc pc = .ok (.iaload, 1)) (k : G p l e R s m args below meth c cells slots Q E A nL (mw E ad sc ar la) (pc + 1) lv (.int (ar 10 i) :: st)) : G p l e R s m args below meth c cells slots Q E A nL (mw E ad sc ar la) (pc) lv (.int x :: .ref (ad 10) :: st) := g_iald hc 10 1 rfl rfl i hx hi (by decide) hd k
theorem sa_m10 (hc : Cx p s m args meth c E A own cc nL ret) (hA : Oka 30 ad A) {x v : Int32} (i : Nat) (hx : x = nI i) (hi : i < 12) (hd : decode cc pc = .ok (.iastore, 1)) (k : G p l e R s m args below meth c cells slots Q E A nL (mw E ad sc (va_up ar 10 (upd (ar 10) i v)) la) (pc + 1) lv (st)) : G p l e R s m args below meth c cells slots Q E A nL (mw E ad sc ar la) (pc) lv (.int v :: .int x :: .ref (ad 10) :: st) := g_iast hc (mw_D hA _ _ _) 10 1 rfl rfl i hx hi (by decide) rfl hd k
theorem la_m11 (hc : Cx p s m args meth c E A own cc nL ret) {x : Int32} (i : Nat) (hx : x = nI i) (hi : i < 60) (hd : decode cc pc = .ok (.iaload, 1)) (k : G p l e R s m args below meth c cells slots Q E A nL (mw E ad sc ar la) (pc + 1) lv (.int (ar 11 i) :: st)) : G p l e R s m args below meth c cells slots Q E A nL (mw E ad sc ar la) (pc) lv (.int x :: .ref (ad 11) :: st) := g_iald hc 11 1 rfl rfl i hx hi (by decide) hd k
theorem sa_m11 (hc : Cx p s m args meth c E A own cc nL ret) (hA : Oka 30 ad A) {x v : Int32} (i : Nat) (hx : x = nI i) (hi : i < 60) (hd : decode cc pc = .ok (.iastore, 1)) (k : G p l e R s m args below meth c cells slots Q E A nL (mw E ad sc (va_up ar 11 (upd (ar 11) i v)) la) (pc + 1) lv (st)) : G p l e R s m args below meth c cells slots Q E A nL (mw E ad sc ar la) (pc) lv (.int v :: .int x :: .ref (ad 11) :: st) := g_iast hc (mw_D hA _ _ _) 11 1 rfl rfl i hx hi (by decide) rfl hd k
theorem la_m12 (hc : Cx p s m args meth c E A own cc nL ret) {x : Int32} (i : Nat) (hx : x = nI i) (hi : i < 12) (hd : decode cc pc = .ok (.iaload, 1)) (k : G p l e R s m args below meth c cells slots Q E A nL (mw E ad sc ar la) (pc + 1) lv (.int (ar 12 i) :: st)) : G p l e R s m args below meth c cells slots Q E A nL (mw E ad sc ar la) (pc) lv (.int x :: .ref (ad 12) :: st) := g_iald hc 12 1 rfl rfl i hx hi (by decide) hd k
theorem sa_m12 (hc : Cx p s m args meth c E A own cc nL ret) (hA : Oka 30 ad A) {x v : Int32} (i : Nat) (hx : x = nI i) (hi : i < 12) (hd : decode cc pc = .ok (.iastore, 1)) (k : G p l e R s m args below meth c cells slots Q E A nL (mw E ad sc (va_up ar 12 (upd (ar 12) i v)) la) (pc + 1) lv (st)) : G p l e R s m args below meth c cells slots Q E A nL (mw E ad sc ar la) (pc) lv (.int v :: .int x :: .ref (ad 12) :: st) := g_iast hc (mw_D hA _ _ _) 12 1 rfl rfl i hx hi (by decide) rfl hd k
theorem la_m13 (hc : Cx p s m args meth c E A own cc nL ret) {x : Int32} (i : Nat) (hx : x = nI i) (hi : i < 12) (hd : decode cc pc = .ok (.iaload, 1)) (k : G p l e R s m args below meth c cells slots Q E A nL (mw E ad sc ar la) (pc + 1) lv (.int (ar 13 i) :: st)) : G p l e R s m args below meth c cells slots Q E A nL (mw E ad sc ar la) (pc) lv (.int x :: .ref (ad 13) :: st) := g_iald hc 13 1 rfl rfl i hx hi (by decide) hd k
theorem sa_m13 (hc : Cx p s m args meth c E A own cc nL ret) (hA : Oka 30 ad A) {x v : Int32} (i : Nat) (hx : x = nI i) (hi : i < 12) (hd : decode cc pc = .ok (.iastore, 1)) (k : G p l e R s m args below meth c cells slots Q E A nL (mw E ad sc (va_up ar 13 (upd (ar 13) i v)) la) (pc + 1) lv (st)) : G p l e R s m args below meth c cells slots Q E A nL (mw E ad sc ar la) (pc) lv (.int v :: .int x :: .ref (ad 13) :: st) := g_iast hc (mw_D hA _ _ _) 13 1 rfl rfl i hx hi (by decide) rfl hd k
theorem la_m14 (hc : Cx p s m args meth c E A own cc nL ret) {x : Int32} (i : Nat) (hx : x = nI i) (hi : i < 12) (hd : decode cc pc = .ok (.iaload, 1)) (k : G p l e R s m args below meth c cells slots Q E A nL (mw E ad sc ar la) (pc + 1) lv (.int (ar 14 i) :: st)) : G p l e R s m args below meth c cells slots Q E A nL (mw E ad sc ar la) (pc) lv (.int x :: .ref (ad 14) :: st) := g_iald hc 14 1 rfl rfl i hx hi (by decide) hd k
theorem sa_m14 (hc : Cx p s m args meth c E A own cc nL ret) (hA : Oka 30 ad A) {x v : Int32} (i : Nat) (hx : x = nI i) (hi : i < 12) (hd : decode cc pc = .ok (.iastore, 1)) (k : G p l e R s m args below meth c cells slots Q E A nL (mw E ad sc (va_up ar 14 (upd (ar 14) i v)) la) (pc + 1) lv (st)) : G p l e R s m args below meth c cells slots Q E A nL (mw E ad sc ar la) (pc) lv (.int v :: .int x :: .ref (ad 14) :: st) := g_iast hc (mw_D hA _ _ _) 14 1 rfl rfl i hx hi (by decide) rfl hd k
theorem la_m15 (hc : Cx p s m args meth c E A own cc nL ret) {x : Int32} (i : Nat) (hx : x = nI i) (hi : i < 12) (hd : decode cc pc = .ok (.iaload, 1)) (k : G p l e R s m args below meth c cells slots Q E A nL (mw E ad sc ar la) (pc + 1) lv (.int (ar 15 i) :: st)) : G p l e R s m args below meth c cells slots Q E A nL (mw E ad sc ar la) (pc) lv (.int x :: .ref (ad 15) :: st) := g_iald hc 15 1 rfl rfl i hx hi (by decide) hd k
theorem sa_m15 (hc : Cx p s m args meth c E A own cc nL ret) (hA : Oka 30 ad A) {x v : Int32} (i : Nat) (hx : x = nI i) (hi : i < 12) (hd : decode cc pc = .ok (.iastore, 1)) (k : G p l e R s m args below meth c cells slots Q E A nL (mw E ad sc (va_up ar 15 (upd (ar 15) i v)) la) (pc + 1) lv (st)) : G p l e R s m args below meth c cells slots Q E A nL (mw E ad sc ar la) (pc) lv (.int v :: .int x :: .ref (ad 15) :: st) := g_iast hc (mw_D hA _ _ _) 15 1 rfl rfl i hx hi (by decide) rfl hd k
theorem la_m16 (hc : Cx p s m args meth c E A own cc nL ret) {x : Int32} (i : Nat) (hx : x = nI i) (hi : i < 12) (hd : decode cc pc = .ok (.iaload, 1)) (k : G p l e R s m args below meth c cells slots Q E A nL (mw E ad sc ar la) (pc + 1) lv (.int (ar 16 i) :: st)) : G p l e R s m args below meth c cells slots Q E A nL (mw E ad sc ar la) (pc) lv (.int x :: .ref (ad 16) :: st) := g_iald hc 16 1 rfl rfl i hx hi (by decide) hd k
theorem sa_m16 (hc : Cx p s m args meth c E A own cc nL ret) (hA : Oka 30 ad A) {x v : Int32} (i : Nat) (hx : x = nI i) (hi : i < 12) (hd : decode cc pc = .ok (.iastore, 1)) (k : G p l e R s m args below meth c cells slots Q E A nL (mw E ad sc (va_up ar 16 (upd (ar 16) i v)) la) (pc + 1) lv (st)) : G p l e R s m args below meth c cells slots Q E A nL (mw E ad sc ar la) (pc) lv (.int v :: .int x :: .ref (ad 16) :: st) := g_iast hc (mw_D hA _ _ _) 16 1 rfl rfl i hx hi (by decide) rfl hd k
theorem la_m17 (hc : Cx p s m args meth c E A own cc nL ret) {x : Int32} (i : Nat) (hx : x = nI i) (hi : i < 12) (hd : decode cc pc = .ok (.baload, 1)) (k : G p l e R s m args below meth c cells slots Q E A nL (mw E ad sc ar la) (pc + 1) lv (.int (ar 17 i) :: st)) : G p l e R s m args below meth c cells slots Q E A nL (mw E ad sc ar la) (pc) lv (.int x :: .ref (ad 17) :: st) := g_zald hc 17 4 rfl rfl i hx hi (by decide) hd k
theorem sa_m17 (hc : Cx p s m args meth c E A own cc nL ret) (hA : Oka 30 ad A) {x v : Int32} (i : Nat) (hx : x = nI i) (hi : i < 12) (hd : decode cc pc = .ok (.bastore, 1)) (k : G p l e R s m args below meth c cells slots Q E A nL (mw E ad sc (va_up ar 17 (upd (ar 17) i (vp_nar .boolean v))) la) (pc + 1) lv (st)) : G p l e R s m args below meth c cells slots Q E A nL (mw E ad sc ar la) (pc) lv (.int v :: .int x :: .ref (ad 17) :: st) := g_zast hc (mw_D hA _ _ _) 17 4 rfl rfl i hx hi (by decide) rfl hd k
theorem la_m18 (hc : Cx p s m args meth c E A own cc nL ret) {x : Int32} (i : Nat) (hx : x = nI i) (hi : i < 2) (hd : decode cc pc = .ok (.iaload, 1)) (k : G p l e R s m args below meth c cells slots Q E A nL (mw E ad sc ar la) (pc + 1) lv (.int (ar 18 i) :: st)) : G p l e R s m args below meth c cells slots Q E A nL (mw E ad sc ar la) (pc) lv (.int x :: .ref (ad 18) :: st) := g_iald hc 18 1 rfl rfl i hx hi (by decide) hd k
theorem sa_m18 (hc : Cx p s m args meth c E A own cc nL ret) (hA : Oka 30 ad A) {x v : Int32} (i : Nat) (hx : x = nI i) (hi : i < 2) (hd : decode cc pc = .ok (.iastore, 1)) (k : G p l e R s m args below meth c cells slots Q E A nL (mw E ad sc (va_up ar 18 (upd (ar 18) i v)) la) (pc + 1) lv (st)) : G p l e R s m args below meth c cells slots Q E A nL (mw E ad sc ar la) (pc) lv (.int v :: .int x :: .ref (ad 18) :: st) := g_iast hc (mw_D hA _ _ _) 18 1 rfl rfl i hx hi (by decide) rfl hd k
theorem la_m19 (hc : Cx p s m args meth c E A own cc nL ret) {x : Int32} (i : Nat) (hx : x = nI i) (hi : i < 128) (hd : decode cc pc = .ok (.iaload, 1)) (k : G p l e R s m args below meth c cells slots Q E A nL (mw E ad sc ar la) (pc + 1) lv (.int (ar 19 i) :: st)) : G p l e R s m args below meth c cells slots Q E A nL (mw E ad sc ar la) (pc) lv (.int x :: .ref (ad 19) :: st) := g_iald hc 19 1 rfl rfl i hx hi (by decide) hd k
theorem sa_m19 (hc : Cx p s m args meth c E A own cc nL ret) (hA : Oka 30 ad A) {x v : Int32} (i : Nat) (hx : x = nI i) (hi : i < 128) (hd : decode cc pc = .ok (.iastore, 1)) (k : G p l e R s m args below meth c cells slots Q E A nL (mw E ad sc (va_up ar 19 (upd (ar 19) i v)) la) (pc + 1) lv (st)) : G p l e R s m args below meth c cells slots Q E A nL (mw E ad sc ar la) (pc) lv (.int v :: .int x :: .ref (ad 19) :: st) := g_iast hc (mw_D hA _ _ _) 19 1 rfl rfl i hx hi (by decide) rfl hd k
theorem la_m20 (hc : Cx p s m args meth c E A own cc nL ret) {x : Int32} (i : Nat) (hx : x = nI i) (hi : i < 60) (hd : decode cc pc = .ok (.iaload, 1)) (k : G p l e R s m args below meth c cells slots Q E A nL (mw E ad sc ar la) (pc + 1) lv (.int (ar 20 i) :: st)) : G p l e R s m args below meth c cells slots Q E A nL (mw E ad sc ar la) (pc) lv (.int x :: .ref (ad 20) :: st) := g_iald hc 20 1 rfl rfl i hx hi (by decide) hd k
theorem sa_m20 (hc : Cx p s m args meth c E A own cc nL ret) (hA : Oka 30 ad A) {x v : Int32} (i : Nat) (hx : x = nI i) (hi : i < 60) (hd : decode cc pc = .ok (.iastore, 1)) (k : G p l e R s m args below meth c cells slots Q E A nL (mw E ad sc (va_up ar 20 (upd (ar 20) i v)) la) (pc + 1) lv (st)) : G p l e R s m args below meth c cells slots Q E A nL (mw E ad sc ar la) (pc) lv (.int v :: .int x :: .ref (ad 20) :: st) := g_iast hc (mw_D hA _ _ _) 20 1 rfl rfl i hx hi (by decide) rfl hd k
theorem la_m21 (hc : Cx p s m args meth c E A own cc nL ret) {x : Int32} (i : Nat) (hx : x = nI i) (hi : i < 5) (hd : decode cc pc = .ok (.iaload, 1)) (k : G p l e R s m args below meth c cells slots Q E A nL (mw E ad sc ar la) (pc + 1) lv (.int (ar 21 i) :: st)) : G p l e R s m args below meth c cells slots Q E A nL (mw E ad sc ar la) (pc) lv (.int x :: .ref (ad 21) :: st) := g_iald hc 21 1 rfl rfl i hx hi (by decide) hd k
theorem sa_m21 (hc : Cx p s m args meth c E A own cc nL ret) (hA : Oka 30 ad A) {x v : Int32} (i : Nat) (hx : x = nI i) (hi : i < 5) (hd : decode cc pc = .ok (.iastore, 1)) (k : G p l e R s m args below meth c cells slots Q E A nL (mw E ad sc (va_up ar 21 (upd (ar 21) i v)) la) (pc + 1) lv (st)) : G p l e R s m args below meth c cells slots Q E A nL (mw E ad sc ar la) (pc) lv (.int v :: .int x :: .ref (ad 21) :: st) := g_iast hc (mw_D hA _ _ _) 21 1 rfl rfl i hx hi (by decide) rfl hd k
theorem la_m22 (hc : Cx p s m args meth c E A own cc nL ret) {x : Int32} (i : Nat) (hx : x = nI i) (hi : i < 8) (hd : decode cc pc = .ok (.iaload, 1)) (k : G p l e R s m args below meth c cells slots Q E A nL (mw E ad sc ar la) (pc + 1) lv (.int (ar 22 i) :: st)) : G p l e R s m args below meth c cells slots Q E A nL (mw E ad sc ar la) (pc) lv (.int x :: .ref (ad 22) :: st) := g_iald hc 22 1 rfl rfl i hx hi (by decide) hd k
theorem sa_m22 (hc : Cx p s m args meth c E A own cc nL ret) (hA : Oka 30 ad A) {x v : Int32} (i : Nat) (hx : x = nI i) (hi : i < 8) (hd : decode cc pc = .ok (.iastore, 1)) (k : G p l e R s m args below meth c cells slots Q E A nL (mw E ad sc (va_up ar 22 (upd (ar 22) i v)) la) (pc + 1) lv (st)) : G p l e R s m args below meth c cells slots Q E A nL (mw E ad sc ar la) (pc) lv (.int v :: .int x :: .ref (ad 22) :: st) := g_iast hc (mw_D hA _ _ _) 22 1 rfl rfl i hx hi (by decide) rfl hd k
theorem la_m23 (hc : Cx p s m args meth c E A own cc nL ret) {x : Int32} (i : Nat) (hx : x = nI i) (hi : i < 64) (hd : decode cc pc = .ok (.iaload, 1)) (k : G p l e R s m args below meth c cells slots Q E A nL (mw E ad sc ar la) (pc + 1) lv (.int (ar 23 i) :: st)) : G p l e R s m args below meth c cells slots Q E A nL (mw E ad sc ar la) (pc) lv (.int x :: .ref (ad 23) :: st) := g_iald hc 23 1 rfl rfl i hx hi (by decide) hd k
theorem sa_m23 (hc : Cx p s m args meth c E A own cc nL ret) (hA : Oka 30 ad A) {x v : Int32} (i : Nat) (hx : x = nI i) (hi : i < 64) (hd : decode cc pc = .ok (.iastore, 1)) (k : G p l e R s m args below meth c cells slots Q E A nL (mw E ad sc (va_up ar 23 (upd (ar 23) i v)) la) (pc + 1) lv (st)) : G p l e R s m args below meth c cells slots Q E A nL (mw E ad sc ar la) (pc) lv (.int v :: .int x :: .ref (ad 23) :: st) := g_iast hc (mw_D hA _ _ _) 23 1 rfl rfl i hx hi (by decide) rfl hd k
theorem la_m24 (hc : Cx p s m args meth c E A own cc nL ret) {x : Int32} (i : Nat) (hx : x = nI i) (hi : i < 64) (hd : decode cc pc = .ok (.iaload, 1)) (k : G p l e R s m args below meth c cells slots Q E A nL (mw E ad sc ar la) (pc + 1) lv (.int (ar 24 i) :: st)) : G p l e R s m args below meth c cells slots Q E A nL (mw E ad sc ar la) (pc) lv (.int x :: .ref (ad 24) :: st) := g_iald hc 24 1 rfl rfl i hx hi (by decide) hd k
theorem sa_m24 (hc : Cx p s m args meth c E A own cc nL ret) (hA : Oka 30 ad A) {x v : Int32} (i : Nat) (hx : x = nI i) (hi : i < 64) (hd : decode cc pc = .ok (.iastore, 1)) (k : G p l e R s m args below meth c cells slots Q E A nL (mw E ad sc (va_up ar 24 (upd (ar 24) i v)) la) (pc + 1) lv (st)) : G p l e R s m args below meth c cells slots Q E A nL (mw E ad sc ar la) (pc) lv (.int v :: .int x :: .ref (ad 24) :: st) := g_iast hc (mw_D hA _ _ _) 24 1 rfl rfl i hx hi (by decide) rfl hd k
theorem la_m25 (hc : Cx p s m args meth c E A own cc nL ret) {x : Int32} (i : Nat) (hx : x = nI i) (hi : i < 64) (hd : decode cc pc = .ok (.iaload, 1)) (k : G p l e R s m args below meth c cells slots Q E A nL (mw E ad sc ar la) (pc + 1) lv (.int (ar 25 i) :: st)) : G p l e R s m args below meth c cells slots Q E A nL (mw E ad sc ar la) (pc) lv (.int x :: .ref (ad 25) :: st) := g_iald hc 25 1 rfl rfl i hx hi (by decide) hd k
theorem sa_m25 (hc : Cx p s m args meth c E A own cc nL ret) (hA : Oka 30 ad A) {x v : Int32} (i : Nat) (hx : x = nI i) (hi : i < 64) (hd : decode cc pc = .ok (.iastore, 1)) (k : G p l e R s m args below meth c cells slots Q E A nL (mw E ad sc (va_up ar 25 (upd (ar 25) i v)) la) (pc + 1) lv (st)) : G p l e R s m args below meth c cells slots Q E A nL (mw E ad sc ar la) (pc) lv (.int v :: .int x :: .ref (ad 25) :: st) := g_iast hc (mw_D hA _ _ _) 25 1 rfl rfl i hx hi (by decide) rfl hd k
theorem la_m26 (hc : Cx p s m args meth c E A own cc nL ret) {x : Int32} (i : Nat) (hx : x = nI i) (hi : i < 64) (hd : decode cc pc = .ok (.iaload, 1)) (k : G p l e R s m args below meth c cells slots Q E A nL (mw E ad sc ar la) (pc + 1) lv (.int (ar 26 i) :: st)) : G p l e R s m args below meth c cells slots Q E A nL (mw E ad sc ar la) (pc) lv (.int x :: .ref (ad 26) :: st) := g_iald hc 26 1 rfl rfl i hx hi (by decide) hd k
theorem sa_m26 (hc : Cx p s m args meth c E A own cc nL ret) (hA : Oka 30 ad A) {x v : Int32} (i : Nat) (hx : x = nI i) (hi : i < 64) (hd : decode cc pc = .ok (.iastore, 1)) (k : G p l e R s m args below meth c cells slots Q E A nL (mw E ad sc (va_up ar 26 (upd (ar 26) i v)) la) (pc + 1) lv (st)) : G p l e R s m args below meth c cells slots Q E A nL (mw E ad sc ar la) (pc) lv (.int v :: .int x :: .ref (ad 26) :: st) := g_iast hc (mw_D hA _ _ _) 26 1 rfl rfl i hx hi (by decide) rfl hd k
theorem la_m27 (hc : Cx p s m args meth c E A own cc nL ret) {x : Int32} (i : Nat) (hx : x = nI i) (hi : i < 4) (hd : decode cc pc = .ok (.laload, 1)) (k : G p l e R s m args below meth c cells slots Q E A nL (mw E ad sc ar la) (pc + 1) lv (.long (la i) :: st)) : G p l e R s m args below meth c cells slots Q E A nL (mw E ad sc ar la) (pc) lv (.int x :: .ref (ad 27) :: st) := g_lald hc 27 2 rfl rfl i hx hi (by decide) hd k
theorem sa_m27 (hc : Cx p s m args meth c E A own cc nL ret) (hA : Oka 30 ad A) {x : Int32} {v : Int64} (i : Nat) (hx : x = nI i) (hi : i < 4) (hd : decode cc pc = .ok (.lastore, 1)) (k : G p l e R s m args below meth c cells slots Q E A nL (mw E ad sc ar (vp_updL la i v)) (pc + 1) lv (st)) : G p l e R s m args below meth c cells slots Q E A nL (mw E ad sc ar la) (pc) lv (.long v :: .int x :: .ref (ad 27) :: st) := g_last hc (mw_D hA _ _ _) 27 2 rfl rfl i hx hi (by decide) rfl hd k
theorem la_m28 (hc : Cx p s m args meth c E A own cc nL ret) {x : Int32} (i : Nat) (hx : x = nI i) (hi : i < 5) (hd : decode cc pc = .ok (.iaload, 1)) (k : G p l e R s m args below meth c cells slots Q E A nL (mw E ad sc ar la) (pc + 1) lv (.int (ar 28 i) :: st)) : G p l e R s m args below meth c cells slots Q E A nL (mw E ad sc ar la) (pc) lv (.int x :: .ref (ad 28) :: st) := g_iald hc 28 1 rfl rfl i hx hi (by decide) hd k
theorem sa_m28 (hc : Cx p s m args meth c E A own cc nL ret) (hA : Oka 30 ad A) {x v : Int32} (i : Nat) (hx : x = nI i) (hi : i < 5) (hd : decode cc pc = .ok (.iastore, 1)) (k : G p l e R s m args below meth c cells slots Q E A nL (mw E ad sc (va_up ar 28 (upd (ar 28) i v)) la) (pc + 1) lv (st)) : G p l e R s m args below meth c cells slots Q E A nL (mw E ad sc ar la) (pc) lv (.int v :: .int x :: .ref (ad 28) :: st) := g_iast hc (mw_D hA _ _ _) 28 1 rfl rfl i hx hi (by decide) rfl hd k
theorem la_m29 (hc : Cx p s m args meth c E A own cc nL ret) {x : Int32} (i : Nat) (hx : x = nI i) (hi : i < 64) (hd : decode cc pc = .ok (.iaload, 1)) (k : G p l e R s m args below meth c cells slots Q E A nL (mw E ad sc ar la) (pc + 1) lv (.int (ar 29 i) :: st)) : G p l e R s m args below meth c cells slots Q E A nL (mw E ad sc ar la) (pc) lv (.int x :: .ref (ad 29) :: st) := g_iald hc 29 1 rfl rfl i hx hi (by decide) hd k
theorem sa_m29 (hc : Cx p s m args meth c E A own cc nL ret) (hA : Oka 30 ad A) {x v : Int32} (i : Nat) (hx : x = nI i) (hi : i < 64) (hd : decode cc pc = .ok (.iastore, 1)) (k : G p l e R s m args below meth c cells slots Q E A nL (mw E ad sc (va_up ar 29 (upd (ar 29) i v)) la) (pc + 1) lv (st)) : G p l e R s m args below meth c cells slots Q E A nL (mw E ad sc ar la) (pc) lv (.int v :: .int x :: .ref (ad 29) :: st) := g_iast hc (mw_D hA _ _ _) 29 1 rfl rfl i hx hi (by decide) rfl hd k
end WR
end
section
section GC2
variable {p : Program} {l : Launch} {e : Env} {R : Room} {s : State} {m : MethodId} {args : Array Value} {below : List Frame} {meth : Method} {c : Code} {cells slots : Nat} {Q : State → Prop}
variable {E : Ev} {A : Nat → Prop} {nL : Nat} {ws ws' : va_W} {pc : Nat} {lv lv' : List (Nat × Value)} {st : List Value} {own : String} {cc : ByteArray} {ret : Option FieldType}
variable {y : MethodName} {bytes : ByteArray} {maxL n index : Nat} {ret' : Option FieldType} {rm : Room} {As av rest : List Value} {v : Option Value} {b : Nat} {C : String} {st0 : List Value} {ci : Nat} {fs : List Value} {T : u_T} {N : Nat} {host : String}
theorem g_callVi {r : Int32} (hc : Cx p s m args meth c E A own cc nL ret) (hM : Ct l E y (.code y bytes maxL ret') rm A ws (.ref b :: As) (some (.int r)) ws') (hi : MiV y bytes maxL ret' n) (hl : Cond.methodLink own index y ∈ gtb) (q0 : Nat) (he : ws[q0]? = some (b, .inr (ci, fs))) (hcl : vwCl[ci]? = some (C, T, N)) (hC : y.cls = C) (hn : As.length = n) (hR : rm.cells = 0 ∧ rm.slots = 0 ∧ rm.frames + 1 ≤ R.frames ∧ 8 + (maxL + 11) + rm.locals ≤ R.locals) (hW : (rest.map fun v => v.category).sum ≤ 8) (hcs : cells ≤ R.cells ∧ slots ≤ R.slots) (hst : st0 = As.reverse ++ .ref b :: rest) (hd : decode cc pc = .ok (.invokevirtual index, 3)) (k : G p l e R s m args below meth c cells slots Q E A nL ws' (pc + 3) lv (.int r :: rest)) : G p l e R s m args below meth c cells slots Q E A nL ws (pc) lv (st0) := g_callV hc hM hi hl q0 he hcl hC hn hR hW hcs hst hd k
theorem g_callSi {r : Int32} (hc : Cx p s m args meth c E A own cc nL ret) (hM : Ct l E y (.code y bytes maxL ret') rm A ws As (some (.int r)) ws') (hi : MiS y bytes maxL ret' n) (hl : Cond.methodLink own index y ∈ gtb) (hn : As.length = n) (hR : rm.cells = 0 ∧ rm.slots = 0 ∧ rm.frames + 1 ≤ R.frames ∧ 8 + (maxL + 11) + rm.locals ≤ R.locals) (hW : (rest.map fun v => v.category).sum ≤ 8) (hcs : cells ≤ R.cells ∧ slots ≤ R.slots) (hst : st0 = As.reverse ++ rest) (hd : decode cc pc = .ok (.invokestatic index, 3)) (k : G p l e R s m args below meth c cells slots Q E A nL ws' (pc + 3) lv (.int r :: rest)) : G p l e R s m args below meth c cells slots Q E A nL ws (pc) lv (st0) := g_callS hc hM hi hl hn hR hW hcs hst hd k
theorem g_callSNi {r : Int32} (hc : Cx p s m args meth c E A own cc nL ret) (hM : Ct l E y (.code y bytes maxL ret') rm A ws As (some (.int r)) ws') (hi : MiS y bytes maxL ret' n) (hl : (own, index, y, host) ∈ nst) (hn : As.length = n) (hR : rm.cells = 0 ∧ rm.slots = 0 ∧ rm.frames + 1 ≤ R.frames ∧ 8 + (maxL + 11) + rm.locals ≤ R.locals) (hW : (rest.map fun v => v.category).sum ≤ 8) (hcs : cells ≤ R.cells ∧ slots ≤ R.slots) (hst : st0 = As.reverse ++ rest) (hd : decode cc pc = .ok (.invokestatic index, 3)) (k : G p l e R s m args below meth c cells slots Q E A nL ws' (pc + 3) lv (.int r :: rest)) : G p l e R s m args below meth c cells slots Q E A nL ws (pc) lv (st0) := g_callSN hc hM hi hl hn hR hW hcs hst hd k
theorem g_callVl {r : Int64} (hc : Cx p s m args meth c E A own cc nL ret) (hM : Ct l E y (.code y bytes maxL ret') rm A ws (.ref b :: As) (some (.long r)) ws') (hi : MiV y bytes maxL ret' n) (hl : Cond.methodLink own index y ∈ gtb) (q0 : Nat) (he : ws[q0]? = some (b, .inr (ci, fs))) (hcl : vwCl[ci]? = some (C, T, N)) (hC : y.cls = C) (hn : As.length = n) (hR : rm.cells = 0 ∧ rm.slots = 0 ∧ rm.frames + 1 ≤ R.frames ∧ 8 + (maxL + 11) + rm.locals ≤ R.locals) (hW : (rest.map fun v => v.category).sum ≤ 8) (hcs : cells ≤ R.cells ∧ slots ≤ R.slots) (hst : st0 = As.reverse ++ .ref b :: rest) (hd : decode cc pc = .ok (.invokevirtual index, 3)) (k : G p l e R s m args below meth c cells slots Q E A nL ws' (pc + 3) lv (.long r :: rest)) : G p l e R s m args below meth c cells slots Q E A nL ws (pc) lv (st0) := g_callV hc hM hi hl q0 he hcl hC hn hR hW hcs hst hd k
theorem g_callSl {r : Int64} (hc : Cx p s m args meth c E A own cc nL ret) (hM : Ct l E y (.code y bytes maxL ret') rm A ws As (some (.long r)) ws') (hi : MiS y bytes maxL ret' n) (hl : Cond.methodLink own index y ∈ gtb) (hn : As.length = n) (hR : rm.cells = 0 ∧ rm.slots = 0 ∧ rm.frames + 1 ≤ R.frames ∧ 8 + (maxL + 11) + rm.locals ≤ R.locals) (hW : (rest.map fun v => v.category).sum ≤ 8) (hcs : cells ≤ R.cells ∧ slots ≤ R.slots) (hst : st0 = As.reverse ++ rest) (hd : decode cc pc = .ok (.invokestatic index, 3)) (k : G p l e R s m args below meth c cells slots Q E A nL ws' (pc + 3) lv (.long r :: rest)) : G p l e R s m args below meth c cells slots Q E A nL ws (pc) lv (st0) := g_callS hc hM hi hl hn hR hW hcs hst hd k
theorem g_callSNl {r : Int64} (hc : Cx p s m args meth c E A own cc nL ret) (hM : Ct l E y (.code y bytes maxL ret') rm A ws As (some (.long r)) ws') (hi : MiS y bytes maxL ret' n) (hl : (own, index, y, host) ∈ nst) (hn : As.length = n) (hR : rm.cells = 0 ∧ rm.slots = 0 ∧ rm.frames + 1 ≤ R.frames ∧ 8 + (maxL + 11) + rm.locals ≤ R.locals) (hW : (rest.map fun v => v.category).sum ≤ 8) (hcs : cells ≤ R.cells ∧ slots ≤ R.slots) (hst : st0 = As.reverse ++ rest) (hd : decode cc pc = .ok (.invokestatic index, 3)) (k : G p l e R s m args below meth c cells slots Q E A nL ws' (pc + 3) lv (.long r :: rest)) : G p l e R s m args below meth c cells slots Q E A nL ws (pc) lv (st0) := g_callSN hc hM hi hl hn hR hW hcs hst hd k
theorem g_callVv  (hc : Cx p s m args meth c E A own cc nL ret) (hM : Ct l E y (.code y bytes maxL ret') rm A ws (.ref b :: As) (none) ws') (hi : MiV y bytes maxL ret' n) (hl : Cond.methodLink own index y ∈ gtb) (q0 : Nat) (he : ws[q0]? = some (b, .inr (ci, fs))) (hcl : vwCl[ci]? = some (C, T, N)) (hC : y.cls = C) (hn : As.length = n) (hR : rm.cells = 0 ∧ rm.slots = 0 ∧ rm.frames + 1 ≤ R.frames ∧ 8 + (maxL + 11) + rm.locals ≤ R.locals) (hW : (rest.map fun v => v.category).sum ≤ 8) (hcs : cells ≤ R.cells ∧ slots ≤ R.slots) (hst : st0 = As.reverse ++ .ref b :: rest) (hd : decode cc pc = .ok (.invokevirtual index, 3)) (k : G p l e R s m args below meth c cells slots Q E A nL ws' (pc + 3) lv (rest)) : G p l e R s m args below meth c cells slots Q E A nL ws (pc) lv (st0) := g_callV hc hM hi hl q0 he hcl hC hn hR hW hcs hst hd k
theorem g_callSv  (hc : Cx p s m args meth c E A own cc nL ret) (hM : Ct l E y (.code y bytes maxL ret') rm A ws As (none) ws') (hi : MiS y bytes maxL ret' n) (hl : Cond.methodLink own index y ∈ gtb) (hn : As.length = n) (hR : rm.cells = 0 ∧ rm.slots = 0 ∧ rm.frames + 1 ≤ R.frames ∧ 8 + (maxL + 11) + rm.locals ≤ R.locals) (hW : (rest.map fun v => v.category).sum ≤ 8) (hcs : cells ≤ R.cells ∧ slots ≤ R.slots) (hst : st0 = As.reverse ++ rest) (hd : decode cc pc = .ok (.invokestatic index, 3)) (k : G p l e R s m args below meth c cells slots Q E A nL ws' (pc + 3) lv (rest)) : G p l e R s m args below meth c cells slots Q E A nL ws (pc) lv (st0) := g_callS hc hM hi hl hn hR hW hcs hst hd k
theorem g_callSNv  (hc : Cx p s m args meth c E A own cc nL ret) (hM : Ct l E y (.code y bytes maxL ret') rm A ws As (none) ws') (hi : MiS y bytes maxL ret' n) (hl : (own, index, y, host) ∈ nst) (hn : As.length = n) (hR : rm.cells = 0 ∧ rm.slots = 0 ∧ rm.frames + 1 ≤ R.frames ∧ 8 + (maxL + 11) + rm.locals ≤ R.locals) (hW : (rest.map fun v => v.category).sum ≤ 8) (hcs : cells ≤ R.cells ∧ slots ≤ R.slots) (hst : st0 = As.reverse ++ rest) (hd : decode cc pc = .ok (.invokestatic index, 3)) (k : G p l e R s m args below meth c cells slots Q E A nL ws' (pc + 3) lv (rest)) : G p l e R s m args below meth c cells slots Q E A nL ws (pc) lv (st0) := g_callSN hc hM hi hl hn hR hW hcs hst hd k
theorem g_callVa {r : Nat} (hc : Cx p s m args meth c E A own cc nL ret) (hM : Ct l E y (.code y bytes maxL ret') rm A ws (.ref b :: As) (some (.ref r)) ws') (hi : MiV y bytes maxL ret' n) (hl : Cond.methodLink own index y ∈ gtb) (q0 : Nat) (he : ws[q0]? = some (b, .inr (ci, fs))) (hcl : vwCl[ci]? = some (C, T, N)) (hC : y.cls = C) (hn : As.length = n) (hR : rm.cells = 0 ∧ rm.slots = 0 ∧ rm.frames + 1 ≤ R.frames ∧ 8 + (maxL + 11) + rm.locals ≤ R.locals) (hW : (rest.map fun v => v.category).sum ≤ 8) (hcs : cells ≤ R.cells ∧ slots ≤ R.slots) (hst : st0 = As.reverse ++ .ref b :: rest) (hd : decode cc pc = .ok (.invokevirtual index, 3)) (k : G p l e R s m args below meth c cells slots Q E A nL ws' (pc + 3) lv (.ref r :: rest)) : G p l e R s m args below meth c cells slots Q E A nL ws (pc) lv (st0) := g_callV hc hM hi hl q0 he hcl hC hn hR hW hcs hst hd k
theorem g_callSa {r : Nat} (hc : Cx p s m args meth c E A own cc nL ret) (hM : Ct l E y (.code y bytes maxL ret') rm A ws As (some (.ref r)) ws') (hi : MiS y bytes maxL ret' n) (hl : Cond.methodLink own index y ∈ gtb) (hn : As.length = n) (hR : rm.cells = 0 ∧ rm.slots = 0 ∧ rm.frames + 1 ≤ R.frames ∧ 8 + (maxL + 11) + rm.locals ≤ R.locals) (hW : (rest.map fun v => v.category).sum ≤ 8) (hcs : cells ≤ R.cells ∧ slots ≤ R.slots) (hst : st0 = As.reverse ++ rest) (hd : decode cc pc = .ok (.invokestatic index, 3)) (k : G p l e R s m args below meth c cells slots Q E A nL ws' (pc + 3) lv (.ref r :: rest)) : G p l e R s m args below meth c cells slots Q E A nL ws (pc) lv (st0) := g_callS hc hM hi hl hn hR hW hcs hst hd k
theorem g_callSNa {r : Nat} (hc : Cx p s m args meth c E A own cc nL ret) (hM : Ct l E y (.code y bytes maxL ret') rm A ws As (some (.ref r)) ws') (hi : MiS y bytes maxL ret' n) (hl : (own, index, y, host) ∈ nst) (hn : As.length = n) (hR : rm.cells = 0 ∧ rm.slots = 0 ∧ rm.frames + 1 ≤ R.frames ∧ 8 + (maxL + 11) + rm.locals ≤ R.locals) (hW : (rest.map fun v => v.category).sum ≤ 8) (hcs : cells ≤ R.cells ∧ slots ≤ R.slots) (hst : st0 = As.reverse ++ rest) (hd : decode cc pc = .ok (.invokestatic index, 3)) (k : G p l e R s m args below meth c cells slots Q E A nL ws' (pc + 3) lv (.ref r :: rest)) : G p l e R s m args below meth c cells slots Q E A nL ws (pc) lv (st0) := g_callSN hc hM hi hl hn hR hW hcs hst hd k
theorem g_topi {x v : Int32} (h : x = v) (k : G p l e R s m args below meth c cells slots Q E A nL ws (pc) lv (.int v :: st)) : G p l e R s m args below meth c cells slots Q E A nL ws (pc) lv (.int x :: st) := by subst h; exact k
theorem g_topl {x v : Int64} (h : x = v) (k : G p l e R s m args below meth c cells slots Q E A nL ws (pc) lv (.long v :: st)) : G p l e R s m args below meth c cells slots Q E A nL ws (pc) lv (.long x :: st) := by subst h; exact k
theorem g_topa {x v : Nat} (h : x = v) (k : G p l e R s m args below meth c cells slots Q E A nL ws (pc) lv (.ref v :: st)) : G p l e R s m args below meth c cells slots Q E A nL ws (pc) lv (.ref x :: st) := by subst h; exact k
/-- a boolean as the machine has it -/
def bI (b : Bool) : Int32 := if b then 1 else 0
theorem bI_0 {b : Bool} : bI b = 0 ↔ b = false := by cases b <;> decide
theorem bI_t : bI true = 1 := rfl
theorem bI_f : bI false = 0 := rfl
theorem bI_nar (b : Bool) : narrow .boolean (.int (bI b)) = .int (bI b) := by cases b <;> decide
theorem g_if_eq_b (hc : Cx p s m args meth c E A own cc nL ret) {b : Bool} {off : Int} (tgt : Nat) (hd : decode cc pc = .ok (.ifCond .eq off, 3)) (ht : (pc : Int) + off = (tgt : Int)) (kt : b = false → G p l e R s m args below meth c cells slots Q E A nL ws (tgt) lv (st)) (kf : b = true → G p l e R s m args below meth c cells slots Q E A nL ws (pc + 3) lv (st)) : G p l e R s m args below meth c cells slots Q E A nL ws (pc) lv (.int (bI b) :: st) := by
  refine g_if_eq hc tgt hd ht (fun z => kt ?_) (fun z => kf ?_)
  all_goals (cases b <;> first | rfl | (exact absurd rfl z) | (exact absurd z (by decide)))
theorem g_if_ne_b (hc : Cx p s m args meth c E A own cc nL ret) {b : Bool} {off : Int} (tgt : Nat) (hd : decode cc pc = .ok (.ifCond .ne off, 3)) (ht : (pc : Int) + off = (tgt : Int)) (kt : b = true → G p l e R s m args below meth c cells slots Q E A nL ws (tgt) lv (st)) (kf : b = false → G p l e R s m args below meth c cells slots Q E A nL ws (pc + 3) lv (st)) : G p l e R s m args below meth c cells slots Q E A nL ws (pc) lv (.int (bI b) :: st) := by
  refine g_if_ne hc tgt hd ht (fun z => kt ?_) (fun z => kf ?_)
  all_goals (cases b <;> first | rfl | (exact absurd rfl z) | (exact absurd z (by decide)))
theorem nI_ofi (t n : Nat) : nI t + Int32.ofInt (n : Int) = nI (t + n) := by
  rw [← nI_add]; congr 1
theorem nI_i1 (t : Nat) : nI t + Int32.ofInt 1 = nI (t + 1) := nI_ofi t 1
end GC2
end
section
/-! numbers and ranges -/
def inr (x a b : Int32) : Bool := !decide (x < a) && !decide (b < x)
def inx (x n : Int32) : Bool := !decide (x < 0) && !decide (n ≤ x)
theorem inx_of {x : Int32} {n : Nat} (hn : n < 2 ^ 31) (h : inx x (nI n) = true) : ∃ j : Nat, j < n ∧ x = nI j := by
  simp only [inx, Bool.and_eq_true, Bool.not_eq_true', decide_eq_false_iff_not] at h
  rcases pk_ix x hn with h1 | h1 | h1
  · exact absurd h1 h.1
  · exact absurd h1 h.2
  · exact h1
theorem inx_nI {j n : Nat} (hj : j < n) (hn : n < 2 ^ 31) : inx (nI j) (nI n) = true := by
  simp only [inx, Bool.and_eq_true, Bool.not_eq_true', decide_eq_false_iff_not]
  exact ⟨nI_pos (by omega), nI_ge hj hn⟩
theorem inr_of {x : Int32} {a b : Nat} (hb : b < 2 ^ 31) (h : inr x (nI a) (nI b) = true) (ha : a < 2 ^ 31) : ∃ j : Nat, a ≤ j ∧ j ≤ b ∧ x = nI j := by
  simp only [inr, Bool.and_eq_true, Bool.not_eq_true', decide_eq_false_iff_not] at h
  have h0 : ¬ x < 0 := fun z => h.1 (by
    rw [Int32.lt_iff_toInt_lt] at z ⊢
    rw [nI_toInt ha]
    have : (0 : Int32).toInt = 0 := rfl
    omega)
  obtain ⟨j, hj, rfl⟩ := nI_of h0
  refine ⟨j, ?_, ?_, rfl⟩
  · rcases Nat.lt_or_ge j a with q | q
    · exact absurd (nI_lt q ha) h.1
    · exact q
  · rcases Nat.lt_or_ge b j with q | q
    · exact absurd (nI_lt q hj) h.2
    · exact q
theorem inr_nI {j a b : Nat} (h1 : a ≤ j) (h2 : j ≤ b) (hb : b < 2 ^ 31) : inr (nI j) (nI a) (nI b) = true := by
  simp only [inr, Bool.and_eq_true, Bool.not_eq_true', decide_eq_false_iff_not]
  exact ⟨nI_nlt h1 (by omega), nI_nlt h2 hb⟩
theorem tsw_b {x : Int32} {n : Int} (h : ∀ k : Nat, (k : Int) ≤ n → ¬ x = nI k) (hn : n < 2147483648) : x.toInt < 0 ∨ n < x.toInt := by
  by_cases h0 : x.toInt < 0
  · exact Or.inl h0
  · by_cases h1 : n < x.toInt
    · exact Or.inr h1
    · refine absurd ?_ (h x.toInt.toNat (by omega))
      apply Int32.toInt_inj.mp
      rw [nI_toInt (by omega)]
      omega
theorem tsw_out4 {x : Int32} (c0 : ¬ x = 0) (c1 : ¬ x = 1) (c2 : ¬ x = 2) (c3 : ¬ x = 3) : x.toInt < 0 ∨ 3 < x.toInt := tsw_b (fun k hk => by
  rcases (show k = 0 ∨ k = 1 ∨ k = 2 ∨ k = 3 by omega) with rfl | rfl | rfl | rfl
  · exact c0
  · exact c1
  · exact c2
  · exact c3) (by decide)
theorem tsw_out3 {x : Int32} (c0 : ¬ x = 0) (c1 : ¬ x = 1) (c2 : ¬ x = 2) : x.toInt < 0 ∨ 2 < x.toInt := tsw_b (fun k hk => by
  rcases (show k = 0 ∨ k = 1 ∨ k = 2 by omega) with rfl | rfl | rfl
  · exact c0
  · exact c1
  · exact c2) (by decide)
theorem tsw_out5 {x : Int32} (c0 : ¬ x = 0) (c1 : ¬ x = 1) (c2 : ¬ x = 2) (c3 : ¬ x = 3) (c4 : ¬ x = 4) : x.toInt < 0 ∨ 4 < x.toInt := tsw_b (fun k hk => by
  rcases (show k = 0 ∨ k = 1 ∨ k = 2 ∨ k = 3 ∨ k = 4 by omega) with rfl | rfl | rfl | rfl | rfl
  · exact c0
  · exact c1
  · exact c2
  · exact c3
  · exact c4) (by decide)
theorem tsw_out8 {x : Int32} (c0 : ¬ x = 0) (c1 : ¬ x = 1) (c2 : ¬ x = 2) (c3 : ¬ x = 3) (c4 : ¬ x = 4) (c5 : ¬ x = 5) (c6 : ¬ x = 6) (c7 : ¬ x = 7) : x.toInt < 0 ∨ 7 < x.toInt := tsw_b (fun k hk => by
  rcases (show k = 0 ∨ k = 1 ∨ k = 2 ∨ k = 3 ∨ k = 4 ∨ k = 5 ∨ k = 6 ∨ k = 7 by omega) with rfl | rfl | rfl | rfl | rfl | rfl | rfl | rfl
  · exact c0
  · exact c1
  · exact c2
  · exact c3
  · exact c4
  · exact c5
  · exact c6
  · exact c7) (by decide)
/-- the sum of the first n -/
def sm (f : Nat → Int32) : Nat → Int32
  | 0 => 0
  | n + 1 => sm f n + f n
theorem sm_cong {f g : Nat → Int32} : ∀ {n : Nat}, (∀ k, k < n → f k = g k) → sm f n = sm g n
  | 0, _ => rfl
  | n + 1, h => by rw [sm, sm, sm_cong (fun k hk => h k (by omega)), h n (by omega)]
/-- of the first n the one with the greatest number among those that are told; of several the first -/
def bst (p : Nat → Bool) (t : Nat → Int32) : Nat → Int32 × Int32
  | 0 => (-1, -1)
  | n + 1 => if p n = true then (if t n ≤ (bst p t n).2 then bst p t n else (nI n, t n)) else bst p t n
theorem nI0e : nI 0 = 0 := rfl
theorem nI1e : nI 1 = 1 := rfl
def mxI (x y : Int32) : Int32 := if x < y then y else x
def mnI (x y : Int32) : Int32 := if y < x then y else x
def fil (v : Int32) (g : Nat → Int32) (i : Nat) : Nat → Int32 := fun k => if k < i then v else g k
theorem fil_0 (v : Int32) (g : Nat → Int32) : fil v g 0 = g := by funext k; simp [fil]
theorem fil_succ (v : Int32) (g : Nat → Int32) (i : Nat) : upd (fil v g i) i v = fil v g (i + 1) := by
  funext k
  by_cases h : k = i
  · simp [upd, fil, h]
  · by_cases h2 : k < i
    · simp [upd, fil, h, h2, Nat.lt_succ_of_lt h2]
    · simp [upd, fil, h, h2, show ¬ k < i + 1 by omega]
theorem tmx : Cond.code Lib.Math.max.name Lib.Math.max.code 2 (some .int) ∈ gtb := gtb_t 553 (by decide +kernel) (by decide +kernel)
theorem tmn : Cond.code Lib.Math.min.name Lib.Math.min.code 2 (some .int) ∈ gtb := gtb_t 570 (by decide +kernel) (by decide +kernel)
section MM
variable {p : Program} {l : Launch} {e : Env} {R : Room} {s : State} {m : MethodId} {args : Array Value} {below : List Frame} {meth : Method} {c : Code} {cells slots : Nat} {Q : State → Prop} {E : Ev} {A : Nat → Prop} {nL : Nat} {ws ws' : va_W} {pc : Nat} {lv lv' : List (Nat × Value)} {st : List Value} {own : String} {cc : ByteArray} {ret : Option FieldType} {index : Nat}
theorem g_mmax (hc : Cx p s m args meth c E A own cc nL ret) {x y v : Int32} (hl : Cond.methodLink own index Lib.Math.max.name ∈ gtb) (hv : mxI x y = v) (hR : 1 ≤ R.frames ∧ (st.map fun v => v.category).sum + 13 ≤ R.locals) (hcs : cells ≤ R.cells ∧ slots ≤ R.slots) (hd : decode cc pc = .ok (.invokestatic index, 3)) (k : G p l e R s m args below meth c cells slots Q E A nL ws (pc + 3) lv (.int v :: st)) : G p l e R s m args below meth c cells slots Q E A nL ws (pc) lv (.int y :: .int x :: st) := by
  subst hv
  exact fun H locs ls h1 h2 h3 => va_mmax hc.1.1 hc.1.2.1 (hc.1.2.2.1.trans h3.1.symm) hc.1.2.2.2.1 (hc.1.2.2.2.2 _ hl) (hc.1.2.2.2.2 _ tw_552) (hc.1.2.2.2.2 _ tw_15) (hc.1.2.2.2.2 _ tmx) hR.1 hR.2 hcs.1 hcs.2 hd (k H locs ls h1 h2 h3)
theorem g_mmin (hc : Cx p s m args meth c E A own cc nL ret) {x y v : Int32} (hl : Cond.methodLink own index Lib.Math.min.name ∈ gtb) (hv : mnI x y = v) (hR : 1 ≤ R.frames ∧ (st.map fun v => v.category).sum + 13 ≤ R.locals) (hcs : cells ≤ R.cells ∧ slots ≤ R.slots) (hd : decode cc pc = .ok (.invokestatic index, 3)) (k : G p l e R s m args below meth c cells slots Q E A nL ws (pc + 3) lv (.int v :: st)) : G p l e R s m args below meth c cells slots Q E A nL ws (pc) lv (.int y :: .int x :: st) := by
  subst hv
  exact fun H locs ls h1 h2 h3 => va_mmin hc.1.1 hc.1.2.1 (hc.1.2.2.1.trans h3.1.symm) hc.1.2.2.2.1 (hc.1.2.2.2.2 _ hl) (hc.1.2.2.2.2 _ tw_569) (hc.1.2.2.2.2 _ tw_15) (hc.1.2.2.2.2 _ tmn) hR.1 hR.2 hcs.1 hcs.2 hd (k H locs ls h1 h2 h3)
end MM
end
section
theorem dX11_within_0 : decode cX11_within 0 = .ok (.iload_n 0, 1) := by decide +kernel
theorem dX11_within_1 : decode cX11_within 1 = .ok (.iload_n 1, 1) := by decide +kernel
theorem dX11_within_2 : decode cX11_within 2 = .ok (.if_icmp .lt 12, 3) := by decide +kernel
theorem dX11_within_5 : decode cX11_within 5 = .ok (.iload_n 0, 1) := by decide +kernel
theorem dX11_within_6 : decode cX11_within 6 = .ok (.iload_n 2, 1) := by decide +kernel
theorem dX11_within_7 : decode cX11_within 7 = .ok (.if_icmp .gt 7, 3) := by decide +kernel
theorem dX11_within_10 : decode cX11_within 10 = .ok (.iconst 1, 1) := by decide +kernel
theorem dX11_within_11 : decode cX11_within 11 = .ok (.goto 4, 3) := by decide +kernel
theorem dX11_within_14 : decode cX11_within 14 = .ok (.iconst 0, 1) := by decide +kernel
theorem dX11_within_15 : decode cX11_within 15 = .ok (.ireturn, 1) := by decide +kernel

set_option maxHeartbeats 4000000 in
set_option maxRecDepth 100000 in
theorem c_X11_within (l : Launch) (E : Ev) {A : Nat → Prop} (ad : Nat → Nat) (hA : Oka 39 ad A) (sc : Nat → Int32) (ar : Nat → Nat → Int32) (bl : Int64) (x : Int32) (y : Int32) (z : Int32) : Ct l E yX11_within (.code yX11_within cX11_within 3 (some .boolean)) ({ frames := 0, cells := 0, slots := 0, locals := 0 }) A (cw E ad sc ar bl) [.int x, .int y, .int z] (some (.int (bI (inr x y z)))) (cw E ad sc ar bl) := by
  refine Ct.of (lv := [(0, .int x), (1, .int y), (2, .int z)]) (by decide +kernel) (Nat.le_of_ble_eq_true rfl) rfl ?_
  intro zp ze zs zm za zb zh zc hc
  refine g_iload_n (pc := 0) hc 0 dX11_within_0 rfl rfl ?_
  refine g_iload_n (pc := 1) hc 1 dX11_within_1 rfl rfl ?_
  refine g_icmp_lt (pc := 2) hc 14 dX11_within_2 (by decide) (fun c1 => ?_) (fun c1 => ?_)
  · refine g_iconst (pc := 14) (v := nI 0) hc dX11_within_14 (by decide) ?_
    exact g_zret (pc := 15) hc dX11_within_15 (by decide) (by simp [bI, inr, c1] <;> rfl) (rfl)
  · refine g_iload_n (pc := 5) hc 0 dX11_within_5 rfl rfl ?_
    refine g_iload_n (pc := 6) hc 2 dX11_within_6 rfl rfl ?_
    refine g_icmp_gt (pc := 7) hc 14 dX11_within_7 (by decide) (fun c2 => ?_) (fun c2 => ?_)
    · refine g_iconst (pc := 14) (v := nI 0) hc dX11_within_14 (by decide) ?_
      exact g_zret (pc := 15) hc dX11_within_15 (by decide) (by simp [bI, inr, c1, c2] <;> rfl) (rfl)
    · refine g_iconst (pc := 10) (v := nI 1) hc dX11_within_10 (by decide) ?_
      refine g_goto (pc := 11) hc 15 dX11_within_11 (by decide) ?_
      exact g_zret (pc := 15) hc dX11_within_15 (by decide) (by simp [bI, inr, c1, c2] <;> rfl) (rfl)

theorem dX11_toInt_0 : decode cX11_toInt 0 = .ok (.iload_n 0, 1) := by decide +kernel
theorem dX11_toInt_1 : decode cX11_toInt 1 = .ok (.ifCond .eq 7, 3) := by decide +kernel
theorem dX11_toInt_4 : decode cX11_toInt 4 = .ok (.iconst 1, 1) := by decide +kernel
theorem dX11_toInt_5 : decode cX11_toInt 5 = .ok (.goto 4, 3) := by decide +kernel
theorem dX11_toInt_8 : decode cX11_toInt 8 = .ok (.iconst 0, 1) := by decide +kernel
theorem dX11_toInt_9 : decode cX11_toInt 9 = .ok (.ireturn, 1) := by decide +kernel

set_option maxHeartbeats 4000000 in
set_option maxRecDepth 100000 in
theorem c_X11_toInt (l : Launch) (E : Ev) {A : Nat → Prop} (ad : Nat → Nat) (hA : Oka 39 ad A) (sc : Nat → Int32) (ar : Nat → Nat → Int32) (bl : Int64) (x : Int32) : Ct l E yX11_toInt (.code yX11_toInt cX11_toInt 1 (some .int)) ({ frames := 0, cells := 0, slots := 0, locals := 0 }) A (cw E ad sc ar bl) [.int x] (some (.int (bI (!decide (x = 0))))) (cw E ad sc ar bl) := by
  refine Ct.of (lv := [(0, .int x)]) (by decide +kernel) (Nat.le_of_ble_eq_true rfl) rfl ?_
  intro zp ze zs zm za zb zh zc hc
  refine g_iload_n (pc := 0) hc 0 dX11_toInt_0 rfl rfl ?_
  refine g_if_eq (pc := 1) hc 8 dX11_toInt_1 (by decide) (fun c1 => ?_) (fun c1 => ?_)
  · refine g_iconst (pc := 8) (v := nI 0) hc dX11_toInt_8 (by decide) ?_
    exact g_iret (pc := 9) hc dX11_toInt_9 (by simp [bI, c1] <;> rfl) (rfl)
  · refine g_iconst (pc := 4) (v := nI 1) hc dX11_toInt_4 (by decide) ?_
    refine g_goto (pc := 5) hc 9 dX11_toInt_5 (by decide) ?_
    exact g_iret (pc := 9) hc dX11_toInt_9 (by simp [bI, c1] <;> rfl) (rfl)

theorem dX11_isKind_0 : decode cX11_isKind 0 = .ok (.iload_n 0, 1) := by decide +kernel
theorem dX11_isKind_1 : decode cX11_isKind 1 = .ok (.iconst 0, 1) := by decide +kernel
theorem dX11_isKind_2 : decode cX11_isKind 2 = .ok (.iconst 3, 1) := by decide +kernel
theorem dX11_isKind_3 : decode cX11_isKind 3 = .ok (.invokestatic 105, 3) := by decide +kernel
theorem dX11_isKind_6 : decode cX11_isKind 6 = .ok (.ireturn, 1) := by decide +kernel

set_option maxHeartbeats 4000000 in
set_option maxRecDepth 100000 in
theorem c_X11_isKind (l : Launch) (E : Ev) {A : Nat → Prop} (ad : Nat → Nat) (hA : Oka 39 ad A) (sc : Nat → Int32) (ar : Nat → Nat → Int32) (bl : Int64) (x : Int32) : Ct l E yX11_isKind (.code yX11_isKind cX11_isKind 1 (some .boolean)) ({ frames := 1, cells := 0, slots := 0, locals := 22 }) A (cw E ad sc ar bl) [.int x] (some (.int (bI (inr x (nI 0) (nI 3))))) (cw E ad sc ar bl) := by
  refine Ct.of (lv := [(0, .int x)]) (by decide +kernel) (Nat.le_of_ble_eq_true rfl) rfl ?_
  intro zp ze zs zm za zb zh zc hc
  refine g_iload_n (pc := 0) hc 0 dX11_isKind_0 rfl rfl ?_
  refine g_iconst (pc := 1) (v := nI 0) hc dX11_isKind_1 (by decide) ?_
  refine g_iconst (pc := 2) (v := nI 3) hc dX11_isKind_2 (by decide) ?_
  refine g_callSi (pc := 3) (rest := []) (As := [.int x, .int (nI 0), .int (nI 3)]) hc (c_X11_within l E ad hA sc ar bl x (nI 0) (nI 3)) mi_X11_within tw_305 rfl ⟨rfl, rfl, by decide, by decide⟩ (Nat.le_of_ble_eq_true rfl) ⟨Nat.le_refl _, Nat.le_refl _⟩ rfl dX11_isKind_3 ?_
  exact g_zret (pc := 6) hc dX11_isKind_6 (bI_nar _) (rfl) (rfl)

theorem dX11_isWalker_0 : decode cX11_isWalker 0 = .ok (.iload_n 0, 1) := by decide +kernel
theorem dX11_isWalker_1 : decode cX11_isWalker 1 = .ok (.iconst 0, 1) := by decide +kernel
theorem dX11_isWalker_2 : decode cX11_isWalker 2 = .ok (.iconst 4, 1) := by decide +kernel
theorem dX11_isWalker_3 : decode cX11_isWalker 3 = .ok (.invokestatic 105, 3) := by decide +kernel
theorem dX11_isWalker_6 : decode cX11_isWalker 6 = .ok (.ireturn, 1) := by decide +kernel

set_option maxHeartbeats 4000000 in
set_option maxRecDepth 100000 in
theorem c_X11_isWalker (l : Launch) (E : Ev) {A : Nat → Prop} (ad : Nat → Nat) (hA : Oka 39 ad A) (sc : Nat → Int32) (ar : Nat → Nat → Int32) (bl : Int64) (x : Int32) : Ct l E yX11_isWalker (.code yX11_isWalker cX11_isWalker 1 (some .boolean)) ({ frames := 1, cells := 0, slots := 0, locals := 22 }) A (cw E ad sc ar bl) [.int x] (some (.int (bI (inr x (nI 0) (nI 4))))) (cw E ad sc ar bl) := by
  refine Ct.of (lv := [(0, .int x)]) (by decide +kernel) (Nat.le_of_ble_eq_true rfl) rfl ?_
  intro zp ze zs zm za zb zh zc hc
  refine g_iload_n (pc := 0) hc 0 dX11_isWalker_0 rfl rfl ?_
  refine g_iconst (pc := 1) (v := nI 0) hc dX11_isWalker_1 (by decide) ?_
  refine g_iconst (pc := 2) (v := nI 4) hc dX11_isWalker_2 (by decide) ?_
  refine g_callSi (pc := 3) (rest := []) (As := [.int x, .int (nI 0), .int (nI 4)]) hc (c_X11_within l E ad hA sc ar bl x (nI 0) (nI 4)) mi_X11_within tw_305 rfl ⟨rfl, rfl, by decide, by decide⟩ (Nat.le_of_ble_eq_true rfl) ⟨Nat.le_refl _, Nat.le_refl _⟩ rfl dX11_isWalker_3 ?_
  exact g_zret (pc := 6) hc dX11_isWalker_6 (bI_nar _) (rfl) (rfl)

theorem dX11_isPeriod_0 : decode cX11_isPeriod 0 = .ok (.iload_n 0, 1) := by decide +kernel
theorem dX11_isPeriod_1 : decode cX11_isPeriod 1 = .ok (.iconst 0, 1) := by decide +kernel
theorem dX11_isPeriod_2 : decode cX11_isPeriod 2 = .ok (.iconst 2, 1) := by decide +kernel
theorem dX11_isPeriod_3 : decode cX11_isPeriod 3 = .ok (.invokestatic 105, 3) := by decide +kernel
theorem dX11_isPeriod_6 : decode cX11_isPeriod 6 = .ok (.ireturn, 1) := by decide +kernel

set_option maxHeartbeats 4000000 in
set_option maxRecDepth 100000 in
theorem c_X11_isPeriod (l : Launch) (E : Ev) {A : Nat → Prop} (ad : Nat → Nat) (hA : Oka 39 ad A) (sc : Nat → Int32) (ar : Nat → Nat → Int32) (bl : Int64) (x : Int32) : Ct l E yX11_isPeriod (.code yX11_isPeriod cX11_isPeriod 1 (some .boolean)) ({ frames := 1, cells := 0, slots := 0, locals := 22 }) A (cw E ad sc ar bl) [.int x] (some (.int (bI (inr x (nI 0) (nI 2))))) (cw E ad sc ar bl) := by
  refine Ct.of (lv := [(0, .int x)]) (by decide +kernel) (Nat.le_of_ble_eq_true rfl) rfl ?_
  intro zp ze zs zm za zb zh zc hc
  refine g_iload_n (pc := 0) hc 0 dX11_isPeriod_0 rfl rfl ?_
  refine g_iconst (pc := 1) (v := nI 0) hc dX11_isPeriod_1 (by decide) ?_
  refine g_iconst (pc := 2) (v := nI 2) hc dX11_isPeriod_2 (by decide) ?_
  refine g_callSi (pc := 3) (rest := []) (As := [.int x, .int (nI 0), .int (nI 2)]) hc (c_X11_within l E ad hA sc ar bl x (nI 0) (nI 2)) mi_X11_within tw_305 rfl ⟨rfl, rfl, by decide, by decide⟩ (Nat.le_of_ble_eq_true rfl) ⟨Nat.le_refl _, Nat.le_refl _⟩ rfl dX11_isPeriod_3 ?_
  exact g_zret (pc := 6) hc dX11_isPeriod_6 (bI_nar _) (rfl) (rfl)

theorem dX11_isSheet_0 : decode cX11_isSheet 0 = .ok (.iload_n 0, 1) := by decide +kernel
theorem dX11_isSheet_1 : decode cX11_isSheet 1 = .ok (.iconst 0, 1) := by decide +kernel
theorem dX11_isSheet_2 : decode cX11_isSheet 2 = .ok (.iconst 1, 1) := by decide +kernel
theorem dX11_isSheet_3 : decode cX11_isSheet 3 = .ok (.invokestatic 105, 3) := by decide +kernel
theorem dX11_isSheet_6 : decode cX11_isSheet 6 = .ok (.ireturn, 1) := by decide +kernel

set_option maxHeartbeats 4000000 in
set_option maxRecDepth 100000 in
theorem c_X11_isSheet (l : Launch) (E : Ev) {A : Nat → Prop} (ad : Nat → Nat) (hA : Oka 39 ad A) (sc : Nat → Int32) (ar : Nat → Nat → Int32) (bl : Int64) (x : Int32) : Ct l E yX11_isSheet (.code yX11_isSheet cX11_isSheet 1 (some .boolean)) ({ frames := 1, cells := 0, slots := 0, locals := 22 }) A (cw E ad sc ar bl) [.int x] (some (.int (bI (inr x (nI 0) (nI 1))))) (cw E ad sc ar bl) := by
  refine Ct.of (lv := [(0, .int x)]) (by decide +kernel) (Nat.le_of_ble_eq_true rfl) rfl ?_
  intro zp ze zs zm za zb zh zc hc
  refine g_iload_n (pc := 0) hc 0 dX11_isSheet_0 rfl rfl ?_
  refine g_iconst (pc := 1) (v := nI 0) hc dX11_isSheet_1 (by decide) ?_
  refine g_iconst (pc := 2) (v := nI 1) hc dX11_isSheet_2 (by decide) ?_
  refine g_callSi (pc := 3) (rest := []) (As := [.int x, .int (nI 0), .int (nI 1)]) hc (c_X11_within l E ad hA sc ar bl x (nI 0) (nI 1)) mi_X11_within tw_305 rfl ⟨rfl, rfl, by decide, by decide⟩ (Nat.le_of_ble_eq_true rfl) ⟨Nat.le_refl _, Nat.le_refl _⟩ rfl dX11_isSheet_3 ?_
  exact g_zret (pc := 6) hc dX11_isSheet_6 (bI_nar _) (rfl) (rfl)

theorem dJ7_fill_53178_0 : decode cJ7_fill_53178 0 = .ok (.iconst 0, 1) := by decide +kernel
theorem dJ7_fill_53178_1 : decode cJ7_fill_53178 1 = .ok (.istore_n 2, 1) := by decide +kernel
theorem dJ7_fill_53178_2 : decode cJ7_fill_53178 2 = .ok (.aload_n 0, 1) := by decide +kernel
theorem dJ7_fill_53178_3 : decode cJ7_fill_53178 3 = .ok (.arraylength, 1) := by decide +kernel
theorem dJ7_fill_53178_4 : decode cJ7_fill_53178 4 = .ok (.istore_n 3, 1) := by decide +kernel
theorem dJ7_fill_53178_5 : decode cJ7_fill_53178 5 = .ok (.iload_n 2, 1) := by decide +kernel
theorem dJ7_fill_53178_6 : decode cJ7_fill_53178 6 = .ok (.iload_n 3, 1) := by decide +kernel
theorem dJ7_fill_53178_7 : decode cJ7_fill_53178 7 = .ok (.if_icmp .ge 13, 3) := by decide +kernel
theorem dJ7_fill_53178_10 : decode cJ7_fill_53178 10 = .ok (.aload_n 0, 1) := by decide +kernel
theorem dJ7_fill_53178_11 : decode cJ7_fill_53178 11 = .ok (.iload_n 2, 1) := by decide +kernel
theorem dJ7_fill_53178_12 : decode cJ7_fill_53178 12 = .ok (.iload_n 1, 1) := by decide +kernel
theorem dJ7_fill_53178_13 : decode cJ7_fill_53178 13 = .ok (.iastore, 1) := by decide +kernel
theorem dJ7_fill_53178_14 : decode cJ7_fill_53178 14 = .ok (.iinc 2 1, 3) := by decide +kernel
theorem dJ7_fill_53178_17 : decode cJ7_fill_53178 17 = .ok (.goto (-12), 3) := by decide +kernel
theorem dJ7_fill_53178_20 : decode cJ7_fill_53178 20 = .ok (.return_, 1) := by decide +kernel

set_option maxHeartbeats 4000000 in
set_option maxRecDepth 100000 in
theorem c_fill14 (l : Launch) (E : Ev) {A : Nat → Prop} (ad : Nat → Nat) (hA : Oka 39 ad A) (sc : Nat → Int32) (ar : Nat → Nat → Int32) (bl : Int64) (v : Int32) : Ct l E yJ7_fill_53178 (.code yJ7_fill_53178 cJ7_fill_53178 4 none) ({ frames := 0, cells := 0, slots := 0, locals := 0 }) A (cw E ad sc ar bl) [.ref (ad 14), .int v] (none) (cw E ad sc (va_up ar 14 (fil v (ar 14) 64)) bl) := by
  refine Ct.of (lv := [(0, .ref (ad 14)), (1, .int v)]) (by decide +kernel) (Nat.le_of_ble_eq_true rfl) rfl ?_
  intro zp ze zs zm za zb zh zc hc
  refine g_iconst (pc := 0) (v := nI 0) hc dJ7_fill_53178_0 (by decide) ?_
  refine g_istore_n (pc := 1) (lv' := [(0, .ref (ad 14)), (1, .int v), (2, .int (nI 0))]) hc dJ7_fill_53178_1 rfl (by decide) rfl ?_
  refine g_aload_n (pc := 2) hc 0 dJ7_fill_53178_2 rfl rfl ?_
  refine g_alen (pc := 3) hc 14 1 rfl rfl (v := nI 64) rfl dJ7_fill_53178_3 ?_
  refine g_istore_n (pc := 4) (lv' := [(0, .ref (ad 14)), (1, .int v), (2, .int (nI 0)), (3, .int (nI 64))]) hc dJ7_fill_53178_4 rfl (by decide) rfl ?_
  have L5_1 : ∀ (ki i : Nat), i + ki = 64 → G zp l ze ({ frames := 0, cells := 0, slots := 0, locals := 0 }) zs zm za zb zh zc 0 0 (MQ zb (Qz E A (none) (cw E ad sc (va_up ar 14 (fil v (ar 14) 64)) bl)) za zs 0 0 A) E A 4 (cw E ad sc (va_up ar 14 (fil v (ar 14) (i))) bl) (5) [(0, .ref (ad 14)), (1, .int v), (2, .int (nI (i))), (3, .int (nI 64))] [] := by
    intro ki
    induction ki with
    | zero =>
      intro i lhi
      have lhin : 64 = i := by omega
      subst lhin
      refine g_iload_n (pc := 5) hc 2 dJ7_fill_53178_5 rfl rfl ?_
      refine g_iload_n (pc := 6) hc 3 dJ7_fill_53178_6 rfl rfl ?_
      refine g_icmp_ge_t (pc := 7) hc 20 dJ7_fill_53178_7 (by decide) (nI_le (by omega) (by omega)) ?_
      exact g_vret (pc := 20) hc dJ7_fill_53178_20 rfl (rfl)
    | succ ki ihi =>
      intro i lhi
      have lhin : i < 64 := by omega
      refine g_iload_n (pc := 5) hc 2 dJ7_fill_53178_5 rfl rfl ?_
      refine g_iload_n (pc := 6) hc 3 dJ7_fill_53178_6 rfl rfl ?_
      refine g_icmp_ge_f (pc := 7) hc 20 dJ7_fill_53178_7 (by decide) (nI_ge (by omega) (by omega)) ?_
      refine g_aload_n (pc := 10) hc 0 dJ7_fill_53178_10 rfl rfl ?_
      refine g_iload_n (pc := 11) hc 2 dJ7_fill_53178_11 rfl rfl ?_
      refine g_iload_n (pc := 12) hc 1 dJ7_fill_53178_12 rfl rfl ?_
      refine sa_c14 (pc := 13) hc hA (i) (rfl) (by omega) dJ7_fill_53178_13 ?_
      refine g_eq (ws' := cw E ad sc (va_up ar 14 (upd (fil v (ar 14) (i)) i v)) bl) (lv' := [(0, .ref (ad 14)), (1, .int v), (2, .int (nI (i))), (3, .int (nI 64))]) rfl rfl rfl ?_
      refine g_iinc (pc := 14) (v := nI (i + 1)) (lv' := [(0, .ref (ad 14)), (1, .int v), (2, .int (nI (i + 1))), (3, .int (nI 64))]) hc 2 dJ7_fill_53178_14 rfl (nI_ofi i 1) (by decide) rfl ?_
      refine g_goto (pc := 17) hc 5 dJ7_fill_53178_17 (by decide) ?_
      exact g_eq (ws' := cw E ad sc (va_up ar 14 (fil v (ar 14) (i + 1))) bl) (lv' := [(0, .ref (ad 14)), (1, .int v), (2, .int (nI (i + 1))), (3, .int (nI 64))]) (by rw [fil_succ]) (rfl) rfl (ihi (i + 1) (by omega))
  exact g_eq (ws' := cw E ad sc (va_up ar 14 (fil v (ar 14) (0))) bl) (lv' := [(0, .ref (ad 14)), (1, .int v), (2, .int (nI (0))), (3, .int (nI 64))]) (by rw [fil_0]; rfl) (rfl) rfl (L5_1 (64 - 0) (0) (by omega))

set_option maxHeartbeats 4000000 in
set_option maxRecDepth 100000 in
theorem c_fill19 (l : Launch) (E : Ev) {A : Nat → Prop} (ad : Nat → Nat) (hA : Oka 39 ad A) (sc : Nat → Int32) (ar : Nat → Nat → Int32) (bl : Int64) (v : Int32) : Ct l E yJ7_fill_53178 (.code yJ7_fill_53178 cJ7_fill_53178 4 none) ({ frames := 0, cells := 0, slots := 0, locals := 0 }) A (cw E ad sc ar bl) [.ref (ad 19), .int v] (none) (cw E ad sc (va_up ar 19 (fil v (ar 19) 240)) bl) := by
  refine Ct.of (lv := [(0, .ref (ad 19)), (1, .int v)]) (by decide +kernel) (Nat.le_of_ble_eq_true rfl) rfl ?_
  intro zp ze zs zm za zb zh zc hc
  refine g_iconst (pc := 0) (v := nI 0) hc dJ7_fill_53178_0 (by decide) ?_
  refine g_istore_n (pc := 1) (lv' := [(0, .ref (ad 19)), (1, .int v), (2, .int (nI 0))]) hc dJ7_fill_53178_1 rfl (by decide) rfl ?_
  refine g_aload_n (pc := 2) hc 0 dJ7_fill_53178_2 rfl rfl ?_
  refine g_alen (pc := 3) hc 19 1 rfl rfl (v := nI 240) rfl dJ7_fill_53178_3 ?_
  refine g_istore_n (pc := 4) (lv' := [(0, .ref (ad 19)), (1, .int v), (2, .int (nI 0)), (3, .int (nI 240))]) hc dJ7_fill_53178_4 rfl (by decide) rfl ?_
  have L5_1 : ∀ (ki i : Nat), i + ki = 240 → G zp l ze ({ frames := 0, cells := 0, slots := 0, locals := 0 }) zs zm za zb zh zc 0 0 (MQ zb (Qz E A (none) (cw E ad sc (va_up ar 19 (fil v (ar 19) 240)) bl)) za zs 0 0 A) E A 4 (cw E ad sc (va_up ar 19 (fil v (ar 19) (i))) bl) (5) [(0, .ref (ad 19)), (1, .int v), (2, .int (nI (i))), (3, .int (nI 240))] [] := by
    intro ki
    induction ki with
    | zero =>
      intro i lhi
      have lhin : 240 = i := by omega
      subst lhin
      refine g_iload_n (pc := 5) hc 2 dJ7_fill_53178_5 rfl rfl ?_
      refine g_iload_n (pc := 6) hc 3 dJ7_fill_53178_6 rfl rfl ?_
      refine g_icmp_ge_t (pc := 7) hc 20 dJ7_fill_53178_7 (by decide) (nI_le (by omega) (by omega)) ?_
      exact g_vret (pc := 20) hc dJ7_fill_53178_20 rfl (rfl)
    | succ ki ihi =>
      intro i lhi
      have lhin : i < 240 := by omega
      refine g_iload_n (pc := 5) hc 2 dJ7_fill_53178_5 rfl rfl ?_
      refine g_iload_n (pc := 6) hc 3 dJ7_fill_53178_6 rfl rfl ?_
      refine g_icmp_ge_f (pc := 7) hc 20 dJ7_fill_53178_7 (by decide) (nI_ge (by omega) (by omega)) ?_
      refine g_aload_n (pc := 10) hc 0 dJ7_fill_53178_10 rfl rfl ?_
      refine g_iload_n (pc := 11) hc 2 dJ7_fill_53178_11 rfl rfl ?_
      refine g_iload_n (pc := 12) hc 1 dJ7_fill_53178_12 rfl rfl ?_
      refine sa_c19 (pc := 13) hc hA (i) (rfl) (by omega) dJ7_fill_53178_13 ?_
      refine g_eq (ws' := cw E ad sc (va_up ar 19 (upd (fil v (ar 19) (i)) i v)) bl) (lv' := [(0, .ref (ad 19)), (1, .int v), (2, .int (nI (i))), (3, .int (nI 240))]) rfl rfl rfl ?_
      refine g_iinc (pc := 14) (v := nI (i + 1)) (lv' := [(0, .ref (ad 19)), (1, .int v), (2, .int (nI (i + 1))), (3, .int (nI 240))]) hc 2 dJ7_fill_53178_14 rfl (nI_ofi i 1) (by decide) rfl ?_
      refine g_goto (pc := 17) hc 5 dJ7_fill_53178_17 (by decide) ?_
      exact g_eq (ws' := cw E ad sc (va_up ar 19 (fil v (ar 19) (i + 1))) bl) (lv' := [(0, .ref (ad 19)), (1, .int v), (2, .int (nI (i + 1))), (3, .int (nI 240))]) (by rw [fil_succ]) (rfl) rfl (ihi (i + 1) (by omega))
  exact g_eq (ws' := cw E ad sc (va_up ar 19 (fil v (ar 19) (0))) bl) (lv' := [(0, .ref (ad 19)), (1, .int v), (2, .int (nI (0))), (3, .int (nI 240))]) (by rw [fil_0]; rfl) (rfl) rfl (L5_1 (240 - 0) (0) (by omega))

set_option maxHeartbeats 4000000 in
set_option maxRecDepth 100000 in
theorem c_fill20 (l : Launch) (E : Ev) {A : Nat → Prop} (ad : Nat → Nat) (hA : Oka 39 ad A) (sc : Nat → Int32) (ar : Nat → Nat → Int32) (bl : Int64) (v : Int32) : Ct l E yJ7_fill_53178 (.code yJ7_fill_53178 cJ7_fill_53178 4 none) ({ frames := 0, cells := 0, slots := 0, locals := 0 }) A (cw E ad sc ar bl) [.ref (ad 20), .int v] (none) (cw E ad sc (va_up ar 20 (fil v (ar 20) 1920)) bl) := by
  refine Ct.of (lv := [(0, .ref (ad 20)), (1, .int v)]) (by decide +kernel) (Nat.le_of_ble_eq_true rfl) rfl ?_
  intro zp ze zs zm za zb zh zc hc
  refine g_iconst (pc := 0) (v := nI 0) hc dJ7_fill_53178_0 (by decide) ?_
  refine g_istore_n (pc := 1) (lv' := [(0, .ref (ad 20)), (1, .int v), (2, .int (nI 0))]) hc dJ7_fill_53178_1 rfl (by decide) rfl ?_
  refine g_aload_n (pc := 2) hc 0 dJ7_fill_53178_2 rfl rfl ?_
  refine g_alen (pc := 3) hc 20 1 rfl rfl (v := nI 1920) rfl dJ7_fill_53178_3 ?_
  refine g_istore_n (pc := 4) (lv' := [(0, .ref (ad 20)), (1, .int v), (2, .int (nI 0)), (3, .int (nI 1920))]) hc dJ7_fill_53178_4 rfl (by decide) rfl ?_
  have L5_1 : ∀ (ki i : Nat), i + ki = 1920 → G zp l ze ({ frames := 0, cells := 0, slots := 0, locals := 0 }) zs zm za zb zh zc 0 0 (MQ zb (Qz E A (none) (cw E ad sc (va_up ar 20 (fil v (ar 20) 1920)) bl)) za zs 0 0 A) E A 4 (cw E ad sc (va_up ar 20 (fil v (ar 20) (i))) bl) (5) [(0, .ref (ad 20)), (1, .int v), (2, .int (nI (i))), (3, .int (nI 1920))] [] := by
    intro ki
    induction ki with
    | zero =>
      intro i lhi
      have lhin : 1920 = i := by omega
      subst lhin
      refine g_iload_n (pc := 5) hc 2 dJ7_fill_53178_5 rfl rfl ?_
      refine g_iload_n (pc := 6) hc 3 dJ7_fill_53178_6 rfl rfl ?_
      refine g_icmp_ge_t (pc := 7) hc 20 dJ7_fill_53178_7 (by decide) (nI_le (by omega) (by omega)) ?_
      exact g_vret (pc := 20) hc dJ7_fill_53178_20 rfl (rfl)
    | succ ki ihi =>
      intro i lhi
      have lhin : i < 1920 := by omega
      refine g_iload_n (pc := 5) hc 2 dJ7_fill_53178_5 rfl rfl ?_
      refine g_iload_n (pc := 6) hc 3 dJ7_fill_53178_6 rfl rfl ?_
      refine g_icmp_ge_f (pc := 7) hc 20 dJ7_fill_53178_7 (by decide) (nI_ge (by omega) (by omega)) ?_
      refine g_aload_n (pc := 10) hc 0 dJ7_fill_53178_10 rfl rfl ?_
      refine g_iload_n (pc := 11) hc 2 dJ7_fill_53178_11 rfl rfl ?_
      refine g_iload_n (pc := 12) hc 1 dJ7_fill_53178_12 rfl rfl ?_
      refine sa_c20 (pc := 13) hc hA (i) (rfl) (by omega) dJ7_fill_53178_13 ?_
      refine g_eq (ws' := cw E ad sc (va_up ar 20 (upd (fil v (ar 20) (i)) i v)) bl) (lv' := [(0, .ref (ad 20)), (1, .int v), (2, .int (nI (i))), (3, .int (nI 1920))]) rfl rfl rfl ?_
      refine g_iinc (pc := 14) (v := nI (i + 1)) (lv' := [(0, .ref (ad 20)), (1, .int v), (2, .int (nI (i + 1))), (3, .int (nI 1920))]) hc 2 dJ7_fill_53178_14 rfl (nI_ofi i 1) (by decide) rfl ?_
      refine g_goto (pc := 17) hc 5 dJ7_fill_53178_17 (by decide) ?_
      exact g_eq (ws' := cw E ad sc (va_up ar 20 (fil v (ar 20) (i + 1))) bl) (lv' := [(0, .ref (ad 20)), (1, .int v), (2, .int (nI (i + 1))), (3, .int (nI 1920))]) (by rw [fil_succ]) (rfl) rfl (ihi (i + 1) (by omega))
  exact g_eq (ws' := cw E ad sc (va_up ar 20 (fil v (ar 20) (0))) bl) (lv' := [(0, .ref (ad 20)), (1, .int v), (2, .int (nI (0))), (3, .int (nI 1920))]) (by rw [fil_0]; rfl) (rfl) rfl (L5_1 (1920 - 0) (0) (by omega))
end
section
def cts (so : Nat → Int32) (j : Nat) (v : Int32) : Bool := if v = 0 then true else if so j = v then true else if v = nI 2 then (if so j = nI 3 then true else false) else false
def wgt (so : Nat → Int32) (j : Nat) : Int32 := if so j = nI 3 then nI 3 else if so j = nI 2 then nI 2 else nI 1
def brn (n : Int32) (ta : Nat → Int32) (x : Int32) (c j : Nat) : Int32 := if inx x n = true then ta ((x.toNatClampNeg * 8 + c) * 4 + j) else 0
def smo (n : Int32) (su : Nat → Int32) (x : Int32) (j : Nat) : Int32 := if inx x n = true then su (x.toNatClampNeg * 4 + j) else 0
theorem smo_nI {n : Int32} {nW : Nat} {su : Nat → Int32} {i j : Nat} (hW : n = nI nW) (h60 : nW ≤ 60) (hi : i < nW) : smo n su (nI i) j = su (i * 4 + j) := by
  rw [smo, hW, if_pos (inx_nI hi (by omega)), nI_clamp (by omega)]
theorem brn_nI {n : Int32} {nW : Nat} {ta : Nat → Int32} {i c j : Nat} (hW : n = nI nW) (h60 : nW ≤ 60) (hi : i < nW) : brn n ta (nI i) c j = ta ((i * 8 + c) * 4 + j) := by
  rw [brn, hW, if_pos (inx_nI hi (by omega)), nI_clamp (by omega)]
def ctot (su : Nat → Int32) (i : Nat) : Int32 := sm (fun k => su (i * 4 + k)) 4
def tls (ro su : Nat → Int32) (r : Int32) (i : Nat) : Int32 × Int32 := bst (fun k => decide (ro k = r)) (ctot su) i
theorem tls_succ (ro su : Nat → Int32) (r : Int32) (i : Nat) : tls ro su r (i + 1) = if ro i = r then (if ctot su i ≤ (tls ro su r i).2 then tls ro su r i else (nI i, ctot su i)) else tls ro su r i := by
  unfold tls
  rw [bst]
  by_cases h : ro i = r <;> simp [h]
def ctel (n : Nat) (ro su : Nat → Int32) (r : Int32) : Int32 := (tls ro su r n).1
end
section
theorem dX8_isSort_0 : decode cX8_isSort 0 = .ok (.iload_n 0, 1) := by decide +kernel
theorem dX8_isSort_1 : decode cX8_isSort 1 = .ok (.iconst 0, 1) := by decide +kernel
theorem dX8_isSort_2 : decode cX8_isSort 2 = .ok (.iconst 3, 1) := by decide +kernel
theorem dX8_isSort_3 : decode cX8_isSort 3 = .ok (.invokestatic 13, 3) := by decide +kernel
theorem dX8_isSort_6 : decode cX8_isSort 6 = .ok (.ireturn, 1) := by decide +kernel

set_option maxHeartbeats 4000000 in
set_option maxRecDepth 100000 in
theorem c_X8_isSort (l : Launch) (E : Ev) {A : Nat → Prop} (ad : Nat → Nat) (hA : Oka 39 ad A) (sc : Nat → Int32) (ar : Nat → Nat → Int32) (bl : Int64) (x : Int32) : Ct l E yX8_isSort (.code yX8_isSort cX8_isSort 1 (some .boolean)) ({ frames := 1, cells := 0, slots := 0, locals := 22 }) A (cw E ad sc ar bl) [.int x] (some (.int (bI (inr x (nI 0) (nI 3))))) (cw E ad sc ar bl) := by
  refine Ct.of (lv := [(0, .int x)]) (by decide +kernel) (Nat.le_of_ble_eq_true rfl) rfl ?_
  intro zp ze zs zm za zb zh zc hc
  refine g_iload_n (pc := 0) hc 0 dX8_isSort_0 rfl rfl ?_
  refine g_iconst (pc := 1) (v := nI 0) hc dX8_isSort_1 (by decide) ?_
  refine g_iconst (pc := 2) (v := nI 3) hc dX8_isSort_2 (by decide) ?_
  refine g_callSNi (pc := 3) (rest := []) (As := [.int x, .int (nI 0), .int (nI 3)]) hc (c_X11_within l E ad hA sc ar bl x (nI 0) (nI 3)) mi_X11_within tn_338 rfl ⟨rfl, rfl, by decide, by decide⟩ (Nat.le_of_ble_eq_true rfl) ⟨Nat.le_refl _, Nat.le_refl _⟩ rfl dX8_isSort_3 ?_
  exact g_zret (pc := 6) hc dX8_isSort_6 (bI_nar _) (rfl) (rfl)

theorem dX8_become_0 : decode cX8_become 0 = .ok (.aload_n 0, 1) := by decide +kernel
theorem dX8_become_1 : decode cX8_become 1 = .ok (.getfield 9, 3) := by decide +kernel
theorem dX8_become_4 : decode cX8_become 4 = .ok (.iload_n 1, 1) := by decide +kernel
theorem dX8_become_5 : decode cX8_become 5 = .ok (.iaload, 1) := by decide +kernel
theorem dX8_become_6 : decode cX8_become 6 = .ok (.istore_n 3, 1) := by decide +kernel
theorem dX8_become_7 : decode cX8_become 7 = .ok (.aload_n 0, 1) := by decide +kernel
theorem dX8_become_8 : decode cX8_become 8 = .ok (.getfield 9, 3) := by decide +kernel
theorem dX8_become_11 : decode cX8_become 11 = .ok (.iload_n 1, 1) := by decide +kernel
theorem dX8_become_12 : decode cX8_become 12 = .ok (.iload_n 2, 1) := by decide +kernel
theorem dX8_become_13 : decode cX8_become 13 = .ok (.iastore, 1) := by decide +kernel
theorem dX8_become_14 : decode cX8_become 14 = .ok (.iload_n 3, 1) := by decide +kernel
theorem dX8_become_15 : decode cX8_become 15 = .ok (.ireturn, 1) := by decide +kernel

set_option maxHeartbeats 4000000 in
set_option maxRecDepth 100000 in
theorem c_X8_become (l : Launch) (E : Ev) {A : Nat → Prop} (ad : Nat → Nat) (hA : Oka 39 ad A) (sc : Nat → Int32) (ar : Nat → Nat → Int32) (bl : Int64) (j : Nat) (v : Int32) (hj : j < 4) : Ct l E yX8_become (.code yX8_become cX8_become 4 (some .int)) ({ frames := 0, cells := 0, slots := 0, locals := 0 }) A (cw E ad sc ar bl) [.ref (ad 2), .int (nI j), .int v] (some (.int ((ar 15) j))) (cw E ad sc (va_up ar 15 (upd (ar 15) j v)) bl) := by
  refine Ct.of (lv := [(0, .ref (ad 2)), (1, .int (nI j)), (2, .int v)]) (by decide +kernel) (Nat.le_of_ble_eq_true rfl) rfl ?_
  intro zp ze zs zm za zb zh zc hc
  refine g_aload_n (pc := 0) hc 0 dX8_become_0 rfl rfl ?_
  refine gf_c2_sortOf (pc := 1) hc tw_59 dX8_become_1 ?_
  refine g_iload_n (pc := 4) hc 1 dX8_become_4 rfl rfl ?_
  refine la_c15 (pc := 5) hc (j) (rfl) (by omega) dX8_become_5 ?_
  refine g_istore_n (pc := 6) (lv' := [(0, .ref (ad 2)), (1, .int (nI j)), (2, .int v), (3, .int ((ar 15) j))]) hc dX8_become_6 rfl (by decide) rfl ?_
  refine g_aload_n (pc := 7) hc 0 dX8_become_7 rfl rfl ?_
  refine gf_c2_sortOf (pc := 8) hc tw_59 dX8_become_8 ?_
  refine g_iload_n (pc := 11) hc 1 dX8_become_11 rfl rfl ?_
  refine g_iload_n (pc := 12) hc 2 dX8_become_12 rfl rfl ?_
  refine sa_c15 (pc := 13) hc hA (j) (rfl) (by omega) dX8_become_13 ?_
  refine g_iload_n (pc := 14) hc 3 dX8_become_14 rfl rfl ?_
  exact g_iret (pc := 15) hc dX8_become_15 (rfl) (rfl)

theorem dX8_counts_0 : decode cX8_counts 0 = .ok (.aload_n 0, 1) := by decide +kernel
theorem dX8_counts_1 : decode cX8_counts 1 = .ok (.getfield 9, 3) := by decide +kernel
theorem dX8_counts_4 : decode cX8_counts 4 = .ok (.iload_n 1, 1) := by decide +kernel
theorem dX8_counts_5 : decode cX8_counts 5 = .ok (.iaload, 1) := by decide +kernel
theorem dX8_counts_6 : decode cX8_counts 6 = .ok (.istore_n 3, 1) := by decide +kernel
theorem dX8_counts_7 : decode cX8_counts 7 = .ok (.iload_n 2, 1) := by decide +kernel
theorem dX8_counts_8 : decode cX8_counts 8 = .ok (.ifCond .eq 18, 3) := by decide +kernel
theorem dX8_counts_11 : decode cX8_counts 11 = .ok (.iload_n 3, 1) := by decide +kernel
theorem dX8_counts_12 : decode cX8_counts 12 = .ok (.iload_n 2, 1) := by decide +kernel
theorem dX8_counts_13 : decode cX8_counts 13 = .ok (.if_icmp .eq 13, 3) := by decide +kernel
theorem dX8_counts_16 : decode cX8_counts 16 = .ok (.iload_n 2, 1) := by decide +kernel
theorem dX8_counts_17 : decode cX8_counts 17 = .ok (.iconst 2, 1) := by decide +kernel
theorem dX8_counts_18 : decode cX8_counts 18 = .ok (.if_icmp .ne 12, 3) := by decide +kernel
theorem dX8_counts_21 : decode cX8_counts 21 = .ok (.iload_n 3, 1) := by decide +kernel
theorem dX8_counts_22 : decode cX8_counts 22 = .ok (.iconst 3, 1) := by decide +kernel
theorem dX8_counts_23 : decode cX8_counts 23 = .ok (.if_icmp .ne 7, 3) := by decide +kernel
theorem dX8_counts_26 : decode cX8_counts 26 = .ok (.iconst 1, 1) := by decide +kernel
theorem dX8_counts_27 : decode cX8_counts 27 = .ok (.goto 4, 3) := by decide +kernel
theorem dX8_counts_30 : decode cX8_counts 30 = .ok (.iconst 0, 1) := by decide +kernel
theorem dX8_counts_31 : decode cX8_counts 31 = .ok (.ireturn, 1) := by decide +kernel

set_option maxHeartbeats 4000000 in
set_option maxRecDepth 100000 in
theorem c_X8_counts (l : Launch) (E : Ev) {A : Nat → Prop} (ad : Nat → Nat) (hA : Oka 39 ad A) (sc : Nat → Int32) (ar : Nat → Nat → Int32) (bl : Int64) (j : Nat) (v : Int32) (hj : j < 4) : Ct l E yX8_counts (.code yX8_counts cX8_counts 4 (some .boolean)) ({ frames := 0, cells := 0, slots := 0, locals := 0 }) A (cw E ad sc ar bl) [.ref (ad 2), .int (nI j), .int v] (some (.int (bI (cts (ar 15) j v)))) (cw E ad sc ar bl) := by
  refine Ct.of (lv := [(0, .ref (ad 2)), (1, .int (nI j)), (2, .int v)]) (by decide +kernel) (Nat.le_of_ble_eq_true rfl) rfl ?_
  intro zp ze zs zm za zb zh zc hc
  refine g_aload_n (pc := 0) hc 0 dX8_counts_0 rfl rfl ?_
  refine gf_c2_sortOf (pc := 1) hc tw_59 dX8_counts_1 ?_
  refine g_iload_n (pc := 4) hc 1 dX8_counts_4 rfl rfl ?_
  refine la_c15 (pc := 5) hc (j) (rfl) (by omega) dX8_counts_5 ?_
  refine g_istore_n (pc := 6) (lv' := [(0, .ref (ad 2)), (1, .int (nI j)), (2, .int v), (3, .int ((ar 15) j))]) hc dX8_counts_6 rfl (by decide) rfl ?_
  refine g_iload_n (pc := 7) hc 2 dX8_counts_7 rfl rfl ?_
  refine g_if_eq (pc := 8) hc 26 dX8_counts_8 (by decide) (fun c1 => ?_) (fun c1 => ?_)
  · refine g_iconst (pc := 26) (v := nI 1) hc dX8_counts_26 (by decide) ?_
    refine g_goto (pc := 27) hc 31 dX8_counts_27 (by decide) ?_
    exact g_zret (pc := 31) hc dX8_counts_31 (by decide) (by unfold cts; repeat (first | rw [if_pos c1] | rw [if_neg c1] | rw [if_neg (ne_true_of_eq_false c1)]); try rfl) (rfl)
  · refine g_iload_n (pc := 11) hc 3 dX8_counts_11 rfl rfl ?_
    refine g_iload_n (pc := 12) hc 2 dX8_counts_12 rfl rfl ?_
    refine g_icmp_eq (pc := 13) hc 26 dX8_counts_13 (by decide) (fun c2 => ?_) (fun c2 => ?_)
    · refine g_iconst (pc := 26) (v := nI 1) hc dX8_counts_26 (by decide) ?_
      refine g_goto (pc := 27) hc 31 dX8_counts_27 (by decide) ?_
      exact g_zret (pc := 31) hc dX8_counts_31 (by decide) (by unfold cts; repeat (first | rw [if_pos c1] | rw [if_neg c1] | rw [if_neg (ne_true_of_eq_false c1)] | rw [if_pos c2] | rw [if_neg c2] | rw [if_neg (ne_true_of_eq_false c2)]); try rfl) (rfl)
    · refine g_iload_n (pc := 16) hc 2 dX8_counts_16 rfl rfl ?_
      refine g_iconst (pc := 17) (v := nI 2) hc dX8_counts_17 (by decide) ?_
      refine g_icmp_ne (pc := 18) hc 30 dX8_counts_18 (by decide) (fun c3 => ?_) (fun c3 => ?_)
      · refine g_iconst (pc := 30) (v := nI 0) hc dX8_counts_30 (by decide) ?_
        exact g_zret (pc := 31) hc dX8_counts_31 (by decide) (by unfold cts; repeat (first | rw [if_pos c1] | rw [if_neg c1] | rw [if_neg (ne_true_of_eq_false c1)] | rw [if_pos c2] | rw [if_neg c2] | rw [if_neg (ne_true_of_eq_false c2)] | rw [if_pos c3] | rw [if_neg c3] | rw [if_neg (ne_true_of_eq_false c3)]); try rfl) (rfl)
      · refine g_iload_n (pc := 21) hc 3 dX8_counts_21 rfl rfl ?_
        refine g_iconst (pc := 22) (v := nI 3) hc dX8_counts_22 (by decide) ?_
        refine g_icmp_ne (pc := 23) hc 30 dX8_counts_23 (by decide) (fun c4 => ?_) (fun c4 => ?_)
        · refine g_iconst (pc := 30) (v := nI 0) hc dX8_counts_30 (by decide) ?_
          exact g_zret (pc := 31) hc dX8_counts_31 (by decide) (by unfold cts; repeat (first | rw [if_pos c1] | rw [if_neg c1] | rw [if_neg (ne_true_of_eq_false c1)] | rw [if_pos c2] | rw [if_neg c2] | rw [if_neg (ne_true_of_eq_false c2)] | rw [if_pos c3] | rw [if_neg c3] | rw [if_neg (ne_true_of_eq_false c3)] | rw [if_pos c4] | rw [if_neg c4] | rw [if_neg (ne_true_of_eq_false c4)]); try rfl) (rfl)
        · refine g_iconst (pc := 26) (v := nI 1) hc dX8_counts_26 (by decide) ?_
          refine g_goto (pc := 27) hc 31 dX8_counts_27 (by decide) ?_
          exact g_zret (pc := 31) hc dX8_counts_31 (by decide) (by unfold cts; repeat (first | rw [if_pos c1] | rw [if_neg c1] | rw [if_neg (ne_true_of_eq_false c1)] | rw [if_pos c2] | rw [if_neg c2] | rw [if_neg (ne_true_of_eq_false c2)] | rw [if_pos c3] | rw [if_neg c3] | rw [if_neg (ne_true_of_eq_false c3)] | rw [if_pos c4] | rw [if_neg c4] | rw [if_neg (ne_true_of_eq_false c4)]); try rfl) (rfl)

theorem dX8_isCoarse_0 : decode cX8_isCoarse 0 = .ok (.aload_n 0, 1) := by decide +kernel
theorem dX8_isCoarse_1 : decode cX8_isCoarse 1 = .ok (.getfield 9, 3) := by decide +kernel
theorem dX8_isCoarse_4 : decode cX8_isCoarse 4 = .ok (.iload_n 1, 1) := by decide +kernel
theorem dX8_isCoarse_5 : decode cX8_isCoarse 5 = .ok (.iaload, 1) := by decide +kernel
theorem dX8_isCoarse_6 : decode cX8_isCoarse 6 = .ok (.iconst 1, 1) := by decide +kernel
theorem dX8_isCoarse_7 : decode cX8_isCoarse 7 = .ok (.if_icmp .ne 7, 3) := by decide +kernel
theorem dX8_isCoarse_10 : decode cX8_isCoarse 10 = .ok (.iconst 1, 1) := by decide +kernel
theorem dX8_isCoarse_11 : decode cX8_isCoarse 11 = .ok (.goto 4, 3) := by decide +kernel
theorem dX8_isCoarse_14 : decode cX8_isCoarse 14 = .ok (.iconst 0, 1) := by decide +kernel
theorem dX8_isCoarse_15 : decode cX8_isCoarse 15 = .ok (.ireturn, 1) := by decide +kernel

set_option maxHeartbeats 4000000 in
set_option maxRecDepth 100000 in
theorem c_X8_isCoarse (l : Launch) (E : Ev) {A : Nat → Prop} (ad : Nat → Nat) (hA : Oka 39 ad A) (sc : Nat → Int32) (ar : Nat → Nat → Int32) (bl : Int64) (j : Nat) (hj : j < 4) : Ct l E yX8_isCoarse (.code yX8_isCoarse cX8_isCoarse 2 (some .boolean)) ({ frames := 0, cells := 0, slots := 0, locals := 0 }) A (cw E ad sc ar bl) [.ref (ad 2), .int (nI j)] (some (.int (bI (decide ((ar 15) j = nI 1))))) (cw E ad sc ar bl) := by
  refine Ct.of (lv := [(0, .ref (ad 2)), (1, .int (nI j))]) (by decide +kernel) (Nat.le_of_ble_eq_true rfl) rfl ?_
  intro zp ze zs zm za zb zh zc hc
  refine g_aload_n (pc := 0) hc 0 dX8_isCoarse_0 rfl rfl ?_
  refine gf_c2_sortOf (pc := 1) hc tw_59 dX8_isCoarse_1 ?_
  refine g_iload_n (pc := 4) hc 1 dX8_isCoarse_4 rfl rfl ?_
  refine la_c15 (pc := 5) hc (j) (rfl) (by omega) dX8_isCoarse_5 ?_
  refine g_iconst (pc := 6) (v := nI 1) hc dX8_isCoarse_6 (by decide) ?_
  refine g_icmp_ne (pc := 7) hc 14 dX8_isCoarse_7 (by decide) (fun c1 => ?_) (fun c1 => ?_)
  · refine g_iconst (pc := 14) (v := nI 0) hc dX8_isCoarse_14 (by decide) ?_
    exact g_zret (pc := 15) hc dX8_isCoarse_15 (by decide) (by simp [bI, c1] <;> rfl) (rfl)
  · refine g_iconst (pc := 10) (v := nI 1) hc dX8_isCoarse_10 (by decide) ?_
    refine g_goto (pc := 11) hc 15 dX8_isCoarse_11 (by decide) ?_
    exact g_zret (pc := 15) hc dX8_isCoarse_15 (by decide) (by simp [bI, c1] <;> rfl) (rfl)

theorem dX8_weight_0 : decode cX8_weight 0 = .ok (.aload_n 0, 1) := by decide +kernel
theorem dX8_weight_1 : decode cX8_weight 1 = .ok (.getfield 9, 3) := by decide +kernel
theorem dX8_weight_4 : decode cX8_weight 4 = .ok (.iload_n 1, 1) := by decide +kernel
theorem dX8_weight_5 : decode cX8_weight 5 = .ok (.iaload, 1) := by decide +kernel
theorem dX8_weight_6 : decode cX8_weight 6 = .ok (.iconst 3, 1) := by decide +kernel
theorem dX8_weight_7 : decode cX8_weight 7 = .ok (.if_icmp .ne 5, 3) := by decide +kernel
theorem dX8_weight_10 : decode cX8_weight 10 = .ok (.iconst 3, 1) := by decide +kernel
theorem dX8_weight_11 : decode cX8_weight 11 = .ok (.ireturn, 1) := by decide +kernel
theorem dX8_weight_12 : decode cX8_weight 12 = .ok (.aload_n 0, 1) := by decide +kernel
theorem dX8_weight_13 : decode cX8_weight 13 = .ok (.getfield 9, 3) := by decide +kernel
theorem dX8_weight_16 : decode cX8_weight 16 = .ok (.iload_n 1, 1) := by decide +kernel
theorem dX8_weight_17 : decode cX8_weight 17 = .ok (.iaload, 1) := by decide +kernel
theorem dX8_weight_18 : decode cX8_weight 18 = .ok (.iconst 2, 1) := by decide +kernel
theorem dX8_weight_19 : decode cX8_weight 19 = .ok (.if_icmp .ne 7, 3) := by decide +kernel
theorem dX8_weight_22 : decode cX8_weight 22 = .ok (.iconst 2, 1) := by decide +kernel
theorem dX8_weight_23 : decode cX8_weight 23 = .ok (.goto 4, 3) := by decide +kernel
theorem dX8_weight_26 : decode cX8_weight 26 = .ok (.iconst 1, 1) := by decide +kernel
theorem dX8_weight_27 : decode cX8_weight 27 = .ok (.ireturn, 1) := by decide +kernel

set_option maxHeartbeats 4000000 in
set_option maxRecDepth 100000 in
theorem c_X8_weight (l : Launch) (E : Ev) {A : Nat → Prop} (ad : Nat → Nat) (hA : Oka 39 ad A) (sc : Nat → Int32) (ar : Nat → Nat → Int32) (bl : Int64) (j : Nat) (hj : j < 4) : Ct l E yX8_weight (.code yX8_weight cX8_weight 2 (some .int)) ({ frames := 0, cells := 0, slots := 0, locals := 0 }) A (cw E ad sc ar bl) [.ref (ad 2), .int (nI j)] (some (.int (wgt (ar 15) j))) (cw E ad sc ar bl) := by
  refine Ct.of (lv := [(0, .ref (ad 2)), (1, .int (nI j))]) (by decide +kernel) (Nat.le_of_ble_eq_true rfl) rfl ?_
  intro zp ze zs zm za zb zh zc hc
  refine g_aload_n (pc := 0) hc 0 dX8_weight_0 rfl rfl ?_
  refine gf_c2_sortOf (pc := 1) hc tw_59 dX8_weight_1 ?_
  refine g_iload_n (pc := 4) hc 1 dX8_weight_4 rfl rfl ?_
  refine la_c15 (pc := 5) hc (j) (rfl) (by omega) dX8_weight_5 ?_
  refine g_iconst (pc := 6) (v := nI 3) hc dX8_weight_6 (by decide) ?_
  refine g_icmp_ne (pc := 7) hc 12 dX8_weight_7 (by decide) (fun c1 => ?_) (fun c1 => ?_)
  · refine g_aload_n (pc := 12) hc 0 dX8_weight_12 rfl rfl ?_
    refine gf_c2_sortOf (pc := 13) hc tw_59 dX8_weight_13 ?_
    refine g_iload_n (pc := 16) hc 1 dX8_weight_16 rfl rfl ?_
    refine la_c15 (pc := 17) hc (j) (rfl) (by omega) dX8_weight_17 ?_
    refine g_iconst (pc := 18) (v := nI 2) hc dX8_weight_18 (by decide) ?_
    refine g_icmp_ne (pc := 19) hc 26 dX8_weight_19 (by decide) (fun c2 => ?_) (fun c2 => ?_)
    · refine g_iconst (pc := 26) (v := nI 1) hc dX8_weight_26 (by decide) ?_
      exact g_iret (pc := 27) hc dX8_weight_27 (by unfold wgt; repeat (first | rw [if_pos c1] | rw [if_neg c1] | rw [if_neg (ne_true_of_eq_false c1)] | rw [if_pos c2] | rw [if_neg c2] | rw [if_neg (ne_true_of_eq_false c2)]); try rfl) (rfl)
    · refine g_iconst (pc := 22) (v := nI 2) hc dX8_weight_22 (by decide) ?_
      refine g_goto (pc := 23) hc 27 dX8_weight_23 (by decide) ?_
      exact g_iret (pc := 27) hc dX8_weight_27 (by unfold wgt; repeat (first | rw [if_pos c1] | rw [if_neg c1] | rw [if_neg (ne_true_of_eq_false c1)] | rw [if_pos c2] | rw [if_neg c2] | rw [if_neg (ne_true_of_eq_false c2)]); try rfl) (rfl)
  · refine g_iconst (pc := 10) (v := nI 3) hc dX8_weight_10 (by decide) ?_
    exact g_iret (pc := 11) hc dX8_weight_11 (by unfold wgt; repeat (first | rw [if_pos c1] | rw [if_neg c1] | rw [if_neg (ne_true_of_eq_false c1)]); try rfl) (rfl)

theorem dX10_number_0 : decode cX10_number 0 = .ok (.aload_n 0, 1) := by decide +kernel
theorem dX10_number_1 : decode cX10_number 1 = .ok (.getfield 27, 3) := by decide +kernel
theorem dX10_number_4 : decode cX10_number 4 = .ok (.ireturn, 1) := by decide +kernel

set_option maxHeartbeats 4000000 in
set_option maxRecDepth 100000 in
theorem c_X10_number (l : Launch) (E : Ev) {A : Nat → Prop} (ad : Nat → Nat) (hA : Oka 39 ad A) (sc : Nat → Int32) (ar : Nat → Nat → Int32) (bl : Int64)  : Ct l E yX10_number (.code yX10_number cX10_number 1 (some .int)) ({ frames := 0, cells := 0, slots := 0, locals := 0 }) A (cw E ad sc ar bl) [.ref (ad 3)] (some (.int (sc 5))) (cw E ad sc ar bl) := by
  refine Ct.of (lv := [(0, .ref (ad 3))]) (by decide +kernel) (Nat.le_of_ble_eq_true rfl) rfl ?_
  intro zp ze zs zm za zb zh zc hc
  refine g_aload_n (pc := 0) hc 0 dX10_number_0 rfl rfl ?_
  refine gf_c3_number (pc := 1) hc tw_74 dX10_number_1 ?_
  exact g_iret (pc := 4) hc dX10_number_4 (rfl) (rfl)

theorem dX10_isFull_0 : decode cX10_isFull 0 = .ok (.aload_n 0, 1) := by decide +kernel
theorem dX10_isFull_1 : decode cX10_isFull 1 = .ok (.getfield 27, 3) := by decide +kernel
theorem dX10_isFull_4 : decode cX10_isFull 4 = .ok (.bipush 60, 2) := by decide +kernel
theorem dX10_isFull_6 : decode cX10_isFull 6 = .ok (.if_icmp .lt 7, 3) := by decide +kernel
theorem dX10_isFull_9 : decode cX10_isFull 9 = .ok (.iconst 1, 1) := by decide +kernel
theorem dX10_isFull_10 : decode cX10_isFull 10 = .ok (.goto 4, 3) := by decide +kernel
theorem dX10_isFull_13 : decode cX10_isFull 13 = .ok (.iconst 0, 1) := by decide +kernel
theorem dX10_isFull_14 : decode cX10_isFull 14 = .ok (.ireturn, 1) := by decide +kernel

set_option maxHeartbeats 4000000 in
set_option maxRecDepth 100000 in
theorem c_X10_isFull (l : Launch) (E : Ev) {A : Nat → Prop} (ad : Nat → Nat) (hA : Oka 39 ad A) (sc : Nat → Int32) (ar : Nat → Nat → Int32) (bl : Int64)  : Ct l E yX10_isFull (.code yX10_isFull cX10_isFull 1 (some .boolean)) ({ frames := 0, cells := 0, slots := 0, locals := 0 }) A (cw E ad sc ar bl) [.ref (ad 3)] (some (.int (bI (!decide (sc 5 < nI 60))))) (cw E ad sc ar bl) := by
  refine Ct.of (lv := [(0, .ref (ad 3))]) (by decide +kernel) (Nat.le_of_ble_eq_true rfl) rfl ?_
  intro zp ze zs zm za zb zh zc hc
  refine g_aload_n (pc := 0) hc 0 dX10_isFull_0 rfl rfl ?_
  refine gf_c3_number (pc := 1) hc tw_74 dX10_isFull_1 ?_
  refine g_bipush (pc := 4) (v := nI 60) hc dX10_isFull_4 (by decide) ?_
  refine g_icmp_lt (pc := 6) hc 13 dX10_isFull_6 (by decide) (fun c1 => ?_) (fun c1 => ?_)
  · refine g_iconst (pc := 13) (v := nI 0) hc dX10_isFull_13 (by decide) ?_
    exact g_zret (pc := 14) hc dX10_isFull_14 (by decide) (by simp [bI, c1] <;> rfl) (rfl)
  · refine g_iconst (pc := 9) (v := nI 1) hc dX10_isFull_9 (by decide) ?_
    refine g_goto (pc := 10) hc 14 dX10_isFull_10 (by decide) ?_
    exact g_zret (pc := 14) hc dX10_isFull_14 (by decide) (by simp [bI, c1] <;> rfl) (rfl)

theorem dX10_has_0 : decode cX10_has 0 = .ok (.iload_n 1, 1) := by decide +kernel
theorem dX10_has_1 : decode cX10_has 1 = .ok (.ifCond .lt 15, 3) := by decide +kernel
theorem dX10_has_4 : decode cX10_has 4 = .ok (.iload_n 1, 1) := by decide +kernel
theorem dX10_has_5 : decode cX10_has 5 = .ok (.aload_n 0, 1) := by decide +kernel
theorem dX10_has_6 : decode cX10_has 6 = .ok (.getfield 27, 3) := by decide +kernel
theorem dX10_has_9 : decode cX10_has 9 = .ok (.if_icmp .ge 7, 3) := by decide +kernel
theorem dX10_has_12 : decode cX10_has 12 = .ok (.iconst 1, 1) := by decide +kernel
theorem dX10_has_13 : decode cX10_has 13 = .ok (.goto 4, 3) := by decide +kernel
theorem dX10_has_16 : decode cX10_has 16 = .ok (.iconst 0, 1) := by decide +kernel
theorem dX10_has_17 : decode cX10_has 17 = .ok (.ireturn, 1) := by decide +kernel

set_option maxHeartbeats 4000000 in
set_option maxRecDepth 100000 in
theorem c_X10_has (l : Launch) (E : Ev) {A : Nat → Prop} (ad : Nat → Nat) (hA : Oka 39 ad A) (sc : Nat → Int32) (ar : Nat → Nat → Int32) (bl : Int64) (x : Int32) : Ct l E yX10_has (.code yX10_has cX10_has 2 (some .boolean)) ({ frames := 0, cells := 0, slots := 0, locals := 0 }) A (cw E ad sc ar bl) [.ref (ad 3), .int x] (some (.int (bI (inx x (sc 5))))) (cw E ad sc ar bl) := by
  refine Ct.of (lv := [(0, .ref (ad 3)), (1, .int x)]) (by decide +kernel) (Nat.le_of_ble_eq_true rfl) rfl ?_
  intro zp ze zs zm za zb zh zc hc
  refine g_iload_n (pc := 0) hc 1 dX10_has_0 rfl rfl ?_
  refine g_if_lt (pc := 1) hc 16 dX10_has_1 (by decide) (fun c1 => ?_) (fun c1 => ?_)
  · refine g_iconst (pc := 16) (v := nI 0) hc dX10_has_16 (by decide) ?_
    exact g_zret (pc := 17) hc dX10_has_17 (by decide) (by simp [bI, inx, c1] <;> rfl) (rfl)
  · refine g_iload_n (pc := 4) hc 1 dX10_has_4 rfl rfl ?_
    refine g_aload_n (pc := 5) hc 0 dX10_has_5 rfl rfl ?_
    refine gf_c3_number (pc := 6) hc tw_74 dX10_has_6 ?_
    refine g_icmp_ge (pc := 9) hc 16 dX10_has_9 (by decide) (fun c2 => ?_) (fun c2 => ?_)
    · refine g_iconst (pc := 16) (v := nI 0) hc dX10_has_16 (by decide) ?_
      exact g_zret (pc := 17) hc dX10_has_17 (by decide) (by simp [bI, inx, c1, c2] <;> rfl) (rfl)
    · refine g_iconst (pc := 12) (v := nI 1) hc dX10_has_12 (by decide) ?_
      refine g_goto (pc := 13) hc 17 dX10_has_13 (by decide) ?_
      exact g_zret (pc := 17) hc dX10_has_17 (by decide) (by simp [bI, inx, c1, c2] <;> rfl) (rfl)

theorem dX10_add_0 : decode cX10_add 0 = .ok (.aload_n 0, 1) := by decide +kernel
theorem dX10_add_1 : decode cX10_add 1 = .ok (.getfield 11, 3) := by decide +kernel
theorem dX10_add_4 : decode cX10_add 4 = .ok (.aload_n 0, 1) := by decide +kernel
theorem dX10_add_5 : decode cX10_add 5 = .ok (.getfield 27, 3) := by decide +kernel
theorem dX10_add_8 : decode cX10_add 8 = .ok (.iload_n 1, 1) := by decide +kernel
theorem dX10_add_9 : decode cX10_add 9 = .ok (.iastore, 1) := by decide +kernel
theorem dX10_add_10 : decode cX10_add 10 = .ok (.aload_n 0, 1) := by decide +kernel
theorem dX10_add_11 : decode cX10_add 11 = .ok (.getfield 15, 3) := by decide +kernel
theorem dX10_add_14 : decode cX10_add 14 = .ok (.aload_n 0, 1) := by decide +kernel
theorem dX10_add_15 : decode cX10_add 15 = .ok (.getfield 27, 3) := by decide +kernel
theorem dX10_add_18 : decode cX10_add 18 = .ok (.iload_n 2, 1) := by decide +kernel
theorem dX10_add_19 : decode cX10_add 19 = .ok (.iastore, 1) := by decide +kernel
theorem dX10_add_20 : decode cX10_add 20 = .ok (.aload_n 0, 1) := by decide +kernel
theorem dX10_add_21 : decode cX10_add 21 = .ok (.getfield 18, 3) := by decide +kernel
theorem dX10_add_24 : decode cX10_add 24 = .ok (.aload_n 0, 1) := by decide +kernel
theorem dX10_add_25 : decode cX10_add 25 = .ok (.getfield 27, 3) := by decide +kernel
theorem dX10_add_28 : decode cX10_add 28 = .ok (.iload_n 3, 1) := by decide +kernel
theorem dX10_add_29 : decode cX10_add 29 = .ok (.iastore, 1) := by decide +kernel
theorem dX10_add_30 : decode cX10_add 30 = .ok (.aload_n 0, 1) := by decide +kernel
theorem dX10_add_31 : decode cX10_add 31 = .ok (.dup, 1) := by decide +kernel
theorem dX10_add_32 : decode cX10_add 32 = .ok (.getfield 27, 3) := by decide +kernel
theorem dX10_add_35 : decode cX10_add 35 = .ok (.iconst 1, 1) := by decide +kernel
theorem dX10_add_36 : decode cX10_add 36 = .ok (.iadd, 1) := by decide +kernel
theorem dX10_add_37 : decode cX10_add 37 = .ok (.putfield 27, 3) := by decide +kernel
theorem dX10_add_40 : decode cX10_add 40 = .ok (.aload_n 0, 1) := by decide +kernel
theorem dX10_add_41 : decode cX10_add 41 = .ok (.getfield 27, 3) := by decide +kernel
theorem dX10_add_44 : decode cX10_add 44 = .ok (.iconst 1, 1) := by decide +kernel
theorem dX10_add_45 : decode cX10_add 45 = .ok (.isub, 1) := by decide +kernel
theorem dX10_add_46 : decode cX10_add 46 = .ok (.ireturn, 1) := by decide +kernel

set_option maxHeartbeats 4000000 in
set_option maxRecDepth 100000 in
theorem c_X10_add (l : Launch) (E : Ev) {A : Nat → Prop} (ad : Nat → Nat) (hA : Oka 39 ad A) (sc : Nat → Int32) (ar : Nat → Nat → Int32) (bl : Int64) {nW : Nat} (x : Int32) (y : Int32) (z : Int32) (hW : sc 5 = nI nW) (hW1 : nW < 60) : Ct l E yX10_add (.code yX10_add cX10_add 4 (some .int)) ({ frames := 0, cells := 0, slots := 0, locals := 0 }) A (cw E ad sc ar bl) [.ref (ad 3), .int x, .int y, .int z] (some (.int (nI nW))) (cw E ad (va_up sc 5 (nI (nW + 1))) (va_up (va_up (va_up ar 16 (upd (ar 16) nW x)) 17 (upd (ar 17) nW y)) 18 (upd (ar 18) nW z)) bl) := by
  refine Ct.of (lv := [(0, .ref (ad 3)), (1, .int x), (2, .int y), (3, .int z)]) (by decide +kernel) (Nat.le_of_ble_eq_true rfl) rfl ?_
  intro zp ze zs zm za zb zh zc hc
  refine g_aload_n (pc := 0) hc 0 dX10_add_0 rfl rfl ?_
  refine gf_c3_walkers (pc := 1) hc tw_69 dX10_add_1 ?_
  refine g_aload_n (pc := 4) hc 0 dX10_add_4 rfl rfl ?_
  refine gf_c3_number (pc := 5) hc tw_74 dX10_add_5 ?_
  refine g_topi (v := nI nW) (hW) ?_
  refine g_iload_n (pc := 8) hc 1 dX10_add_8 rfl rfl ?_
  refine sa_c16 (pc := 9) hc hA (nW) (rfl) (by omega) dX10_add_9 ?_
  refine g_aload_n (pc := 10) hc 0 dX10_add_10 rfl rfl ?_
  refine gf_c3_rows (pc := 11) hc tw_70 dX10_add_11 ?_
  refine g_aload_n (pc := 14) hc 0 dX10_add_14 rfl rfl ?_
  refine gf_c3_number (pc := 15) hc tw_74 dX10_add_15 ?_
  refine g_topi (v := nI nW) (hW) ?_
  refine g_iload_n (pc := 18) hc 2 dX10_add_18 rfl rfl ?_
  refine sa_c17 (pc := 19) hc hA (nW) (rfl) (by omega) dX10_add_19 ?_
  refine g_eq (ws' := cw E ad sc (va_up (va_up ar 16 (upd (ar 16) nW x)) 17 (upd (ar 17) nW y)) bl) (lv' := [(0, .ref (ad 3)), (1, .int x), (2, .int y), (3, .int z)]) rfl rfl rfl ?_
  refine g_aload_n (pc := 20) hc 0 dX10_add_20 rfl rfl ?_
  refine gf_c3_days (pc := 21) hc tw_71 dX10_add_21 ?_
  refine g_aload_n (pc := 24) hc 0 dX10_add_24 rfl rfl ?_
  refine gf_c3_number (pc := 25) hc tw_74 dX10_add_25 ?_
  refine g_topi (v := nI nW) (hW) ?_
  refine g_iload_n (pc := 28) hc 3 dX10_add_28 rfl rfl ?_
  refine sa_c18 (pc := 29) hc hA (nW) (rfl) (by omega) dX10_add_29 ?_
  refine g_eq (ws' := cw E ad sc (va_up (va_up (va_up ar 16 (upd (ar 16) nW x)) 17 (upd (ar 17) nW y)) 18 (upd (ar 18) nW z)) bl) (lv' := [(0, .ref (ad 3)), (1, .int x), (2, .int y), (3, .int z)]) rfl rfl rfl ?_
  refine g_aload_n (pc := 30) hc 0 dX10_add_30 rfl rfl ?_
  refine g_dup (pc := 31) hc dX10_add_31 rfl ?_
  refine gf_c3_number (pc := 32) hc tw_74 dX10_add_32 ?_
  refine g_topi (v := nI nW) (hW) ?_
  refine g_iconst (pc := 35) (v := nI 1) hc dX10_add_35 (by decide) ?_
  refine g_iadd (pc := 36) hc dX10_add_36 ?_
  refine g_topi (v := nI (nW + 1)) (nI_add nW 1) ?_
  refine pf_c3_number (pc := 37) hc hA tw_74 dX10_add_37 ?_
  refine g_aload_n (pc := 40) hc 0 dX10_add_40 rfl rfl ?_
  refine gf_c3_number (pc := 41) hc tw_74 dX10_add_41 ?_
  refine g_topi (v := nI (nW + 1)) rfl ?_
  refine g_iconst (pc := 44) (v := nI 1) hc dX10_add_44 (by decide) ?_
  refine g_isub (pc := 45) hc dX10_add_45 ?_
  exact g_iret (pc := 46) hc dX10_add_46 (by rw [nI1e, nI_pred]) (rfl)

theorem dX10_walkerOf_0 : decode cX10_walkerOf 0 = .ok (.aload_n 0, 1) := by decide +kernel
theorem dX10_walkerOf_1 : decode cX10_walkerOf 1 = .ok (.getfield 11, 3) := by decide +kernel
theorem dX10_walkerOf_4 : decode cX10_walkerOf 4 = .ok (.iload_n 1, 1) := by decide +kernel
theorem dX10_walkerOf_5 : decode cX10_walkerOf 5 = .ok (.iaload, 1) := by decide +kernel
theorem dX10_walkerOf_6 : decode cX10_walkerOf 6 = .ok (.ireturn, 1) := by decide +kernel

set_option maxHeartbeats 4000000 in
set_option maxRecDepth 100000 in
theorem c_X10_walkerOf (l : Launch) (E : Ev) {A : Nat → Prop} (ad : Nat → Nat) (hA : Oka 39 ad A) (sc : Nat → Int32) (ar : Nat → Nat → Int32) (bl : Int64) (j : Nat) (hj : j < 60) : Ct l E yX10_walkerOf (.code yX10_walkerOf cX10_walkerOf 2 (some .int)) ({ frames := 0, cells := 0, slots := 0, locals := 0 }) A (cw E ad sc ar bl) [.ref (ad 3), .int (nI j)] (some (.int ((ar 16) j))) (cw E ad sc ar bl) := by
  refine Ct.of (lv := [(0, .ref (ad 3)), (1, .int (nI j))]) (by decide +kernel) (Nat.le_of_ble_eq_true rfl) rfl ?_
  intro zp ze zs zm za zb zh zc hc
  refine g_aload_n (pc := 0) hc 0 dX10_walkerOf_0 rfl rfl ?_
  refine gf_c3_walkers (pc := 1) hc tw_69 dX10_walkerOf_1 ?_
  refine g_iload_n (pc := 4) hc 1 dX10_walkerOf_4 rfl rfl ?_
  refine la_c16 (pc := 5) hc (j) (rfl) (by omega) dX10_walkerOf_5 ?_
  exact g_iret (pc := 6) hc dX10_walkerOf_6 (rfl) (rfl)

theorem dX10_rowOf_0 : decode cX10_rowOf 0 = .ok (.aload_n 0, 1) := by decide +kernel
theorem dX10_rowOf_1 : decode cX10_rowOf 1 = .ok (.getfield 15, 3) := by decide +kernel
theorem dX10_rowOf_4 : decode cX10_rowOf 4 = .ok (.iload_n 1, 1) := by decide +kernel
theorem dX10_rowOf_5 : decode cX10_rowOf 5 = .ok (.iaload, 1) := by decide +kernel
theorem dX10_rowOf_6 : decode cX10_rowOf 6 = .ok (.ireturn, 1) := by decide +kernel

set_option maxHeartbeats 4000000 in
set_option maxRecDepth 100000 in
theorem c_X10_rowOf (l : Launch) (E : Ev) {A : Nat → Prop} (ad : Nat → Nat) (hA : Oka 39 ad A) (sc : Nat → Int32) (ar : Nat → Nat → Int32) (bl : Int64) (j : Nat) (hj : j < 60) : Ct l E yX10_rowOf (.code yX10_rowOf cX10_rowOf 2 (some .int)) ({ frames := 0, cells := 0, slots := 0, locals := 0 }) A (cw E ad sc ar bl) [.ref (ad 3), .int (nI j)] (some (.int ((ar 17) j))) (cw E ad sc ar bl) := by
  refine Ct.of (lv := [(0, .ref (ad 3)), (1, .int (nI j))]) (by decide +kernel) (Nat.le_of_ble_eq_true rfl) rfl ?_
  intro zp ze zs zm za zb zh zc hc
  refine g_aload_n (pc := 0) hc 0 dX10_rowOf_0 rfl rfl ?_
  refine gf_c3_rows (pc := 1) hc tw_70 dX10_rowOf_1 ?_
  refine g_iload_n (pc := 4) hc 1 dX10_rowOf_4 rfl rfl ?_
  refine la_c17 (pc := 5) hc (j) (rfl) (by omega) dX10_rowOf_5 ?_
  exact g_iret (pc := 6) hc dX10_rowOf_6 (rfl) (rfl)

theorem dX10_dayOf_0 : decode cX10_dayOf 0 = .ok (.aload_n 0, 1) := by decide +kernel
theorem dX10_dayOf_1 : decode cX10_dayOf 1 = .ok (.getfield 18, 3) := by decide +kernel
theorem dX10_dayOf_4 : decode cX10_dayOf 4 = .ok (.iload_n 1, 1) := by decide +kernel
theorem dX10_dayOf_5 : decode cX10_dayOf 5 = .ok (.iaload, 1) := by decide +kernel
theorem dX10_dayOf_6 : decode cX10_dayOf 6 = .ok (.ireturn, 1) := by decide +kernel

set_option maxHeartbeats 4000000 in
set_option maxRecDepth 100000 in
theorem c_X10_dayOf (l : Launch) (E : Ev) {A : Nat → Prop} (ad : Nat → Nat) (hA : Oka 39 ad A) (sc : Nat → Int32) (ar : Nat → Nat → Int32) (bl : Int64) (j : Nat) (hj : j < 60) : Ct l E yX10_dayOf (.code yX10_dayOf cX10_dayOf 2 (some .int)) ({ frames := 0, cells := 0, slots := 0, locals := 0 }) A (cw E ad sc ar bl) [.ref (ad 3), .int (nI j)] (some (.int ((ar 18) j))) (cw E ad sc ar bl) := by
  refine Ct.of (lv := [(0, .ref (ad 3)), (1, .int (nI j))]) (by decide +kernel) (Nat.le_of_ble_eq_true rfl) rfl ?_
  intro zp ze zs zm za zb zh zc hc
  refine g_aload_n (pc := 0) hc 0 dX10_dayOf_0 rfl rfl ?_
  refine gf_c3_days (pc := 1) hc tw_71 dX10_dayOf_1 ?_
  refine g_iload_n (pc := 4) hc 1 dX10_dayOf_4 rfl rfl ?_
  refine la_c18 (pc := 5) hc (j) (rfl) (by omega) dX10_dayOf_5 ?_
  exact g_iret (pc := 6) hc dX10_dayOf_6 (rfl) (rfl)

theorem dX10_tallyPlace_0 : decode cX10_tallyPlace 0 = .ok (.iload_n 0, 1) := by decide +kernel
theorem dX10_tallyPlace_1 : decode cX10_tallyPlace 1 = .ok (.bipush 8, 2) := by decide +kernel
theorem dX10_tallyPlace_3 : decode cX10_tallyPlace 3 = .ok (.imul, 1) := by decide +kernel
theorem dX10_tallyPlace_4 : decode cX10_tallyPlace 4 = .ok (.iload_n 1, 1) := by decide +kernel
theorem dX10_tallyPlace_5 : decode cX10_tallyPlace 5 = .ok (.iadd, 1) := by decide +kernel
theorem dX10_tallyPlace_6 : decode cX10_tallyPlace 6 = .ok (.iconst 4, 1) := by decide +kernel
theorem dX10_tallyPlace_7 : decode cX10_tallyPlace 7 = .ok (.imul, 1) := by decide +kernel
theorem dX10_tallyPlace_8 : decode cX10_tallyPlace 8 = .ok (.iload_n 2, 1) := by decide +kernel
theorem dX10_tallyPlace_9 : decode cX10_tallyPlace 9 = .ok (.iadd, 1) := by decide +kernel
theorem dX10_tallyPlace_10 : decode cX10_tallyPlace 10 = .ok (.ireturn, 1) := by decide +kernel

set_option maxHeartbeats 4000000 in
set_option maxRecDepth 100000 in
theorem c_X10_tallyPlace (l : Launch) (E : Ev) {A : Nat → Prop} (ad : Nat → Nat) (hA : Oka 39 ad A) (sc : Nat → Int32) (ar : Nat → Nat → Int32) (bl : Int64) (i : Nat) (c : Nat) (j : Nat) : Ct l E yX10_tallyPlace (.code yX10_tallyPlace cX10_tallyPlace 3 (some .int)) ({ frames := 0, cells := 0, slots := 0, locals := 0 }) A (cw E ad sc ar bl) [.int (nI i), .int (nI c), .int (nI j)] (some (.int (nI ((i * 8 + c) * 4 + j)))) (cw E ad sc ar bl) := by
  refine Ct.of (lv := [(0, .int (nI i)), (1, .int (nI c)), (2, .int (nI j))]) (by decide +kernel) (Nat.le_of_ble_eq_true rfl) rfl ?_
  intro zp ze zs zm za zb zh zc hc
  refine g_iload_n (pc := 0) hc 0 dX10_tallyPlace_0 rfl rfl ?_
  refine g_bipush (pc := 1) (v := nI 8) hc dX10_tallyPlace_1 (by decide) ?_
  refine g_imul (pc := 3) hc dX10_tallyPlace_3 ?_
  refine g_topi (v := nI (i * 8)) (pk_mul i 8) ?_
  refine g_iload_n (pc := 4) hc 1 dX10_tallyPlace_4 rfl rfl ?_
  refine g_iadd (pc := 5) hc dX10_tallyPlace_5 ?_
  refine g_topi (v := nI ((i * 8) + c)) (nI_add (i * 8) c) ?_
  refine g_iconst (pc := 6) (v := nI 4) hc dX10_tallyPlace_6 (by decide) ?_
  refine g_imul (pc := 7) hc dX10_tallyPlace_7 ?_
  refine g_topi (v := nI (((i * 8) + c) * 4)) (pk_mul ((i * 8) + c) 4) ?_
  refine g_iload_n (pc := 8) hc 2 dX10_tallyPlace_8 rfl rfl ?_
  refine g_iadd (pc := 9) hc dX10_tallyPlace_9 ?_
  refine g_topi (v := nI ((((i * 8) + c) * 4) + j)) (nI_add (((i * 8) + c) * 4) j) ?_
  exact g_iret (pc := 10) hc dX10_tallyPlace_10 (rfl) (rfl)

theorem dX10_bear_0 : decode cX10_bear 0 = .ok (.aload_n 0, 1) := by decide +kernel
theorem dX10_bear_1 : decode cX10_bear 1 = .ok (.getfield 21, 3) := by decide +kernel
theorem dX10_bear_4 : decode cX10_bear 4 = .ok (.iload_n 1, 1) := by decide +kernel
theorem dX10_bear_5 : decode cX10_bear 5 = .ok (.iconst 4, 1) := by decide +kernel
theorem dX10_bear_6 : decode cX10_bear 6 = .ok (.imul, 1) := by decide +kernel
theorem dX10_bear_7 : decode cX10_bear 7 = .ok (.iload_n 3, 1) := by decide +kernel
theorem dX10_bear_8 : decode cX10_bear 8 = .ok (.iadd, 1) := by decide +kernel
theorem dX10_bear_9 : decode cX10_bear 9 = .ok (.dup2, 1) := by decide +kernel
theorem dX10_bear_10 : decode cX10_bear 10 = .ok (.iaload, 1) := by decide +kernel
theorem dX10_bear_11 : decode cX10_bear 11 = .ok (.iload 4, 2) := by decide +kernel
theorem dX10_bear_13 : decode cX10_bear 13 = .ok (.iadd, 1) := by decide +kernel
theorem dX10_bear_14 : decode cX10_bear 14 = .ok (.iastore, 1) := by decide +kernel
theorem dX10_bear_15 : decode cX10_bear 15 = .ok (.aload_n 0, 1) := by decide +kernel
theorem dX10_bear_16 : decode cX10_bear 16 = .ok (.getfield 24, 3) := by decide +kernel
theorem dX10_bear_19 : decode cX10_bear 19 = .ok (.iload_n 1, 1) := by decide +kernel
theorem dX10_bear_20 : decode cX10_bear 20 = .ok (.iload_n 2, 1) := by decide +kernel
theorem dX10_bear_21 : decode cX10_bear 21 = .ok (.iload_n 3, 1) := by decide +kernel
theorem dX10_bear_22 : decode cX10_bear 22 = .ok (.invokestatic 37, 3) := by decide +kernel
theorem dX10_bear_25 : decode cX10_bear 25 = .ok (.dup2, 1) := by decide +kernel
theorem dX10_bear_26 : decode cX10_bear 26 = .ok (.iaload, 1) := by decide +kernel
theorem dX10_bear_27 : decode cX10_bear 27 = .ok (.iload 4, 2) := by decide +kernel
theorem dX10_bear_29 : decode cX10_bear 29 = .ok (.iadd, 1) := by decide +kernel
theorem dX10_bear_30 : decode cX10_bear 30 = .ok (.iastore, 1) := by decide +kernel
theorem dX10_bear_31 : decode cX10_bear 31 = .ok (.return_, 1) := by decide +kernel

set_option maxHeartbeats 4000000 in
set_option maxRecDepth 100000 in
theorem c_X10_bear (l : Launch) (E : Ev) {A : Nat → Prop} (ad : Nat → Nat) (hA : Oka 39 ad A) (sc : Nat → Int32) (ar : Nat → Nat → Int32) (bl : Int64) (i : Nat) (c : Nat) (j : Nat) (n : Int32) (hi : i < 60) (hcc : c < 8) (hj : j < 4) : Ct l E yX10_bear (.code yX10_bear cX10_bear 5 none) ({ frames := 1, cells := 0, slots := 0, locals := 22 }) A (cw E ad sc ar bl) [.ref (ad 3), .int (nI i), .int (nI c), .int (nI j), .int n] (none) (cw E ad sc (va_up (va_up ar 19 (upd (ar 19) (i * 4 + j) ((ar 19) (i * 4 + j) + n))) 20 (upd (ar 20) ((i * 8 + c) * 4 + j) ((ar 20) ((i * 8 + c) * 4 + j) + n))) bl) := by
  refine Ct.of (lv := [(0, .ref (ad 3)), (1, .int (nI i)), (2, .int (nI c)), (3, .int (nI j)), (4, .int n)]) (by decide +kernel) (Nat.le_of_ble_eq_true rfl) rfl ?_
  intro zp ze zs zm za zb zh zc hc
  refine g_aload_n (pc := 0) hc 0 dX10_bear_0 rfl rfl ?_
  refine gf_c3_sums (pc := 1) hc tw_72 dX10_bear_1 ?_
  refine g_iload_n (pc := 4) hc 1 dX10_bear_4 rfl rfl ?_
  refine g_iconst (pc := 5) (v := nI 4) hc dX10_bear_5 (by decide) ?_
  refine g_imul (pc := 6) hc dX10_bear_6 ?_
  refine g_topi (v := nI (i * 4)) (pk_mul i 4) ?_
  refine g_iload_n (pc := 7) hc 3 dX10_bear_7 rfl rfl ?_
  refine g_iadd (pc := 8) hc dX10_bear_8 ?_
  refine g_topi (v := nI ((i * 4) + j)) (nI_add (i * 4) j) ?_
  refine g_dup2 (pc := 9) hc dX10_bear_9 rfl rfl ?_
  refine la_c19 (pc := 10) hc ((i * 4) + j) (rfl) (by omega) dX10_bear_10 ?_
  refine g_iload (pc := 11) hc 4 dX10_bear_11 rfl ?_
  refine g_iadd (pc := 13) hc dX10_bear_13 ?_
  refine sa_c19 (pc := 14) hc hA ((i * 4) + j) (rfl) (by omega) dX10_bear_14 ?_
  refine g_aload_n (pc := 15) hc 0 dX10_bear_15 rfl rfl ?_
  refine gf_c3_tallies (pc := 16) hc tw_73 dX10_bear_16 ?_
  refine g_iload_n (pc := 19) hc 1 dX10_bear_19 rfl rfl ?_
  refine g_iload_n (pc := 20) hc 2 dX10_bear_20 rfl rfl ?_
  refine g_iload_n (pc := 21) hc 3 dX10_bear_21 rfl rfl ?_
  refine g_callSi (pc := 22) (rest := [.ref (ad 20)]) (As := [.int (nI i), .int (nI c), .int (nI j)]) hc (c_X10_tallyPlace l E ad hA sc (va_up ar 19 (upd (ar 19) ((i * 4) + j) (((ar 19) ((i * 4) + j)) + n))) bl i c j) mi_X10_tallyPlace tw_422 rfl ⟨rfl, rfl, by decide, by decide⟩ (Nat.le_of_ble_eq_true rfl) ⟨Nat.le_refl _, Nat.le_refl _⟩ rfl dX10_bear_22 ?_
  refine g_topi (v := nI ((i * 8 + c) * 4 + j)) rfl ?_
  refine g_dup2 (pc := 25) hc dX10_bear_25 rfl rfl ?_
  refine la_c20 (pc := 26) hc ((i * 8 + c) * 4 + j) (rfl) (by omega) dX10_bear_26 ?_
  refine g_topi (v := (ar 20) ((i * 8 + c) * 4 + j)) rfl ?_
  refine g_iload (pc := 27) hc 4 dX10_bear_27 rfl ?_
  refine g_iadd (pc := 29) hc dX10_bear_29 ?_
  refine sa_c20 (pc := 30) hc hA ((i * 8 + c) * 4 + j) (rfl) (by omega) dX10_bear_30 ?_
  refine g_eq (ws' := cw E ad sc (va_up (va_up ar 19 (upd (ar 19) ((i * 4) + j) (((ar 19) ((i * 4) + j)) + n))) 20 (upd (ar 20) ((i * 8 + c) * 4 + j) (((ar 20) ((i * 8 + c) * 4 + j)) + n))) bl) (lv' := [(0, .ref (ad 3)), (1, .int (nI i)), (2, .int (nI c)), (3, .int (nI j)), (4, .int n)]) rfl rfl rfl ?_
  exact g_vret (pc := 31) hc dX10_bear_31 rfl (rfl)

theorem dX10_borne_0 : decode cX10_borne 0 = .ok (.aload_n 0, 1) := by decide +kernel
theorem dX10_borne_1 : decode cX10_borne 1 = .ok (.iload_n 1, 1) := by decide +kernel
theorem dX10_borne_2 : decode cX10_borne 2 = .ok (.invokevirtual 41, 3) := by decide +kernel
theorem dX10_borne_5 : decode cX10_borne 5 = .ok (.ifCond .eq 17, 3) := by decide +kernel
theorem dX10_borne_8 : decode cX10_borne 8 = .ok (.aload_n 0, 1) := by decide +kernel
theorem dX10_borne_9 : decode cX10_borne 9 = .ok (.getfield 24, 3) := by decide +kernel
theorem dX10_borne_12 : decode cX10_borne 12 = .ok (.iload_n 1, 1) := by decide +kernel
theorem dX10_borne_13 : decode cX10_borne 13 = .ok (.iload_n 2, 1) := by decide +kernel
theorem dX10_borne_14 : decode cX10_borne 14 = .ok (.iload_n 3, 1) := by decide +kernel
theorem dX10_borne_15 : decode cX10_borne 15 = .ok (.invokestatic 37, 3) := by decide +kernel
theorem dX10_borne_18 : decode cX10_borne 18 = .ok (.iaload, 1) := by decide +kernel
theorem dX10_borne_19 : decode cX10_borne 19 = .ok (.goto 4, 3) := by decide +kernel
theorem dX10_borne_22 : decode cX10_borne 22 = .ok (.iconst 0, 1) := by decide +kernel
theorem dX10_borne_23 : decode cX10_borne 23 = .ok (.ireturn, 1) := by decide +kernel

set_option maxHeartbeats 4000000 in
set_option maxRecDepth 100000 in
theorem c_X10_borne (l : Launch) (E : Ev) {A : Nat → Prop} (ad : Nat → Nat) (hA : Oka 39 ad A) (sc : Nat → Int32) (ar : Nat → Nat → Int32) (bl : Int64) {nW : Nat} (x : Int32) (c : Nat) (j : Nat) (hW : sc 5 = nI nW) (hW60 : nW ≤ 60) (hcc : c < 8) (hj : j < 4) : Ct l E yX10_borne (.code yX10_borne cX10_borne 4 (some .int)) ({ frames := 1, cells := 0, slots := 0, locals := 22 }) A (cw E ad sc ar bl) [.ref (ad 3), .int x, .int (nI c), .int (nI j)] (some (.int (brn (sc 5) (ar 20) x c j))) (cw E ad sc ar bl) := by
  refine Ct.of (lv := [(0, .ref (ad 3)), (1, .int x), (2, .int (nI c)), (3, .int (nI j))]) (by decide +kernel) (Nat.le_of_ble_eq_true rfl) rfl ?_
  intro zp ze zs zm za zb zh zc hc
  refine g_aload_n (pc := 0) hc 0 dX10_borne_0 rfl rfl ?_
  refine g_iload_n (pc := 1) hc 1 dX10_borne_1 rfl rfl ?_
  refine g_callVi (pc := 2) (rest := []) (As := [.int x]) hc (c_X10_has l E ad hA sc ar bl x) mi_X10_has tw_449 3 rfl rfl rfl rfl ⟨rfl, rfl, by decide, by decide⟩ (Nat.le_of_ble_eq_true rfl) ⟨Nat.le_refl _, Nat.le_refl _⟩ rfl dX10_borne_2 ?_
  refine g_if_eq_b (pc := 5) hc 22 dX10_borne_5 (by decide) (fun c1 => ?_) (fun c1 => ?_)
  · refine g_iconst (pc := 22) (v := nI 0) hc dX10_borne_22 (by decide) ?_
    exact g_iret (pc := 23) hc dX10_borne_23 (by simp [brn, c1] <;> rfl) (rfl)
  · rw [hW] at c1
    obtain ⟨i, hi, rfl⟩ := inx_of (by omega) c1
    refine g_aload_n (pc := 8) hc 0 dX10_borne_8 rfl rfl ?_
    refine gf_c3_tallies (pc := 9) hc tw_73 dX10_borne_9 ?_
    refine g_iload_n (pc := 12) hc 1 dX10_borne_12 rfl rfl ?_
    refine g_iload_n (pc := 13) hc 2 dX10_borne_13 rfl rfl ?_
    refine g_iload_n (pc := 14) hc 3 dX10_borne_14 rfl rfl ?_
    refine g_callSi (pc := 15) (rest := [.ref (ad 20)]) (As := [.int (nI i), .int (nI c), .int (nI j)]) hc (c_X10_tallyPlace l E ad hA sc ar bl i c j) mi_X10_tallyPlace tw_422 rfl ⟨rfl, rfl, by decide, by decide⟩ (Nat.le_of_ble_eq_true rfl) ⟨Nat.le_refl _, Nat.le_refl _⟩ rfl dX10_borne_15 ?_
    refine la_c20 (pc := 18) hc ((i * 8 + c) * 4 + j) (rfl) (by omega) dX10_borne_18 ?_
    refine g_goto (pc := 19) hc 23 dX10_borne_19 (by decide) ?_
    exact g_iret (pc := 23) hc dX10_borne_23 (by rw [brn, hW, if_pos c1, nI_clamp (by omega)]) (rfl)

theorem dX10_sumOf_0 : decode cX10_sumOf 0 = .ok (.aload_n 0, 1) := by decide +kernel
theorem dX10_sumOf_1 : decode cX10_sumOf 1 = .ok (.iload_n 1, 1) := by decide +kernel
theorem dX10_sumOf_2 : decode cX10_sumOf 2 = .ok (.invokevirtual 41, 3) := by decide +kernel
theorem dX10_sumOf_5 : decode cX10_sumOf 5 = .ok (.ifCond .eq 16, 3) := by decide +kernel
theorem dX10_sumOf_8 : decode cX10_sumOf 8 = .ok (.aload_n 0, 1) := by decide +kernel
theorem dX10_sumOf_9 : decode cX10_sumOf 9 = .ok (.getfield 21, 3) := by decide +kernel
theorem dX10_sumOf_12 : decode cX10_sumOf 12 = .ok (.iload_n 1, 1) := by decide +kernel
theorem dX10_sumOf_13 : decode cX10_sumOf 13 = .ok (.iconst 4, 1) := by decide +kernel
theorem dX10_sumOf_14 : decode cX10_sumOf 14 = .ok (.imul, 1) := by decide +kernel
theorem dX10_sumOf_15 : decode cX10_sumOf 15 = .ok (.iload_n 2, 1) := by decide +kernel
theorem dX10_sumOf_16 : decode cX10_sumOf 16 = .ok (.iadd, 1) := by decide +kernel
theorem dX10_sumOf_17 : decode cX10_sumOf 17 = .ok (.iaload, 1) := by decide +kernel
theorem dX10_sumOf_18 : decode cX10_sumOf 18 = .ok (.goto 4, 3) := by decide +kernel
theorem dX10_sumOf_21 : decode cX10_sumOf 21 = .ok (.iconst 0, 1) := by decide +kernel
theorem dX10_sumOf_22 : decode cX10_sumOf 22 = .ok (.ireturn, 1) := by decide +kernel

set_option maxHeartbeats 4000000 in
set_option maxRecDepth 100000 in
theorem c_X10_sumOf (l : Launch) (E : Ev) {A : Nat → Prop} (ad : Nat → Nat) (hA : Oka 39 ad A) (sc : Nat → Int32) (ar : Nat → Nat → Int32) (bl : Int64) {nW : Nat} (x : Int32) (j : Nat) (hW : sc 5 = nI nW) (hW60 : nW ≤ 60) (hj : j < 4) : Ct l E yX10_sumOf (.code yX10_sumOf cX10_sumOf 3 (some .int)) ({ frames := 1, cells := 0, slots := 0, locals := 21 }) A (cw E ad sc ar bl) [.ref (ad 3), .int x, .int (nI j)] (some (.int (smo (sc 5) (ar 19) x j))) (cw E ad sc ar bl) := by
  refine Ct.of (lv := [(0, .ref (ad 3)), (1, .int x), (2, .int (nI j))]) (by decide +kernel) (Nat.le_of_ble_eq_true rfl) rfl ?_
  intro zp ze zs zm za zb zh zc hc
  refine g_aload_n (pc := 0) hc 0 dX10_sumOf_0 rfl rfl ?_
  refine g_iload_n (pc := 1) hc 1 dX10_sumOf_1 rfl rfl ?_
  refine g_callVi (pc := 2) (rest := []) (As := [.int x]) hc (c_X10_has l E ad hA sc ar bl x) mi_X10_has tw_449 3 rfl rfl rfl rfl ⟨rfl, rfl, by decide, by decide⟩ (Nat.le_of_ble_eq_true rfl) ⟨Nat.le_refl _, Nat.le_refl _⟩ rfl dX10_sumOf_2 ?_
  refine g_if_eq_b (pc := 5) hc 21 dX10_sumOf_5 (by decide) (fun c1 => ?_) (fun c1 => ?_)
  · refine g_iconst (pc := 21) (v := nI 0) hc dX10_sumOf_21 (by decide) ?_
    exact g_iret (pc := 22) hc dX10_sumOf_22 (by simp [smo, c1] <;> rfl) (rfl)
  · rw [hW] at c1
    obtain ⟨i, hi, rfl⟩ := inx_of (by omega) c1
    refine g_aload_n (pc := 8) hc 0 dX10_sumOf_8 rfl rfl ?_
    refine gf_c3_sums (pc := 9) hc tw_72 dX10_sumOf_9 ?_
    refine g_iload_n (pc := 12) hc 1 dX10_sumOf_12 rfl rfl ?_
    refine g_iconst (pc := 13) (v := nI 4) hc dX10_sumOf_13 (by decide) ?_
    refine g_imul (pc := 14) hc dX10_sumOf_14 ?_
    refine g_topi (v := nI (i * 4)) (pk_mul i 4) ?_
    refine g_iload_n (pc := 15) hc 2 dX10_sumOf_15 rfl rfl ?_
    refine g_iadd (pc := 16) hc dX10_sumOf_16 ?_
    refine g_topi (v := nI ((i * 4) + j)) (nI_add (i * 4) j) ?_
    refine la_c19 (pc := 17) hc ((i * 4) + j) (rfl) (by omega) dX10_sumOf_17 ?_
    refine g_goto (pc := 18) hc 22 dX10_sumOf_18 (by decide) ?_
    exact g_iret (pc := 22) hc dX10_sumOf_22 (by rw [smo, hW, if_pos c1, nI_clamp (by omega)]) (rfl)

theorem dX10_total_0 : decode cX10_total 0 = .ok (.iconst 0, 1) := by decide +kernel
theorem dX10_total_1 : decode cX10_total 1 = .ok (.istore_n 2, 1) := by decide +kernel
theorem dX10_total_2 : decode cX10_total 2 = .ok (.iconst 0, 1) := by decide +kernel
theorem dX10_total_3 : decode cX10_total 3 = .ok (.istore_n 3, 1) := by decide +kernel
theorem dX10_total_4 : decode cX10_total 4 = .ok (.iload_n 3, 1) := by decide +kernel
theorem dX10_total_5 : decode cX10_total 5 = .ok (.iconst 4, 1) := by decide +kernel
theorem dX10_total_6 : decode cX10_total 6 = .ok (.if_icmp .ge 18, 3) := by decide +kernel
theorem dX10_total_9 : decode cX10_total 9 = .ok (.iload_n 2, 1) := by decide +kernel
theorem dX10_total_10 : decode cX10_total 10 = .ok (.aload_n 0, 1) := by decide +kernel
theorem dX10_total_11 : decode cX10_total 11 = .ok (.iload_n 1, 1) := by decide +kernel
theorem dX10_total_12 : decode cX10_total 12 = .ok (.iload_n 3, 1) := by decide +kernel
theorem dX10_total_13 : decode cX10_total 13 = .ok (.invokevirtual 45, 3) := by decide +kernel
theorem dX10_total_16 : decode cX10_total 16 = .ok (.iadd, 1) := by decide +kernel
theorem dX10_total_17 : decode cX10_total 17 = .ok (.istore_n 2, 1) := by decide +kernel
theorem dX10_total_18 : decode cX10_total 18 = .ok (.iinc 3 1, 3) := by decide +kernel
theorem dX10_total_21 : decode cX10_total 21 = .ok (.goto (-17), 3) := by decide +kernel
theorem dX10_total_24 : decode cX10_total 24 = .ok (.iload_n 2, 1) := by decide +kernel
theorem dX10_total_25 : decode cX10_total 25 = .ok (.ireturn, 1) := by decide +kernel

set_option maxHeartbeats 4000000 in
set_option maxRecDepth 100000 in
theorem c_X10_total (l : Launch) (E : Ev) {A : Nat → Prop} (ad : Nat → Nat) (hA : Oka 39 ad A) (sc : Nat → Int32) (ar : Nat → Nat → Int32) (bl : Int64) {nW : Nat} (i : Nat) (hW : sc 5 = nI nW) (hW60 : nW ≤ 60) (hi : i < nW) : Ct l E yX10_total (.code yX10_total cX10_total 4 (some .int)) ({ frames := 2, cells := 0, slots := 0, locals := 43 }) A (cw E ad sc ar bl) [.ref (ad 3), .int (nI i)] (some (.int (ctot (ar 19) i))) (cw E ad sc ar bl) := by
  refine Ct.of (lv := [(0, .ref (ad 3)), (1, .int (nI i))]) (by decide +kernel) (Nat.le_of_ble_eq_true rfl) rfl ?_
  intro zp ze zs zm za zb zh zc hc
  refine g_iconst (pc := 0) (v := nI 0) hc dX10_total_0 (by decide) ?_
  refine g_istore_n (pc := 1) (lv' := [(0, .ref (ad 3)), (1, .int (nI i)), (2, .int (nI 0))]) hc dX10_total_1 rfl (by decide) rfl ?_
  refine g_iconst (pc := 2) (v := nI 0) hc dX10_total_2 (by decide) ?_
  refine g_istore_n (pc := 3) (lv' := [(0, .ref (ad 3)), (1, .int (nI i)), (2, .int (nI 0)), (3, .int (nI 0))]) hc dX10_total_3 rfl (by decide) rfl ?_
  have L4_1 : ∀ (kj j : Nat), j + kj = 4 → G zp l ze ({ frames := 2, cells := 0, slots := 0, locals := 43 }) zs zm za zb zh zc 0 0 (MQ zb (Qz E A (some (.int (ctot (ar 19) i))) (cw E ad sc ar bl)) za zs 0 0 A) E A 4 (cw E ad sc ar bl) (4) [(0, .ref (ad 3)), (1, .int (nI i)), (2, .int (sm (fun k => ar 19 (i * 4 + k)) (j))), (3, .int (nI (j)))] [] := by
    intro kj
    induction kj with
    | zero =>
      intro j lhj
      have lhjn : 4 = j := by omega
      subst lhjn
      refine g_iload_n (pc := 4) hc 3 dX10_total_4 rfl rfl ?_
      refine g_iconst (pc := 5) (v := nI 4) hc dX10_total_5 (by decide) ?_
      refine g_icmp_ge_t (pc := 6) hc 24 dX10_total_6 (by decide) (nI_le (by omega) (by omega)) ?_
      refine g_iload_n (pc := 24) hc 2 dX10_total_24 rfl rfl ?_
      exact g_iret (pc := 25) hc dX10_total_25 (rfl) (rfl)
    | succ kj ihj =>
      intro j lhj
      have lhjn : j < 4 := by omega
      refine g_iload_n (pc := 4) hc 3 dX10_total_4 rfl rfl ?_
      refine g_iconst (pc := 5) (v := nI 4) hc dX10_total_5 (by decide) ?_
      refine g_icmp_ge_f (pc := 6) hc 24 dX10_total_6 (by decide) (nI_ge (by omega) (by omega)) ?_
      refine g_iload_n (pc := 9) hc 2 dX10_total_9 rfl rfl ?_
      refine g_aload_n (pc := 10) hc 0 dX10_total_10 rfl rfl ?_
      refine g_iload_n (pc := 11) hc 1 dX10_total_11 rfl rfl ?_
      refine g_iload_n (pc := 12) hc 3 dX10_total_12 rfl rfl ?_
      refine g_callVi (pc := 13) (rest := [.int (sm (fun k => ar 19 (i * 4 + k)) (j))]) (As := [.int (nI i), .int (nI (j))]) hc (c_X10_sumOf l E ad hA sc ar bl (nI i) j (hW) (hW60) (by omega)) mi_X10_sumOf tw_445 3 rfl rfl rfl rfl ⟨rfl, rfl, by decide, by decide⟩ (Nat.le_of_ble_eq_true rfl) ⟨Nat.le_refl _, Nat.le_refl _⟩ rfl dX10_total_13 ?_
      refine g_topi (v := ar 19 (i * 4 + j)) (smo_nI hW hW60 hi) ?_
      refine g_iadd (pc := 16) hc dX10_total_16 ?_
      refine g_istore_n (pc := 17) (lv' := [(0, .ref (ad 3)), (1, .int (nI i)), (2, .int ((sm (fun k => ar 19 (i * 4 + k)) (j)) + (ar 19 (i * 4 + j)))), (3, .int (nI (j)))]) hc dX10_total_17 rfl (by decide) rfl ?_
      refine g_iinc (pc := 18) (v := nI (j + 1)) (lv' := [(0, .ref (ad 3)), (1, .int (nI i)), (2, .int ((sm (fun k => ar 19 (i * 4 + k)) (j)) + (ar 19 (i * 4 + j)))), (3, .int (nI (j + 1)))]) hc 3 dX10_total_18 rfl (nI_ofi j 1) (by decide) rfl ?_
      refine g_goto (pc := 21) hc 4 dX10_total_21 (by decide) ?_
      exact g_eq (ws' := cw E ad sc ar bl) (lv' := [(0, .ref (ad 3)), (1, .int (nI i)), (2, .int (sm (fun k => ar 19 (i * 4 + k)) (j + 1))), (3, .int (nI (j + 1)))]) (rfl) (rfl) rfl (ihj (j + 1) (by omega))
  exact g_eq (ws' := cw E ad sc ar bl) (lv' := [(0, .ref (ad 3)), (1, .int (nI i)), (2, .int (sm (fun k => ar 19 (i * 4 + k)) (0))), (3, .int (nI (0)))]) (rfl) (rfl) rfl (L4_1 (4 - 0) (0) (by omega))

theorem dX10_teller_0 : decode cX10_teller 0 = .ok (.iconst (-1), 1) := by decide +kernel
theorem dX10_teller_1 : decode cX10_teller 1 = .ok (.istore_n 2, 1) := by decide +kernel
theorem dX10_teller_2 : decode cX10_teller 2 = .ok (.iconst (-1), 1) := by decide +kernel
theorem dX10_teller_3 : decode cX10_teller 3 = .ok (.istore_n 3, 1) := by decide +kernel
theorem dX10_teller_4 : decode cX10_teller 4 = .ok (.iconst 0, 1) := by decide +kernel
theorem dX10_teller_5 : decode cX10_teller 5 = .ok (.istore 4, 2) := by decide +kernel
theorem dX10_teller_7 : decode cX10_teller 7 = .ok (.iload 4, 2) := by decide +kernel
theorem dX10_teller_9 : decode cX10_teller 9 = .ok (.aload_n 0, 1) := by decide +kernel
theorem dX10_teller_10 : decode cX10_teller 10 = .ok (.getfield 27, 3) := by decide +kernel
theorem dX10_teller_13 : decode cX10_teller 13 = .ok (.if_icmp .ge 40, 3) := by decide +kernel
theorem dX10_teller_16 : decode cX10_teller 16 = .ok (.aload_n 0, 1) := by decide +kernel
theorem dX10_teller_17 : decode cX10_teller 17 = .ok (.getfield 15, 3) := by decide +kernel
theorem dX10_teller_20 : decode cX10_teller 20 = .ok (.iload 4, 2) := by decide +kernel
theorem dX10_teller_22 : decode cX10_teller 22 = .ok (.iaload, 1) := by decide +kernel
theorem dX10_teller_23 : decode cX10_teller 23 = .ok (.iload_n 1, 1) := by decide +kernel
theorem dX10_teller_24 : decode cX10_teller 24 = .ok (.if_icmp .ne 23, 3) := by decide +kernel
theorem dX10_teller_27 : decode cX10_teller 27 = .ok (.aload_n 0, 1) := by decide +kernel
theorem dX10_teller_28 : decode cX10_teller 28 = .ok (.iload 4, 2) := by decide +kernel
theorem dX10_teller_30 : decode cX10_teller 30 = .ok (.invokevirtual 49, 3) := by decide +kernel
theorem dX10_teller_33 : decode cX10_teller 33 = .ok (.iload_n 3, 1) := by decide +kernel
theorem dX10_teller_34 : decode cX10_teller 34 = .ok (.if_icmp .le 13, 3) := by decide +kernel
theorem dX10_teller_37 : decode cX10_teller 37 = .ok (.iload 4, 2) := by decide +kernel
theorem dX10_teller_39 : decode cX10_teller 39 = .ok (.istore_n 2, 1) := by decide +kernel
theorem dX10_teller_40 : decode cX10_teller 40 = .ok (.aload_n 0, 1) := by decide +kernel
theorem dX10_teller_41 : decode cX10_teller 41 = .ok (.iload 4, 2) := by decide +kernel
theorem dX10_teller_43 : decode cX10_teller 43 = .ok (.invokevirtual 49, 3) := by decide +kernel
theorem dX10_teller_46 : decode cX10_teller 46 = .ok (.istore_n 3, 1) := by decide +kernel
theorem dX10_teller_47 : decode cX10_teller 47 = .ok (.iinc 4 1, 3) := by decide +kernel
theorem dX10_teller_50 : decode cX10_teller 50 = .ok (.goto (-43), 3) := by decide +kernel
theorem dX10_teller_53 : decode cX10_teller 53 = .ok (.iload_n 2, 1) := by decide +kernel
theorem dX10_teller_54 : decode cX10_teller 54 = .ok (.ireturn, 1) := by decide +kernel

set_option maxHeartbeats 4000000 in
set_option maxRecDepth 100000 in
theorem c_X10_teller (l : Launch) (E : Ev) {A : Nat → Prop} (ad : Nat → Nat) (hA : Oka 39 ad A) (sc : Nat → Int32) (ar : Nat → Nat → Int32) (bl : Int64) {nW : Nat} (r : Int32) (hW : sc 5 = nI nW) (hW60 : nW ≤ 60) : Ct l E yX10_teller (.code yX10_teller cX10_teller 5 (some .int)) ({ frames := 3, cells := 0, slots := 0, locals := 66 }) A (cw E ad sc ar bl) [.ref (ad 3), .int r] (some (.int (ctel nW (ar 17) (ar 19) r))) (cw E ad sc ar bl) := by
  refine Ct.of (lv := [(0, .ref (ad 3)), (1, .int r)]) (by decide +kernel) (Nat.le_of_ble_eq_true rfl) rfl ?_
  intro zp ze zs zm za zb zh zc hc
  refine g_iconst (pc := 0) (v := (-1)) hc dX10_teller_0 (by decide) ?_
  refine g_istore_n (pc := 1) (lv' := [(0, .ref (ad 3)), (1, .int r), (2, .int (-1))]) hc dX10_teller_1 rfl (by decide) rfl ?_
  refine g_iconst (pc := 2) (v := (-1)) hc dX10_teller_2 (by decide) ?_
  refine g_istore_n (pc := 3) (lv' := [(0, .ref (ad 3)), (1, .int r), (2, .int (-1)), (3, .int (-1))]) hc dX10_teller_3 rfl (by decide) rfl ?_
  refine g_iconst (pc := 4) (v := nI 0) hc dX10_teller_4 (by decide) ?_
  refine g_istore (pc := 5) (lv' := [(0, .ref (ad 3)), (1, .int r), (2, .int (-1)), (3, .int (-1)), (4, .int (nI 0))]) hc dX10_teller_5 (by decide) rfl ?_
  have L7_1 : ∀ (ki i : Nat), i + ki = nW → G zp l ze ({ frames := 3, cells := 0, slots := 0, locals := 66 }) zs zm za zb zh zc 0 0 (MQ zb (Qz E A (some (.int (ctel nW (ar 17) (ar 19) r))) (cw E ad sc ar bl)) za zs 0 0 A) E A 5 (cw E ad sc ar bl) (7) [(0, .ref (ad 3)), (1, .int r), (2, .int (tls (ar 17) (ar 19) r (i)).1), (3, .int (tls (ar 17) (ar 19) r (i)).2), (4, .int (nI (i)))] [] := by
    intro ki
    induction ki with
    | zero =>
      intro i lhi
      have lhin : nW = i := by omega
      subst lhin
      refine g_iload (pc := 7) hc 4 dX10_teller_7 rfl ?_
      refine g_aload_n (pc := 9) hc 0 dX10_teller_9 rfl rfl ?_
      refine gf_c3_number (pc := 10) hc tw_74 dX10_teller_10 ?_
      refine g_topi (v := nI nW) (hW) ?_
      refine g_icmp_ge_t (pc := 13) hc 53 dX10_teller_13 (by decide) (nI_le (by omega) (by omega)) ?_
      refine g_iload_n (pc := 53) hc 2 dX10_teller_53 rfl rfl ?_
      exact g_iret (pc := 54) hc dX10_teller_54 (rfl) (rfl)
    | succ ki ihi =>
      intro i lhi
      have lhin : i < nW := by omega
      refine g_iload (pc := 7) hc 4 dX10_teller_7 rfl ?_
      refine g_aload_n (pc := 9) hc 0 dX10_teller_9 rfl rfl ?_
      refine gf_c3_number (pc := 10) hc tw_74 dX10_teller_10 ?_
      refine g_topi (v := nI nW) (hW) ?_
      refine g_icmp_ge_f (pc := 13) hc 53 dX10_teller_13 (by decide) (nI_ge (by omega) (by omega)) ?_
      refine g_aload_n (pc := 16) hc 0 dX10_teller_16 rfl rfl ?_
      refine gf_c3_rows (pc := 17) hc tw_70 dX10_teller_17 ?_
      refine g_iload (pc := 20) hc 4 dX10_teller_20 rfl ?_
      refine la_c17 (pc := 22) hc (i) (rfl) (by omega) dX10_teller_22 ?_
      refine g_iload_n (pc := 23) hc 1 dX10_teller_23 rfl rfl ?_
      refine g_icmp_ne (pc := 24) hc 47 dX10_teller_24 (by decide) (fun c2 => ?_) (fun c2 => ?_)
      · refine g_iinc (pc := 47) (v := nI (i + 1)) (lv' := [(0, .ref (ad 3)), (1, .int r), (2, .int (tls (ar 17) (ar 19) r (i)).1), (3, .int (tls (ar 17) (ar 19) r (i)).2), (4, .int (nI (i + 1)))]) hc 4 dX10_teller_47 rfl (nI_ofi i 1) (by decide) rfl ?_
        refine g_goto (pc := 50) hc 7 dX10_teller_50 (by decide) ?_
        exact g_eq (ws' := cw E ad sc ar bl) (lv' := [(0, .ref (ad 3)), (1, .int r), (2, .int (tls (ar 17) (ar 19) r (i + 1)).1), (3, .int (tls (ar 17) (ar 19) r (i + 1)).2), (4, .int (nI (i + 1)))]) (rfl) (by rw [tls_succ]; repeat (first | rw [if_pos c2] | rw [if_neg c2] | rw [if_neg (ne_true_of_eq_false c2)])) rfl (ihi (i + 1) (by omega))
      · refine g_aload_n (pc := 27) hc 0 dX10_teller_27 rfl rfl ?_
        refine g_iload (pc := 28) hc 4 dX10_teller_28 rfl ?_
        refine g_callVi (pc := 30) (rest := []) (As := [.int (nI (i))]) hc (c_X10_total l E ad hA sc ar bl i (hW) (hW60) (by omega)) mi_X10_total tw_454 3 rfl rfl rfl rfl ⟨rfl, rfl, by decide, by decide⟩ (Nat.le_of_ble_eq_true rfl) ⟨Nat.le_refl _, Nat.le_refl _⟩ rfl dX10_teller_30 ?_
        refine g_iload_n (pc := 33) hc 3 dX10_teller_33 rfl rfl ?_
        refine g_icmp_le (pc := 34) hc 47 dX10_teller_34 (by decide) (fun c3 => ?_) (fun c3 => ?_)
        · refine g_iinc (pc := 47) (v := nI (i + 1)) (lv' := [(0, .ref (ad 3)), (1, .int r), (2, .int (tls (ar 17) (ar 19) r (i)).1), (3, .int (tls (ar 17) (ar 19) r (i)).2), (4, .int (nI (i + 1)))]) hc 4 dX10_teller_47 rfl (nI_ofi i 1) (by decide) rfl ?_
          refine g_goto (pc := 50) hc 7 dX10_teller_50 (by decide) ?_
          exact g_eq (ws' := cw E ad sc ar bl) (lv' := [(0, .ref (ad 3)), (1, .int r), (2, .int (tls (ar 17) (ar 19) r (i + 1)).1), (3, .int (tls (ar 17) (ar 19) r (i + 1)).2), (4, .int (nI (i + 1)))]) (rfl) (by rw [tls_succ]; repeat (first | rw [if_pos c2] | rw [if_neg c2] | rw [if_neg (ne_true_of_eq_false c2)] | rw [if_pos c3] | rw [if_neg c3] | rw [if_neg (ne_true_of_eq_false c3)])) rfl (ihi (i + 1) (by omega))
        · refine g_iload (pc := 37) hc 4 dX10_teller_37 rfl ?_
          refine g_istore_n (pc := 39) (lv' := [(0, .ref (ad 3)), (1, .int r), (2, .int (nI (i))), (3, .int (tls (ar 17) (ar 19) r (i)).2), (4, .int (nI (i)))]) hc dX10_teller_39 rfl (by decide) rfl ?_
          refine g_aload_n (pc := 40) hc 0 dX10_teller_40 rfl rfl ?_
          refine g_iload (pc := 41) hc 4 dX10_teller_41 rfl ?_
          refine g_callVi (pc := 43) (rest := []) (As := [.int (nI (i))]) hc (c_X10_total l E ad hA sc ar bl i (hW) (hW60) (by omega)) mi_X10_total tw_454 3 rfl rfl rfl rfl ⟨rfl, rfl, by decide, by decide⟩ (Nat.le_of_ble_eq_true rfl) ⟨Nat.le_refl _, Nat.le_refl _⟩ rfl dX10_teller_43 ?_
          refine g_istore_n (pc := 46) (lv' := [(0, .ref (ad 3)), (1, .int r), (2, .int (nI (i))), (3, .int (ctot (ar 19) i)), (4, .int (nI (i)))]) hc dX10_teller_46 rfl (by decide) rfl ?_
          refine g_iinc (pc := 47) (v := nI (i + 1)) (lv' := [(0, .ref (ad 3)), (1, .int r), (2, .int (nI (i))), (3, .int (ctot (ar 19) i)), (4, .int (nI (i + 1)))]) hc 4 dX10_teller_47 rfl (nI_ofi i 1) (by decide) rfl ?_
          refine g_goto (pc := 50) hc 7 dX10_teller_50 (by decide) ?_
          exact g_eq (ws' := cw E ad sc ar bl) (lv' := [(0, .ref (ad 3)), (1, .int r), (2, .int (tls (ar 17) (ar 19) r (i + 1)).1), (3, .int (tls (ar 17) (ar 19) r (i + 1)).2), (4, .int (nI (i + 1)))]) (rfl) (by rw [tls_succ]; repeat (first | rw [if_pos c2] | rw [if_neg c2] | rw [if_neg (ne_true_of_eq_false c2)] | rw [if_pos c3] | rw [if_neg c3] | rw [if_neg (ne_true_of_eq_false c3)])) rfl (ihi (i + 1) (by omega))
  exact g_eq (ws' := cw E ad sc ar bl) (lv' := [(0, .ref (ad 3)), (1, .int r), (2, .int (tls (ar 17) (ar 19) r (0)).1), (3, .int (tls (ar 17) (ar 19) r (0)).2), (4, .int (nI (0)))]) (rfl) (rfl) rfl (L7_1 (nW - 0) (0) (by omega))

theorem dX1_clear_0 : decode cX1_clear 0 = .ok (.aload_n 0, 1) := by decide +kernel
theorem dX1_clear_1 : decode cX1_clear 1 = .ok (.iconst 0, 1) := by decide +kernel
theorem dX1_clear_2 : decode cX1_clear 2 = .ok (.putfield 24, 3) := by decide +kernel
theorem dX1_clear_5 : decode cX1_clear 5 = .ok (.return_, 1) := by decide +kernel

set_option maxHeartbeats 4000000 in
set_option maxRecDepth 100000 in
theorem c_X1_clear (l : Launch) (E : Ev) {A : Nat → Prop} (ad : Nat → Nat) (hA : Oka 39 ad A) (sc : Nat → Int32) (ar : Nat → Nat → Int32) (bl : Int64)  : Ct l E yX1_clear (.code yX1_clear cX1_clear 1 none) ({ frames := 0, cells := 0, slots := 0, locals := 0 }) A (cw E ad sc ar bl) [.ref (ad 4)] (none) (cw E ad (va_up sc 6 (nI 0)) ar bl) := by
  refine Ct.of (lv := [(0, .ref (ad 4))]) (by decide +kernel) (Nat.le_of_ble_eq_true rfl) rfl ?_
  intro zp ze zs zm za zb zh zc hc
  refine g_aload_n (pc := 0) hc 0 dX1_clear_0 rfl rfl ?_
  refine g_iconst (pc := 1) (v := nI 0) hc dX1_clear_1 (by decide) ?_
  refine pf_c4_number (pc := 2) hc hA tw_98 dX1_clear_2 ?_
  exact g_vret (pc := 5) hc dX1_clear_5 rfl (rfl)

theorem dX1_number_0 : decode cX1_number 0 = .ok (.aload_n 0, 1) := by decide +kernel
theorem dX1_number_1 : decode cX1_number 1 = .ok (.getfield 24, 3) := by decide +kernel
theorem dX1_number_4 : decode cX1_number 4 = .ok (.ireturn, 1) := by decide +kernel

set_option maxHeartbeats 4000000 in
set_option maxRecDepth 100000 in
theorem c_X1_number (l : Launch) (E : Ev) {A : Nat → Prop} (ad : Nat → Nat) (hA : Oka 39 ad A) (sc : Nat → Int32) (ar : Nat → Nat → Int32) (bl : Int64)  : Ct l E yX1_number (.code yX1_number cX1_number 1 (some .int)) ({ frames := 0, cells := 0, slots := 0, locals := 0 }) A (cw E ad sc ar bl) [.ref (ad 4)] (some (.int (sc 6))) (cw E ad sc ar bl) := by
  refine Ct.of (lv := [(0, .ref (ad 4))]) (by decide +kernel) (Nat.le_of_ble_eq_true rfl) rfl ?_
  intro zp ze zs zm za zb zh zc hc
  refine g_aload_n (pc := 0) hc 0 dX1_number_0 rfl rfl ?_
  refine gf_c4_number (pc := 1) hc tw_98 dX1_number_1 ?_
  exact g_iret (pc := 4) hc dX1_number_4 (rfl) (rfl)

theorem dX1_isFull_0 : decode cX1_isFull 0 = .ok (.aload_n 0, 1) := by decide +kernel
theorem dX1_isFull_1 : decode cX1_isFull 1 = .ok (.getfield 24, 3) := by decide +kernel
theorem dX1_isFull_4 : decode cX1_isFull 4 = .ok (.sipush 200, 3) := by decide +kernel
theorem dX1_isFull_7 : decode cX1_isFull 7 = .ok (.if_icmp .lt 7, 3) := by decide +kernel
theorem dX1_isFull_10 : decode cX1_isFull 10 = .ok (.iconst 1, 1) := by decide +kernel
theorem dX1_isFull_11 : decode cX1_isFull 11 = .ok (.goto 4, 3) := by decide +kernel
theorem dX1_isFull_14 : decode cX1_isFull 14 = .ok (.iconst 0, 1) := by decide +kernel
theorem dX1_isFull_15 : decode cX1_isFull 15 = .ok (.ireturn, 1) := by decide +kernel

set_option maxHeartbeats 4000000 in
set_option maxRecDepth 100000 in
theorem c_X1_isFull (l : Launch) (E : Ev) {A : Nat → Prop} (ad : Nat → Nat) (hA : Oka 39 ad A) (sc : Nat → Int32) (ar : Nat → Nat → Int32) (bl : Int64)  : Ct l E yX1_isFull (.code yX1_isFull cX1_isFull 1 (some .boolean)) ({ frames := 0, cells := 0, slots := 0, locals := 0 }) A (cw E ad sc ar bl) [.ref (ad 4)] (some (.int (bI (!decide (sc 6 < nI 200))))) (cw E ad sc ar bl) := by
  refine Ct.of (lv := [(0, .ref (ad 4))]) (by decide +kernel) (Nat.le_of_ble_eq_true rfl) rfl ?_
  intro zp ze zs zm za zb zh zc hc
  refine g_aload_n (pc := 0) hc 0 dX1_isFull_0 rfl rfl ?_
  refine gf_c4_number (pc := 1) hc tw_98 dX1_isFull_1 ?_
  refine g_sipush (pc := 4) (v := nI 200) hc dX1_isFull_4 (by decide) ?_
  refine g_icmp_lt (pc := 7) hc 14 dX1_isFull_7 (by decide) (fun c1 => ?_) (fun c1 => ?_)
  · refine g_iconst (pc := 14) (v := nI 0) hc dX1_isFull_14 (by decide) ?_
    exact g_zret (pc := 15) hc dX1_isFull_15 (by decide) (by simp [bI, c1] <;> rfl) (rfl)
  · refine g_iconst (pc := 10) (v := nI 1) hc dX1_isFull_10 (by decide) ?_
    refine g_goto (pc := 11) hc 15 dX1_isFull_11 (by decide) ?_
    exact g_zret (pc := 15) hc dX1_isFull_15 (by decide) (by simp [bI, c1] <;> rfl) (rfl)

theorem dX1_has_0 : decode cX1_has 0 = .ok (.iload_n 1, 1) := by decide +kernel
theorem dX1_has_1 : decode cX1_has 1 = .ok (.ifCond .lt 15, 3) := by decide +kernel
theorem dX1_has_4 : decode cX1_has 4 = .ok (.iload_n 1, 1) := by decide +kernel
theorem dX1_has_5 : decode cX1_has 5 = .ok (.aload_n 0, 1) := by decide +kernel
theorem dX1_has_6 : decode cX1_has 6 = .ok (.getfield 24, 3) := by decide +kernel
theorem dX1_has_9 : decode cX1_has 9 = .ok (.if_icmp .ge 7, 3) := by decide +kernel
theorem dX1_has_12 : decode cX1_has 12 = .ok (.iconst 1, 1) := by decide +kernel
theorem dX1_has_13 : decode cX1_has 13 = .ok (.goto 4, 3) := by decide +kernel
theorem dX1_has_16 : decode cX1_has 16 = .ok (.iconst 0, 1) := by decide +kernel
theorem dX1_has_17 : decode cX1_has 17 = .ok (.ireturn, 1) := by decide +kernel

set_option maxHeartbeats 4000000 in
set_option maxRecDepth 100000 in
theorem c_X1_has (l : Launch) (E : Ev) {A : Nat → Prop} (ad : Nat → Nat) (hA : Oka 39 ad A) (sc : Nat → Int32) (ar : Nat → Nat → Int32) (bl : Int64) (x : Int32) : Ct l E yX1_has (.code yX1_has cX1_has 2 (some .boolean)) ({ frames := 0, cells := 0, slots := 0, locals := 0 }) A (cw E ad sc ar bl) [.ref (ad 4), .int x] (some (.int (bI (inx x (sc 6))))) (cw E ad sc ar bl) := by
  refine Ct.of (lv := [(0, .ref (ad 4)), (1, .int x)]) (by decide +kernel) (Nat.le_of_ble_eq_true rfl) rfl ?_
  intro zp ze zs zm za zb zh zc hc
  refine g_iload_n (pc := 0) hc 1 dX1_has_0 rfl rfl ?_
  refine g_if_lt (pc := 1) hc 16 dX1_has_1 (by decide) (fun c1 => ?_) (fun c1 => ?_)
  · refine g_iconst (pc := 16) (v := nI 0) hc dX1_has_16 (by decide) ?_
    exact g_zret (pc := 17) hc dX1_has_17 (by decide) (by simp [bI, inx, c1] <;> rfl) (rfl)
  · refine g_iload_n (pc := 4) hc 1 dX1_has_4 rfl rfl ?_
    refine g_aload_n (pc := 5) hc 0 dX1_has_5 rfl rfl ?_
    refine gf_c4_number (pc := 6) hc tw_98 dX1_has_6 ?_
    refine g_icmp_ge (pc := 9) hc 16 dX1_has_9 (by decide) (fun c2 => ?_) (fun c2 => ?_)
    · refine g_iconst (pc := 16) (v := nI 0) hc dX1_has_16 (by decide) ?_
      exact g_zret (pc := 17) hc dX1_has_17 (by decide) (by simp [bI, inx, c1, c2] <;> rfl) (rfl)
    · refine g_iconst (pc := 12) (v := nI 1) hc dX1_has_12 (by decide) ?_
      refine g_goto (pc := 13) hc 17 dX1_has_13 (by decide) ?_
      exact g_zret (pc := 17) hc dX1_has_17 (by decide) (by simp [bI, inx, c1, c2] <;> rfl) (rfl)

theorem dX1_add_0 : decode cX1_add 0 = .ok (.aload_n 0, 1) := by decide +kernel
theorem dX1_add_1 : decode cX1_add 1 = .ok (.getfield 11, 3) := by decide +kernel
theorem dX1_add_4 : decode cX1_add 4 = .ok (.aload_n 0, 1) := by decide +kernel
theorem dX1_add_5 : decode cX1_add 5 = .ok (.getfield 24, 3) := by decide +kernel
theorem dX1_add_8 : decode cX1_add 8 = .ok (.iload_n 1, 1) := by decide +kernel
theorem dX1_add_9 : decode cX1_add 9 = .ok (.iastore, 1) := by decide +kernel
theorem dX1_add_10 : decode cX1_add 10 = .ok (.aload_n 0, 1) := by decide +kernel
theorem dX1_add_11 : decode cX1_add 11 = .ok (.getfield 15, 3) := by decide +kernel
theorem dX1_add_14 : decode cX1_add 14 = .ok (.aload_n 0, 1) := by decide +kernel
theorem dX1_add_15 : decode cX1_add 15 = .ok (.getfield 24, 3) := by decide +kernel
theorem dX1_add_18 : decode cX1_add 18 = .ok (.iload_n 2, 1) := by decide +kernel
theorem dX1_add_19 : decode cX1_add 19 = .ok (.iastore, 1) := by decide +kernel
theorem dX1_add_20 : decode cX1_add 20 = .ok (.aload_n 0, 1) := by decide +kernel
theorem dX1_add_21 : decode cX1_add 21 = .ok (.getfield 18, 3) := by decide +kernel
theorem dX1_add_24 : decode cX1_add 24 = .ok (.aload_n 0, 1) := by decide +kernel
theorem dX1_add_25 : decode cX1_add 25 = .ok (.getfield 24, 3) := by decide +kernel
theorem dX1_add_28 : decode cX1_add 28 = .ok (.iload_n 3, 1) := by decide +kernel
theorem dX1_add_29 : decode cX1_add 29 = .ok (.iastore, 1) := by decide +kernel
theorem dX1_add_30 : decode cX1_add 30 = .ok (.aload_n 0, 1) := by decide +kernel
theorem dX1_add_31 : decode cX1_add 31 = .ok (.getfield 21, 3) := by decide +kernel
theorem dX1_add_34 : decode cX1_add 34 = .ok (.aload_n 0, 1) := by decide +kernel
theorem dX1_add_35 : decode cX1_add 35 = .ok (.getfield 24, 3) := by decide +kernel
theorem dX1_add_38 : decode cX1_add 38 = .ok (.iload 4, 2) := by decide +kernel
theorem dX1_add_40 : decode cX1_add 40 = .ok (.iastore, 1) := by decide +kernel
theorem dX1_add_41 : decode cX1_add 41 = .ok (.aload_n 0, 1) := by decide +kernel
theorem dX1_add_42 : decode cX1_add 42 = .ok (.dup, 1) := by decide +kernel
theorem dX1_add_43 : decode cX1_add 43 = .ok (.getfield 24, 3) := by decide +kernel
theorem dX1_add_46 : decode cX1_add 46 = .ok (.iconst 1, 1) := by decide +kernel
theorem dX1_add_47 : decode cX1_add 47 = .ok (.iadd, 1) := by decide +kernel
theorem dX1_add_48 : decode cX1_add 48 = .ok (.putfield 24, 3) := by decide +kernel
theorem dX1_add_51 : decode cX1_add 51 = .ok (.aload_n 0, 1) := by decide +kernel
theorem dX1_add_52 : decode cX1_add 52 = .ok (.getfield 24, 3) := by decide +kernel
theorem dX1_add_55 : decode cX1_add 55 = .ok (.iconst 1, 1) := by decide +kernel
theorem dX1_add_56 : decode cX1_add 56 = .ok (.isub, 1) := by decide +kernel
theorem dX1_add_57 : decode cX1_add 57 = .ok (.ireturn, 1) := by decide +kernel

set_option maxHeartbeats 4000000 in
set_option maxRecDepth 100000 in
theorem c_X1_add (l : Launch) (E : Ev) {A : Nat → Prop} (ad : Nat → Nat) (hA : Oka 39 ad A) (sc : Nat → Int32) (ar : Nat → Nat → Int32) (bl : Int64) {nF : Nat} (x : Int32) (y : Int32) (z : Int32) (u : Int32) (hF : sc 6 = nI nF) (hF1 : nF < 200) : Ct l E yX1_add (.code yX1_add cX1_add 5 (some .int)) ({ frames := 0, cells := 0, slots := 0, locals := 0 }) A (cw E ad sc ar bl) [.ref (ad 4), .int x, .int y, .int z, .int u] (some (.int (nI nF))) (cw E ad (va_up sc 6 (nI (nF + 1))) (va_up (va_up (va_up (va_up ar 21 (upd (ar 21) nF x)) 22 (upd (ar 22) nF y)) 23 (upd (ar 23) nF z)) 24 (upd (ar 24) nF u)) bl) := by
  refine Ct.of (lv := [(0, .ref (ad 4)), (1, .int x), (2, .int y), (3, .int z), (4, .int u)]) (by decide +kernel) (Nat.le_of_ble_eq_true rfl) rfl ?_
  intro zp ze zs zm za zb zh zc hc
  refine g_aload_n (pc := 0) hc 0 dX1_add_0 rfl rfl ?_
  refine gf_c4_walks (pc := 1) hc tw_94 dX1_add_1 ?_
  refine g_aload_n (pc := 4) hc 0 dX1_add_4 rfl rfl ?_
  refine gf_c4_number (pc := 5) hc tw_98 dX1_add_5 ?_
  refine g_topi (v := nI nF) (hF) ?_
  refine g_iload_n (pc := 8) hc 1 dX1_add_8 rfl rfl ?_
  refine sa_c21 (pc := 9) hc hA (nF) (rfl) (by omega) dX1_add_9 ?_
  refine g_aload_n (pc := 10) hc 0 dX1_add_10 rfl rfl ?_
  refine gf_c4_paces (pc := 11) hc tw_95 dX1_add_11 ?_
  refine g_aload_n (pc := 14) hc 0 dX1_add_14 rfl rfl ?_
  refine gf_c4_number (pc := 15) hc tw_98 dX1_add_15 ?_
  refine g_topi (v := nI nF) (hF) ?_
  refine g_iload_n (pc := 18) hc 2 dX1_add_18 rfl rfl ?_
  refine sa_c22 (pc := 19) hc hA (nF) (rfl) (by omega) dX1_add_19 ?_
  refine g_eq (ws' := cw E ad sc (va_up (va_up ar 21 (upd (ar 21) nF x)) 22 (upd (ar 22) nF y)) bl) (lv' := [(0, .ref (ad 4)), (1, .int x), (2, .int y), (3, .int z), (4, .int u)]) rfl rfl rfl ?_
  refine g_aload_n (pc := 20) hc 0 dX1_add_20 rfl rfl ?_
  refine gf_c4_kinds (pc := 21) hc tw_96 dX1_add_21 ?_
  refine g_aload_n (pc := 24) hc 0 dX1_add_24 rfl rfl ?_
  refine gf_c4_number (pc := 25) hc tw_98 dX1_add_25 ?_
  refine g_topi (v := nI nF) (hF) ?_
  refine g_iload_n (pc := 28) hc 3 dX1_add_28 rfl rfl ?_
  refine sa_c23 (pc := 29) hc hA (nF) (rfl) (by omega) dX1_add_29 ?_
  refine g_eq (ws' := cw E ad sc (va_up (va_up (va_up ar 21 (upd (ar 21) nF x)) 22 (upd (ar 22) nF y)) 23 (upd (ar 23) nF z)) bl) (lv' := [(0, .ref (ad 4)), (1, .int x), (2, .int y), (3, .int z), (4, .int u)]) rfl rfl rfl ?_
  refine g_aload_n (pc := 30) hc 0 dX1_add_30 rfl rfl ?_
  refine gf_c4_numbers (pc := 31) hc tw_97 dX1_add_31 ?_
  refine g_aload_n (pc := 34) hc 0 dX1_add_34 rfl rfl ?_
  refine gf_c4_number (pc := 35) hc tw_98 dX1_add_35 ?_
  refine g_topi (v := nI nF) (hF) ?_
  refine g_iload (pc := 38) hc 4 dX1_add_38 rfl ?_
  refine sa_c24 (pc := 40) hc hA (nF) (rfl) (by omega) dX1_add_40 ?_
  refine g_eq (ws' := cw E ad sc (va_up (va_up (va_up (va_up ar 21 (upd (ar 21) nF x)) 22 (upd (ar 22) nF y)) 23 (upd (ar 23) nF z)) 24 (upd (ar 24) nF u)) bl) (lv' := [(0, .ref (ad 4)), (1, .int x), (2, .int y), (3, .int z), (4, .int u)]) rfl rfl rfl ?_
  refine g_aload_n (pc := 41) hc 0 dX1_add_41 rfl rfl ?_
  refine g_dup (pc := 42) hc dX1_add_42 rfl ?_
  refine gf_c4_number (pc := 43) hc tw_98 dX1_add_43 ?_
  refine g_topi (v := nI nF) (hF) ?_
  refine g_iconst (pc := 46) (v := nI 1) hc dX1_add_46 (by decide) ?_
  refine g_iadd (pc := 47) hc dX1_add_47 ?_
  refine g_topi (v := nI (nF + 1)) (nI_add nF 1) ?_
  refine pf_c4_number (pc := 48) hc hA tw_98 dX1_add_48 ?_
  refine g_aload_n (pc := 51) hc 0 dX1_add_51 rfl rfl ?_
  refine gf_c4_number (pc := 52) hc tw_98 dX1_add_52 ?_
  refine g_topi (v := nI (nF + 1)) rfl ?_
  refine g_iconst (pc := 55) (v := nI 1) hc dX1_add_55 (by decide) ?_
  refine g_isub (pc := 56) hc dX1_add_56 ?_
  exact g_iret (pc := 57) hc dX1_add_57 (by rw [nI1e, nI_pred]) (rfl)

theorem dX1_walkOf_0 : decode cX1_walkOf 0 = .ok (.aload_n 0, 1) := by decide +kernel
theorem dX1_walkOf_1 : decode cX1_walkOf 1 = .ok (.getfield 11, 3) := by decide +kernel
theorem dX1_walkOf_4 : decode cX1_walkOf 4 = .ok (.iload_n 1, 1) := by decide +kernel
theorem dX1_walkOf_5 : decode cX1_walkOf 5 = .ok (.iaload, 1) := by decide +kernel
theorem dX1_walkOf_6 : decode cX1_walkOf 6 = .ok (.ireturn, 1) := by decide +kernel

set_option maxHeartbeats 4000000 in
set_option maxRecDepth 100000 in
theorem c_X1_walkOf (l : Launch) (E : Ev) {A : Nat → Prop} (ad : Nat → Nat) (hA : Oka 39 ad A) (sc : Nat → Int32) (ar : Nat → Nat → Int32) (bl : Int64) (j : Nat) (hj : j < 200) : Ct l E yX1_walkOf (.code yX1_walkOf cX1_walkOf 2 (some .int)) ({ frames := 0, cells := 0, slots := 0, locals := 0 }) A (cw E ad sc ar bl) [.ref (ad 4), .int (nI j)] (some (.int ((ar 21) j))) (cw E ad sc ar bl) := by
  refine Ct.of (lv := [(0, .ref (ad 4)), (1, .int (nI j))]) (by decide +kernel) (Nat.le_of_ble_eq_true rfl) rfl ?_
  intro zp ze zs zm za zb zh zc hc
  refine g_aload_n (pc := 0) hc 0 dX1_walkOf_0 rfl rfl ?_
  refine gf_c4_walks (pc := 1) hc tw_94 dX1_walkOf_1 ?_
  refine g_iload_n (pc := 4) hc 1 dX1_walkOf_4 rfl rfl ?_
  refine la_c21 (pc := 5) hc (j) (rfl) (by omega) dX1_walkOf_5 ?_
  exact g_iret (pc := 6) hc dX1_walkOf_6 (rfl) (rfl)

theorem dX1_paceOf_0 : decode cX1_paceOf 0 = .ok (.aload_n 0, 1) := by decide +kernel
theorem dX1_paceOf_1 : decode cX1_paceOf 1 = .ok (.getfield 15, 3) := by decide +kernel
theorem dX1_paceOf_4 : decode cX1_paceOf 4 = .ok (.iload_n 1, 1) := by decide +kernel
theorem dX1_paceOf_5 : decode cX1_paceOf 5 = .ok (.iaload, 1) := by decide +kernel
theorem dX1_paceOf_6 : decode cX1_paceOf 6 = .ok (.ireturn, 1) := by decide +kernel

set_option maxHeartbeats 4000000 in
set_option maxRecDepth 100000 in
theorem c_X1_paceOf (l : Launch) (E : Ev) {A : Nat → Prop} (ad : Nat → Nat) (hA : Oka 39 ad A) (sc : Nat → Int32) (ar : Nat → Nat → Int32) (bl : Int64) (j : Nat) (hj : j < 200) : Ct l E yX1_paceOf (.code yX1_paceOf cX1_paceOf 2 (some .int)) ({ frames := 0, cells := 0, slots := 0, locals := 0 }) A (cw E ad sc ar bl) [.ref (ad 4), .int (nI j)] (some (.int ((ar 22) j))) (cw E ad sc ar bl) := by
  refine Ct.of (lv := [(0, .ref (ad 4)), (1, .int (nI j))]) (by decide +kernel) (Nat.le_of_ble_eq_true rfl) rfl ?_
  intro zp ze zs zm za zb zh zc hc
  refine g_aload_n (pc := 0) hc 0 dX1_paceOf_0 rfl rfl ?_
  refine gf_c4_paces (pc := 1) hc tw_95 dX1_paceOf_1 ?_
  refine g_iload_n (pc := 4) hc 1 dX1_paceOf_4 rfl rfl ?_
  refine la_c22 (pc := 5) hc (j) (rfl) (by omega) dX1_paceOf_5 ?_
  exact g_iret (pc := 6) hc dX1_paceOf_6 (rfl) (rfl)

theorem dX1_kindOf_0 : decode cX1_kindOf 0 = .ok (.aload_n 0, 1) := by decide +kernel
theorem dX1_kindOf_1 : decode cX1_kindOf 1 = .ok (.getfield 18, 3) := by decide +kernel
theorem dX1_kindOf_4 : decode cX1_kindOf 4 = .ok (.iload_n 1, 1) := by decide +kernel
theorem dX1_kindOf_5 : decode cX1_kindOf 5 = .ok (.iaload, 1) := by decide +kernel
theorem dX1_kindOf_6 : decode cX1_kindOf 6 = .ok (.ireturn, 1) := by decide +kernel

set_option maxHeartbeats 4000000 in
set_option maxRecDepth 100000 in
theorem c_X1_kindOf (l : Launch) (E : Ev) {A : Nat → Prop} (ad : Nat → Nat) (hA : Oka 39 ad A) (sc : Nat → Int32) (ar : Nat → Nat → Int32) (bl : Int64) (j : Nat) (hj : j < 200) : Ct l E yX1_kindOf (.code yX1_kindOf cX1_kindOf 2 (some .int)) ({ frames := 0, cells := 0, slots := 0, locals := 0 }) A (cw E ad sc ar bl) [.ref (ad 4), .int (nI j)] (some (.int ((ar 23) j))) (cw E ad sc ar bl) := by
  refine Ct.of (lv := [(0, .ref (ad 4)), (1, .int (nI j))]) (by decide +kernel) (Nat.le_of_ble_eq_true rfl) rfl ?_
  intro zp ze zs zm za zb zh zc hc
  refine g_aload_n (pc := 0) hc 0 dX1_kindOf_0 rfl rfl ?_
  refine gf_c4_kinds (pc := 1) hc tw_96 dX1_kindOf_1 ?_
  refine g_iload_n (pc := 4) hc 1 dX1_kindOf_4 rfl rfl ?_
  refine la_c23 (pc := 5) hc (j) (rfl) (by omega) dX1_kindOf_5 ?_
  exact g_iret (pc := 6) hc dX1_kindOf_6 (rfl) (rfl)

theorem dX1_numberOf_0 : decode cX1_numberOf 0 = .ok (.aload_n 0, 1) := by decide +kernel
theorem dX1_numberOf_1 : decode cX1_numberOf 1 = .ok (.getfield 21, 3) := by decide +kernel
theorem dX1_numberOf_4 : decode cX1_numberOf 4 = .ok (.iload_n 1, 1) := by decide +kernel
theorem dX1_numberOf_5 : decode cX1_numberOf 5 = .ok (.iaload, 1) := by decide +kernel
theorem dX1_numberOf_6 : decode cX1_numberOf 6 = .ok (.ireturn, 1) := by decide +kernel

set_option maxHeartbeats 4000000 in
set_option maxRecDepth 100000 in
theorem c_X1_numberOf (l : Launch) (E : Ev) {A : Nat → Prop} (ad : Nat → Nat) (hA : Oka 39 ad A) (sc : Nat → Int32) (ar : Nat → Nat → Int32) (bl : Int64) (j : Nat) (hj : j < 200) : Ct l E yX1_numberOf (.code yX1_numberOf cX1_numberOf 2 (some .int)) ({ frames := 0, cells := 0, slots := 0, locals := 0 }) A (cw E ad sc ar bl) [.ref (ad 4), .int (nI j)] (some (.int ((ar 24) j))) (cw E ad sc ar bl) := by
  refine Ct.of (lv := [(0, .ref (ad 4)), (1, .int (nI j))]) (by decide +kernel) (Nat.le_of_ble_eq_true rfl) rfl ?_
  intro zp ze zs zm za zb zh zc hc
  refine g_aload_n (pc := 0) hc 0 dX1_numberOf_0 rfl rfl ?_
  refine gf_c4_numbers (pc := 1) hc tw_97 dX1_numberOf_1 ?_
  refine g_iload_n (pc := 4) hc 1 dX1_numberOf_4 rfl rfl ?_
  refine la_c24 (pc := 5) hc (j) (rfl) (by omega) dX1_numberOf_5 ?_
  exact g_iret (pc := 6) hc dX1_numberOf_6 (rfl) (rfl)

theorem dX10_clear_0 : decode cX10_clear 0 = .ok (.aload_n 0, 1) := by decide +kernel
theorem dX10_clear_1 : decode cX10_clear 1 = .ok (.iconst 0, 1) := by decide +kernel
theorem dX10_clear_2 : decode cX10_clear 2 = .ok (.putfield 27, 3) := by decide +kernel
theorem dX10_clear_5 : decode cX10_clear 5 = .ok (.aload_n 0, 1) := by decide +kernel
theorem dX10_clear_6 : decode cX10_clear 6 = .ok (.getfield 21, 3) := by decide +kernel
theorem dX10_clear_9 : decode cX10_clear 9 = .ok (.iconst 0, 1) := by decide +kernel
theorem dX10_clear_10 : decode cX10_clear 10 = .ok (.invokestatic 31, 3) := by decide +kernel
theorem dX10_clear_13 : decode cX10_clear 13 = .ok (.aload_n 0, 1) := by decide +kernel
theorem dX10_clear_14 : decode cX10_clear 14 = .ok (.getfield 24, 3) := by decide +kernel
theorem dX10_clear_17 : decode cX10_clear 17 = .ok (.iconst 0, 1) := by decide +kernel
theorem dX10_clear_18 : decode cX10_clear 18 = .ok (.invokestatic 31, 3) := by decide +kernel
theorem dX10_clear_21 : decode cX10_clear 21 = .ok (.return_, 1) := by decide +kernel

set_option maxHeartbeats 4000000 in
set_option maxRecDepth 100000 in
theorem c_X10_clear (l : Launch) (E : Ev) {A : Nat → Prop} (ad : Nat → Nat) (hA : Oka 39 ad A) (sc : Nat → Int32) (ar : Nat → Nat → Int32) (bl : Int64)  : Ct l E yX10_clear (.code yX10_clear cX10_clear 1 none) ({ frames := 1, cells := 0, slots := 0, locals := 23 }) A (cw E ad sc ar bl) [.ref (ad 3)] (none) (cw E ad (va_up sc 5 (nI 0)) (va_up (va_up ar 19 (fil (nI 0) (ar 19) 240)) 20 (fil (nI 0) (ar 20) 1920)) bl) := by
  refine Ct.of (lv := [(0, .ref (ad 3))]) (by decide +kernel) (Nat.le_of_ble_eq_true rfl) rfl ?_
  intro zp ze zs zm za zb zh zc hc
  refine g_aload_n (pc := 0) hc 0 dX10_clear_0 rfl rfl ?_
  refine g_iconst (pc := 1) (v := nI 0) hc dX10_clear_1 (by decide) ?_
  refine pf_c3_number (pc := 2) hc hA tw_74 dX10_clear_2 ?_
  refine g_aload_n (pc := 5) hc 0 dX10_clear_5 rfl rfl ?_
  refine gf_c3_sums (pc := 6) hc tw_72 dX10_clear_6 ?_
  refine g_iconst (pc := 9) (v := nI 0) hc dX10_clear_9 (by decide) ?_
  refine g_callSv (pc := 10) (rest := []) (As := [.ref (ad 19), .int (nI 0)]) hc (c_fill19 l E ad hA (va_up sc 5 (nI 0)) ar bl (nI 0)) mi_J7_fill_53178 tw_317 rfl ⟨rfl, rfl, by decide, by decide⟩ (Nat.le_of_ble_eq_true rfl) ⟨Nat.le_refl _, Nat.le_refl _⟩ rfl dX10_clear_10 ?_
  refine g_eq (ws' := cw E ad (va_up sc 5 (nI 0)) (va_up ar 19 (fil (nI 0) (ar 19) 240)) bl) (lv' := [(0, .ref (ad 3))]) rfl rfl rfl ?_
  refine g_aload_n (pc := 13) hc 0 dX10_clear_13 rfl rfl ?_
  refine gf_c3_tallies (pc := 14) hc tw_73 dX10_clear_14 ?_
  refine g_iconst (pc := 17) (v := nI 0) hc dX10_clear_17 (by decide) ?_
  refine g_callSv (pc := 18) (rest := []) (As := [.ref (ad 20), .int (nI 0)]) hc (c_fill20 l E ad hA (va_up sc 5 (nI 0)) (va_up ar 19 (fil (nI 0) (ar 19) 240)) bl (nI 0)) mi_J7_fill_53178 tw_317 rfl ⟨rfl, rfl, by decide, by decide⟩ (Nat.le_of_ble_eq_true rfl) ⟨Nat.le_refl _, Nat.le_refl _⟩ rfl dX10_clear_18 ?_
  refine g_eq (ws' := cw E ad (va_up sc 5 (nI 0)) (va_up (va_up ar 19 (fil (nI 0) (ar 19) 240)) 20 (fil (nI 0) (ar 20) 1920)) bl) (lv' := [(0, .ref (ad 3))]) rfl rfl rfl ?_
  exact g_vret (pc := 21) hc dX10_clear_21 rfl (rfl)
end
section
theorem nI_di {a : Nat} (h : 0 < a) : nI a + Int32.ofInt (-1) = nI (a - 1) := sb_m1 h
theorem col_eq (p wd : Nat) : nI p - nI (p / wd * wd) = nI (p % wd) := by
  have h : p / wd * wd ≤ p := Nat.div_mul_le_self p wd
  rw [pk_sub h]
  congr 1
  have := Nat.div_add_mod p wd
  rw [Nat.mul_comm] at this
  omega
def brb (b : Int64) (x : Int32) : Bool := !decide (lg_cmp ((b.toUInt64 >>> (x.toInt64.toUInt64 &&& Int64.toUInt64 63)).toInt64 &&& 1) 0 = 0)
def dgb (b : Int64) (x y : Int32) : Int64 := if y = 0 then b &&& ((1 <<< (x.toInt64 &&& 63)) ^^^ (-1)) else b ||| (1 <<< (x.toInt64 &&& 63))
def prb (wk ro : Nat → Int32) (i j : Nat) : Bool := if ro i = ro j then (if wk i = wk j then false else true) else false
def wbs (wk ro : Nat → Int32) (i : Nat) (v : Int32) : Nat → Int32
  | 0 => 0
  | j + 1 => if wk j = v then (if prb wk ro i j = true then wbs wk ro i v j + 1 else wbs wk ro i v j) else wbs wk ro i v j
theorem wbs_succ (wk ro : Nat → Int32) (i : Nat) (v : Int32) (j : Nat) : wbs wk ro i v (j + 1) = if wk j = v then (if prb wk ro i j = true then wbs wk ro i v j + 1 else wbs wk ro i v j) else wbs wk ro i v j := rfl
def csn (so su : Nat → Int32) (i : Nat) : Nat → Int32
  | 0 => 0
  | j + 1 => if decide (so j = nI 1) = true then csn so su i j else csn so su i j + su (i * 4 + j)
theorem csn_succ (so su : Nat → Int32) (i j : Nat) : csn so su i (j + 1) = if decide (so j = nI 1) = true then csn so su i j else csn so su i j + su (i * 4 + j) := rfl
def cseen (so su : Nat → Int32) (i : Nat) : Int32 := csn so su i 4
def prs (wk ro : Nat → Int32) (v u : Int32) (n : Nat) : Nat → Int32
  | 0 => 0
  | i + 1 => if wk i = v then prs wk ro v u n i + wbs wk ro i u n else prs wk ro v u n i
theorem prs_succ (wk ro : Nat → Int32) (v u : Int32) (n i : Nat) : prs wk ro v u n (i + 1) = if wk i = v then prs wk ro v u n i + wbs wk ro i u n else prs wk ro v u n i := rfl
def sbs (so wk ro su : Nat → Int32) (v u : Int32) (n : Nat) : Nat → Int32
  | 0 => 0
  | i + 1 => if wk i = v then sbs so wk ro su v u n i + cseen so su i * wbs wk ro i u n else sbs so wk ro su v u n i
theorem sbs_succ (so wk ro su : Nat → Int32) (v u : Int32) (n i : Nat) : sbs so wk ro su v u n (i + 1) = if wk i = v then sbs so wk ro su v u n i + cseen so su i * wbs wk ro i u n else sbs so wk ro su v u n i := rfl
def hs1 (so wk ro su : Nat → Int32) (i : Nat) (b : Int32) : Nat → Int32
  | 0 => b
  | j + 1 => if prb wk ro i j = true then hs1 so wk ro su i b j + cseen so su i else hs1 so wk ro su i b j
theorem hs1_succ (so wk ro su : Nat → Int32) (i : Nat) (b : Int32) (j : Nat) : hs1 so wk ro su i b (j + 1) = if prb wk ro i j = true then hs1 so wk ro su i b j + cseen so su i else hs1 so wk ro su i b j := rfl
def hb1 (so wk ro su : Nat → Int32) (i : Nat) (b : Int32) : Nat → Int32
  | 0 => b
  | j + 1 => if prb wk ro i j = true then hb1 so wk ro su i b j + mxI (cseen so su i) (cseen so su j) else hb1 so wk ro su i b j
theorem hb1_succ (so wk ro su : Nat → Int32) (i : Nat) (b : Int32) (j : Nat) : hb1 so wk ro su i b (j + 1) = if prb wk ro i j = true then hb1 so wk ro su i b j + mxI (cseen so su i) (cseen so su j) else hb1 so wk ro su i b j := rfl
def hS (so wk ro su : Nat → Int32) (v : Int32) (n : Nat) : Nat → Int32
  | 0 => 0
  | i + 1 => if wk i = v then hs1 so wk ro su i (hS so wk ro su v n i) n else hS so wk ro su v n i
theorem hS_succ (so wk ro su : Nat → Int32) (v : Int32) (n i : Nat) : hS so wk ro su v n (i + 1) = if wk i = v then hs1 so wk ro su i (hS so wk ro su v n i) n else hS so wk ro su v n i := rfl
def hB (so wk ro su : Nat → Int32) (v : Int32) (n : Nat) : Nat → Int32
  | 0 => 0
  | i + 1 => if wk i = v then hb1 so wk ro su i (hB so wk ro su v n i) n else hB so wk ro su v n i
theorem hB_succ (so wk ro su : Nat → Int32) (v : Int32) (n i : Nat) : hB so wk ro su v n (i + 1) = if wk i = v then hb1 so wk ro su i (hB so wk ro su v n i) n else hB so wk ro su v n i := rfl
def hund (so wk ro su : Nat → Int32) (v : Int32) (n : Nat) : Int32 := if hB so wk ro su v n n ≤ 0 then nI 100 else nI 100 * hS so wk ro su v n n / hB so wk ro su v n n
def oft (so wk ro su : Nat → Int32) (n : Nat) (x : Int32) : Int32 := if inx x (nI n) = true then hund so wk ro su (wk x.toNatClampNeg) n else nI 100
def amd (so : Nat → Int32) (j : Nat) (x e : Int32) : Int32 := if x = 0 then x else if decide (so j = nI 1) = true then x else if e ≤ 0 then nI 9999 else mnI (x * nI 100 / e) (nI 9999)
end
section
theorem dX2_renew_0 : decode cX2_renew 0 = .ok (.aload_n 0, 1) := by decide +kernel
theorem dX2_renew_1 : decode cX2_renew 1 = .ok (.iload_n 1, 1) := by decide +kernel
theorem dX2_renew_2 : decode cX2_renew 2 = .ok (.putfield 9, 3) := by decide +kernel
theorem dX2_renew_5 : decode cX2_renew 5 = .ok (.aload_n 0, 1) := by decide +kernel
theorem dX2_renew_6 : decode cX2_renew 6 = .ok (.iload_n 2, 1) := by decide +kernel
theorem dX2_renew_7 : decode cX2_renew 7 = .ok (.putfield 15, 3) := by decide +kernel
theorem dX2_renew_10 : decode cX2_renew 10 = .ok (.aload_n 0, 1) := by decide +kernel
theorem dX2_renew_11 : decode cX2_renew 11 = .ok (.lconst 0, 1) := by decide +kernel
theorem dX2_renew_12 : decode cX2_renew 12 = .ok (.putfield 18, 3) := by decide +kernel
theorem dX2_renew_15 : decode cX2_renew 15 = .ok (.return_, 1) := by decide +kernel

set_option maxHeartbeats 4000000 in
set_option maxRecDepth 100000 in
theorem c_X2_renew (l : Launch) (E : Ev) {A : Nat → Prop} (ad : Nat → Nat) (hA : Oka 39 ad A) (sc : Nat → Int32) (ar : Nat → Nat → Int32) (bl : Int64) (x : Int32) (y : Int32) : Ct l E yX2_renew (.code yX2_renew cX2_renew 3 none) ({ frames := 0, cells := 0, slots := 0, locals := 0 }) A (cw E ad sc ar bl) [.ref (ad 1), .int x, .int y] (none) (cw E ad (va_up (va_up sc 3 x) 4 y) ar 0) := by
  refine Ct.of (lv := [(0, .ref (ad 1)), (1, .int x), (2, .int y)]) (by decide +kernel) (Nat.le_of_ble_eq_true rfl) rfl ?_
  intro zp ze zs zm za zb zh zc hc
  refine g_aload_n (pc := 0) hc 0 dX2_renew_0 rfl rfl ?_
  refine g_iload_n (pc := 1) hc 1 dX2_renew_1 rfl rfl ?_
  refine pf_c1_wide (pc := 2) hc hA tw_36 dX2_renew_2 ?_
  refine g_aload_n (pc := 5) hc 0 dX2_renew_5 rfl rfl ?_
  refine g_iload_n (pc := 6) hc 2 dX2_renew_6 rfl rfl ?_
  refine pf_c1_high (pc := 7) hc hA tw_37 dX2_renew_7 ?_
  refine g_aload_n (pc := 10) hc 0 dX2_renew_10 rfl rfl ?_
  refine g_lconst (pc := 11) (v := 0) hc dX2_renew_11 (by decide) ?_
  refine pf_c1_barren (pc := 12) hc hA tw_38 dX2_renew_12 ?_
  exact g_vret (pc := 15) hc dX2_renew_15 rfl (rfl)

theorem dX2_paces_0 : decode cX2_paces 0 = .ok (.aload_n 0, 1) := by decide +kernel
theorem dX2_paces_1 : decode cX2_paces 1 = .ok (.getfield 9, 3) := by decide +kernel
theorem dX2_paces_4 : decode cX2_paces 4 = .ok (.aload_n 0, 1) := by decide +kernel
theorem dX2_paces_5 : decode cX2_paces 5 = .ok (.getfield 15, 3) := by decide +kernel
theorem dX2_paces_8 : decode cX2_paces 8 = .ok (.imul, 1) := by decide +kernel
theorem dX2_paces_9 : decode cX2_paces 9 = .ok (.ireturn, 1) := by decide +kernel

set_option maxHeartbeats 4000000 in
set_option maxRecDepth 100000 in
theorem c_X2_paces (l : Launch) (E : Ev) {A : Nat → Prop} (ad : Nat → Nat) (hA : Oka 39 ad A) (sc : Nat → Int32) (ar : Nat → Nat → Int32) (bl : Int64) {wd hg : Nat}  (hwd : sc 3 = nI wd) (hwd1 : 2 ≤ wd) (hwd2 : wd ≤ 8) (hhg : sc 4 = nI hg) (hhg1 : 2 ≤ hg) (hhg2 : hg ≤ 8) : Ct l E yX2_paces (.code yX2_paces cX2_paces 1 (some .int)) ({ frames := 0, cells := 0, slots := 0, locals := 0 }) A (cw E ad sc ar bl) [.ref (ad 1)] (some (.int (nI (wd * hg)))) (cw E ad sc ar bl) := by
  refine Ct.of (lv := [(0, .ref (ad 1))]) (by decide +kernel) (Nat.le_of_ble_eq_true rfl) rfl ?_
  intro zp ze zs zm za zb zh zc hc
  refine g_aload_n (pc := 0) hc 0 dX2_paces_0 rfl rfl ?_
  refine gf_c1_wide (pc := 1) hc tw_36 dX2_paces_1 ?_
  refine g_topi (v := nI wd) (hwd) ?_
  refine g_aload_n (pc := 4) hc 0 dX2_paces_4 rfl rfl ?_
  refine gf_c1_high (pc := 5) hc tw_37 dX2_paces_5 ?_
  refine g_topi (v := nI hg) (hhg) ?_
  refine g_imul (pc := 8) hc dX2_paces_8 ?_
  refine g_topi (v := nI (wd * hg)) (pk_mul wd hg) ?_
  exact g_iret (pc := 9) hc dX2_paces_9 (rfl) (rfl)

theorem dX2_rows_0 : decode cX2_rows 0 = .ok (.aload_n 0, 1) := by decide +kernel
theorem dX2_rows_1 : decode cX2_rows 1 = .ok (.getfield 15, 3) := by decide +kernel
theorem dX2_rows_4 : decode cX2_rows 4 = .ok (.ireturn, 1) := by decide +kernel

set_option maxHeartbeats 4000000 in
set_option maxRecDepth 100000 in
theorem c_X2_rows (l : Launch) (E : Ev) {A : Nat → Prop} (ad : Nat → Nat) (hA : Oka 39 ad A) (sc : Nat → Int32) (ar : Nat → Nat → Int32) (bl : Int64) {wd hg : Nat}  (hwd : sc 3 = nI wd) (hwd1 : 2 ≤ wd) (hwd2 : wd ≤ 8) (hhg : sc 4 = nI hg) (hhg1 : 2 ≤ hg) (hhg2 : hg ≤ 8) : Ct l E yX2_rows (.code yX2_rows cX2_rows 1 (some .int)) ({ frames := 0, cells := 0, slots := 0, locals := 0 }) A (cw E ad sc ar bl) [.ref (ad 1)] (some (.int (nI hg))) (cw E ad sc ar bl) := by
  refine Ct.of (lv := [(0, .ref (ad 1))]) (by decide +kernel) (Nat.le_of_ble_eq_true rfl) rfl ?_
  intro zp ze zs zm za zb zh zc hc
  refine g_aload_n (pc := 0) hc 0 dX2_rows_0 rfl rfl ?_
  refine gf_c1_high (pc := 1) hc tw_37 dX2_rows_1 ?_
  refine g_topi (v := nI hg) (hhg) ?_
  exact g_iret (pc := 4) hc dX2_rows_4 (rfl) (rfl)

theorem dX2_columns_0 : decode cX2_columns 0 = .ok (.aload_n 0, 1) := by decide +kernel
theorem dX2_columns_1 : decode cX2_columns 1 = .ok (.getfield 9, 3) := by decide +kernel
theorem dX2_columns_4 : decode cX2_columns 4 = .ok (.ireturn, 1) := by decide +kernel

set_option maxHeartbeats 4000000 in
set_option maxRecDepth 100000 in
theorem c_X2_columns (l : Launch) (E : Ev) {A : Nat → Prop} (ad : Nat → Nat) (hA : Oka 39 ad A) (sc : Nat → Int32) (ar : Nat → Nat → Int32) (bl : Int64) {wd hg : Nat}  (hwd : sc 3 = nI wd) (hwd1 : 2 ≤ wd) (hwd2 : wd ≤ 8) (hhg : sc 4 = nI hg) (hhg1 : 2 ≤ hg) (hhg2 : hg ≤ 8) : Ct l E yX2_columns (.code yX2_columns cX2_columns 1 (some .int)) ({ frames := 0, cells := 0, slots := 0, locals := 0 }) A (cw E ad sc ar bl) [.ref (ad 1)] (some (.int (nI wd))) (cw E ad sc ar bl) := by
  refine Ct.of (lv := [(0, .ref (ad 1))]) (by decide +kernel) (Nat.le_of_ble_eq_true rfl) rfl ?_
  intro zp ze zs zm za zb zh zc hc
  refine g_aload_n (pc := 0) hc 0 dX2_columns_0 rfl rfl ?_
  refine gf_c1_wide (pc := 1) hc tw_36 dX2_columns_1 ?_
  refine g_topi (v := nI wd) (hwd) ?_
  exact g_iret (pc := 4) hc dX2_columns_4 (rfl) (rfl)

theorem dX2_hasPace_0 : decode cX2_hasPace 0 = .ok (.iload_n 1, 1) := by decide +kernel
theorem dX2_hasPace_1 : decode cX2_hasPace 1 = .ok (.ifCond .lt 15, 3) := by decide +kernel
theorem dX2_hasPace_4 : decode cX2_hasPace 4 = .ok (.iload_n 1, 1) := by decide +kernel
theorem dX2_hasPace_5 : decode cX2_hasPace 5 = .ok (.aload_n 0, 1) := by decide +kernel
theorem dX2_hasPace_6 : decode cX2_hasPace 6 = .ok (.invokevirtual 29, 3) := by decide +kernel
theorem dX2_hasPace_9 : decode cX2_hasPace 9 = .ok (.if_icmp .ge 7, 3) := by decide +kernel
theorem dX2_hasPace_12 : decode cX2_hasPace 12 = .ok (.iconst 1, 1) := by decide +kernel
theorem dX2_hasPace_13 : decode cX2_hasPace 13 = .ok (.goto 4, 3) := by decide +kernel
theorem dX2_hasPace_16 : decode cX2_hasPace 16 = .ok (.iconst 0, 1) := by decide +kernel
theorem dX2_hasPace_17 : decode cX2_hasPace 17 = .ok (.ireturn, 1) := by decide +kernel

set_option maxHeartbeats 4000000 in
set_option maxRecDepth 100000 in
theorem c_X2_hasPace (l : Launch) (E : Ev) {A : Nat → Prop} (ad : Nat → Nat) (hA : Oka 39 ad A) (sc : Nat → Int32) (ar : Nat → Nat → Int32) (bl : Int64) {wd hg : Nat} (x : Int32) (hwd : sc 3 = nI wd) (hwd1 : 2 ≤ wd) (hwd2 : wd ≤ 8) (hhg : sc 4 = nI hg) (hhg1 : 2 ≤ hg) (hhg2 : hg ≤ 8) : Ct l E yX2_hasPace (.code yX2_hasPace cX2_hasPace 2 (some .boolean)) ({ frames := 1, cells := 0, slots := 0, locals := 20 }) A (cw E ad sc ar bl) [.ref (ad 1), .int x] (some (.int (bI (inx x (nI (wd * hg)))))) (cw E ad sc ar bl) := by
  refine Ct.of (lv := [(0, .ref (ad 1)), (1, .int x)]) (by decide +kernel) (Nat.le_of_ble_eq_true rfl) rfl ?_
  intro zp ze zs zm za zb zh zc hc
  refine g_iload_n (pc := 0) hc 1 dX2_hasPace_0 rfl rfl ?_
  refine g_if_lt (pc := 1) hc 16 dX2_hasPace_1 (by decide) (fun c1 => ?_) (fun c1 => ?_)
  · refine g_iconst (pc := 16) (v := nI 0) hc dX2_hasPace_16 (by decide) ?_
    exact g_zret (pc := 17) hc dX2_hasPace_17 (by decide) (by simp [bI, inx, c1] <;> rfl) (rfl)
  · refine g_iload_n (pc := 4) hc 1 dX2_hasPace_4 rfl rfl ?_
    refine g_aload_n (pc := 5) hc 0 dX2_hasPace_5 rfl rfl ?_
    refine g_callVi (pc := 6) (rest := [.int x]) (As := []) hc (c_X2_paces l E ad hA sc ar bl  (hwd) (hwd1) (hwd2) (hhg) (hhg1) (hhg2)) mi_X2_paces tw_400 1 rfl rfl rfl rfl ⟨rfl, rfl, by decide, by decide⟩ (Nat.le_of_ble_eq_true rfl) ⟨Nat.le_refl _, Nat.le_refl _⟩ rfl dX2_hasPace_6 ?_
    refine g_icmp_ge (pc := 9) hc 16 dX2_hasPace_9 (by decide) (fun c2 => ?_) (fun c2 => ?_)
    · refine g_iconst (pc := 16) (v := nI 0) hc dX2_hasPace_16 (by decide) ?_
      exact g_zret (pc := 17) hc dX2_hasPace_17 (by decide) (by simp [bI, inx, c1, c2] <;> rfl) (rfl)
    · refine g_iconst (pc := 12) (v := nI 1) hc dX2_hasPace_12 (by decide) ?_
      refine g_goto (pc := 13) hc 17 dX2_hasPace_13 (by decide) ?_
      exact g_zret (pc := 17) hc dX2_hasPace_17 (by decide) (by simp [bI, inx, c1, c2] <;> rfl) (rfl)

theorem dX2_hasRow_0 : decode cX2_hasRow 0 = .ok (.iload_n 1, 1) := by decide +kernel
theorem dX2_hasRow_1 : decode cX2_hasRow 1 = .ok (.ifCond .lt 15, 3) := by decide +kernel
theorem dX2_hasRow_4 : decode cX2_hasRow 4 = .ok (.iload_n 1, 1) := by decide +kernel
theorem dX2_hasRow_5 : decode cX2_hasRow 5 = .ok (.aload_n 0, 1) := by decide +kernel
theorem dX2_hasRow_6 : decode cX2_hasRow 6 = .ok (.getfield 15, 3) := by decide +kernel
theorem dX2_hasRow_9 : decode cX2_hasRow 9 = .ok (.if_icmp .ge 7, 3) := by decide +kernel
theorem dX2_hasRow_12 : decode cX2_hasRow 12 = .ok (.iconst 1, 1) := by decide +kernel
theorem dX2_hasRow_13 : decode cX2_hasRow 13 = .ok (.goto 4, 3) := by decide +kernel
theorem dX2_hasRow_16 : decode cX2_hasRow 16 = .ok (.iconst 0, 1) := by decide +kernel
theorem dX2_hasRow_17 : decode cX2_hasRow 17 = .ok (.ireturn, 1) := by decide +kernel

set_option maxHeartbeats 4000000 in
set_option maxRecDepth 100000 in
theorem c_X2_hasRow (l : Launch) (E : Ev) {A : Nat → Prop} (ad : Nat → Nat) (hA : Oka 39 ad A) (sc : Nat → Int32) (ar : Nat → Nat → Int32) (bl : Int64) {wd hg : Nat} (x : Int32) (hwd : sc 3 = nI wd) (hwd1 : 2 ≤ wd) (hwd2 : wd ≤ 8) (hhg : sc 4 = nI hg) (hhg1 : 2 ≤ hg) (hhg2 : hg ≤ 8) : Ct l E yX2_hasRow (.code yX2_hasRow cX2_hasRow 2 (some .boolean)) ({ frames := 0, cells := 0, slots := 0, locals := 0 }) A (cw E ad sc ar bl) [.ref (ad 1), .int x] (some (.int (bI (inx x (nI hg))))) (cw E ad sc ar bl) := by
  refine Ct.of (lv := [(0, .ref (ad 1)), (1, .int x)]) (by decide +kernel) (Nat.le_of_ble_eq_true rfl) rfl ?_
  intro zp ze zs zm za zb zh zc hc
  refine g_iload_n (pc := 0) hc 1 dX2_hasRow_0 rfl rfl ?_
  refine g_if_lt (pc := 1) hc 16 dX2_hasRow_1 (by decide) (fun c1 => ?_) (fun c1 => ?_)
  · refine g_iconst (pc := 16) (v := nI 0) hc dX2_hasRow_16 (by decide) ?_
    exact g_zret (pc := 17) hc dX2_hasRow_17 (by decide) (by simp [bI, inx, c1] <;> rfl) (rfl)
  · refine g_iload_n (pc := 4) hc 1 dX2_hasRow_4 rfl rfl ?_
    refine g_aload_n (pc := 5) hc 0 dX2_hasRow_5 rfl rfl ?_
    refine gf_c1_high (pc := 6) hc tw_37 dX2_hasRow_6 ?_
    refine g_topi (v := nI hg) (hhg) ?_
    refine g_icmp_ge (pc := 9) hc 16 dX2_hasRow_9 (by decide) (fun c2 => ?_) (fun c2 => ?_)
    · refine g_iconst (pc := 16) (v := nI 0) hc dX2_hasRow_16 (by decide) ?_
      exact g_zret (pc := 17) hc dX2_hasRow_17 (by decide) (by simp [bI, inx, c1, c2] <;> rfl) (rfl)
    · refine g_iconst (pc := 12) (v := nI 1) hc dX2_hasRow_12 (by decide) ?_
      refine g_goto (pc := 13) hc 17 dX2_hasRow_13 (by decide) ?_
      exact g_zret (pc := 17) hc dX2_hasRow_17 (by decide) (by simp [bI, inx, c1, c2] <;> rfl) (rfl)

theorem dX2_rowOf_0 : decode cX2_rowOf 0 = .ok (.aload_n 0, 1) := by decide +kernel
theorem dX2_rowOf_1 : decode cX2_rowOf 1 = .ok (.getfield 9, 3) := by decide +kernel
theorem dX2_rowOf_4 : decode cX2_rowOf 4 = .ok (.ifCond .le 12, 3) := by decide +kernel
theorem dX2_rowOf_7 : decode cX2_rowOf 7 = .ok (.iload_n 1, 1) := by decide +kernel
theorem dX2_rowOf_8 : decode cX2_rowOf 8 = .ok (.aload_n 0, 1) := by decide +kernel
theorem dX2_rowOf_9 : decode cX2_rowOf 9 = .ok (.getfield 9, 3) := by decide +kernel
theorem dX2_rowOf_12 : decode cX2_rowOf 12 = .ok (.idiv, 1) := by decide +kernel
theorem dX2_rowOf_13 : decode cX2_rowOf 13 = .ok (.goto 4, 3) := by decide +kernel
theorem dX2_rowOf_16 : decode cX2_rowOf 16 = .ok (.iconst 0, 1) := by decide +kernel
theorem dX2_rowOf_17 : decode cX2_rowOf 17 = .ok (.ireturn, 1) := by decide +kernel

set_option maxHeartbeats 4000000 in
set_option maxRecDepth 100000 in
theorem c_X2_rowOf (l : Launch) (E : Ev) {A : Nat → Prop} (ad : Nat → Nat) (hA : Oka 39 ad A) (sc : Nat → Int32) (ar : Nat → Nat → Int32) (bl : Int64) {wd hg : Nat} (p : Nat) (hwd : sc 3 = nI wd) (hwd1 : 2 ≤ wd) (hwd2 : wd ≤ 8) (hhg : sc 4 = nI hg) (hhg1 : 2 ≤ hg) (hhg2 : hg ≤ 8) (hp : p < 64) : Ct l E yX2_rowOf (.code yX2_rowOf cX2_rowOf 2 (some .int)) ({ frames := 0, cells := 0, slots := 0, locals := 0 }) A (cw E ad sc ar bl) [.ref (ad 1), .int (nI p)] (some (.int (nI (p / wd)))) (cw E ad sc ar bl) := by
  refine Ct.of (lv := [(0, .ref (ad 1)), (1, .int (nI p))]) (by decide +kernel) (Nat.le_of_ble_eq_true rfl) rfl ?_
  intro zp ze zs zm za zb zh zc hc
  refine g_aload_n (pc := 0) hc 0 dX2_rowOf_0 rfl rfl ?_
  refine gf_c1_wide (pc := 1) hc tw_36 dX2_rowOf_1 ?_
  refine g_topi (v := nI wd) (hwd) ?_
  refine g_if_le_f (pc := 4) hc 16 dX2_rowOf_4 (by decide) (nI_nle (by omega) (by omega)) ?_
  refine g_iload_n (pc := 7) hc 1 dX2_rowOf_7 rfl rfl ?_
  refine g_aload_n (pc := 8) hc 0 dX2_rowOf_8 rfl rfl ?_
  refine gf_c1_wide (pc := 9) hc tw_36 dX2_rowOf_9 ?_
  refine g_topi (v := nI wd) (hwd) ?_
  refine g_idiv (pc := 12) hc dX2_rowOf_12 (nI_ne0 (by omega) (by omega)) ?_
  refine g_goto (pc := 13) hc 17 dX2_rowOf_13 (by decide) ?_
  refine g_topi (v := nI (p / wd)) (pk_div (by omega) (by omega) (by omega)) ?_
  exact g_iret (pc := 17) hc dX2_rowOf_17 (rfl) (rfl)

theorem dX2_columnOf_0 : decode cX2_columnOf 0 = .ok (.iload_n 1, 1) := by decide +kernel
theorem dX2_columnOf_1 : decode cX2_columnOf 1 = .ok (.aload_n 0, 1) := by decide +kernel
theorem dX2_columnOf_2 : decode cX2_columnOf 2 = .ok (.iload_n 1, 1) := by decide +kernel
theorem dX2_columnOf_3 : decode cX2_columnOf 3 = .ok (.invokevirtual 33, 3) := by decide +kernel
theorem dX2_columnOf_6 : decode cX2_columnOf 6 = .ok (.aload_n 0, 1) := by decide +kernel
theorem dX2_columnOf_7 : decode cX2_columnOf 7 = .ok (.getfield 9, 3) := by decide +kernel
theorem dX2_columnOf_10 : decode cX2_columnOf 10 = .ok (.imul, 1) := by decide +kernel
theorem dX2_columnOf_11 : decode cX2_columnOf 11 = .ok (.isub, 1) := by decide +kernel
theorem dX2_columnOf_12 : decode cX2_columnOf 12 = .ok (.ireturn, 1) := by decide +kernel

set_option maxHeartbeats 4000000 in
set_option maxRecDepth 100000 in
theorem c_X2_columnOf (l : Launch) (E : Ev) {A : Nat → Prop} (ad : Nat → Nat) (hA : Oka 39 ad A) (sc : Nat → Int32) (ar : Nat → Nat → Int32) (bl : Int64) {wd hg : Nat} (p : Nat) (hwd : sc 3 = nI wd) (hwd1 : 2 ≤ wd) (hwd2 : wd ≤ 8) (hhg : sc 4 = nI hg) (hhg1 : 2 ≤ hg) (hhg2 : hg ≤ 8) (hp : p < 64) : Ct l E yX2_columnOf (.code yX2_columnOf cX2_columnOf 2 (some .int)) ({ frames := 1, cells := 0, slots := 0, locals := 21 }) A (cw E ad sc ar bl) [.ref (ad 1), .int (nI p)] (some (.int (nI (p % wd)))) (cw E ad sc ar bl) := by
  refine Ct.of (lv := [(0, .ref (ad 1)), (1, .int (nI p))]) (by decide +kernel) (Nat.le_of_ble_eq_true rfl) rfl ?_
  intro zp ze zs zm za zb zh zc hc
  refine g_iload_n (pc := 0) hc 1 dX2_columnOf_0 rfl rfl ?_
  refine g_aload_n (pc := 1) hc 0 dX2_columnOf_1 rfl rfl ?_
  refine g_iload_n (pc := 2) hc 1 dX2_columnOf_2 rfl rfl ?_
  refine g_callVi (pc := 3) (rest := [.int (nI p)]) (As := [.int (nI p)]) hc (c_X2_rowOf l E ad hA sc ar bl p (hwd) (hwd1) (hwd2) (hhg) (hhg1) (hhg2) (by omega)) mi_X2_rowOf tw_417 1 rfl rfl rfl rfl ⟨rfl, rfl, by decide, by decide⟩ (Nat.le_of_ble_eq_true rfl) ⟨Nat.le_refl _, Nat.le_refl _⟩ rfl dX2_columnOf_3 ?_
  refine g_aload_n (pc := 6) hc 0 dX2_columnOf_6 rfl rfl ?_
  refine gf_c1_wide (pc := 7) hc tw_36 dX2_columnOf_7 ?_
  refine g_topi (v := nI wd) (hwd) ?_
  refine g_imul (pc := 10) hc dX2_columnOf_10 ?_
  refine g_topi (v := nI ((p / wd) * wd)) (pk_mul (p / wd) wd) ?_
  refine g_isub (pc := 11) hc dX2_columnOf_11 ?_
  refine g_topi (v := nI (p % wd)) (col_eq p wd) ?_
  exact g_iret (pc := 12) hc dX2_columnOf_12 (rfl) (rfl)

theorem dX2_isBarren_0 : decode cX2_isBarren 0 = .ok (.aload_n 0, 1) := by decide +kernel
theorem dX2_isBarren_1 : decode cX2_isBarren 1 = .ok (.getfield 18, 3) := by decide +kernel
theorem dX2_isBarren_4 : decode cX2_isBarren 4 = .ok (.iload_n 1, 1) := by decide +kernel
theorem dX2_isBarren_5 : decode cX2_isBarren 5 = .ok (.lushr, 1) := by decide +kernel
theorem dX2_isBarren_6 : decode cX2_isBarren 6 = .ok (.lconst 1, 1) := by decide +kernel
theorem dX2_isBarren_7 : decode cX2_isBarren 7 = .ok (.land, 1) := by decide +kernel
theorem dX2_isBarren_8 : decode cX2_isBarren 8 = .ok (.lconst 0, 1) := by decide +kernel
theorem dX2_isBarren_9 : decode cX2_isBarren 9 = .ok (.lcmp, 1) := by decide +kernel
theorem dX2_isBarren_10 : decode cX2_isBarren 10 = .ok (.ifCond .eq 7, 3) := by decide +kernel
theorem dX2_isBarren_13 : decode cX2_isBarren 13 = .ok (.iconst 1, 1) := by decide +kernel
theorem dX2_isBarren_14 : decode cX2_isBarren 14 = .ok (.goto 4, 3) := by decide +kernel
theorem dX2_isBarren_17 : decode cX2_isBarren 17 = .ok (.iconst 0, 1) := by decide +kernel
theorem dX2_isBarren_18 : decode cX2_isBarren 18 = .ok (.ireturn, 1) := by decide +kernel

set_option maxHeartbeats 4000000 in
set_option maxRecDepth 100000 in
theorem c_X2_isBarren (l : Launch) (E : Ev) {A : Nat → Prop} (ad : Nat → Nat) (hA : Oka 39 ad A) (sc : Nat → Int32) (ar : Nat → Nat → Int32) (bl : Int64) (x : Int32) : Ct l E yX2_isBarren (.code yX2_isBarren cX2_isBarren 2 (some .boolean)) ({ frames := 0, cells := 0, slots := 0, locals := 0 }) A (cw E ad sc ar bl) [.ref (ad 1), .int x] (some (.int (bI (brb bl x)))) (cw E ad sc ar bl) := by
  refine Ct.of (lv := [(0, .ref (ad 1)), (1, .int x)]) (by decide +kernel) (Nat.le_of_ble_eq_true rfl) rfl ?_
  intro zp ze zs zm za zb zh zc hc
  refine g_aload_n (pc := 0) hc 0 dX2_isBarren_0 rfl rfl ?_
  refine gf_c1_barren (pc := 1) hc tw_38 dX2_isBarren_1 ?_
  refine g_iload_n (pc := 4) hc 1 dX2_isBarren_4 rfl rfl ?_
  refine g_lushr (pc := 5) (v := (bl.toUInt64 >>> ((x : Int32).toInt64.toUInt64 &&& Int64.toUInt64 63)).toInt64) hc dX2_isBarren_5 rfl ?_
  refine g_lconst (pc := 6) (v := 1) hc dX2_isBarren_6 (by decide) ?_
  refine g_land (pc := 7) hc dX2_isBarren_7 ?_
  refine g_lconst (pc := 8) (v := 0) hc dX2_isBarren_8 (by decide) ?_
  refine g_lcmp (pc := 9) hc dX2_isBarren_9 ?_
  refine g_if_eq (pc := 10) hc 17 dX2_isBarren_10 (by decide) (fun c1 => ?_) (fun c1 => ?_)
  · refine g_iconst (pc := 17) (v := nI 0) hc dX2_isBarren_17 (by decide) ?_
    exact g_zret (pc := 18) hc dX2_isBarren_18 (by decide) (by simp [bI, brb, c1] <;> rfl) (rfl)
  · refine g_iconst (pc := 13) (v := nI 1) hc dX2_isBarren_13 (by decide) ?_
    refine g_goto (pc := 14) hc 18 dX2_isBarren_14 (by decide) ?_
    exact g_zret (pc := 18) hc dX2_isBarren_18 (by decide) (by simp [bI, brb, c1] <;> rfl) (rfl)

theorem dX2_dig_0 : decode cX2_dig 0 = .ok (.lconst 1, 1) := by decide +kernel
theorem dX2_dig_1 : decode cX2_dig 1 = .ok (.iload_n 1, 1) := by decide +kernel
theorem dX2_dig_2 : decode cX2_dig 2 = .ok (.lshl, 1) := by decide +kernel
theorem dX2_dig_3 : decode cX2_dig 3 = .ok (.lstore_n 3, 1) := by decide +kernel
theorem dX2_dig_4 : decode cX2_dig 4 = .ok (.aload_n 0, 1) := by decide +kernel
theorem dX2_dig_5 : decode cX2_dig 5 = .ok (.iload_n 2, 1) := by decide +kernel
theorem dX2_dig_6 : decode cX2_dig 6 = .ok (.ifCond .eq 12, 3) := by decide +kernel
theorem dX2_dig_9 : decode cX2_dig 9 = .ok (.aload_n 0, 1) := by decide +kernel
theorem dX2_dig_10 : decode cX2_dig 10 = .ok (.getfield 18, 3) := by decide +kernel
theorem dX2_dig_13 : decode cX2_dig 13 = .ok (.lload_n 3, 1) := by decide +kernel
theorem dX2_dig_14 : decode cX2_dig 14 = .ok (.lor, 1) := by decide +kernel
theorem dX2_dig_15 : decode cX2_dig 15 = .ok (.goto 13, 3) := by decide +kernel
theorem dX2_dig_18 : decode cX2_dig 18 = .ok (.aload_n 0, 1) := by decide +kernel
theorem dX2_dig_19 : decode cX2_dig 19 = .ok (.getfield 18, 3) := by decide +kernel
theorem dX2_dig_22 : decode cX2_dig 22 = .ok (.lload_n 3, 1) := by decide +kernel
theorem dX2_dig_23 : decode cX2_dig 23 = .ok (.ldc2_w 37, 3) := by decide +kernel
theorem dX2_dig_26 : decode cX2_dig 26 = .ok (.lxor, 1) := by decide +kernel
theorem dX2_dig_27 : decode cX2_dig 27 = .ok (.land, 1) := by decide +kernel
theorem dX2_dig_28 : decode cX2_dig 28 = .ok (.putfield 18, 3) := by decide +kernel
theorem dX2_dig_31 : decode cX2_dig 31 = .ok (.return_, 1) := by decide +kernel

set_option maxHeartbeats 4000000 in
set_option maxRecDepth 100000 in
theorem c_X2_dig (l : Launch) (E : Ev) {A : Nat → Prop} (ad : Nat → Nat) (hA : Oka 39 ad A) (sc : Nat → Int32) (ar : Nat → Nat → Int32) (bl : Int64) (x : Int32) (y : Int32) : Ct l E yX2_dig (.code yX2_dig cX2_dig 5 none) ({ frames := 0, cells := 0, slots := 0, locals := 0 }) A (cw E ad sc ar bl) [.ref (ad 1), .int x, .int y] (none) (cw E ad sc ar (dgb bl x y)) := by
  refine Ct.of (lv := [(0, .ref (ad 1)), (1, .int x), (2, .int y)]) (by decide +kernel) (Nat.le_of_ble_eq_true rfl) rfl ?_
  intro zp ze zs zm za zb zh zc hc
  refine g_lconst (pc := 0) (v := 1) hc dX2_dig_0 (by decide) ?_
  refine g_iload_n (pc := 1) hc 1 dX2_dig_1 rfl rfl ?_
  refine g_lshl (pc := 2) (v := 1 <<< ((x : Int32).toInt64 &&& 63)) hc dX2_dig_2 rfl ?_
  refine g_lstore_n (pc := 3) (lv' := [(0, .ref (ad 1)), (1, .int x), (2, .int y), (3, .long (1 <<< ((x : Int32).toInt64 &&& 63)))]) hc dX2_dig_3 rfl (by decide) rfl ?_
  refine g_aload_n (pc := 4) hc 0 dX2_dig_4 rfl rfl ?_
  refine g_iload_n (pc := 5) hc 2 dX2_dig_5 rfl rfl ?_
  refine g_if_eq (pc := 6) hc 18 dX2_dig_6 (by decide) (fun c1 => ?_) (fun c1 => ?_)
  · refine g_aload_n (pc := 18) hc 0 dX2_dig_18 rfl rfl ?_
    refine gf_c1_barren (pc := 19) hc tw_38 dX2_dig_19 ?_
    refine g_lload_n (pc := 22) hc 3 dX2_dig_22 rfl rfl ?_
    refine g_ldc2 (pc := 23) (v := (-1)) hc tw_656 dX2_dig_23 ?_
    refine g_lxor (pc := 26) hc dX2_dig_26 ?_
    refine g_land (pc := 27) hc dX2_dig_27 ?_
    refine pf_c1_barren (pc := 28) hc hA tw_38 dX2_dig_28 ?_
    exact g_vret (pc := 31) hc dX2_dig_31 rfl (by unfold dgb; first | rw [if_pos c1] | rw [if_neg c1])
  · refine g_aload_n (pc := 9) hc 0 dX2_dig_9 rfl rfl ?_
    refine gf_c1_barren (pc := 10) hc tw_38 dX2_dig_10 ?_
    refine g_lload_n (pc := 13) hc 3 dX2_dig_13 rfl rfl ?_
    refine g_lor (pc := 14) hc dX2_dig_14 ?_
    refine g_goto (pc := 15) hc 28 dX2_dig_15 (by decide) ?_
    refine pf_c1_barren (pc := 28) hc hA tw_38 dX2_dig_28 ?_
    exact g_vret (pc := 31) hc dX2_dig_31 rfl (by unfold dgb; first | rw [if_pos c1] | rw [if_neg c1])

theorem dX0_arePair_0 : decode cX0_arePair 0 = .ok (.aload_n 0, 1) := by decide +kernel
theorem dX0_arePair_1 : decode cX0_arePair 1 = .ok (.getfield 9, 3) := by decide +kernel
theorem dX0_arePair_4 : decode cX0_arePair 4 = .ok (.iload_n 1, 1) := by decide +kernel
theorem dX0_arePair_5 : decode cX0_arePair 5 = .ok (.invokevirtual 60, 3) := by decide +kernel
theorem dX0_arePair_8 : decode cX0_arePair 8 = .ok (.aload_n 0, 1) := by decide +kernel
theorem dX0_arePair_9 : decode cX0_arePair 9 = .ok (.getfield 9, 3) := by decide +kernel
theorem dX0_arePair_12 : decode cX0_arePair 12 = .ok (.iload_n 2, 1) := by decide +kernel
theorem dX0_arePair_13 : decode cX0_arePair 13 = .ok (.invokevirtual 60, 3) := by decide +kernel
theorem dX0_arePair_16 : decode cX0_arePair 16 = .ok (.if_icmp .ne 26, 3) := by decide +kernel
theorem dX0_arePair_19 : decode cX0_arePair 19 = .ok (.aload_n 0, 1) := by decide +kernel
theorem dX0_arePair_20 : decode cX0_arePair 20 = .ok (.getfield 9, 3) := by decide +kernel
theorem dX0_arePair_23 : decode cX0_arePair 23 = .ok (.iload_n 1, 1) := by decide +kernel
theorem dX0_arePair_24 : decode cX0_arePair 24 = .ok (.invokevirtual 25, 3) := by decide +kernel
theorem dX0_arePair_27 : decode cX0_arePair 27 = .ok (.aload_n 0, 1) := by decide +kernel
theorem dX0_arePair_28 : decode cX0_arePair 28 = .ok (.getfield 9, 3) := by decide +kernel
theorem dX0_arePair_31 : decode cX0_arePair 31 = .ok (.iload_n 2, 1) := by decide +kernel
theorem dX0_arePair_32 : decode cX0_arePair 32 = .ok (.invokevirtual 25, 3) := by decide +kernel
theorem dX0_arePair_35 : decode cX0_arePair 35 = .ok (.if_icmp .eq 7, 3) := by decide +kernel
theorem dX0_arePair_38 : decode cX0_arePair 38 = .ok (.iconst 1, 1) := by decide +kernel
theorem dX0_arePair_39 : decode cX0_arePair 39 = .ok (.goto 4, 3) := by decide +kernel
theorem dX0_arePair_42 : decode cX0_arePair 42 = .ok (.iconst 0, 1) := by decide +kernel
theorem dX0_arePair_43 : decode cX0_arePair 43 = .ok (.ireturn, 1) := by decide +kernel

set_option maxHeartbeats 4000000 in
set_option maxRecDepth 100000 in
theorem c_X0_arePair (l : Launch) (E : Ev) {A : Nat → Prop} (ad : Nat → Nat) (hA : Oka 39 ad A) (sc : Nat → Int32) (ar : Nat → Nat → Int32) (bl : Int64) (i : Nat) (j : Nat) (hi : i < 60) (hj : j < 60) : Ct l E yX0_arePair (.code yX0_arePair cX0_arePair 3 (some .boolean)) ({ frames := 1, cells := 0, slots := 0, locals := 21 }) A (cw E ad sc ar bl) [.ref (ad 5), .int (nI i), .int (nI j)] (some (.int (bI (prb (ar 16) (ar 17) i j)))) (cw E ad sc ar bl) := by
  refine Ct.of (lv := [(0, .ref (ad 5)), (1, .int (nI i)), (2, .int (nI j))]) (by decide +kernel) (Nat.le_of_ble_eq_true rfl) rfl ?_
  intro zp ze zs zm za zb zh zc hc
  refine g_aload_n (pc := 0) hc 0 dX0_arePair_0 rfl rfl ?_
  refine gf_c5_walks (pc := 1) hc tw_189 dX0_arePair_1 ?_
  refine g_iload_n (pc := 4) hc 1 dX0_arePair_4 rfl rfl ?_
  refine g_callVi (pc := 5) (rest := []) (As := [.int (nI i)]) hc (c_X10_rowOf l E ad hA sc ar bl i (by omega)) mi_X10_rowOf tw_529 3 rfl rfl rfl rfl ⟨rfl, rfl, by decide, by decide⟩ (Nat.le_of_ble_eq_true rfl) ⟨Nat.le_refl _, Nat.le_refl _⟩ rfl dX0_arePair_5 ?_
  refine g_aload_n (pc := 8) hc 0 dX0_arePair_8 rfl rfl ?_
  refine gf_c5_walks (pc := 9) hc tw_189 dX0_arePair_9 ?_
  refine g_iload_n (pc := 12) hc 2 dX0_arePair_12 rfl rfl ?_
  refine g_callVi (pc := 13) (rest := [.int ((ar 17) i)]) (As := [.int (nI j)]) hc (c_X10_rowOf l E ad hA sc ar bl j (by omega)) mi_X10_rowOf tw_529 3 rfl rfl rfl rfl ⟨rfl, rfl, by decide, by decide⟩ (Nat.le_of_ble_eq_true rfl) ⟨Nat.le_refl _, Nat.le_refl _⟩ rfl dX0_arePair_13 ?_
  refine g_icmp_ne (pc := 16) hc 42 dX0_arePair_16 (by decide) (fun c1 => ?_) (fun c1 => ?_)
  · refine g_iconst (pc := 42) (v := nI 0) hc dX0_arePair_42 (by decide) ?_
    exact g_zret (pc := 43) hc dX0_arePair_43 (by decide) (by unfold prb; repeat (first | rw [if_pos c1] | rw [if_neg c1] | rw [if_neg (ne_true_of_eq_false c1)]); try rfl) (rfl)
  · refine g_aload_n (pc := 19) hc 0 dX0_arePair_19 rfl rfl ?_
    refine gf_c5_walks (pc := 20) hc tw_189 dX0_arePair_20 ?_
    refine g_iload_n (pc := 23) hc 1 dX0_arePair_23 rfl rfl ?_
    refine g_callVi (pc := 24) (rest := []) (As := [.int (nI i)]) hc (c_X10_walkerOf l E ad hA sc ar bl i (by omega)) mi_X10_walkerOf tw_520 3 rfl rfl rfl rfl ⟨rfl, rfl, by decide, by decide⟩ (Nat.le_of_ble_eq_true rfl) ⟨Nat.le_refl _, Nat.le_refl _⟩ rfl dX0_arePair_24 ?_
    refine g_aload_n (pc := 27) hc 0 dX0_arePair_27 rfl rfl ?_
    refine gf_c5_walks (pc := 28) hc tw_189 dX0_arePair_28 ?_
    refine g_iload_n (pc := 31) hc 2 dX0_arePair_31 rfl rfl ?_
    refine g_callVi (pc := 32) (rest := [.int ((ar 16) i)]) (As := [.int (nI j)]) hc (c_X10_walkerOf l E ad hA sc ar bl j (by omega)) mi_X10_walkerOf tw_520 3 rfl rfl rfl rfl ⟨rfl, rfl, by decide, by decide⟩ (Nat.le_of_ble_eq_true rfl) ⟨Nat.le_refl _, Nat.le_refl _⟩ rfl dX0_arePair_32 ?_
    refine g_icmp_eq (pc := 35) hc 42 dX0_arePair_35 (by decide) (fun c2 => ?_) (fun c2 => ?_)
    · refine g_iconst (pc := 42) (v := nI 0) hc dX0_arePair_42 (by decide) ?_
      exact g_zret (pc := 43) hc dX0_arePair_43 (by decide) (by unfold prb; repeat (first | rw [if_pos c1] | rw [if_neg c1] | rw [if_neg (ne_true_of_eq_false c1)] | rw [if_pos c2] | rw [if_neg c2] | rw [if_neg (ne_true_of_eq_false c2)]); try rfl) (rfl)
    · refine g_iconst (pc := 38) (v := nI 1) hc dX0_arePair_38 (by decide) ?_
      refine g_goto (pc := 39) hc 43 dX0_arePair_39 (by decide) ?_
      exact g_zret (pc := 43) hc dX0_arePair_43 (by decide) (by unfold prb; repeat (first | rw [if_pos c1] | rw [if_neg c1] | rw [if_neg (ne_true_of_eq_false c1)] | rw [if_pos c2] | rw [if_neg c2] | rw [if_neg (ne_true_of_eq_false c2)]); try rfl) (rfl)

theorem dX0_walksBeside_0 : decode cX0_walksBeside 0 = .ok (.iconst 0, 1) := by decide +kernel
theorem dX0_walksBeside_1 : decode cX0_walksBeside 1 = .ok (.istore_n 3, 1) := by decide +kernel
theorem dX0_walksBeside_2 : decode cX0_walksBeside 2 = .ok (.iconst 0, 1) := by decide +kernel
theorem dX0_walksBeside_3 : decode cX0_walksBeside 3 = .ok (.istore 4, 2) := by decide +kernel
theorem dX0_walksBeside_5 : decode cX0_walksBeside 5 = .ok (.iload 4, 2) := by decide +kernel
theorem dX0_walksBeside_7 : decode cX0_walksBeside 7 = .ok (.aload_n 0, 1) := by decide +kernel
theorem dX0_walksBeside_8 : decode cX0_walksBeside 8 = .ok (.getfield 9, 3) := by decide +kernel
theorem dX0_walksBeside_11 : decode cX0_walksBeside 11 = .ok (.invokevirtual 19, 3) := by decide +kernel
theorem dX0_walksBeside_14 : decode cX0_walksBeside 14 = .ok (.if_icmp .ge 35, 3) := by decide +kernel
theorem dX0_walksBeside_17 : decode cX0_walksBeside 17 = .ok (.aload_n 0, 1) := by decide +kernel
theorem dX0_walksBeside_18 : decode cX0_walksBeside 18 = .ok (.getfield 9, 3) := by decide +kernel
theorem dX0_walksBeside_21 : decode cX0_walksBeside 21 = .ok (.iload 4, 2) := by decide +kernel
theorem dX0_walksBeside_23 : decode cX0_walksBeside 23 = .ok (.invokevirtual 25, 3) := by decide +kernel
theorem dX0_walksBeside_26 : decode cX0_walksBeside 26 = .ok (.iload_n 2, 1) := by decide +kernel
theorem dX0_walksBeside_27 : decode cX0_walksBeside 27 = .ok (.if_icmp .ne 16, 3) := by decide +kernel
theorem dX0_walksBeside_30 : decode cX0_walksBeside 30 = .ok (.aload_n 0, 1) := by decide +kernel
theorem dX0_walksBeside_31 : decode cX0_walksBeside 31 = .ok (.iload_n 1, 1) := by decide +kernel
theorem dX0_walksBeside_32 : decode cX0_walksBeside 32 = .ok (.iload 4, 2) := by decide +kernel
theorem dX0_walksBeside_34 : decode cX0_walksBeside 34 = .ok (.invokevirtual 36, 3) := by decide +kernel
theorem dX0_walksBeside_37 : decode cX0_walksBeside 37 = .ok (.ifCond .eq 6, 3) := by decide +kernel
theorem dX0_walksBeside_40 : decode cX0_walksBeside 40 = .ok (.iinc 3 1, 3) := by decide +kernel
theorem dX0_walksBeside_43 : decode cX0_walksBeside 43 = .ok (.iinc 4 1, 3) := by decide +kernel
theorem dX0_walksBeside_46 : decode cX0_walksBeside 46 = .ok (.goto (-41), 3) := by decide +kernel
theorem dX0_walksBeside_49 : decode cX0_walksBeside 49 = .ok (.iload_n 3, 1) := by decide +kernel
theorem dX0_walksBeside_50 : decode cX0_walksBeside 50 = .ok (.ireturn, 1) := by decide +kernel

set_option maxHeartbeats 4000000 in
set_option maxRecDepth 100000 in
theorem c_X0_walksBeside (l : Launch) (E : Ev) {A : Nat → Prop} (ad : Nat → Nat) (hA : Oka 39 ad A) (sc : Nat → Int32) (ar : Nat → Nat → Int32) (bl : Int64) {nW : Nat} (i : Nat) (v : Int32) (hW : sc 5 = nI nW) (hW60 : nW ≤ 60) (hi : i < 60) : Ct l E yX0_walksBeside (.code yX0_walksBeside cX0_walksBeside 5 (some .int)) ({ frames := 2, cells := 0, slots := 0, locals := 43 }) A (cw E ad sc ar bl) [.ref (ad 5), .int (nI i), .int v] (some (.int (wbs (ar 16) (ar 17) i v nW))) (cw E ad sc ar bl) := by
  refine Ct.of (lv := [(0, .ref (ad 5)), (1, .int (nI i)), (2, .int v)]) (by decide +kernel) (Nat.le_of_ble_eq_true rfl) rfl ?_
  intro zp ze zs zm za zb zh zc hc
  refine g_iconst (pc := 0) (v := nI 0) hc dX0_walksBeside_0 (by decide) ?_
  refine g_istore_n (pc := 1) (lv' := [(0, .ref (ad 5)), (1, .int (nI i)), (2, .int v), (3, .int (nI 0))]) hc dX0_walksBeside_1 rfl (by decide) rfl ?_
  refine g_iconst (pc := 2) (v := nI 0) hc dX0_walksBeside_2 (by decide) ?_
  refine g_istore (pc := 3) (lv' := [(0, .ref (ad 5)), (1, .int (nI i)), (2, .int v), (3, .int (nI 0)), (4, .int (nI 0))]) hc dX0_walksBeside_3 (by decide) rfl ?_
  have L5_1 : ∀ (kj j : Nat), j + kj = nW → G zp l ze ({ frames := 2, cells := 0, slots := 0, locals := 43 }) zs zm za zb zh zc 0 0 (MQ zb (Qz E A (some (.int (wbs (ar 16) (ar 17) i v nW))) (cw E ad sc ar bl)) za zs 0 0 A) E A 5 (cw E ad sc ar bl) (5) [(0, .ref (ad 5)), (1, .int (nI i)), (2, .int v), (3, .int (wbs (ar 16) (ar 17) i v (j))), (4, .int (nI (j)))] [] := by
    intro kj
    induction kj with
    | zero =>
      intro j lhj
      have lhjn : nW = j := by omega
      subst lhjn
      refine g_iload (pc := 5) hc 4 dX0_walksBeside_5 rfl ?_
      refine g_aload_n (pc := 7) hc 0 dX0_walksBeside_7 rfl rfl ?_
      refine gf_c5_walks (pc := 8) hc tw_189 dX0_walksBeside_8 ?_
      refine g_callVi (pc := 11) (rest := [.int (nI (nW))]) (As := []) hc (c_X10_number l E ad hA sc ar bl) mi_X10_number tw_516 3 rfl rfl rfl rfl ⟨rfl, rfl, by decide, by decide⟩ (Nat.le_of_ble_eq_true rfl) ⟨Nat.le_refl _, Nat.le_refl _⟩ rfl dX0_walksBeside_11 ?_
      refine g_topi (v := nI nW) (hW) ?_
      refine g_icmp_ge_t (pc := 14) hc 49 dX0_walksBeside_14 (by decide) (nI_le (by omega) (by omega)) ?_
      refine g_iload_n (pc := 49) hc 3 dX0_walksBeside_49 rfl rfl ?_
      exact g_iret (pc := 50) hc dX0_walksBeside_50 (rfl) (rfl)
    | succ kj ihj =>
      intro j lhj
      have lhjn : j < nW := by omega
      refine g_iload (pc := 5) hc 4 dX0_walksBeside_5 rfl ?_
      refine g_aload_n (pc := 7) hc 0 dX0_walksBeside_7 rfl rfl ?_
      refine gf_c5_walks (pc := 8) hc tw_189 dX0_walksBeside_8 ?_
      refine g_callVi (pc := 11) (rest := [.int (nI (j))]) (As := []) hc (c_X10_number l E ad hA sc ar bl) mi_X10_number tw_516 3 rfl rfl rfl rfl ⟨rfl, rfl, by decide, by decide⟩ (Nat.le_of_ble_eq_true rfl) ⟨Nat.le_refl _, Nat.le_refl _⟩ rfl dX0_walksBeside_11 ?_
      refine g_topi (v := nI nW) (hW) ?_
      refine g_icmp_ge_f (pc := 14) hc 49 dX0_walksBeside_14 (by decide) (nI_ge (by omega) (by omega)) ?_
      refine g_aload_n (pc := 17) hc 0 dX0_walksBeside_17 rfl rfl ?_
      refine gf_c5_walks (pc := 18) hc tw_189 dX0_walksBeside_18 ?_
      refine g_iload (pc := 21) hc 4 dX0_walksBeside_21 rfl ?_
      refine g_callVi (pc := 23) (rest := []) (As := [.int (nI (j))]) hc (c_X10_walkerOf l E ad hA sc ar bl j (by omega)) mi_X10_walkerOf tw_520 3 rfl rfl rfl rfl ⟨rfl, rfl, by decide, by decide⟩ (Nat.le_of_ble_eq_true rfl) ⟨Nat.le_refl _, Nat.le_refl _⟩ rfl dX0_walksBeside_23 ?_
      refine g_iload_n (pc := 26) hc 2 dX0_walksBeside_26 rfl rfl ?_
      refine g_icmp_ne (pc := 27) hc 43 dX0_walksBeside_27 (by decide) (fun c2 => ?_) (fun c2 => ?_)
      · refine g_iinc (pc := 43) (v := nI (j + 1)) (lv' := [(0, .ref (ad 5)), (1, .int (nI i)), (2, .int v), (3, .int (wbs (ar 16) (ar 17) i v (j))), (4, .int (nI (j + 1)))]) hc 4 dX0_walksBeside_43 rfl (nI_ofi j 1) (by decide) rfl ?_
        refine g_goto (pc := 46) hc 5 dX0_walksBeside_46 (by decide) ?_
        exact g_eq (ws' := cw E ad sc ar bl) (lv' := [(0, .ref (ad 5)), (1, .int (nI i)), (2, .int v), (3, .int (wbs (ar 16) (ar 17) i v (j + 1))), (4, .int (nI (j + 1)))]) (rfl) (by rw [wbs_succ]; repeat (first | rw [if_pos c2] | rw [if_neg c2] | rw [if_neg (ne_true_of_eq_false c2)])) rfl (ihj (j + 1) (by omega))
      · refine g_aload_n (pc := 30) hc 0 dX0_walksBeside_30 rfl rfl ?_
        refine g_iload_n (pc := 31) hc 1 dX0_walksBeside_31 rfl rfl ?_
        refine g_iload (pc := 32) hc 4 dX0_walksBeside_32 rfl ?_
        refine g_callVi (pc := 34) (rest := []) (As := [.int (nI i), .int (nI (j))]) hc (c_X0_arePair l E ad hA sc ar bl i j (by omega) (by omega)) mi_X0_arePair tw_525 5 rfl rfl rfl rfl ⟨rfl, rfl, by decide, by decide⟩ (Nat.le_of_ble_eq_true rfl) ⟨Nat.le_refl _, Nat.le_refl _⟩ rfl dX0_walksBeside_34 ?_
        refine g_if_eq_b (pc := 37) hc 43 dX0_walksBeside_37 (by decide) (fun c3 => ?_) (fun c3 => ?_)
        · refine g_iinc (pc := 43) (v := nI (j + 1)) (lv' := [(0, .ref (ad 5)), (1, .int (nI i)), (2, .int v), (3, .int (wbs (ar 16) (ar 17) i v (j))), (4, .int (nI (j + 1)))]) hc 4 dX0_walksBeside_43 rfl (nI_ofi j 1) (by decide) rfl ?_
          refine g_goto (pc := 46) hc 5 dX0_walksBeside_46 (by decide) ?_
          exact g_eq (ws' := cw E ad sc ar bl) (lv' := [(0, .ref (ad 5)), (1, .int (nI i)), (2, .int v), (3, .int (wbs (ar 16) (ar 17) i v (j + 1))), (4, .int (nI (j + 1)))]) (rfl) (by rw [wbs_succ]; repeat (first | rw [if_pos c2] | rw [if_neg c2] | rw [if_neg (ne_true_of_eq_false c2)] | rw [if_pos c3] | rw [if_neg c3] | rw [if_neg (ne_true_of_eq_false c3)])) rfl (ihj (j + 1) (by omega))
        · refine g_iinc (pc := 40) (v := (wbs (ar 16) (ar 17) i v (j)) + 1) (lv' := [(0, .ref (ad 5)), (1, .int (nI i)), (2, .int v), (3, .int ((wbs (ar 16) (ar 17) i v (j)) + 1)), (4, .int (nI (j)))]) hc 3 dX0_walksBeside_40 rfl (rfl) (by decide) rfl ?_
          refine g_iinc (pc := 43) (v := nI (j + 1)) (lv' := [(0, .ref (ad 5)), (1, .int (nI i)), (2, .int v), (3, .int ((wbs (ar 16) (ar 17) i v (j)) + 1)), (4, .int (nI (j + 1)))]) hc 4 dX0_walksBeside_43 rfl (nI_ofi j 1) (by decide) rfl ?_
          refine g_goto (pc := 46) hc 5 dX0_walksBeside_46 (by decide) ?_
          exact g_eq (ws' := cw E ad sc ar bl) (lv' := [(0, .ref (ad 5)), (1, .int (nI i)), (2, .int v), (3, .int (wbs (ar 16) (ar 17) i v (j + 1))), (4, .int (nI (j + 1)))]) (rfl) (by rw [wbs_succ]; repeat (first | rw [if_pos c2] | rw [if_neg c2] | rw [if_neg (ne_true_of_eq_false c2)] | rw [if_pos c3] | rw [if_neg c3] | rw [if_neg (ne_true_of_eq_false c3)])) rfl (ihj (j + 1) (by omega))
  exact g_eq (ws' := cw E ad sc ar bl) (lv' := [(0, .ref (ad 5)), (1, .int (nI i)), (2, .int v), (3, .int (wbs (ar 16) (ar 17) i v (0))), (4, .int (nI (0)))]) (rfl) (rfl) rfl (L5_1 (nW - 0) (0) (by omega))

theorem dX0_seenIn_0 : decode cX0_seenIn 0 = .ok (.iconst 0, 1) := by decide +kernel
theorem dX0_seenIn_1 : decode cX0_seenIn 1 = .ok (.istore_n 2, 1) := by decide +kernel
theorem dX0_seenIn_2 : decode cX0_seenIn 2 = .ok (.iconst 0, 1) := by decide +kernel
theorem dX0_seenIn_3 : decode cX0_seenIn 3 = .ok (.istore_n 3, 1) := by decide +kernel
theorem dX0_seenIn_4 : decode cX0_seenIn 4 = .ok (.iload_n 3, 1) := by decide +kernel
theorem dX0_seenIn_5 : decode cX0_seenIn 5 = .ok (.iconst 4, 1) := by decide +kernel
theorem dX0_seenIn_6 : decode cX0_seenIn 6 = .ok (.if_icmp .ge 32, 3) := by decide +kernel
theorem dX0_seenIn_9 : decode cX0_seenIn 9 = .ok (.aload_n 0, 1) := by decide +kernel
theorem dX0_seenIn_10 : decode cX0_seenIn 10 = .ok (.getfield 15, 3) := by decide +kernel
theorem dX0_seenIn_13 : decode cX0_seenIn 13 = .ok (.iload_n 3, 1) := by decide +kernel
theorem dX0_seenIn_14 : decode cX0_seenIn 14 = .ok (.invokevirtual 52, 3) := by decide +kernel
theorem dX0_seenIn_17 : decode cX0_seenIn 17 = .ok (.ifCond .ne 15, 3) := by decide +kernel
theorem dX0_seenIn_20 : decode cX0_seenIn 20 = .ok (.iload_n 2, 1) := by decide +kernel
theorem dX0_seenIn_21 : decode cX0_seenIn 21 = .ok (.aload_n 0, 1) := by decide +kernel
theorem dX0_seenIn_22 : decode cX0_seenIn 22 = .ok (.getfield 9, 3) := by decide +kernel
theorem dX0_seenIn_25 : decode cX0_seenIn 25 = .ok (.iload_n 1, 1) := by decide +kernel
theorem dX0_seenIn_26 : decode cX0_seenIn 26 = .ok (.iload_n 3, 1) := by decide +kernel
theorem dX0_seenIn_27 : decode cX0_seenIn 27 = .ok (.invokevirtual 63, 3) := by decide +kernel
theorem dX0_seenIn_30 : decode cX0_seenIn 30 = .ok (.iadd, 1) := by decide +kernel
theorem dX0_seenIn_31 : decode cX0_seenIn 31 = .ok (.istore_n 2, 1) := by decide +kernel
theorem dX0_seenIn_32 : decode cX0_seenIn 32 = .ok (.iinc 3 1, 3) := by decide +kernel
theorem dX0_seenIn_35 : decode cX0_seenIn 35 = .ok (.goto (-31), 3) := by decide +kernel
theorem dX0_seenIn_38 : decode cX0_seenIn 38 = .ok (.iload_n 2, 1) := by decide +kernel
theorem dX0_seenIn_39 : decode cX0_seenIn 39 = .ok (.ireturn, 1) := by decide +kernel

set_option maxHeartbeats 4000000 in
set_option maxRecDepth 100000 in
theorem c_X0_seenIn (l : Launch) (E : Ev) {A : Nat → Prop} (ad : Nat → Nat) (hA : Oka 39 ad A) (sc : Nat → Int32) (ar : Nat → Nat → Int32) (bl : Int64) {nW : Nat} (i : Nat) (hW : sc 5 = nI nW) (hW60 : nW ≤ 60) (hi : i < nW) : Ct l E yX0_seenIn (.code yX0_seenIn cX0_seenIn 4 (some .int)) ({ frames := 2, cells := 0, slots := 0, locals := 43 }) A (cw E ad sc ar bl) [.ref (ad 5), .int (nI i)] (some (.int (cseen (ar 15) (ar 19) i))) (cw E ad sc ar bl) := by
  refine Ct.of (lv := [(0, .ref (ad 5)), (1, .int (nI i))]) (by decide +kernel) (Nat.le_of_ble_eq_true rfl) rfl ?_
  intro zp ze zs zm za zb zh zc hc
  refine g_iconst (pc := 0) (v := nI 0) hc dX0_seenIn_0 (by decide) ?_
  refine g_istore_n (pc := 1) (lv' := [(0, .ref (ad 5)), (1, .int (nI i)), (2, .int (nI 0))]) hc dX0_seenIn_1 rfl (by decide) rfl ?_
  refine g_iconst (pc := 2) (v := nI 0) hc dX0_seenIn_2 (by decide) ?_
  refine g_istore_n (pc := 3) (lv' := [(0, .ref (ad 5)), (1, .int (nI i)), (2, .int (nI 0)), (3, .int (nI 0))]) hc dX0_seenIn_3 rfl (by decide) rfl ?_
  have L4_1 : ∀ (kj j : Nat), j + kj = 4 → G zp l ze ({ frames := 2, cells := 0, slots := 0, locals := 43 }) zs zm za zb zh zc 0 0 (MQ zb (Qz E A (some (.int (cseen (ar 15) (ar 19) i))) (cw E ad sc ar bl)) za zs 0 0 A) E A 4 (cw E ad sc ar bl) (4) [(0, .ref (ad 5)), (1, .int (nI i)), (2, .int (csn (ar 15) (ar 19) i (j))), (3, .int (nI (j)))] [] := by
    intro kj
    induction kj with
    | zero =>
      intro j lhj
      have lhjn : 4 = j := by omega
      subst lhjn
      refine g_iload_n (pc := 4) hc 3 dX0_seenIn_4 rfl rfl ?_
      refine g_iconst (pc := 5) (v := nI 4) hc dX0_seenIn_5 (by decide) ?_
      refine g_icmp_ge_t (pc := 6) hc 38 dX0_seenIn_6 (by decide) (nI_le (by omega) (by omega)) ?_
      refine g_iload_n (pc := 38) hc 2 dX0_seenIn_38 rfl rfl ?_
      exact g_iret (pc := 39) hc dX0_seenIn_39 (rfl) (rfl)
    | succ kj ihj =>
      intro j lhj
      have lhjn : j < 4 := by omega
      refine g_iload_n (pc := 4) hc 3 dX0_seenIn_4 rfl rfl ?_
      refine g_iconst (pc := 5) (v := nI 4) hc dX0_seenIn_5 (by decide) ?_
      refine g_icmp_ge_f (pc := 6) hc 38 dX0_seenIn_6 (by decide) (nI_ge (by omega) (by omega)) ?_
      refine g_aload_n (pc := 9) hc 0 dX0_seenIn_9 rfl rfl ?_
      refine gf_c5_sorts (pc := 10) hc tw_190 dX0_seenIn_10 ?_
      refine g_iload_n (pc := 13) hc 3 dX0_seenIn_13 rfl rfl ?_
      refine g_callVi (pc := 14) (rest := []) (As := [.int (nI (j))]) hc (c_X8_isCoarse l E ad hA sc ar bl j (by omega)) mi_X8_isCoarse tw_538 2 rfl rfl rfl rfl ⟨rfl, rfl, by decide, by decide⟩ (Nat.le_of_ble_eq_true rfl) ⟨Nat.le_refl _, Nat.le_refl _⟩ rfl dX0_seenIn_14 ?_
      refine g_if_ne_b (pc := 17) hc 32 dX0_seenIn_17 (by decide) (fun c2 => ?_) (fun c2 => ?_)
      · refine g_iinc (pc := 32) (v := nI (j + 1)) (lv' := [(0, .ref (ad 5)), (1, .int (nI i)), (2, .int (csn (ar 15) (ar 19) i (j))), (3, .int (nI (j + 1)))]) hc 3 dX0_seenIn_32 rfl (nI_ofi j 1) (by decide) rfl ?_
        refine g_goto (pc := 35) hc 4 dX0_seenIn_35 (by decide) ?_
        exact g_eq (ws' := cw E ad sc ar bl) (lv' := [(0, .ref (ad 5)), (1, .int (nI i)), (2, .int (csn (ar 15) (ar 19) i (j + 1))), (3, .int (nI (j + 1)))]) (rfl) (by rw [csn_succ]; repeat (first | rw [if_pos c2] | rw [if_neg c2] | rw [if_neg (ne_true_of_eq_false c2)])) rfl (ihj (j + 1) (by omega))
      · refine g_iload_n (pc := 20) hc 2 dX0_seenIn_20 rfl rfl ?_
        refine g_aload_n (pc := 21) hc 0 dX0_seenIn_21 rfl rfl ?_
        refine gf_c5_walks (pc := 22) hc tw_189 dX0_seenIn_22 ?_
        refine g_iload_n (pc := 25) hc 1 dX0_seenIn_25 rfl rfl ?_
        refine g_iload_n (pc := 26) hc 3 dX0_seenIn_26 rfl rfl ?_
        refine g_callVi (pc := 27) (rest := [.int (csn (ar 15) (ar 19) i (j))]) (As := [.int (nI i), .int (nI (j))]) hc (c_X10_sumOf l E ad hA sc ar bl (nI i) j (hW) (hW60) (by omega)) mi_X10_sumOf tw_542 3 rfl rfl rfl rfl ⟨rfl, rfl, by decide, by decide⟩ (Nat.le_of_ble_eq_true rfl) ⟨Nat.le_refl _, Nat.le_refl _⟩ rfl dX0_seenIn_27 ?_
        refine g_topi (v := ar 19 (i * 4 + j)) (smo_nI hW hW60 hi) ?_
        refine g_iadd (pc := 30) hc dX0_seenIn_30 ?_
        refine g_istore_n (pc := 31) (lv' := [(0, .ref (ad 5)), (1, .int (nI i)), (2, .int ((csn (ar 15) (ar 19) i (j)) + (ar 19 (i * 4 + j)))), (3, .int (nI (j)))]) hc dX0_seenIn_31 rfl (by decide) rfl ?_
        refine g_iinc (pc := 32) (v := nI (j + 1)) (lv' := [(0, .ref (ad 5)), (1, .int (nI i)), (2, .int ((csn (ar 15) (ar 19) i (j)) + (ar 19 (i * 4 + j)))), (3, .int (nI (j + 1)))]) hc 3 dX0_seenIn_32 rfl (nI_ofi j 1) (by decide) rfl ?_
        refine g_goto (pc := 35) hc 4 dX0_seenIn_35 (by decide) ?_
        exact g_eq (ws' := cw E ad sc ar bl) (lv' := [(0, .ref (ad 5)), (1, .int (nI i)), (2, .int (csn (ar 15) (ar 19) i (j + 1))), (3, .int (nI (j + 1)))]) (rfl) (by rw [csn_succ]; repeat (first | rw [if_pos c2] | rw [if_neg c2] | rw [if_neg (ne_true_of_eq_false c2)])) rfl (ihj (j + 1) (by omega))
  exact g_eq (ws' := cw E ad sc ar bl) (lv' := [(0, .ref (ad 5)), (1, .int (nI i)), (2, .int (csn (ar 15) (ar 19) i (0))), (3, .int (nI (0)))]) (rfl) (rfl) rfl (L4_1 (4 - 0) (0) (by omega))

theorem dX0_pairs_0 : decode cX0_pairs 0 = .ok (.iconst 0, 1) := by decide +kernel
theorem dX0_pairs_1 : decode cX0_pairs 1 = .ok (.istore_n 3, 1) := by decide +kernel
theorem dX0_pairs_2 : decode cX0_pairs 2 = .ok (.iconst 0, 1) := by decide +kernel
theorem dX0_pairs_3 : decode cX0_pairs 3 = .ok (.istore 4, 2) := by decide +kernel
theorem dX0_pairs_5 : decode cX0_pairs 5 = .ok (.iload 4, 2) := by decide +kernel
theorem dX0_pairs_7 : decode cX0_pairs 7 = .ok (.aload_n 0, 1) := by decide +kernel
theorem dX0_pairs_8 : decode cX0_pairs 8 = .ok (.getfield 9, 3) := by decide +kernel
theorem dX0_pairs_11 : decode cX0_pairs 11 = .ok (.invokevirtual 19, 3) := by decide +kernel
theorem dX0_pairs_14 : decode cX0_pairs 14 = .ok (.if_icmp .ge 32, 3) := by decide +kernel
theorem dX0_pairs_17 : decode cX0_pairs 17 = .ok (.aload_n 0, 1) := by decide +kernel
theorem dX0_pairs_18 : decode cX0_pairs 18 = .ok (.getfield 9, 3) := by decide +kernel
theorem dX0_pairs_21 : decode cX0_pairs 21 = .ok (.iload 4, 2) := by decide +kernel
theorem dX0_pairs_23 : decode cX0_pairs 23 = .ok (.invokevirtual 25, 3) := by decide +kernel
theorem dX0_pairs_26 : decode cX0_pairs 26 = .ok (.iload_n 1, 1) := by decide +kernel
theorem dX0_pairs_27 : decode cX0_pairs 27 = .ok (.if_icmp .ne 13, 3) := by decide +kernel
theorem dX0_pairs_30 : decode cX0_pairs 30 = .ok (.iload_n 3, 1) := by decide +kernel
theorem dX0_pairs_31 : decode cX0_pairs 31 = .ok (.aload_n 0, 1) := by decide +kernel
theorem dX0_pairs_32 : decode cX0_pairs 32 = .ok (.iload 4, 2) := by decide +kernel
theorem dX0_pairs_34 : decode cX0_pairs 34 = .ok (.iload_n 2, 1) := by decide +kernel
theorem dX0_pairs_35 : decode cX0_pairs 35 = .ok (.invokevirtual 29, 3) := by decide +kernel
theorem dX0_pairs_38 : decode cX0_pairs 38 = .ok (.iadd, 1) := by decide +kernel
theorem dX0_pairs_39 : decode cX0_pairs 39 = .ok (.istore_n 3, 1) := by decide +kernel
theorem dX0_pairs_40 : decode cX0_pairs 40 = .ok (.iinc 4 1, 3) := by decide +kernel
theorem dX0_pairs_43 : decode cX0_pairs 43 = .ok (.goto (-38), 3) := by decide +kernel
theorem dX0_pairs_46 : decode cX0_pairs 46 = .ok (.iload_n 3, 1) := by decide +kernel
theorem dX0_pairs_47 : decode cX0_pairs 47 = .ok (.ireturn, 1) := by decide +kernel

set_option maxHeartbeats 4000000 in
set_option maxRecDepth 100000 in
theorem c_X0_pairs (l : Launch) (E : Ev) {A : Nat → Prop} (ad : Nat → Nat) (hA : Oka 39 ad A) (sc : Nat → Int32) (ar : Nat → Nat → Int32) (bl : Int64) {nW : Nat} (v : Int32) (u : Int32) (hW : sc 5 = nI nW) (hW60 : nW ≤ 60) : Ct l E yX0_pairs (.code yX0_pairs cX0_pairs 5 (some .int)) ({ frames := 3, cells := 0, slots := 0, locals := 67 }) A (cw E ad sc ar bl) [.ref (ad 5), .int v, .int u] (some (.int (prs (ar 16) (ar 17) v u nW nW))) (cw E ad sc ar bl) := by
  refine Ct.of (lv := [(0, .ref (ad 5)), (1, .int v), (2, .int u)]) (by decide +kernel) (Nat.le_of_ble_eq_true rfl) rfl ?_
  intro zp ze zs zm za zb zh zc hc
  refine g_iconst (pc := 0) (v := nI 0) hc dX0_pairs_0 (by decide) ?_
  refine g_istore_n (pc := 1) (lv' := [(0, .ref (ad 5)), (1, .int v), (2, .int u), (3, .int (nI 0))]) hc dX0_pairs_1 rfl (by decide) rfl ?_
  refine g_iconst (pc := 2) (v := nI 0) hc dX0_pairs_2 (by decide) ?_
  refine g_istore (pc := 3) (lv' := [(0, .ref (ad 5)), (1, .int v), (2, .int u), (3, .int (nI 0)), (4, .int (nI 0))]) hc dX0_pairs_3 (by decide) rfl ?_
  have L5_1 : ∀ (ki i : Nat), i + ki = nW → G zp l ze ({ frames := 3, cells := 0, slots := 0, locals := 67 }) zs zm za zb zh zc 0 0 (MQ zb (Qz E A (some (.int (prs (ar 16) (ar 17) v u nW nW))) (cw E ad sc ar bl)) za zs 0 0 A) E A 5 (cw E ad sc ar bl) (5) [(0, .ref (ad 5)), (1, .int v), (2, .int u), (3, .int (prs (ar 16) (ar 17) v u nW (i))), (4, .int (nI (i)))] [] := by
    intro ki
    induction ki with
    | zero =>
      intro i lhi
      have lhin : nW = i := by omega
      subst lhin
      refine g_iload (pc := 5) hc 4 dX0_pairs_5 rfl ?_
      refine g_aload_n (pc := 7) hc 0 dX0_pairs_7 rfl rfl ?_
      refine gf_c5_walks (pc := 8) hc tw_189 dX0_pairs_8 ?_
      refine g_callVi (pc := 11) (rest := [.int (nI (nW))]) (As := []) hc (c_X10_number l E ad hA sc ar bl) mi_X10_number tw_516 3 rfl rfl rfl rfl ⟨rfl, rfl, by decide, by decide⟩ (Nat.le_of_ble_eq_true rfl) ⟨Nat.le_refl _, Nat.le_refl _⟩ rfl dX0_pairs_11 ?_
      refine g_topi (v := nI nW) (hW) ?_
      refine g_icmp_ge_t (pc := 14) hc 46 dX0_pairs_14 (by decide) (nI_le (by omega) (by omega)) ?_
      refine g_iload_n (pc := 46) hc 3 dX0_pairs_46 rfl rfl ?_
      exact g_iret (pc := 47) hc dX0_pairs_47 (rfl) (rfl)
    | succ ki ihi =>
      intro i lhi
      have lhin : i < nW := by omega
      refine g_iload (pc := 5) hc 4 dX0_pairs_5 rfl ?_
      refine g_aload_n (pc := 7) hc 0 dX0_pairs_7 rfl rfl ?_
      refine gf_c5_walks (pc := 8) hc tw_189 dX0_pairs_8 ?_
      refine g_callVi (pc := 11) (rest := [.int (nI (i))]) (As := []) hc (c_X10_number l E ad hA sc ar bl) mi_X10_number tw_516 3 rfl rfl rfl rfl ⟨rfl, rfl, by decide, by decide⟩ (Nat.le_of_ble_eq_true rfl) ⟨Nat.le_refl _, Nat.le_refl _⟩ rfl dX0_pairs_11 ?_
      refine g_topi (v := nI nW) (hW) ?_
      refine g_icmp_ge_f (pc := 14) hc 46 dX0_pairs_14 (by decide) (nI_ge (by omega) (by omega)) ?_
      refine g_aload_n (pc := 17) hc 0 dX0_pairs_17 rfl rfl ?_
      refine gf_c5_walks (pc := 18) hc tw_189 dX0_pairs_18 ?_
      refine g_iload (pc := 21) hc 4 dX0_pairs_21 rfl ?_
      refine g_callVi (pc := 23) (rest := []) (As := [.int (nI (i))]) hc (c_X10_walkerOf l E ad hA sc ar bl i (by omega)) mi_X10_walkerOf tw_520 3 rfl rfl rfl rfl ⟨rfl, rfl, by decide, by decide⟩ (Nat.le_of_ble_eq_true rfl) ⟨Nat.le_refl _, Nat.le_refl _⟩ rfl dX0_pairs_23 ?_
      refine g_iload_n (pc := 26) hc 1 dX0_pairs_26 rfl rfl ?_
      refine g_icmp_ne (pc := 27) hc 40 dX0_pairs_27 (by decide) (fun c2 => ?_) (fun c2 => ?_)
      · refine g_iinc (pc := 40) (v := nI (i + 1)) (lv' := [(0, .ref (ad 5)), (1, .int v), (2, .int u), (3, .int (prs (ar 16) (ar 17) v u nW (i))), (4, .int (nI (i + 1)))]) hc 4 dX0_pairs_40 rfl (nI_ofi i 1) (by decide) rfl ?_
        refine g_goto (pc := 43) hc 5 dX0_pairs_43 (by decide) ?_
        exact g_eq (ws' := cw E ad sc ar bl) (lv' := [(0, .ref (ad 5)), (1, .int v), (2, .int u), (3, .int (prs (ar 16) (ar 17) v u nW (i + 1))), (4, .int (nI (i + 1)))]) (rfl) (by rw [prs_succ]; repeat (first | rw [if_pos c2] | rw [if_neg c2] | rw [if_neg (ne_true_of_eq_false c2)])) rfl (ihi (i + 1) (by omega))
      · refine g_iload_n (pc := 30) hc 3 dX0_pairs_30 rfl rfl ?_
        refine g_aload_n (pc := 31) hc 0 dX0_pairs_31 rfl rfl ?_
        refine g_iload (pc := 32) hc 4 dX0_pairs_32 rfl ?_
        refine g_iload_n (pc := 34) hc 2 dX0_pairs_34 rfl rfl ?_
        refine g_callVi (pc := 35) (rest := [.int (prs (ar 16) (ar 17) v u nW (i))]) (As := [.int (nI (i)), .int u]) hc (c_X0_walksBeside l E ad hA sc ar bl i u (hW) (hW60) (by omega)) mi_X0_walksBeside tw_521 5 rfl rfl rfl rfl ⟨rfl, rfl, by decide, by decide⟩ (Nat.le_of_ble_eq_true rfl) ⟨Nat.le_refl _, Nat.le_refl _⟩ rfl dX0_pairs_35 ?_
        refine g_iadd (pc := 38) hc dX0_pairs_38 ?_
        refine g_istore_n (pc := 39) (lv' := [(0, .ref (ad 5)), (1, .int v), (2, .int u), (3, .int ((prs (ar 16) (ar 17) v u nW (i)) + (wbs (ar 16) (ar 17) i u nW))), (4, .int (nI (i)))]) hc dX0_pairs_39 rfl (by decide) rfl ?_
        refine g_iinc (pc := 40) (v := nI (i + 1)) (lv' := [(0, .ref (ad 5)), (1, .int v), (2, .int u), (3, .int ((prs (ar 16) (ar 17) v u nW (i)) + (wbs (ar 16) (ar 17) i u nW))), (4, .int (nI (i + 1)))]) hc 4 dX0_pairs_40 rfl (nI_ofi i 1) (by decide) rfl ?_
        refine g_goto (pc := 43) hc 5 dX0_pairs_43 (by decide) ?_
        exact g_eq (ws' := cw E ad sc ar bl) (lv' := [(0, .ref (ad 5)), (1, .int v), (2, .int u), (3, .int (prs (ar 16) (ar 17) v u nW (i + 1))), (4, .int (nI (i + 1)))]) (rfl) (by rw [prs_succ]; repeat (first | rw [if_pos c2] | rw [if_neg c2] | rw [if_neg (ne_true_of_eq_false c2)])) rfl (ihi (i + 1) (by omega))
  exact g_eq (ws' := cw E ad sc ar bl) (lv' := [(0, .ref (ad 5)), (1, .int v), (2, .int u), (3, .int (prs (ar 16) (ar 17) v u nW (0))), (4, .int (nI (0)))]) (rfl) (rfl) rfl (L5_1 (nW - 0) (0) (by omega))

theorem dX0_seenBeside_0 : decode cX0_seenBeside 0 = .ok (.iconst 0, 1) := by decide +kernel
theorem dX0_seenBeside_1 : decode cX0_seenBeside 1 = .ok (.istore_n 3, 1) := by decide +kernel
theorem dX0_seenBeside_2 : decode cX0_seenBeside 2 = .ok (.iconst 0, 1) := by decide +kernel
theorem dX0_seenBeside_3 : decode cX0_seenBeside 3 = .ok (.istore 4, 2) := by decide +kernel
theorem dX0_seenBeside_5 : decode cX0_seenBeside 5 = .ok (.iload 4, 2) := by decide +kernel
theorem dX0_seenBeside_7 : decode cX0_seenBeside 7 = .ok (.aload_n 0, 1) := by decide +kernel
theorem dX0_seenBeside_8 : decode cX0_seenBeside 8 = .ok (.getfield 9, 3) := by decide +kernel
theorem dX0_seenBeside_11 : decode cX0_seenBeside 11 = .ok (.invokevirtual 19, 3) := by decide +kernel
theorem dX0_seenBeside_14 : decode cX0_seenBeside 14 = .ok (.if_icmp .ge 39, 3) := by decide +kernel
theorem dX0_seenBeside_17 : decode cX0_seenBeside 17 = .ok (.aload_n 0, 1) := by decide +kernel
theorem dX0_seenBeside_18 : decode cX0_seenBeside 18 = .ok (.getfield 9, 3) := by decide +kernel
theorem dX0_seenBeside_21 : decode cX0_seenBeside 21 = .ok (.iload 4, 2) := by decide +kernel
theorem dX0_seenBeside_23 : decode cX0_seenBeside 23 = .ok (.invokevirtual 25, 3) := by decide +kernel
theorem dX0_seenBeside_26 : decode cX0_seenBeside 26 = .ok (.iload_n 1, 1) := by decide +kernel
theorem dX0_seenBeside_27 : decode cX0_seenBeside 27 = .ok (.if_icmp .ne 20, 3) := by decide +kernel
theorem dX0_seenBeside_30 : decode cX0_seenBeside 30 = .ok (.iload_n 3, 1) := by decide +kernel
theorem dX0_seenBeside_31 : decode cX0_seenBeside 31 = .ok (.aload_n 0, 1) := by decide +kernel
theorem dX0_seenBeside_32 : decode cX0_seenBeside 32 = .ok (.iload 4, 2) := by decide +kernel
theorem dX0_seenBeside_34 : decode cX0_seenBeside 34 = .ok (.invokevirtual 33, 3) := by decide +kernel
theorem dX0_seenBeside_37 : decode cX0_seenBeside 37 = .ok (.aload_n 0, 1) := by decide +kernel
theorem dX0_seenBeside_38 : decode cX0_seenBeside 38 = .ok (.iload 4, 2) := by decide +kernel
theorem dX0_seenBeside_40 : decode cX0_seenBeside 40 = .ok (.iload_n 2, 1) := by decide +kernel
theorem dX0_seenBeside_41 : decode cX0_seenBeside 41 = .ok (.invokevirtual 29, 3) := by decide +kernel
theorem dX0_seenBeside_44 : decode cX0_seenBeside 44 = .ok (.imul, 1) := by decide +kernel
theorem dX0_seenBeside_45 : decode cX0_seenBeside 45 = .ok (.iadd, 1) := by decide +kernel
theorem dX0_seenBeside_46 : decode cX0_seenBeside 46 = .ok (.istore_n 3, 1) := by decide +kernel
theorem dX0_seenBeside_47 : decode cX0_seenBeside 47 = .ok (.iinc 4 1, 3) := by decide +kernel
theorem dX0_seenBeside_50 : decode cX0_seenBeside 50 = .ok (.goto (-45), 3) := by decide +kernel
theorem dX0_seenBeside_53 : decode cX0_seenBeside 53 = .ok (.iload_n 3, 1) := by decide +kernel
theorem dX0_seenBeside_54 : decode cX0_seenBeside 54 = .ok (.ireturn, 1) := by decide +kernel

set_option maxHeartbeats 4000000 in
set_option maxRecDepth 100000 in
theorem c_X0_seenBeside (l : Launch) (E : Ev) {A : Nat → Prop} (ad : Nat → Nat) (hA : Oka 39 ad A) (sc : Nat → Int32) (ar : Nat → Nat → Int32) (bl : Int64) {nW : Nat} (v : Int32) (u : Int32) (hW : sc 5 = nI nW) (hW60 : nW ≤ 60) : Ct l E yX0_seenBeside (.code yX0_seenBeside cX0_seenBeside 5 (some .int)) ({ frames := 3, cells := 0, slots := 0, locals := 67 }) A (cw E ad sc ar bl) [.ref (ad 5), .int v, .int u] (some (.int (sbs (ar 15) (ar 16) (ar 17) (ar 19) v u nW nW))) (cw E ad sc ar bl) := by
  refine Ct.of (lv := [(0, .ref (ad 5)), (1, .int v), (2, .int u)]) (by decide +kernel) (Nat.le_of_ble_eq_true rfl) rfl ?_
  intro zp ze zs zm za zb zh zc hc
  refine g_iconst (pc := 0) (v := nI 0) hc dX0_seenBeside_0 (by decide) ?_
  refine g_istore_n (pc := 1) (lv' := [(0, .ref (ad 5)), (1, .int v), (2, .int u), (3, .int (nI 0))]) hc dX0_seenBeside_1 rfl (by decide) rfl ?_
  refine g_iconst (pc := 2) (v := nI 0) hc dX0_seenBeside_2 (by decide) ?_
  refine g_istore (pc := 3) (lv' := [(0, .ref (ad 5)), (1, .int v), (2, .int u), (3, .int (nI 0)), (4, .int (nI 0))]) hc dX0_seenBeside_3 (by decide) rfl ?_
  have L5_1 : ∀ (ki i : Nat), i + ki = nW → G zp l ze ({ frames := 3, cells := 0, slots := 0, locals := 67 }) zs zm za zb zh zc 0 0 (MQ zb (Qz E A (some (.int (sbs (ar 15) (ar 16) (ar 17) (ar 19) v u nW nW))) (cw E ad sc ar bl)) za zs 0 0 A) E A 5 (cw E ad sc ar bl) (5) [(0, .ref (ad 5)), (1, .int v), (2, .int u), (3, .int (sbs (ar 15) (ar 16) (ar 17) (ar 19) v u nW (i))), (4, .int (nI (i)))] [] := by
    intro ki
    induction ki with
    | zero =>
      intro i lhi
      have lhin : nW = i := by omega
      subst lhin
      refine g_iload (pc := 5) hc 4 dX0_seenBeside_5 rfl ?_
      refine g_aload_n (pc := 7) hc 0 dX0_seenBeside_7 rfl rfl ?_
      refine gf_c5_walks (pc := 8) hc tw_189 dX0_seenBeside_8 ?_
      refine g_callVi (pc := 11) (rest := [.int (nI (nW))]) (As := []) hc (c_X10_number l E ad hA sc ar bl) mi_X10_number tw_516 3 rfl rfl rfl rfl ⟨rfl, rfl, by decide, by decide⟩ (Nat.le_of_ble_eq_true rfl) ⟨Nat.le_refl _, Nat.le_refl _⟩ rfl dX0_seenBeside_11 ?_
      refine g_topi (v := nI nW) (hW) ?_
      refine g_icmp_ge_t (pc := 14) hc 53 dX0_seenBeside_14 (by decide) (nI_le (by omega) (by omega)) ?_
      refine g_iload_n (pc := 53) hc 3 dX0_seenBeside_53 rfl rfl ?_
      exact g_iret (pc := 54) hc dX0_seenBeside_54 (rfl) (rfl)
    | succ ki ihi =>
      intro i lhi
      have lhin : i < nW := by omega
      refine g_iload (pc := 5) hc 4 dX0_seenBeside_5 rfl ?_
      refine g_aload_n (pc := 7) hc 0 dX0_seenBeside_7 rfl rfl ?_
      refine gf_c5_walks (pc := 8) hc tw_189 dX0_seenBeside_8 ?_
      refine g_callVi (pc := 11) (rest := [.int (nI (i))]) (As := []) hc (c_X10_number l E ad hA sc ar bl) mi_X10_number tw_516 3 rfl rfl rfl rfl ⟨rfl, rfl, by decide, by decide⟩ (Nat.le_of_ble_eq_true rfl) ⟨Nat.le_refl _, Nat.le_refl _⟩ rfl dX0_seenBeside_11 ?_
      refine g_topi (v := nI nW) (hW) ?_
      refine g_icmp_ge_f (pc := 14) hc 53 dX0_seenBeside_14 (by decide) (nI_ge (by omega) (by omega)) ?_
      refine g_aload_n (pc := 17) hc 0 dX0_seenBeside_17 rfl rfl ?_
      refine gf_c5_walks (pc := 18) hc tw_189 dX0_seenBeside_18 ?_
      refine g_iload (pc := 21) hc 4 dX0_seenBeside_21 rfl ?_
      refine g_callVi (pc := 23) (rest := []) (As := [.int (nI (i))]) hc (c_X10_walkerOf l E ad hA sc ar bl i (by omega)) mi_X10_walkerOf tw_520 3 rfl rfl rfl rfl ⟨rfl, rfl, by decide, by decide⟩ (Nat.le_of_ble_eq_true rfl) ⟨Nat.le_refl _, Nat.le_refl _⟩ rfl dX0_seenBeside_23 ?_
      refine g_iload_n (pc := 26) hc 1 dX0_seenBeside_26 rfl rfl ?_
      refine g_icmp_ne (pc := 27) hc 47 dX0_seenBeside_27 (by decide) (fun c2 => ?_) (fun c2 => ?_)
      · refine g_iinc (pc := 47) (v := nI (i + 1)) (lv' := [(0, .ref (ad 5)), (1, .int v), (2, .int u), (3, .int (sbs (ar 15) (ar 16) (ar 17) (ar 19) v u nW (i))), (4, .int (nI (i + 1)))]) hc 4 dX0_seenBeside_47 rfl (nI_ofi i 1) (by decide) rfl ?_
        refine g_goto (pc := 50) hc 5 dX0_seenBeside_50 (by decide) ?_
        exact g_eq (ws' := cw E ad sc ar bl) (lv' := [(0, .ref (ad 5)), (1, .int v), (2, .int u), (3, .int (sbs (ar 15) (ar 16) (ar 17) (ar 19) v u nW (i + 1))), (4, .int (nI (i + 1)))]) (rfl) (by rw [sbs_succ]; repeat (first | rw [if_pos c2] | rw [if_neg c2] | rw [if_neg (ne_true_of_eq_false c2)])) rfl (ihi (i + 1) (by omega))
      · refine g_iload_n (pc := 30) hc 3 dX0_seenBeside_30 rfl rfl ?_
        refine g_aload_n (pc := 31) hc 0 dX0_seenBeside_31 rfl rfl ?_
        refine g_iload (pc := 32) hc 4 dX0_seenBeside_32 rfl ?_
        refine g_callVi (pc := 34) (rest := [.int (sbs (ar 15) (ar 16) (ar 17) (ar 19) v u nW (i))]) (As := [.int (nI (i))]) hc (c_X0_seenIn l E ad hA sc ar bl i (hW) (hW60) (by omega)) mi_X0_seenIn tw_534 5 rfl rfl rfl rfl ⟨rfl, rfl, by decide, by decide⟩ (Nat.le_of_ble_eq_true rfl) ⟨Nat.le_refl _, Nat.le_refl _⟩ rfl dX0_seenBeside_34 ?_
        refine g_aload_n (pc := 37) hc 0 dX0_seenBeside_37 rfl rfl ?_
        refine g_iload (pc := 38) hc 4 dX0_seenBeside_38 rfl ?_
        refine g_iload_n (pc := 40) hc 2 dX0_seenBeside_40 rfl rfl ?_
        refine g_callVi (pc := 41) (rest := [.int (cseen (ar 15) (ar 19) i), .int (sbs (ar 15) (ar 16) (ar 17) (ar 19) v u nW (i))]) (As := [.int (nI (i)), .int u]) hc (c_X0_walksBeside l E ad hA sc ar bl i u (hW) (hW60) (by omega)) mi_X0_walksBeside tw_521 5 rfl rfl rfl rfl ⟨rfl, rfl, by decide, by decide⟩ (Nat.le_of_ble_eq_true rfl) ⟨Nat.le_refl _, Nat.le_refl _⟩ rfl dX0_seenBeside_41 ?_
        refine g_imul (pc := 44) hc dX0_seenBeside_44 ?_
        refine g_iadd (pc := 45) hc dX0_seenBeside_45 ?_
        refine g_istore_n (pc := 46) (lv' := [(0, .ref (ad 5)), (1, .int v), (2, .int u), (3, .int ((sbs (ar 15) (ar 16) (ar 17) (ar 19) v u nW (i)) + ((cseen (ar 15) (ar 19) i) * (wbs (ar 16) (ar 17) i u nW)))), (4, .int (nI (i)))]) hc dX0_seenBeside_46 rfl (by decide) rfl ?_
        refine g_iinc (pc := 47) (v := nI (i + 1)) (lv' := [(0, .ref (ad 5)), (1, .int v), (2, .int u), (3, .int ((sbs (ar 15) (ar 16) (ar 17) (ar 19) v u nW (i)) + ((cseen (ar 15) (ar 19) i) * (wbs (ar 16) (ar 17) i u nW)))), (4, .int (nI (i + 1)))]) hc 4 dX0_seenBeside_47 rfl (nI_ofi i 1) (by decide) rfl ?_
        refine g_goto (pc := 50) hc 5 dX0_seenBeside_50 (by decide) ?_
        exact g_eq (ws' := cw E ad sc ar bl) (lv' := [(0, .ref (ad 5)), (1, .int v), (2, .int u), (3, .int (sbs (ar 15) (ar 16) (ar 17) (ar 19) v u nW (i + 1))), (4, .int (nI (i + 1)))]) (rfl) (by rw [sbs_succ]; repeat (first | rw [if_pos c2] | rw [if_neg c2] | rw [if_neg (ne_true_of_eq_false c2)])) rfl (ihi (i + 1) (by omega))
  exact g_eq (ws' := cw E ad sc ar bl) (lv' := [(0, .ref (ad 5)), (1, .int v), (2, .int u), (3, .int (sbs (ar 15) (ar 16) (ar 17) (ar 19) v u nW (0))), (4, .int (nI (0)))]) (rfl) (rfl) rfl (L5_1 (nW - 0) (0) (by omega))

theorem dX0_hundredths_0 : decode cX0_hundredths 0 = .ok (.iconst 0, 1) := by decide +kernel
theorem dX0_hundredths_1 : decode cX0_hundredths 1 = .ok (.istore_n 2, 1) := by decide +kernel
theorem dX0_hundredths_2 : decode cX0_hundredths 2 = .ok (.iconst 0, 1) := by decide +kernel
theorem dX0_hundredths_3 : decode cX0_hundredths 3 = .ok (.istore_n 3, 1) := by decide +kernel
theorem dX0_hundredths_4 : decode cX0_hundredths 4 = .ok (.iconst 0, 1) := by decide +kernel
theorem dX0_hundredths_5 : decode cX0_hundredths 5 = .ok (.istore 4, 2) := by decide +kernel
theorem dX0_hundredths_7 : decode cX0_hundredths 7 = .ok (.iload 4, 2) := by decide +kernel
theorem dX0_hundredths_9 : decode cX0_hundredths 9 = .ok (.aload_n 0, 1) := by decide +kernel
theorem dX0_hundredths_10 : decode cX0_hundredths 10 = .ok (.getfield 9, 3) := by decide +kernel
theorem dX0_hundredths_13 : decode cX0_hundredths 13 = .ok (.invokevirtual 19, 3) := by decide +kernel
theorem dX0_hundredths_16 : decode cX0_hundredths 16 = .ok (.if_icmp .ge 81, 3) := by decide +kernel
theorem dX0_hundredths_19 : decode cX0_hundredths 19 = .ok (.aload_n 0, 1) := by decide +kernel
theorem dX0_hundredths_20 : decode cX0_hundredths 20 = .ok (.getfield 9, 3) := by decide +kernel
theorem dX0_hundredths_23 : decode cX0_hundredths 23 = .ok (.iload 4, 2) := by decide +kernel
theorem dX0_hundredths_25 : decode cX0_hundredths 25 = .ok (.invokevirtual 25, 3) := by decide +kernel
theorem dX0_hundredths_28 : decode cX0_hundredths 28 = .ok (.iload_n 1, 1) := by decide +kernel
theorem dX0_hundredths_29 : decode cX0_hundredths 29 = .ok (.if_icmp .ne 62, 3) := by decide +kernel
theorem dX0_hundredths_32 : decode cX0_hundredths 32 = .ok (.aload_n 0, 1) := by decide +kernel
theorem dX0_hundredths_33 : decode cX0_hundredths 33 = .ok (.iload 4, 2) := by decide +kernel
theorem dX0_hundredths_35 : decode cX0_hundredths 35 = .ok (.invokevirtual 33, 3) := by decide +kernel
theorem dX0_hundredths_38 : decode cX0_hundredths 38 = .ok (.istore 5, 2) := by decide +kernel
theorem dX0_hundredths_40 : decode cX0_hundredths 40 = .ok (.iconst 0, 1) := by decide +kernel
theorem dX0_hundredths_41 : decode cX0_hundredths 41 = .ok (.istore 6, 2) := by decide +kernel
theorem dX0_hundredths_43 : decode cX0_hundredths 43 = .ok (.iload 6, 2) := by decide +kernel
theorem dX0_hundredths_45 : decode cX0_hundredths 45 = .ok (.aload_n 0, 1) := by decide +kernel
theorem dX0_hundredths_46 : decode cX0_hundredths 46 = .ok (.getfield 9, 3) := by decide +kernel
theorem dX0_hundredths_49 : decode cX0_hundredths 49 = .ok (.invokevirtual 19, 3) := by decide +kernel
theorem dX0_hundredths_52 : decode cX0_hundredths 52 = .ok (.if_icmp .ge 39, 3) := by decide +kernel
theorem dX0_hundredths_55 : decode cX0_hundredths 55 = .ok (.aload_n 0, 1) := by decide +kernel
theorem dX0_hundredths_56 : decode cX0_hundredths 56 = .ok (.iload 4, 2) := by decide +kernel
theorem dX0_hundredths_58 : decode cX0_hundredths 58 = .ok (.iload 6, 2) := by decide +kernel
theorem dX0_hundredths_60 : decode cX0_hundredths 60 = .ok (.invokevirtual 36, 3) := by decide +kernel
theorem dX0_hundredths_63 : decode cX0_hundredths 63 = .ok (.ifCond .eq 22, 3) := by decide +kernel
theorem dX0_hundredths_66 : decode cX0_hundredths 66 = .ok (.iload_n 2, 1) := by decide +kernel
theorem dX0_hundredths_67 : decode cX0_hundredths 67 = .ok (.iload 5, 2) := by decide +kernel
theorem dX0_hundredths_69 : decode cX0_hundredths 69 = .ok (.iadd, 1) := by decide +kernel
theorem dX0_hundredths_70 : decode cX0_hundredths 70 = .ok (.istore_n 2, 1) := by decide +kernel
theorem dX0_hundredths_71 : decode cX0_hundredths 71 = .ok (.iload_n 3, 1) := by decide +kernel
theorem dX0_hundredths_72 : decode cX0_hundredths 72 = .ok (.iload 5, 2) := by decide +kernel
theorem dX0_hundredths_74 : decode cX0_hundredths 74 = .ok (.aload_n 0, 1) := by decide +kernel
theorem dX0_hundredths_75 : decode cX0_hundredths 75 = .ok (.iload 6, 2) := by decide +kernel
theorem dX0_hundredths_77 : decode cX0_hundredths 77 = .ok (.invokevirtual 33, 3) := by decide +kernel
theorem dX0_hundredths_80 : decode cX0_hundredths 80 = .ok (.invokestatic 40, 3) := by decide +kernel
theorem dX0_hundredths_83 : decode cX0_hundredths 83 = .ok (.iadd, 1) := by decide +kernel
theorem dX0_hundredths_84 : decode cX0_hundredths 84 = .ok (.istore_n 3, 1) := by decide +kernel
theorem dX0_hundredths_85 : decode cX0_hundredths 85 = .ok (.iinc 6 1, 3) := by decide +kernel
theorem dX0_hundredths_88 : decode cX0_hundredths 88 = .ok (.goto (-45), 3) := by decide +kernel
theorem dX0_hundredths_91 : decode cX0_hundredths 91 = .ok (.iinc 4 1, 3) := by decide +kernel
theorem dX0_hundredths_94 : decode cX0_hundredths 94 = .ok (.goto (-87), 3) := by decide +kernel
theorem dX0_hundredths_97 : decode cX0_hundredths 97 = .ok (.iload_n 3, 1) := by decide +kernel
theorem dX0_hundredths_98 : decode cX0_hundredths 98 = .ok (.ifCond .le 12, 3) := by decide +kernel
theorem dX0_hundredths_101 : decode cX0_hundredths 101 = .ok (.bipush 100, 2) := by decide +kernel
theorem dX0_hundredths_103 : decode cX0_hundredths 103 = .ok (.iload_n 2, 1) := by decide +kernel
theorem dX0_hundredths_104 : decode cX0_hundredths 104 = .ok (.imul, 1) := by decide +kernel
theorem dX0_hundredths_105 : decode cX0_hundredths 105 = .ok (.iload_n 3, 1) := by decide +kernel
theorem dX0_hundredths_106 : decode cX0_hundredths 106 = .ok (.idiv, 1) := by decide +kernel
theorem dX0_hundredths_107 : decode cX0_hundredths 107 = .ok (.goto 5, 3) := by decide +kernel
theorem dX0_hundredths_110 : decode cX0_hundredths 110 = .ok (.bipush 100, 2) := by decide +kernel
theorem dX0_hundredths_112 : decode cX0_hundredths 112 = .ok (.ireturn, 1) := by decide +kernel

set_option maxHeartbeats 4000000 in
set_option maxRecDepth 100000 in
theorem c_X0_hundredths (l : Launch) (E : Ev) {A : Nat → Prop} (ad : Nat → Nat) (hA : Oka 39 ad A) (sc : Nat → Int32) (ar : Nat → Nat → Int32) (bl : Int64) {nW : Nat} (v : Int32) (hW : sc 5 = nI nW) (hW60 : nW ≤ 60) : Ct l E yX0_hundredths (.code yX0_hundredths cX0_hundredths 7 (some .int)) ({ frames := 3, cells := 0, slots := 0, locals := 66 }) A (cw E ad sc ar bl) [.ref (ad 5), .int v] (some (.int (hund (ar 15) (ar 16) (ar 17) (ar 19) v nW))) (cw E ad sc ar bl) := by
  refine Ct.of (lv := [(0, .ref (ad 5)), (1, .int v)]) (by decide +kernel) (Nat.le_of_ble_eq_true rfl) rfl ?_
  intro zp ze zs zm za zb zh zc hc
  refine g_iconst (pc := 0) (v := nI 0) hc dX0_hundredths_0 (by decide) ?_
  refine g_istore_n (pc := 1) (lv' := [(0, .ref (ad 5)), (1, .int v), (2, .int (nI 0))]) hc dX0_hundredths_1 rfl (by decide) rfl ?_
  refine g_iconst (pc := 2) (v := nI 0) hc dX0_hundredths_2 (by decide) ?_
  refine g_istore_n (pc := 3) (lv' := [(0, .ref (ad 5)), (1, .int v), (2, .int (nI 0)), (3, .int (nI 0))]) hc dX0_hundredths_3 rfl (by decide) rfl ?_
  refine g_iconst (pc := 4) (v := nI 0) hc dX0_hundredths_4 (by decide) ?_
  refine g_istore (pc := 5) (lv' := [(0, .ref (ad 5)), (1, .int v), (2, .int (nI 0)), (3, .int (nI 0)), (4, .int (nI 0))]) hc dX0_hundredths_5 (by decide) rfl ?_
  have L7_1 : ∀ (ki i : Nat), i + ki = nW → G zp l ze ({ frames := 3, cells := 0, slots := 0, locals := 66 }) zs zm za zb zh zc 0 0 (MQ zb (Qz E A (some (.int (hund (ar 15) (ar 16) (ar 17) (ar 19) v nW))) (cw E ad sc ar bl)) za zs 0 0 A) E A 7 (cw E ad sc ar bl) (7) [(0, .ref (ad 5)), (1, .int v), (2, .int (hS (ar 15) (ar 16) (ar 17) (ar 19) v nW (i))), (3, .int (hB (ar 15) (ar 16) (ar 17) (ar 19) v nW (i))), (4, .int (nI (i)))] [] := by
    intro ki
    induction ki with
    | zero =>
      intro i lhi
      have lhin : nW = i := by omega
      subst lhin
      refine g_iload (pc := 7) hc 4 dX0_hundredths_7 rfl ?_
      refine g_aload_n (pc := 9) hc 0 dX0_hundredths_9 rfl rfl ?_
      refine gf_c5_walks (pc := 10) hc tw_189 dX0_hundredths_10 ?_
      refine g_callVi (pc := 13) (rest := [.int (nI (nW))]) (As := []) hc (c_X10_number l E ad hA sc ar bl) mi_X10_number tw_516 3 rfl rfl rfl rfl ⟨rfl, rfl, by decide, by decide⟩ (Nat.le_of_ble_eq_true rfl) ⟨Nat.le_refl _, Nat.le_refl _⟩ rfl dX0_hundredths_13 ?_
      refine g_topi (v := nI nW) (hW) ?_
      refine g_icmp_ge_t (pc := 16) hc 97 dX0_hundredths_16 (by decide) (nI_le (by omega) (by omega)) ?_
      refine g_iload_n (pc := 97) hc 3 dX0_hundredths_97 rfl rfl ?_
      refine g_if_le (pc := 98) hc 110 dX0_hundredths_98 (by decide) (fun c2 => ?_) (fun c2 => ?_)
      · refine g_bipush (pc := 110) (v := nI 100) hc dX0_hundredths_110 (by decide) ?_
        exact g_iret (pc := 112) hc dX0_hundredths_112 (by unfold hund; repeat (first | rw [if_pos c2] | rw [if_neg c2] | rw [if_neg (ne_true_of_eq_false c2)]); try rfl) (rfl)
      · refine g_bipush (pc := 101) (v := nI 100) hc dX0_hundredths_101 (by decide) ?_
        refine g_iload_n (pc := 103) hc 2 dX0_hundredths_103 rfl rfl ?_
        refine g_imul (pc := 104) hc dX0_hundredths_104 ?_
        refine g_iload_n (pc := 105) hc 3 dX0_hundredths_105 rfl rfl ?_
        refine g_idiv (pc := 106) hc dX0_hundredths_106 (fun z => c2 (by rw [z]; decide)) ?_
        refine g_goto (pc := 107) hc 112 dX0_hundredths_107 (by decide) ?_
        exact g_iret (pc := 112) hc dX0_hundredths_112 (by unfold hund; repeat (first | rw [if_pos c2] | rw [if_neg c2] | rw [if_neg (ne_true_of_eq_false c2)]); try rfl) (rfl)
    | succ ki ihi =>
      intro i lhi
      have lhin : i < nW := by omega
      refine g_iload (pc := 7) hc 4 dX0_hundredths_7 rfl ?_
      refine g_aload_n (pc := 9) hc 0 dX0_hundredths_9 rfl rfl ?_
      refine gf_c5_walks (pc := 10) hc tw_189 dX0_hundredths_10 ?_
      refine g_callVi (pc := 13) (rest := [.int (nI (i))]) (As := []) hc (c_X10_number l E ad hA sc ar bl) mi_X10_number tw_516 3 rfl rfl rfl rfl ⟨rfl, rfl, by decide, by decide⟩ (Nat.le_of_ble_eq_true rfl) ⟨Nat.le_refl _, Nat.le_refl _⟩ rfl dX0_hundredths_13 ?_
      refine g_topi (v := nI nW) (hW) ?_
      refine g_icmp_ge_f (pc := 16) hc 97 dX0_hundredths_16 (by decide) (nI_ge (by omega) (by omega)) ?_
      refine g_aload_n (pc := 19) hc 0 dX0_hundredths_19 rfl rfl ?_
      refine gf_c5_walks (pc := 20) hc tw_189 dX0_hundredths_20 ?_
      refine g_iload (pc := 23) hc 4 dX0_hundredths_23 rfl ?_
      refine g_callVi (pc := 25) (rest := []) (As := [.int (nI (i))]) hc (c_X10_walkerOf l E ad hA sc ar bl i (by omega)) mi_X10_walkerOf tw_520 3 rfl rfl rfl rfl ⟨rfl, rfl, by decide, by decide⟩ (Nat.le_of_ble_eq_true rfl) ⟨Nat.le_refl _, Nat.le_refl _⟩ rfl dX0_hundredths_25 ?_
      refine g_iload_n (pc := 28) hc 1 dX0_hundredths_28 rfl rfl ?_
      refine g_icmp_ne (pc := 29) hc 91 dX0_hundredths_29 (by decide) (fun c3 => ?_) (fun c3 => ?_)
      · refine g_iinc (pc := 91) (v := nI (i + 1)) (lv' := [(0, .ref (ad 5)), (1, .int v), (2, .int (hS (ar 15) (ar 16) (ar 17) (ar 19) v nW (i))), (3, .int (hB (ar 15) (ar 16) (ar 17) (ar 19) v nW (i))), (4, .int (nI (i + 1)))]) hc 4 dX0_hundredths_91 rfl (nI_ofi i 1) (by decide) rfl ?_
        refine g_goto (pc := 94) hc 7 dX0_hundredths_94 (by decide) ?_
        exact g_eq (ws' := cw E ad sc ar bl) (lv' := [(0, .ref (ad 5)), (1, .int v), (2, .int (hS (ar 15) (ar 16) (ar 17) (ar 19) v nW (i + 1))), (3, .int (hB (ar 15) (ar 16) (ar 17) (ar 19) v nW (i + 1))), (4, .int (nI (i + 1)))]) (rfl) (by rw [hS_succ, hB_succ]; repeat (first | rw [if_pos c3] | rw [if_neg c3] | rw [if_neg (ne_true_of_eq_false c3)])) rfl (ihi (i + 1) (by omega))
      · refine g_aload_n (pc := 32) hc 0 dX0_hundredths_32 rfl rfl ?_
        refine g_iload (pc := 33) hc 4 dX0_hundredths_33 rfl ?_
        refine g_callVi (pc := 35) (rest := []) (As := [.int (nI (i))]) hc (c_X0_seenIn l E ad hA sc ar bl i (hW) (hW60) (by omega)) mi_X0_seenIn tw_534 5 rfl rfl rfl rfl ⟨rfl, rfl, by decide, by decide⟩ (Nat.le_of_ble_eq_true rfl) ⟨Nat.le_refl _, Nat.le_refl _⟩ rfl dX0_hundredths_35 ?_
        refine g_istore (pc := 38) (lv' := [(0, .ref (ad 5)), (1, .int v), (2, .int (hS (ar 15) (ar 16) (ar 17) (ar 19) v nW (i))), (3, .int (hB (ar 15) (ar 16) (ar 17) (ar 19) v nW (i))), (4, .int (nI (i))), (5, .int (cseen (ar 15) (ar 19) i))]) hc dX0_hundredths_38 (by decide) rfl ?_
        refine g_iconst (pc := 40) (v := nI 0) hc dX0_hundredths_40 (by decide) ?_
        refine g_istore (pc := 41) (lv' := [(0, .ref (ad 5)), (1, .int v), (2, .int (hS (ar 15) (ar 16) (ar 17) (ar 19) v nW (i))), (3, .int (hB (ar 15) (ar 16) (ar 17) (ar 19) v nW (i))), (4, .int (nI (i))), (5, .int (cseen (ar 15) (ar 19) i)), (6, .int (nI 0))]) hc dX0_hundredths_41 (by decide) rfl ?_
        have L43_4 : ∀ (kj j : Nat), j + kj = nW → G zp l ze ({ frames := 3, cells := 0, slots := 0, locals := 66 }) zs zm za zb zh zc 0 0 (MQ zb (Qz E A (some (.int (hund (ar 15) (ar 16) (ar 17) (ar 19) v nW))) (cw E ad sc ar bl)) za zs 0 0 A) E A 7 (cw E ad sc ar bl) (43) [(0, .ref (ad 5)), (1, .int v), (2, .int (hs1 (ar 15) (ar 16) (ar 17) (ar 19) i (hS (ar 15) (ar 16) (ar 17) (ar 19) v nW i) (j))), (3, .int (hb1 (ar 15) (ar 16) (ar 17) (ar 19) i (hB (ar 15) (ar 16) (ar 17) (ar 19) v nW i) (j))), (4, .int (nI (i))), (5, .int (cseen (ar 15) (ar 19) i)), (6, .int (nI (j)))] [] := by
          intro kj
          induction kj with
          | zero =>
            intro j lhj
            have lhjn : nW = j := by omega
            subst lhjn
            refine g_iload (pc := 43) hc 6 dX0_hundredths_43 rfl ?_
            refine g_aload_n (pc := 45) hc 0 dX0_hundredths_45 rfl rfl ?_
            refine gf_c5_walks (pc := 46) hc tw_189 dX0_hundredths_46 ?_
            refine g_callVi (pc := 49) (rest := [.int (nI (nW))]) (As := []) hc (c_X10_number l E ad hA sc ar bl) mi_X10_number tw_516 3 rfl rfl rfl rfl ⟨rfl, rfl, by decide, by decide⟩ (Nat.le_of_ble_eq_true rfl) ⟨Nat.le_refl _, Nat.le_refl _⟩ rfl dX0_hundredths_49 ?_
            refine g_topi (v := nI nW) (hW) ?_
            refine g_icmp_ge_t (pc := 52) hc 91 dX0_hundredths_52 (by decide) (nI_le (by omega) (by omega)) ?_
            refine g_iinc (pc := 91) (v := nI (i + 1)) (lv' := [(0, .ref (ad 5)), (1, .int v), (2, .int (hs1 (ar 15) (ar 16) (ar 17) (ar 19) i (hS (ar 15) (ar 16) (ar 17) (ar 19) v nW i) (nW))), (3, .int (hb1 (ar 15) (ar 16) (ar 17) (ar 19) i (hB (ar 15) (ar 16) (ar 17) (ar 19) v nW i) (nW))), (4, .int (nI (i + 1))), (5, .int (cseen (ar 15) (ar 19) i)), (6, .int (nI (nW)))]) hc 4 dX0_hundredths_91 rfl (nI_ofi i 1) (by decide) rfl ?_
            refine g_goto (pc := 94) hc 7 dX0_hundredths_94 (by decide) ?_
            refine g_lv [0, 1, 2, 3, 4] (lv' := [(0, .ref (ad 5)), (1, .int v), (2, .int (hs1 (ar 15) (ar 16) (ar 17) (ar 19) i (hS (ar 15) (ar 16) (ar 17) (ar 19) v nW i) (nW))), (3, .int (hb1 (ar 15) (ar 16) (ar 17) (ar 19) i (hB (ar 15) (ar 16) (ar 17) (ar 19) v nW i) (nW))), (4, .int (nI (i + 1)))]) rfl ?_
            exact g_eq (ws' := cw E ad sc ar bl) (lv' := [(0, .ref (ad 5)), (1, .int v), (2, .int (hS (ar 15) (ar 16) (ar 17) (ar 19) v nW (i + 1))), (3, .int (hB (ar 15) (ar 16) (ar 17) (ar 19) v nW (i + 1))), (4, .int (nI (i + 1)))]) (rfl) (by rw [hS_succ, hB_succ]; repeat (first | rw [if_pos c3] | rw [if_neg c3] | rw [if_neg (ne_true_of_eq_false c3)])) rfl (ihi (i + 1) (by omega))
          | succ kj ihj =>
            intro j lhj
            have lhjn : j < nW := by omega
            refine g_iload (pc := 43) hc 6 dX0_hundredths_43 rfl ?_
            refine g_aload_n (pc := 45) hc 0 dX0_hundredths_45 rfl rfl ?_
            refine gf_c5_walks (pc := 46) hc tw_189 dX0_hundredths_46 ?_
            refine g_callVi (pc := 49) (rest := [.int (nI (j))]) (As := []) hc (c_X10_number l E ad hA sc ar bl) mi_X10_number tw_516 3 rfl rfl rfl rfl ⟨rfl, rfl, by decide, by decide⟩ (Nat.le_of_ble_eq_true rfl) ⟨Nat.le_refl _, Nat.le_refl _⟩ rfl dX0_hundredths_49 ?_
            refine g_topi (v := nI nW) (hW) ?_
            refine g_icmp_ge_f (pc := 52) hc 91 dX0_hundredths_52 (by decide) (nI_ge (by omega) (by omega)) ?_
            refine g_aload_n (pc := 55) hc 0 dX0_hundredths_55 rfl rfl ?_
            refine g_iload (pc := 56) hc 4 dX0_hundredths_56 rfl ?_
            refine g_iload (pc := 58) hc 6 dX0_hundredths_58 rfl ?_
            refine g_callVi (pc := 60) (rest := []) (As := [.int (nI (i)), .int (nI (j))]) hc (c_X0_arePair l E ad hA sc ar bl i j (by omega) (by omega)) mi_X0_arePair tw_525 5 rfl rfl rfl rfl ⟨rfl, rfl, by decide, by decide⟩ (Nat.le_of_ble_eq_true rfl) ⟨Nat.le_refl _, Nat.le_refl _⟩ rfl dX0_hundredths_60 ?_
            refine g_if_eq_b (pc := 63) hc 85 dX0_hundredths_63 (by decide) (fun c5 => ?_) (fun c5 => ?_)
            · refine g_iinc (pc := 85) (v := nI (j + 1)) (lv' := [(0, .ref (ad 5)), (1, .int v), (2, .int (hs1 (ar 15) (ar 16) (ar 17) (ar 19) i (hS (ar 15) (ar 16) (ar 17) (ar 19) v nW i) (j))), (3, .int (hb1 (ar 15) (ar 16) (ar 17) (ar 19) i (hB (ar 15) (ar 16) (ar 17) (ar 19) v nW i) (j))), (4, .int (nI (i))), (5, .int (cseen (ar 15) (ar 19) i)), (6, .int (nI (j + 1)))]) hc 6 dX0_hundredths_85 rfl (nI_ofi j 1) (by decide) rfl ?_
              refine g_goto (pc := 88) hc 43 dX0_hundredths_88 (by decide) ?_
              exact g_eq (ws' := cw E ad sc ar bl) (lv' := [(0, .ref (ad 5)), (1, .int v), (2, .int (hs1 (ar 15) (ar 16) (ar 17) (ar 19) i (hS (ar 15) (ar 16) (ar 17) (ar 19) v nW i) (j + 1))), (3, .int (hb1 (ar 15) (ar 16) (ar 17) (ar 19) i (hB (ar 15) (ar 16) (ar 17) (ar 19) v nW i) (j + 1))), (4, .int (nI (i))), (5, .int (cseen (ar 15) (ar 19) i)), (6, .int (nI (j + 1)))]) (rfl) (by rw [hs1_succ, hb1_succ]; repeat (first | rw [if_pos c5] | rw [if_neg c5] | rw [if_neg (ne_true_of_eq_false c5)])) rfl (ihj (j + 1) (by omega))
            · refine g_iload_n (pc := 66) hc 2 dX0_hundredths_66 rfl rfl ?_
              refine g_iload (pc := 67) hc 5 dX0_hundredths_67 rfl ?_
              refine g_iadd (pc := 69) hc dX0_hundredths_69 ?_
              refine g_istore_n (pc := 70) (lv' := [(0, .ref (ad 5)), (1, .int v), (2, .int ((hs1 (ar 15) (ar 16) (ar 17) (ar 19) i (hS (ar 15) (ar 16) (ar 17) (ar 19) v nW i) (j)) + (cseen (ar 15) (ar 19) i))), (3, .int (hb1 (ar 15) (ar 16) (ar 17) (ar 19) i (hB (ar 15) (ar 16) (ar 17) (ar 19) v nW i) (j))), (4, .int (nI (i))), (5, .int (cseen (ar 15) (ar 19) i)), (6, .int (nI (j)))]) hc dX0_hundredths_70 rfl (by decide) rfl ?_
              refine g_iload_n (pc := 71) hc 3 dX0_hundredths_71 rfl rfl ?_
              refine g_iload (pc := 72) hc 5 dX0_hundredths_72 rfl ?_
              refine g_aload_n (pc := 74) hc 0 dX0_hundredths_74 rfl rfl ?_
              refine g_iload (pc := 75) hc 6 dX0_hundredths_75 rfl ?_
              refine g_callVi (pc := 77) (rest := [.int (cseen (ar 15) (ar 19) i), .int (hb1 (ar 15) (ar 16) (ar 17) (ar 19) i (hB (ar 15) (ar 16) (ar 17) (ar 19) v nW i) (j))]) (As := [.int (nI (j))]) hc (c_X0_seenIn l E ad hA sc ar bl j (hW) (hW60) (by omega)) mi_X0_seenIn tw_534 5 rfl rfl rfl rfl ⟨rfl, rfl, by decide, by decide⟩ (Nat.le_of_ble_eq_true rfl) ⟨Nat.le_refl _, Nat.le_refl _⟩ rfl dX0_hundredths_77 ?_
              refine g_mmax (pc := 80) (v := mxI (cseen (ar 15) (ar 19) i) (cseen (ar 15) (ar 19) j)) hc tw_551 rfl ⟨by decide, Nat.le_of_ble_eq_true rfl⟩ ⟨Nat.le_refl _, Nat.le_refl _⟩ dX0_hundredths_80 ?_
              refine g_iadd (pc := 83) hc dX0_hundredths_83 ?_
              refine g_istore_n (pc := 84) (lv' := [(0, .ref (ad 5)), (1, .int v), (2, .int ((hs1 (ar 15) (ar 16) (ar 17) (ar 19) i (hS (ar 15) (ar 16) (ar 17) (ar 19) v nW i) (j)) + (cseen (ar 15) (ar 19) i))), (3, .int ((hb1 (ar 15) (ar 16) (ar 17) (ar 19) i (hB (ar 15) (ar 16) (ar 17) (ar 19) v nW i) (j)) + (mxI (cseen (ar 15) (ar 19) i) (cseen (ar 15) (ar 19) j)))), (4, .int (nI (i))), (5, .int (cseen (ar 15) (ar 19) i)), (6, .int (nI (j)))]) hc dX0_hundredths_84 rfl (by decide) rfl ?_
              refine g_iinc (pc := 85) (v := nI (j + 1)) (lv' := [(0, .ref (ad 5)), (1, .int v), (2, .int ((hs1 (ar 15) (ar 16) (ar 17) (ar 19) i (hS (ar 15) (ar 16) (ar 17) (ar 19) v nW i) (j)) + (cseen (ar 15) (ar 19) i))), (3, .int ((hb1 (ar 15) (ar 16) (ar 17) (ar 19) i (hB (ar 15) (ar 16) (ar 17) (ar 19) v nW i) (j)) + (mxI (cseen (ar 15) (ar 19) i) (cseen (ar 15) (ar 19) j)))), (4, .int (nI (i))), (5, .int (cseen (ar 15) (ar 19) i)), (6, .int (nI (j + 1)))]) hc 6 dX0_hundredths_85 rfl (nI_ofi j 1) (by decide) rfl ?_
              refine g_goto (pc := 88) hc 43 dX0_hundredths_88 (by decide) ?_
              exact g_eq (ws' := cw E ad sc ar bl) (lv' := [(0, .ref (ad 5)), (1, .int v), (2, .int (hs1 (ar 15) (ar 16) (ar 17) (ar 19) i (hS (ar 15) (ar 16) (ar 17) (ar 19) v nW i) (j + 1))), (3, .int (hb1 (ar 15) (ar 16) (ar 17) (ar 19) i (hB (ar 15) (ar 16) (ar 17) (ar 19) v nW i) (j + 1))), (4, .int (nI (i))), (5, .int (cseen (ar 15) (ar 19) i)), (6, .int (nI (j + 1)))]) (rfl) (by rw [hs1_succ, hb1_succ]; repeat (first | rw [if_pos c5] | rw [if_neg c5] | rw [if_neg (ne_true_of_eq_false c5)])) rfl (ihj (j + 1) (by omega))
        exact g_eq (ws' := cw E ad sc ar bl) (lv' := [(0, .ref (ad 5)), (1, .int v), (2, .int (hs1 (ar 15) (ar 16) (ar 17) (ar 19) i (hS (ar 15) (ar 16) (ar 17) (ar 19) v nW i) (0))), (3, .int (hb1 (ar 15) (ar 16) (ar 17) (ar 19) i (hB (ar 15) (ar 16) (ar 17) (ar 19) v nW i) (0))), (4, .int (nI (i))), (5, .int (cseen (ar 15) (ar 19) i)), (6, .int (nI (0)))]) (rfl) (rfl) rfl (L43_4 (nW - 0) (0) (by omega))
  exact g_eq (ws' := cw E ad sc ar bl) (lv' := [(0, .ref (ad 5)), (1, .int v), (2, .int (hS (ar 15) (ar 16) (ar 17) (ar 19) v nW (0))), (3, .int (hB (ar 15) (ar 16) (ar 17) (ar 19) v nW (0))), (4, .int (nI (0)))]) (rfl) (rfl) rfl (L7_1 (nW - 0) (0) (by omega))

theorem dX0_ofTeller_0 : decode cX0_ofTeller 0 = .ok (.aload_n 0, 1) := by decide +kernel
theorem dX0_ofTeller_1 : decode cX0_ofTeller 1 = .ok (.getfield 9, 3) := by decide +kernel
theorem dX0_ofTeller_4 : decode cX0_ofTeller 4 = .ok (.iload_n 1, 1) := by decide +kernel
theorem dX0_ofTeller_5 : decode cX0_ofTeller 5 = .ok (.invokevirtual 45, 3) := by decide +kernel
theorem dX0_ofTeller_8 : decode cX0_ofTeller 8 = .ok (.ifCond .eq 18, 3) := by decide +kernel
theorem dX0_ofTeller_11 : decode cX0_ofTeller 11 = .ok (.aload_n 0, 1) := by decide +kernel
theorem dX0_ofTeller_12 : decode cX0_ofTeller 12 = .ok (.aload_n 0, 1) := by decide +kernel
theorem dX0_ofTeller_13 : decode cX0_ofTeller 13 = .ok (.getfield 9, 3) := by decide +kernel
theorem dX0_ofTeller_16 : decode cX0_ofTeller 16 = .ok (.iload_n 1, 1) := by decide +kernel
theorem dX0_ofTeller_17 : decode cX0_ofTeller 17 = .ok (.invokevirtual 25, 3) := by decide +kernel
theorem dX0_ofTeller_20 : decode cX0_ofTeller 20 = .ok (.invokevirtual 49, 3) := by decide +kernel
theorem dX0_ofTeller_23 : decode cX0_ofTeller 23 = .ok (.goto 5, 3) := by decide +kernel
theorem dX0_ofTeller_26 : decode cX0_ofTeller 26 = .ok (.bipush 100, 2) := by decide +kernel
theorem dX0_ofTeller_28 : decode cX0_ofTeller 28 = .ok (.ireturn, 1) := by decide +kernel

set_option maxHeartbeats 4000000 in
set_option maxRecDepth 100000 in
theorem c_X0_ofTeller (l : Launch) (E : Ev) {A : Nat → Prop} (ad : Nat → Nat) (hA : Oka 39 ad A) (sc : Nat → Int32) (ar : Nat → Nat → Int32) (bl : Int64) {nW : Nat} (x : Int32) (hW : sc 5 = nI nW) (hW60 : nW ≤ 60) : Ct l E yX0_ofTeller (.code yX0_ofTeller cX0_ofTeller 2 (some .int)) ({ frames := 4, cells := 0, slots := 0, locals := 92 }) A (cw E ad sc ar bl) [.ref (ad 5), .int x] (some (.int (oft (ar 15) (ar 16) (ar 17) (ar 19) nW x))) (cw E ad sc ar bl) := by
  refine Ct.of (lv := [(0, .ref (ad 5)), (1, .int x)]) (by decide +kernel) (Nat.le_of_ble_eq_true rfl) rfl ?_
  intro zp ze zs zm za zb zh zc hc
  refine g_aload_n (pc := 0) hc 0 dX0_ofTeller_0 rfl rfl ?_
  refine gf_c5_walks (pc := 1) hc tw_189 dX0_ofTeller_1 ?_
  refine g_iload_n (pc := 4) hc 1 dX0_ofTeller_4 rfl rfl ?_
  refine g_callVi (pc := 5) (rest := []) (As := [.int x]) hc (c_X10_has l E ad hA sc ar bl x) mi_X10_has tw_562 3 rfl rfl rfl rfl ⟨rfl, rfl, by decide, by decide⟩ (Nat.le_of_ble_eq_true rfl) ⟨Nat.le_refl _, Nat.le_refl _⟩ rfl dX0_ofTeller_5 ?_
  refine g_if_eq_b (pc := 8) hc 26 dX0_ofTeller_8 (by decide) (fun c1 => ?_) (fun c1 => ?_)
  · rw [hW] at c1
    refine g_bipush (pc := 26) (v := nI 100) hc dX0_ofTeller_26 (by decide) ?_
    exact g_iret (pc := 28) hc dX0_ofTeller_28 (by rw [oft, if_neg (ne_true_of_eq_false c1)]) (rfl)
  · rw [hW] at c1
    obtain ⟨i, hi, rfl⟩ := inx_of (by omega) c1
    refine g_aload_n (pc := 11) hc 0 dX0_ofTeller_11 rfl rfl ?_
    refine g_aload_n (pc := 12) hc 0 dX0_ofTeller_12 rfl rfl ?_
    refine gf_c5_walks (pc := 13) hc tw_189 dX0_ofTeller_13 ?_
    refine g_iload_n (pc := 16) hc 1 dX0_ofTeller_16 rfl rfl ?_
    refine g_callVi (pc := 17) (rest := [.ref (ad 5)]) (As := [.int (nI i)]) hc (c_X10_walkerOf l E ad hA sc ar bl i (by omega)) mi_X10_walkerOf tw_520 3 rfl rfl rfl rfl ⟨rfl, rfl, by decide, by decide⟩ (Nat.le_of_ble_eq_true rfl) ⟨Nat.le_refl _, Nat.le_refl _⟩ rfl dX0_ofTeller_17 ?_
    refine g_callVi (pc := 20) (rest := []) (As := [.int ((ar 16) i)]) hc (c_X0_hundredths l E ad hA sc ar bl ((ar 16) i) (hW) (hW60)) mi_X0_hundredths tw_563 5 rfl rfl rfl rfl ⟨rfl, rfl, by decide, by decide⟩ (Nat.le_of_ble_eq_true rfl) ⟨Nat.le_refl _, Nat.le_refl _⟩ rfl dX0_ofTeller_20 ?_
    refine g_goto (pc := 23) hc 28 dX0_ofTeller_23 (by decide) ?_
    exact g_iret (pc := 28) hc dX0_ofTeller_28 (by rw [oft, if_pos c1, nI_clamp (by omega)]) (rfl)

theorem dX0_amend_0 : decode cX0_amend 0 = .ok (.iload_n 2, 1) := by decide +kernel
theorem dX0_amend_1 : decode cX0_amend 1 = .ok (.ifCond .eq 14, 3) := by decide +kernel
theorem dX0_amend_4 : decode cX0_amend 4 = .ok (.aload_n 0, 1) := by decide +kernel
theorem dX0_amend_5 : decode cX0_amend 5 = .ok (.getfield 15, 3) := by decide +kernel
theorem dX0_amend_8 : decode cX0_amend 8 = .ok (.iload_n 1, 1) := by decide +kernel
theorem dX0_amend_9 : decode cX0_amend 9 = .ok (.invokevirtual 52, 3) := by decide +kernel
theorem dX0_amend_12 : decode cX0_amend 12 = .ok (.ifCond .eq 5, 3) := by decide +kernel
theorem dX0_amend_15 : decode cX0_amend 15 = .ok (.iload_n 2, 1) := by decide +kernel
theorem dX0_amend_16 : decode cX0_amend 16 = .ok (.ireturn, 1) := by decide +kernel
theorem dX0_amend_17 : decode cX0_amend 17 = .ok (.iload_n 3, 1) := by decide +kernel
theorem dX0_amend_18 : decode cX0_amend 18 = .ok (.ifCond .le 18, 3) := by decide +kernel
theorem dX0_amend_21 : decode cX0_amend 21 = .ok (.iload_n 2, 1) := by decide +kernel
theorem dX0_amend_22 : decode cX0_amend 22 = .ok (.bipush 100, 2) := by decide +kernel
theorem dX0_amend_24 : decode cX0_amend 24 = .ok (.imul, 1) := by decide +kernel
theorem dX0_amend_25 : decode cX0_amend 25 = .ok (.iload_n 3, 1) := by decide +kernel
theorem dX0_amend_26 : decode cX0_amend 26 = .ok (.idiv, 1) := by decide +kernel
theorem dX0_amend_27 : decode cX0_amend 27 = .ok (.sipush 9999, 3) := by decide +kernel
theorem dX0_amend_30 : decode cX0_amend 30 = .ok (.invokestatic 57, 3) := by decide +kernel
theorem dX0_amend_33 : decode cX0_amend 33 = .ok (.goto 6, 3) := by decide +kernel
theorem dX0_amend_36 : decode cX0_amend 36 = .ok (.sipush 9999, 3) := by decide +kernel
theorem dX0_amend_39 : decode cX0_amend 39 = .ok (.ireturn, 1) := by decide +kernel

set_option maxHeartbeats 4000000 in
set_option maxRecDepth 100000 in
theorem c_X0_amend (l : Launch) (E : Ev) {A : Nat → Prop} (ad : Nat → Nat) (hA : Oka 39 ad A) (sc : Nat → Int32) (ar : Nat → Nat → Int32) (bl : Int64) (j : Nat) (x : Int32) (y : Int32) (hj : j < 4) : Ct l E yX0_amend (.code yX0_amend cX0_amend 4 (some .int)) ({ frames := 1, cells := 0, slots := 0, locals := 21 }) A (cw E ad sc ar bl) [.ref (ad 5), .int (nI j), .int x, .int y] (some (.int (amd (ar 15) j x y))) (cw E ad sc ar bl) := by
  refine Ct.of (lv := [(0, .ref (ad 5)), (1, .int (nI j)), (2, .int x), (3, .int y)]) (by decide +kernel) (Nat.le_of_ble_eq_true rfl) rfl ?_
  intro zp ze zs zm za zb zh zc hc
  refine g_iload_n (pc := 0) hc 2 dX0_amend_0 rfl rfl ?_
  refine g_if_eq (pc := 1) hc 15 dX0_amend_1 (by decide) (fun c1 => ?_) (fun c1 => ?_)
  · refine g_iload_n (pc := 15) hc 2 dX0_amend_15 rfl rfl ?_
    exact g_iret (pc := 16) hc dX0_amend_16 (by unfold amd; repeat (first | rw [if_pos c1] | rw [if_neg c1] | rw [if_neg (ne_true_of_eq_false c1)]); try rfl) (rfl)
  · refine g_aload_n (pc := 4) hc 0 dX0_amend_4 rfl rfl ?_
    refine gf_c5_sorts (pc := 5) hc tw_190 dX0_amend_5 ?_
    refine g_iload_n (pc := 8) hc 1 dX0_amend_8 rfl rfl ?_
    refine g_callVi (pc := 9) (rest := []) (As := [.int (nI j)]) hc (c_X8_isCoarse l E ad hA sc ar bl j (by omega)) mi_X8_isCoarse tw_538 2 rfl rfl rfl rfl ⟨rfl, rfl, by decide, by decide⟩ (Nat.le_of_ble_eq_true rfl) ⟨Nat.le_refl _, Nat.le_refl _⟩ rfl dX0_amend_9 ?_
    refine g_if_eq_b (pc := 12) hc 17 dX0_amend_12 (by decide) (fun c2 => ?_) (fun c2 => ?_)
    · refine g_iload_n (pc := 17) hc 3 dX0_amend_17 rfl rfl ?_
      refine g_if_le (pc := 18) hc 36 dX0_amend_18 (by decide) (fun c3 => ?_) (fun c3 => ?_)
      · refine g_sipush (pc := 36) (v := nI 9999) hc dX0_amend_36 (by decide) ?_
        exact g_iret (pc := 39) hc dX0_amend_39 (by unfold amd; repeat (first | rw [if_pos c1] | rw [if_neg c1] | rw [if_neg (ne_true_of_eq_false c1)] | rw [if_pos c2] | rw [if_neg c2] | rw [if_neg (ne_true_of_eq_false c2)] | rw [if_pos c3] | rw [if_neg c3] | rw [if_neg (ne_true_of_eq_false c3)]); try rfl) (rfl)
      · refine g_iload_n (pc := 21) hc 2 dX0_amend_21 rfl rfl ?_
        refine g_bipush (pc := 22) (v := nI 100) hc dX0_amend_22 (by decide) ?_
        refine g_imul (pc := 24) hc dX0_amend_24 ?_
        refine g_iload_n (pc := 25) hc 3 dX0_amend_25 rfl rfl ?_
        refine g_idiv (pc := 26) hc dX0_amend_26 (fun z => c3 (by rw [z]; decide)) ?_
        refine g_sipush (pc := 27) (v := nI 9999) hc dX0_amend_27 (by decide) ?_
        refine g_mmin (pc := 30) (v := mnI ((x * (nI 100)) / y) (nI 9999)) hc tw_568 rfl ⟨by decide, Nat.le_of_ble_eq_true rfl⟩ ⟨Nat.le_refl _, Nat.le_refl _⟩ dX0_amend_30 ?_
        refine g_goto (pc := 33) hc 39 dX0_amend_33 (by decide) ?_
        exact g_iret (pc := 39) hc dX0_amend_39 (by unfold amd; repeat (first | rw [if_pos c1] | rw [if_neg c1] | rw [if_neg (ne_true_of_eq_false c1)] | rw [if_pos c2] | rw [if_neg c2] | rw [if_neg (ne_true_of_eq_false c2)] | rw [if_pos c3] | rw [if_neg c3] | rw [if_neg (ne_true_of_eq_false c3)]); try rfl) (rfl)
    · refine g_iload_n (pc := 15) hc 2 dX0_amend_15 rfl rfl ?_
      exact g_iret (pc := 16) hc dX0_amend_16 (by unfold amd; repeat (first | rw [if_pos c1] | rw [if_neg c1] | rw [if_neg (ne_true_of_eq_false c1)] | rw [if_pos c2] | rw [if_neg c2] | rw [if_neg (ne_true_of_eq_false c2)]); try rfl) (rfl)
end
section
theorem mx_pred (a : Nat) (h : a < 2 ^ 30) : mxI (nI a - nI 1) (nI 0) = nI (a - 1) := by
  cases a with
  | zero => decide
  | succ n =>
    rw [show nI (n + 1) - nI 1 = nI n from nI_pred n]
    unfold mxI
    rw [if_neg (nI_nlt (Nat.zero_le n) (by omega))]
    rfl
theorem mn_nI {a b : Nat} (ha : a < 2 ^ 31) (hb : b < 2 ^ 31) : mnI (nI a) (nI b) = nI (min a b) := by
  unfold mnI
  rcases Nat.lt_or_ge b a with h | h
  · rw [if_pos (nI_lt h ha), Nat.min_eq_right (Nat.le_of_lt h)]
  · rw [if_neg (nI_nlt h hb), Nat.min_eq_left h]
theorem idx64 {r c wd hg : Nat} (hr : r < hg) (hc : c < wd) (hw : wd ≤ 8) (hh : hg ≤ 8) : r * wd + c < 64 := by
  have : r * wd ≤ 7 * 8 := Nat.mul_le_mul (by omega) hw
  omega
theorem row_lt {p wd hg : Nat} (h : p < wd * hg) (h1 : 2 ≤ wd) : p / wd < hg := by
  rw [Nat.div_lt_iff_lt_mul (by omega)]
  rw [Nat.mul_comm]; exact h
theorem prod64 {wd hg : Nat} (hw : wd ≤ 8) (hh : hg ≤ 8) : wd * hg ≤ 64 := Nat.mul_le_mul hw hh
theorem prod4 {wd hg : Nat} (hw : 2 ≤ wd) (hh : 2 ≤ hg) : 4 ≤ wd * hg := Nat.mul_le_mul hw hh
theorem idx_in {r c wd hg : Nat} (hr : r < hg) (hc : c < wd) : r * wd + c < wd * hg := by
  have : (r + 1) * wd ≤ hg * wd := Nat.mul_le_mul_right wd hr
  rw [Nat.succ_mul] at this
  rw [Nat.mul_comm wd hg]
  omega
/-- the sum of a ring -/
def rgi (v : Nat → Int32) (wd tp lf a : Nat) (b0 : Int32) : Nat → Int32
  | 0 => b0
  | b + 1 => rgi v wd tp lf a b0 b + v ((tp + a) * wd + (lf + b))
def rgo (v : Nat → Int32) (wd tp lf nc : Nat) : Nat → Int32
  | 0 => 0
  | a + 1 => rgi v wd tp lf a (rgo v wd tp lf nc a) nc
def rgs (v : Nat → Int32) (wd hg p : Nat) : Int32 := rgo v wd (p / wd - 1) (p % wd - 1) (min (p % wd + 1) (wd - 1) + 1 - (p % wd - 1)) (min (p / wd + 1) (hg - 1) + 1 - (p / wd - 1))
/-- the pace with the greatest ring -/
def gr (v : Nat → Int32) (wd hg : Nat) : Nat → Nat × Int32
  | 0 => (0, rgs v wd hg 0)
  | t + 1 => if rgs v wd hg (t + 1) ≤ (gr v wd hg t).2 then gr v wd hg t else (t + 1, rgs v wd hg (t + 1))
theorem gr_succ (v : Nat → Int32) (wd hg t : Nat) : gr v wd hg (t + 1) = if rgs v wd hg (t + 1) ≤ (gr v wd hg t).2 then gr v wd hg t else (t + 1, rgs v wd hg (t + 1)) := rfl
theorem gr_le (v : Nat → Int32) (wd hg : Nat) : ∀ t, (gr v wd hg t).1 ≤ t
  | 0 => Nat.le_refl 0
  | t + 1 => by
    rw [gr_succ]
    split
    · exact Nat.le_succ_of_le (gr_le v wd hg t)
    · exact Nat.le_refl _
def grb (v : Nat → Int32) (wd hg : Nat) : Nat := (gr v wd hg (wd * hg - 1)).1
theorem grb_lt (v : Nat → Int32) {wd hg : Nat} (hw : 2 ≤ wd) (hh : 2 ≤ hg) : grb v wd hg < wd * hg := by
  have := gr_le v wd hg (wd * hg - 1)
  have := prod4 hw hh
  unfold grb
  omega
/-- worths -/
def wz (n : Int32) (so ta : Nat → Int32) (x : Int32) (c : Nat) (e : Int32) : Nat → Int32
  | 0 => 0
  | k + 1 => wz n so ta x c e k + wgt so k * amd so k (brn n ta x c k) e
def cel (n : Int32) (nW : Nat) (so wk ro su ta : Nat → Int32) (b : Int64) (wd r c : Nat) : Int32 := if brb b (nI (r * wd + c)) = true then nI 0 else wz n so ta (ctel nW ro su (nI r)) c (oft so wk ro su nW (ctel nW ro su (nI r))) 4
def layI (F : Nat → Nat → Int32) (wd r : Nat) (f : Nat → Int32) : Nat → Nat → Int32
  | 0 => f
  | c + 1 => upd (layI F wd r f c) (r * wd + c) (F r c)
def layO (F : Nat → Nat → Int32) (wd : Nat) (f : Nat → Int32) : Nat → Nat → Int32
  | 0 => f
  | r + 1 => layI F wd r (layO F wd f r) wd
/-- the paces of walked rows -/
def gwI (wd r : Nat) (q : Nat × (Nat → Int32)) : Nat → Nat × (Nat → Int32)
  | 0 => q
  | c + 1 => ((gwI wd r q c).1 + 1, upd (gwI wd r q c).2 (gwI wd r q c).1 (nI (r * wd + c)))
def gwO (nW : Nat) (ro su : Nat → Int32) (wd : Nat) (f : Nat → Int32) : Nat → Nat × (Nat → Int32)
  | 0 => (0, f)
  | r + 1 => if ctel nW ro su (nI r) = (-1) then gwO nW ro su wd f r else gwI wd r (gwO nW ro su wd f r) wd
theorem gwO_succ (nW : Nat) (ro su : Nat → Int32) (wd : Nat) (f : Nat → Int32) (r : Nat) : gwO nW ro su wd f (r + 1) = if ctel nW ro su (nI r) = (-1) then gwO nW ro su wd f r else gwI wd r (gwO nW ro su wd f r) wd := rfl
theorem gwI_n (wd r : Nat) (q : Nat × (Nat → Int32)) : ∀ c, (gwI wd r q c).1 = q.1 + c
  | 0 => rfl
  | c + 1 => by show (gwI wd r q c).1 + 1 = _; rw [gwI_n wd r q c]; omega
theorem gwO_n (nW : Nat) (ro su : Nat → Int32) (wd : Nat) (f : Nat → Int32) : ∀ r, (gwO nW ro su wd f r).1 ≤ r * wd
  | 0 => by simp [gwO]
  | r + 1 => by
    have ih := gwO_n nW ro su wd f r
    rw [gwO_succ, Nat.succ_mul]
    split
    · omega
    · rw [gwI_n]; omega
theorem gwI_v (wd r hg : Nat) (hw : wd ≤ 8) (hh : hg ≤ 8) (hr : r < hg) (q : Nat × (Nat → Int32)) (hq : ∀ a, a < q.1 → ∃ z, z < 64 ∧ q.2 a = nI z) : ∀ c, c ≤ wd → ∀ a, a < (gwI wd r q c).1 → ∃ z, z < 64 ∧ (gwI wd r q c).2 a = nI z
  | 0, _, a, ha => hq a ha
  | c + 1, hc, a, ha => by
    show ∃ z, z < 64 ∧ upd (gwI wd r q c).2 (gwI wd r q c).1 (nI (r * wd + c)) a = nI z
    have ha' : a < (gwI wd r q c).1 + 1 := ha
    by_cases h : a = (gwI wd r q c).1
    · rw [h, pk_us]
      exact ⟨_, idx64 hr (by omega) hw hh, rfl⟩
    · rw [pk_un h]
      exact gwI_v wd r hg hw hh hr q hq c (by omega) a (by omega)
theorem gwO_v (nW : Nat) (ro su : Nat → Int32) (wd hg : Nat) (hw : wd ≤ 8) (hh : hg ≤ 8) (f : Nat → Int32) : ∀ r, r ≤ hg → ∀ a, a < (gwO nW ro su wd f r).1 → ∃ z, z < 64 ∧ (gwO nW ro su wd f r).2 a = nI z
  | 0, _, a, ha => absurd ha (Nat.not_lt_zero a)
  | r + 1, hr, a, ha => by
    rw [gwO_succ] at ha ⊢
    split at ha
    · rename_i h; rw [if_pos h]; exact gwO_v nW ro su wd hg hw hh f r (by omega) a ha
    · rename_i h; rw [if_neg h]; exact gwI_v wd r hg hw hh (by omega) _ (gwO_v nW ro su wd hg hw hh f r (by omega)) wd (Nat.le_refl _) a ha
/-- shuffles -/
def shX (w : Int32) : Nat := w.toBitVec.toNat / 256
theorem shX_lt (w : Int32) : shX w < 16777216 := by
  unfold shX
  have : w.toBitVec.toNat < 4294967296 := w.toBitVec.isLt
  omega
theorem sh_u (w : Int32) : (w.toUInt32 >>> ((nI 8 : Int32).toUInt32 &&& Int32.toUInt32 31)).toInt32 = nI (shX w) := by
  have h := pk_ushr w (nI 8) 8 (by decide)
  have hx := shX_lt w
  apply Int32.toBitVec_inj.mp
  apply BitVec.eq_of_toNat_eq
  rw [h, pk_tn (by omega)]
  rfl
def swp (f : Nat → Int32) (a b : Nat) : Nat → Int32 := upd (upd f a (f b)) b (f a)
def shw (w : Int32) : Int32 := w * 1103515245 + nI 12345
def shs (wk : Nat → Int32) (n : Nat) (w0 : Int32) (f0 : Nat → Int32) : Nat → Int32 × (Nat → Int32)
  | 0 => (w0, f0)
  | t + 1 => (shw (shs wk n w0 f0 t).1, swp (shs wk n w0 f0 t).2 (wk (n - t)).toNatClampNeg (wk (shX (shw (shs wk n w0 f0 t).1) % (n - t + 1))).toNatClampNeg)
def shf (wk : Nat → Int32) (n : Nat) (w : Int32) (f : Nat → Int32) : Int32 × (Nat → Int32) := match n with
  | 0 => (w, f)
  | n + 1 => shs wk n w f n
theorem tn_of {x : Int32} (h : ∃ q, q < 64 ∧ x = nI q) : x = nI x.toNatClampNeg ∧ x.toNatClampNeg < 64 := by
  obtain ⟨q, hq, rfl⟩ := h
  rw [nI_clamp (by omega)]
  exact ⟨rfl, hq⟩
/-- the state behind d shuffles: w, the misses, the worths -/
def sto (wk : Nat → Int32) (n wd hg : Nat) (own : Int32) (w0 : Int32) (f0 : Nat → Int32) : Nat → (Int32 × Nat) × (Nat → Int32)
  | 0 => ((w0, 0), f0)
  | d + 1 => (((shf wk n (sto wk n wd hg own w0 f0 d).1.1 (sto wk n wd hg own w0 f0 d).2).1, if rgs (shf wk n (sto wk n wd hg own w0 f0 d).1.1 (sto wk n wd hg own w0 f0 d).2).2 wd hg (grb (shf wk n (sto wk n wd hg own w0 f0 d).1.1 (sto wk n wd hg own w0 f0 d).2).2 wd hg) < own then (sto wk n wd hg own w0 f0 d).1.2 else (sto wk n wd hg own w0 f0 d).1.2 + 1), (shf wk n (sto wk n wd hg own w0 f0 d).1.1 (sto wk n wd hg own w0 f0 d).2).2)
theorem sto_m (wk : Nat → Int32) (n wd hg : Nat) (own : Int32) (w0 : Int32) (f0 : Nat → Int32) (d : Nat) : (sto wk n wd hg own w0 f0 d).1.2 ≤ (sto wk n wd hg own w0 f0 (d + 1)).1.2 ∧ (sto wk n wd hg own w0 f0 (d + 1)).1.2 ≤ (sto wk n wd hg own w0 f0 d).1.2 + 1 := by
  show _ ≤ (if _ < own then _ else _) ∧ (if _ < own then _ else _) ≤ _
  split <;> omega
theorem sto_le (wk : Nat → Int32) (n wd hg : Nat) (own : Int32) (w0 : Int32) (f0 : Nat → Int32) : ∀ d, (sto wk n wd hg own w0 f0 d).1.2 ≤ d
  | 0 => Nat.le_refl 0
  | d + 1 => by have h1 := sto_le wk n wd hg own w0 f0 d; have h2 := (sto_m wk n wd hg own w0 f0 d).2; omega
theorem sto_mono (wk : Nat → Int32) (n wd hg : Nat) (own : Int32) (w0 : Int32) (f0 : Nat → Int32) (d : Nat) : ∀ k, (sto wk n wd hg own w0 f0 d).1.2 ≤ (sto wk n wd hg own w0 f0 (d + k)).1.2
  | 0 => Nat.le_refl _
  | k + 1 => Nat.le_trans (sto_mono wk n wd hg own w0 f0 d k) (sto_m wk n wd hg own w0 f0 (d + k)).1
theorem lt_nI_mono {x : Int32} {a b : Nat} (h : x < nI a) (hab : a ≤ b) (hb : b < 2 ^ 31) : x < nI b := by
  rw [Int32.lt_iff_toInt_lt] at h ⊢
  rw [nI_toInt (by omega)] at h ⊢
  omega
theorem gw_lt {nW : Nat} {ro su : Nat → Int32} {wd hg i c : Nat} {f : Nat → Int32} (hi : i < hg) (hc : c < wd) (hw : wd ≤ 8) (hh : hg ≤ 8) : (gwI wd i (gwO nW ro su wd f i) c).1 < 64 := by
  rw [gwI_n]
  have h1 := gwO_n nW ro su wd f i
  have h2 := idx64 hi hc hw hh
  omega
end
section
theorem dX2_ringSum_0 : decode cX2_ringSum 0 = .ok (.aload_n 0, 1) := by decide +kernel
theorem dX2_ringSum_1 : decode cX2_ringSum 1 = .ok (.iload_n 2, 1) := by decide +kernel
theorem dX2_ringSum_2 : decode cX2_ringSum 2 = .ok (.invokevirtual 33, 3) := by decide +kernel
theorem dX2_ringSum_5 : decode cX2_ringSum 5 = .ok (.istore_n 3, 1) := by decide +kernel
theorem dX2_ringSum_6 : decode cX2_ringSum 6 = .ok (.aload_n 0, 1) := by decide +kernel
theorem dX2_ringSum_7 : decode cX2_ringSum 7 = .ok (.iload_n 2, 1) := by decide +kernel
theorem dX2_ringSum_8 : decode cX2_ringSum 8 = .ok (.invokevirtual 45, 3) := by decide +kernel
theorem dX2_ringSum_11 : decode cX2_ringSum 11 = .ok (.istore 4, 2) := by decide +kernel
theorem dX2_ringSum_13 : decode cX2_ringSum 13 = .ok (.iload_n 3, 1) := by decide +kernel
theorem dX2_ringSum_14 : decode cX2_ringSum 14 = .ok (.iconst 1, 1) := by decide +kernel
theorem dX2_ringSum_15 : decode cX2_ringSum 15 = .ok (.isub, 1) := by decide +kernel
theorem dX2_ringSum_16 : decode cX2_ringSum 16 = .ok (.iconst 0, 1) := by decide +kernel
theorem dX2_ringSum_17 : decode cX2_ringSum 17 = .ok (.invokestatic 48, 3) := by decide +kernel
theorem dX2_ringSum_20 : decode cX2_ringSum 20 = .ok (.istore 5, 2) := by decide +kernel
theorem dX2_ringSum_22 : decode cX2_ringSum 22 = .ok (.iload_n 3, 1) := by decide +kernel
theorem dX2_ringSum_23 : decode cX2_ringSum 23 = .ok (.iconst 1, 1) := by decide +kernel
theorem dX2_ringSum_24 : decode cX2_ringSum 24 = .ok (.iadd, 1) := by decide +kernel
theorem dX2_ringSum_25 : decode cX2_ringSum 25 = .ok (.aload_n 0, 1) := by decide +kernel
theorem dX2_ringSum_26 : decode cX2_ringSum 26 = .ok (.getfield 15, 3) := by decide +kernel
theorem dX2_ringSum_29 : decode cX2_ringSum 29 = .ok (.iconst 1, 1) := by decide +kernel
theorem dX2_ringSum_30 : decode cX2_ringSum 30 = .ok (.isub, 1) := by decide +kernel
theorem dX2_ringSum_31 : decode cX2_ringSum 31 = .ok (.invokestatic 54, 3) := by decide +kernel
theorem dX2_ringSum_34 : decode cX2_ringSum 34 = .ok (.istore 6, 2) := by decide +kernel
theorem dX2_ringSum_36 : decode cX2_ringSum 36 = .ok (.iload 4, 2) := by decide +kernel
theorem dX2_ringSum_38 : decode cX2_ringSum 38 = .ok (.iconst 1, 1) := by decide +kernel
theorem dX2_ringSum_39 : decode cX2_ringSum 39 = .ok (.isub, 1) := by decide +kernel
theorem dX2_ringSum_40 : decode cX2_ringSum 40 = .ok (.iconst 0, 1) := by decide +kernel
theorem dX2_ringSum_41 : decode cX2_ringSum 41 = .ok (.invokestatic 48, 3) := by decide +kernel
theorem dX2_ringSum_44 : decode cX2_ringSum 44 = .ok (.istore 7, 2) := by decide +kernel
theorem dX2_ringSum_46 : decode cX2_ringSum 46 = .ok (.iload 4, 2) := by decide +kernel
theorem dX2_ringSum_48 : decode cX2_ringSum 48 = .ok (.iconst 1, 1) := by decide +kernel
theorem dX2_ringSum_49 : decode cX2_ringSum 49 = .ok (.iadd, 1) := by decide +kernel
theorem dX2_ringSum_50 : decode cX2_ringSum 50 = .ok (.aload_n 0, 1) := by decide +kernel
theorem dX2_ringSum_51 : decode cX2_ringSum 51 = .ok (.getfield 9, 3) := by decide +kernel
theorem dX2_ringSum_54 : decode cX2_ringSum 54 = .ok (.iconst 1, 1) := by decide +kernel
theorem dX2_ringSum_55 : decode cX2_ringSum 55 = .ok (.isub, 1) := by decide +kernel
theorem dX2_ringSum_56 : decode cX2_ringSum 56 = .ok (.invokestatic 54, 3) := by decide +kernel
theorem dX2_ringSum_59 : decode cX2_ringSum 59 = .ok (.istore 8, 2) := by decide +kernel
theorem dX2_ringSum_61 : decode cX2_ringSum 61 = .ok (.iconst 0, 1) := by decide +kernel
theorem dX2_ringSum_62 : decode cX2_ringSum 62 = .ok (.istore 9, 2) := by decide +kernel
theorem dX2_ringSum_64 : decode cX2_ringSum 64 = .ok (.iload 5, 2) := by decide +kernel
theorem dX2_ringSum_66 : decode cX2_ringSum 66 = .ok (.istore 10, 2) := by decide +kernel
theorem dX2_ringSum_68 : decode cX2_ringSum 68 = .ok (.iload 10, 2) := by decide +kernel
theorem dX2_ringSum_70 : decode cX2_ringSum 70 = .ok (.iload 6, 2) := by decide +kernel
theorem dX2_ringSum_72 : decode cX2_ringSum 72 = .ok (.if_icmp .gt 43, 3) := by decide +kernel
theorem dX2_ringSum_75 : decode cX2_ringSum 75 = .ok (.iload 7, 2) := by decide +kernel
theorem dX2_ringSum_77 : decode cX2_ringSum 77 = .ok (.istore 11, 2) := by decide +kernel
theorem dX2_ringSum_79 : decode cX2_ringSum 79 = .ok (.iload 11, 2) := by decide +kernel
theorem dX2_ringSum_81 : decode cX2_ringSum 81 = .ok (.iload 8, 2) := by decide +kernel
theorem dX2_ringSum_83 : decode cX2_ringSum 83 = .ok (.if_icmp .gt 26, 3) := by decide +kernel
theorem dX2_ringSum_86 : decode cX2_ringSum 86 = .ok (.iload 9, 2) := by decide +kernel
theorem dX2_ringSum_88 : decode cX2_ringSum 88 = .ok (.aload_n 1, 1) := by decide +kernel
theorem dX2_ringSum_89 : decode cX2_ringSum 89 = .ok (.iload 10, 2) := by decide +kernel
theorem dX2_ringSum_91 : decode cX2_ringSum 91 = .ok (.aload_n 0, 1) := by decide +kernel
theorem dX2_ringSum_92 : decode cX2_ringSum 92 = .ok (.getfield 9, 3) := by decide +kernel
theorem dX2_ringSum_95 : decode cX2_ringSum 95 = .ok (.imul, 1) := by decide +kernel
theorem dX2_ringSum_96 : decode cX2_ringSum 96 = .ok (.iload 11, 2) := by decide +kernel
theorem dX2_ringSum_98 : decode cX2_ringSum 98 = .ok (.iadd, 1) := by decide +kernel
theorem dX2_ringSum_99 : decode cX2_ringSum 99 = .ok (.iaload, 1) := by decide +kernel
theorem dX2_ringSum_100 : decode cX2_ringSum 100 = .ok (.iadd, 1) := by decide +kernel
theorem dX2_ringSum_101 : decode cX2_ringSum 101 = .ok (.istore 9, 2) := by decide +kernel
theorem dX2_ringSum_103 : decode cX2_ringSum 103 = .ok (.iinc 11 1, 3) := by decide +kernel
theorem dX2_ringSum_106 : decode cX2_ringSum 106 = .ok (.goto (-27), 3) := by decide +kernel
theorem dX2_ringSum_109 : decode cX2_ringSum 109 = .ok (.iinc 10 1, 3) := by decide +kernel
theorem dX2_ringSum_112 : decode cX2_ringSum 112 = .ok (.goto (-44), 3) := by decide +kernel
theorem dX2_ringSum_115 : decode cX2_ringSum 115 = .ok (.iload 9, 2) := by decide +kernel
theorem dX2_ringSum_117 : decode cX2_ringSum 117 = .ok (.ireturn, 1) := by decide +kernel

set_option maxHeartbeats 4000000 in
set_option maxRecDepth 100000 in
theorem c_X2_ringSum (l : Launch) (E : Ev) {A : Nat → Prop} (ad : Nat → Nat) (hA : Oka 39 ad A) (sc : Nat → Int32) (ar : Nat → Nat → Int32) (bl : Int64) {wd hg : Nat} (p : Nat) (hwd : sc 3 = nI wd) (hwd1 : 2 ≤ wd) (hwd2 : wd ≤ 8) (hhg : sc 4 = nI hg) (hhg1 : 2 ≤ hg) (hhg2 : hg ≤ 8) (hp : p < wd * hg) : Ct l E yX2_ringSum (.code yX2_ringSum cX2_ringSum 12 (some .int)) ({ frames := 2, cells := 0, slots := 0, locals := 42 }) A (cw E ad sc ar bl) [.ref (ad 1), .ref (ad 25), .int (nI p)] (some (.int (rgs (ar 25) wd hg p))) (cw E ad sc ar bl) := by
  have hrow : p / wd < hg := row_lt hp hwd1
  have hcol : p % wd < wd := Nat.mod_lt _ (by omega)
  have hm := prod64 hwd2 hhg2
  refine Ct.of (lv := [(0, .ref (ad 1)), (1, .ref (ad 25)), (2, .int (nI p))]) (by decide +kernel) (Nat.le_of_ble_eq_true rfl) rfl ?_
  intro zp ze zs zm za zb zh zc hc
  refine g_aload_n (pc := 0) hc 0 dX2_ringSum_0 rfl rfl ?_
  refine g_iload_n (pc := 1) hc 2 dX2_ringSum_1 rfl rfl ?_
  refine g_callVi (pc := 2) (rest := []) (As := [.int (nI p)]) hc (c_X2_rowOf l E ad hA sc ar bl p (hwd) (hwd1) (hwd2) (hhg) (hhg1) (hhg2) (by omega)) mi_X2_rowOf tw_417 1 rfl rfl rfl rfl ⟨rfl, rfl, by decide, by decide⟩ (Nat.le_of_ble_eq_true rfl) ⟨Nat.le_refl _, Nat.le_refl _⟩ rfl dX2_ringSum_2 ?_
  refine g_istore_n (pc := 5) (lv' := [(0, .ref (ad 1)), (1, .ref (ad 25)), (2, .int (nI p)), (3, .int (nI (p / wd)))]) hc dX2_ringSum_5 rfl (by decide) rfl ?_
  refine g_aload_n (pc := 6) hc 0 dX2_ringSum_6 rfl rfl ?_
  refine g_iload_n (pc := 7) hc 2 dX2_ringSum_7 rfl rfl ?_
  refine g_callVi (pc := 8) (rest := []) (As := [.int (nI p)]) hc (c_X2_columnOf l E ad hA sc ar bl p (hwd) (hwd1) (hwd2) (hhg) (hhg1) (hhg2) (by omega)) mi_X2_columnOf tw_612 1 rfl rfl rfl rfl ⟨rfl, rfl, by decide, by decide⟩ (Nat.le_of_ble_eq_true rfl) ⟨Nat.le_refl _, Nat.le_refl _⟩ rfl dX2_ringSum_8 ?_
  refine g_istore (pc := 11) (lv' := [(0, .ref (ad 1)), (1, .ref (ad 25)), (2, .int (nI p)), (3, .int (nI (p / wd))), (4, .int (nI (p % wd)))]) hc dX2_ringSum_11 (by decide) rfl ?_
  refine g_iload_n (pc := 13) hc 3 dX2_ringSum_13 rfl rfl ?_
  refine g_iconst (pc := 14) (v := nI 1) hc dX2_ringSum_14 (by decide) ?_
  refine g_isub (pc := 15) hc dX2_ringSum_15 ?_
  refine g_iconst (pc := 16) (v := nI 0) hc dX2_ringSum_16 (by decide) ?_
  refine g_mmax (pc := 17) (v := mxI ((nI (p / wd)) - (nI 1)) (nI 0)) hc tw_613 rfl ⟨by decide, Nat.le_of_ble_eq_true rfl⟩ ⟨Nat.le_refl _, Nat.le_refl _⟩ dX2_ringSum_17 ?_
  refine g_topi (v := nI (p / wd - 1)) (mx_pred _ (by omega)) ?_
  refine g_istore (pc := 20) (lv' := [(0, .ref (ad 1)), (1, .ref (ad 25)), (2, .int (nI p)), (3, .int (nI (p / wd))), (4, .int (nI (p % wd))), (5, .int (nI (p / wd - 1)))]) hc dX2_ringSum_20 (by decide) rfl ?_
  refine g_iload_n (pc := 22) hc 3 dX2_ringSum_22 rfl rfl ?_
  refine g_iconst (pc := 23) (v := nI 1) hc dX2_ringSum_23 (by decide) ?_
  refine g_iadd (pc := 24) hc dX2_ringSum_24 ?_
  refine g_topi (v := nI ((p / wd) + 1)) (nI_add (p / wd) 1) ?_
  refine g_aload_n (pc := 25) hc 0 dX2_ringSum_25 rfl rfl ?_
  refine gf_c1_high (pc := 26) hc tw_37 dX2_ringSum_26 ?_
  refine g_topi (v := nI hg) (hhg) ?_
  refine g_iconst (pc := 29) (v := nI 1) hc dX2_ringSum_29 (by decide) ?_
  refine g_isub (pc := 30) hc dX2_ringSum_30 ?_
  refine g_topi (v := nI (hg - 1)) (pk_sub (by omega)) ?_
  refine g_mmin (pc := 31) (v := mnI (nI ((p / wd) + 1)) (nI (hg - 1))) hc tw_614 rfl ⟨by decide, Nat.le_of_ble_eq_true rfl⟩ ⟨Nat.le_refl _, Nat.le_refl _⟩ dX2_ringSum_31 ?_
  refine g_topi (v := nI (min (p / wd + 1) (hg - 1))) (mn_nI (by omega) (by omega)) ?_
  refine g_istore (pc := 34) (lv' := [(0, .ref (ad 1)), (1, .ref (ad 25)), (2, .int (nI p)), (3, .int (nI (p / wd))), (4, .int (nI (p % wd))), (5, .int (nI (p / wd - 1))), (6, .int (nI (min (p / wd + 1) (hg - 1))))]) hc dX2_ringSum_34 (by decide) rfl ?_
  refine g_iload (pc := 36) hc 4 dX2_ringSum_36 rfl ?_
  refine g_iconst (pc := 38) (v := nI 1) hc dX2_ringSum_38 (by decide) ?_
  refine g_isub (pc := 39) hc dX2_ringSum_39 ?_
  refine g_iconst (pc := 40) (v := nI 0) hc dX2_ringSum_40 (by decide) ?_
  refine g_mmax (pc := 41) (v := mxI ((nI (p % wd)) - (nI 1)) (nI 0)) hc tw_613 rfl ⟨by decide, Nat.le_of_ble_eq_true rfl⟩ ⟨Nat.le_refl _, Nat.le_refl _⟩ dX2_ringSum_41 ?_
  refine g_topi (v := nI (p % wd - 1)) (mx_pred _ (by omega)) ?_
  refine g_istore (pc := 44) (lv' := [(0, .ref (ad 1)), (1, .ref (ad 25)), (2, .int (nI p)), (3, .int (nI (p / wd))), (4, .int (nI (p % wd))), (5, .int (nI (p / wd - 1))), (6, .int (nI (min (p / wd + 1) (hg - 1)))), (7, .int (nI (p % wd - 1)))]) hc dX2_ringSum_44 (by decide) rfl ?_
  refine g_iload (pc := 46) hc 4 dX2_ringSum_46 rfl ?_
  refine g_iconst (pc := 48) (v := nI 1) hc dX2_ringSum_48 (by decide) ?_
  refine g_iadd (pc := 49) hc dX2_ringSum_49 ?_
  refine g_topi (v := nI ((p % wd) + 1)) (nI_add (p % wd) 1) ?_
  refine g_aload_n (pc := 50) hc 0 dX2_ringSum_50 rfl rfl ?_
  refine gf_c1_wide (pc := 51) hc tw_36 dX2_ringSum_51 ?_
  refine g_topi (v := nI wd) (hwd) ?_
  refine g_iconst (pc := 54) (v := nI 1) hc dX2_ringSum_54 (by decide) ?_
  refine g_isub (pc := 55) hc dX2_ringSum_55 ?_
  refine g_topi (v := nI (wd - 1)) (pk_sub (by omega)) ?_
  refine g_mmin (pc := 56) (v := mnI (nI ((p % wd) + 1)) (nI (wd - 1))) hc tw_614 rfl ⟨by decide, Nat.le_of_ble_eq_true rfl⟩ ⟨Nat.le_refl _, Nat.le_refl _⟩ dX2_ringSum_56 ?_
  refine g_topi (v := nI (min (p % wd + 1) (wd - 1))) (mn_nI (by omega) (by omega)) ?_
  refine g_istore (pc := 59) (lv' := [(0, .ref (ad 1)), (1, .ref (ad 25)), (2, .int (nI p)), (3, .int (nI (p / wd))), (4, .int (nI (p % wd))), (5, .int (nI (p / wd - 1))), (6, .int (nI (min (p / wd + 1) (hg - 1)))), (7, .int (nI (p % wd - 1))), (8, .int (nI (min (p % wd + 1) (wd - 1))))]) hc dX2_ringSum_59 (by decide) rfl ?_
  refine g_iconst (pc := 61) (v := nI 0) hc dX2_ringSum_61 (by decide) ?_
  refine g_istore (pc := 62) (lv' := [(0, .ref (ad 1)), (1, .ref (ad 25)), (2, .int (nI p)), (3, .int (nI (p / wd))), (4, .int (nI (p % wd))), (5, .int (nI (p / wd - 1))), (6, .int (nI (min (p / wd + 1) (hg - 1)))), (7, .int (nI (p % wd - 1))), (8, .int (nI (min (p % wd + 1) (wd - 1)))), (9, .int (nI 0))]) hc dX2_ringSum_62 (by decide) rfl ?_
  refine g_iload (pc := 64) hc 5 dX2_ringSum_64 rfl ?_
  refine g_istore (pc := 66) (lv' := [(0, .ref (ad 1)), (1, .ref (ad 25)), (2, .int (nI p)), (3, .int (nI (p / wd))), (4, .int (nI (p % wd))), (5, .int (nI (p / wd - 1))), (6, .int (nI (min (p / wd + 1) (hg - 1)))), (7, .int (nI (p % wd - 1))), (8, .int (nI (min (p % wd + 1) (wd - 1)))), (9, .int (nI 0)), (10, .int (nI (p / wd - 1)))]) hc dX2_ringSum_66 (by decide) rfl ?_
  have L68_1 : ∀ (ka a : Nat), a + ka = min (p / wd + 1) (hg - 1) + 1 - (p / wd - 1) → G zp l ze ({ frames := 2, cells := 0, slots := 0, locals := 42 }) zs zm za zb zh zc 0 0 (MQ zb (Qz E A (some (.int (rgs (ar 25) wd hg p))) (cw E ad sc ar bl)) za zs 0 0 A) E A 12 (cw E ad sc ar bl) (68) [(0, .ref (ad 1)), (1, .ref (ad 25)), (2, .int (nI p)), (3, .int (nI (p / wd))), (4, .int (nI (p % wd))), (5, .int (nI (p / wd - 1))), (6, .int (nI (min (p / wd + 1) (hg - 1)))), (7, .int (nI (p % wd - 1))), (8, .int (nI (min (p % wd + 1) (wd - 1)))), (9, .int (rgo (ar 25) wd (p / wd - 1) (p % wd - 1) (min (p % wd + 1) (wd - 1) + 1 - (p % wd - 1)) (a))), (10, .int (nI (p / wd - 1 + (a))))] [] := by
    intro ka
    induction ka with
    | zero =>
      intro a lha
      have lhan : min (p / wd + 1) (hg - 1) + 1 - (p / wd - 1) = a := by omega
      subst lhan
      refine g_iload (pc := 68) hc 10 dX2_ringSum_68 rfl ?_
      refine g_iload (pc := 70) hc 6 dX2_ringSum_70 rfl ?_
      refine g_icmp_gt_t (pc := 72) hc 115 dX2_ringSum_72 (by decide) (nI_lt (by omega) (by omega)) ?_
      refine g_iload (pc := 115) hc 9 dX2_ringSum_115 rfl ?_
      exact g_iret (pc := 117) hc dX2_ringSum_117 (rfl) (rfl)
    | succ ka iha =>
      intro a lha
      have lhan : a < min (p / wd + 1) (hg - 1) + 1 - (p / wd - 1) := by omega
      refine g_iload (pc := 68) hc 10 dX2_ringSum_68 rfl ?_
      refine g_iload (pc := 70) hc 6 dX2_ringSum_70 rfl ?_
      refine g_icmp_gt_f (pc := 72) hc 115 dX2_ringSum_72 (by decide) (nI_nlt (by omega) (by omega)) ?_
      refine g_iload (pc := 75) hc 7 dX2_ringSum_75 rfl ?_
      refine g_istore (pc := 77) (lv' := [(0, .ref (ad 1)), (1, .ref (ad 25)), (2, .int (nI p)), (3, .int (nI (p / wd))), (4, .int (nI (p % wd))), (5, .int (nI (p / wd - 1))), (6, .int (nI (min (p / wd + 1) (hg - 1)))), (7, .int (nI (p % wd - 1))), (8, .int (nI (min (p % wd + 1) (wd - 1)))), (9, .int (rgo (ar 25) wd (p / wd - 1) (p % wd - 1) (min (p % wd + 1) (wd - 1) + 1 - (p % wd - 1)) (a))), (10, .int (nI (p / wd - 1 + (a)))), (11, .int (nI (p % wd - 1)))]) hc dX2_ringSum_77 (by decide) rfl ?_
      have L79_2 : ∀ (kb b : Nat), b + kb = min (p % wd + 1) (wd - 1) + 1 - (p % wd - 1) → G zp l ze ({ frames := 2, cells := 0, slots := 0, locals := 42 }) zs zm za zb zh zc 0 0 (MQ zb (Qz E A (some (.int (rgs (ar 25) wd hg p))) (cw E ad sc ar bl)) za zs 0 0 A) E A 12 (cw E ad sc ar bl) (79) [(0, .ref (ad 1)), (1, .ref (ad 25)), (2, .int (nI p)), (3, .int (nI (p / wd))), (4, .int (nI (p % wd))), (5, .int (nI (p / wd - 1))), (6, .int (nI (min (p / wd + 1) (hg - 1)))), (7, .int (nI (p % wd - 1))), (8, .int (nI (min (p % wd + 1) (wd - 1)))), (9, .int (rgi (ar 25) wd (p / wd - 1) (p % wd - 1) a (rgo (ar 25) wd (p / wd - 1) (p % wd - 1) (min (p % wd + 1) (wd - 1) + 1 - (p % wd - 1)) a) (b))), (10, .int (nI (p / wd - 1 + (a)))), (11, .int (nI (p % wd - 1 + (b))))] [] := by
        intro kb
        induction kb with
        | zero =>
          intro b lhb
          have lhbn : min (p % wd + 1) (wd - 1) + 1 - (p % wd - 1) = b := by omega
          subst lhbn
          refine g_iload (pc := 79) hc 11 dX2_ringSum_79 rfl ?_
          refine g_iload (pc := 81) hc 8 dX2_ringSum_81 rfl ?_
          refine g_icmp_gt_t (pc := 83) hc 109 dX2_ringSum_83 (by decide) (nI_lt (by omega) (by omega)) ?_
          refine g_iinc (pc := 109) (v := nI (p / wd - 1 + (a) + 1)) (lv' := [(0, .ref (ad 1)), (1, .ref (ad 25)), (2, .int (nI p)), (3, .int (nI (p / wd))), (4, .int (nI (p % wd))), (5, .int (nI (p / wd - 1))), (6, .int (nI (min (p / wd + 1) (hg - 1)))), (7, .int (nI (p % wd - 1))), (8, .int (nI (min (p % wd + 1) (wd - 1)))), (9, .int (rgi (ar 25) wd (p / wd - 1) (p % wd - 1) a (rgo (ar 25) wd (p / wd - 1) (p % wd - 1) (min (p % wd + 1) (wd - 1) + 1 - (p % wd - 1)) a) (min (p % wd + 1) (wd - 1) + 1 - (p % wd - 1)))), (10, .int (nI (p / wd - 1 + (a) + 1))), (11, .int (nI (p % wd - 1 + (min (p % wd + 1) (wd - 1) + 1 - (p % wd - 1)))))]) hc 10 dX2_ringSum_109 rfl (nI_ofi (p / wd - 1 + (a)) 1) (by decide) rfl ?_
          refine g_goto (pc := 112) hc 68 dX2_ringSum_112 (by decide) ?_
          refine g_lv [0, 1, 2, 3, 4, 5, 6, 7, 8, 9, 10] (lv' := [(0, .ref (ad 1)), (1, .ref (ad 25)), (2, .int (nI p)), (3, .int (nI (p / wd))), (4, .int (nI (p % wd))), (5, .int (nI (p / wd - 1))), (6, .int (nI (min (p / wd + 1) (hg - 1)))), (7, .int (nI (p % wd - 1))), (8, .int (nI (min (p % wd + 1) (wd - 1)))), (9, .int (rgi (ar 25) wd (p / wd - 1) (p % wd - 1) a (rgo (ar 25) wd (p / wd - 1) (p % wd - 1) (min (p % wd + 1) (wd - 1) + 1 - (p % wd - 1)) a) (min (p % wd + 1) (wd - 1) + 1 - (p % wd - 1)))), (10, .int (nI (p / wd - 1 + (a) + 1)))]) rfl ?_
          exact g_eq (ws' := cw E ad sc ar bl) (lv' := [(0, .ref (ad 1)), (1, .ref (ad 25)), (2, .int (nI p)), (3, .int (nI (p / wd))), (4, .int (nI (p % wd))), (5, .int (nI (p / wd - 1))), (6, .int (nI (min (p / wd + 1) (hg - 1)))), (7, .int (nI (p % wd - 1))), (8, .int (nI (min (p % wd + 1) (wd - 1)))), (9, .int (rgo (ar 25) wd (p / wd - 1) (p % wd - 1) (min (p % wd + 1) (wd - 1) + 1 - (p % wd - 1)) (a + 1))), (10, .int (nI (p / wd - 1 + (a + 1))))]) (rfl) (rfl) rfl (iha (a + 1) (by omega))
        | succ kb ihb =>
          intro b lhb
          have lhbn : b < min (p % wd + 1) (wd - 1) + 1 - (p % wd - 1) := by omega
          refine g_iload (pc := 79) hc 11 dX2_ringSum_79 rfl ?_
          refine g_iload (pc := 81) hc 8 dX2_ringSum_81 rfl ?_
          refine g_icmp_gt_f (pc := 83) hc 109 dX2_ringSum_83 (by decide) (nI_nlt (by omega) (by omega)) ?_
          refine g_iload (pc := 86) hc 9 dX2_ringSum_86 rfl ?_
          refine g_aload_n (pc := 88) hc 1 dX2_ringSum_88 rfl rfl ?_
          refine g_iload (pc := 89) hc 10 dX2_ringSum_89 rfl ?_
          refine g_aload_n (pc := 91) hc 0 dX2_ringSum_91 rfl rfl ?_
          refine gf_c1_wide (pc := 92) hc tw_36 dX2_ringSum_92 ?_
          refine g_topi (v := nI wd) (hwd) ?_
          refine g_imul (pc := 95) hc dX2_ringSum_95 ?_
          refine g_topi (v := nI ((p / wd - 1 + (a)) * wd)) (pk_mul (p / wd - 1 + (a)) wd) ?_
          refine g_iload (pc := 96) hc 11 dX2_ringSum_96 rfl ?_
          refine g_iadd (pc := 98) hc dX2_ringSum_98 ?_
          refine g_topi (v := nI (((p / wd - 1 + (a)) * wd) + (p % wd - 1 + (b)))) (nI_add ((p / wd - 1 + (a)) * wd) (p % wd - 1 + (b))) ?_
          refine la_c25 (pc := 99) hc ((p / wd - 1 + a) * wd + (p % wd - 1 + b)) (rfl) (idx64 (by omega) (by omega) hwd2 hhg2) dX2_ringSum_99 ?_
          refine g_iadd (pc := 100) hc dX2_ringSum_100 ?_
          refine g_istore (pc := 101) (lv' := [(0, .ref (ad 1)), (1, .ref (ad 25)), (2, .int (nI p)), (3, .int (nI (p / wd))), (4, .int (nI (p % wd))), (5, .int (nI (p / wd - 1))), (6, .int (nI (min (p / wd + 1) (hg - 1)))), (7, .int (nI (p % wd - 1))), (8, .int (nI (min (p % wd + 1) (wd - 1)))), (9, .int ((rgi (ar 25) wd (p / wd - 1) (p % wd - 1) a (rgo (ar 25) wd (p / wd - 1) (p % wd - 1) (min (p % wd + 1) (wd - 1) + 1 - (p % wd - 1)) a) (b)) + ((ar 25) ((p / wd - 1 + a) * wd + (p % wd - 1 + b))))), (10, .int (nI (p / wd - 1 + (a)))), (11, .int (nI (p % wd - 1 + (b))))]) hc dX2_ringSum_101 (by decide) rfl ?_
          refine g_iinc (pc := 103) (v := nI (p % wd - 1 + (b) + 1)) (lv' := [(0, .ref (ad 1)), (1, .ref (ad 25)), (2, .int (nI p)), (3, .int (nI (p / wd))), (4, .int (nI (p % wd))), (5, .int (nI (p / wd - 1))), (6, .int (nI (min (p / wd + 1) (hg - 1)))), (7, .int (nI (p % wd - 1))), (8, .int (nI (min (p % wd + 1) (wd - 1)))), (9, .int ((rgi (ar 25) wd (p / wd - 1) (p % wd - 1) a (rgo (ar 25) wd (p / wd - 1) (p % wd - 1) (min (p % wd + 1) (wd - 1) + 1 - (p % wd - 1)) a) (b)) + ((ar 25) ((p / wd - 1 + a) * wd + (p % wd - 1 + b))))), (10, .int (nI (p / wd - 1 + (a)))), (11, .int (nI (p % wd - 1 + (b) + 1)))]) hc 11 dX2_ringSum_103 rfl (nI_ofi (p % wd - 1 + (b)) 1) (by decide) rfl ?_
          refine g_goto (pc := 106) hc 79 dX2_ringSum_106 (by decide) ?_
          exact g_eq (ws' := cw E ad sc ar bl) (lv' := [(0, .ref (ad 1)), (1, .ref (ad 25)), (2, .int (nI p)), (3, .int (nI (p / wd))), (4, .int (nI (p % wd))), (5, .int (nI (p / wd - 1))), (6, .int (nI (min (p / wd + 1) (hg - 1)))), (7, .int (nI (p % wd - 1))), (8, .int (nI (min (p % wd + 1) (wd - 1)))), (9, .int (rgi (ar 25) wd (p / wd - 1) (p % wd - 1) a (rgo (ar 25) wd (p / wd - 1) (p % wd - 1) (min (p % wd + 1) (wd - 1) + 1 - (p % wd - 1)) a) (b + 1))), (10, .int (nI (p / wd - 1 + (a)))), (11, .int (nI (p % wd - 1 + (b + 1))))]) (rfl) (rfl) rfl (ihb (b + 1) (by omega))
      exact g_eq (ws' := cw E ad sc ar bl) (lv' := [(0, .ref (ad 1)), (1, .ref (ad 25)), (2, .int (nI p)), (3, .int (nI (p / wd))), (4, .int (nI (p % wd))), (5, .int (nI (p / wd - 1))), (6, .int (nI (min (p / wd + 1) (hg - 1)))), (7, .int (nI (p % wd - 1))), (8, .int (nI (min (p % wd + 1) (wd - 1)))), (9, .int (rgi (ar 25) wd (p / wd - 1) (p % wd - 1) a (rgo (ar 25) wd (p / wd - 1) (p % wd - 1) (min (p % wd + 1) (wd - 1) + 1 - (p % wd - 1)) a) (0))), (10, .int (nI (p / wd - 1 + (a)))), (11, .int (nI (p % wd - 1 + (0))))]) (rfl) (rfl) rfl (L79_2 (min (p % wd + 1) (wd - 1) + 1 - (p % wd - 1) - 0) (0) (by omega))
  exact g_eq (ws' := cw E ad sc ar bl) (lv' := [(0, .ref (ad 1)), (1, .ref (ad 25)), (2, .int (nI p)), (3, .int (nI (p / wd))), (4, .int (nI (p % wd))), (5, .int (nI (p / wd - 1))), (6, .int (nI (min (p / wd + 1) (hg - 1)))), (7, .int (nI (p % wd - 1))), (8, .int (nI (min (p % wd + 1) (wd - 1)))), (9, .int (rgo (ar 25) wd (p / wd - 1) (p % wd - 1) (min (p % wd + 1) (wd - 1) + 1 - (p % wd - 1)) (0))), (10, .int (nI (p / wd - 1 + (0))))]) (rfl) (rfl) rfl (L68_1 (min (p / wd + 1) (hg - 1) + 1 - (p / wd - 1) - 0) (0) (by omega))

theorem dX2_greatestRing_0 : decode cX2_greatestRing 0 = .ok (.iconst 0, 1) := by decide +kernel
theorem dX2_greatestRing_1 : decode cX2_greatestRing 1 = .ok (.istore_n 2, 1) := by decide +kernel
theorem dX2_greatestRing_2 : decode cX2_greatestRing 2 = .ok (.aload_n 0, 1) := by decide +kernel
theorem dX2_greatestRing_3 : decode cX2_greatestRing 3 = .ok (.aload_n 1, 1) := by decide +kernel
theorem dX2_greatestRing_4 : decode cX2_greatestRing 4 = .ok (.iconst 0, 1) := by decide +kernel
theorem dX2_greatestRing_5 : decode cX2_greatestRing 5 = .ok (.invokevirtual 57, 3) := by decide +kernel
theorem dX2_greatestRing_8 : decode cX2_greatestRing 8 = .ok (.istore_n 3, 1) := by decide +kernel
theorem dX2_greatestRing_9 : decode cX2_greatestRing 9 = .ok (.iconst 1, 1) := by decide +kernel
theorem dX2_greatestRing_10 : decode cX2_greatestRing 10 = .ok (.istore 4, 2) := by decide +kernel
theorem dX2_greatestRing_12 : decode cX2_greatestRing 12 = .ok (.iload 4, 2) := by decide +kernel
theorem dX2_greatestRing_14 : decode cX2_greatestRing 14 = .ok (.aload_n 0, 1) := by decide +kernel
theorem dX2_greatestRing_15 : decode cX2_greatestRing 15 = .ok (.invokevirtual 29, 3) := by decide +kernel
theorem dX2_greatestRing_18 : decode cX2_greatestRing 18 = .ok (.if_icmp .ge 30, 3) := by decide +kernel
theorem dX2_greatestRing_21 : decode cX2_greatestRing 21 = .ok (.aload_n 0, 1) := by decide +kernel
theorem dX2_greatestRing_22 : decode cX2_greatestRing 22 = .ok (.aload_n 1, 1) := by decide +kernel
theorem dX2_greatestRing_23 : decode cX2_greatestRing 23 = .ok (.iload 4, 2) := by decide +kernel
theorem dX2_greatestRing_25 : decode cX2_greatestRing 25 = .ok (.invokevirtual 57, 3) := by decide +kernel
theorem dX2_greatestRing_28 : decode cX2_greatestRing 28 = .ok (.istore 5, 2) := by decide +kernel
theorem dX2_greatestRing_30 : decode cX2_greatestRing 30 = .ok (.iload 5, 2) := by decide +kernel
theorem dX2_greatestRing_32 : decode cX2_greatestRing 32 = .ok (.iload_n 3, 1) := by decide +kernel
theorem dX2_greatestRing_33 : decode cX2_greatestRing 33 = .ok (.if_icmp .le 9, 3) := by decide +kernel
theorem dX2_greatestRing_36 : decode cX2_greatestRing 36 = .ok (.iload 4, 2) := by decide +kernel
theorem dX2_greatestRing_38 : decode cX2_greatestRing 38 = .ok (.istore_n 2, 1) := by decide +kernel
theorem dX2_greatestRing_39 : decode cX2_greatestRing 39 = .ok (.iload 5, 2) := by decide +kernel
theorem dX2_greatestRing_41 : decode cX2_greatestRing 41 = .ok (.istore_n 3, 1) := by decide +kernel
theorem dX2_greatestRing_42 : decode cX2_greatestRing 42 = .ok (.iinc 4 1, 3) := by decide +kernel
theorem dX2_greatestRing_45 : decode cX2_greatestRing 45 = .ok (.goto (-33), 3) := by decide +kernel
theorem dX2_greatestRing_48 : decode cX2_greatestRing 48 = .ok (.iload_n 2, 1) := by decide +kernel
theorem dX2_greatestRing_49 : decode cX2_greatestRing 49 = .ok (.ireturn, 1) := by decide +kernel

set_option maxHeartbeats 4000000 in
set_option maxRecDepth 100000 in
theorem c_X2_greatestRing (l : Launch) (E : Ev) {A : Nat → Prop} (ad : Nat → Nat) (hA : Oka 39 ad A) (sc : Nat → Int32) (ar : Nat → Nat → Int32) (bl : Int64) {wd hg : Nat}  (hwd : sc 3 = nI wd) (hwd1 : 2 ≤ wd) (hwd2 : wd ≤ 8) (hhg : sc 4 = nI hg) (hhg1 : 2 ≤ hg) (hhg2 : hg ≤ 8) : Ct l E yX2_greatestRing (.code yX2_greatestRing cX2_greatestRing 6 (some .int)) ({ frames := 3, cells := 0, slots := 0, locals := 73 }) A (cw E ad sc ar bl) [.ref (ad 1), .ref (ad 25)] (some (.int (nI (grb (ar 25) wd hg)))) (cw E ad sc ar bl) := by
  have hm := prod64 hwd2 hhg2
  have hm4 := prod4 hwd1 hhg1
  refine Ct.of (lv := [(0, .ref (ad 1)), (1, .ref (ad 25))]) (by decide +kernel) (Nat.le_of_ble_eq_true rfl) rfl ?_
  intro zp ze zs zm za zb zh zc hc
  refine g_iconst (pc := 0) (v := nI 0) hc dX2_greatestRing_0 (by decide) ?_
  refine g_istore_n (pc := 1) (lv' := [(0, .ref (ad 1)), (1, .ref (ad 25)), (2, .int (nI 0))]) hc dX2_greatestRing_1 rfl (by decide) rfl ?_
  refine g_aload_n (pc := 2) hc 0 dX2_greatestRing_2 rfl rfl ?_
  refine g_aload_n (pc := 3) hc 1 dX2_greatestRing_3 rfl rfl ?_
  refine g_iconst (pc := 4) (v := nI 0) hc dX2_greatestRing_4 (by decide) ?_
  refine g_callVi (pc := 5) (rest := []) (As := [.ref (ad 25), .int (nI 0)]) hc (c_X2_ringSum l E ad hA sc ar bl 0 (hwd) (hwd1) (hwd2) (hhg) (hhg1) (hhg2) (by omega)) mi_X2_ringSum tw_627 1 rfl rfl rfl rfl ⟨rfl, rfl, by decide, by decide⟩ (Nat.le_of_ble_eq_true rfl) ⟨Nat.le_refl _, Nat.le_refl _⟩ rfl dX2_greatestRing_5 ?_
  refine g_istore_n (pc := 8) (lv' := [(0, .ref (ad 1)), (1, .ref (ad 25)), (2, .int (nI 0)), (3, .int (rgs (ar 25) wd hg 0))]) hc dX2_greatestRing_8 rfl (by decide) rfl ?_
  refine g_iconst (pc := 9) (v := nI 1) hc dX2_greatestRing_9 (by decide) ?_
  refine g_istore (pc := 10) (lv' := [(0, .ref (ad 1)), (1, .ref (ad 25)), (2, .int (nI 0)), (3, .int (rgs (ar 25) wd hg 0)), (4, .int (nI 1))]) hc dX2_greatestRing_10 (by decide) rfl ?_
  have L12_1 : ∀ (kt t : Nat), t + kt = wd * hg - 1 → G zp l ze ({ frames := 3, cells := 0, slots := 0, locals := 73 }) zs zm za zb zh zc 0 0 (MQ zb (Qz E A (some (.int (nI (grb (ar 25) wd hg)))) (cw E ad sc ar bl)) za zs 0 0 A) E A 6 (cw E ad sc ar bl) (12) [(0, .ref (ad 1)), (1, .ref (ad 25)), (2, .int (nI (gr (ar 25) wd hg (t)).1)), (3, .int (gr (ar 25) wd hg (t)).2), (4, .int (nI (t + 1)))] [] := by
    intro kt
    induction kt with
    | zero =>
      intro t lht
      have lhtn : wd * hg - 1 = t := by omega
      subst lhtn
      refine g_iload (pc := 12) hc 4 dX2_greatestRing_12 rfl ?_
      refine g_aload_n (pc := 14) hc 0 dX2_greatestRing_14 rfl rfl ?_
      refine g_callVi (pc := 15) (rest := [.int (nI (wd * hg - 1 + 1))]) (As := []) hc (c_X2_paces l E ad hA sc ar bl  (hwd) (hwd1) (hwd2) (hhg) (hhg1) (hhg2)) mi_X2_paces tw_400 1 rfl rfl rfl rfl ⟨rfl, rfl, by decide, by decide⟩ (Nat.le_of_ble_eq_true rfl) ⟨Nat.le_refl _, Nat.le_refl _⟩ rfl dX2_greatestRing_15 ?_
      refine g_icmp_ge_t (pc := 18) hc 48 dX2_greatestRing_18 (by decide) (nI_le (by omega) (by omega)) ?_
      refine g_iload_n (pc := 48) hc 2 dX2_greatestRing_48 rfl rfl ?_
      exact g_iret (pc := 49) hc dX2_greatestRing_49 (rfl) (rfl)
    | succ kt iht =>
      intro t lht
      have lhtn : t < wd * hg - 1 := by omega
      refine g_iload (pc := 12) hc 4 dX2_greatestRing_12 rfl ?_
      refine g_aload_n (pc := 14) hc 0 dX2_greatestRing_14 rfl rfl ?_
      refine g_callVi (pc := 15) (rest := [.int (nI (t + 1))]) (As := []) hc (c_X2_paces l E ad hA sc ar bl  (hwd) (hwd1) (hwd2) (hhg) (hhg1) (hhg2)) mi_X2_paces tw_400 1 rfl rfl rfl rfl ⟨rfl, rfl, by decide, by decide⟩ (Nat.le_of_ble_eq_true rfl) ⟨Nat.le_refl _, Nat.le_refl _⟩ rfl dX2_greatestRing_15 ?_
      refine g_icmp_ge_f (pc := 18) hc 48 dX2_greatestRing_18 (by decide) (nI_ge (by omega) (by omega)) ?_
      refine g_aload_n (pc := 21) hc 0 dX2_greatestRing_21 rfl rfl ?_
      refine g_aload_n (pc := 22) hc 1 dX2_greatestRing_22 rfl rfl ?_
      refine g_iload (pc := 23) hc 4 dX2_greatestRing_23 rfl ?_
      refine g_callVi (pc := 25) (rest := []) (As := [.ref (ad 25), .int (nI (t + 1))]) hc (c_X2_ringSum l E ad hA sc ar bl (t + 1) (hwd) (hwd1) (hwd2) (hhg) (hhg1) (hhg2) (by omega)) mi_X2_ringSum tw_627 1 rfl rfl rfl rfl ⟨rfl, rfl, by decide, by decide⟩ (Nat.le_of_ble_eq_true rfl) ⟨Nat.le_refl _, Nat.le_refl _⟩ rfl dX2_greatestRing_25 ?_
      refine g_istore (pc := 28) (lv' := [(0, .ref (ad 1)), (1, .ref (ad 25)), (2, .int (nI (gr (ar 25) wd hg (t)).1)), (3, .int (gr (ar 25) wd hg (t)).2), (4, .int (nI (t + 1))), (5, .int (rgs (ar 25) wd hg (t + 1)))]) hc dX2_greatestRing_28 (by decide) rfl ?_
      refine g_iload (pc := 30) hc 5 dX2_greatestRing_30 rfl ?_
      refine g_iload_n (pc := 32) hc 3 dX2_greatestRing_32 rfl rfl ?_
      refine g_icmp_le (pc := 33) hc 42 dX2_greatestRing_33 (by decide) (fun c2 => ?_) (fun c2 => ?_)
      · refine g_iinc (pc := 42) (v := nI (t + 1 + 1)) (lv' := [(0, .ref (ad 1)), (1, .ref (ad 25)), (2, .int (nI (gr (ar 25) wd hg (t)).1)), (3, .int (gr (ar 25) wd hg (t)).2), (4, .int (nI (t + 1 + 1))), (5, .int (rgs (ar 25) wd hg (t + 1)))]) hc 4 dX2_greatestRing_42 rfl (nI_ofi (t + 1) 1) (by decide) rfl ?_
        refine g_goto (pc := 45) hc 12 dX2_greatestRing_45 (by decide) ?_
        refine g_lv [0, 1, 2, 3, 4] (lv' := [(0, .ref (ad 1)), (1, .ref (ad 25)), (2, .int (nI (gr (ar 25) wd hg (t)).1)), (3, .int (gr (ar 25) wd hg (t)).2), (4, .int (nI (t + 1 + 1)))]) rfl ?_
        exact g_eq (ws' := cw E ad sc ar bl) (lv' := [(0, .ref (ad 1)), (1, .ref (ad 25)), (2, .int (nI (gr (ar 25) wd hg (t + 1)).1)), (3, .int (gr (ar 25) wd hg (t + 1)).2), (4, .int (nI (t + 1 + 1)))]) (rfl) (by rw [gr_succ]; repeat (first | rw [if_pos c2] | rw [if_neg c2] | rw [if_neg (ne_true_of_eq_false c2)])) rfl (iht (t + 1) (by omega))
      · refine g_iload (pc := 36) hc 4 dX2_greatestRing_36 rfl ?_
        refine g_istore_n (pc := 38) (lv' := [(0, .ref (ad 1)), (1, .ref (ad 25)), (2, .int (nI (t + 1))), (3, .int (gr (ar 25) wd hg (t)).2), (4, .int (nI (t + 1))), (5, .int (rgs (ar 25) wd hg (t + 1)))]) hc dX2_greatestRing_38 rfl (by decide) rfl ?_
        refine g_iload (pc := 39) hc 5 dX2_greatestRing_39 rfl ?_
        refine g_istore_n (pc := 41) (lv' := [(0, .ref (ad 1)), (1, .ref (ad 25)), (2, .int (nI (t + 1))), (3, .int (rgs (ar 25) wd hg (t + 1))), (4, .int (nI (t + 1))), (5, .int (rgs (ar 25) wd hg (t + 1)))]) hc dX2_greatestRing_41 rfl (by decide) rfl ?_
        refine g_iinc (pc := 42) (v := nI (t + 1 + 1)) (lv' := [(0, .ref (ad 1)), (1, .ref (ad 25)), (2, .int (nI (t + 1))), (3, .int (rgs (ar 25) wd hg (t + 1))), (4, .int (nI (t + 1 + 1))), (5, .int (rgs (ar 25) wd hg (t + 1)))]) hc 4 dX2_greatestRing_42 rfl (nI_ofi (t + 1) 1) (by decide) rfl ?_
        refine g_goto (pc := 45) hc 12 dX2_greatestRing_45 (by decide) ?_
        refine g_lv [0, 1, 2, 3, 4] (lv' := [(0, .ref (ad 1)), (1, .ref (ad 25)), (2, .int (nI (t + 1))), (3, .int (rgs (ar 25) wd hg (t + 1))), (4, .int (nI (t + 1 + 1)))]) rfl ?_
        exact g_eq (ws' := cw E ad sc ar bl) (lv' := [(0, .ref (ad 1)), (1, .ref (ad 25)), (2, .int (nI (gr (ar 25) wd hg (t + 1)).1)), (3, .int (gr (ar 25) wd hg (t + 1)).2), (4, .int (nI (t + 1 + 1)))]) (rfl) (by rw [gr_succ]; repeat (first | rw [if_pos c2] | rw [if_neg c2] | rw [if_neg (ne_true_of_eq_false c2)])) rfl (iht (t + 1) (by omega))
  exact g_eq (ws' := cw E ad sc ar bl) (lv' := [(0, .ref (ad 1)), (1, .ref (ad 25)), (2, .int (nI (gr (ar 25) wd hg (0)).1)), (3, .int (gr (ar 25) wd hg (0)).2), (4, .int (nI (0 + 1)))]) (rfl) (rfl) rfl (L12_1 (wd * hg - 1 - 0) (0) (by omega))

theorem dX3_worthAt_0 : decode cX3_worthAt 0 = .ok (.aload_n 0, 1) := by decide +kernel
theorem dX3_worthAt_1 : decode cX3_worthAt 1 = .ok (.getfield 9, 3) := by decide +kernel
theorem dX3_worthAt_4 : decode cX3_worthAt 4 = .ok (.iload_n 1, 1) := by decide +kernel
theorem dX3_worthAt_5 : decode cX3_worthAt 5 = .ok (.iaload, 1) := by decide +kernel
theorem dX3_worthAt_6 : decode cX3_worthAt 6 = .ok (.ireturn, 1) := by decide +kernel

set_option maxHeartbeats 4000000 in
set_option maxRecDepth 100000 in
theorem c_X3_worthAt (l : Launch) (E : Ev) {A : Nat → Prop} (ad : Nat → Nat) (hA : Oka 39 ad A) (sc : Nat → Int32) (ar : Nat → Nat → Int32) (bl : Int64) (j : Nat) (hj : j < 64) : Ct l E yX3_worthAt (.code yX3_worthAt cX3_worthAt 2 (some .int)) ({ frames := 0, cells := 0, slots := 0, locals := 0 }) A (cw E ad sc ar bl) [.ref (ad 6), .int (nI j)] (some (.int ((ar 25) j))) (cw E ad sc ar bl) := by
  refine Ct.of (lv := [(0, .ref (ad 6)), (1, .int (nI j))]) (by decide +kernel) (Nat.le_of_ble_eq_true rfl) rfl ?_
  intro zp ze zs zm za zb zh zc hc
  refine g_aload_n (pc := 0) hc 0 dX3_worthAt_0 rfl rfl ?_
  refine gf_c6_worths (pc := 1) hc tw_206 dX3_worthAt_1 ?_
  refine g_iload_n (pc := 4) hc 1 dX3_worthAt_4 rfl rfl ?_
  refine la_c25 (pc := 5) hc (j) (rfl) (by omega) dX3_worthAt_5 ?_
  exact g_iret (pc := 6) hc dX3_worthAt_6 (rfl) (rfl)

theorem dX3_sumAround_0 : decode cX3_sumAround 0 = .ok (.aload_n 0, 1) := by decide +kernel
theorem dX3_sumAround_1 : decode cX3_sumAround 1 = .ok (.getfield 18, 3) := by decide +kernel
theorem dX3_sumAround_4 : decode cX3_sumAround 4 = .ok (.aload_n 0, 1) := by decide +kernel
theorem dX3_sumAround_5 : decode cX3_sumAround 5 = .ok (.getfield 9, 3) := by decide +kernel
theorem dX3_sumAround_8 : decode cX3_sumAround 8 = .ok (.iload_n 1, 1) := by decide +kernel
theorem dX3_sumAround_9 : decode cX3_sumAround 9 = .ok (.invokevirtual 62, 3) := by decide +kernel
theorem dX3_sumAround_12 : decode cX3_sumAround 12 = .ok (.ireturn, 1) := by decide +kernel

set_option maxHeartbeats 4000000 in
set_option maxRecDepth 100000 in
theorem c_X3_sumAround (l : Launch) (E : Ev) {A : Nat → Prop} (ad : Nat → Nat) (hA : Oka 39 ad A) (sc : Nat → Int32) (ar : Nat → Nat → Int32) (bl : Int64) {wd hg : Nat} (p : Nat) (hwd : sc 3 = nI wd) (hwd1 : 2 ≤ wd) (hwd2 : wd ≤ 8) (hhg : sc 4 = nI hg) (hhg1 : 2 ≤ hg) (hhg2 : hg ≤ 8) (hp : p < wd * hg) : Ct l E yX3_sumAround (.code yX3_sumAround cX3_sumAround 2 (some .int)) ({ frames := 3, cells := 0, slots := 0, locals := 73 }) A (cw E ad sc ar bl) [.ref (ad 6), .int (nI p)] (some (.int (rgs (ar 25) wd hg p))) (cw E ad sc ar bl) := by
  refine Ct.of (lv := [(0, .ref (ad 6)), (1, .int (nI p))]) (by decide +kernel) (Nat.le_of_ble_eq_true rfl) rfl ?_
  intro zp ze zs zm za zb zh zc hc
  refine g_aload_n (pc := 0) hc 0 dX3_sumAround_0 rfl rfl ?_
  refine gf_c6_ground (pc := 1) hc tw_202 dX3_sumAround_1 ?_
  refine g_aload_n (pc := 4) hc 0 dX3_sumAround_4 rfl rfl ?_
  refine gf_c6_worths (pc := 5) hc tw_206 dX3_sumAround_5 ?_
  refine g_iload_n (pc := 8) hc 1 dX3_sumAround_8 rfl rfl ?_
  refine g_callVi (pc := 9) (rest := []) (As := [.ref (ad 25), .int (nI p)]) hc (c_X2_ringSum l E ad hA sc ar bl p (hwd) (hwd1) (hwd2) (hhg) (hhg1) (hhg2) (by omega)) mi_X2_ringSum tw_608 1 rfl rfl rfl rfl ⟨rfl, rfl, by decide, by decide⟩ (Nat.le_of_ble_eq_true rfl) ⟨Nat.le_refl _, Nat.le_refl _⟩ rfl dX3_sumAround_9 ?_
  exact g_iret (pc := 12) hc dX3_sumAround_12 (rfl) (rfl)

theorem dX3_richest_0 : decode cX3_richest 0 = .ok (.aload_n 0, 1) := by decide +kernel
theorem dX3_richest_1 : decode cX3_richest 1 = .ok (.getfield 18, 3) := by decide +kernel
theorem dX3_richest_4 : decode cX3_richest 4 = .ok (.aload_n 0, 1) := by decide +kernel
theorem dX3_richest_5 : decode cX3_richest 5 = .ok (.getfield 9, 3) := by decide +kernel
theorem dX3_richest_8 : decode cX3_richest 8 = .ok (.invokevirtual 66, 3) := by decide +kernel
theorem dX3_richest_11 : decode cX3_richest 11 = .ok (.ireturn, 1) := by decide +kernel

set_option maxHeartbeats 4000000 in
set_option maxRecDepth 100000 in
theorem c_X3_richest (l : Launch) (E : Ev) {A : Nat → Prop} (ad : Nat → Nat) (hA : Oka 39 ad A) (sc : Nat → Int32) (ar : Nat → Nat → Int32) (bl : Int64) {wd hg : Nat}  (hwd : sc 3 = nI wd) (hwd1 : 2 ≤ wd) (hwd2 : wd ≤ 8) (hhg : sc 4 = nI hg) (hhg1 : 2 ≤ hg) (hhg2 : hg ≤ 8) : Ct l E yX3_richest (.code yX3_richest cX3_richest 1 (some .int)) ({ frames := 4, cells := 0, slots := 0, locals := 98 }) A (cw E ad sc ar bl) [.ref (ad 6)] (some (.int (nI (grb (ar 25) wd hg)))) (cw E ad sc ar bl) := by
  refine Ct.of (lv := [(0, .ref (ad 6))]) (by decide +kernel) (Nat.le_of_ble_eq_true rfl) rfl ?_
  intro zp ze zs zm za zb zh zc hc
  refine g_aload_n (pc := 0) hc 0 dX3_richest_0 rfl rfl ?_
  refine gf_c6_ground (pc := 1) hc tw_202 dX3_richest_1 ?_
  refine g_aload_n (pc := 4) hc 0 dX3_richest_4 rfl rfl ?_
  refine gf_c6_worths (pc := 5) hc tw_206 dX3_richest_5 ?_
  refine g_callVi (pc := 8) (rest := []) (As := [.ref (ad 25)]) hc (c_X2_greatestRing l E ad hA sc ar bl  (hwd) (hwd1) (hwd2) (hhg) (hhg1) (hhg2)) mi_X2_greatestRing tw_623 1 rfl rfl rfl rfl ⟨rfl, rfl, by decide, by decide⟩ (Nat.le_of_ble_eq_true rfl) ⟨Nat.le_refl _, Nat.le_refl _⟩ rfl dX3_richest_8 ?_
  exact g_iret (pc := 11) hc dX3_richest_11 (rfl) (rfl)

theorem dX3_weighed_0 : decode cX3_weighed 0 = .ok (.iconst 0, 1) := by decide +kernel
theorem dX3_weighed_1 : decode cX3_weighed 1 = .ok (.istore 4, 2) := by decide +kernel
theorem dX3_weighed_3 : decode cX3_weighed 3 = .ok (.iconst 0, 1) := by decide +kernel
theorem dX3_weighed_4 : decode cX3_weighed 4 = .ok (.istore 5, 2) := by decide +kernel
theorem dX3_weighed_6 : decode cX3_weighed 6 = .ok (.iload 5, 2) := by decide +kernel
theorem dX3_weighed_8 : decode cX3_weighed 8 = .ok (.iconst 4, 1) := by decide +kernel
theorem dX3_weighed_9 : decode cX3_weighed 9 = .ok (.if_icmp .ge 49, 3) := by decide +kernel
theorem dX3_weighed_12 : decode cX3_weighed 12 = .ok (.aload_n 0, 1) := by decide +kernel
theorem dX3_weighed_13 : decode cX3_weighed 13 = .ok (.getfield 22, 3) := by decide +kernel
theorem dX3_weighed_16 : decode cX3_weighed 16 = .ok (.iload_n 1, 1) := by decide +kernel
theorem dX3_weighed_17 : decode cX3_weighed 17 = .ok (.iload_n 2, 1) := by decide +kernel
theorem dX3_weighed_18 : decode cX3_weighed 18 = .ok (.iload 5, 2) := by decide +kernel
theorem dX3_weighed_20 : decode cX3_weighed 20 = .ok (.invokevirtual 83, 3) := by decide +kernel
theorem dX3_weighed_23 : decode cX3_weighed 23 = .ok (.istore 6, 2) := by decide +kernel
theorem dX3_weighed_25 : decode cX3_weighed 25 = .ok (.iload 4, 2) := by decide +kernel
theorem dX3_weighed_27 : decode cX3_weighed 27 = .ok (.aload_n 0, 1) := by decide +kernel
theorem dX3_weighed_28 : decode cX3_weighed 28 = .ok (.getfield 30, 3) := by decide +kernel
theorem dX3_weighed_31 : decode cX3_weighed 31 = .ok (.iload 5, 2) := by decide +kernel
theorem dX3_weighed_33 : decode cX3_weighed 33 = .ok (.invokevirtual 86, 3) := by decide +kernel
theorem dX3_weighed_36 : decode cX3_weighed 36 = .ok (.aload_n 0, 1) := by decide +kernel
theorem dX3_weighed_37 : decode cX3_weighed 37 = .ok (.getfield 26, 3) := by decide +kernel
theorem dX3_weighed_40 : decode cX3_weighed 40 = .ok (.iload 5, 2) := by decide +kernel
theorem dX3_weighed_42 : decode cX3_weighed 42 = .ok (.iload 6, 2) := by decide +kernel
theorem dX3_weighed_44 : decode cX3_weighed 44 = .ok (.iload_n 3, 1) := by decide +kernel
theorem dX3_weighed_45 : decode cX3_weighed 45 = .ok (.invokevirtual 91, 3) := by decide +kernel
theorem dX3_weighed_48 : decode cX3_weighed 48 = .ok (.imul, 1) := by decide +kernel
theorem dX3_weighed_49 : decode cX3_weighed 49 = .ok (.iadd, 1) := by decide +kernel
theorem dX3_weighed_50 : decode cX3_weighed 50 = .ok (.istore 4, 2) := by decide +kernel
theorem dX3_weighed_52 : decode cX3_weighed 52 = .ok (.iinc 5 1, 3) := by decide +kernel
theorem dX3_weighed_55 : decode cX3_weighed 55 = .ok (.goto (-49), 3) := by decide +kernel
theorem dX3_weighed_58 : decode cX3_weighed 58 = .ok (.iload 4, 2) := by decide +kernel
theorem dX3_weighed_60 : decode cX3_weighed 60 = .ok (.ireturn, 1) := by decide +kernel

set_option maxHeartbeats 4000000 in
set_option maxRecDepth 100000 in
theorem c_X3_weighed (l : Launch) (E : Ev) {A : Nat → Prop} (ad : Nat → Nat) (hA : Oka 39 ad A) (sc : Nat → Int32) (ar : Nat → Nat → Int32) (bl : Int64) {nW : Nat} (x : Int32) (c : Nat) (y : Int32) (hW : sc 5 = nI nW) (hW60 : nW ≤ 60) (hcc : c < 8) : Ct l E yX3_weighed (.code yX3_weighed cX3_weighed 7 (some .int)) ({ frames := 2, cells := 0, slots := 0, locals := 45 }) A (cw E ad sc ar bl) [.ref (ad 6), .int x, .int (nI c), .int y] (some (.int (wz (sc 5) (ar 15) (ar 20) x c y 4))) (cw E ad sc ar bl) := by
  refine Ct.of (lv := [(0, .ref (ad 6)), (1, .int x), (2, .int (nI c)), (3, .int y)]) (by decide +kernel) (Nat.le_of_ble_eq_true rfl) rfl ?_
  intro zp ze zs zm za zb zh zc hc
  refine g_iconst (pc := 0) (v := nI 0) hc dX3_weighed_0 (by decide) ?_
  refine g_istore (pc := 1) (lv' := [(0, .ref (ad 6)), (1, .int x), (2, .int (nI c)), (3, .int y), (4, .int (nI 0))]) hc dX3_weighed_1 (by decide) rfl ?_
  refine g_iconst (pc := 3) (v := nI 0) hc dX3_weighed_3 (by decide) ?_
  refine g_istore (pc := 4) (lv' := [(0, .ref (ad 6)), (1, .int x), (2, .int (nI c)), (3, .int y), (4, .int (nI 0)), (5, .int (nI 0))]) hc dX3_weighed_4 (by decide) rfl ?_
  have L6_1 : ∀ (kk k : Nat), k + kk = 4 → G zp l ze ({ frames := 2, cells := 0, slots := 0, locals := 45 }) zs zm za zb zh zc 0 0 (MQ zb (Qz E A (some (.int (wz (sc 5) (ar 15) (ar 20) x c y 4))) (cw E ad sc ar bl)) za zs 0 0 A) E A 7 (cw E ad sc ar bl) (6) [(0, .ref (ad 6)), (1, .int x), (2, .int (nI c)), (3, .int y), (4, .int (wz (sc 5) (ar 15) (ar 20) x c y (k))), (5, .int (nI (k)))] [] := by
    intro kk
    induction kk with
    | zero =>
      intro k lhk
      have lhkn : 4 = k := by omega
      subst lhkn
      refine g_iload (pc := 6) hc 5 dX3_weighed_6 rfl ?_
      refine g_iconst (pc := 8) (v := nI 4) hc dX3_weighed_8 (by decide) ?_
      refine g_icmp_ge_t (pc := 9) hc 58 dX3_weighed_9 (by decide) (nI_le (by omega) (by omega)) ?_
      refine g_iload (pc := 58) hc 4 dX3_weighed_58 rfl ?_
      exact g_iret (pc := 60) hc dX3_weighed_60 (rfl) (rfl)
    | succ kk ihk =>
      intro k lhk
      have lhkn : k < 4 := by omega
      refine g_iload (pc := 6) hc 5 dX3_weighed_6 rfl ?_
      refine g_iconst (pc := 8) (v := nI 4) hc dX3_weighed_8 (by decide) ?_
      refine g_icmp_ge_f (pc := 9) hc 58 dX3_weighed_9 (by decide) (nI_ge (by omega) (by omega)) ?_
      refine g_aload_n (pc := 12) hc 0 dX3_weighed_12 rfl rfl ?_
      refine gf_c6_walks (pc := 13) hc tw_203 dX3_weighed_13 ?_
      refine g_iload_n (pc := 16) hc 1 dX3_weighed_16 rfl rfl ?_
      refine g_iload_n (pc := 17) hc 2 dX3_weighed_17 rfl rfl ?_
      refine g_iload (pc := 18) hc 5 dX3_weighed_18 rfl ?_
      refine g_callVi (pc := 20) (rest := []) (As := [.int x, .int (nI c), .int (nI (k))]) hc (c_X10_borne l E ad hA sc ar bl x c k (hW) (hW60) (by omega) (by omega)) mi_X10_borne tw_594 3 rfl rfl rfl rfl ⟨rfl, rfl, by decide, by decide⟩ (Nat.le_of_ble_eq_true rfl) ⟨Nat.le_refl _, Nat.le_refl _⟩ rfl dX3_weighed_20 ?_
      refine g_istore (pc := 23) (lv' := [(0, .ref (ad 6)), (1, .int x), (2, .int (nI c)), (3, .int y), (4, .int (wz (sc 5) (ar 15) (ar 20) x c y (k))), (5, .int (nI (k))), (6, .int (brn (sc 5) (ar 20) x c k))]) hc dX3_weighed_23 (by decide) rfl ?_
      refine g_iload (pc := 25) hc 4 dX3_weighed_25 rfl ?_
      refine g_aload_n (pc := 27) hc 0 dX3_weighed_27 rfl rfl ?_
      refine gf_c6_sorts (pc := 28) hc tw_205 dX3_weighed_28 ?_
      refine g_iload (pc := 31) hc 5 dX3_weighed_31 rfl ?_
      refine g_callVi (pc := 33) (rest := [.int (wz (sc 5) (ar 15) (ar 20) x c y (k))]) (As := [.int (nI (k))]) hc (c_X8_weight l E ad hA sc ar bl k (by omega)) mi_X8_weight tw_595 2 rfl rfl rfl rfl ⟨rfl, rfl, by decide, by decide⟩ (Nat.le_of_ble_eq_true rfl) ⟨Nat.le_refl _, Nat.le_refl _⟩ rfl dX3_weighed_33 ?_
      refine g_aload_n (pc := 36) hc 0 dX3_weighed_36 rfl rfl ?_
      refine gf_c6_eyes (pc := 37) hc tw_204 dX3_weighed_37 ?_
      refine g_iload (pc := 40) hc 5 dX3_weighed_40 rfl ?_
      refine g_iload (pc := 42) hc 6 dX3_weighed_42 rfl ?_
      refine g_iload_n (pc := 44) hc 3 dX3_weighed_44 rfl rfl ?_
      refine g_callVi (pc := 45) (rest := [.int (wgt (ar 15) k), .int (wz (sc 5) (ar 15) (ar 20) x c y (k))]) (As := [.int (nI (k)), .int (brn (sc 5) (ar 20) x c k), .int y]) hc (c_X0_amend l E ad hA sc ar bl k (brn (sc 5) (ar 20) x c k) y (by omega)) mi_X0_amend tw_599 5 rfl rfl rfl rfl ⟨rfl, rfl, by decide, by decide⟩ (Nat.le_of_ble_eq_true rfl) ⟨Nat.le_refl _, Nat.le_refl _⟩ rfl dX3_weighed_45 ?_
      refine g_imul (pc := 48) hc dX3_weighed_48 ?_
      refine g_iadd (pc := 49) hc dX3_weighed_49 ?_
      refine g_istore (pc := 50) (lv' := [(0, .ref (ad 6)), (1, .int x), (2, .int (nI c)), (3, .int y), (4, .int ((wz (sc 5) (ar 15) (ar 20) x c y (k)) + ((wgt (ar 15) k) * (amd (ar 15) k (brn (sc 5) (ar 20) x c k) y)))), (5, .int (nI (k))), (6, .int (brn (sc 5) (ar 20) x c k))]) hc dX3_weighed_50 (by decide) rfl ?_
      refine g_iinc (pc := 52) (v := nI (k + 1)) (lv' := [(0, .ref (ad 6)), (1, .int x), (2, .int (nI c)), (3, .int y), (4, .int ((wz (sc 5) (ar 15) (ar 20) x c y (k)) + ((wgt (ar 15) k) * (amd (ar 15) k (brn (sc 5) (ar 20) x c k) y)))), (5, .int (nI (k + 1))), (6, .int (brn (sc 5) (ar 20) x c k))]) hc 5 dX3_weighed_52 rfl (nI_ofi k 1) (by decide) rfl ?_
      refine g_goto (pc := 55) hc 6 dX3_weighed_55 (by decide) ?_
      refine g_lv [0, 1, 2, 3, 4, 5] (lv' := [(0, .ref (ad 6)), (1, .int x), (2, .int (nI c)), (3, .int y), (4, .int ((wz (sc 5) (ar 15) (ar 20) x c y (k)) + ((wgt (ar 15) k) * (amd (ar 15) k (brn (sc 5) (ar 20) x c k) y)))), (5, .int (nI (k + 1)))]) rfl ?_
      exact g_eq (ws' := cw E ad sc ar bl) (lv' := [(0, .ref (ad 6)), (1, .int x), (2, .int (nI c)), (3, .int y), (4, .int (wz (sc 5) (ar 15) (ar 20) x c y (k + 1))), (5, .int (nI (k + 1)))]) (rfl) (rfl) rfl (ihk (k + 1) (by omega))
  exact g_eq (ws' := cw E ad sc ar bl) (lv' := [(0, .ref (ad 6)), (1, .int x), (2, .int (nI c)), (3, .int y), (4, .int (wz (sc 5) (ar 15) (ar 20) x c y (0))), (5, .int (nI (0)))]) (rfl) (rfl) rfl (L6_1 (4 - 0) (0) (by omega))

theorem dX3_lay_0 : decode cX3_lay 0 = .ok (.iconst 0, 1) := by decide +kernel
theorem dX3_lay_1 : decode cX3_lay 1 = .ok (.istore_n 1, 1) := by decide +kernel
theorem dX3_lay_2 : decode cX3_lay 2 = .ok (.iload_n 1, 1) := by decide +kernel
theorem dX3_lay_3 : decode cX3_lay 3 = .ok (.aload_n 0, 1) := by decide +kernel
theorem dX3_lay_4 : decode cX3_lay 4 = .ok (.getfield 18, 3) := by decide +kernel
theorem dX3_lay_7 : decode cX3_lay 7 = .ok (.invokevirtual 34, 3) := by decide +kernel
theorem dX3_lay_10 : decode cX3_lay 10 = .ok (.if_icmp .ge 93, 3) := by decide +kernel
theorem dX3_lay_13 : decode cX3_lay 13 = .ok (.aload_n 0, 1) := by decide +kernel
theorem dX3_lay_14 : decode cX3_lay 14 = .ok (.getfield 22, 3) := by decide +kernel
theorem dX3_lay_17 : decode cX3_lay 17 = .ok (.iload_n 1, 1) := by decide +kernel
theorem dX3_lay_18 : decode cX3_lay 18 = .ok (.invokevirtual 40, 3) := by decide +kernel
theorem dX3_lay_21 : decode cX3_lay 21 = .ok (.istore_n 2, 1) := by decide +kernel
theorem dX3_lay_22 : decode cX3_lay 22 = .ok (.aload_n 0, 1) := by decide +kernel
theorem dX3_lay_23 : decode cX3_lay 23 = .ok (.getfield 26, 3) := by decide +kernel
theorem dX3_lay_26 : decode cX3_lay 26 = .ok (.iload_n 2, 1) := by decide +kernel
theorem dX3_lay_27 : decode cX3_lay 27 = .ok (.invokevirtual 46, 3) := by decide +kernel
theorem dX3_lay_30 : decode cX3_lay 30 = .ok (.istore_n 3, 1) := by decide +kernel
theorem dX3_lay_31 : decode cX3_lay 31 = .ok (.iconst 0, 1) := by decide +kernel
theorem dX3_lay_32 : decode cX3_lay 32 = .ok (.istore 4, 2) := by decide +kernel
theorem dX3_lay_34 : decode cX3_lay 34 = .ok (.iload 4, 2) := by decide +kernel
theorem dX3_lay_36 : decode cX3_lay 36 = .ok (.aload_n 0, 1) := by decide +kernel
theorem dX3_lay_37 : decode cX3_lay 37 = .ok (.getfield 18, 3) := by decide +kernel
theorem dX3_lay_40 : decode cX3_lay 40 = .ok (.invokevirtual 51, 3) := by decide +kernel
theorem dX3_lay_43 : decode cX3_lay 43 = .ok (.if_icmp .ge 54, 3) := by decide +kernel
theorem dX3_lay_46 : decode cX3_lay 46 = .ok (.iload_n 1, 1) := by decide +kernel
theorem dX3_lay_47 : decode cX3_lay 47 = .ok (.aload_n 0, 1) := by decide +kernel
theorem dX3_lay_48 : decode cX3_lay 48 = .ok (.getfield 18, 3) := by decide +kernel
theorem dX3_lay_51 : decode cX3_lay 51 = .ok (.invokevirtual 51, 3) := by decide +kernel
theorem dX3_lay_54 : decode cX3_lay 54 = .ok (.imul, 1) := by decide +kernel
theorem dX3_lay_55 : decode cX3_lay 55 = .ok (.iload 4, 2) := by decide +kernel
theorem dX3_lay_57 : decode cX3_lay 57 = .ok (.iadd, 1) := by decide +kernel
theorem dX3_lay_58 : decode cX3_lay 58 = .ok (.istore 5, 2) := by decide +kernel
theorem dX3_lay_60 : decode cX3_lay 60 = .ok (.aload_n 0, 1) := by decide +kernel
theorem dX3_lay_61 : decode cX3_lay 61 = .ok (.getfield 9, 3) := by decide +kernel
theorem dX3_lay_64 : decode cX3_lay 64 = .ok (.iload 5, 2) := by decide +kernel
theorem dX3_lay_66 : decode cX3_lay 66 = .ok (.aload_n 0, 1) := by decide +kernel
theorem dX3_lay_67 : decode cX3_lay 67 = .ok (.getfield 18, 3) := by decide +kernel
theorem dX3_lay_70 : decode cX3_lay 70 = .ok (.iload 5, 2) := by decide +kernel
theorem dX3_lay_72 : decode cX3_lay 72 = .ok (.invokevirtual 54, 3) := by decide +kernel
theorem dX3_lay_75 : decode cX3_lay 75 = .ok (.ifCond .eq 7, 3) := by decide +kernel
theorem dX3_lay_78 : decode cX3_lay 78 = .ok (.iconst 0, 1) := by decide +kernel
theorem dX3_lay_79 : decode cX3_lay 79 = .ok (.goto 11, 3) := by decide +kernel
theorem dX3_lay_82 : decode cX3_lay 82 = .ok (.aload_n 0, 1) := by decide +kernel
theorem dX3_lay_83 : decode cX3_lay 83 = .ok (.iload_n 2, 1) := by decide +kernel
theorem dX3_lay_84 : decode cX3_lay 84 = .ok (.iload 4, 2) := by decide +kernel
theorem dX3_lay_86 : decode cX3_lay 86 = .ok (.iload_n 3, 1) := by decide +kernel
theorem dX3_lay_87 : decode cX3_lay 87 = .ok (.invokevirtual 58, 3) := by decide +kernel
theorem dX3_lay_90 : decode cX3_lay 90 = .ok (.iastore, 1) := by decide +kernel
theorem dX3_lay_91 : decode cX3_lay 91 = .ok (.iinc 4 1, 3) := by decide +kernel
theorem dX3_lay_94 : decode cX3_lay 94 = .ok (.goto (-60), 3) := by decide +kernel
theorem dX3_lay_97 : decode cX3_lay 97 = .ok (.iinc 1 1, 3) := by decide +kernel
theorem dX3_lay_100 : decode cX3_lay 100 = .ok (.goto (-98), 3) := by decide +kernel
theorem dX3_lay_103 : decode cX3_lay 103 = .ok (.return_, 1) := by decide +kernel

set_option maxHeartbeats 4000000 in
set_option maxRecDepth 100000 in
theorem c_X3_lay (l : Launch) (E : Ev) {A : Nat → Prop} (ad : Nat → Nat) (hA : Oka 39 ad A) (sc : Nat → Int32) (ar : Nat → Nat → Int32) (bl : Int64) {nW wd hg : Nat}  (hW : sc 5 = nI nW) (hW60 : nW ≤ 60) (hwd : sc 3 = nI wd) (hwd1 : 2 ≤ wd) (hwd2 : wd ≤ 8) (hhg : sc 4 = nI hg) (hhg1 : 2 ≤ hg) (hhg2 : hg ≤ 8) : Ct l E yX3_lay (.code yX3_lay cX3_lay 6 none) ({ frames := 5, cells := 0, slots := 0, locals := 113 }) A (cw E ad sc ar bl) [.ref (ad 6)] (none) (cw E ad sc (va_up ar 25 (layO (cel (sc 5) nW (ar 15) (ar 16) (ar 17) (ar 19) (ar 20) bl wd) wd (ar 25) hg)) bl) := by
  refine Ct.of (lv := [(0, .ref (ad 6))]) (by decide +kernel) (Nat.le_of_ble_eq_true rfl) rfl ?_
  intro zp ze zs zm za zb zh zc hc
  refine g_iconst (pc := 0) (v := nI 0) hc dX3_lay_0 (by decide) ?_
  refine g_istore_n (pc := 1) (lv' := [(0, .ref (ad 6)), (1, .int (nI 0))]) hc dX3_lay_1 rfl (by decide) rfl ?_
  have L2_1 : ∀ (ki i : Nat), i + ki = hg → G zp l ze ({ frames := 5, cells := 0, slots := 0, locals := 113 }) zs zm za zb zh zc 0 0 (MQ zb (Qz E A (none) (cw E ad sc (va_up ar 25 (layO (cel (sc 5) nW (ar 15) (ar 16) (ar 17) (ar 19) (ar 20) bl wd) wd (ar 25) hg)) bl)) za zs 0 0 A) E A 6 (cw E ad sc (va_up ar 25 (layO (cel (sc 5) nW (ar 15) (ar 16) (ar 17) (ar 19) (ar 20) bl wd) wd (ar 25) (i))) bl) (2) [(0, .ref (ad 6)), (1, .int (nI (i)))] [] := by
    intro ki
    induction ki with
    | zero =>
      intro i lhi
      have lhin : hg = i := by omega
      subst lhin
      refine g_iload_n (pc := 2) hc 1 dX3_lay_2 rfl rfl ?_
      refine g_aload_n (pc := 3) hc 0 dX3_lay_3 rfl rfl ?_
      refine gf_c6_ground (pc := 4) hc tw_202 dX3_lay_4 ?_
      refine g_callVi (pc := 7) (rest := [.int (nI (hg))]) (As := []) hc (c_X2_rows l E ad hA sc (va_up ar 25 (layO (cel (sc 5) nW (ar 15) (ar 16) (ar 17) (ar 19) (ar 20) bl wd) wd (ar 25) (hg))) bl  (hwd) (hwd1) (hwd2) (hhg) (hhg1) (hhg2)) mi_X2_rows tw_579 1 rfl rfl rfl rfl ⟨rfl, rfl, by decide, by decide⟩ (Nat.le_of_ble_eq_true rfl) ⟨Nat.le_refl _, Nat.le_refl _⟩ rfl dX3_lay_7 ?_
      refine g_topi (v := nI hg) rfl ?_
      refine g_icmp_ge_t (pc := 10) hc 103 dX3_lay_10 (by decide) (nI_le (by omega) (by omega)) ?_
      exact g_vret (pc := 103) hc dX3_lay_103 rfl (rfl)
    | succ ki ihi =>
      intro i lhi
      have lhin : i < hg := by omega
      refine g_iload_n (pc := 2) hc 1 dX3_lay_2 rfl rfl ?_
      refine g_aload_n (pc := 3) hc 0 dX3_lay_3 rfl rfl ?_
      refine gf_c6_ground (pc := 4) hc tw_202 dX3_lay_4 ?_
      refine g_callVi (pc := 7) (rest := [.int (nI (i))]) (As := []) hc (c_X2_rows l E ad hA sc (va_up ar 25 (layO (cel (sc 5) nW (ar 15) (ar 16) (ar 17) (ar 19) (ar 20) bl wd) wd (ar 25) (i))) bl  (hwd) (hwd1) (hwd2) (hhg) (hhg1) (hhg2)) mi_X2_rows tw_579 1 rfl rfl rfl rfl ⟨rfl, rfl, by decide, by decide⟩ (Nat.le_of_ble_eq_true rfl) ⟨Nat.le_refl _, Nat.le_refl _⟩ rfl dX3_lay_7 ?_
      refine g_topi (v := nI hg) rfl ?_
      refine g_icmp_ge_f (pc := 10) hc 103 dX3_lay_10 (by decide) (nI_ge (by omega) (by omega)) ?_
      refine g_aload_n (pc := 13) hc 0 dX3_lay_13 rfl rfl ?_
      refine gf_c6_walks (pc := 14) hc tw_203 dX3_lay_14 ?_
      refine g_iload_n (pc := 17) hc 1 dX3_lay_17 rfl rfl ?_
      refine g_callVi (pc := 18) (rest := []) (As := [.int (nI (i))]) hc (c_X10_teller l E ad hA sc (va_up ar 25 (layO (cel (sc 5) nW (ar 15) (ar 16) (ar 17) (ar 19) (ar 20) bl wd) wd (ar 25) (i))) bl (nI (i)) (hW) (hW60)) mi_X10_teller tw_580 3 rfl rfl rfl rfl ⟨rfl, rfl, by decide, by decide⟩ (Nat.le_of_ble_eq_true rfl) ⟨Nat.le_refl _, Nat.le_refl _⟩ rfl dX3_lay_18 ?_
      refine g_topi (v := ctel nW (ar 17) (ar 19) (nI (i))) rfl ?_
      refine g_istore_n (pc := 21) (lv' := [(0, .ref (ad 6)), (1, .int (nI (i))), (2, .int (ctel nW (ar 17) (ar 19) (nI (i))))]) hc dX3_lay_21 rfl (by decide) rfl ?_
      refine g_aload_n (pc := 22) hc 0 dX3_lay_22 rfl rfl ?_
      refine gf_c6_eyes (pc := 23) hc tw_204 dX3_lay_23 ?_
      refine g_iload_n (pc := 26) hc 2 dX3_lay_26 rfl rfl ?_
      refine g_callVi (pc := 27) (rest := []) (As := [.int (ctel nW (ar 17) (ar 19) (nI (i)))]) hc (c_X0_ofTeller l E ad hA sc (va_up ar 25 (layO (cel (sc 5) nW (ar 15) (ar 16) (ar 17) (ar 19) (ar 20) bl wd) wd (ar 25) (i))) bl (ctel nW (ar 17) (ar 19) (nI (i))) (hW) (hW60)) mi_X0_ofTeller tw_581 5 rfl rfl rfl rfl ⟨rfl, rfl, by decide, by decide⟩ (Nat.le_of_ble_eq_true rfl) ⟨Nat.le_refl _, Nat.le_refl _⟩ rfl dX3_lay_27 ?_
      refine g_topi (v := oft (ar 15) (ar 16) (ar 17) (ar 19) nW (ctel nW (ar 17) (ar 19) (nI (i)))) rfl ?_
      refine g_istore_n (pc := 30) (lv' := [(0, .ref (ad 6)), (1, .int (nI (i))), (2, .int (ctel nW (ar 17) (ar 19) (nI (i)))), (3, .int (oft (ar 15) (ar 16) (ar 17) (ar 19) nW (ctel nW (ar 17) (ar 19) (nI (i)))))]) hc dX3_lay_30 rfl (by decide) rfl ?_
      refine g_iconst (pc := 31) (v := nI 0) hc dX3_lay_31 (by decide) ?_
      refine g_istore (pc := 32) (lv' := [(0, .ref (ad 6)), (1, .int (nI (i))), (2, .int (ctel nW (ar 17) (ar 19) (nI (i)))), (3, .int (oft (ar 15) (ar 16) (ar 17) (ar 19) nW (ctel nW (ar 17) (ar 19) (nI (i))))), (4, .int (nI 0))]) hc dX3_lay_32 (by decide) rfl ?_
      have L34_2 : ∀ (kc c : Nat), c + kc = wd → G zp l ze ({ frames := 5, cells := 0, slots := 0, locals := 113 }) zs zm za zb zh zc 0 0 (MQ zb (Qz E A (none) (cw E ad sc (va_up ar 25 (layO (cel (sc 5) nW (ar 15) (ar 16) (ar 17) (ar 19) (ar 20) bl wd) wd (ar 25) hg)) bl)) za zs 0 0 A) E A 6 (cw E ad sc (va_up ar 25 (layI (cel (sc 5) nW (ar 15) (ar 16) (ar 17) (ar 19) (ar 20) bl wd) wd i (layO (cel (sc 5) nW (ar 15) (ar 16) (ar 17) (ar 19) (ar 20) bl wd) wd (ar 25) i) (c))) bl) (34) [(0, .ref (ad 6)), (1, .int (nI (i))), (2, .int (ctel nW (ar 17) (ar 19) (nI (i)))), (3, .int (oft (ar 15) (ar 16) (ar 17) (ar 19) nW (ctel nW (ar 17) (ar 19) (nI (i))))), (4, .int (nI (c)))] [] := by
        intro kc
        induction kc with
        | zero =>
          intro c lhc
          have lhcn : wd = c := by omega
          subst lhcn
          refine g_iload (pc := 34) hc 4 dX3_lay_34 rfl ?_
          refine g_aload_n (pc := 36) hc 0 dX3_lay_36 rfl rfl ?_
          refine gf_c6_ground (pc := 37) hc tw_202 dX3_lay_37 ?_
          refine g_callVi (pc := 40) (rest := [.int (nI (wd))]) (As := []) hc (c_X2_columns l E ad hA sc (va_up ar 25 (layI (cel (sc 5) nW (ar 15) (ar 16) (ar 17) (ar 19) (ar 20) bl wd) wd i (layO (cel (sc 5) nW (ar 15) (ar 16) (ar 17) (ar 19) (ar 20) bl wd) wd (ar 25) i) (wd))) bl  (hwd) (hwd1) (hwd2) (hhg) (hhg1) (hhg2)) mi_X2_columns tw_582 1 rfl rfl rfl rfl ⟨rfl, rfl, by decide, by decide⟩ (Nat.le_of_ble_eq_true rfl) ⟨Nat.le_refl _, Nat.le_refl _⟩ rfl dX3_lay_40 ?_
          refine g_topi (v := nI wd) rfl ?_
          refine g_icmp_ge_t (pc := 43) hc 97 dX3_lay_43 (by decide) (nI_le (by omega) (by omega)) ?_
          refine g_iinc (pc := 97) (v := nI (i + 1)) (lv' := [(0, .ref (ad 6)), (1, .int (nI (i + 1))), (2, .int (ctel nW (ar 17) (ar 19) (nI (i)))), (3, .int (oft (ar 15) (ar 16) (ar 17) (ar 19) nW (ctel nW (ar 17) (ar 19) (nI (i))))), (4, .int (nI (wd)))]) hc 1 dX3_lay_97 rfl (nI_ofi i 1) (by decide) rfl ?_
          refine g_goto (pc := 100) hc 2 dX3_lay_100 (by decide) ?_
          refine g_lv [0, 1] (lv' := [(0, .ref (ad 6)), (1, .int (nI (i + 1)))]) rfl ?_
          exact g_eq (ws' := cw E ad sc (va_up ar 25 (layO (cel (sc 5) nW (ar 15) (ar 16) (ar 17) (ar 19) (ar 20) bl wd) wd (ar 25) (i + 1))) bl) (lv' := [(0, .ref (ad 6)), (1, .int (nI (i + 1)))]) (rfl) (rfl) rfl (ihi (i + 1) (by omega))
        | succ kc ihc =>
          intro c lhc
          have lhcn : c < wd := by omega
          refine g_iload (pc := 34) hc 4 dX3_lay_34 rfl ?_
          refine g_aload_n (pc := 36) hc 0 dX3_lay_36 rfl rfl ?_
          refine gf_c6_ground (pc := 37) hc tw_202 dX3_lay_37 ?_
          refine g_callVi (pc := 40) (rest := [.int (nI (c))]) (As := []) hc (c_X2_columns l E ad hA sc (va_up ar 25 (layI (cel (sc 5) nW (ar 15) (ar 16) (ar 17) (ar 19) (ar 20) bl wd) wd i (layO (cel (sc 5) nW (ar 15) (ar 16) (ar 17) (ar 19) (ar 20) bl wd) wd (ar 25) i) (c))) bl  (hwd) (hwd1) (hwd2) (hhg) (hhg1) (hhg2)) mi_X2_columns tw_582 1 rfl rfl rfl rfl ⟨rfl, rfl, by decide, by decide⟩ (Nat.le_of_ble_eq_true rfl) ⟨Nat.le_refl _, Nat.le_refl _⟩ rfl dX3_lay_40 ?_
          refine g_topi (v := nI wd) rfl ?_
          refine g_icmp_ge_f (pc := 43) hc 97 dX3_lay_43 (by decide) (nI_ge (by omega) (by omega)) ?_
          refine g_iload_n (pc := 46) hc 1 dX3_lay_46 rfl rfl ?_
          refine g_aload_n (pc := 47) hc 0 dX3_lay_47 rfl rfl ?_
          refine gf_c6_ground (pc := 48) hc tw_202 dX3_lay_48 ?_
          refine g_callVi (pc := 51) (rest := [.int (nI (i))]) (As := []) hc (c_X2_columns l E ad hA sc (va_up ar 25 (layI (cel (sc 5) nW (ar 15) (ar 16) (ar 17) (ar 19) (ar 20) bl wd) wd i (layO (cel (sc 5) nW (ar 15) (ar 16) (ar 17) (ar 19) (ar 20) bl wd) wd (ar 25) i) (c))) bl  (hwd) (hwd1) (hwd2) (hhg) (hhg1) (hhg2)) mi_X2_columns tw_582 1 rfl rfl rfl rfl ⟨rfl, rfl, by decide, by decide⟩ (Nat.le_of_ble_eq_true rfl) ⟨Nat.le_refl _, Nat.le_refl _⟩ rfl dX3_lay_51 ?_
          refine g_topi (v := nI wd) rfl ?_
          refine g_imul (pc := 54) hc dX3_lay_54 ?_
          refine g_topi (v := nI (i * wd)) (pk_mul i wd) ?_
          refine g_iload (pc := 55) hc 4 dX3_lay_55 rfl ?_
          refine g_iadd (pc := 57) hc dX3_lay_57 ?_
          refine g_topi (v := nI ((i * wd) + c)) (nI_add (i * wd) c) ?_
          refine g_istore (pc := 58) (lv' := [(0, .ref (ad 6)), (1, .int (nI (i))), (2, .int (ctel nW (ar 17) (ar 19) (nI (i)))), (3, .int (oft (ar 15) (ar 16) (ar 17) (ar 19) nW (ctel nW (ar 17) (ar 19) (nI (i))))), (4, .int (nI (c))), (5, .int (nI ((i * wd) + c)))]) hc dX3_lay_58 (by decide) rfl ?_
          refine g_aload_n (pc := 60) hc 0 dX3_lay_60 rfl rfl ?_
          refine gf_c6_worths (pc := 61) hc tw_206 dX3_lay_61 ?_
          refine g_iload (pc := 64) hc 5 dX3_lay_64 rfl ?_
          refine g_aload_n (pc := 66) hc 0 dX3_lay_66 rfl rfl ?_
          refine gf_c6_ground (pc := 67) hc tw_202 dX3_lay_67 ?_
          refine g_iload (pc := 70) hc 5 dX3_lay_70 rfl ?_
          refine g_callVi (pc := 72) (rest := [.int (nI ((i * wd) + c)), .ref (ad 25)]) (As := [.int (nI ((i * wd) + c))]) hc (c_X2_isBarren l E ad hA sc (va_up ar 25 (layI (cel (sc 5) nW (ar 15) (ar 16) (ar 17) (ar 19) (ar 20) bl wd) wd i (layO (cel (sc 5) nW (ar 15) (ar 16) (ar 17) (ar 19) (ar 20) bl wd) wd (ar 25) i) (c))) bl (nI ((i * wd) + c))) mi_X2_isBarren tw_586 1 rfl rfl rfl rfl ⟨rfl, rfl, by decide, by decide⟩ (Nat.le_of_ble_eq_true rfl) ⟨Nat.le_refl _, Nat.le_refl _⟩ rfl dX3_lay_72 ?_
          refine g_topi (v := bI (brb bl (nI ((i * wd) + c)))) rfl ?_
          refine g_if_eq_b (pc := 75) hc 82 dX3_lay_75 (by decide) (fun c3 => ?_) (fun c3 => ?_)
          · refine g_aload_n (pc := 82) hc 0 dX3_lay_82 rfl rfl ?_
            refine g_iload_n (pc := 83) hc 2 dX3_lay_83 rfl rfl ?_
            refine g_iload (pc := 84) hc 4 dX3_lay_84 rfl ?_
            refine g_iload_n (pc := 86) hc 3 dX3_lay_86 rfl rfl ?_
            refine g_callVi (pc := 87) (rest := [.int (nI ((i * wd) + c)), .ref (ad 25)]) (As := [.int (ctel nW (ar 17) (ar 19) (nI (i))), .int (nI (c)), .int (oft (ar 15) (ar 16) (ar 17) (ar 19) nW (ctel nW (ar 17) (ar 19) (nI (i))))]) hc (c_X3_weighed l E ad hA sc (va_up ar 25 (layI (cel (sc 5) nW (ar 15) (ar 16) (ar 17) (ar 19) (ar 20) bl wd) wd i (layO (cel (sc 5) nW (ar 15) (ar 16) (ar 17) (ar 19) (ar 20) bl wd) wd (ar 25) i) (c))) bl (ctel nW (ar 17) (ar 19) (nI (i))) c (oft (ar 15) (ar 16) (ar 17) (ar 19) nW (ctel nW (ar 17) (ar 19) (nI (i)))) (hW) (hW60) (by omega)) mi_X3_weighed tw_590 6 rfl rfl rfl rfl ⟨rfl, rfl, by decide, by decide⟩ (Nat.le_of_ble_eq_true rfl) ⟨Nat.le_refl _, Nat.le_refl _⟩ rfl dX3_lay_87 ?_
            refine g_topi (v := wz (sc 5) (ar 15) (ar 20) (ctel nW (ar 17) (ar 19) (nI (i))) c (oft (ar 15) (ar 16) (ar 17) (ar 19) nW (ctel nW (ar 17) (ar 19) (nI (i)))) 4) rfl ?_
            refine sa_c25 (pc := 90) hc hA (i * wd + c) (rfl) (idx64 (by omega) (by omega) hwd2 hhg2) dX3_lay_90 ?_
            refine g_eq (ws' := cw E ad sc (va_up ar 25 (upd (layI (cel (sc 5) nW (ar 15) (ar 16) (ar 17) (ar 19) (ar 20) bl wd) wd i (layO (cel (sc 5) nW (ar 15) (ar 16) (ar 17) (ar 19) (ar 20) bl wd) wd (ar 25) i) (c)) (i * wd + c) (wz (sc 5) (ar 15) (ar 20) (ctel nW (ar 17) (ar 19) (nI (i))) c (oft (ar 15) (ar 16) (ar 17) (ar 19) nW (ctel nW (ar 17) (ar 19) (nI (i)))) 4))) bl) (lv' := [(0, .ref (ad 6)), (1, .int (nI (i))), (2, .int (ctel nW (ar 17) (ar 19) (nI (i)))), (3, .int (oft (ar 15) (ar 16) (ar 17) (ar 19) nW (ctel nW (ar 17) (ar 19) (nI (i))))), (4, .int (nI (c))), (5, .int (nI ((i * wd) + c)))]) rfl rfl rfl ?_
            refine g_iinc (pc := 91) (v := nI (c + 1)) (lv' := [(0, .ref (ad 6)), (1, .int (nI (i))), (2, .int (ctel nW (ar 17) (ar 19) (nI (i)))), (3, .int (oft (ar 15) (ar 16) (ar 17) (ar 19) nW (ctel nW (ar 17) (ar 19) (nI (i))))), (4, .int (nI (c + 1))), (5, .int (nI ((i * wd) + c)))]) hc 4 dX3_lay_91 rfl (nI_ofi c 1) (by decide) rfl ?_
            refine g_goto (pc := 94) hc 34 dX3_lay_94 (by decide) ?_
            refine g_lv [0, 1, 2, 3, 4] (lv' := [(0, .ref (ad 6)), (1, .int (nI (i))), (2, .int (ctel nW (ar 17) (ar 19) (nI (i)))), (3, .int (oft (ar 15) (ar 16) (ar 17) (ar 19) nW (ctel nW (ar 17) (ar 19) (nI (i))))), (4, .int (nI (c + 1)))]) rfl ?_
            exact g_eq (ws' := cw E ad sc (va_up ar 25 (layI (cel (sc 5) nW (ar 15) (ar 16) (ar 17) (ar 19) (ar 20) bl wd) wd i (layO (cel (sc 5) nW (ar 15) (ar 16) (ar 17) (ar 19) (ar 20) bl wd) wd (ar 25) i) (c + 1))) bl) (lv' := [(0, .ref (ad 6)), (1, .int (nI (i))), (2, .int (ctel nW (ar 17) (ar 19) (nI (i)))), (3, .int (oft (ar 15) (ar 16) (ar 17) (ar 19) nW (ctel nW (ar 17) (ar 19) (nI (i))))), (4, .int (nI (c + 1)))]) (by show _ = cw E ad sc (va_up ar 25 (upd _ _ (cel _ _ _ _ _ _ _ _ _ _ _))) bl; unfold cel; first | rw [if_pos c3] | rw [if_neg (ne_true_of_eq_false c3)]) (rfl) rfl (ihc (c + 1) (by omega))
          · refine g_iconst (pc := 78) (v := nI 0) hc dX3_lay_78 (by decide) ?_
            refine g_goto (pc := 79) hc 90 dX3_lay_79 (by decide) ?_
            refine sa_c25 (pc := 90) hc hA (i * wd + c) (rfl) (idx64 (by omega) (by omega) hwd2 hhg2) dX3_lay_90 ?_
            refine g_eq (ws' := cw E ad sc (va_up ar 25 (upd (layI (cel (sc 5) nW (ar 15) (ar 16) (ar 17) (ar 19) (ar 20) bl wd) wd i (layO (cel (sc 5) nW (ar 15) (ar 16) (ar 17) (ar 19) (ar 20) bl wd) wd (ar 25) i) (c)) (i * wd + c) (nI 0))) bl) (lv' := [(0, .ref (ad 6)), (1, .int (nI (i))), (2, .int (ctel nW (ar 17) (ar 19) (nI (i)))), (3, .int (oft (ar 15) (ar 16) (ar 17) (ar 19) nW (ctel nW (ar 17) (ar 19) (nI (i))))), (4, .int (nI (c))), (5, .int (nI ((i * wd) + c)))]) rfl rfl rfl ?_
            refine g_iinc (pc := 91) (v := nI (c + 1)) (lv' := [(0, .ref (ad 6)), (1, .int (nI (i))), (2, .int (ctel nW (ar 17) (ar 19) (nI (i)))), (3, .int (oft (ar 15) (ar 16) (ar 17) (ar 19) nW (ctel nW (ar 17) (ar 19) (nI (i))))), (4, .int (nI (c + 1))), (5, .int (nI ((i * wd) + c)))]) hc 4 dX3_lay_91 rfl (nI_ofi c 1) (by decide) rfl ?_
            refine g_goto (pc := 94) hc 34 dX3_lay_94 (by decide) ?_
            refine g_lv [0, 1, 2, 3, 4] (lv' := [(0, .ref (ad 6)), (1, .int (nI (i))), (2, .int (ctel nW (ar 17) (ar 19) (nI (i)))), (3, .int (oft (ar 15) (ar 16) (ar 17) (ar 19) nW (ctel nW (ar 17) (ar 19) (nI (i))))), (4, .int (nI (c + 1)))]) rfl ?_
            exact g_eq (ws' := cw E ad sc (va_up ar 25 (layI (cel (sc 5) nW (ar 15) (ar 16) (ar 17) (ar 19) (ar 20) bl wd) wd i (layO (cel (sc 5) nW (ar 15) (ar 16) (ar 17) (ar 19) (ar 20) bl wd) wd (ar 25) i) (c + 1))) bl) (lv' := [(0, .ref (ad 6)), (1, .int (nI (i))), (2, .int (ctel nW (ar 17) (ar 19) (nI (i)))), (3, .int (oft (ar 15) (ar 16) (ar 17) (ar 19) nW (ctel nW (ar 17) (ar 19) (nI (i))))), (4, .int (nI (c + 1)))]) (by show _ = cw E ad sc (va_up ar 25 (upd _ _ (cel _ _ _ _ _ _ _ _ _ _ _))) bl; unfold cel; first | rw [if_pos c3] | rw [if_neg (ne_true_of_eq_false c3)]) (rfl) rfl (ihc (c + 1) (by omega))
      exact g_eq (ws' := cw E ad sc (va_up ar 25 (layI (cel (sc 5) nW (ar 15) (ar 16) (ar 17) (ar 19) (ar 20) bl wd) wd i (layO (cel (sc 5) nW (ar 15) (ar 16) (ar 17) (ar 19) (ar 20) bl wd) wd (ar 25) i) (0))) bl) (lv' := [(0, .ref (ad 6)), (1, .int (nI (i))), (2, .int (ctel nW (ar 17) (ar 19) (nI (i)))), (3, .int (oft (ar 15) (ar 16) (ar 17) (ar 19) nW (ctel nW (ar 17) (ar 19) (nI (i))))), (4, .int (nI (0)))]) (rfl) (rfl) rfl (L34_2 (wd - 0) (0) (by omega))
  exact g_eq (ws' := cw E ad sc (va_up ar 25 (layO (cel (sc 5) nW (ar 15) (ar 16) (ar 17) (ar 19) (ar 20) bl wd) wd (ar 25) (0))) bl) (lv' := [(0, .ref (ad 6)), (1, .int (nI (0)))]) (rfl) (rfl) rfl (L2_1 (hg - 0) (0) (by omega))

theorem dX3_gatherWalked_0 : decode cX3_gatherWalked 0 = .ok (.iconst 0, 1) := by decide +kernel
theorem dX3_gatherWalked_1 : decode cX3_gatherWalked 1 = .ok (.istore_n 1, 1) := by decide +kernel
theorem dX3_gatherWalked_2 : decode cX3_gatherWalked 2 = .ok (.iconst 0, 1) := by decide +kernel
theorem dX3_gatherWalked_3 : decode cX3_gatherWalked 3 = .ok (.istore_n 2, 1) := by decide +kernel
theorem dX3_gatherWalked_4 : decode cX3_gatherWalked 4 = .ok (.iload_n 2, 1) := by decide +kernel
theorem dX3_gatherWalked_5 : decode cX3_gatherWalked 5 = .ok (.aload_n 0, 1) := by decide +kernel
theorem dX3_gatherWalked_6 : decode cX3_gatherWalked 6 = .ok (.getfield 18, 3) := by decide +kernel
theorem dX3_gatherWalked_9 : decode cX3_gatherWalked 9 = .ok (.invokevirtual 34, 3) := by decide +kernel
theorem dX3_gatherWalked_12 : decode cX3_gatherWalked 12 = .ok (.if_icmp .ge 60, 3) := by decide +kernel
theorem dX3_gatherWalked_15 : decode cX3_gatherWalked 15 = .ok (.aload_n 0, 1) := by decide +kernel
theorem dX3_gatherWalked_16 : decode cX3_gatherWalked 16 = .ok (.getfield 22, 3) := by decide +kernel
theorem dX3_gatherWalked_19 : decode cX3_gatherWalked 19 = .ok (.iload_n 2, 1) := by decide +kernel
theorem dX3_gatherWalked_20 : decode cX3_gatherWalked 20 = .ok (.invokevirtual 40, 3) := by decide +kernel
theorem dX3_gatherWalked_23 : decode cX3_gatherWalked 23 = .ok (.iconst (-1), 1) := by decide +kernel
theorem dX3_gatherWalked_24 : decode cX3_gatherWalked 24 = .ok (.if_icmp .eq 42, 3) := by decide +kernel
theorem dX3_gatherWalked_27 : decode cX3_gatherWalked 27 = .ok (.iconst 0, 1) := by decide +kernel
theorem dX3_gatherWalked_28 : decode cX3_gatherWalked 28 = .ok (.istore_n 3, 1) := by decide +kernel
theorem dX3_gatherWalked_29 : decode cX3_gatherWalked 29 = .ok (.iload_n 3, 1) := by decide +kernel
theorem dX3_gatherWalked_30 : decode cX3_gatherWalked 30 = .ok (.aload_n 0, 1) := by decide +kernel
theorem dX3_gatherWalked_31 : decode cX3_gatherWalked 31 = .ok (.getfield 18, 3) := by decide +kernel
theorem dX3_gatherWalked_34 : decode cX3_gatherWalked 34 = .ok (.invokevirtual 51, 3) := by decide +kernel
theorem dX3_gatherWalked_37 : decode cX3_gatherWalked 37 = .ok (.if_icmp .ge 29, 3) := by decide +kernel
theorem dX3_gatherWalked_40 : decode cX3_gatherWalked 40 = .ok (.aload_n 0, 1) := by decide +kernel
theorem dX3_gatherWalked_41 : decode cX3_gatherWalked 41 = .ok (.getfield 15, 3) := by decide +kernel
theorem dX3_gatherWalked_44 : decode cX3_gatherWalked 44 = .ok (.iload_n 1, 1) := by decide +kernel
theorem dX3_gatherWalked_45 : decode cX3_gatherWalked 45 = .ok (.iload_n 2, 1) := by decide +kernel
theorem dX3_gatherWalked_46 : decode cX3_gatherWalked 46 = .ok (.aload_n 0, 1) := by decide +kernel
theorem dX3_gatherWalked_47 : decode cX3_gatherWalked 47 = .ok (.getfield 18, 3) := by decide +kernel
theorem dX3_gatherWalked_50 : decode cX3_gatherWalked 50 = .ok (.invokevirtual 51, 3) := by decide +kernel
theorem dX3_gatherWalked_53 : decode cX3_gatherWalked 53 = .ok (.imul, 1) := by decide +kernel
theorem dX3_gatherWalked_54 : decode cX3_gatherWalked 54 = .ok (.iload_n 3, 1) := by decide +kernel
theorem dX3_gatherWalked_55 : decode cX3_gatherWalked 55 = .ok (.iadd, 1) := by decide +kernel
theorem dX3_gatherWalked_56 : decode cX3_gatherWalked 56 = .ok (.iastore, 1) := by decide +kernel
theorem dX3_gatherWalked_57 : decode cX3_gatherWalked 57 = .ok (.iinc 1 1, 3) := by decide +kernel
theorem dX3_gatherWalked_60 : decode cX3_gatherWalked 60 = .ok (.iinc 3 1, 3) := by decide +kernel
theorem dX3_gatherWalked_63 : decode cX3_gatherWalked 63 = .ok (.goto (-34), 3) := by decide +kernel
theorem dX3_gatherWalked_66 : decode cX3_gatherWalked 66 = .ok (.iinc 2 1, 3) := by decide +kernel
theorem dX3_gatherWalked_69 : decode cX3_gatherWalked 69 = .ok (.goto (-65), 3) := by decide +kernel
theorem dX3_gatherWalked_72 : decode cX3_gatherWalked 72 = .ok (.iload_n 1, 1) := by decide +kernel
theorem dX3_gatherWalked_73 : decode cX3_gatherWalked 73 = .ok (.ireturn, 1) := by decide +kernel

set_option maxHeartbeats 4000000 in
set_option maxRecDepth 100000 in
theorem c_X3_gatherWalked (l : Launch) (E : Ev) {A : Nat → Prop} (ad : Nat → Nat) (hA : Oka 39 ad A) (sc : Nat → Int32) (ar : Nat → Nat → Int32) (bl : Int64) {nW wd hg : Nat}  (hW : sc 5 = nI nW) (hW60 : nW ≤ 60) (hwd : sc 3 = nI wd) (hwd1 : 2 ≤ wd) (hwd2 : wd ≤ 8) (hhg : sc 4 = nI hg) (hhg1 : 2 ≤ hg) (hhg2 : hg ≤ 8) : Ct l E yX3_gatherWalked (.code yX3_gatherWalked cX3_gatherWalked 4 (some .int)) ({ frames := 4, cells := 0, slots := 0, locals := 90 }) A (cw E ad sc ar bl) [.ref (ad 6)] (some (.int (nI (gwO nW (ar 17) (ar 19) wd (ar 26) hg).1))) (cw E ad sc (va_up ar 26 (gwO nW (ar 17) (ar 19) wd (ar 26) hg).2) bl) := by
  refine Ct.of (lv := [(0, .ref (ad 6))]) (by decide +kernel) (Nat.le_of_ble_eq_true rfl) rfl ?_
  intro zp ze zs zm za zb zh zc hc
  refine g_iconst (pc := 0) (v := nI 0) hc dX3_gatherWalked_0 (by decide) ?_
  refine g_istore_n (pc := 1) (lv' := [(0, .ref (ad 6)), (1, .int (nI 0))]) hc dX3_gatherWalked_1 rfl (by decide) rfl ?_
  refine g_iconst (pc := 2) (v := nI 0) hc dX3_gatherWalked_2 (by decide) ?_
  refine g_istore_n (pc := 3) (lv' := [(0, .ref (ad 6)), (1, .int (nI 0)), (2, .int (nI 0))]) hc dX3_gatherWalked_3 rfl (by decide) rfl ?_
  have L4_1 : ∀ (ki i : Nat), i + ki = hg → G zp l ze ({ frames := 4, cells := 0, slots := 0, locals := 90 }) zs zm za zb zh zc 0 0 (MQ zb (Qz E A (some (.int (nI (gwO nW (ar 17) (ar 19) wd (ar 26) hg).1))) (cw E ad sc (va_up ar 26 (gwO nW (ar 17) (ar 19) wd (ar 26) hg).2) bl)) za zs 0 0 A) E A 4 (cw E ad sc (va_up ar 26 (gwO nW (ar 17) (ar 19) wd (ar 26) (i)).2) bl) (4) [(0, .ref (ad 6)), (1, .int (nI (gwO nW (ar 17) (ar 19) wd (ar 26) (i)).1)), (2, .int (nI (i)))] [] := by
    intro ki
    induction ki with
    | zero =>
      intro i lhi
      have lhin : hg = i := by omega
      subst lhin
      refine g_iload_n (pc := 4) hc 2 dX3_gatherWalked_4 rfl rfl ?_
      refine g_aload_n (pc := 5) hc 0 dX3_gatherWalked_5 rfl rfl ?_
      refine gf_c6_ground (pc := 6) hc tw_202 dX3_gatherWalked_6 ?_
      refine g_callVi (pc := 9) (rest := [.int (nI (hg))]) (As := []) hc (c_X2_rows l E ad hA sc (va_up ar 26 (gwO nW (ar 17) (ar 19) wd (ar 26) (hg)).2) bl  (hwd) (hwd1) (hwd2) (hhg) (hhg1) (hhg2)) mi_X2_rows tw_579 1 rfl rfl rfl rfl ⟨rfl, rfl, by decide, by decide⟩ (Nat.le_of_ble_eq_true rfl) ⟨Nat.le_refl _, Nat.le_refl _⟩ rfl dX3_gatherWalked_9 ?_
      refine g_topi (v := nI hg) rfl ?_
      refine g_icmp_ge_t (pc := 12) hc 72 dX3_gatherWalked_12 (by decide) (nI_le (by omega) (by omega)) ?_
      refine g_iload_n (pc := 72) hc 1 dX3_gatherWalked_72 rfl rfl ?_
      exact g_iret (pc := 73) hc dX3_gatherWalked_73 (rfl) (rfl)
    | succ ki ihi =>
      intro i lhi
      have lhin : i < hg := by omega
      refine g_iload_n (pc := 4) hc 2 dX3_gatherWalked_4 rfl rfl ?_
      refine g_aload_n (pc := 5) hc 0 dX3_gatherWalked_5 rfl rfl ?_
      refine gf_c6_ground (pc := 6) hc tw_202 dX3_gatherWalked_6 ?_
      refine g_callVi (pc := 9) (rest := [.int (nI (i))]) (As := []) hc (c_X2_rows l E ad hA sc (va_up ar 26 (gwO nW (ar 17) (ar 19) wd (ar 26) (i)).2) bl  (hwd) (hwd1) (hwd2) (hhg) (hhg1) (hhg2)) mi_X2_rows tw_579 1 rfl rfl rfl rfl ⟨rfl, rfl, by decide, by decide⟩ (Nat.le_of_ble_eq_true rfl) ⟨Nat.le_refl _, Nat.le_refl _⟩ rfl dX3_gatherWalked_9 ?_
      refine g_topi (v := nI hg) rfl ?_
      refine g_icmp_ge_f (pc := 12) hc 72 dX3_gatherWalked_12 (by decide) (nI_ge (by omega) (by omega)) ?_
      refine g_aload_n (pc := 15) hc 0 dX3_gatherWalked_15 rfl rfl ?_
      refine gf_c6_walks (pc := 16) hc tw_203 dX3_gatherWalked_16 ?_
      refine g_iload_n (pc := 19) hc 2 dX3_gatherWalked_19 rfl rfl ?_
      refine g_callVi (pc := 20) (rest := []) (As := [.int (nI (i))]) hc (c_X10_teller l E ad hA sc (va_up ar 26 (gwO nW (ar 17) (ar 19) wd (ar 26) (i)).2) bl (nI (i)) (hW) (hW60)) mi_X10_teller tw_580 3 rfl rfl rfl rfl ⟨rfl, rfl, by decide, by decide⟩ (Nat.le_of_ble_eq_true rfl) ⟨Nat.le_refl _, Nat.le_refl _⟩ rfl dX3_gatherWalked_20 ?_
      refine g_topi (v := ctel nW (ar 17) (ar 19) (nI (i))) rfl ?_
      refine g_iconst (pc := 23) (v := (-1)) hc dX3_gatherWalked_23 (by decide) ?_
      refine g_icmp_eq (pc := 24) hc 66 dX3_gatherWalked_24 (by decide) (fun c2 => ?_) (fun c2 => ?_)
      · refine g_iinc (pc := 66) (v := nI (i + 1)) (lv' := [(0, .ref (ad 6)), (1, .int (nI (gwO nW (ar 17) (ar 19) wd (ar 26) (i)).1)), (2, .int (nI (i + 1)))]) hc 2 dX3_gatherWalked_66 rfl (nI_ofi i 1) (by decide) rfl ?_
        refine g_goto (pc := 69) hc 4 dX3_gatherWalked_69 (by decide) ?_
        exact g_eq (ws' := cw E ad sc (va_up ar 26 (gwO nW (ar 17) (ar 19) wd (ar 26) (i + 1)).2) bl) (lv' := [(0, .ref (ad 6)), (1, .int (nI (gwO nW (ar 17) (ar 19) wd (ar 26) (i + 1)).1)), (2, .int (nI (i + 1)))]) (by rw [gwO_succ]; first | rw [if_pos c2] | rw [if_neg c2]) (by rw [gwO_succ]; first | rw [if_pos c2] | rw [if_neg c2]) rfl (ihi (i + 1) (by omega))
      · refine g_iconst (pc := 27) (v := nI 0) hc dX3_gatherWalked_27 (by decide) ?_
        refine g_istore_n (pc := 28) (lv' := [(0, .ref (ad 6)), (1, .int (nI (gwO nW (ar 17) (ar 19) wd (ar 26) (i)).1)), (2, .int (nI (i))), (3, .int (nI 0))]) hc dX3_gatherWalked_28 rfl (by decide) rfl ?_
        have L29_3 : ∀ (kc c : Nat), c + kc = wd → G zp l ze ({ frames := 4, cells := 0, slots := 0, locals := 90 }) zs zm za zb zh zc 0 0 (MQ zb (Qz E A (some (.int (nI (gwO nW (ar 17) (ar 19) wd (ar 26) hg).1))) (cw E ad sc (va_up ar 26 (gwO nW (ar 17) (ar 19) wd (ar 26) hg).2) bl)) za zs 0 0 A) E A 4 (cw E ad sc (va_up ar 26 (gwI wd i (gwO nW (ar 17) (ar 19) wd (ar 26) i) (c)).2) bl) (29) [(0, .ref (ad 6)), (1, .int (nI (gwI wd i (gwO nW (ar 17) (ar 19) wd (ar 26) i) (c)).1)), (2, .int (nI (i))), (3, .int (nI (c)))] [] := by
          intro kc
          induction kc with
          | zero =>
            intro c lhc
            have lhcn : wd = c := by omega
            subst lhcn
            refine g_iload_n (pc := 29) hc 3 dX3_gatherWalked_29 rfl rfl ?_
            refine g_aload_n (pc := 30) hc 0 dX3_gatherWalked_30 rfl rfl ?_
            refine gf_c6_ground (pc := 31) hc tw_202 dX3_gatherWalked_31 ?_
            refine g_callVi (pc := 34) (rest := [.int (nI (wd))]) (As := []) hc (c_X2_columns l E ad hA sc (va_up ar 26 (gwI wd i (gwO nW (ar 17) (ar 19) wd (ar 26) i) (wd)).2) bl  (hwd) (hwd1) (hwd2) (hhg) (hhg1) (hhg2)) mi_X2_columns tw_582 1 rfl rfl rfl rfl ⟨rfl, rfl, by decide, by decide⟩ (Nat.le_of_ble_eq_true rfl) ⟨Nat.le_refl _, Nat.le_refl _⟩ rfl dX3_gatherWalked_34 ?_
            refine g_topi (v := nI wd) rfl ?_
            refine g_icmp_ge_t (pc := 37) hc 66 dX3_gatherWalked_37 (by decide) (nI_le (by omega) (by omega)) ?_
            refine g_iinc (pc := 66) (v := nI (i + 1)) (lv' := [(0, .ref (ad 6)), (1, .int (nI (gwI wd i (gwO nW (ar 17) (ar 19) wd (ar 26) i) (wd)).1)), (2, .int (nI (i + 1))), (3, .int (nI (wd)))]) hc 2 dX3_gatherWalked_66 rfl (nI_ofi i 1) (by decide) rfl ?_
            refine g_goto (pc := 69) hc 4 dX3_gatherWalked_69 (by decide) ?_
            refine g_lv [0, 1, 2] (lv' := [(0, .ref (ad 6)), (1, .int (nI (gwI wd i (gwO nW (ar 17) (ar 19) wd (ar 26) i) (wd)).1)), (2, .int (nI (i + 1)))]) rfl ?_
            exact g_eq (ws' := cw E ad sc (va_up ar 26 (gwO nW (ar 17) (ar 19) wd (ar 26) (i + 1)).2) bl) (lv' := [(0, .ref (ad 6)), (1, .int (nI (gwO nW (ar 17) (ar 19) wd (ar 26) (i + 1)).1)), (2, .int (nI (i + 1)))]) (by rw [gwO_succ]; first | rw [if_pos c2] | rw [if_neg c2]) (by rw [gwO_succ]; first | rw [if_pos c2] | rw [if_neg c2]) rfl (ihi (i + 1) (by omega))
          | succ kc ihc =>
            intro c lhc
            have lhcn : c < wd := by omega
            refine g_iload_n (pc := 29) hc 3 dX3_gatherWalked_29 rfl rfl ?_
            refine g_aload_n (pc := 30) hc 0 dX3_gatherWalked_30 rfl rfl ?_
            refine gf_c6_ground (pc := 31) hc tw_202 dX3_gatherWalked_31 ?_
            refine g_callVi (pc := 34) (rest := [.int (nI (c))]) (As := []) hc (c_X2_columns l E ad hA sc (va_up ar 26 (gwI wd i (gwO nW (ar 17) (ar 19) wd (ar 26) i) (c)).2) bl  (hwd) (hwd1) (hwd2) (hhg) (hhg1) (hhg2)) mi_X2_columns tw_582 1 rfl rfl rfl rfl ⟨rfl, rfl, by decide, by decide⟩ (Nat.le_of_ble_eq_true rfl) ⟨Nat.le_refl _, Nat.le_refl _⟩ rfl dX3_gatherWalked_34 ?_
            refine g_topi (v := nI wd) rfl ?_
            refine g_icmp_ge_f (pc := 37) hc 66 dX3_gatherWalked_37 (by decide) (nI_ge (by omega) (by omega)) ?_
            refine g_aload_n (pc := 40) hc 0 dX3_gatherWalked_40 rfl rfl ?_
            refine gf_c6_walked (pc := 41) hc tw_207 dX3_gatherWalked_41 ?_
            refine g_iload_n (pc := 44) hc 1 dX3_gatherWalked_44 rfl rfl ?_
            refine g_iload_n (pc := 45) hc 2 dX3_gatherWalked_45 rfl rfl ?_
            refine g_aload_n (pc := 46) hc 0 dX3_gatherWalked_46 rfl rfl ?_
            refine gf_c6_ground (pc := 47) hc tw_202 dX3_gatherWalked_47 ?_
            refine g_callVi (pc := 50) (rest := [.int (nI (i)), .int (nI (gwI wd i (gwO nW (ar 17) (ar 19) wd (ar 26) i) (c)).1), .ref (ad 26)]) (As := []) hc (c_X2_columns l E ad hA sc (va_up ar 26 (gwI wd i (gwO nW (ar 17) (ar 19) wd (ar 26) i) (c)).2) bl  (hwd) (hwd1) (hwd2) (hhg) (hhg1) (hhg2)) mi_X2_columns tw_582 1 rfl rfl rfl rfl ⟨rfl, rfl, by decide, by decide⟩ (Nat.le_of_ble_eq_true rfl) ⟨Nat.le_refl _, Nat.le_refl _⟩ rfl dX3_gatherWalked_50 ?_
            refine g_topi (v := nI wd) rfl ?_
            refine g_imul (pc := 53) hc dX3_gatherWalked_53 ?_
            refine g_topi (v := nI (i * wd)) (pk_mul i wd) ?_
            refine g_iload_n (pc := 54) hc 3 dX3_gatherWalked_54 rfl rfl ?_
            refine g_iadd (pc := 55) hc dX3_gatherWalked_55 ?_
            refine g_topi (v := nI ((i * wd) + c)) (nI_add (i * wd) c) ?_
            refine sa_c26 (pc := 56) hc hA ((gwI wd i (gwO nW (ar 17) (ar 19) wd (ar 26) i) c).1) (rfl) (gw_lt (by omega) (by omega) hwd2 hhg2) dX3_gatherWalked_56 ?_
            refine g_eq (ws' := cw E ad sc (va_up ar 26 (upd (gwI wd i (gwO nW (ar 17) (ar 19) wd (ar 26) i) (c)).2 (gwI wd i (gwO nW (ar 17) (ar 19) wd (ar 26) i) c).1 (nI ((i * wd) + c)))) bl) (lv' := [(0, .ref (ad 6)), (1, .int (nI (gwI wd i (gwO nW (ar 17) (ar 19) wd (ar 26) i) (c)).1)), (2, .int (nI (i))), (3, .int (nI (c)))]) rfl rfl rfl ?_
            refine g_iinc (pc := 57) (v := nI ((gwI wd i (gwO nW (ar 17) (ar 19) wd (ar 26) i) (c)).1 + 1)) (lv' := [(0, .ref (ad 6)), (1, .int (nI ((gwI wd i (gwO nW (ar 17) (ar 19) wd (ar 26) i) (c)).1 + 1))), (2, .int (nI (i))), (3, .int (nI (c)))]) hc 1 dX3_gatherWalked_57 rfl (nI_ofi (gwI wd i (gwO nW (ar 17) (ar 19) wd (ar 26) i) (c)).1 1) (by decide) rfl ?_
            refine g_iinc (pc := 60) (v := nI (c + 1)) (lv' := [(0, .ref (ad 6)), (1, .int (nI ((gwI wd i (gwO nW (ar 17) (ar 19) wd (ar 26) i) (c)).1 + 1))), (2, .int (nI (i))), (3, .int (nI (c + 1)))]) hc 3 dX3_gatherWalked_60 rfl (nI_ofi c 1) (by decide) rfl ?_
            refine g_goto (pc := 63) hc 29 dX3_gatherWalked_63 (by decide) ?_
            exact g_eq (ws' := cw E ad sc (va_up ar 26 (gwI wd i (gwO nW (ar 17) (ar 19) wd (ar 26) i) (c + 1)).2) bl) (lv' := [(0, .ref (ad 6)), (1, .int (nI (gwI wd i (gwO nW (ar 17) (ar 19) wd (ar 26) i) (c + 1)).1)), (2, .int (nI (i))), (3, .int (nI (c + 1)))]) (rfl) (rfl) rfl (ihc (c + 1) (by omega))
        exact g_eq (ws' := cw E ad sc (va_up ar 26 (gwI wd i (gwO nW (ar 17) (ar 19) wd (ar 26) i) (0)).2) bl) (lv' := [(0, .ref (ad 6)), (1, .int (nI (gwI wd i (gwO nW (ar 17) (ar 19) wd (ar 26) i) (0)).1)), (2, .int (nI (i))), (3, .int (nI (0)))]) (rfl) (rfl) rfl (L29_3 (wd - 0) (0) (by omega))
  exact g_eq (ws' := cw E ad sc (va_up ar 26 (gwO nW (ar 17) (ar 19) wd (ar 26) (0)).2) bl) (lv' := [(0, .ref (ad 6)), (1, .int (nI (gwO nW (ar 17) (ar 19) wd (ar 26) (0)).1)), (2, .int (nI (0)))]) (rfl) (rfl) rfl (L4_1 (hg - 0) (0) (by omega))

theorem dX3_shuffle_0 : decode cX3_shuffle 0 = .ok (.iload_n 2, 1) := by decide +kernel
theorem dX3_shuffle_1 : decode cX3_shuffle 1 = .ok (.istore_n 3, 1) := by decide +kernel
theorem dX3_shuffle_2 : decode cX3_shuffle 2 = .ok (.iload_n 1, 1) := by decide +kernel
theorem dX3_shuffle_3 : decode cX3_shuffle 3 = .ok (.iconst 1, 1) := by decide +kernel
theorem dX3_shuffle_4 : decode cX3_shuffle 4 = .ok (.isub, 1) := by decide +kernel
theorem dX3_shuffle_5 : decode cX3_shuffle 5 = .ok (.istore 4, 2) := by decide +kernel
theorem dX3_shuffle_7 : decode cX3_shuffle 7 = .ok (.iload 4, 2) := by decide +kernel
theorem dX3_shuffle_9 : decode cX3_shuffle 9 = .ok (.ifCond .le 75, 3) := by decide +kernel
theorem dX3_shuffle_12 : decode cX3_shuffle 12 = .ok (.iload_n 3, 1) := by decide +kernel
theorem dX3_shuffle_13 : decode cX3_shuffle 13 = .ok (.ldc 94, 2) := by decide +kernel
theorem dX3_shuffle_15 : decode cX3_shuffle 15 = .ok (.imul, 1) := by decide +kernel
theorem dX3_shuffle_16 : decode cX3_shuffle 16 = .ok (.sipush 12345, 3) := by decide +kernel
theorem dX3_shuffle_19 : decode cX3_shuffle 19 = .ok (.iadd, 1) := by decide +kernel
theorem dX3_shuffle_20 : decode cX3_shuffle 20 = .ok (.istore_n 3, 1) := by decide +kernel
theorem dX3_shuffle_21 : decode cX3_shuffle 21 = .ok (.aload_n 0, 1) := by decide +kernel
theorem dX3_shuffle_22 : decode cX3_shuffle 22 = .ok (.getfield 15, 3) := by decide +kernel
theorem dX3_shuffle_25 : decode cX3_shuffle 25 = .ok (.iload 4, 2) := by decide +kernel
theorem dX3_shuffle_27 : decode cX3_shuffle 27 = .ok (.iaload, 1) := by decide +kernel
theorem dX3_shuffle_28 : decode cX3_shuffle 28 = .ok (.istore 5, 2) := by decide +kernel
theorem dX3_shuffle_30 : decode cX3_shuffle 30 = .ok (.aload_n 0, 1) := by decide +kernel
theorem dX3_shuffle_31 : decode cX3_shuffle 31 = .ok (.getfield 15, 3) := by decide +kernel
theorem dX3_shuffle_34 : decode cX3_shuffle 34 = .ok (.iload_n 3, 1) := by decide +kernel
theorem dX3_shuffle_35 : decode cX3_shuffle 35 = .ok (.bipush 8, 2) := by decide +kernel
theorem dX3_shuffle_37 : decode cX3_shuffle 37 = .ok (.iushr, 1) := by decide +kernel
theorem dX3_shuffle_38 : decode cX3_shuffle 38 = .ok (.iload 4, 2) := by decide +kernel
theorem dX3_shuffle_40 : decode cX3_shuffle 40 = .ok (.iconst 1, 1) := by decide +kernel
theorem dX3_shuffle_41 : decode cX3_shuffle 41 = .ok (.iadd, 1) := by decide +kernel
theorem dX3_shuffle_42 : decode cX3_shuffle 42 = .ok (.irem, 1) := by decide +kernel
theorem dX3_shuffle_43 : decode cX3_shuffle 43 = .ok (.iaload, 1) := by decide +kernel
theorem dX3_shuffle_44 : decode cX3_shuffle 44 = .ok (.istore 6, 2) := by decide +kernel
theorem dX3_shuffle_46 : decode cX3_shuffle 46 = .ok (.aload_n 0, 1) := by decide +kernel
theorem dX3_shuffle_47 : decode cX3_shuffle 47 = .ok (.getfield 9, 3) := by decide +kernel
theorem dX3_shuffle_50 : decode cX3_shuffle 50 = .ok (.iload 5, 2) := by decide +kernel
theorem dX3_shuffle_52 : decode cX3_shuffle 52 = .ok (.iaload, 1) := by decide +kernel
theorem dX3_shuffle_53 : decode cX3_shuffle 53 = .ok (.istore 7, 2) := by decide +kernel
theorem dX3_shuffle_55 : decode cX3_shuffle 55 = .ok (.aload_n 0, 1) := by decide +kernel
theorem dX3_shuffle_56 : decode cX3_shuffle 56 = .ok (.getfield 9, 3) := by decide +kernel
theorem dX3_shuffle_59 : decode cX3_shuffle 59 = .ok (.iload 5, 2) := by decide +kernel
theorem dX3_shuffle_61 : decode cX3_shuffle 61 = .ok (.aload_n 0, 1) := by decide +kernel
theorem dX3_shuffle_62 : decode cX3_shuffle 62 = .ok (.getfield 9, 3) := by decide +kernel
theorem dX3_shuffle_65 : decode cX3_shuffle 65 = .ok (.iload 6, 2) := by decide +kernel
theorem dX3_shuffle_67 : decode cX3_shuffle 67 = .ok (.iaload, 1) := by decide +kernel
theorem dX3_shuffle_68 : decode cX3_shuffle 68 = .ok (.iastore, 1) := by decide +kernel
theorem dX3_shuffle_69 : decode cX3_shuffle 69 = .ok (.aload_n 0, 1) := by decide +kernel
theorem dX3_shuffle_70 : decode cX3_shuffle 70 = .ok (.getfield 9, 3) := by decide +kernel
theorem dX3_shuffle_73 : decode cX3_shuffle 73 = .ok (.iload 6, 2) := by decide +kernel
theorem dX3_shuffle_75 : decode cX3_shuffle 75 = .ok (.iload 7, 2) := by decide +kernel
theorem dX3_shuffle_77 : decode cX3_shuffle 77 = .ok (.iastore, 1) := by decide +kernel
theorem dX3_shuffle_78 : decode cX3_shuffle 78 = .ok (.iinc 4 (-1), 3) := by decide +kernel
theorem dX3_shuffle_81 : decode cX3_shuffle 81 = .ok (.goto (-74), 3) := by decide +kernel
theorem dX3_shuffle_84 : decode cX3_shuffle 84 = .ok (.iload_n 3, 1) := by decide +kernel
theorem dX3_shuffle_85 : decode cX3_shuffle 85 = .ok (.ireturn, 1) := by decide +kernel

set_option maxHeartbeats 4000000 in
set_option maxRecDepth 100000 in
theorem c_X3_shuffle0 (l : Launch) (E : Ev) {A : Nat → Prop} (ad : Nat → Nat) (hA : Oka 39 ad A) (sc : Nat → Int32) (ar : Nat → Nat → Int32) (bl : Int64) (x : Int32) : Ct l E yX3_shuffle (.code yX3_shuffle cX3_shuffle 8 (some .int)) ({ frames := 0, cells := 0, slots := 0, locals := 0 }) A (cw E ad sc ar bl) [.ref (ad 6), .int (nI 0), .int x] (some (.int x)) (cw E ad sc ar bl) := by
  refine Ct.of (lv := [(0, .ref (ad 6)), (1, .int (nI 0)), (2, .int x)]) (by decide +kernel) (Nat.le_of_ble_eq_true rfl) rfl ?_
  intro zp ze zs zm za zb zh zc hc
  refine g_iload_n (pc := 0) hc 2 dX3_shuffle_0 rfl rfl ?_
  refine g_istore_n (pc := 1) (lv' := [(0, .ref (ad 6)), (1, .int (nI 0)), (2, .int x), (3, .int x)]) hc dX3_shuffle_1 rfl (by decide) rfl ?_
  refine g_iload_n (pc := 2) hc 1 dX3_shuffle_2 rfl rfl ?_
  refine g_iconst (pc := 3) (v := nI 1) hc dX3_shuffle_3 (by decide) ?_
  refine g_isub (pc := 4) hc dX3_shuffle_4 ?_
  refine g_istore (pc := 5) (lv' := [(0, .ref (ad 6)), (1, .int (nI 0)), (2, .int x), (3, .int x), (4, .int ((nI 0) - (nI 1)))]) hc dX3_shuffle_5 (by decide) rfl ?_
  refine g_iload (pc := 7) hc 4 dX3_shuffle_7 rfl ?_
  refine g_if_le_t (pc := 9) hc 84 dX3_shuffle_9 (by decide) (by decide) ?_
  refine g_iload_n (pc := 84) hc 3 dX3_shuffle_84 rfl rfl ?_
  exact g_iret (pc := 85) hc dX3_shuffle_85 (rfl) (rfl)

set_option maxHeartbeats 4000000 in
set_option maxRecDepth 100000 in
theorem c_X3_shuffle1 (l : Launch) (E : Ev) {A : Nat → Prop} (ad : Nat → Nat) (hA : Oka 39 ad A) (sc : Nat → Int32) (ar : Nat → Nat → Int32) (bl : Int64) (n : Nat) (x : Int32) (hk : ∀ a, a < n + 1 → ∃ q, q < 64 ∧ ar 26 a = nI q) (hn : n < 64) : Ct l E yX3_shuffle (.code yX3_shuffle cX3_shuffle 8 (some .int)) ({ frames := 0, cells := 0, slots := 0, locals := 0 }) A (cw E ad sc ar bl) [.ref (ad 6), .int (nI (n + 1)), .int x] (some (.int (shs (ar 26) n x (ar 25) n).1)) (cw E ad sc (va_up ar 25 (shs (ar 26) n x (ar 25) n).2) bl) := by
  refine Ct.of (lv := [(0, .ref (ad 6)), (1, .int (nI (n + 1))), (2, .int x)]) (by decide +kernel) (Nat.le_of_ble_eq_true rfl) rfl ?_
  intro zp ze zs zm za zb zh zc hc
  refine g_iload_n (pc := 0) hc 2 dX3_shuffle_0 rfl rfl ?_
  refine g_istore_n (pc := 1) (lv' := [(0, .ref (ad 6)), (1, .int (nI (n + 1))), (2, .int x), (3, .int x)]) hc dX3_shuffle_1 rfl (by decide) rfl ?_
  refine g_iload_n (pc := 2) hc 1 dX3_shuffle_2 rfl rfl ?_
  refine g_iconst (pc := 3) (v := nI 1) hc dX3_shuffle_3 (by decide) ?_
  refine g_isub (pc := 4) hc dX3_shuffle_4 ?_
  refine g_topi (v := nI n) (by rw [nI1e, nI_pred]) ?_
  refine g_istore (pc := 5) (lv' := [(0, .ref (ad 6)), (1, .int (nI (n + 1))), (2, .int x), (3, .int x), (4, .int (nI n))]) hc dX3_shuffle_5 (by decide) rfl ?_
  have L7_1 : ∀ (kt t : Nat), t + kt = n → G zp l ze ({ frames := 0, cells := 0, slots := 0, locals := 0 }) zs zm za zb zh zc 0 0 (MQ zb (Qz E A (some (.int (shs (ar 26) n x (ar 25) n).1)) (cw E ad sc (va_up ar 25 (shs (ar 26) n x (ar 25) n).2) bl)) za zs 0 0 A) E A 8 (cw E ad sc (va_up ar 25 (shs (ar 26) n x (ar 25) (t)).2) bl) (7) [(0, .ref (ad 6)), (1, .int (nI (n + 1))), (2, .int x), (3, .int (shs (ar 26) n x (ar 25) (t)).1), (4, .int (nI (n - (t))))] [] := by
    intro kt
    induction kt with
    | zero =>
      intro t lht
      have lhtn : n = t := by omega
      subst lhtn
      refine g_iload (pc := 7) hc 4 dX3_shuffle_7 rfl ?_
      refine g_if_le_t (pc := 9) hc 84 dX3_shuffle_9 (by decide) (by rw [Nat.sub_self]; decide) ?_
      refine g_iload_n (pc := 84) hc 3 dX3_shuffle_84 rfl rfl ?_
      exact g_iret (pc := 85) hc dX3_shuffle_85 (rfl) (rfl)
    | succ kt iht =>
      intro t lht
      have lhtn : t < n := by omega
      refine g_iload (pc := 7) hc 4 dX3_shuffle_7 rfl ?_
      refine g_if_le_f (pc := 9) hc 84 dX3_shuffle_9 (by decide) (nI_nle (by omega) (by omega)) ?_
      refine g_iload_n (pc := 12) hc 3 dX3_shuffle_12 rfl rfl ?_
      refine g_ldc (pc := 13) (v := 1103515245) hc tw_645 dX3_shuffle_13 ?_
      refine g_imul (pc := 15) hc dX3_shuffle_15 ?_
      refine g_sipush (pc := 16) (v := nI 12345) hc dX3_shuffle_16 (by decide) ?_
      refine g_iadd (pc := 19) hc dX3_shuffle_19 ?_
      refine g_istore_n (pc := 20) (lv' := [(0, .ref (ad 6)), (1, .int (nI (n + 1))), (2, .int x), (3, .int (((shs (ar 26) n x (ar 25) (t)).1 * 1103515245) + (nI 12345))), (4, .int (nI (n - (t))))]) hc dX3_shuffle_20 rfl (by decide) rfl ?_
      refine g_aload_n (pc := 21) hc 0 dX3_shuffle_21 rfl rfl ?_
      refine gf_c6_walked (pc := 22) hc tw_207 dX3_shuffle_22 ?_
      refine g_iload (pc := 25) hc 4 dX3_shuffle_25 rfl ?_
      refine la_c26 (pc := 27) hc (n - t) (rfl) (by omega) dX3_shuffle_27 ?_
      refine g_topi (v := (ar 26) (n - t)) rfl ?_
      refine g_topi (v := nI ((ar 26 (n - t)).toNatClampNeg)) ((tn_of (hk _ (by omega))).1) ?_
      refine g_istore (pc := 28) (lv' := [(0, .ref (ad 6)), (1, .int (nI (n + 1))), (2, .int x), (3, .int (((shs (ar 26) n x (ar 25) (t)).1 * 1103515245) + (nI 12345))), (4, .int (nI (n - (t)))), (5, .int (nI ((ar 26 (n - t)).toNatClampNeg)))]) hc dX3_shuffle_28 (by decide) rfl ?_
      refine g_aload_n (pc := 30) hc 0 dX3_shuffle_30 rfl rfl ?_
      refine gf_c6_walked (pc := 31) hc tw_207 dX3_shuffle_31 ?_
      refine g_iload_n (pc := 34) hc 3 dX3_shuffle_34 rfl rfl ?_
      refine g_bipush (pc := 35) (v := nI 8) hc dX3_shuffle_35 (by decide) ?_
      refine g_iushr (pc := 37) (v := ((((shs (ar 26) n x (ar 25) (t)).1 * 1103515245) + (nI 12345) : Int32).toUInt32 >>> ((nI 8 : Int32).toUInt32 &&& Int32.toUInt32 31)).toInt32) hc dX3_shuffle_37 rfl ?_
      refine g_topi (v := nI (shX ((shs (ar 26) n x (ar 25) t).1 * 1103515245 + nI 12345))) (sh_u _) ?_
      refine g_iload (pc := 38) hc 4 dX3_shuffle_38 rfl ?_
      refine g_iconst (pc := 40) (v := nI 1) hc dX3_shuffle_40 (by decide) ?_
      refine g_iadd (pc := 41) hc dX3_shuffle_41 ?_
      refine g_topi (v := nI ((n - (t)) + 1)) (nI_add (n - (t)) 1) ?_
      refine g_irem (pc := 42) hc dX3_shuffle_42 (nI_ne0 (by omega) (by omega)) ?_
      refine g_topi (v := nI (shX ((shs (ar 26) n x (ar 25) t).1 * 1103515245 + nI 12345) % (n - t + 1))) (pk_rem (Nat.lt_trans (shX_lt _) (by decide)) (by omega) (by omega)) ?_
      have hmod : shX ((shs (ar 26) n x (ar 25) t).1 * 1103515245 + nI 12345) % (n - t + 1) < n - t + 1 := Nat.mod_lt _ (by omega)
      refine la_c26 (pc := 43) hc (shX ((shs (ar 26) n x (ar 25) t).1 * 1103515245 + nI 12345) % (n - t + 1)) (rfl) (by omega) dX3_shuffle_43 ?_
      refine g_topi (v := (ar 26) (shX ((shs (ar 26) n x (ar 25) t).1 * 1103515245 + nI 12345) % (n - t + 1))) rfl ?_
      refine g_topi (v := nI ((ar 26 (shX ((shs (ar 26) n x (ar 25) t).1 * 1103515245 + nI 12345) % (n - t + 1))).toNatClampNeg)) ((tn_of (hk _ (by omega))).1) ?_
      refine g_istore (pc := 44) (lv' := [(0, .ref (ad 6)), (1, .int (nI (n + 1))), (2, .int x), (3, .int (((shs (ar 26) n x (ar 25) (t)).1 * 1103515245) + (nI 12345))), (4, .int (nI (n - (t)))), (5, .int (nI ((ar 26 (n - t)).toNatClampNeg))), (6, .int (nI ((ar 26 (shX ((shs (ar 26) n x (ar 25) t).1 * 1103515245 + nI 12345) % (n - t + 1))).toNatClampNeg)))]) hc dX3_shuffle_44 (by decide) rfl ?_
      refine g_aload_n (pc := 46) hc 0 dX3_shuffle_46 rfl rfl ?_
      refine gf_c6_worths (pc := 47) hc tw_206 dX3_shuffle_47 ?_
      refine g_iload (pc := 50) hc 5 dX3_shuffle_50 rfl ?_
      refine la_c25 (pc := 52) hc ((ar 26 (n - t)).toNatClampNeg) (rfl) ((tn_of (hk _ (by omega))).2) dX3_shuffle_52 ?_
      refine g_topi (v := (shs (ar 26) n x (ar 25) (t)).2 (ar 26 (n - t)).toNatClampNeg) rfl ?_
      refine g_istore (pc := 53) (lv' := [(0, .ref (ad 6)), (1, .int (nI (n + 1))), (2, .int x), (3, .int (((shs (ar 26) n x (ar 25) (t)).1 * 1103515245) + (nI 12345))), (4, .int (nI (n - (t)))), (5, .int (nI ((ar 26 (n - t)).toNatClampNeg))), (6, .int (nI ((ar 26 (shX ((shs (ar 26) n x (ar 25) t).1 * 1103515245 + nI 12345) % (n - t + 1))).toNatClampNeg))), (7, .int ((shs (ar 26) n x (ar 25) (t)).2 (ar 26 (n - t)).toNatClampNeg))]) hc dX3_shuffle_53 (by decide) rfl ?_
      refine g_aload_n (pc := 55) hc 0 dX3_shuffle_55 rfl rfl ?_
      refine gf_c6_worths (pc := 56) hc tw_206 dX3_shuffle_56 ?_
      refine g_iload (pc := 59) hc 5 dX3_shuffle_59 rfl ?_
      refine g_aload_n (pc := 61) hc 0 dX3_shuffle_61 rfl rfl ?_
      refine gf_c6_worths (pc := 62) hc tw_206 dX3_shuffle_62 ?_
      refine g_iload (pc := 65) hc 6 dX3_shuffle_65 rfl ?_
      refine la_c25 (pc := 67) hc ((ar 26 (shX ((shs (ar 26) n x (ar 25) t).1 * 1103515245 + nI 12345) % (n - t + 1))).toNatClampNeg) (rfl) ((tn_of (hk _ (by omega))).2) dX3_shuffle_67 ?_
      refine g_topi (v := (shs (ar 26) n x (ar 25) (t)).2 (ar 26 (shX ((shs (ar 26) n x (ar 25) t).1 * 1103515245 + nI 12345) % (n - t + 1))).toNatClampNeg) rfl ?_
      refine sa_c25 (pc := 68) hc hA ((ar 26 (n - t)).toNatClampNeg) (rfl) ((tn_of (hk _ (by omega))).2) dX3_shuffle_68 ?_
      refine g_eq (ws' := cw E ad sc (va_up ar 25 (upd (shs (ar 26) n x (ar 25) (t)).2 (ar 26 (n - t)).toNatClampNeg ((shs (ar 26) n x (ar 25) (t)).2 (ar 26 (shX ((shs (ar 26) n x (ar 25) t).1 * 1103515245 + nI 12345) % (n - t + 1))).toNatClampNeg))) bl) (lv' := [(0, .ref (ad 6)), (1, .int (nI (n + 1))), (2, .int x), (3, .int (((shs (ar 26) n x (ar 25) (t)).1 * 1103515245) + (nI 12345))), (4, .int (nI (n - (t)))), (5, .int (nI ((ar 26 (n - t)).toNatClampNeg))), (6, .int (nI ((ar 26 (shX ((shs (ar 26) n x (ar 25) t).1 * 1103515245 + nI 12345) % (n - t + 1))).toNatClampNeg))), (7, .int ((shs (ar 26) n x (ar 25) (t)).2 (ar 26 (n - t)).toNatClampNeg))]) rfl rfl rfl ?_
      refine g_aload_n (pc := 69) hc 0 dX3_shuffle_69 rfl rfl ?_
      refine gf_c6_worths (pc := 70) hc tw_206 dX3_shuffle_70 ?_
      refine g_iload (pc := 73) hc 6 dX3_shuffle_73 rfl ?_
      refine g_iload (pc := 75) hc 7 dX3_shuffle_75 rfl ?_
      refine sa_c25 (pc := 77) hc hA ((ar 26 (shX ((shs (ar 26) n x (ar 25) t).1 * 1103515245 + nI 12345) % (n - t + 1))).toNatClampNeg) (rfl) ((tn_of (hk _ (by omega))).2) dX3_shuffle_77 ?_
      refine g_eq (ws' := cw E ad sc (va_up ar 25 (upd (upd (shs (ar 26) n x (ar 25) (t)).2 (ar 26 (n - t)).toNatClampNeg ((shs (ar 26) n x (ar 25) (t)).2 (ar 26 (shX ((shs (ar 26) n x (ar 25) t).1 * 1103515245 + nI 12345) % (n - t + 1))).toNatClampNeg)) (ar 26 (shX ((shs (ar 26) n x (ar 25) t).1 * 1103515245 + nI 12345) % (n - t + 1))).toNatClampNeg ((shs (ar 26) n x (ar 25) (t)).2 (ar 26 (n - t)).toNatClampNeg))) bl) (lv' := [(0, .ref (ad 6)), (1, .int (nI (n + 1))), (2, .int x), (3, .int (((shs (ar 26) n x (ar 25) (t)).1 * 1103515245) + (nI 12345))), (4, .int (nI (n - (t)))), (5, .int (nI ((ar 26 (n - t)).toNatClampNeg))), (6, .int (nI ((ar 26 (shX ((shs (ar 26) n x (ar 25) t).1 * 1103515245 + nI 12345) % (n - t + 1))).toNatClampNeg))), (7, .int ((shs (ar 26) n x (ar 25) (t)).2 (ar 26 (n - t)).toNatClampNeg))]) rfl rfl rfl ?_
      refine g_iinc (pc := 78) (v := nI (n - (t) - 1)) (lv' := [(0, .ref (ad 6)), (1, .int (nI (n + 1))), (2, .int x), (3, .int (((shs (ar 26) n x (ar 25) (t)).1 * 1103515245) + (nI 12345))), (4, .int (nI (n - (t) - 1))), (5, .int (nI ((ar 26 (n - t)).toNatClampNeg))), (6, .int (nI ((ar 26 (shX ((shs (ar 26) n x (ar 25) t).1 * 1103515245 + nI 12345) % (n - t + 1))).toNatClampNeg))), (7, .int ((shs (ar 26) n x (ar 25) (t)).2 (ar 26 (n - t)).toNatClampNeg))]) hc 4 dX3_shuffle_78 rfl (nI_di (by omega)) (by decide) rfl ?_
      refine g_goto (pc := 81) hc 7 dX3_shuffle_81 (by decide) ?_
      refine g_lv [0, 1, 2, 3, 4] (lv' := [(0, .ref (ad 6)), (1, .int (nI (n + 1))), (2, .int x), (3, .int (((shs (ar 26) n x (ar 25) (t)).1 * 1103515245) + (nI 12345))), (4, .int (nI (n - (t) - 1)))]) rfl ?_
      exact g_eq (ws' := cw E ad sc (va_up ar 25 (shs (ar 26) n x (ar 25) (t + 1)).2) bl) (lv' := [(0, .ref (ad 6)), (1, .int (nI (n + 1))), (2, .int x), (3, .int (shs (ar 26) n x (ar 25) (t + 1)).1), (4, .int (nI (n - (t + 1))))]) (rfl) (rfl) rfl (iht (t + 1) (by omega))
  exact g_eq (ws' := cw E ad sc (va_up ar 25 (shs (ar 26) n x (ar 25) (0)).2) bl) (lv' := [(0, .ref (ad 6)), (1, .int (nI (n + 1))), (2, .int x), (3, .int (shs (ar 26) n x (ar 25) (0)).1), (4, .int (nI (n - (0))))]) (rfl) (rfl) rfl (L7_1 (n - 0) (0) (by omega))

set_option maxHeartbeats 4000000 in
theorem c_shuf (l : Launch) (E : Ev) {A : Nat → Prop} (ad : Nat → Nat) (hA : Oka 39 ad A) (sc : Nat → Int32) (ar : Nat → Nat → Int32) (bl : Int64) (n : Nat) (x : Int32) (hk : ∀ a, a < n → ∃ q, q < 64 ∧ ar 26 a = nI q) (hn : n ≤ 64) : Ct l E yX3_shuffle (.code yX3_shuffle cX3_shuffle 8 (some .int)) ({ frames := 0, cells := 0, slots := 0, locals := 0 }) A (cw E ad sc ar bl) [.ref (ad 6), .int (nI n), .int x] (some (.int (shf (ar 26) n x (ar 25)).1)) (cw E ad sc (va_up ar 25 (shf (ar 26) n x (ar 25)).2) bl) := by
  cases n with
  | zero => exact c_X3_shuffle0 l E ad hA sc ar bl x
  | succ n => exact c_X3_shuffle1 l E ad hA sc ar bl n x hk (by omega)
end
