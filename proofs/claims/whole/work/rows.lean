section
-- ===== PART A: goes FIRST, ahead of the names: the tables' words, and 'selects' of the private methods out of them =====
/-- a private method of a class that the tables say can be made, by its rows of tables_1 -/
def lw_okq (q : MethodName × Nat) : Prop := (q.1.cls ≠ "java/lang/invoke/MethodHandle" ∧ q.1.cls ≠ "java/lang/invoke/VarHandle") ∧ Cond.instantiable q.1.cls q.2 ∈ tables_1 ∧ Cond.privateMethod q.1 ∈ tables_1 ∧ Cond.instanceMethod q.1 ∈ tables_1
theorem lw_p0 : lw_okq (⟨"java/lang/Throwable", "fillInStackTrace", "(I)Ljava/lang/Throwable;"⟩, 6) := ⟨⟨by decide +kernel, by decide +kernel⟩, List.mem_of_getElem? (i := 558) (by decide +kernel), List.mem_of_getElem? (i := 556) (by decide +kernel), List.mem_of_getElem? (i := 557) (by decide +kernel)⟩
theorem lw_p1 : lw_okq (⟨"Patchferry", "comesBackLabelled", "(LPatchferry$Row;)Z"⟩, 19) := ⟨⟨by decide +kernel, by decide +kernel⟩, List.mem_of_getElem? (i := 46) (by decide +kernel), List.mem_of_getElem? (i := 925) (by decide +kernel), List.mem_of_getElem? (i := 926) (by decide +kernel)⟩
theorem lw_p2 : lw_okq (⟨"Patchferry", "writeLabelled", "(LPatchferry$Row;LPatchferry$Row;)Z"⟩, 19) := ⟨⟨by decide +kernel, by decide +kernel⟩, List.mem_of_getElem? (i := 46) (by decide +kernel), List.mem_of_getElem? (i := 929) (by decide +kernel), List.mem_of_getElem? (i := 930) (by decide +kernel)⟩
theorem lw_p3 : lw_okq (⟨"Patchferry", "comesBackPacked", "(LPatchferry$Row;)Z"⟩, 19) := ⟨⟨by decide +kernel, by decide +kernel⟩, List.mem_of_getElem? (i := 46) (by decide +kernel), List.mem_of_getElem? (i := 968) (by decide +kernel), List.mem_of_getElem? (i := 969) (by decide +kernel)⟩
theorem lw_p4 : lw_okq (⟨"Patchferry$Runs", "foldPart", "(IIZLPatchferry$Row;)V"⟩, 2) := ⟨⟨by decide +kernel, by decide +kernel⟩, List.mem_of_getElem? (i := 133) (by decide +kernel), List.mem_of_getElem? (i := 1010) (by decide +kernel), List.mem_of_getElem? (i := 1011) (by decide +kernel)⟩
theorem lw_p5 : lw_okq (⟨"Patchferry", "versionsStand", "()Z"⟩, 19) := ⟨⟨by decide +kernel, by decide +kernel⟩, List.mem_of_getElem? (i := 46) (by decide +kernel), List.mem_of_getElem? (i := 1026) (by decide +kernel), List.mem_of_getElem? (i := 1027) (by decide +kernel)⟩
theorem lw_p6 : lw_okq (⟨"Patchferry$Patch", "restart", "(LPatchferry$Row;)V"⟩, 4) := ⟨⟨by decide +kernel, by decide +kernel⟩, List.mem_of_getElem? (i := 190) (by decide +kernel), List.mem_of_getElem? (i := 1044) (by decide +kernel), List.mem_of_getElem? (i := 1045) (by decide +kernel)⟩
theorem lw_p7 : lw_okq (⟨"Patchferry$Patch", "addOperation", "(II)V"⟩, 4) := ⟨⟨by decide +kernel, by decide +kernel⟩, List.mem_of_getElem? (i := 190) (by decide +kernel), List.mem_of_getElem? (i := 1090) (by decide +kernel), List.mem_of_getElem? (i := 1091) (by decide +kernel)⟩
theorem lw_p8 : lw_okq (⟨"Patchferry$Store", "cutOf", "(I)LPatchferry$Row;"⟩, 14) := ⟨⟨by decide +kernel, by decide +kernel⟩, List.mem_of_getElem? (i := 232) (by decide +kernel), List.mem_of_getElem? (i := 1125) (by decide +kernel), List.mem_of_getElem? (i := 1126) (by decide +kernel)⟩
theorem lw_p9 : lw_okq (⟨"Patchferry$Store", "countPieces", "(LPatchferry$Row;)V"⟩, 14) := ⟨⟨by decide +kernel, by decide +kernel⟩, List.mem_of_getElem? (i := 232) (by decide +kernel), List.mem_of_getElem? (i := 1130) (by decide +kernel), List.mem_of_getElem? (i := 1131) (by decide +kernel)⟩
theorem lw_p10 : lw_okq (⟨"Patchferry", "diskStands", "()Z"⟩, 19) := ⟨⟨by decide +kernel, by decide +kernel⟩, List.mem_of_getElem? (i := 46) (by decide +kernel), List.mem_of_getElem? (i := 1134) (by decide +kernel), List.mem_of_getElem? (i := 1135) (by decide +kernel)⟩
theorem lw_p11 : lw_okq (⟨"Patchferry", "needByte", "(I)V"⟩, 19) := ⟨⟨by decide +kernel, by decide +kernel⟩, List.mem_of_getElem? (i := 46) (by decide +kernel), List.mem_of_getElem? (i := 1160) (by decide +kernel), List.mem_of_getElem? (i := 1161) (by decide +kernel)⟩
theorem lw_p12 : lw_okq (⟨"Patchferry", "needBuffer", "(I)V"⟩, 19) := ⟨⟨by decide +kernel, by decide +kernel⟩, List.mem_of_getElem? (i := 46) (by decide +kernel), List.mem_of_getElem? (i := 1167) (by decide +kernel), List.mem_of_getElem? (i := 1168) (by decide +kernel)⟩
theorem lw_p13 : lw_okq (⟨"Patchferry", "needMany", "(I)V"⟩, 19) := ⟨⟨by decide +kernel, by decide +kernel⟩, List.mem_of_getElem? (i := 46) (by decide +kernel), List.mem_of_getElem? (i := 1195) (by decide +kernel), List.mem_of_getElem? (i := 1196) (by decide +kernel)⟩
theorem lw_p14 : lw_okq (⟨"Patchferry", "held", "(I)LPatchferry$Row;"⟩, 19) := ⟨⟨by decide +kernel, by decide +kernel⟩, List.mem_of_getElem? (i := 46) (by decide +kernel), List.mem_of_getElem? (i := 1208) (by decide +kernel), List.mem_of_getElem? (i := 1209) (by decide +kernel)⟩
theorem lw_p15 : lw_okq (⟨"Patchferry", "keep", "(LPatchferry$Row;)I"⟩, 19) := ⟨⟨by decide +kernel, by decide +kernel⟩, List.mem_of_getElem? (i := 46) (by decide +kernel), List.mem_of_getElem? (i := 1234) (by decide +kernel), List.mem_of_getElem? (i := 1235) (by decide +kernel)⟩
def lw_privs_1 : List (MethodName × Nat) := [(⟨"java/lang/Throwable", "fillInStackTrace", "(I)Ljava/lang/Throwable;"⟩, 6), (⟨"Patchferry", "comesBackLabelled", "(LPatchferry$Row;)Z"⟩, 19), (⟨"Patchferry", "writeLabelled", "(LPatchferry$Row;LPatchferry$Row;)Z"⟩, 19), (⟨"Patchferry", "comesBackPacked", "(LPatchferry$Row;)Z"⟩, 19), (⟨"Patchferry$Runs", "foldPart", "(IIZLPatchferry$Row;)V"⟩, 2), (⟨"Patchferry", "versionsStand", "()Z"⟩, 19), (⟨"Patchferry$Patch", "restart", "(LPatchferry$Row;)V"⟩, 4), (⟨"Patchferry$Patch", "addOperation", "(II)V"⟩, 4), (⟨"Patchferry$Store", "cutOf", "(I)LPatchferry$Row;"⟩, 14), (⟨"Patchferry$Store", "countPieces", "(LPatchferry$Row;)V"⟩, 14), (⟨"Patchferry", "diskStands", "()Z"⟩, 19), (⟨"Patchferry", "needByte", "(I)V"⟩, 19), (⟨"Patchferry", "needBuffer", "(I)V"⟩, 19), (⟨"Patchferry", "needMany", "(I)V"⟩, 19), (⟨"Patchferry", "held", "(I)LPatchferry$Row;"⟩, 19), (⟨"Patchferry", "keep", "(LPatchferry$Row;)I"⟩, 19)]
theorem lw_r1 : ∀ q ∈ lw_privs_1, lw_okq q := List.forall_mem_cons.mpr ⟨lw_p0, List.forall_mem_cons.mpr ⟨lw_p1, List.forall_mem_cons.mpr ⟨lw_p2, List.forall_mem_cons.mpr ⟨lw_p3, List.forall_mem_cons.mpr ⟨lw_p4, List.forall_mem_cons.mpr ⟨lw_p5, List.forall_mem_cons.mpr ⟨lw_p6, List.forall_mem_cons.mpr ⟨lw_p7, List.forall_mem_cons.mpr ⟨lw_p8, List.forall_mem_cons.mpr ⟨lw_p9, List.forall_mem_cons.mpr ⟨lw_p10, List.forall_mem_cons.mpr ⟨lw_p11, List.forall_mem_cons.mpr ⟨lw_p12, List.forall_mem_cons.mpr ⟨lw_p13, List.forall_mem_cons.mpr ⟨lw_p14, List.forall_mem_cons.mpr ⟨lw_p15, fun _ h => absurd h List.not_mem_nil⟩⟩⟩⟩⟩⟩⟩⟩⟩⟩⟩⟩⟩⟩⟩⟩
theorem lw_p16 : lw_okq (⟨"Patchferry", "needFileRoom", "(I)V"⟩, 19) := ⟨⟨by decide +kernel, by decide +kernel⟩, List.mem_of_getElem? (i := 46) (by decide +kernel), List.mem_of_getElem? (i := 1238) (by decide +kernel), List.mem_of_getElem? (i := 1239) (by decide +kernel)⟩
theorem lw_p17 : lw_okq (⟨"java/util/ArrayList", "add", "(Ljava/lang/Object;[Ljava/lang/Object;I)V"⟩, 3) := ⟨⟨by decide +kernel, by decide +kernel⟩, List.mem_of_getElem? (i := 54) (by decide +kernel), List.mem_of_getElem? (i := 1259) (by decide +kernel), List.mem_of_getElem? (i := 1260) (by decide +kernel)⟩
theorem lw_p18 : lw_okq (⟨"java/util/ArrayList", "grow", "()[Ljava/lang/Object;"⟩, 3) := ⟨⟨by decide +kernel, by decide +kernel⟩, List.mem_of_getElem? (i := 54) (by decide +kernel), List.mem_of_getElem? (i := 1263) (by decide +kernel), List.mem_of_getElem? (i := 1264) (by decide +kernel)⟩
theorem lw_p19 : lw_okq (⟨"java/util/ArrayList", "grow", "(I)[Ljava/lang/Object;"⟩, 3) := ⟨⟨by decide +kernel, by decide +kernel⟩, List.mem_of_getElem? (i := 54) (by decide +kernel), List.mem_of_getElem? (i := 1267) (by decide +kernel), List.mem_of_getElem? (i := 1268) (by decide +kernel)⟩
theorem lw_p20 : lw_okq (⟨"Patchferry$Store", "isCut", "(LPatchferry$Row;II)Z"⟩, 14) := ⟨⟨by decide +kernel, by decide +kernel⟩, List.mem_of_getElem? (i := 232) (by decide +kernel), List.mem_of_getElem? (i := 1322) (by decide +kernel), List.mem_of_getElem? (i := 1323) (by decide +kernel)⟩
theorem lw_p21 : lw_okq (⟨"Patchferry$Store", "numberOf", "(LPatchferry$Row;III)I"⟩, 14) := ⟨⟨by decide +kernel, by decide +kernel⟩, List.mem_of_getElem? (i := 232) (by decide +kernel), List.mem_of_getElem? (i := 1326) (by decide +kernel), List.mem_of_getElem? (i := 1327) (by decide +kernel)⟩
theorem lw_p22 : lw_okq (⟨"Patchferry$Store", "textOf", "(I)LPatchferry$Row;"⟩, 14) := ⟨⟨by decide +kernel, by decide +kernel⟩, List.mem_of_getElem? (i := 232) (by decide +kernel), List.mem_of_getElem? (i := 1335) (by decide +kernel), List.mem_of_getElem? (i := 1336) (by decide +kernel)⟩
theorem lw_p23 : lw_okq (⟨"Patchferry", "needIndex", "(II)V"⟩, 19) := ⟨⟨by decide +kernel, by decide +kernel⟩, List.mem_of_getElem? (i := 46) (by decide +kernel), List.mem_of_getElem? (i := 1355) (by decide +kernel), List.mem_of_getElem? (i := 1356) (by decide +kernel)⟩
theorem lw_p24 : lw_okq (⟨"Patchferry", "rankEnds", "(LPatchferry$Row;LPatchferry$Row;)V"⟩, 19) := ⟨⟨by decide +kernel, by decide +kernel⟩, List.mem_of_getElem? (i := 46) (by decide +kernel), List.mem_of_getElem? (i := 1404) (by decide +kernel), List.mem_of_getElem? (i := 1405) (by decide +kernel)⟩
theorem lw_p25 : lw_okq (⟨"Patchferry", "seekMatch", "(III)V"⟩, 19) := ⟨⟨by decide +kernel, by decide +kernel⟩, List.mem_of_getElem? (i := 46) (by decide +kernel), List.mem_of_getElem? (i := 1416) (by decide +kernel), List.mem_of_getElem? (i := 1417) (by decide +kernel)⟩
theorem lw_p26 : lw_okq (⟨"Patchferry", "needPatchRoom", "()V"⟩, 19) := ⟨⟨by decide +kernel, by decide +kernel⟩, List.mem_of_getElem? (i := 46) (by decide +kernel), List.mem_of_getElem? (i := 1461) (by decide +kernel), List.mem_of_getElem? (i := 1462) (by decide +kernel)⟩
theorem lw_p27 : lw_okq (⟨"Patchferry", "keepPatch", "(LPatchferry$Patch;)I"⟩, 19) := ⟨⟨by decide +kernel, by decide +kernel⟩, List.mem_of_getElem? (i := 46) (by decide +kernel), List.mem_of_getElem? (i := 1466) (by decide +kernel), List.mem_of_getElem? (i := 1467) (by decide +kernel)⟩
theorem lw_p28 : lw_okq (⟨"Patchferry", "known", "(I)LPatchferry$Patch;"⟩, 19) := ⟨⟨by decide +kernel, by decide +kernel⟩, List.mem_of_getElem? (i := 46) (by decide +kernel), List.mem_of_getElem? (i := 1477) (by decide +kernel), List.mem_of_getElem? (i := 1478) (by decide +kernel)⟩
theorem lw_p29 : lw_okq (⟨"Patchferry$Patch", "changedIn", "(II)I"⟩, 4) := ⟨⟨by decide +kernel, by decide +kernel⟩, List.mem_of_getElem? (i := 190) (by decide +kernel), List.mem_of_getElem? (i := 1518) (by decide +kernel), List.mem_of_getElem? (i := 1519) (by decide +kernel)⟩
theorem lw_p30 : lw_okq (⟨"Patchferry$Patch", "joinCopy", "(LPatchferry$Patch;LPatchferry$Patch;III)V"⟩, 4) := ⟨⟨by decide +kernel, by decide +kernel⟩, List.mem_of_getElem? (i := 190) (by decide +kernel), List.mem_of_getElem? (i := 1582) (by decide +kernel), List.mem_of_getElem? (i := 1583) (by decide +kernel)⟩
theorem lw_p31 : lw_okq (⟨"Patchferry$Edits", "closeGap", "(III)V"⟩, 4) := ⟨⟨by decide +kernel, by decide +kernel⟩, List.mem_of_getElem? (i := 211) (by decide +kernel), List.mem_of_getElem? (i := 1606) (by decide +kernel), List.mem_of_getElem? (i := 1607) (by decide +kernel)⟩
def lw_privs_2 : List (MethodName × Nat) := [(⟨"Patchferry", "needFileRoom", "(I)V"⟩, 19), (⟨"java/util/ArrayList", "add", "(Ljava/lang/Object;[Ljava/lang/Object;I)V"⟩, 3), (⟨"java/util/ArrayList", "grow", "()[Ljava/lang/Object;"⟩, 3), (⟨"java/util/ArrayList", "grow", "(I)[Ljava/lang/Object;"⟩, 3), (⟨"Patchferry$Store", "isCut", "(LPatchferry$Row;II)Z"⟩, 14), (⟨"Patchferry$Store", "numberOf", "(LPatchferry$Row;III)I"⟩, 14), (⟨"Patchferry$Store", "textOf", "(I)LPatchferry$Row;"⟩, 14), (⟨"Patchferry", "needIndex", "(II)V"⟩, 19), (⟨"Patchferry", "rankEnds", "(LPatchferry$Row;LPatchferry$Row;)V"⟩, 19), (⟨"Patchferry", "seekMatch", "(III)V"⟩, 19), (⟨"Patchferry", "needPatchRoom", "()V"⟩, 19), (⟨"Patchferry", "keepPatch", "(LPatchferry$Patch;)I"⟩, 19), (⟨"Patchferry", "known", "(I)LPatchferry$Patch;"⟩, 19), (⟨"Patchferry$Patch", "changedIn", "(II)I"⟩, 4), (⟨"Patchferry$Patch", "joinCopy", "(LPatchferry$Patch;LPatchferry$Patch;III)V"⟩, 4), (⟨"Patchferry$Edits", "closeGap", "(III)V"⟩, 4)]
theorem lw_r2 : ∀ q ∈ lw_privs_2, lw_okq q := List.forall_mem_cons.mpr ⟨lw_p16, List.forall_mem_cons.mpr ⟨lw_p17, List.forall_mem_cons.mpr ⟨lw_p18, List.forall_mem_cons.mpr ⟨lw_p19, List.forall_mem_cons.mpr ⟨lw_p20, List.forall_mem_cons.mpr ⟨lw_p21, List.forall_mem_cons.mpr ⟨lw_p22, List.forall_mem_cons.mpr ⟨lw_p23, List.forall_mem_cons.mpr ⟨lw_p24, List.forall_mem_cons.mpr ⟨lw_p25, List.forall_mem_cons.mpr ⟨lw_p26, List.forall_mem_cons.mpr ⟨lw_p27, List.forall_mem_cons.mpr ⟨lw_p28, List.forall_mem_cons.mpr ⟨lw_p29, List.forall_mem_cons.mpr ⟨lw_p30, List.forall_mem_cons.mpr ⟨lw_p31, fun _ h => absurd h List.not_mem_nil⟩⟩⟩⟩⟩⟩⟩⟩⟩⟩⟩⟩⟩⟩⟩⟩
theorem lw_p32 : lw_okq (⟨"Patchferry$Edits", "enter", "(III)V"⟩, 4) := ⟨⟨by decide +kernel, by decide +kernel⟩, List.mem_of_getElem? (i := 211) (by decide +kernel), List.mem_of_getElem? (i := 1611) (by decide +kernel), List.mem_of_getElem? (i := 1612) (by decide +kernel)⟩
theorem lw_p33 : lw_okq (⟨"Patchferry$Edits", "readChanged", "(LPatchferry$Patch;III)V"⟩, 4) := ⟨⟨by decide +kernel, by decide +kernel⟩, List.mem_of_getElem? (i := 211) (by decide +kernel), List.mem_of_getElem? (i := 1615) (by decide +kernel), List.mem_of_getElem? (i := 1616) (by decide +kernel)⟩
theorem lw_p34 : lw_okq (⟨"Patchferry$Edits", "isLike", "(ILPatchferry$Edits;I)Z"⟩, 4) := ⟨⟨by decide +kernel, by decide +kernel⟩, List.mem_of_getElem? (i := 211) (by decide +kernel), List.mem_of_getElem? (i := 1628) (by decide +kernel), List.mem_of_getElem? (i := 1629) (by decide +kernel)⟩
theorem lw_p35 : lw_okq (⟨"Patchferry$Edits", "valuesEnd", "(I)I"⟩, 4) := ⟨⟨by decide +kernel, by decide +kernel⟩, List.mem_of_getElem? (i := 211) (by decide +kernel), List.mem_of_getElem? (i := 1632) (by decide +kernel), List.mem_of_getElem? (i := 1633) (by decide +kernel)⟩
theorem lw_p36 : lw_okq (⟨"Patchferry$Edits", "writeEdit", "(ILPatchferry$Row;ILPatchferry$Row;)I"⟩, 4) := ⟨⟨by decide +kernel, by decide +kernel⟩, List.mem_of_getElem? (i := 211) (by decide +kernel), List.mem_of_getElem? (i := 1642) (by decide +kernel), List.mem_of_getElem? (i := 1643) (by decide +kernel)⟩
theorem lw_p37 : lw_okq (⟨"Patchferry$Edits", "writePart", "(LPatchferry$Row;IILPatchferry$Row;)V"⟩, 4) := ⟨⟨by decide +kernel, by decide +kernel⟩, List.mem_of_getElem? (i := 211) (by decide +kernel), List.mem_of_getElem? (i := 1646) (by decide +kernel), List.mem_of_getElem? (i := 1647) (by decide +kernel)⟩
theorem lw_p38 : lw_okq (⟨"Patchferry", "needFile", "(I)V"⟩, 19) := ⟨⟨by decide +kernel, by decide +kernel⟩, List.mem_of_getElem? (i := 46) (by decide +kernel), List.mem_of_getElem? (i := 1665) (by decide +kernel), List.mem_of_getElem? (i := 1666) (by decide +kernel)⟩
theorem lw_p39 : lw_okq (⟨"Patchferry$Store", "forgetPieces", "(LPatchferry$Row;)V"⟩, 14) := ⟨⟨by decide +kernel, by decide +kernel⟩, List.mem_of_getElem? (i := 232) (by decide +kernel), List.mem_of_getElem? (i := 1720) (by decide +kernel), List.mem_of_getElem? (i := 1721) (by decide +kernel)⟩
theorem lw_p40 : lw_okq (⟨"Patchferry$Store", "fillGrid", "()V"⟩, 14) := ⟨⟨by decide +kernel, by decide +kernel⟩, List.mem_of_getElem? (i := 232) (by decide +kernel), List.mem_of_getElem? (i := 1747) (by decide +kernel), List.mem_of_getElem? (i := 1748) (by decide +kernel)⟩
theorem lw_p41 : lw_okq (⟨"Patchferry$Store", "bestPair", "()I"⟩, 14) := ⟨⟨by decide +kernel, by decide +kernel⟩, List.mem_of_getElem? (i := 232) (by decide +kernel), List.mem_of_getElem? (i := 1752) (by decide +kernel), List.mem_of_getElem? (i := 1753) (by decide +kernel)⟩
theorem lw_p42 : lw_okq (⟨"Patchferry$Store", "takePair", "(II)V"⟩, 14) := ⟨⟨by decide +kernel, by decide +kernel⟩, List.mem_of_getElem? (i := 232) (by decide +kernel), List.mem_of_getElem? (i := 1756) (by decide +kernel), List.mem_of_getElem? (i := 1757) (by decide +kernel)⟩
theorem lw_p43 : lw_okq (⟨"Patchferry", "scanBlocks", "(III)V"⟩, 19) := ⟨⟨by decide +kernel, by decide +kernel⟩, List.mem_of_getElem? (i := 46) (by decide +kernel), List.mem_of_getElem? (i := 1768) (by decide +kernel), List.mem_of_getElem? (i := 1769) (by decide +kernel)⟩
theorem lw_p44 : lw_okq (⟨"Patchferry$Blocks", "isBlock", "(LPatchferry$Row;II)Z"⟩, 5) := ⟨⟨by decide +kernel, by decide +kernel⟩, List.mem_of_getElem? (i := 285) (by decide +kernel), List.mem_of_getElem? (i := 1786) (by decide +kernel), List.mem_of_getElem? (i := 1787) (by decide +kernel)⟩
theorem lw_p45 : lw_okq (⟨"Patchferry", "findMode", "(LPatchferry$Row;)I"⟩, 19) := ⟨⟨by decide +kernel, by decide +kernel⟩, List.mem_of_getElem? (i := 46) (by decide +kernel), List.mem_of_getElem? (i := 1880) (by decide +kernel), List.mem_of_getElem? (i := 1881) (by decide +kernel)⟩
theorem lw_p46 : lw_okq (⟨"Patchferry$Disk", "findBegins", "()V"⟩, 12) := ⟨⟨by decide +kernel, by decide +kernel⟩, List.mem_of_getElem? (i := 326) (by decide +kernel), List.mem_of_getElem? (i := 1934) (by decide +kernel), List.mem_of_getElem? (i := 1935) (by decide +kernel)⟩
theorem lw_p47 : lw_okq (⟨"Patchferry$Disk", "findNeeds", "()V"⟩, 12) := ⟨⟨by decide +kernel, by decide +kernel⟩, List.mem_of_getElem? (i := 326) (by decide +kernel), List.mem_of_getElem? (i := 1941) (by decide +kernel), List.mem_of_getElem? (i := 1942) (by decide +kernel)⟩
def lw_privs_3 : List (MethodName × Nat) := [(⟨"Patchferry$Edits", "enter", "(III)V"⟩, 4), (⟨"Patchferry$Edits", "readChanged", "(LPatchferry$Patch;III)V"⟩, 4), (⟨"Patchferry$Edits", "isLike", "(ILPatchferry$Edits;I)Z"⟩, 4), (⟨"Patchferry$Edits", "valuesEnd", "(I)I"⟩, 4), (⟨"Patchferry$Edits", "writeEdit", "(ILPatchferry$Row;ILPatchferry$Row;)I"⟩, 4), (⟨"Patchferry$Edits", "writePart", "(LPatchferry$Row;IILPatchferry$Row;)V"⟩, 4), (⟨"Patchferry", "needFile", "(I)V"⟩, 19), (⟨"Patchferry$Store", "forgetPieces", "(LPatchferry$Row;)V"⟩, 14), (⟨"Patchferry$Store", "fillGrid", "()V"⟩, 14), (⟨"Patchferry$Store", "bestPair", "()I"⟩, 14), (⟨"Patchferry$Store", "takePair", "(II)V"⟩, 14), (⟨"Patchferry", "scanBlocks", "(III)V"⟩, 19), (⟨"Patchferry$Blocks", "isBlock", "(LPatchferry$Row;II)Z"⟩, 5), (⟨"Patchferry", "findMode", "(LPatchferry$Row;)I"⟩, 19), (⟨"Patchferry$Disk", "findBegins", "()V"⟩, 12), (⟨"Patchferry$Disk", "findNeeds", "()V"⟩, 12)]
theorem lw_r3 : ∀ q ∈ lw_privs_3, lw_okq q := List.forall_mem_cons.mpr ⟨lw_p32, List.forall_mem_cons.mpr ⟨lw_p33, List.forall_mem_cons.mpr ⟨lw_p34, List.forall_mem_cons.mpr ⟨lw_p35, List.forall_mem_cons.mpr ⟨lw_p36, List.forall_mem_cons.mpr ⟨lw_p37, List.forall_mem_cons.mpr ⟨lw_p38, List.forall_mem_cons.mpr ⟨lw_p39, List.forall_mem_cons.mpr ⟨lw_p40, List.forall_mem_cons.mpr ⟨lw_p41, List.forall_mem_cons.mpr ⟨lw_p42, List.forall_mem_cons.mpr ⟨lw_p43, List.forall_mem_cons.mpr ⟨lw_p44, List.forall_mem_cons.mpr ⟨lw_p45, List.forall_mem_cons.mpr ⟨lw_p46, List.forall_mem_cons.mpr ⟨lw_p47, fun _ h => absurd h List.not_mem_nil⟩⟩⟩⟩⟩⟩⟩⟩⟩⟩⟩⟩⟩⟩⟩⟩
theorem lw_p48 : lw_okq (⟨"Patchferry$Disk", "choose", "()V"⟩, 12) := ⟨⟨by decide +kernel, by decide +kernel⟩, List.mem_of_getElem? (i := 326) (by decide +kernel), List.mem_of_getElem? (i := 1947) (by decide +kernel), List.mem_of_getElem? (i := 1948) (by decide +kernel)⟩
theorem lw_p49 : lw_okq (⟨"Patchferry$Disk", "bytesOf", "(I)I"⟩, 12) := ⟨⟨by decide +kernel, by decide +kernel⟩, List.mem_of_getElem? (i := 326) (by decide +kernel), List.mem_of_getElem? (i := 1952) (by decide +kernel), List.mem_of_getElem? (i := 1953) (by decide +kernel)⟩
theorem lw_p50 : lw_okq (⟨"Patchferry$Disk", "arrange", "(I)Z"⟩, 12) := ⟨⟨by decide +kernel, by decide +kernel⟩, List.mem_of_getElem? (i := 326) (by decide +kernel), List.mem_of_getElem? (i := 1956) (by decide +kernel), List.mem_of_getElem? (i := 1957) (by decide +kernel)⟩
theorem lw_p51 : lw_okq (⟨"Patchferry$Disk", "lowestReady", "(II)I"⟩, 12) := ⟨⟨by decide +kernel, by decide +kernel⟩, List.mem_of_getElem? (i := 326) (by decide +kernel), List.mem_of_getElem? (i := 1960) (by decide +kernel), List.mem_of_getElem? (i := 1961) (by decide +kernel)⟩
theorem lw_p52 : lw_okq (⟨"Patchferry$Disk", "saveAhead", "()V"⟩, 12) := ⟨⟨by decide +kernel, by decide +kernel⟩, List.mem_of_getElem? (i := 326) (by decide +kernel), List.mem_of_getElem? (i := 1964) (by decide +kernel), List.mem_of_getElem? (i := 1965) (by decide +kernel)⟩
theorem lw_p53 : lw_okq (⟨"Patchferry$Disk", "isSaved", "(I)Z"⟩, 12) := ⟨⟨by decide +kernel, by decide +kernel⟩, List.mem_of_getElem? (i := 326) (by decide +kernel), List.mem_of_getElem? (i := 1973) (by decide +kernel), List.mem_of_getElem? (i := 1974) (by decide +kernel)⟩
theorem lw_p54 : lw_okq (⟨"Patchferry$Disk", "write", "(I)V"⟩, 12) := ⟨⟨by decide +kernel, by decide +kernel⟩, List.mem_of_getElem? (i := 326) (by decide +kernel), List.mem_of_getElem? (i := 1983) (by decide +kernel), List.mem_of_getElem? (i := 1984) (by decide +kernel)⟩
theorem lw_p55 : lw_okq (⟨"Patchferry$Versions", "takeGreatestGain", "()I"⟩, 6) := ⟨⟨by decide +kernel, by decide +kernel⟩, List.mem_of_getElem? (i := 373) (by decide +kernel), List.mem_of_getElem? (i := 2142) (by decide +kernel), List.mem_of_getElem? (i := 2143) (by decide +kernel)⟩
theorem lw_p56 : lw_okq (⟨"Patchferry$Tree", "readLeaves", "(LPatchferry$Row;)V"⟩, 1) := ⟨⟨by decide +kernel, by decide +kernel⟩, List.mem_of_getElem? (i := 402) (by decide +kernel), List.mem_of_getElem? (i := 2157) (by decide +kernel), List.mem_of_getElem? (i := 2158) (by decide +kernel)⟩
theorem lw_p57 : lw_okq (⟨"Patchferry$Tree", "leafSum", "(LPatchferry$Row;I)I"⟩, 1) := ⟨⟨by decide +kernel, by decide +kernel⟩, List.mem_of_getElem? (i := 402) (by decide +kernel), List.mem_of_getElem? (i := 2168) (by decide +kernel), List.mem_of_getElem? (i := 2169) (by decide +kernel)⟩
theorem lw_p58 : lw_okq (⟨"Patchferry$Tree", "climb", "()I"⟩, 1) := ⟨⟨by decide +kernel, by decide +kernel⟩, List.mem_of_getElem? (i := 402) (by decide +kernel), List.mem_of_getElem? (i := 2175) (by decide +kernel), List.mem_of_getElem? (i := 2176) (by decide +kernel)⟩
theorem lw_p59 : lw_okq (⟨"Patchferry", "needAsManyLeaves", "(LPatchferry$Row;LPatchferry$Row;)V"⟩, 19) := ⟨⟨by decide +kernel, by decide +kernel⟩, List.mem_of_getElem? (i := 46) (by decide +kernel), List.mem_of_getElem? (i := 2190) (by decide +kernel), List.mem_of_getElem? (i := 2191) (by decide +kernel)⟩
theorem lw_p60 : lw_okq (⟨"PatchferryModel", "fails", "(I)Z"⟩, 23) := ⟨⟨by decide +kernel, by decide +kernel⟩, List.mem_of_getElem? (i := 2232) (by decide +kernel), List.mem_of_getElem? (i := 2323) (by decide +kernel), List.mem_of_getElem? (i := 2324) (by decide +kernel)⟩
theorem lw_p61 : lw_okq (⟨"PatchferryModel", "put", "([I)I"⟩, 23) := ⟨⟨by decide +kernel, by decide +kernel⟩, List.mem_of_getElem? (i := 2232) (by decide +kernel), List.mem_of_getElem? (i := 2327) (by decide +kernel), List.mem_of_getElem? (i := 2328) (by decide +kernel)⟩
theorem lw_p62 : lw_okq (⟨"PatchferryModel", "failsFile", "(I)Z"⟩, 23) := ⟨⟨by decide +kernel, by decide +kernel⟩, List.mem_of_getElem? (i := 2232) (by decide +kernel), List.mem_of_getElem? (i := 2342) (by decide +kernel), List.mem_of_getElem? (i := 2343) (by decide +kernel)⟩
theorem lw_p63 : lw_okq (⟨"PatchferryModel", "isFile", "(I)Z"⟩, 23) := ⟨⟨by decide +kernel, by decide +kernel⟩, List.mem_of_getElem? (i := 2232) (by decide +kernel), List.mem_of_getElem? (i := 2346) (by decide +kernel), List.mem_of_getElem? (i := 2347) (by decide +kernel)⟩
def lw_privs_4 : List (MethodName × Nat) := [(⟨"Patchferry$Disk", "choose", "()V"⟩, 12), (⟨"Patchferry$Disk", "bytesOf", "(I)I"⟩, 12), (⟨"Patchferry$Disk", "arrange", "(I)Z"⟩, 12), (⟨"Patchferry$Disk", "lowestReady", "(II)I"⟩, 12), (⟨"Patchferry$Disk", "saveAhead", "()V"⟩, 12), (⟨"Patchferry$Disk", "isSaved", "(I)Z"⟩, 12), (⟨"Patchferry$Disk", "write", "(I)V"⟩, 12), (⟨"Patchferry$Versions", "takeGreatestGain", "()I"⟩, 6), (⟨"Patchferry$Tree", "readLeaves", "(LPatchferry$Row;)V"⟩, 1), (⟨"Patchferry$Tree", "leafSum", "(LPatchferry$Row;I)I"⟩, 1), (⟨"Patchferry$Tree", "climb", "()I"⟩, 1), (⟨"Patchferry", "needAsManyLeaves", "(LPatchferry$Row;LPatchferry$Row;)V"⟩, 19), (⟨"PatchferryModel", "fails", "(I)Z"⟩, 23), (⟨"PatchferryModel", "put", "([I)I"⟩, 23), (⟨"PatchferryModel", "failsFile", "(I)Z"⟩, 23), (⟨"PatchferryModel", "isFile", "(I)Z"⟩, 23)]
theorem lw_r4 : ∀ q ∈ lw_privs_4, lw_okq q := List.forall_mem_cons.mpr ⟨lw_p48, List.forall_mem_cons.mpr ⟨lw_p49, List.forall_mem_cons.mpr ⟨lw_p50, List.forall_mem_cons.mpr ⟨lw_p51, List.forall_mem_cons.mpr ⟨lw_p52, List.forall_mem_cons.mpr ⟨lw_p53, List.forall_mem_cons.mpr ⟨lw_p54, List.forall_mem_cons.mpr ⟨lw_p55, List.forall_mem_cons.mpr ⟨lw_p56, List.forall_mem_cons.mpr ⟨lw_p57, List.forall_mem_cons.mpr ⟨lw_p58, List.forall_mem_cons.mpr ⟨lw_p59, List.forall_mem_cons.mpr ⟨lw_p60, List.forall_mem_cons.mpr ⟨lw_p61, List.forall_mem_cons.mpr ⟨lw_p62, List.forall_mem_cons.mpr ⟨lw_p63, fun _ h => absurd h List.not_mem_nil⟩⟩⟩⟩⟩⟩⟩⟩⟩⟩⟩⟩⟩⟩⟩⟩
theorem lw_p64 : lw_okq (⟨"PatchferryModel", "keep", "([I)I"⟩, 23) := ⟨⟨by decide +kernel, by decide +kernel⟩, List.mem_of_getElem? (i := 2232) (by decide +kernel), List.mem_of_getElem? (i := 2360) (by decide +kernel), List.mem_of_getElem? (i := 2361) (by decide +kernel)⟩
theorem lw_p65 : lw_okq (⟨"PatchferryModel", "failsFiles", "(II)Z"⟩, 23) := ⟨⟨by decide +kernel, by decide +kernel⟩, List.mem_of_getElem? (i := 2232) (by decide +kernel), List.mem_of_getElem? (i := 2377) (by decide +kernel), List.mem_of_getElem? (i := 2378) (by decide +kernel)⟩
theorem lw_p66 : lw_okq (⟨"PatchferryModel", "failsPlace", "(III)Z"⟩, 23) := ⟨⟨by decide +kernel, by decide +kernel⟩, List.mem_of_getElem? (i := 2232) (by decide +kernel), List.mem_of_getElem? (i := 2414) (by decide +kernel), List.mem_of_getElem? (i := 2415) (by decide +kernel)⟩
theorem lw_p67 : lw_okq (⟨"PatchferryModel", "keep", "(LPatchferryModel$Patch;)I"⟩, 23) := ⟨⟨by decide +kernel, by decide +kernel⟩, List.mem_of_getElem? (i := 2232) (by decide +kernel), List.mem_of_getElem? (i := 2478) (by decide +kernel), List.mem_of_getElem? (i := 2479) (by decide +kernel)⟩
theorem lw_p68 : lw_okq (⟨"PatchferryModel", "failsPatch", "(I)Z"⟩, 23) := ⟨⟨by decide +kernel, by decide +kernel⟩, List.mem_of_getElem? (i := 2232) (by decide +kernel), List.mem_of_getElem? (i := 2486) (by decide +kernel), List.mem_of_getElem? (i := 2487) (by decide +kernel)⟩
theorem lw_p69 : lw_okq (⟨"PatchferryModel", "isPatch", "(I)Z"⟩, 23) := ⟨⟨by decide +kernel, by decide +kernel⟩, List.mem_of_getElem? (i := 2232) (by decide +kernel), List.mem_of_getElem? (i := 2490) (by decide +kernel), List.mem_of_getElem? (i := 2491) (by decide +kernel)⟩
theorem lw_p70 : lw_okq (⟨"PatchferryModel", "failsStep", "(II)Z"⟩, 23) := ⟨⟨by decide +kernel, by decide +kernel⟩, List.mem_of_getElem? (i := 2232) (by decide +kernel), List.mem_of_getElem? (i := 2498) (by decide +kernel), List.mem_of_getElem? (i := 2499) (by decide +kernel)⟩
theorem lw_p71 : lw_okq (⟨"PatchferryModel", "failsMade", "([II)Z"⟩, 23) := ⟨⟨by decide +kernel, by decide +kernel⟩, List.mem_of_getElem? (i := 2232) (by decide +kernel), List.mem_of_getElem? (i := 2626) (by decide +kernel), List.mem_of_getElem? (i := 2627) (by decide +kernel)⟩
theorem lw_p72 : lw_okq (⟨"PatchferryModel", "failsPatches", "(II)Z"⟩, 23) := ⟨⟨by decide +kernel, by decide +kernel⟩, List.mem_of_getElem? (i := 2232) (by decide +kernel), List.mem_of_getElem? (i := 2634) (by decide +kernel), List.mem_of_getElem? (i := 2635) (by decide +kernel)⟩
theorem lw_p73 : lw_okq (⟨"java/util/ArrayList", "rangeCheckForAdd", "(I)V"⟩, 3) := ⟨⟨by decide +kernel, by decide +kernel⟩, List.mem_of_getElem? (i := 54) (by decide +kernel), List.mem_of_getElem? (i := 2714) (by decide +kernel), List.mem_of_getElem? (i := 2715) (by decide +kernel)⟩
theorem lw_p74 : lw_okq (⟨"java/util/ArrayList", "outOfBoundsMsg", "(I)Ljava/lang/String;"⟩, 3) := ⟨⟨by decide +kernel, by decide +kernel⟩, List.mem_of_getElem? (i := 54) (by decide +kernel), List.mem_of_getElem? (i := 2719) (by decide +kernel), List.mem_of_getElem? (i := 2720) (by decide +kernel)⟩
theorem lw_p75 : lw_okq (⟨"java/util/ArrayList", "fastRemove", "([Ljava/lang/Object;I)V"⟩, 3) := ⟨⟨by decide +kernel, by decide +kernel⟩, List.mem_of_getElem? (i := 54) (by decide +kernel), List.mem_of_getElem? (i := 2795) (by decide +kernel), List.mem_of_getElem? (i := 2796) (by decide +kernel)⟩
theorem lw_p76 : lw_okq (⟨"PatchferryModel", "failsLook", "(III)Z"⟩, 23) := ⟨⟨by decide +kernel, by decide +kernel⟩, List.mem_of_getElem? (i := 2232) (by decide +kernel), List.mem_of_getElem? (i := 2822) (by decide +kernel), List.mem_of_getElem? (i := 2823) (by decide +kernel)⟩
theorem lw_p77 : lw_okq (⟨"PatchferryModel", "look", "([I[II)V"⟩, 23) := ⟨⟨by decide +kernel, by decide +kernel⟩, List.mem_of_getElem? (i := 2232) (by decide +kernel), List.mem_of_getElem? (i := 2826) (by decide +kernel), List.mem_of_getElem? (i := 2827) (by decide +kernel)⟩
theorem lw_p78 : lw_okq (⟨"PatchferryModel", "wireOf", "(II)I"⟩, 23) := ⟨⟨by decide +kernel, by decide +kernel⟩, List.mem_of_getElem? (i := 2232) (by decide +kernel), List.mem_of_getElem? (i := 2846) (by decide +kernel), List.mem_of_getElem? (i := 2847) (by decide +kernel)⟩
theorem lw_p79 : lw_okq (⟨"PatchferryModel", "isHalf", "()Z"⟩, 23) := ⟨⟨by decide +kernel, by decide +kernel⟩, List.mem_of_getElem? (i := 2232) (by decide +kernel), List.mem_of_getElem? (i := 2965) (by decide +kernel), List.mem_of_getElem? (i := 2966) (by decide +kernel)⟩
def lw_privs_5 : List (MethodName × Nat) := [(⟨"PatchferryModel", "keep", "([I)I"⟩, 23), (⟨"PatchferryModel", "failsFiles", "(II)Z"⟩, 23), (⟨"PatchferryModel", "failsPlace", "(III)Z"⟩, 23), (⟨"PatchferryModel", "keep", "(LPatchferryModel$Patch;)I"⟩, 23), (⟨"PatchferryModel", "failsPatch", "(I)Z"⟩, 23), (⟨"PatchferryModel", "isPatch", "(I)Z"⟩, 23), (⟨"PatchferryModel", "failsStep", "(II)Z"⟩, 23), (⟨"PatchferryModel", "failsMade", "([II)Z"⟩, 23), (⟨"PatchferryModel", "failsPatches", "(II)Z"⟩, 23), (⟨"java/util/ArrayList", "rangeCheckForAdd", "(I)V"⟩, 3), (⟨"java/util/ArrayList", "outOfBoundsMsg", "(I)Ljava/lang/String;"⟩, 3), (⟨"java/util/ArrayList", "fastRemove", "([Ljava/lang/Object;I)V"⟩, 3), (⟨"PatchferryModel", "failsLook", "(III)Z"⟩, 23), (⟨"PatchferryModel", "look", "([I[II)V"⟩, 23), (⟨"PatchferryModel", "wireOf", "(II)I"⟩, 23), (⟨"PatchferryModel", "isHalf", "()Z"⟩, 23)]
theorem lw_r5 : ∀ q ∈ lw_privs_5, lw_okq q := List.forall_mem_cons.mpr ⟨lw_p64, List.forall_mem_cons.mpr ⟨lw_p65, List.forall_mem_cons.mpr ⟨lw_p66, List.forall_mem_cons.mpr ⟨lw_p67, List.forall_mem_cons.mpr ⟨lw_p68, List.forall_mem_cons.mpr ⟨lw_p69, List.forall_mem_cons.mpr ⟨lw_p70, List.forall_mem_cons.mpr ⟨lw_p71, List.forall_mem_cons.mpr ⟨lw_p72, List.forall_mem_cons.mpr ⟨lw_p73, List.forall_mem_cons.mpr ⟨lw_p74, List.forall_mem_cons.mpr ⟨lw_p75, List.forall_mem_cons.mpr ⟨lw_p76, List.forall_mem_cons.mpr ⟨lw_p77, List.forall_mem_cons.mpr ⟨lw_p78, List.forall_mem_cons.mpr ⟨lw_p79, fun _ h => absurd h List.not_mem_nil⟩⟩⟩⟩⟩⟩⟩⟩⟩⟩⟩⟩⟩⟩⟩⟩
theorem lw_p80 : lw_okq (⟨"PatchferryModel", "goAhead", "()I"⟩, 23) := ⟨⟨by decide +kernel, by decide +kernel⟩, List.mem_of_getElem? (i := 2232) (by decide +kernel), List.mem_of_getElem? (i := 2988) (by decide +kernel), List.mem_of_getElem? (i := 2989) (by decide +kernel)⟩
theorem lw_p81 : lw_okq (⟨"PatchferryModel", "isVersion", "(I)Z"⟩, 23) := ⟨⟨by decide +kernel, by decide +kernel⟩, List.mem_of_getElem? (i := 2232) (by decide +kernel), List.mem_of_getElem? (i := 3029) (by decide +kernel), List.mem_of_getElem? (i := 3030) (by decide +kernel)⟩
theorem lw_p82 : lw_okq (⟨"PatchferryModel", "bytesAt", "(I)[I"⟩, 23) := ⟨⟨by decide +kernel, by decide +kernel⟩, List.mem_of_getElem? (i := 2232) (by decide +kernel), List.mem_of_getElem? (i := 3037) (by decide +kernel), List.mem_of_getElem? (i := 3038) (by decide +kernel)⟩
theorem lw_p83 : lw_okq (⟨"PatchferryModel", "cost", "(II)I"⟩, 23) := ⟨⟨by decide +kernel, by decide +kernel⟩, List.mem_of_getElem? (i := 2232) (by decide +kernel), List.mem_of_getElem? (i := 3041) (by decide +kernel), List.mem_of_getElem? (i := 3042) (by decide +kernel)⟩
theorem lw_p84 : lw_okq (⟨"PatchferryModel", "failsMirror", "(II)Z"⟩, 23) := ⟨⟨by decide +kernel, by decide +kernel⟩, List.mem_of_getElem? (i := 2232) (by decide +kernel), List.mem_of_getElem? (i := 3082) (by decide +kernel), List.mem_of_getElem? (i := 3083) (by decide +kernel)⟩
theorem lw_p85 : lw_okq (⟨"PatchferryModel", "isProved", "(III)Z"⟩, 23) := ⟨⟨by decide +kernel, by decide +kernel⟩, List.mem_of_getElem? (i := 2232) (by decide +kernel), List.mem_of_getElem? (i := 3086) (by decide +kernel), List.mem_of_getElem? (i := 3087) (by decide +kernel)⟩
def lw_privs_6 : List (MethodName × Nat) := [(⟨"PatchferryModel", "goAhead", "()I"⟩, 23), (⟨"PatchferryModel", "isVersion", "(I)Z"⟩, 23), (⟨"PatchferryModel", "bytesAt", "(I)[I"⟩, 23), (⟨"PatchferryModel", "cost", "(II)I"⟩, 23), (⟨"PatchferryModel", "failsMirror", "(II)Z"⟩, 23), (⟨"PatchferryModel", "isProved", "(III)Z"⟩, 23)]
theorem lw_r6 : ∀ q ∈ lw_privs_6, lw_okq q := List.forall_mem_cons.mpr ⟨lw_p80, List.forall_mem_cons.mpr ⟨lw_p81, List.forall_mem_cons.mpr ⟨lw_p82, List.forall_mem_cons.mpr ⟨lw_p83, List.forall_mem_cons.mpr ⟨lw_p84, List.forall_mem_cons.mpr ⟨lw_p85, fun _ h => absurd h List.not_mem_nil⟩⟩⟩⟩⟩⟩
def lw_privs : List (MethodName × Nat) := lw_privs_1 ++ (lw_privs_2 ++ (lw_privs_3 ++ (lw_privs_4 ++ (lw_privs_5 ++ (lw_privs_6)))))
def lw_tbl : List Cond := k2_sels lw_privs ++ tables_1
theorem lw_privs_ok : ∀ q ∈ lw_privs, lw_okq q := by
  show ∀ q ∈ lw_privs_1 ++ (lw_privs_2 ++ (lw_privs_3 ++ (lw_privs_4 ++ (lw_privs_5 ++ (lw_privs_6))))), lw_okq q
  exact List.forall_mem_append.mpr ⟨lw_r1, List.forall_mem_append.mpr ⟨lw_r2, List.forall_mem_append.mpr ⟨lw_r3, List.forall_mem_append.mpr ⟨lw_r4, List.forall_mem_append.mpr ⟨lw_r5, lw_r6⟩⟩⟩⟩⟩
/-- the streams that the claim lets the run draw from -/
abbrev lw_cs : List Choice := [Jvm.Choice.named "NaN.bits"]
theorem lw_bits : nanBits ∈ lw_cs := by first | decide | exact List.mem_cons_self | simp [lw_cs, nanBits]
-- ===== end of PART A; then your names; then what follows =====
end
section
/-! WORLDS AS BAGS: a world's cells in any order, and a join behind a call in which the rest may be any list -/
theorem uv_P {D : va_G} {cl : List vw_C} {ws : va_W} {H : Heap} : va_P D cl ws H ↔ ∀ q ∈ ws, va_at D cl q H := by
  constructor
  · intro h q hq
    obtain ⟨k, hk⟩ := List.getElem?_of_mem hq
    exact h k q hk
  · intro h k q hk
    exact h q (List.mem_of_getElem? hk)
theorem uv_D {A : Nat → Prop} {ws : va_W} : va_D A ws ↔ (ws.map Prod.fst).Nodup ∧ ∀ q ∈ ws, A q.1 := by
  constructor
  · intro h
    refine ⟨?_, fun q hq => ?_⟩
    · rw [List.Nodup, List.pairwise_iff_getElem]
      intro i j hi hj hij
      rw [List.length_map] at hi hj
      rw [List.getElem_map, List.getElem_map]
      intro e
      have := h.1 i j ws[i] ws[j] (List.getElem?_eq_getElem hi) (List.getElem?_eq_getElem hj) e
      omega
    · obtain ⟨k, hk⟩ := List.getElem?_of_mem hq
      exact h.2 k q hk
  · intro h
    refine ⟨fun i j p q hp hq e => ?_, fun k q hk => h.2 q (List.mem_of_getElem? hk)⟩
    obtain ⟨hi, rfl⟩ := List.getElem?_eq_some_iff.mp hp
    obtain ⟨hj, rfl⟩ := List.getElem?_eq_some_iff.mp hq
    have h1 := h.1
    rw [List.Nodup, List.pairwise_iff_getElem] at h1
    rcases Nat.lt_trichotomy i j with g | g | g
    · have := h1 i j (by rw [List.length_map]; exact hi) (by rw [List.length_map]; exact hj) g
      rw [List.getElem_map, List.getElem_map] at this
      exact absurd e this
    · exact g
    · have := h1 j i (by rw [List.length_map]; exact hj) (by rw [List.length_map]; exact hi) g
      rw [List.getElem_map, List.getElem_map] at this
      exact absurd e.symm this
theorem uv_Pp {D : va_G} {cl : List vw_C} {ws ws' : va_W} {H : Heap} (hp : ws.Perm ws') (h : va_P D cl ws H) : va_P D cl ws' H := uv_P.mpr fun q hq => uv_P.mp h q (hp.mem_iff.mpr hq)
theorem uv_Dp {A : Nat → Prop} {ws ws' : va_W} (hp : ws.Perm ws') (h : va_D A ws) : va_D A ws' := by
  obtain ⟨h1, h2⟩ := uv_D.mp h
  exact uv_D.mpr ⟨(hp.map Prod.fst).nodup_iff.mp h1, fun q hq => h2 q (hp.mem_iff.mpr hq)⟩
theorem uv_Ps {D : va_G} {cl : List vw_C} {ws ws' : va_W} {H : Heap} (hs : ws'.Sublist ws) (h : va_P D cl ws H) : va_P D cl ws' H := uv_P.mpr fun q hq => uv_P.mp h q (hs.subset hq)
theorem uv_Ds {A : Nat → Prop} {ws ws' : va_W} (hs : ws'.Sublist ws) (h : va_D A ws) : va_D A ws' := by
  obtain ⟨h1, h2⟩ := uv_D.mp h
  exact uv_D.mpr ⟨h1.sublist (hs.map Prod.fst), fun q hq => h2 q (hs.subset hq)⟩
/-- the callee's cells and new ones are ours to change -/
theorem uv_free {A0 : Nat → Prop} {ws wc wr : va_W} {H0 H : Heap} {locs : List Loc} (hD : va_D A0 ws) (hS : va_S A0 H0 H locs) (hA : ∀ q, H0.size ≤ q → A0 q) (hp : ws.Perm (wc ++ wr)) : ∀ q, va_A wc H.size q → A0 q := by
  intro q h
  rcases h with ⟨k, e, h⟩ | h
  · exact (uv_D.mp hD).2 (q, e) (hp.mem_iff.mpr (List.mem_append_left _ (List.mem_of_getElem? h)))
  · exact hA q (Nat.le_trans hS.1 h)
theorem uv_join {A0 : Nat → Prop} {D : va_G} {cl : List vw_C} {ws wc wr w1 : va_W} {H H1 : Heap} (hP : va_P D cl ws H) (hD : va_D A0 ws) (hp : ws.Perm (wc ++ wr))
    (hk : ∀ q : Nat, q < H.size → ¬ va_A wc H.size q → H1[q]? = H[q]?) (hF : ∀ q, va_A wc H.size q → A0 q) (hP1 : va_P D cl w1 H1) (hD1 : va_D (va_A wc H.size) w1) : va_P D cl (w1 ++ wr) H1 ∧ va_D A0 (w1 ++ wr) := by
  have hP2 := uv_P.mp (uv_Pp hp hP)
  obtain ⟨hN, hI⟩ := uv_D.mp (uv_Dp hp hD)
  obtain ⟨hN1, hI1⟩ := uv_D.mp hD1
  rw [List.map_append, List.nodup_append] at hN
  have apart : ∀ q ∈ wr, q.1 < H.size ∧ ¬ va_A wc H.size q.1 := by
    intro q hq
    have hl := (hP2 q (List.mem_append_right _ hq)).lt
    refine ⟨hl, fun h => ?_⟩
    rcases h with ⟨k, e, h⟩ | h
    · exact hN.2.2 q.1 (List.mem_map.mpr ⟨(q.1, e), List.mem_of_getElem? h, rfl⟩) q.1 (List.mem_map.mpr ⟨q, hq, rfl⟩) rfl
    · omega
  refine ⟨uv_P.mpr fun q hq => ?_, uv_D.mpr ⟨?_, fun q hq => ?_⟩⟩
  · rcases List.mem_append.mp hq with h | h
    · exact uv_P.mp hP1 q h
    · obtain ⟨g1, g2⟩ := apart q h
      exact (hP2 q (List.mem_append_right _ h)).kept (hk q.1 g1 g2)
  · rw [List.map_append, List.nodup_append]
    refine ⟨hN1, hN.2.1, fun x hx y hy e => ?_⟩
    obtain ⟨q, hq, rfl⟩ := List.mem_map.mp hx
    obtain ⟨q2, hq2, rfl⟩ := List.mem_map.mp hy
    exact (apart q2 hq2).2 (by rw [← e]; exact hI1 q hq)
  · rcases List.mem_append.mp hq with h | h
    · exact hF q.1 (hI1 q h)
    · exact hI q (List.mem_append_right _ h)
end
section
/-! names: picked from the print of the task by wip/whole/names.py -/
def RX15 : String := "PatchferryModel"
abbrev cX15_joined : ByteArray := prog_14_method_7_code
def yX15_joined : MethodName := ⟨RX15, "joined", "([I[I)[I"⟩
abbrev cX15_unpacked : ByteArray := prog_14_method_90_code
def yX15_unpacked : MethodName := ⟨RX15, "unpacked", "([I)[I"⟩
theorem dX15_joined_0 : decode cX15_joined 0 = .ok (.aload_n 0, 1) := by decide +kernel
theorem dX15_joined_1 : decode cX15_joined 1 = .ok (.arraylength, 1) := by decide +kernel
theorem dX15_joined_2 : decode cX15_joined 2 = .ok (.aload_n 1, 1) := by decide +kernel
theorem dX15_joined_3 : decode cX15_joined 3 = .ok (.arraylength, 1) := by decide +kernel
theorem dX15_joined_4 : decode cX15_joined 4 = .ok (.iadd, 1) := by decide +kernel
theorem dX15_joined_5 : decode cX15_joined 5 = .ok (.newarray .int, 2) := by decide +kernel
theorem dX15_joined_7 : decode cX15_joined 7 = .ok (.astore_n 2, 1) := by decide +kernel
theorem dX15_joined_8 : decode cX15_joined 8 = .ok (.iconst 0, 1) := by decide +kernel
theorem dX15_joined_9 : decode cX15_joined 9 = .ok (.istore_n 3, 1) := by decide +kernel
theorem dX15_joined_10 : decode cX15_joined 10 = .ok (.iload_n 3, 1) := by decide +kernel
theorem dX15_joined_11 : decode cX15_joined 11 = .ok (.aload_n 2, 1) := by decide +kernel
theorem dX15_joined_12 : decode cX15_joined 12 = .ok (.arraylength, 1) := by decide +kernel
theorem dX15_joined_13 : decode cX15_joined 13 = .ok (.if_icmp .ge 30, 3) := by decide +kernel
theorem dX15_joined_16 : decode cX15_joined 16 = .ok (.aload_n 2, 1) := by decide +kernel
theorem dX15_joined_17 : decode cX15_joined 17 = .ok (.iload_n 3, 1) := by decide +kernel
theorem dX15_joined_18 : decode cX15_joined 18 = .ok (.iload_n 3, 1) := by decide +kernel
theorem dX15_joined_19 : decode cX15_joined 19 = .ok (.aload_n 0, 1) := by decide +kernel
theorem dX15_joined_20 : decode cX15_joined 20 = .ok (.arraylength, 1) := by decide +kernel
theorem dX15_joined_21 : decode cX15_joined 21 = .ok (.if_icmp .ge 9, 3) := by decide +kernel
theorem dX15_joined_24 : decode cX15_joined 24 = .ok (.aload_n 0, 1) := by decide +kernel
theorem dX15_joined_25 : decode cX15_joined 25 = .ok (.iload_n 3, 1) := by decide +kernel
theorem dX15_joined_26 : decode cX15_joined 26 = .ok (.iaload, 1) := by decide +kernel
theorem dX15_joined_27 : decode cX15_joined 27 = .ok (.goto 9, 3) := by decide +kernel
theorem dX15_joined_30 : decode cX15_joined 30 = .ok (.aload_n 1, 1) := by decide +kernel
theorem dX15_joined_31 : decode cX15_joined 31 = .ok (.iload_n 3, 1) := by decide +kernel
theorem dX15_joined_32 : decode cX15_joined 32 = .ok (.aload_n 0, 1) := by decide +kernel
theorem dX15_joined_33 : decode cX15_joined 33 = .ok (.arraylength, 1) := by decide +kernel
theorem dX15_joined_34 : decode cX15_joined 34 = .ok (.isub, 1) := by decide +kernel
theorem dX15_joined_35 : decode cX15_joined 35 = .ok (.iaload, 1) := by decide +kernel
theorem dX15_joined_36 : decode cX15_joined 36 = .ok (.iastore, 1) := by decide +kernel
theorem dX15_joined_37 : decode cX15_joined 37 = .ok (.iinc 3 1, 3) := by decide +kernel
theorem dX15_joined_40 : decode cX15_joined 40 = .ok (.goto (-30), 3) := by decide +kernel
theorem dX15_joined_43 : decode cX15_joined 43 = .ok (.aload_n 2, 1) := by decide +kernel
theorem dX15_joined_44 : decode cX15_joined 44 = .ok (.areturn, 1) := by decide +kernel
theorem dX15_unpacked_0 : decode cX15_unpacked 0 = .ok (.iconst 0, 1) := by decide +kernel
theorem dX15_unpacked_1 : decode cX15_unpacked 1 = .ok (.newarray .int, 2) := by decide +kernel
theorem dX15_unpacked_3 : decode cX15_unpacked 3 = .ok (.astore_n 1, 1) := by decide +kernel
theorem dX15_unpacked_4 : decode cX15_unpacked 4 = .ok (.iconst 0, 1) := by decide +kernel
theorem dX15_unpacked_5 : decode cX15_unpacked 5 = .ok (.istore_n 2, 1) := by decide +kernel
theorem dX15_unpacked_6 : decode cX15_unpacked 6 = .ok (.iload_n 2, 1) := by decide +kernel
theorem dX15_unpacked_7 : decode cX15_unpacked 7 = .ok (.aload_n 0, 1) := by decide +kernel
theorem dX15_unpacked_8 : decode cX15_unpacked 8 = .ok (.arraylength, 1) := by decide +kernel
theorem dX15_unpacked_9 : decode cX15_unpacked 9 = .ok (.if_icmp .ge 95, 3) := by decide +kernel
theorem dX15_unpacked_12 : decode cX15_unpacked 12 = .ok (.aload_n 0, 1) := by decide +kernel
theorem dX15_unpacked_13 : decode cX15_unpacked 13 = .ok (.iload_n 2, 1) := by decide +kernel
theorem dX15_unpacked_14 : decode cX15_unpacked 14 = .ok (.iaload, 1) := by decide +kernel
theorem dX15_unpacked_15 : decode cX15_unpacked 15 = .ok (.sipush 255, 3) := by decide +kernel
theorem dX15_unpacked_18 : decode cX15_unpacked 18 = .ok (.if_icmp .ne 66, 3) := by decide +kernel
theorem dX15_unpacked_21 : decode cX15_unpacked 21 = .ok (.iload_n 2, 1) := by decide +kernel
theorem dX15_unpacked_22 : decode cX15_unpacked 22 = .ok (.iconst 2, 1) := by decide +kernel
theorem dX15_unpacked_23 : decode cX15_unpacked 23 = .ok (.iadd, 1) := by decide +kernel
theorem dX15_unpacked_24 : decode cX15_unpacked 24 = .ok (.aload_n 0, 1) := by decide +kernel
theorem dX15_unpacked_25 : decode cX15_unpacked 25 = .ok (.arraylength, 1) := by decide +kernel
theorem dX15_unpacked_26 : decode cX15_unpacked 26 = .ok (.if_icmp .ge 11, 3) := by decide +kernel
theorem dX15_unpacked_29 : decode cX15_unpacked 29 = .ok (.aload_n 0, 1) := by decide +kernel
theorem dX15_unpacked_30 : decode cX15_unpacked 30 = .ok (.iload_n 2, 1) := by decide +kernel
theorem dX15_unpacked_31 : decode cX15_unpacked 31 = .ok (.iconst 1, 1) := by decide +kernel
theorem dX15_unpacked_32 : decode cX15_unpacked 32 = .ok (.iadd, 1) := by decide +kernel
theorem dX15_unpacked_33 : decode cX15_unpacked 33 = .ok (.iaload, 1) := by decide +kernel
theorem dX15_unpacked_34 : decode cX15_unpacked 34 = .ok (.ifCond .ne 5, 3) := by decide +kernel
theorem dX15_unpacked_37 : decode cX15_unpacked 37 = .ok (.aconst_null, 1) := by decide +kernel
theorem dX15_unpacked_38 : decode cX15_unpacked 38 = .ok (.areturn, 1) := by decide +kernel
theorem dX15_unpacked_39 : decode cX15_unpacked 39 = .ok (.aload_n 0, 1) := by decide +kernel
theorem dX15_unpacked_40 : decode cX15_unpacked 40 = .ok (.iload_n 2, 1) := by decide +kernel
theorem dX15_unpacked_41 : decode cX15_unpacked 41 = .ok (.iconst 1, 1) := by decide +kernel
theorem dX15_unpacked_42 : decode cX15_unpacked 42 = .ok (.iadd, 1) := by decide +kernel
theorem dX15_unpacked_43 : decode cX15_unpacked 43 = .ok (.iaload, 1) := by decide +kernel
theorem dX15_unpacked_44 : decode cX15_unpacked 44 = .ok (.newarray .int, 2) := by decide +kernel
theorem dX15_unpacked_46 : decode cX15_unpacked 46 = .ok (.astore_n 3, 1) := by decide +kernel
theorem dX15_unpacked_47 : decode cX15_unpacked 47 = .ok (.iconst 0, 1) := by decide +kernel
theorem dX15_unpacked_48 : decode cX15_unpacked 48 = .ok (.istore 4, 2) := by decide +kernel
theorem dX15_unpacked_50 : decode cX15_unpacked 50 = .ok (.iload 4, 2) := by decide +kernel
theorem dX15_unpacked_52 : decode cX15_unpacked 52 = .ok (.aload_n 3, 1) := by decide +kernel
theorem dX15_unpacked_53 : decode cX15_unpacked 53 = .ok (.arraylength, 1) := by decide +kernel
theorem dX15_unpacked_54 : decode cX15_unpacked 54 = .ok (.if_icmp .ge 18, 3) := by decide +kernel
theorem dX15_unpacked_57 : decode cX15_unpacked 57 = .ok (.aload_n 3, 1) := by decide +kernel
theorem dX15_unpacked_58 : decode cX15_unpacked 58 = .ok (.iload 4, 2) := by decide +kernel
theorem dX15_unpacked_60 : decode cX15_unpacked 60 = .ok (.aload_n 0, 1) := by decide +kernel
theorem dX15_unpacked_61 : decode cX15_unpacked 61 = .ok (.iload_n 2, 1) := by decide +kernel
theorem dX15_unpacked_62 : decode cX15_unpacked 62 = .ok (.iconst 2, 1) := by decide +kernel
theorem dX15_unpacked_63 : decode cX15_unpacked 63 = .ok (.iadd, 1) := by decide +kernel
theorem dX15_unpacked_64 : decode cX15_unpacked 64 = .ok (.iaload, 1) := by decide +kernel
theorem dX15_unpacked_65 : decode cX15_unpacked 65 = .ok (.iastore, 1) := by decide +kernel
theorem dX15_unpacked_66 : decode cX15_unpacked 66 = .ok (.iinc 4 1, 3) := by decide +kernel
theorem dX15_unpacked_69 : decode cX15_unpacked 69 = .ok (.goto (-19), 3) := by decide +kernel
theorem dX15_unpacked_72 : decode cX15_unpacked 72 = .ok (.aload_n 1, 1) := by decide +kernel
theorem dX15_unpacked_73 : decode cX15_unpacked 73 = .ok (.aload_n 3, 1) := by decide +kernel
theorem dX15_unpacked_74 : decode cX15_unpacked 74 = .ok (.invokestatic 85, 3) := by decide +kernel
theorem dX15_unpacked_77 : decode cX15_unpacked 77 = .ok (.astore_n 1, 1) := by decide +kernel
theorem dX15_unpacked_78 : decode cX15_unpacked 78 = .ok (.iinc 2 3, 3) := by decide +kernel
theorem dX15_unpacked_81 : decode cX15_unpacked 81 = .ok (.goto (-75), 3) := by decide +kernel
theorem dX15_unpacked_84 : decode cX15_unpacked 84 = .ok (.aload_n 1, 1) := by decide +kernel
theorem dX15_unpacked_85 : decode cX15_unpacked 85 = .ok (.iconst 1, 1) := by decide +kernel
theorem dX15_unpacked_86 : decode cX15_unpacked 86 = .ok (.newarray .int, 2) := by decide +kernel
theorem dX15_unpacked_88 : decode cX15_unpacked 88 = .ok (.dup, 1) := by decide +kernel
theorem dX15_unpacked_89 : decode cX15_unpacked 89 = .ok (.iconst 0, 1) := by decide +kernel
theorem dX15_unpacked_90 : decode cX15_unpacked 90 = .ok (.aload_n 0, 1) := by decide +kernel
theorem dX15_unpacked_91 : decode cX15_unpacked 91 = .ok (.iload_n 2, 1) := by decide +kernel
theorem dX15_unpacked_92 : decode cX15_unpacked 92 = .ok (.iaload, 1) := by decide +kernel
theorem dX15_unpacked_93 : decode cX15_unpacked 93 = .ok (.iastore, 1) := by decide +kernel
theorem dX15_unpacked_94 : decode cX15_unpacked 94 = .ok (.invokestatic 85, 3) := by decide +kernel
theorem dX15_unpacked_97 : decode cX15_unpacked 97 = .ok (.astore_n 1, 1) := by decide +kernel
theorem dX15_unpacked_98 : decode cX15_unpacked 98 = .ok (.iinc 2 1, 3) := by decide +kernel
theorem dX15_unpacked_101 : decode cX15_unpacked 101 = .ok (.goto (-95), 3) := by decide +kernel
theorem dX15_unpacked_104 : decode cX15_unpacked 104 = .ok (.aload_n 1, 1) := by decide +kernel
theorem dX15_unpacked_105 : decode cX15_unpacked 105 = .ok (.areturn, 1) := by decide +kernel
/-! THE REFERENCE'S OWN COST: joined and unpacked over a row of 199 bytes 255: what they make, counted from below -/
/-- an int array as a cell of a world -/
abbrev wa (a : Nat) (cA : ClassId) (n : Nat) (f : Nat → Int32) : Nat × va_E := (a, .inl (cA, n, .inl f))
/-- the words that the two methods need -/
def us_joined : List Cond := .code yX15_joined cX15_joined 4 (some (.array .int)) :: [.arrayClass .int]
def us_unpacked : List Cond := .code yX15_unpacked cX15_unpacked 5 (some (.array .int)) :: [.arrayClass .int, .methodLink RX15 85 yX15_joined, .static yX15_joined, .initialized RX15, .code yX15_joined cX15_joined 4 (some (.array .int))]
theorem ug_unpacked_joined : GoodIn us_unpacked (va_wsS RX15 85 yX15_joined us_joined) := goodIn_p _ [5] rfl (by decide +kernel)
/-- the loop of joined, up to its end -/
theorem joined_loop {p : Program} {l : Launch} {e : Env} {R : Room} {s : State} {m : MethodId} {args : Array Value} {below : List Frame} {meth : Method} {c : Code} {cells slots : Nat} {Q : State → Prop} {cl : List vw_C} {dC : Nat → ClassId} {dI : Nat → Nat → Nat} {A : Nat → Prop} {H0 : Heap} {a b q n n2 : Nat} {f f2 : Nat → Int32} {cA cB cR : ClassId}
    (hx : p.tables.exec = Jvm.exec) (hb : c.code = cX15_joined) (hn : n + n2 < 2 ^ 31) (hK : va_K (dC, dI) cl [(cA, .int), (cB, .int), (cR, .int)] s)
    (kk : ∀ (g : Nat → Int32) (H : Heap) (locs : List Loc) (ls : Array Slot), va_P (dC, dI) cl [wa a cA n f, wa b cB n2 f2, wa q cR (n + n2) g] H → va_D A [wa a cA n f, wa b cB n2 f2, wa q cR (n + n2) g] → va_S A H0 H locs → lv_has ls 4 [(0, .ref a), (1, .ref b), (2, .ref q), (3, .int (nI (n + n2)))] → W p l e R s m args below meth c H locs cells slots Q (F0 m 43 ls [])) :
    ∀ (k i : Nat), i ≤ n + n2 → n + n2 < i + k → ∀ (g : Nat → Int32) (H : Heap) (locs : List Loc) (ls : Array Slot), va_P (dC, dI) cl [wa a cA n f, wa b cB n2 f2, wa q cR (n + n2) g] H → va_D A [wa a cA n f, wa b cB n2 f2, wa q cR (n + n2) g] → va_S A H0 H locs → lv_has ls 4 [(0, .ref a), (1, .ref b), (2, .ref q), (3, .int (nI i))] → W p l e R s m args below meth c H locs cells slots Q (F0 m 10 ls []) := by
  intro k
  induction k with
  | zero => intro i h1 h2; omega
  | succ k ih =>
    intro i hi hk g H locs ls hP hD hS hl
    refine lv_iload_n hx hb dX15_joined_10 rfl (lv_at hl 3 rfl) ?_
    refine lv_aload_n hx hb dX15_joined_11 rfl (lv_at hl 2 rfl) ?_
    refine va_alen (D := (dC, dI)) hx hb hK hP 2 2 rfl rfl rfl dX15_joined_12 ?_
    refine lv_icmp_ge (tgt := 43) hx hb dX15_joined_13 (by decide) (fun h => ?_) (fun h => ?_)
    · have hi2 : i = n + n2 := by
        rcases Nat.lt_or_ge i (n + n2) with q1 | q1
        · exact absurd h (nI_ge q1 hn)
        · omega
      subst hi2
      exact kk g H locs ls hP hD hS hl
    · have hlt : i < n + n2 := by
        rcases Nat.lt_or_ge i (n + n2) with q1 | q1
        · exact q1
        · exact absurd (nI_le q1 (by omega)) h
      have tail : ∀ x : Int32, W p l e R s m args below meth c H locs cells slots Q (F0 m 36 ls [.int x, .int (nI i), .ref q]) := by
        intro x
        refine va_iast (D := (dC, dI)) hx hb hK hP hD hS 2 2 rfl rfl (vp_in_nI hlt hn) dX15_joined_36 (fun H locs hP hD hS => ?_)
        have hP : va_P (dC, dI) cl [wa a cA n f, wa b cB n2 f2, wa q cR (n + n2) (upd g (nI i).toNatClampNeg x)] H := hP
        have hD : va_D A [wa a cA n f, wa b cB n2 f2, wa q cR (n + n2) (upd g (nI i).toNatClampNeg x)] := hD
        refine lv_iinc (v := nI (i + 1)) (lv' := [(3, .int (nI (i + 1))), (0, .ref a), (1, .ref b), (2, .ref q)]) hx hb dX15_joined_37 hl (k := 3) rfl (by rw [nI_succ]; rfl) (by decide) rfl (fun ls hl => ?_)
        refine lv_goto (tgt := 10) hx hb dX15_joined_40 (by decide) ?_
        exact ih (i + 1) (by omega) (by omega) _ H locs ls hP hD hS (lv_sub hl [1, 2, 3, 0] rfl)
      refine lv_aload_n hx hb dX15_joined_16 rfl (lv_at hl 2 rfl) ?_
      refine lv_iload_n hx hb dX15_joined_17 rfl (lv_at hl 3 rfl) ?_
      refine lv_iload_n hx hb dX15_joined_18 rfl (lv_at hl 3 rfl) ?_
      refine lv_aload_n hx hb dX15_joined_19 rfl (lv_at hl 0 rfl) ?_
      refine va_alen (D := (dC, dI)) hx hb hK hP 0 0 rfl rfl rfl dX15_joined_20 ?_
      refine lv_icmp_ge (tgt := 30) hx hb dX15_joined_21 (by decide) (fun h2 => ?_) (fun h2 => ?_)
      · have hni : n ≤ i := by
          rcases Nat.lt_or_ge i n with q1 | q1
          · exact absurd h2 (nI_ge q1 (by omega))
          · exact q1
        refine lv_aload_n hx hb dX15_joined_30 rfl (lv_at hl 1 rfl) ?_
        refine lv_iload_n hx hb dX15_joined_31 rfl (lv_at hl 3 rfl) ?_
        refine lv_aload_n hx hb dX15_joined_32 rfl (lv_at hl 0 rfl) ?_
        refine va_alen (D := (dC, dI)) hx hb hK hP 0 0 rfl rfl rfl dX15_joined_33 ?_
        refine lv_isub hx hb dX15_joined_34 ?_
        refine lv_topi (fun y ey => ?_)
        have ey2 : y = nI (i - n) := ey.trans (pk_sub hni)
        refine va_iald (D := (dC, dI)) hx hb hK hP 1 1 rfl rfl (by rw [ey2]; exact vp_in_nI (by omega) (by omega)) dX15_joined_35 ?_
        exact tail _
      · have hni : i < n := by
          rcases Nat.lt_or_ge i n with q1 | q1
          · exact q1
          · exact absurd (nI_le q1 (by omega)) h2
        refine lv_aload_n hx hb dX15_joined_24 rfl (lv_at hl 0 rfl) ?_
        refine lv_iload_n hx hb dX15_joined_25 rfl (lv_at hl 3 rfl) ?_
        refine va_iald (D := (dC, dI)) hx hb hK hP 0 0 rfl rfl (vp_in_nI hni (by omega)) dX15_joined_26 ?_
        refine lv_goto (tgt := 36) hx hb dX15_joined_27 (by decide) ?_
        exact tail _
set_option maxHeartbeats 4000000 in
set_option maxRecDepth 100000 in
/-- joined: a new array as long as both together -/
theorem c_joined (l : Launch) (cl : List vw_C) (dC : Nat → ClassId) (dI : Nat → Nat → Nat) (a b sz n n2 : Nat) (f f2 : Nat → Int32) (cA cB : ClassId) (hn : n + n2 ≤ 134217728) : Met l yX15_joined us_joined ({ frames := 0, cells := 1, slots := n + n2, locals := 0 }) (va_Pc [.ref a, .ref b] (fun U => U.heap.size = sz ∧ va_P (dC, dI) cl [wa a cA n f, wa b cB n2 f2] U.heap ∧ va_K (dC, dI) cl [(cA, .int), (cB, .int)] U ∧ va_D (fun _ => True) [wa a cA n f, wa b cB n2 f2])) (va_Qr (fun _ : ClassId × (Nat → Int32) => True) (fun u r t => va_P (dC, dI) cl [wa a cA n f, wa b cB n2 f2, wa r u.1 (n + n2) u.2] t.heap ∧ va_K (dC, dI) cl [(cA, .int), (cB, .int), (u.1, .int)] t ∧ va_D (va_A [wa a cA n f, wa b cB n2 f2] sz) [wa a cA n f, wa b cB n2 f2, wa r u.1 (n + n2) u.2]) (va_A [wa a cA n f, wa b cB n2 f2] sz)) 1 (n + n2) (va_A [wa a cA n f, wa b cB n2 f2] sz) := by
  refine Met.ofW (cc := cX15_joined) (maxL := 4) (ret := (some (.array .int))) (by decide) rfl ?_
  intro p e s m args below meth c s₁ B hml hv
  obtain ⟨rfl, hsz, hP, hK, hD0⟩ := hv
  have hx := B.exec
  have hb := B.bytes
  have hr := B.returns
  have hts := atoms_spec (ws := us_joined) B.pre
  have hlocks := B.notSynchronized
  subst hsz
  have hD := hD0.self (sz := s.heap.size)
  generalize hAe : va_A [wa a cA n f, wa b cB n2 f2] s.heap.size = A at hD ⊢
  have hA : ∀ q : Nat, s.heap.size ≤ q → A q := fun q h => by rw [← hAe]; exact Or.inr h
  have hS : va_S A s.heap s.heap [] := va_S.rf
  have hl := lv_entry ([.ref a, .ref b]) (n := 4) (Nat.le_of_ble_eq_true rfl)
  rw [lg_entry_eq]
  generalize (lg_sl ([.ref a, .ref b]) ++ List.replicate (4 - (lg_sl ([.ref a, .ref b])).length) Slot.unset).toArray = ls at hl ⊢
  have hl : lv_has ls 4 [(0, .ref a), (1, .ref b)] := hl
  refine lv_aload_n hx hb dX15_joined_0 rfl (lv_at hl 0 rfl) ?_
  refine va_alen (D := (dC, dI)) hx hb hK hP 0 0 rfl rfl rfl dX15_joined_1 ?_
  refine lv_aload_n hx hb dX15_joined_2 rfl (lv_at hl 1 rfl) ?_
  refine va_alen (D := (dC, dI)) hx hb hK hP 1 1 rfl rfl rfl dX15_joined_3 ?_
  refine lv_iadd hx hb dX15_joined_4 ?_
  refine lv_topi (fun y ey => ?_)
  have ey2 : y = nI (n + n2) := ey.trans (nI_add n n2)
  refine va_newa (D := (dC, dI)) (atype := .int) (N' := n + n2) (a0 := (n + n2, .inl (fun _ => 0))) hx hb (hts (.arrayClass .int) (by decide +kernel)) rfl hK hP hD hS hA (fun _ => rfl) (by rw [ey2]; exact nI_pos (by omega)) (by rw [ey2]; exact nI_clamp (by omega)) (by show (n + n2) * 4 ≤ 536870912; omega) (Nat.le_refl _) (Nat.le_of_eq (Nat.zero_add _)) dX15_joined_5 (fun q cR H hK hP hD hS => ?_)
  have hP : va_P (dC, dI) cl [wa a cA n f, wa b cB n2 f2, wa q cR (n + n2) (fun _ => 0)] H := hP
  have hD : va_D A [wa a cA n f, wa b cB n2 f2, wa q cR (n + n2) (fun _ => 0)] := hD
  have hK : va_K (dC, dI) cl [(cA, .int), (cB, .int), (cR, .int)] s := hK
  refine lv_astore_n (lv' := [(2, .ref q), (0, .ref a), (1, .ref b)]) hx hb dX15_joined_7 rfl hl (by decide) rfl (fun ls hl => ?_)
  refine lv_iconst (v := 0) hx hb dX15_joined_8 (by decide) ?_
  refine lv_istore_n (lv' := [(3, .int 0), (2, .ref q), (0, .ref a), (1, .ref b)]) hx hb dX15_joined_9 rfl hl (by decide) rfl (fun ls hl => ?_)
  have hl : lv_has ls 4 [(3, .int (nI 0)), (2, .ref q), (0, .ref a), (1, .ref b)] := hl
  refine joined_loop (A := A) (H0 := s.heap) (f := f) (f2 := f2) hx hb (by omega) hK ?_ (n + n2 + 1) 0 (Nat.zero_le _) (by omega) _ H _ ls hP hD hS (lv_sub hl [2, 3, 1, 0] rfl)
  intro g H locs ls hP hD hS hl
  refine lv_aload_n hx hb dX15_joined_43 rfl (lv_at hl 2 rfl) ?_
  refine W.widen (k := 1) (n := n + n2) (Nat.le_refl _) (Nat.le_of_eq (Nat.zero_add _)) ?_
  exact W.aret (v := .ref q) hx hb hr (Or.inr ⟨_, rfl⟩) (Or.inr ⟨_, rfl⟩) (fun t ht hW => ⟨⟨(cR, g), q, rfl, trivial, by rw [ht]; exact hP, va_K.moved hW.alike hK, hD⟩, hS.F ht⟩) hS.2.2 dX15_joined_44
end
section
/-! unpacked over 199 bytes 255: what it makes, counted from below -/
/-- what an entry of a world has in slots, of arrays alone -/
def ug : va_E → Nat
  | .inl x => x.2.1
  | .inr _ => 0
def us : va_W → Nat := fun ws => (ws.map fun q => ug q.2).sum
theorem us_nil : us [] = 0 := rfl
theorem us_cons (q : Nat × va_E) (ws : va_W) : us (q :: ws) = ug q.2 + us ws := by simp [us]
theorem us_app (a b : va_W) : us (a ++ b) = us a + us b := by simp [us]
theorem us_wa (a : Nat) (cA : ClassId) (n : Nat) (f : Nat → Int32) : ug (wa a cA n f).2 = n := rfl
/-- slots made up to the t-th run -/
def uT : Nat → Nat | 0 => 0 | t + 1 => uT t + 255 + 255 * (t + 1)
theorem uT_le : ∀ t, t < 67 → uT t ≤ 580635 := by decide +kernel
theorem uT_66 : uT 66 = 580635 := by decide +kernel
/-- the loop that fills a run -/
theorem unp_fill {p : Program} {l : Launch} {e : Env} {R : Room} {s : State} {m : MethodId} {args : Array Value} {below : List Frame} {meth : Method} {c : Code} {cells slots : Nat} {Q : State → Prop} {cl : List vw_C} {dC : Nat → ClassId} {dI : Nat → Nat → Nat} {A : Nat → Prop} {H0 : Heap} {a r q nr t : Nat} {f g : Nat → Int32} {cA cR cQ : ClassId} {pl : va_W}
    (hx : p.tables.exec = Jvm.exec) (hb : c.code = cX15_unpacked) (ht : t < 66) (hK : va_K (dC, dI) cl [(cA, .int), (cR, .int), (cQ, .int)] s)
    (kk : ∀ (h : Nat → Int32) (H : Heap) (locs : List Loc) (ls : Array Slot), va_P (dC, dI) cl (wa a cA 199 f :: wa r cR nr g :: wa q cQ 255 h :: pl) H → va_D A (wa a cA 199 f :: wa r cR nr g :: wa q cQ 255 h :: pl) → va_S A H0 H locs → lv_has ls 5 [(0, .ref a), (1, .ref r), (2, .int (nI (3 * t))), (3, .ref q), (4, .int (nI 255))] → W p l e R s m args below meth c H locs cells slots Q (F0 m 72 ls [])) :
    ∀ (k i : Nat), i ≤ 255 → 255 < i + k → ∀ (h : Nat → Int32) (H : Heap) (locs : List Loc) (ls : Array Slot), va_P (dC, dI) cl (wa a cA 199 f :: wa r cR nr g :: wa q cQ 255 h :: pl) H → va_D A (wa a cA 199 f :: wa r cR nr g :: wa q cQ 255 h :: pl) → va_S A H0 H locs → lv_has ls 5 [(0, .ref a), (1, .ref r), (2, .int (nI (3 * t))), (3, .ref q), (4, .int (nI i))] → W p l e R s m args below meth c H locs cells slots Q (F0 m 50 ls []) := by
  intro k
  induction k with
  | zero => intro i h1 h2; omega
  | succ k ih =>
    intro i hi hk h H locs ls hP hD hS hl
    refine lv_iload hx hb dX15_unpacked_50 (lv_at hl 4 rfl) ?_
    refine lv_aload_n hx hb dX15_unpacked_52 rfl (lv_at hl 3 rfl) ?_
    refine va_alen (D := (dC, dI)) hx hb hK hP 2 2 rfl rfl rfl dX15_unpacked_53 ?_
    refine lv_icmp_ge (tgt := 72) hx hb dX15_unpacked_54 (by decide) (fun hc => ?_) (fun hc => ?_)
    · have hi2 : i = 255 := by
        rcases Nat.lt_or_ge i 255 with q1 | q1
        · exact absurd hc (nI_ge q1 (by omega))
        · omega
      subst hi2
      exact kk h H locs ls hP hD hS hl
    · have hlt : i < 255 := by
        rcases Nat.lt_or_ge i 255 with q1 | q1
        · exact q1
        · exact absurd (nI_le q1 (by omega)) hc
      refine lv_aload_n hx hb dX15_unpacked_57 rfl (lv_at hl 3 rfl) ?_
      refine lv_iload hx hb dX15_unpacked_58 (lv_at hl 4 rfl) ?_
      refine lv_aload_n hx hb dX15_unpacked_60 rfl (lv_at hl 0 rfl) ?_
      refine lv_iload_n hx hb dX15_unpacked_61 rfl (lv_at hl 2 rfl) ?_
      refine lv_iconst (v := nI 2) hx hb dX15_unpacked_62 (by decide) ?_
      refine lv_iadd hx hb dX15_unpacked_63 ?_
      refine lv_topi (fun y ey => ?_)
      have ey2 : y = nI (3 * t + 2) := ey.trans (nI_add _ _)
      refine va_iald (D := (dC, dI)) hx hb hK hP 0 0 rfl rfl (by rw [ey2]; exact vp_in_nI (by omega) (by omega)) dX15_unpacked_64 ?_
      refine va_iast (D := (dC, dI)) hx hb hK hP hD hS 2 2 rfl rfl (vp_in_nI hlt (by omega)) dX15_unpacked_65 (fun H locs hP hD hS => ?_)
      refine lv_iinc (v := nI (i + 1)) (lv' := [(4, .int (nI (i + 1))), (0, .ref a), (1, .ref r), (2, .int (nI (3 * t))), (3, .ref q)]) hx hb dX15_unpacked_66 hl (k := 4) rfl (by rw [nI_succ]; rfl) (by decide) rfl (fun ls hl => ?_)
      refine lv_goto (tgt := 50) hx hb dX15_unpacked_69 (by decide) ?_
      exact ih (i + 1) (by omega) (by omega) _ H locs ls hP hD hS (lv_sub hl [1, 2, 3, 4, 0] rfl)
set_option maxHeartbeats 4000000 in
set_option maxRecDepth 100000 in
/-- the outer loop, from the t-th run on, to the 255 that lacks its number -/
theorem unp_loop {p : Program} {l : Launch} {e : Env} {R : Room} {s : State} {m : MethodId} {args : Array Value} {below : List Frame} {meth : Method} {c : Code} {Q : State → Prop} {cl : List vw_C} {dC : Nat → ClassId} {dI : Nat → Nat → Nat} {A : Nat → Prop} {H0 : Heap} {a : Nat} {f : Nat → Int32} {cA : ClassId}
    (hx : p.tables.exec = Jvm.exec) (hb : c.code = cX15_unpacked) (hml : c.maxLocals = 5) (hown : s.vm.findClass RX15 = some m.cls) (hts : ∀ w ∈ us_unpacked, w.before args s = true) (hA : ∀ q : Nat, H0.size ≤ q → A q)
    (hRf : 1 ≤ R.frames) (hRl : 23 ≤ R.locals) (hRc : 133 ≤ R.cells) (hRs : 580635 ≤ R.slots) (hf : ∀ j, j < 199 → f j = 255)
    (kk : ∀ (pl : va_W) (H : Heap) (locs : List Loc) (ls : Array Slot), us pl = 580635 → va_K (dC, dI) cl [(cA, .int)] s → va_P (dC, dI) cl (wa a cA 199 f :: pl) H → va_D A (wa a cA 199 f :: pl) → va_S A H0 H locs → W p l e R s m args below meth c H locs 133 580635 Q (F0 m 37 ls [])) :
    ∀ (k t : Nat), t + k = 66 → ∀ (r : Nat) (cR : ClassId) (g : Nat → Int32) (pl : va_W) (H : Heap) (locs : List Loc) (ls : Array Slot), us pl + 255 * t = uT t → va_K (dC, dI) cl [(cA, .int), (cR, .int)] s → va_P (dC, dI) cl (wa a cA 199 f :: wa r cR (255 * t) g :: pl) H → va_D A (wa a cA 199 f :: wa r cR (255 * t) g :: pl) → va_S A H0 H locs → lv_has ls 5 [(0, .ref a), (1, .ref r), (2, .int (nI (3 * t)))] → W p l e R s m args below meth c H locs (1 + 2 * t) (uT t) Q (F0 m 6 ls []) := by
  intro k
  induction k with
  | zero =>
    intro t ht r cR g pl H locs ls hu hK hP hD hS hl
    have ht66 : t = 66 := by omega
    subst ht66
    refine lv_iload_n hx hb dX15_unpacked_6 rfl (lv_at hl 2 rfl) ?_
    refine lv_aload_n hx hb dX15_unpacked_7 rfl (lv_at hl 0 rfl) ?_
    refine va_alen (D := (dC, dI)) hx hb hK hP 0 0 rfl rfl rfl dX15_unpacked_8 ?_
    refine lv_icmp_ge (tgt := 104) hx hb dX15_unpacked_9 (by decide) (fun hc => absurd hc (nI_ge (a := 3 * 66) (b := 199) (by omega) (by omega))) (fun _ => ?_)
    refine lv_aload_n hx hb dX15_unpacked_12 rfl (lv_at hl 0 rfl) ?_
    refine lv_iload_n hx hb dX15_unpacked_13 rfl (lv_at hl 2 rfl) ?_
    refine va_iald (D := (dC, dI)) hx hb hK hP 0 0 rfl rfl (vp_in_nI (by omega) (by omega)) dX15_unpacked_14 ?_
    refine lv_sipush (v := 255) hx hb dX15_unpacked_15 (by decide) ?_
    refine lv_icmp_ne (tgt := 84) hx hb dX15_unpacked_18 (by decide) (fun hc => absurd (hf _ (by rw [nI_clamp (by omega)]; omega)) hc) (fun _ => ?_)
    refine lv_iload_n hx hb dX15_unpacked_21 rfl (lv_at hl 2 rfl) ?_
    refine lv_iconst (v := nI 2) hx hb dX15_unpacked_22 (by decide) ?_
    refine lv_iadd hx hb dX15_unpacked_23 ?_
    refine lv_topi (fun y ey => ?_)
    have ey2 : y = nI 200 := ey.trans (nI_add _ _)
    refine lv_aload_n hx hb dX15_unpacked_24 rfl (lv_at hl 0 rfl) ?_
    refine va_alen (D := (dC, dI)) hx hb hK hP 0 0 rfl rfl rfl dX15_unpacked_25 ?_
    refine lv_icmp_ge (tgt := 37) hx hb dX15_unpacked_26 (by decide) (fun _ => ?_) (fun hc => absurd (by rw [ey2]; exact nI_le (a := 199) (b := 200) (by omega) (by omega)) hc)
    rw [uT_66]
    refine kk (wa r cR (255 * 66) g :: pl) H locs ls ?_ (hK.sub [0] rfl) hP hD hS
    rw [us_cons, us_wa]
    have := uT_66
    omega
  | succ k ih =>
    intro t ht r cR g pl H locs ls hu hK hP hD hS hl
    have ht66 : t < 66 := by omega
    have huT : uT (t + 1) = uT t + 255 + 255 * (t + 1) := rfl
    have huL := uT_le (t + 1) (by omega)
    refine lv_iload_n hx hb dX15_unpacked_6 rfl (lv_at hl 2 rfl) ?_
    refine lv_aload_n hx hb dX15_unpacked_7 rfl (lv_at hl 0 rfl) ?_
    refine va_alen (D := (dC, dI)) hx hb hK hP 0 0 rfl rfl rfl dX15_unpacked_8 ?_
    refine lv_icmp_ge (tgt := 104) hx hb dX15_unpacked_9 (by decide) (fun hc => absurd hc (nI_ge (a := 3 * t) (b := 199) (by omega) (by omega))) (fun _ => ?_)
    refine lv_aload_n hx hb dX15_unpacked_12 rfl (lv_at hl 0 rfl) ?_
    refine lv_iload_n hx hb dX15_unpacked_13 rfl (lv_at hl 2 rfl) ?_
    refine va_iald (D := (dC, dI)) hx hb hK hP 0 0 rfl rfl (vp_in_nI (by omega) (by omega)) dX15_unpacked_14 ?_
    refine lv_sipush (v := 255) hx hb dX15_unpacked_15 (by decide) ?_
    refine lv_icmp_ne (tgt := 84) hx hb dX15_unpacked_18 (by decide) (fun hc => absurd (hf _ (by rw [nI_clamp (by omega)]; omega)) hc) (fun _ => ?_)
    refine lv_iload_n hx hb dX15_unpacked_21 rfl (lv_at hl 2 rfl) ?_
    refine lv_iconst (v := nI 2) hx hb dX15_unpacked_22 (by decide) ?_
    refine lv_iadd hx hb dX15_unpacked_23 ?_
    refine lv_topi (fun y ey => ?_)
    have ey2 : y = nI (3 * t + 2) := ey.trans (nI_add _ _)
    refine lv_aload_n hx hb dX15_unpacked_24 rfl (lv_at hl 0 rfl) ?_
    refine va_alen (D := (dC, dI)) hx hb hK hP 0 0 rfl rfl rfl dX15_unpacked_25 ?_
    refine lv_icmp_ge (tgt := 37) hx hb dX15_unpacked_26 (by decide) (fun hc => absurd hc (by rw [ey2]; exact nI_ge (a := 3 * t + 2) (b := 199) (by omega) (by omega))) (fun _ => ?_)
    refine lv_aload_n hx hb dX15_unpacked_29 rfl (lv_at hl 0 rfl) ?_
    refine lv_iload_n hx hb dX15_unpacked_30 rfl (lv_at hl 2 rfl) ?_
    refine lv_iconst (v := nI 1) hx hb dX15_unpacked_31 (by decide) ?_
    refine lv_iadd hx hb dX15_unpacked_32 ?_
    refine lv_topi (fun y1 ey1 => ?_)
    have ey3 : y1 = nI (3 * t + 1) := ey1.trans (nI_add _ _)
    have hin1 : vp_in y1 199 := by rw [ey3]; exact vp_in_nI (by omega) (by omega)
    refine va_iald (D := (dC, dI)) hx hb hK hP 0 0 rfl rfl hin1 dX15_unpacked_33 ?_
    have hv1 : f y1.toNatClampNeg = 255 := hf _ (by rw [ey3, nI_clamp (by omega)]; omega)
    rw [hv1]
    refine lv_if_ne (tgt := 39) hx hb dX15_unpacked_34 (by decide) (fun _ => ?_) (fun hc => absurd hc (by decide))
    refine lv_aload_n hx hb dX15_unpacked_39 rfl (lv_at hl 0 rfl) ?_
    refine lv_iload_n hx hb dX15_unpacked_40 rfl (lv_at hl 2 rfl) ?_
    refine lv_iconst (v := nI 1) hx hb dX15_unpacked_41 (by decide) ?_
    refine lv_iadd hx hb dX15_unpacked_42 ?_
    rw [← ey1]
    refine va_iald (D := (dC, dI)) hx hb hK hP 0 0 rfl rfl hin1 dX15_unpacked_43 ?_
    rw [hv1]
    refine va_newa (D := (dC, dI)) (atype := .int) (N' := 255) (a0 := (255, .inl (fun _ => 0))) hx hb (hts (.arrayClass .int) (by decide +kernel)) rfl hK hP hD hS hA (fun _ => rfl) (by decide) (by decide) (by decide) (by omega) (by omega) dX15_unpacked_44 (fun q cQ H hK hP hD hS => ?_)
    have hK : va_K (dC, dI) cl [(cA, .int), (cR, .int), (cQ, .int)] s := hK
    have hpm : ((wa a cA 199 f :: wa r cR (255 * t) g :: pl) ++ [wa q cQ 255 (fun _ => 0)]).Perm (wa a cA 199 f :: wa r cR (255 * t) g :: wa q cQ 255 (fun _ => 0) :: pl) := List.Perm.cons _ (List.Perm.cons _ (List.perm_append_singleton _ _))
    have hP := uv_Pp hpm hP
    have hD := uv_Dp hpm hD
    refine lv_astore_n (lv' := [(3, .ref q), (0, .ref a), (1, .ref r), (2, .int (nI (3 * t)))]) hx hb dX15_unpacked_46 rfl hl (by decide) rfl (fun ls hl => ?_)
    refine lv_iconst (v := nI 0) hx hb dX15_unpacked_47 (by decide) ?_
    refine lv_istore (lv' := [(4, .int (nI 0)), (3, .ref q), (0, .ref a), (1, .ref r), (2, .int (nI (3 * t)))]) hx hb dX15_unpacked_48 hl (by decide) rfl (fun ls hl => ?_)
    refine unp_fill (A := A) (H0 := H0) (g := g) hx hb ht66 hK ?_ 256 0 (by omega) (by omega) _ H _ ls hP hD hS (lv_sub hl [2, 3, 4, 1, 0] rfl)
    intro h H locs ls hP hD hS hl
    refine lv_aload_n hx hb dX15_unpacked_72 rfl (lv_at hl 1 rfl) ?_
    refine lv_aload_n hx hb dX15_unpacked_73 rfl (lv_at hl 3 rfl) ?_
    have hpc : (wa a cA 199 f :: wa r cR (255 * t) g :: wa q cQ 255 h :: pl).Perm ([wa r cR (255 * t) g, wa q cQ 255 h] ++ (wa a cA 199 f :: pl)) := (List.Perm.swap _ _ _).trans (List.Perm.cons _ (List.Perm.swap _ _ _))
    have hPc := uv_Ps (List.sublist_append_left [wa r cR (255 * t) g, wa q cQ 255 h] (wa a cA 199 f :: pl)) (uv_Pp hpc hP)
    have hDc := uv_Ds (List.sublist_append_left [wa r cR (255 * t) g, wa q cQ 255 h] (wa a cA 199 f :: pl)) (uv_Dp hpc hD)
    have hKc := hK.sub (tys' := [(cR, .int), (cQ, .int)]) [1, 2] rfl
    have hFc := uv_free hD hS hA hpc
    refine va_callr (va_runS (As := [.ref r, .ref q]) (rest := []) ⟨hx, hb, hml, hown, hts⟩ (c_joined l cl dC dI r q H.size (255 * t) 255 g h cR cQ (by omega)) (va_cwS 2 hts ug_unpacked_joined rfl rfl rfl (by decide +kernel) ⟨hRf, hRl⟩) ⟨fun a U g mk q => by obtain ⟨q0, q1, qP, qK, qD⟩ := q; exact ⟨q0, q1, qP, va_K.moved (u := U) (U := U.calling g mk a) (Vm.Alike.refl U.vm) qK, qD⟩, fun U hU hW => ⟨rfl, by rw [hU], by rw [hU]; exact hPc, va_K.moved hW.alike hKc, hDc.weaken (fun _ _ _ _ => trivial)⟩⟩ rfl rfl hl.1 rfl (lv_room (Nat.le_of_ble_eq_true rfl)) dX15_unpacked_74 ⟨by omega, by omega⟩) hS (fun q _ h => hFc q h) hFc (fun u rr t1 H1 locs1 ht1 hvm hw hB hz1 hk1 hS => ?_)
    obtain ⟨cR2, g2⟩ := u
    obtain ⟨hP1, hK1, hD1⟩ := hB
    rw [ht1] at hP1
    have hK1 := va_K.moved hvm.symm hK1
    obtain ⟨hP, hD⟩ := uv_join hP hD hpc hk1 hFc hP1 hD1
    have hK := (hK.sub (tys' := [(cA, .int)]) [0] rfl).app (hK1.sub (tys' := [(cR2, .int)]) [2] rfl)
    refine lv_astore_n (lv' := [(1, .ref rr), (0, .ref a), (2, .int (nI (3 * t))), (3, .ref q), (4, .int (nI 255))]) hx hb dX15_unpacked_77 rfl hl (by decide) rfl (fun ls hl => ?_)
    refine lv_iinc (v := nI (3 * (t + 1))) (lv' := [(2, .int (nI (3 * (t + 1)))), (1, .ref rr), (0, .ref a), (3, .ref q), (4, .int (nI 255))]) hx hb dX15_unpacked_78 hl (k := 2) rfl (by rw [show Int32.ofInt 3 = nI 3 from rfl, nI_add]; rfl) (by decide) rfl (fun ls hl => ?_)
    refine lv_goto (tgt := 6) hx hb dX15_unpacked_81 (by decide) ?_
    have hpe : ([wa r cR (255 * t) g, wa q cQ 255 h, wa rr cR2 (255 * t + 255) g2] ++ (wa a cA 199 f :: pl)).Perm (wa a cA 199 f :: wa rr cR2 (255 * (t + 1)) g2 :: wa r cR (255 * t) g :: wa q cQ 255 h :: pl) := by
      have e1 : 255 * (t + 1) = 255 * t + 255 := by omega
      rw [e1]
      refine (List.perm_middle (l₁ := [wa r cR (255 * t) g, wa q cQ 255 h, wa rr cR2 (255 * t + 255) g2])).trans (List.Perm.cons _ ?_)
      exact List.perm_middle (l₁ := [wa r cR (255 * t) g, wa q cQ 255 h]) (l₂ := pl)
    have e2 : 1 + 2 * t + 1 + 1 = 1 + 2 * (t + 1) := by omega
    have e3 : uT t + 255 + (255 * t + 255) = uT (t + 1) := by rw [huT]; omega
    rw [e2, e3]
    exact ih (t + 1) (by omega) rr cR2 g2 (wa r cR (255 * t) g :: wa q cQ 255 h :: pl) H1 locs1 ls (by rw [us_cons, us_cons, us_wa, us_wa, huT]; omega) hK (uv_Pp hpe hP) (uv_Dp hpe hD) hS (lv_sub hl [2, 1, 0] rfl)
/-- a method that answers null, with a list of cells that it made -/
def un_Q (B : va_W → State → Prop) (A : Nat → Prop) : Array Value → State → Outcome → State → Prop := fun _ st oc t => (∃ pl : va_W, oc = .returned (some .null) ∧ B pl t) ∧ va_F A st t
set_option maxHeartbeats 4000000 in
set_option maxRecDepth 100000 in
/-- unpacked of 199 bytes 255: null, and 580635 slots are made -/
theorem c_unpacked (l : Launch) (cl : List vw_C) (dC : Nat → ClassId) (dI : Nat → Nat → Nat) (a sz : Nat) (f : Nat → Int32) (cA : ClassId) (hf : ∀ j, j < 199 → f j = 255) : Met l yX15_unpacked us_unpacked ({ frames := 1, cells := 133, slots := 580635, locals := 23 }) (va_Pc [.ref a] (fun U => U.heap.size = sz ∧ va_P (dC, dI) cl [wa a cA 199 f] U.heap ∧ va_K (dC, dI) cl [(cA, .int)] U ∧ va_D (fun _ => True) [wa a cA 199 f])) (un_Q (fun pl t => us pl = 580635 ∧ va_P (dC, dI) cl (wa a cA 199 f :: pl) t.heap ∧ va_K (dC, dI) cl [(cA, .int)] t ∧ va_D (va_A [wa a cA 199 f] sz) (wa a cA 199 f :: pl)) (va_A [wa a cA 199 f] sz)) 133 580635 (va_A [wa a cA 199 f] sz) := by
  refine Met.ofW (cc := cX15_unpacked) (maxL := 5) (ret := (some (.array .int))) (by decide) rfl ?_
  intro p e s m args below meth c s₁ B hml hv
  obtain ⟨rfl, hsz, hP, hK, hD0⟩ := hv
  have hx := B.exec
  have hb := B.bytes
  have hr := B.returns
  have hts := atoms_spec (ws := us_unpacked) B.pre
  have hown : s.vm.findClass RX15 = some m.cls := findClass_of_methodNamed B.named
  have hlocks := B.notSynchronized
  subst hsz
  have hD := hD0.self (sz := s.heap.size)
  generalize hAe : va_A [wa a cA 199 f] s.heap.size = A at hD ⊢
  have hA : ∀ q : Nat, s.heap.size ≤ q → A q := fun q h => by rw [← hAe]; exact Or.inr h
  have hS : va_S A s.heap s.heap [] := va_S.rf
  have hl := lv_entry ([.ref a]) (n := 5) (Nat.le_of_ble_eq_true rfl)
  rw [lg_entry_eq]
  generalize (lg_sl ([.ref a]) ++ List.replicate (5 - (lg_sl ([.ref a])).length) Slot.unset).toArray = ls at hl ⊢
  have hl : lv_has ls 5 [(0, .ref a)] := hl
  refine lv_iconst (v := nI 0) hx hb dX15_unpacked_0 (by decide) ?_
  refine va_newa (D := (dC, dI)) (atype := .int) (N' := 0) (a0 := (0, .inl (fun _ => 0))) hx hb (hts (.arrayClass .int) (by decide +kernel)) rfl hK hP hD hS hA (fun _ => rfl) (by decide) (by decide) (by decide) (Nat.le_of_ble_eq_true rfl) (Nat.le_of_ble_eq_true rfl) dX15_unpacked_1 (fun r cR H hK hP hD hS => ?_)
  refine lv_astore_n (lv' := [(1, .ref r), (0, .ref a)]) hx hb dX15_unpacked_3 rfl hl (by decide) rfl (fun ls hl => ?_)
  refine lv_iconst (v := nI 0) hx hb dX15_unpacked_4 (by decide) ?_
  refine lv_istore_n (lv' := [(2, .int (nI 0)), (1, .ref r), (0, .ref a)]) hx hb dX15_unpacked_5 rfl hl (by decide) rfl (fun ls hl => ?_)
  refine unp_loop (A := A) (H0 := s.heap) (f := f) hx hb hml hown hts hA (Nat.le_of_ble_eq_true rfl) (Nat.le_of_ble_eq_true rfl) (Nat.le_of_ble_eq_true rfl) (Nat.le_of_ble_eq_true rfl) hf ?_ 66 0 rfl r cR (fun _ => 0) [] H _ ls rfl hK hP hD hS (lv_sub hl [2, 1, 0] rfl)
  intro pl H locs ls hu hK hP hD hS
  refine lv_null hx hb dX15_unpacked_37 ?_
  exact W.aret (v := .null) hx hb hr (Or.inr ⟨_, rfl⟩) (Or.inl rfl) (fun t ht hW => ⟨⟨pl, rfl, hu, by rw [ht]; exact hP, va_K.moved hW.alike hK, hD⟩, hS.F ht⟩) hS.2.2 dX15_unpacked_38
end
