section
-- ===== PART A: goes FIRST, ahead of the names: the tables' words, and 'selects' of the private methods out of them =====
/-- a private method of a class that the tables say can be made, by its rows of tables_1 -/
def lw_okq (q : MethodName × Nat) : Prop := (q.1.cls ≠ "java/lang/invoke/MethodHandle" ∧ q.1.cls ≠ "java/lang/invoke/VarHandle") ∧ Cond.instantiable q.1.cls q.2 ∈ tables_1 ∧ Cond.privateMethod q.1 ∈ tables_1 ∧ Cond.instanceMethod q.1 ∈ tables_1
theorem lw_p0 : lw_okq (⟨"java/lang/Throwable", "fillInStackTrace", "(I)Ljava/lang/Throwable;"⟩, 6) := ⟨⟨by decide +kernel, by decide +kernel⟩, List.mem_of_getElem? (i := 558) (by decide +kernel), List.mem_of_getElem? (i := 556) (by decide +kernel), List.mem_of_getElem? (i := 557) (by decide +kernel)⟩
theorem lw_p1 : lw_okq (⟨"Patchferry", "comesBackLabelled", "(LPatchferry$Row;)Z"⟩, 19) := ⟨⟨by decide +kernel, by decide +kernel⟩, List.mem_of_getElem? (i := 46) (by decide +kernel), List.mem_of_getElem? (i := 925) (by decide +kernel), List.mem_of_getElem? (i := 926) (by decide +kernel)⟩
theorem lw_p2 : lw_okq (⟨"Patchferry", "writeLabelled", "(LPatchferry$Row;LPatchferry$Row;)Z"⟩, 19) := ⟨⟨by decide +kernel, by decide +kernel⟩, List.mem_of_getElem? (i := 46) (by decide +kernel), List.mem_of_getElem? (i := 929) (by decide +kernel), List.mem_of_getElem? (i := 930) (by decide +kernel)⟩
theorem lw_p3 : lw_okq (⟨"Patchferry", "comesBackPacked", "(LPatchferry$Row;)Z"⟩, 19) := ⟨⟨by decide +kernel, by decide +kernel⟩, List.mem_of_getElem? (i := 46) (by decide +kernel), List.mem_of_getElem? (i := 968) (by decide +kernel), List.mem_of_getElem? (i := 969) (by decide +kernel)⟩
theorem lw_p4 : lw_okq (⟨"Patchferry$Runs", "foldPart", "(IIZLPatchferry$Row;)V"⟩, 2) := ⟨⟨by decide +kernel, by decide +kernel⟩, List.mem_of_getElem? (i := 133) (by decide +kernel), List.mem_of_getElem? (i := 1010) (by decide +kernel), List.mem_of_getElem? (i := 1011) (by decide +kernel)⟩
theorem lw_p5 : lw_okq (⟨"Patchferry", "versionsStand", "()Z"⟩, 19) := ⟨⟨by decide +kernel, by decide +kernel⟩, List.mem_of_getElem? (i := 46) (by decide +kernel), List.mem_of_getElem? (i := 1026) (by decide +kernel), List.mem_of_getElem? (i := 1027) (by decide +kernel)⟩
theorem lw_p6 : lw_okq (⟨"Patchferry$Patch", "restart", "(LPatchferry$Row;)V"⟩, 4) := ⟨⟨by decide +kernel, by decide +kernel⟩, List.mem_of_getElem? (i := 190) (by decide +kernel), List.mem_of_getElem? (i := 1044) (by decide +kernel), List.mem_of_getElem? (i := 1045) (by decide +kernel)⟩
theorem lw_p7 : lw_okq (⟨"Patchferry$Patch", "addOperation", "(II)V"⟩, 4) := ⟨⟨by decide +kernel, by decide +kernel⟩, List.mem_of_getElem? (i := 190) (by decide +kernel), List.mem_of_getElem? (i := 1090) (by decide +kernel), List.mem_of_getElem? (i := 1091) (by decide +kernel)⟩
theorem lw_p8 : lw_okq (⟨"Patchferry$Store", "cutOf", "(I)LPatchferry$Row;"⟩, 14) := ⟨⟨by decide +kernel, by decide +kernel⟩, List.mem_of_getElem? (i := 232) (by decide +kernel), List.mem_of_getElem? (i := 1125) (by decide +kernel), List.mem_of_getElem? (i := 1126) (by decide +kernel)⟩
theorem lw_p9 : lw_okq (⟨"Patchferry$Store", "countPieces", "(LPatchferry$Row;)V"⟩, 14) := ⟨⟨by decide +kernel, by decide +kernel⟩, List.mem_of_getElem? (i := 232) (by decide +kernel), List.mem_of_getElem? (i := 1130) (by decide +kernel), List.mem_of_getElem? (i := 1131) (by decide +kernel)⟩
theorem lw_p10 : lw_okq (⟨"Patchferry", "diskStands", "()Z"⟩, 19) := ⟨⟨by decide +kernel, by decide +kernel⟩, List.mem_of_getElem? (i := 46) (by decide +kernel), List.mem_of_getElem? (i := 1134) (by decide +kernel), List.mem_of_getElem? (i := 1135) (by decide +kernel)⟩
theorem lw_p11 : lw_okq (⟨"Patchferry", "needByte", "(I)V"⟩, 19) := ⟨⟨by decide +kernel, by decide +kernel⟩, List.mem_of_getElem? (i := 46) (by decide +kernel), List.mem_of_getElem? (i := 1160) (by decide +kernel), List.mem_of_getElem? (i := 1161) (by decide +kernel)⟩
theorem lw_p12 : lw_okq (⟨"Patchferry", "needBuffer", "(I)V"⟩, 19) := ⟨⟨by decide +kernel, by decide +kernel⟩, List.mem_of_getElem? (i := 46) (by decide +kernel), List.mem_of_getElem? (i := 1167) (by decide +kernel), List.mem_of_getElem? (i := 1168) (by decide +kernel)⟩
theorem lw_p13 : lw_okq (⟨"Patchferry", "needMany", "(I)V"⟩, 19) := ⟨⟨by decide +kernel, by decide +kernel⟩, List.mem_of_getElem? (i := 46) (by decide +kernel), List.mem_of_getElem? (i := 1195) (by decide +kernel), List.mem_of_getElem? (i := 1196) (by decide +kernel)⟩
theorem lw_p14 : lw_okq (⟨"Patchferry", "held", "(I)LPatchferry$Row;"⟩, 19) := ⟨⟨by decide +kernel, by decide +kernel⟩, List.mem_of_getElem? (i := 46) (by decide +kernel), List.mem_of_getElem? (i := 1208) (by decide +kernel), List.mem_of_getElem? (i := 1209) (by decide +kernel)⟩
theorem lw_p15 : lw_okq (⟨"Patchferry", "keep", "(LPatchferry$Row;)I"⟩, 19) := ⟨⟨by decide +kernel, by decide +kernel⟩, List.mem_of_getElem? (i := 46) (by decide +kernel), List.mem_of_getElem? (i := 1234) (by decide +kernel), List.mem_of_getElem? (i := 1235) (by decide +kernel)⟩
def lw_privs_1 : List (MethodName × Nat) := [(⟨"java/lang/Throwable", "fillInStackTrace", "(I)Ljava/lang/Throwable;"⟩, 6), (⟨"Patchferry", "comesBackLabelled", "(LPatchferry$Row;)Z"⟩, 19), (⟨"Patchferry", "writeLabelled", "(LPatchferry$Row;LPatchferry$Row;)Z"⟩, 19), (⟨"Patchferry", "comesBackPacked", "(LPatchferry$Row;)Z"⟩, 19), (⟨"Patchferry$Runs", "foldPart", "(IIZLPatchferry$Row;)V"⟩, 2), (⟨"Patchferry", "versionsStand", "()Z"⟩, 19), (⟨"Patchferry$Patch", "restart", "(LPatchferry$Row;)V"⟩, 4), (⟨"Patchferry$Patch", "addOperation", "(II)V"⟩, 4), (⟨"Patchferry$Store", "cutOf", "(I)LPatchferry$Row;"⟩, 14), (⟨"Patchferry$Store", "countPieces", "(LPatchferry$Row;)V"⟩, 14), (⟨"Patchferry", "diskStands", "()Z"⟩, 19), (⟨"Patchferry", "needByte", "(I)V"⟩, 19), (⟨"Patchferry", "needBuffer", "(I)V"⟩, 19), (⟨"Patchferry", "needMany", "(I)V"⟩, 19), (⟨"Patchferry", "held", "(I)LPatchferry$Row;"⟩, 19), (⟨"Patchferry", "keep", "(LPatchferry$Row;)I"⟩, 19)]
theorem lw_r1 : ∀ q ∈ lw_privs_1, lw_okq q := List.forall_mem_cons.mpr ⟨lw_p0, List.forall_mem_cons.mpr ⟨lw_p1, List.forall_mem_cons.mpr ⟨lw_p2, List.forall_mem_cons.mpr ⟨lw_p3, List.forall_mem_cons.mpr ⟨lw_p4, List.forall_mem_cons.mpr ⟨lw_p5, List.forall_mem_cons.mpr ⟨lw_p6, List.forall_mem_cons.mpr ⟨lw_p7, List.forall_mem_cons.mpr ⟨lw_p8, List.forall_mem_cons.mpr ⟨lw_p9, List.forall_mem_cons.mpr ⟨lw_p10, List.forall_mem_cons.mpr ⟨lw_p11, List.forall_mem_cons.mpr ⟨lw_p12, List.forall_mem_cons.mpr ⟨lw_p13, List.forall_mem_cons.mpr ⟨lw_p14, List.forall_mem_cons.mpr ⟨lw_p15, fun _ h => absurd h List.not_mem_nil⟩⟩⟩⟩⟩⟩⟩⟩⟩⟩⟩⟩⟩⟩⟩⟩
theorem lw_p16 : lw_okq (⟨"Patchferry", "needFileRoom", "(I)V"⟩, 19) := ⟨⟨by decide +kernel, by decide +kernel⟩, List.mem_of_getElem? (i := 46) (by decide +kernel), List.mem_of_getElem? (i := 1238) (by decide +kernel), List.mem_of_getElem? (i := 1239) (by decide +kernel)⟩
theorem lw_p17 : lw_okq (⟨"java/util/ArrayList", "add", "(Ljava/lang/Object;[Ljava/lang/Object;I)V"⟩, 3) := ⟨⟨by decide +kernel, by decide +kernel⟩, List.mem_of_getElem? (i := 54) (by decide +kernel), List.mem_of_getElem? (i := 1259) (by decide +kernel), List.mem_of_getElem? (i := 1260) (by decide +kernel)⟩
theorem lw_p18 : lw_okq (⟨"java/util/ArrayList", "grow", "()[Ljava/lang/Object;"⟩, 3) := ⟨⟨by decide +kernel, by decide +kernel⟩, List.mem_of_getElem? (i := 54) (by decide +kernel), List.mem_of_getElem? (i := 1263) (by decide +kernel), List.mem_of_getElem? (i := 1264) (by decide +kernel)⟩
theorem lw_p19 : lw_okq (⟨"java/util/ArrayList", "grow", "(I)[Ljava/lang/Object;"⟩, 3) := ⟨⟨by decide +kernel, by decide +kernel⟩, List.mem_of_getElem? (i := 54) (by decide +kernel), List.mem_of_getElem? (i := 1267) (by decide +kernel), List.mem_of_getElem? (i := 1268) (by decide +kernel)⟩
theorem lw_p20 : lw_okq (⟨"Patchferry$Store", "isCut", "(LPatchferry$Row;II)Z"⟩, 14) := ⟨⟨by decide +kernel, by decide +kernel⟩, List.mem_of_getElem? (i := 232) (by decide +kernel), List.mem_of_getElem? (i := 1322) (by decide +kernel), List.mem_of_getElem? (i := 1323) (by decide +kernel)⟩
theorem lw_p21 : lw_okq (⟨"Patchferry$Store", "numberOf", "(LPatchferry$Row;III)I"⟩, 14) := ⟨⟨by decide +kernel, by decide +kernel⟩, List.mem_of_getElem? (i := 232) (by decide +kernel), List.mem_of_getElem? (i := 1326) (by decide +kernel), List.mem_of_getElem? (i := 1327) (by decide +kernel)⟩
theorem lw_p22 : lw_okq (⟨"Patchferry$Store", "textOf", "(I)LPatchferry$Row;"⟩, 14) := ⟨⟨by decide +kernel, by decide +kernel⟩, List.mem_of_getElem? (i := 232) (by decide +kernel), List.mem_of_getElem? (i := 1335) (by decide +kernel), List.mem_of_getElem? (i := 1336) (by decide +kernel)⟩
theorem lw_p23 : lw_okq (⟨"Patchferry", "needIndex", "(II)V"⟩, 19) := ⟨⟨by decide +kernel, by decide +kernel⟩, List.mem_of_getElem? (i := 46) (by decide +kernel), List.mem_of_getElem? (i := 1355) (by decide +kernel), List.mem_of_getElem? (i := 1356) (by decide +kernel)⟩
theorem lw_p24 : lw_okq (⟨"Patchferry", "rankEnds", "(LPatchferry$Row;LPatchferry$Row;)V"⟩, 19) := ⟨⟨by decide +kernel, by decide +kernel⟩, List.mem_of_getElem? (i := 46) (by decide +kernel), List.mem_of_getElem? (i := 1404) (by decide +kernel), List.mem_of_getElem? (i := 1405) (by decide +kernel)⟩
theorem lw_p25 : lw_okq (⟨"Patchferry", "seekMatch", "(III)V"⟩, 19) := ⟨⟨by decide +kernel, by decide +kernel⟩, List.mem_of_getElem? (i := 46) (by decide +kernel), List.mem_of_getElem? (i := 1416) (by decide +kernel), List.mem_of_getElem? (i := 1417) (by decide +kernel)⟩
theorem lw_p26 : lw_okq (⟨"Patchferry", "needPatchRoom", "()V"⟩, 19) := ⟨⟨by decide +kernel, by decide +kernel⟩, List.mem_of_getElem? (i := 46) (by decide +kernel), List.mem_of_getElem? (i := 1461) (by decide +kernel), List.mem_of_getElem? (i := 1462) (by decide +kernel)⟩
theorem lw_p27 : lw_okq (⟨"Patchferry", "keepPatch", "(LPatchferry$Patch;)I"⟩, 19) := ⟨⟨by decide +kernel, by decide +kernel⟩, List.mem_of_getElem? (i := 46) (by decide +kernel), List.mem_of_getElem? (i := 1466) (by decide +kernel), List.mem_of_getElem? (i := 1467) (by decide +kernel)⟩
theorem lw_p28 : lw_okq (⟨"Patchferry", "known", "(I)LPatchferry$Patch;"⟩, 19) := ⟨⟨by decide +kernel, by decide +kernel⟩, List.mem_of_getElem? (i := 46) (by decide +kernel), List.mem_of_getElem? (i := 1477) (by decide +kernel), List.mem_of_getElem? (i := 1478) (by decide +kernel)⟩
theorem lw_p29 : lw_okq (⟨"Patchferry$Patch", "changedIn", "(II)I"⟩, 4) := ⟨⟨by decide +kernel, by decide +kernel⟩, List.mem_of_getElem? (i := 190) (by decide +kernel), List.mem_of_getElem? (i := 1518) (by decide +kernel), List.mem_of_getElem? (i := 1519) (by decide +kernel)⟩
theorem lw_p30 : lw_okq (⟨"Patchferry$Patch", "joinCopy", "(LPatchferry$Patch;LPatchferry$Patch;III)V"⟩, 4) := ⟨⟨by decide +kernel, by decide +kernel⟩, List.mem_of_getElem? (i := 190) (by decide +kernel), List.mem_of_getElem? (i := 1582) (by decide +kernel), List.mem_of_getElem? (i := 1583) (by decide +kernel)⟩
theorem lw_p31 : lw_okq (⟨"Patchferry$Edits", "closeGap", "(III)V"⟩, 4) := ⟨⟨by decide +kernel, by decide +kernel⟩, List.mem_of_getElem? (i := 211) (by decide +kernel), List.mem_of_getElem? (i := 1606) (by decide +kernel), List.mem_of_getElem? (i := 1607) (by decide +kernel)⟩
def lw_privs_2 : List (MethodName × Nat) := [(⟨"Patchferry", "needFileRoom", "(I)V"⟩, 19), (⟨"java/util/ArrayList", "add", "(Ljava/lang/Object;[Ljava/lang/Object;I)V"⟩, 3), (⟨"java/util/ArrayList", "grow", "()[Ljava/lang/Object;"⟩, 3), (⟨"java/util/ArrayList", "grow", "(I)[Ljava/lang/Object;"⟩, 3), (⟨"Patchferry$Store", "isCut", "(LPatchferry$Row;II)Z"⟩, 14), (⟨"Patchferry$Store", "numberOf", "(LPatchferry$Row;III)I"⟩, 14), (⟨"Patchferry$Store", "textOf", "(I)LPatchferry$Row;"⟩, 14), (⟨"Patchferry", "needIndex", "(II)V"⟩, 19), (⟨"Patchferry", "rankEnds", "(LPatchferry$Row;LPatchferry$Row;)V"⟩, 19), (⟨"Patchferry", "seekMatch", "(III)V"⟩, 19), (⟨"Patchferry", "needPatchRoom", "()V"⟩, 19), (⟨"Patchferry", "keepPatch", "(LPatchferry$Patch;)I"⟩, 19), (⟨"Patchferry", "known", "(I)LPatchferry$Patch;"⟩, 19), (⟨"Patchferry$Patch", "changedIn", "(II)I"⟩, 4), (⟨"Patchferry$Patch", "joinCopy", "(LPatchferry$Patch;LPatchferry$Patch;III)V"⟩, 4), (⟨"Patchferry$Edits", "closeGap", "(III)V"⟩, 4)]
theorem lw_r2 : ∀ q ∈ lw_privs_2, lw_okq q := List.forall_mem_cons.mpr ⟨lw_p16, List.forall_mem_cons.mpr ⟨lw_p17, List.forall_mem_cons.mpr ⟨lw_p18, List.forall_mem_cons.mpr ⟨lw_p19, List.forall_mem_cons.mpr ⟨lw_p20, List.forall_mem_cons.mpr ⟨lw_p21, List.forall_mem_cons.mpr ⟨lw_p22, List.forall_mem_cons.mpr ⟨lw_p23, List.forall_mem_cons.mpr ⟨lw_p24, List.forall_mem_cons.mpr ⟨lw_p25, List.forall_mem_cons.mpr ⟨lw_p26, List.forall_mem_cons.mpr ⟨lw_p27, List.forall_mem_cons.mpr ⟨lw_p28, List.forall_mem_cons.mpr ⟨lw_p29, List.forall_mem_cons.mpr ⟨lw_p30, List.forall_mem_cons.mpr ⟨lw_p31, fun _ h => absurd h List.not_mem_nil⟩⟩⟩⟩⟩⟩⟩⟩⟩⟩⟩⟩⟩⟩⟩⟩
theorem lw_p32 : lw_okq (⟨"Patchferry$Edits", "enter", "(III)V"⟩, 4) := ⟨⟨by decide +kernel, by decide +kernel⟩, List.mem_of_getElem? (i := 211) (by decide +kernel), List.mem_of_getElem? (i := 1611) (by decide +kernel), List.mem_of_getElem? (i := 1612) (by decide +kernel)⟩
theorem lw_p33 : lw_okq (⟨"Patchferry$Edits", "readChanged", "(LPatchferry$Patch;III)V"⟩, 4) := ⟨⟨by decide +kernel, by decide +kernel⟩, List.mem_of_getElem? (i := 211) (by decide +kernel), List.mem_of_getElem? (i := 1615) (by decide +kernel), List.mem_of_getElem? (i := 1616) (by decide +kernel)⟩
theorem lw_p34 : lw_okq (⟨"Patchferry$Edits", "isLike", "(ILPatchferry$Edits;I)Z"⟩, 4) := ⟨⟨by decide +kernel, by decide +kernel⟩, List.mem_of_getElem? (i := 211) (by decide +kernel), List.mem_of_getElem? (i := 1628) (by decide +kernel), List.mem_of_getElem? (i := 1629) (by decide +kernel)⟩
theorem lw_p35 : lw_okq (⟨"Patchferry$Edits", "valuesEnd", "(I)I"⟩, 4) := ⟨⟨by decide +kernel, by decide +kernel⟩, List.mem_of_getElem? (i := 211) (by decide +kernel), List.mem_of_getElem? (i := 1632) (by decide +kernel), List.mem_of_getElem? (i := 1633) (by decide +kernel)⟩
theorem lw_p36 : lw_okq (⟨"Patchferry$Edits", "writeEdit", "(ILPatchferry$Row;ILPatchferry$Row;)I"⟩, 4) := ⟨⟨by decide +kernel, by decide +kernel⟩, List.mem_of_getElem? (i := 211) (by decide +kernel), List.mem_of_getElem? (i := 1642) (by decide +kernel), List.mem_of_getElem? (i := 1643) (by decide +kernel)⟩
theorem lw_p37 : lw_okq (⟨"Patchferry$Edits", "writePart", "(LPatchferry$Row;IILPatchferry$Row;)V"⟩, 4) := ⟨⟨by decide +kernel, by decide +kernel⟩, List.mem_of_getElem? (i := 211) (by decide +kernel), List.mem_of_getElem? (i := 1646) (by decide +kernel), List.mem_of_getElem? (i := 1647) (by decide +kernel)⟩
theorem lw_p38 : lw_okq (⟨"Patchferry", "needFile", "(I)V"⟩, 19) := ⟨⟨by decide +kernel, by decide +kernel⟩, List.mem_of_getElem? (i := 46) (by decide +kernel), List.mem_of_getElem? (i := 1665) (by decide +kernel), List.mem_of_getElem? (i := 1666) (by decide +kernel)⟩
theorem lw_p39 : lw_okq (⟨"Patchferry$Store", "forgetPieces", "(LPatchferry$Row;)V"⟩, 14) := ⟨⟨by decide +kernel, by decide +kernel⟩, List.mem_of_getElem? (i := 232) (by decide +kernel), List.mem_of_getElem? (i := 1720) (by decide +kernel), List.mem_of_getElem? (i := 1721) (by decide +kernel)⟩
theorem lw_p40 : lw_okq (⟨"Patchferry$Store", "fillGrid", "()V"⟩, 14) := ⟨⟨by decide +kernel, by decide +kernel⟩, List.mem_of_getElem? (i := 232) (by decide +kernel), List.mem_of_getElem? (i := 1747) (by decide +kernel), List.mem_of_getElem? (i := 1748) (by decide +kernel)⟩
theorem lw_p41 : lw_okq (⟨"Patchferry$Store", "bestPair", "()I"⟩, 14) := ⟨⟨by decide +kernel, by decide +kernel⟩, List.mem_of_getElem? (i := 232) (by decide +kernel), List.mem_of_getElem? (i := 1752) (by decide +kernel), List.mem_of_getElem? (i := 1753) (by decide +kernel)⟩
theorem lw_p42 : lw_okq (⟨"Patchferry$Store", "takePair", "(II)V"⟩, 14) := ⟨⟨by decide +kernel, by decide +kernel⟩, List.mem_of_getElem? (i := 232) (by decide +kernel), List.mem_of_getElem? (i := 1756) (by decide +kernel), List.mem_of_getElem? (i := 1757) (by decide +kernel)⟩
theorem lw_p43 : lw_okq (⟨"Patchferry", "scanBlocks", "(III)V"⟩, 19) := ⟨⟨by decide +kernel, by decide +kernel⟩, List.mem_of_getElem? (i := 46) (by decide +kernel), List.mem_of_getElem? (i := 1768) (by decide +kernel), List.mem_of_getElem? (i := 1769) (by decide +kernel)⟩
theorem lw_p44 : lw_okq (⟨"Patchferry$Blocks", "isBlock", "(LPatchferry$Row;II)Z"⟩, 5) := ⟨⟨by decide +kernel, by decide +kernel⟩, List.mem_of_getElem? (i := 285) (by decide +kernel), List.mem_of_getElem? (i := 1786) (by decide +kernel), List.mem_of_getElem? (i := 1787) (by decide +kernel)⟩
theorem lw_p45 : lw_okq (⟨"Patchferry", "findMode", "(LPatchferry$Row;)I"⟩, 19) := ⟨⟨by decide +kernel, by decide +kernel⟩, List.mem_of_getElem? (i := 46) (by decide +kernel), List.mem_of_getElem? (i := 1880) (by decide +kernel), List.mem_of_getElem? (i := 1881) (by decide +kernel)⟩
theorem lw_p46 : lw_okq (⟨"Patchferry$Disk", "findBegins", "()V"⟩, 12) := ⟨⟨by decide +kernel, by decide +kernel⟩, List.mem_of_getElem? (i := 326) (by decide +kernel), List.mem_of_getElem? (i := 1934) (by decide +kernel), List.mem_of_getElem? (i := 1935) (by decide +kernel)⟩
theorem lw_p47 : lw_okq (⟨"Patchferry$Disk", "findNeeds", "()V"⟩, 12) := ⟨⟨by decide +kernel, by decide +kernel⟩, List.mem_of_getElem? (i := 326) (by decide +kernel), List.mem_of_getElem? (i := 1941) (by decide +kernel), List.mem_of_getElem? (i := 1942) (by decide +kernel)⟩
def lw_privs_3 : List (MethodName × Nat) := [(⟨"Patchferry$Edits", "enter", "(III)V"⟩, 4), (⟨"Patchferry$Edits", "readChanged", "(LPatchferry$Patch;III)V"⟩, 4), (⟨"Patchferry$Edits", "isLike", "(ILPatchferry$Edits;I)Z"⟩, 4), (⟨"Patchferry$Edits", "valuesEnd", "(I)I"⟩, 4), (⟨"Patchferry$Edits", "writeEdit", "(ILPatchferry$Row;ILPatchferry$Row;)I"⟩, 4), (⟨"Patchferry$Edits", "writePart", "(LPatchferry$Row;IILPatchferry$Row;)V"⟩, 4), (⟨"Patchferry", "needFile", "(I)V"⟩, 19), (⟨"Patchferry$Store", "forgetPieces", "(LPatchferry$Row;)V"⟩, 14), (⟨"Patchferry$Store", "fillGrid", "()V"⟩, 14), (⟨"Patchferry$Store", "bestPair", "()I"⟩, 14), (⟨"Patchferry$Store", "takePair", "(II)V"⟩, 14), (⟨"Patchferry", "scanBlocks", "(III)V"⟩, 19), (⟨"Patchferry$Blocks", "isBlock", "(LPatchferry$Row;II)Z"⟩, 5), (⟨"Patchferry", "findMode", "(LPatchferry$Row;)I"⟩, 19), (⟨"Patchferry$Disk", "findBegins", "()V"⟩, 12), (⟨"Patchferry$Disk", "findNeeds", "()V"⟩, 12)]
theorem lw_r3 : ∀ q ∈ lw_privs_3, lw_okq q := List.forall_mem_cons.mpr ⟨lw_p32, List.forall_mem_cons.mpr ⟨lw_p33, List.forall_mem_cons.mpr ⟨lw_p34, List.forall_mem_cons.mpr ⟨lw_p35, List.forall_mem_cons.mpr ⟨lw_p36, List.forall_mem_cons.mpr ⟨lw_p37, List.forall_mem_cons.mpr ⟨lw_p38, List.forall_mem_cons.mpr ⟨lw_p39, List.forall_mem_cons.mpr ⟨lw_p40, List.forall_mem_cons.mpr ⟨lw_p41, List.forall_mem_cons.mpr ⟨lw_p42, List.forall_mem_cons.mpr ⟨lw_p43, List.forall_mem_cons.mpr ⟨lw_p44, List.forall_mem_cons.mpr ⟨lw_p45, List.forall_mem_cons.mpr ⟨lw_p46, List.forall_mem_cons.mpr ⟨lw_p47, fun _ h => absurd h List.not_mem_nil⟩⟩⟩⟩⟩⟩⟩⟩⟩⟩⟩⟩⟩⟩⟩⟩
theorem lw_p48 : lw_okq (⟨"Patchferry$Disk", "choose", "()V"⟩, 12) := ⟨⟨by decide +kernel, by decide +kernel⟩, List.mem_of_getElem? (i := 326) (by decide +kernel), List.mem_of_getElem? (i := 1947) (by decide +kernel), List.mem_of_getElem? (i := 1948) (by decide +kernel)⟩
theorem lw_p49 : lw_okq (⟨"Patchferry$Disk", "bytesOf", "(I)I"⟩, 12) := ⟨⟨by decide +kernel, by decide +kernel⟩, List.mem_of_getElem? (i := 326) (by decide +kernel), List.mem_of_getElem? (i := 1952) (by decide +kernel), List.mem_of_getElem? (i := 1953) (by decide +kernel)⟩
theorem lw_p50 : lw_okq (⟨"Patchferry$Disk", "arrange", "(I)Z"⟩, 12) := ⟨⟨by decide +kernel, by decide +kernel⟩, List.mem_of_getElem? (i := 326) (by decide +kernel), List.mem_of_getElem? (i := 1956) (by decide +kernel), List.mem_of_getElem? (i := 1957) (by decide +kernel)⟩
theorem lw_p51 : lw_okq (⟨"Patchferry$Disk", "lowestReady", "(II)I"⟩, 12) := ⟨⟨by decide +kernel, by decide +kernel⟩, List.mem_of_getElem? (i := 326) (by decide +kernel), List.mem_of_getElem? (i := 1960) (by decide +kernel), List.mem_of_getElem? (i := 1961) (by decide +kernel)⟩
theorem lw_p52 : lw_okq (⟨"Patchferry$Disk", "saveAhead", "()V"⟩, 12) := ⟨⟨by decide +kernel, by decide +kernel⟩, List.mem_of_getElem? (i := 326) (by decide +kernel), List.mem_of_getElem? (i := 1964) (by decide +kernel), List.mem_of_getElem? (i := 1965) (by decide +kernel)⟩
theorem lw_p53 : lw_okq (⟨"Patchferry$Disk", "isSaved", "(I)Z"⟩, 12) := ⟨⟨by decide +kernel, by decide +kernel⟩, List.mem_of_getElem? (i := 326) (by decide +kernel), List.mem_of_getElem? (i := 1973) (by decide +kernel), List.mem_of_getElem? (i := 1974) (by decide +kernel)⟩
theorem lw_p54 : lw_okq (⟨"Patchferry$Disk", "write", "(I)V"⟩, 12) := ⟨⟨by decide +kernel, by decide +kernel⟩, List.mem_of_getElem? (i := 326) (by decide +kernel), List.mem_of_getElem? (i := 1983) (by decide +kernel), List.mem_of_getElem? (i := 1984) (by decide +kernel)⟩
theorem lw_p55 : lw_okq (⟨"Patchferry$Versions", "takeGreatestGain", "()I"⟩, 6) := ⟨⟨by decide +kernel, by decide +kernel⟩, List.mem_of_getElem? (i := 373) (by decide +kernel), List.mem_of_getElem? (i := 2142) (by decide +kernel), List.mem_of_getElem? (i := 2143) (by decide +kernel)⟩
theorem lw_p56 : lw_okq (⟨"Patchferry$Tree", "readLeaves", "(LPatchferry$Row;)V"⟩, 1) := ⟨⟨by decide +kernel, by decide +kernel⟩, List.mem_of_getElem? (i := 402) (by decide +kernel), List.mem_of_getElem? (i := 2157) (by decide +kernel), List.mem_of_getElem? (i := 2158) (by decide +kernel)⟩
theorem lw_p57 : lw_okq (⟨"Patchferry$Tree", "leafSum", "(LPatchferry$Row;I)I"⟩, 1) := ⟨⟨by decide +kernel, by decide +kernel⟩, List.mem_of_getElem? (i := 402) (by decide +kernel), List.mem_of_getElem? (i := 2168) (by decide +kernel), List.mem_of_getElem? (i := 2169) (by decide +kernel)⟩
theorem lw_p58 : lw_okq (⟨"Patchferry$Tree", "climb", "()I"⟩, 1) := ⟨⟨by decide +kernel, by decide +kernel⟩, List.mem_of_getElem? (i := 402) (by decide +kernel), List.mem_of_getElem? (i := 2175) (by decide +kernel), List.mem_of_getElem? (i := 2176) (by decide +kernel)⟩
theorem lw_p59 : lw_okq (⟨"Patchferry", "needAsManyLeaves", "(LPatchferry$Row;LPatchferry$Row;)V"⟩, 19) := ⟨⟨by decide +kernel, by decide +kernel⟩, List.mem_of_getElem? (i := 46) (by decide +kernel), List.mem_of_getElem? (i := 2190) (by decide +kernel), List.mem_of_getElem? (i := 2191) (by decide +kernel)⟩
theorem lw_p60 : lw_okq (⟨"PatchferryModel", "fails", "(I)Z"⟩, 23) := ⟨⟨by decide +kernel, by decide +kernel⟩, List.mem_of_getElem? (i := 2232) (by decide +kernel), List.mem_of_getElem? (i := 2323) (by decide +kernel), List.mem_of_getElem? (i := 2324) (by decide +kernel)⟩
theorem lw_p61 : lw_okq (⟨"PatchferryModel", "put", "([I)I"⟩, 23) := ⟨⟨by decide +kernel, by decide +kernel⟩, List.mem_of_getElem? (i := 2232) (by decide +kernel), List.mem_of_getElem? (i := 2327) (by decide +kernel), List.mem_of_getElem? (i := 2328) (by decide +kernel)⟩
theorem lw_p62 : lw_okq (⟨"PatchferryModel", "failsFile", "(I)Z"⟩, 23) := ⟨⟨by decide +kernel, by decide +kernel⟩, List.mem_of_getElem? (i := 2232) (by decide +kernel), List.mem_of_getElem? (i := 2342) (by decide +kernel), List.mem_of_getElem? (i := 2343) (by decide +kernel)⟩
theorem lw_p63 : lw_okq (⟨"PatchferryModel", "isFile", "(I)Z"⟩, 23) := ⟨⟨by decide +kernel, by decide +kernel⟩, List.mem_of_getElem? (i := 2232) (by decide +kernel), List.mem_of_getElem? (i := 2346) (by decide +kernel), List.mem_of_getElem? (i := 2347) (by decide +kernel)⟩
def lw_privs_4 : List (MethodName × Nat) := [(⟨"Patchferry$Disk", "choose", "()V"⟩, 12), (⟨"Patchferry$Disk", "bytesOf", "(I)I"⟩, 12), (⟨"Patchferry$Disk", "arrange", "(I)Z"⟩, 12), (⟨"Patchferry$Disk", "lowestReady", "(II)I"⟩, 12), (⟨"Patchferry$Disk", "saveAhead", "()V"⟩, 12), (⟨"Patchferry$Disk", "isSaved", "(I)Z"⟩, 12), (⟨"Patchferry$Disk", "write", "(I)V"⟩, 12), (⟨"Patchferry$Versions", "takeGreatestGain", "()I"⟩, 6), (⟨"Patchferry$Tree", "readLeaves", "(LPatchferry$Row;)V"⟩, 1), (⟨"Patchferry$Tree", "leafSum", "(LPatchferry$Row;I)I"⟩, 1), (⟨"Patchferry$Tree", "climb", "()I"⟩, 1), (⟨"Patchferry", "needAsManyLeaves", "(LPatchferry$Row;LPatchferry$Row;)V"⟩, 19), (⟨"PatchferryModel", "fails", "(I)Z"⟩, 23), (⟨"PatchferryModel", "put", "([I)I"⟩, 23), (⟨"PatchferryModel", "failsFile", "(I)Z"⟩, 23), (⟨"PatchferryModel", "isFile", "(I)Z"⟩, 23)]
theorem lw_r4 : ∀ q ∈ lw_privs_4, lw_okq q := List.forall_mem_cons.mpr ⟨lw_p48, List.forall_mem_cons.mpr ⟨lw_p49, List.forall_mem_cons.mpr ⟨lw_p50, List.forall_mem_cons.mpr ⟨lw_p51, List.forall_mem_cons.mpr ⟨lw_p52, List.forall_mem_cons.mpr ⟨lw_p53, List.forall_mem_cons.mpr ⟨lw_p54, List.forall_mem_cons.mpr ⟨lw_p55, List.forall_mem_cons.mpr ⟨lw_p56, List.forall_mem_cons.mpr ⟨lw_p57, List.forall_mem_cons.mpr ⟨lw_p58, List.forall_mem_cons.mpr ⟨lw_p59, List.forall_mem_cons.mpr ⟨lw_p60, List.forall_mem_cons.mpr ⟨lw_p61, List.forall_mem_cons.mpr ⟨lw_p62, List.forall_mem_cons.mpr ⟨lw_p63, fun _ h => absurd h List.not_mem_nil⟩⟩⟩⟩⟩⟩⟩⟩⟩⟩⟩⟩⟩⟩⟩⟩
theorem lw_p64 : lw_okq (⟨"PatchferryModel", "keep", "([I)I"⟩, 23) := ⟨⟨by decide +kernel, by decide +kernel⟩, List.mem_of_getElem? (i := 2232) (by decide +kernel), List.mem_of_getElem? (i := 2360) (by decide +kernel), List.mem_of_getElem? (i := 2361) (by decide +kernel)⟩
theorem lw_p65 : lw_okq (⟨"PatchferryModel", "failsFiles", "(II)Z"⟩, 23) := ⟨⟨by decide +kernel, by decide +kernel⟩, List.mem_of_getElem? (i := 2232) (by decide +kernel), List.mem_of_getElem? (i := 2377) (by decide +kernel), List.mem_of_getElem? (i := 2378) (by decide +kernel)⟩
theorem lw_p66 : lw_okq (⟨"PatchferryModel", "failsPlace", "(III)Z"⟩, 23) := ⟨⟨by decide +kernel, by decide +kernel⟩, List.mem_of_getElem? (i := 2232) (by decide +kernel), List.mem_of_getElem? (i := 2414) (by decide +kernel), List.mem_of_getElem? (i := 2415) (by decide +kernel)⟩
theorem lw_p67 : lw_okq (⟨"PatchferryModel", "keep", "(LPatchferryModel$Patch;)I"⟩, 23) := ⟨⟨by decide +kernel, by decide +kernel⟩, List.mem_of_getElem? (i := 2232) (by decide +kernel), List.mem_of_getElem? (i := 2478) (by decide +kernel), List.mem_of_getElem? (i := 2479) (by decide +kernel)⟩
theorem lw_p68 : lw_okq (⟨"PatchferryModel", "failsPatch", "(I)Z"⟩, 23) := ⟨⟨by decide +kernel, by decide +kernel⟩, List.mem_of_getElem? (i := 2232) (by decide +kernel), List.mem_of_getElem? (i := 2486) (by decide +kernel), List.mem_of_getElem? (i := 2487) (by decide +kernel)⟩
theorem lw_p69 : lw_okq (⟨"PatchferryModel", "isPatch", "(I)Z"⟩, 23) := ⟨⟨by decide +kernel, by decide +kernel⟩, List.mem_of_getElem? (i := 2232) (by decide +kernel), List.mem_of_getElem? (i := 2490) (by decide +kernel), List.mem_of_getElem? (i := 2491) (by decide +kernel)⟩
theorem lw_p70 : lw_okq (⟨"PatchferryModel", "failsStep", "(II)Z"⟩, 23) := ⟨⟨by decide +kernel, by decide +kernel⟩, List.mem_of_getElem? (i := 2232) (by decide +kernel), List.mem_of_getElem? (i := 2498) (by decide +kernel), List.mem_of_getElem? (i := 2499) (by decide +kernel)⟩
theorem lw_p71 : lw_okq (⟨"PatchferryModel", "failsMade", "([II)Z"⟩, 23) := ⟨⟨by decide +kernel, by decide +kernel⟩, List.mem_of_getElem? (i := 2232) (by decide +kernel), List.mem_of_getElem? (i := 2626) (by decide +kernel), List.mem_of_getElem? (i := 2627) (by decide +kernel)⟩
theorem lw_p72 : lw_okq (⟨"PatchferryModel", "failsPatches", "(II)Z"⟩, 23) := ⟨⟨by decide +kernel, by decide +kernel⟩, List.mem_of_getElem? (i := 2232) (by decide +kernel), List.mem_of_getElem? (i := 2634) (by decide +kernel), List.mem_of_getElem? (i := 2635) (by decide +kernel)⟩
theorem lw_p73 : lw_okq (⟨"java/util/ArrayList", "rangeCheckForAdd", "(I)V"⟩, 3) := ⟨⟨by decide +kernel, by decide +kernel⟩, List.mem_of_getElem? (i := 54) (by decide +kernel), List.mem_of_getElem? (i := 2714) (by decide +kernel), List.mem_of_getElem? (i := 2715) (by decide +kernel)⟩
theorem lw_p74 : lw_okq (⟨"java/util/ArrayList", "outOfBoundsMsg", "(I)Ljava/lang/String;"⟩, 3) := ⟨⟨by decide +kernel, by decide +kernel⟩, List.mem_of_getElem? (i := 54) (by decide +kernel), List.mem_of_getElem? (i := 2719) (by decide +kernel), List.mem_of_getElem? (i := 2720) (by decide +kernel)⟩
theorem lw_p75 : lw_okq (⟨"java/util/ArrayList", "fastRemove", "([Ljava/lang/Object;I)V"⟩, 3) := ⟨⟨by decide +kernel, by decide +kernel⟩, List.mem_of_getElem? (i := 54) (by decide +kernel), List.mem_of_getElem? (i := 2795) (by decide +kernel), List.mem_of_getElem? (i := 2796) (by decide +kernel)⟩
theorem lw_p76 : lw_okq (⟨"PatchferryModel", "failsLook", "(III)Z"⟩, 23) := ⟨⟨by decide +kernel, by decide +kernel⟩, List.mem_of_getElem? (i := 2232) (by decide +kernel), List.mem_of_getElem? (i := 2822) (by decide +kernel), List.mem_of_getElem? (i := 2823) (by decide +kernel)⟩
theorem lw_p77 : lw_okq (⟨"PatchferryModel", "look", "([I[II)V"⟩, 23) := ⟨⟨by decide +kernel, by decide +kernel⟩, List.mem_of_getElem? (i := 2232) (by decide +kernel), List.mem_of_getElem? (i := 2826) (by decide +kernel), List.mem_of_getElem? (i := 2827) (by decide +kernel)⟩
theorem lw_p78 : lw_okq (⟨"PatchferryModel", "wireOf", "(II)I"⟩, 23) := ⟨⟨by decide +kernel, by decide +kernel⟩, List.mem_of_getElem? (i := 2232) (by decide +kernel), List.mem_of_getElem? (i := 2846) (by decide +kernel), List.mem_of_getElem? (i := 2847) (by decide +kernel)⟩
theorem lw_p79 : lw_okq (⟨"PatchferryModel", "isHalf", "()Z"⟩, 23) := ⟨⟨by decide +kernel, by decide +kernel⟩, List.mem_of_getElem? (i := 2232) (by decide +kernel), List.mem_of_getElem? (i := 2965) (by decide +kernel), List.mem_of_getElem? (i := 2966) (by decide +kernel)⟩
def lw_privs_5 : List (MethodName × Nat) := [(⟨"PatchferryModel", "keep", "([I)I"⟩, 23), (⟨"PatchferryModel", "failsFiles", "(II)Z"⟩, 23), (⟨"PatchferryModel", "failsPlace", "(III)Z"⟩, 23), (⟨"PatchferryModel", "keep", "(LPatchferryModel$Patch;)I"⟩, 23), (⟨"PatchferryModel", "failsPatch", "(I)Z"⟩, 23), (⟨"PatchferryModel", "isPatch", "(I)Z"⟩, 23), (⟨"PatchferryModel", "failsStep", "(II)Z"⟩, 23), (⟨"PatchferryModel", "failsMade", "([II)Z"⟩, 23), (⟨"PatchferryModel", "failsPatches", "(II)Z"⟩, 23), (⟨"java/util/ArrayList", "rangeCheckForAdd", "(I)V"⟩, 3), (⟨"java/util/ArrayList", "outOfBoundsMsg", "(I)Ljava/lang/String;"⟩, 3), (⟨"java/util/ArrayList", "fastRemove", "([Ljava/lang/Object;I)V"⟩, 3), (⟨"PatchferryModel", "failsLook", "(III)Z"⟩, 23), (⟨"PatchferryModel", "look", "([I[II)V"⟩, 23), (⟨"PatchferryModel", "wireOf", "(II)I"⟩, 23), (⟨"PatchferryModel", "isHalf", "()Z"⟩, 23)]
theorem lw_r5 : ∀ q ∈ lw_privs_5, lw_okq q := List.forall_mem_cons.mpr ⟨lw_p64, List.forall_mem_cons.mpr ⟨lw_p65, List.forall_mem_cons.mpr ⟨lw_p66, List.forall_mem_cons.mpr ⟨lw_p67, List.forall_mem_cons.mpr ⟨lw_p68, List.forall_mem_cons.mpr ⟨lw_p69, List.forall_mem_cons.mpr ⟨lw_p70, List.forall_mem_cons.mpr ⟨lw_p71, List.forall_mem_cons.mpr ⟨lw_p72, List.forall_mem_cons.mpr ⟨lw_p73, List.forall_mem_cons.mpr ⟨lw_p74, List.forall_mem_cons.mpr ⟨lw_p75, List.forall_mem_cons.mpr ⟨lw_p76, List.forall_mem_cons.mpr ⟨lw_p77, List.forall_mem_cons.mpr ⟨lw_p78, List.forall_mem_cons.mpr ⟨lw_p79, fun _ h => absurd h List.not_mem_nil⟩⟩⟩⟩⟩⟩⟩⟩⟩⟩⟩⟩⟩⟩⟩⟩
theorem lw_p80 : lw_okq (⟨"PatchferryModel", "goAhead", "()I"⟩, 23) := ⟨⟨by decide +kernel, by decide +kernel⟩, List.mem_of_getElem? (i := 2232) (by decide +kernel), List.mem_of_getElem? (i := 2988) (by decide +kernel), List.mem_of_getElem? (i := 2989) (by decide +kernel)⟩
theorem lw_p81 : lw_okq (⟨"PatchferryModel", "isVersion", "(I)Z"⟩, 23) := ⟨⟨by decide +kernel, by decide +kernel⟩, List.mem_of_getElem? (i := 2232) (by decide +kernel), List.mem_of_getElem? (i := 3029) (by decide +kernel), List.mem_of_getElem? (i := 3030) (by decide +kernel)⟩
theorem lw_p82 : lw_okq (⟨"PatchferryModel", "bytesAt", "(I)[I"⟩, 23) := ⟨⟨by decide +kernel, by decide +kernel⟩, List.mem_of_getElem? (i := 2232) (by decide +kernel), List.mem_of_getElem? (i := 3037) (by decide +kernel), List.mem_of_getElem? (i := 3038) (by decide +kernel)⟩
theorem lw_p83 : lw_okq (⟨"PatchferryModel", "cost", "(II)I"⟩, 23) := ⟨⟨by decide +kernel, by decide +kernel⟩, List.mem_of_getElem? (i := 2232) (by decide +kernel), List.mem_of_getElem? (i := 3041) (by decide +kernel), List.mem_of_getElem? (i := 3042) (by decide +kernel)⟩
theorem lw_p84 : lw_okq (⟨"PatchferryModel", "failsMirror", "(II)Z"⟩, 23) := ⟨⟨by decide +kernel, by decide +kernel⟩, List.mem_of_getElem? (i := 2232) (by decide +kernel), List.mem_of_getElem? (i := 3082) (by decide +kernel), List.mem_of_getElem? (i := 3083) (by decide +kernel)⟩
theorem lw_p85 : lw_okq (⟨"PatchferryModel", "isProved", "(III)Z"⟩, 23) := ⟨⟨by decide +kernel, by decide +kernel⟩, List.mem_of_getElem? (i := 2232) (by decide +kernel), List.mem_of_getElem? (i := 3086) (by decide +kernel), List.mem_of_getElem? (i := 3087) (by decide +kernel)⟩
def lw_privs_6 : List (MethodName × Nat) := [(⟨"PatchferryModel", "goAhead", "()I"⟩, 23), (⟨"PatchferryModel", "isVersion", "(I)Z"⟩, 23), (⟨"PatchferryModel", "bytesAt", "(I)[I"⟩, 23), (⟨"PatchferryModel", "cost", "(II)I"⟩, 23), (⟨"PatchferryModel", "failsMirror", "(II)Z"⟩, 23), (⟨"PatchferryModel", "isProved", "(III)Z"⟩, 23)]
theorem lw_r6 : ∀ q ∈ lw_privs_6, lw_okq q := List.forall_mem_cons.mpr ⟨lw_p80, List.forall_mem_cons.mpr ⟨lw_p81, List.forall_mem_cons.mpr ⟨lw_p82, List.forall_mem_cons.mpr ⟨lw_p83, List.forall_mem_cons.mpr ⟨lw_p84, List.forall_mem_cons.mpr ⟨lw_p85, fun _ h => absurd h List.not_mem_nil⟩⟩⟩⟩⟩⟩
def lw_privs : List (MethodName × Nat) := lw_privs_1 ++ (lw_privs_2 ++ (lw_privs_3 ++ (lw_privs_4 ++ (lw_privs_5 ++ (lw_privs_6)))))
def lw_tbl : List Cond := k2_sels lw_privs ++ tables_1
theorem lw_privs_ok : ∀ q ∈ lw_privs, lw_okq q := by
  show ∀ q ∈ lw_privs_1 ++ (lw_privs_2 ++ (lw_privs_3 ++ (lw_privs_4 ++ (lw_privs_5 ++ (lw_privs_6))))), lw_okq q
  exact List.forall_mem_append.mpr ⟨lw_r1, List.forall_mem_append.mpr ⟨lw_r2, List.forall_mem_append.mpr ⟨lw_r3, List.forall_mem_append.mpr ⟨lw_r4, List.forall_mem_append.mpr ⟨lw_r5, lw_r6⟩⟩⟩⟩⟩
/-- the streams that the claim lets the run draw from -/
abbrev lw_cs : List Choice := [Jvm.Choice.named "NaN.bits"]
theorem lw_bits : nanBits ∈ lw_cs := by first | decide | exact List.mem_cons_self | simp [lw_cs, nanBits]
-- ===== end of PART A; then your names; then what follows =====
end
section
/-! WORLDS AS BAGS: a world's cells in any order, and a join behind a call in which the rest may be any list -/
theorem uv_P {D : va_G} {cl : List vw_C} {ws : va_W} {H : Heap} : va_P D cl ws H ↔ ∀ q ∈ ws, va_at D cl q H := by
  constructor
  · intro h q hq
    obtain ⟨k, hk⟩ := List.getElem?_of_mem hq
    exact h k q hk
  · intro h k q hk
    exact h q (List.mem_of_getElem? hk)
theorem uv_D {A : Nat → Prop} {ws : va_W} : va_D A ws ↔ (ws.map Prod.fst).Nodup ∧ ∀ q ∈ ws, A q.1 := by
  constructor
  · intro h
    refine ⟨?_, fun q hq => ?_⟩
    · rw [List.Nodup, List.pairwise_iff_getElem]
      intro i j hi hj hij
      rw [List.length_map] at hi hj
      rw [List.getElem_map, List.getElem_map]
      intro e
      have := h.1 i j ws[i] ws[j] (List.getElem?_eq_getElem hi) (List.getElem?_eq_getElem hj) e
      omega
    · obtain ⟨k, hk⟩ := List.getElem?_of_mem hq
      exact h.2 k q hk
  · intro h
    refine ⟨fun i j p q hp hq e => ?_, fun k q hk => h.2 q (List.mem_of_getElem? hk)⟩
    obtain ⟨hi, rfl⟩ := List.getElem?_eq_some_iff.mp hp
    obtain ⟨hj, rfl⟩ := List.getElem?_eq_some_iff.mp hq
    have h1 := h.1
    rw [List.Nodup, List.pairwise_iff_getElem] at h1
    rcases Nat.lt_trichotomy i j with g | g | g
    · have := h1 i j (by rw [List.length_map]; exact hi) (by rw [List.length_map]; exact hj) g
      rw [List.getElem_map, List.getElem_map] at this
      exact absurd e this
    · exact g
    · have := h1 j i (by rw [List.length_map]; exact hj) (by rw [List.length_map]; exact hi) g
      rw [List.getElem_map, List.getElem_map] at this
      exact absurd e.symm this
theorem uv_Pp {D : va_G} {cl : List vw_C} {ws ws' : va_W} {H : Heap} (hp : ws.Perm ws') (h : va_P D cl ws H) : va_P D cl ws' H := uv_P.mpr fun q hq => uv_P.mp h q (hp.mem_iff.mpr hq)
theorem uv_Dp {A : Nat → Prop} {ws ws' : va_W} (hp : ws.Perm ws') (h : va_D A ws) : va_D A ws' := by
  obtain ⟨h1, h2⟩ := uv_D.mp h
  exact uv_D.mpr ⟨(hp.map Prod.fst).nodup_iff.mp h1, fun q hq => h2 q (hp.mem_iff.mpr hq)⟩
theorem uv_Ps {D : va_G} {cl : List vw_C} {ws ws' : va_W} {H : Heap} (hs : ws'.Sublist ws) (h : va_P D cl ws H) : va_P D cl ws' H := uv_P.mpr fun q hq => uv_P.mp h q (hs.subset hq)
theorem uv_Ds {A : Nat → Prop} {ws ws' : va_W} (hs : ws'.Sublist ws) (h : va_D A ws) : va_D A ws' := by
  obtain ⟨h1, h2⟩ := uv_D.mp h
  exact uv_D.mpr ⟨h1.sublist (hs.map Prod.fst), fun q hq => h2 q (hs.subset hq)⟩
/-- the callee's cells and new ones are ours to change -/
theorem uv_free {A0 : Nat → Prop} {ws wc wr : va_W} {H0 H : Heap} {locs : List Loc} (hD : va_D A0 ws) (hS : va_S A0 H0 H locs) (hA : ∀ q, H0.size ≤ q → A0 q) (hp : ws.Perm (wc ++ wr)) : ∀ q, va_A wc H.size q → A0 q := by
  intro q h
  rcases h with ⟨k, e, h⟩ | h
  · exact (uv_D.mp hD).2 (q, e) (hp.mem_iff.mpr (List.mem_append_left _ (List.mem_of_getElem? h)))
  · exact hA q (Nat.le_trans hS.1 h)
theorem uv_join {A0 : Nat → Prop} {D : va_G} {cl : List vw_C} {ws wc wr w1 : va_W} {H H1 : Heap} (hP : va_P D cl ws H) (hD : va_D A0 ws) (hp : ws.Perm (wc ++ wr))
    (hk : ∀ q : Nat, q < H.size → ¬ va_A wc H.size q → H1[q]? = H[q]?) (hF : ∀ q, va_A wc H.size q → A0 q) (hP1 : va_P D cl w1 H1) (hD1 : va_D (va_A wc H.size) w1) : va_P D cl (w1 ++ wr) H1 ∧ va_D A0 (w1 ++ wr) := by
  have hP2 := uv_P.mp (uv_Pp hp hP)
  obtain ⟨hN, hI⟩ := uv_D.mp (uv_Dp hp hD)
  obtain ⟨hN1, hI1⟩ := uv_D.mp hD1
  rw [List.map_append, List.nodup_append] at hN
  have apart : ∀ q ∈ wr, q.1 < H.size ∧ ¬ va_A wc H.size q.1 := by
    intro q hq
    have hl := (hP2 q (List.mem_append_right _ hq)).lt
    refine ⟨hl, fun h => ?_⟩
    rcases h with ⟨k, e, h⟩ | h
    · exact hN.2.2 q.1 (List.mem_map.mpr ⟨(q.1, e), List.mem_of_getElem? h, rfl⟩) q.1 (List.mem_map.mpr ⟨q, hq, rfl⟩) rfl
    · omega
  refine ⟨uv_P.mpr fun q hq => ?_, uv_D.mpr ⟨?_, fun q hq => ?_⟩⟩
  · rcases List.mem_append.mp hq with h | h
    · exact uv_P.mp hP1 q h
    · obtain ⟨g1, g2⟩ := apart q h
      exact (hP2 q (List.mem_append_right _ h)).kept (hk q.1 g1 g2)
  · rw [List.map_append, List.nodup_append]
    refine ⟨hN1, hN.2.1, fun x hx y hy e => ?_⟩
    obtain ⟨q, hq, rfl⟩ := List.mem_map.mp hx
    obtain ⟨q2, hq2, rfl⟩ := List.mem_map.mp hy
    exact (apart q2 hq2).2 (by rw [← e]; exact hI1 q hq)
  · rcases List.mem_append.mp hq with h | h
    · exact hF q.1 (hI1 q h)
    · exact hI q (List.mem_append_right _ h)
end
section
/-! names: picked from the print of the task by wip/whole/names.py -/
def RX15 : String := "PatchferryModel"
abbrev cX15_joined : ByteArray := prog_14_method_7_code
def yX15_joined : MethodName := ⟨RX15, "joined", "([I[I)[I"⟩
abbrev cX15_unpacked : ByteArray := prog_14_method_90_code
def yX15_unpacked : MethodName := ⟨RX15, "unpacked", "([I)[I"⟩
theorem dX15_joined_0 : decode cX15_joined 0 = .ok (.aload_n 0, 1) := by decide +kernel
theorem dX15_joined_1 : decode cX15_joined 1 = .ok (.arraylength, 1) := by decide +kernel
theorem dX15_joined_2 : decode cX15_joined 2 = .ok (.aload_n 1, 1) := by decide +kernel
theorem dX15_joined_3 : decode cX15_joined 3 = .ok (.arraylength, 1) := by decide +kernel
theorem dX15_joined_4 : decode cX15_joined 4 = .ok (.iadd, 1) := by decide +kernel
theorem dX15_joined_5 : decode cX15_joined 5 = .ok (.newarray .int, 2) := by decide +kernel
theorem dX15_joined_7 : decode cX15_joined 7 = .ok (.astore_n 2, 1) := by decide +kernel
theorem dX15_joined_8 : decode cX15_joined 8 = .ok (.iconst 0, 1) := by decide +kernel
theorem dX15_joined_9 : decode cX15_joined 9 = .ok (.istore_n 3, 1) := by decide +kernel
theorem dX15_joined_10 : decode cX15_joined 10 = .ok (.iload_n 3, 1) := by decide +kernel
theorem dX15_joined_11 : decode cX15_joined 11 = .ok (.aload_n 2, 1) := by decide +kernel
theorem dX15_joined_12 : decode cX15_joined 12 = .ok (.arraylength, 1) := by decide +kernel
theorem dX15_joined_13 : decode cX15_joined 13 = .ok (.if_icmp .ge 30, 3) := by decide +kernel
theorem dX15_joined_16 : decode cX15_joined 16 = .ok (.aload_n 2, 1) := by decide +kernel
theorem dX15_joined_17 : decode cX15_joined 17 = .ok (.iload_n 3, 1) := by decide +kernel
theorem dX15_joined_18 : decode cX15_joined 18 = .ok (.iload_n 3, 1) := by decide +kernel
theorem dX15_joined_19 : decode cX15_joined 19 = .ok (.aload_n 0, 1) := by decide +kernel
theorem dX15_joined_20 : decode cX15_joined 20 = .ok (.arraylength, 1) := by decide +kernel
theorem dX15_joined_21 : decode cX15_joined 21 = .ok (.if_icmp .ge 9, 3) := by decide +kernel
theorem dX15_joined_24 : decode cX15_joined 24 = .ok (.aload_n 0, 1) := by decide +kernel
theorem dX15_joined_25 : decode cX15_joined 25 = .ok (.iload_n 3, 1) := by decide +kernel
theorem dX15_joined_26 : decode cX15_joined 26 = .ok (.iaload, 1) := by decide +kernel
theorem dX15_joined_27 : decode cX15_joined 27 = .ok (.goto 9, 3) := by decide +kernel
theorem dX15_joined_30 : decode cX15_joined 30 = .ok (.aload_n 1, 1) := by decide +kernel
theorem dX15_joined_31 : decode cX15_joined 31 = .ok (.iload_n 3, 1) := by decide +kernel
theorem dX15_joined_32 : decode cX15_joined 32 = .ok (.aload_n 0, 1) := by decide +kernel
theorem dX15_joined_33 : decode cX15_joined 33 = .ok (.arraylength, 1) := by decide +kernel
theorem dX15_joined_34 : decode cX15_joined 34 = .ok (.isub, 1) := by decide +kernel
theorem dX15_joined_35 : decode cX15_joined 35 = .ok (.iaload, 1) := by decide +kernel
theorem dX15_joined_36 : decode cX15_joined 36 = .ok (.iastore, 1) := by decide +kernel
theorem dX15_joined_37 : decode cX15_joined 37 = .ok (.iinc 3 1, 3) := by decide +kernel
theorem dX15_joined_40 : decode cX15_joined 40 = .ok (.goto (-30), 3) := by decide +kernel
theorem dX15_joined_43 : decode cX15_joined 43 = .ok (.aload_n 2, 1) := by decide +kernel
theorem dX15_joined_44 : decode cX15_joined 44 = .ok (.areturn, 1) := by decide +kernel
theorem dX15_unpacked_0 : decode cX15_unpacked 0 = .ok (.iconst 0, 1) := by decide +kernel
theorem dX15_unpacked_1 : decode cX15_unpacked 1 = .ok (.newarray .int, 2) := by decide +kernel
theorem dX15_unpacked_3 : decode cX15_unpacked 3 = .ok (.astore_n 1, 1) := by decide +kernel
theorem dX15_unpacked_4 : decode cX15_unpacked 4 = .ok (.iconst 0, 1) := by decide +kernel
theorem dX15_unpacked_5 : decode cX15_unpacked 5 = .ok (.istore_n 2, 1) := by decide +kernel
theorem dX15_unpacked_6 : decode cX15_unpacked 6 = .ok (.iload_n 2, 1) := by decide +kernel
theorem dX15_unpacked_7 : decode cX15_unpacked 7 = .ok (.aload_n 0, 1) := by decide +kernel
theorem dX15_unpacked_8 : decode cX15_unpacked 8 = .ok (.arraylength, 1) := by decide +kernel
theorem dX15_unpacked_9 : decode cX15_unpacked 9 = .ok (.if_icmp .ge 95, 3) := by decide +kernel
theorem dX15_unpacked_12 : decode cX15_unpacked 12 = .ok (.aload_n 0, 1) := by decide +kernel
theorem dX15_unpacked_13 : decode cX15_unpacked 13 = .ok (.iload_n 2, 1) := by decide +kernel
theorem dX15_unpacked_14 : decode cX15_unpacked 14 = .ok (.iaload, 1) := by decide +kernel
theorem dX15_unpacked_15 : decode cX15_unpacked 15 = .ok (.sipush 255, 3) := by decide +kernel
theorem dX15_unpacked_18 : decode cX15_unpacked 18 = .ok (.if_icmp .ne 66, 3) := by decide +kernel
theorem dX15_unpacked_21 : decode cX15_unpacked 21 = .ok (.iload_n 2, 1) := by decide +kernel
theorem dX15_unpacked_22 : decode cX15_unpacked 22 = .ok (.iconst 2, 1) := by decide +kernel
theorem dX15_unpacked_23 : decode cX15_unpacked 23 = .ok (.iadd, 1) := by decide +kernel
theorem dX15_unpacked_24 : decode cX15_unpacked 24 = .ok (.aload_n 0, 1) := by decide +kernel
theorem dX15_unpacked_25 : decode cX15_unpacked 25 = .ok (.arraylength, 1) := by decide +kernel
theorem dX15_unpacked_26 : decode cX15_unpacked 26 = .ok (.if_icmp .ge 11, 3) := by decide +kernel
theorem dX15_unpacked_29 : decode cX15_unpacked 29 = .ok (.aload_n 0, 1) := by decide +kernel
theorem dX15_unpacked_30 : decode cX15_unpacked 30 = .ok (.iload_n 2, 1) := by decide +kernel
theorem dX15_unpacked_31 : decode cX15_unpacked 31 = .ok (.iconst 1, 1) := by decide +kernel
theorem dX15_unpacked_32 : decode cX15_unpacked 32 = .ok (.iadd, 1) := by decide +kernel
theorem dX15_unpacked_33 : decode cX15_unpacked 33 = .ok (.iaload, 1) := by decide +kernel
theorem dX15_unpacked_34 : decode cX15_unpacked 34 = .ok (.ifCond .ne 5, 3) := by decide +kernel
theorem dX15_unpacked_37 : decode cX15_unpacked 37 = .ok (.aconst_null, 1) := by decide +kernel
theorem dX15_unpacked_38 : decode cX15_unpacked 38 = .ok (.areturn, 1) := by decide +kernel
theorem dX15_unpacked_39 : decode cX15_unpacked 39 = .ok (.aload_n 0, 1) := by decide +kernel
theorem dX15_unpacked_40 : decode cX15_unpacked 40 = .ok (.iload_n 2, 1) := by decide +kernel
theorem dX15_unpacked_41 : decode cX15_unpacked 41 = .ok (.iconst 1, 1) := by decide +kernel
theorem dX15_unpacked_42 : decode cX15_unpacked 42 = .ok (.iadd, 1) := by decide +kernel
theorem dX15_unpacked_43 : decode cX15_unpacked 43 = .ok (.iaload, 1) := by decide +kernel
theorem dX15_unpacked_44 : decode cX15_unpacked 44 = .ok (.newarray .int, 2) := by decide +kernel
theorem dX15_unpacked_46 : decode cX15_unpacked 46 = .ok (.astore_n 3, 1) := by decide +kernel
theorem dX15_unpacked_47 : decode cX15_unpacked 47 = .ok (.iconst 0, 1) := by decide +kernel
theorem dX15_unpacked_48 : decode cX15_unpacked 48 = .ok (.istore 4, 2) := by decide +kernel
theorem dX15_unpacked_50 : decode cX15_unpacked 50 = .ok (.iload 4, 2) := by decide +kernel
theorem dX15_unpacked_52 : decode cX15_unpacked 52 = .ok (.aload_n 3, 1) := by decide +kernel
theorem dX15_unpacked_53 : decode cX15_unpacked 53 = .ok (.arraylength, 1) := by decide +kernel
theorem dX15_unpacked_54 : decode cX15_unpacked 54 = .ok (.if_icmp .ge 18, 3) := by decide +kernel
theorem dX15_unpacked_57 : decode cX15_unpacked 57 = .ok (.aload_n 3, 1) := by decide +kernel
theorem dX15_unpacked_58 : decode cX15_unpacked 58 = .ok (.iload 4, 2) := by decide +kernel
theorem dX15_unpacked_60 : decode cX15_unpacked 60 = .ok (.aload_n 0, 1) := by decide +kernel
theorem dX15_unpacked_61 : decode cX15_unpacked 61 = .ok (.iload_n 2, 1) := by decide +kernel
theorem dX15_unpacked_62 : decode cX15_unpacked 62 = .ok (.iconst 2, 1) := by decide +kernel
theorem dX15_unpacked_63 : decode cX15_unpacked 63 = .ok (.iadd, 1) := by decide +kernel
theorem dX15_unpacked_64 : decode cX15_unpacked 64 = .ok (.iaload, 1) := by decide +kernel
theorem dX15_unpacked_65 : decode cX15_unpacked 65 = .ok (.iastore, 1) := by decide +kernel
theorem dX15_unpacked_66 : decode cX15_unpacked 66 = .ok (.iinc 4 1, 3) := by decide +kernel
theorem dX15_unpacked_69 : decode cX15_unpacked 69 = .ok (.goto (-19), 3) := by decide +kernel
theorem dX15_unpacked_72 : decode cX15_unpacked 72 = .ok (.aload_n 1, 1) := by decide +kernel
theorem dX15_unpacked_73 : decode cX15_unpacked 73 = .ok (.aload_n 3, 1) := by decide +kernel
theorem dX15_unpacked_74 : decode cX15_unpacked 74 = .ok (.invokestatic 85, 3) := by decide +kernel
theorem dX15_unpacked_77 : decode cX15_unpacked 77 = .ok (.astore_n 1, 1) := by decide +kernel
theorem dX15_unpacked_78 : decode cX15_unpacked 78 = .ok (.iinc 2 3, 3) := by decide +kernel
theorem dX15_unpacked_81 : decode cX15_unpacked 81 = .ok (.goto (-75), 3) := by decide +kernel
theorem dX15_unpacked_84 : decode cX15_unpacked 84 = .ok (.aload_n 1, 1) := by decide +kernel
theorem dX15_unpacked_85 : decode cX15_unpacked 85 = .ok (.iconst 1, 1) := by decide +kernel
theorem dX15_unpacked_86 : decode cX15_unpacked 86 = .ok (.newarray .int, 2) := by decide +kernel
theorem dX15_unpacked_88 : decode cX15_unpacked 88 = .ok (.dup, 1) := by decide +kernel
theorem dX15_unpacked_89 : decode cX15_unpacked 89 = .ok (.iconst 0, 1) := by decide +kernel
theorem dX15_unpacked_90 : decode cX15_unpacked 90 = .ok (.aload_n 0, 1) := by decide +kernel
theorem dX15_unpacked_91 : decode cX15_unpacked 91 = .ok (.iload_n 2, 1) := by decide +kernel
theorem dX15_unpacked_92 : decode cX15_unpacked 92 = .ok (.iaload, 1) := by decide +kernel
theorem dX15_unpacked_93 : decode cX15_unpacked 93 = .ok (.iastore, 1) := by decide +kernel
theorem dX15_unpacked_94 : decode cX15_unpacked 94 = .ok (.invokestatic 85, 3) := by decide +kernel
theorem dX15_unpacked_97 : decode cX15_unpacked 97 = .ok (.astore_n 1, 1) := by decide +kernel
theorem dX15_unpacked_98 : decode cX15_unpacked 98 = .ok (.iinc 2 1, 3) := by decide +kernel
theorem dX15_unpacked_101 : decode cX15_unpacked 101 = .ok (.goto (-95), 3) := by decide +kernel
theorem dX15_unpacked_104 : decode cX15_unpacked 104 = .ok (.aload_n 1, 1) := by decide +kernel
theorem dX15_unpacked_105 : decode cX15_unpacked 105 = .ok (.areturn, 1) := by decide +kernel
/-! THE REFERENCE'S OWN COST: joined and unpacked over a row of 199 bytes 255: what they make, counted from below -/
/-- an int array as a cell of a world -/
abbrev wa (a : Nat) (cA : ClassId) (n : Nat) (f : Nat → Int32) : Nat × va_E := (a, .inl (cA, n, .inl f))
/-- the words that the two methods need -/
def us_joined : List Cond := .code yX15_joined cX15_joined 4 (some (.array .int)) :: [.arrayClass .int]
def us_unpacked : List Cond := .code yX15_unpacked cX15_unpacked 5 (some (.array .int)) :: [.arrayClass .int, .methodLink RX15 85 yX15_joined, .static yX15_joined, .initialized RX15, .code yX15_joined cX15_joined 4 (some (.array .int))]
theorem ug_unpacked_joined : GoodIn us_unpacked (va_wsS RX15 85 yX15_joined us_joined) := goodIn_p _ [5] rfl (by decide +kernel)
/-- the loop of joined, up to its end -/
theorem joined_loop {p : Program} {l : Launch} {e : Env} {R : Room} {s : State} {m : MethodId} {args : Array Value} {below : List Frame} {meth : Method} {c : Code} {cells slots : Nat} {Q : State → Prop} {cl : List vw_C} {dC : Nat → ClassId} {dI : Nat → Nat → Nat} {A : Nat → Prop} {H0 : Heap} {a b q n n2 : Nat} {f f2 : Nat → Int32} {cA cB cR : ClassId}
    (hx : p.tables.exec = Jvm.exec) (hb : c.code = cX15_joined) (hn : n + n2 < 2 ^ 31) (hK : va_K (dC, dI) cl [(cA, .int), (cB, .int), (cR, .int)] s)
    (kk : ∀ (g : Nat → Int32) (H : Heap) (locs : List Loc) (ls : Array Slot), va_P (dC, dI) cl [wa a cA n f, wa b cB n2 f2, wa q cR (n + n2) g] H → va_D A [wa a cA n f, wa b cB n2 f2, wa q cR (n + n2) g] → va_S A H0 H locs → lv_has ls 4 [(0, .ref a), (1, .ref b), (2, .ref q), (3, .int (nI (n + n2)))] → W p l e R s m args below meth c H locs cells slots Q (F0 m 43 ls [])) :
    ∀ (k i : Nat), i ≤ n + n2 → n + n2 < i + k → ∀ (g : Nat → Int32) (H : Heap) (locs : List Loc) (ls : Array Slot), va_P (dC, dI) cl [wa a cA n f, wa b cB n2 f2, wa q cR (n + n2) g] H → va_D A [wa a cA n f, wa b cB n2 f2, wa q cR (n + n2) g] → va_S A H0 H locs → lv_has ls 4 [(0, .ref a), (1, .ref b), (2, .ref q), (3, .int (nI i))] → W p l e R s m args below meth c H locs cells slots Q (F0 m 10 ls []) := by
  intro k
  induction k with
  | zero => intro i h1 h2; omega
  | succ k ih =>
    intro i hi hk g H locs ls hP hD hS hl
    refine lv_iload_n hx hb dX15_joined_10 rfl (lv_at hl 3 rfl) ?_
    refine lv_aload_n hx hb dX15_joined_11 rfl (lv_at hl 2 rfl) ?_
    refine va_alen (D := (dC, dI)) hx hb hK hP 2 2 rfl rfl rfl dX15_joined_12 ?_
    refine lv_icmp_ge (tgt := 43) hx hb dX15_joined_13 (by decide) (fun h => ?_) (fun h => ?_)
    · have hi2 : i = n + n2 := by
        rcases Nat.lt_or_ge i (n + n2) with q1 | q1
        · exact absurd h (nI_ge q1 hn)
        · omega
      subst hi2
      exact kk g H locs ls hP hD hS hl
    · have hlt : i < n + n2 := by
        rcases Nat.lt_or_ge i (n + n2) with q1 | q1
        · exact q1
        · exact absurd (nI_le q1 (by omega)) h
      have tail : ∀ x : Int32, W p l e R s m args below meth c H locs cells slots Q (F0 m 36 ls [.int x, .int (nI i), .ref q]) := by
        intro x
        refine va_iast (D := (dC, dI)) hx hb hK hP hD hS 2 2 rfl rfl (vp_in_nI hlt hn) dX15_joined_36 (fun H locs hP hD hS => ?_)
        have hP : va_P (dC, dI) cl [wa a cA n f, wa b cB n2 f2, wa q cR (n + n2) (upd g (nI i).toNatClampNeg x)] H := hP
        have hD : va_D A [wa a cA n f, wa b cB n2 f2, wa q cR (n + n2) (upd g (nI i).toNatClampNeg x)] := hD
        refine lv_iinc (v := nI (i + 1)) (lv' := [(3, .int (nI (i + 1))), (0, .ref a), (1, .ref b), (2, .ref q)]) hx hb dX15_joined_37 hl (k := 3) rfl (by rw [nI_succ]; rfl) (by decide) rfl (fun ls hl => ?_)
        refine lv_goto (tgt := 10) hx hb dX15_joined_40 (by decide) ?_
        exact ih (i + 1) (by omega) (by omega) _ H locs ls hP hD hS (lv_sub hl [1, 2, 3, 0] rfl)
      refine lv_aload_n hx hb dX15_joined_16 rfl (lv_at hl 2 rfl) ?_
      refine lv_iload_n hx hb dX15_joined_17 rfl (lv_at hl 3 rfl) ?_
      refine lv_iload_n hx hb dX15_joined_18 rfl (lv_at hl 3 rfl) ?_
      refine lv_aload_n hx hb dX15_joined_19 rfl (lv_at hl 0 rfl) ?_
      refine va_alen (D := (dC, dI)) hx hb hK hP 0 0 rfl rfl rfl dX15_joined_20 ?_
      refine lv_icmp_ge (tgt := 30) hx hb dX15_joined_21 (by decide) (fun h2 => ?_) (fun h2 => ?_)
      · have hni : n ≤ i := by
          rcases Nat.lt_or_ge i n with q1 | q1
          · exact absurd h2 (nI_ge q1 (by omega))
          · exact q1
        refine lv_aload_n hx hb dX15_joined_30 rfl (lv_at hl 1 rfl) ?_
        refine lv_iload_n hx hb dX15_joined_31 rfl (lv_at hl 3 rfl) ?_
        refine lv_aload_n hx hb dX15_joined_32 rfl (lv_at hl 0 rfl) ?_
        refine va_alen (D := (dC, dI)) hx hb hK hP 0 0 rfl rfl rfl dX15_joined_33 ?_
        refine lv_isub hx hb dX15_joined_34 ?_
        refine lv_topi (fun y ey => ?_)
        have ey2 : y = nI (i - n) := ey.trans (pk_sub hni)
        refine va_iald (D := (dC, dI)) hx hb hK hP 1 1 rfl rfl (by rw [ey2]; exact vp_in_nI (by omega) (by omega)) dX15_joined_35 ?_
        exact tail _
      · have hni : i < n := by
          rcases Nat.lt_or_ge i n with q1 | q1
          · exact q1
          · exact absurd (nI_le q1 (by omega)) h2
        refine lv_aload_n hx hb dX15_joined_24 rfl (lv_at hl 0 rfl) ?_
        refine lv_iload_n hx hb dX15_joined_25 rfl (lv_at hl 3 rfl) ?_
        refine va_iald (D := (dC, dI)) hx hb hK hP 0 0 rfl rfl (vp_in_nI hni (by omega)) dX15_joined_26 ?_
        refine lv_goto (tgt := 36) hx hb dX15_joined_27 (by decide) ?_
        exact tail _
set_option maxHeartbeats 4000000 in
set_option maxRecDepth 100000 in
/-- joined: a new array as long as both together -/
theorem c_joined (l : Launch) (cl : List vw_C) (dC : Nat → ClassId) (dI : Nat → Nat → Nat) (a b sz n n2 : Nat) (f f2 : Nat → Int32) (cA cB : ClassId) (hn : n + n2 ≤ 134217728) : Met l yX15_joined us_joined ({ frames := 0, cells := 1, slots := n + n2, locals := 0 }) (va_Pc [.ref a, .ref b] (fun U => U.heap.size = sz ∧ va_P (dC, dI) cl [wa a cA n f, wa b cB n2 f2] U.heap ∧ va_K (dC, dI) cl [(cA, .int), (cB, .int)] U ∧ va_D (fun _ => True) [wa a cA n f, wa b cB n2 f2])) (va_Qr (fun _ : ClassId × (Nat → Int32) => True) (fun u r t => va_P (dC, dI) cl [wa a cA n f, wa b cB n2 f2, wa r u.1 (n + n2) u.2] t.heap ∧ va_K (dC, dI) cl [(cA, .int), (cB, .int), (u.1, .int)] t ∧ va_D (va_A [wa a cA n f, wa b cB n2 f2] sz) [wa a cA n f, wa b cB n2 f2, wa r u.1 (n + n2) u.2]) (va_A [wa a cA n f, wa b cB n2 f2] sz)) 1 (n + n2) (va_A [wa a cA n f, wa b cB n2 f2] sz) := by
  refine Met.ofW (cc := cX15_joined) (maxL := 4) (ret := (some (.array .int))) (by decide) rfl ?_
  intro p e s m args below meth c s₁ B hml hv
  obtain ⟨rfl, hsz, hP, hK, hD0⟩ := hv
  have hx := B.exec
  have hb := B.bytes
  have hr := B.returns
  have hts := atoms_spec (ws := us_joined) B.pre
  have hlocks := B.notSynchronized
  subst hsz
  have hD := hD0.self (sz := s.heap.size)
  generalize hAe : va_A [wa a cA n f, wa b cB n2 f2] s.heap.size = A at hD ⊢
  have hA : ∀ q : Nat, s.heap.size ≤ q → A q := fun q h => by rw [← hAe]; exact Or.inr h
  have hS : va_S A s.heap s.heap [] := va_S.rf
  have hl := lv_entry ([.ref a, .ref b]) (n := 4) (Nat.le_of_ble_eq_true rfl)
  rw [lg_entry_eq]
  generalize (lg_sl ([.ref a, .ref b]) ++ List.replicate (4 - (lg_sl ([.ref a, .ref b])).length) Slot.unset).toArray = ls at hl ⊢
  have hl : lv_has ls 4 [(0, .ref a), (1, .ref b)] := hl
  refine lv_aload_n hx hb dX15_joined_0 rfl (lv_at hl 0 rfl) ?_
  refine va_alen (D := (dC, dI)) hx hb hK hP 0 0 rfl rfl rfl dX15_joined_1 ?_
  refine lv_aload_n hx hb dX15_joined_2 rfl (lv_at hl 1 rfl) ?_
  refine va_alen (D := (dC, dI)) hx hb hK hP 1 1 rfl rfl rfl dX15_joined_3 ?_
  refine lv_iadd hx hb dX15_joined_4 ?_
  refine lv_topi (fun y ey => ?_)
  have ey2 : y = nI (n + n2) := ey.trans (nI_add n n2)
  refine va_newa (D := (dC, dI)) (atype := .int) (N' := n + n2) (a0 := (n + n2, .inl (fun _ => 0))) hx hb (hts (.arrayClass .int) (by decide +kernel)) rfl hK hP hD hS hA (fun _ => rfl) (by rw [ey2]; exact nI_pos (by omega)) (by rw [ey2]; exact nI_clamp (by omega)) (by show (n + n2) * 4 ≤ 536870912; omega) (Nat.le_refl _) (Nat.le_of_eq (Nat.zero_add _)) dX15_joined_5 (fun q cR H hK hP hD hS => ?_)
  have hP : va_P (dC, dI) cl [wa a cA n f, wa b cB n2 f2, wa q cR (n + n2) (fun _ => 0)] H := hP
  have hD : va_D A [wa a cA n f, wa b cB n2 f2, wa q cR (n + n2) (fun _ => 0)] := hD
  have hK : va_K (dC, dI) cl [(cA, .int), (cB, .int), (cR, .int)] s := hK
  refine lv_astore_n (lv' := [(2, .ref q), (0, .ref a), (1, .ref b)]) hx hb dX15_joined_7 rfl hl (by decide) rfl (fun ls hl => ?_)
  refine lv_iconst (v := 0) hx hb dX15_joined_8 (by decide) ?_
  refine lv_istore_n (lv' := [(3, .int 0), (2, .ref q), (0, .ref a), (1, .ref b)]) hx hb dX15_joined_9 rfl hl (by decide) rfl (fun ls hl => ?_)
  have hl : lv_has ls 4 [(3, .int (nI 0)), (2, .ref q), (0, .ref a), (1, .ref b)] := hl
  refine joined_loop (A := A) (H0 := s.heap) (f := f) (f2 := f2) hx hb (by omega) hK ?_ (n + n2 + 1) 0 (Nat.zero_le _) (by omega) _ H _ ls hP hD hS (lv_sub hl [2, 3, 1, 0] rfl)
  intro g H locs ls hP hD hS hl
  refine lv_aload_n hx hb dX15_joined_43 rfl (lv_at hl 2 rfl) ?_
  refine W.widen (k := 1) (n := n + n2) (Nat.le_refl _) (Nat.le_of_eq (Nat.zero_add _)) ?_
  exact W.aret (v := .ref q) hx hb hr (Or.inr ⟨_, rfl⟩) (Or.inr ⟨_, rfl⟩) (fun t ht hW => ⟨⟨(cR, g), q, rfl, trivial, by rw [ht]; exact hP, va_K.moved hW.alike hK, hD⟩, hS.F ht⟩) hS.2.2 dX15_joined_44
end
section
/-! unpacked over 199 bytes 255: what it makes, counted from below -/
/-- what an entry of a world has in slots, of arrays alone -/
def ug : va_E → Nat
  | .inl x => x.2.1
  | .inr _ => 0
def us : va_W → Nat := fun ws => (ws.map fun q => ug q.2).sum
theorem us_nil : us [] = 0 := rfl
theorem us_cons (q : Nat × va_E) (ws : va_W) : us (q :: ws) = ug q.2 + us ws := by simp [us]
theorem us_app (a b : va_W) : us (a ++ b) = us a + us b := by simp [us]
theorem us_wa (a : Nat) (cA : ClassId) (n : Nat) (f : Nat → Int32) : ug (wa a cA n f).2 = n := rfl
/-- slots made up to the t-th run -/
def uT : Nat → Nat | 0 => 0 | t + 1 => uT t + 255 + 255 * (t + 1)
theorem uT_le : ∀ t, t < 67 → uT t ≤ 580635 := by decide +kernel
theorem uT_66 : uT 66 = 580635 := by decide +kernel
/-- the loop that fills a run -/
theorem unp_fill {p : Program} {l : Launch} {e : Env} {R : Room} {s : State} {m : MethodId} {args : Array Value} {below : List Frame} {meth : Method} {c : Code} {cells slots : Nat} {Q : State → Prop} {cl : List vw_C} {dC : Nat → ClassId} {dI : Nat → Nat → Nat} {A : Nat → Prop} {H0 : Heap} {a r q nr t : Nat} {f g : Nat → Int32} {cA cR cQ : ClassId} {pl : va_W}
    (hx : p.tables.exec = Jvm.exec) (hb : c.code = cX15_unpacked) (ht : t < 66) (hK : va_K (dC, dI) cl [(cA, .int), (cR, .int), (cQ, .int)] s)
    (kk : ∀ (h : Nat → Int32) (H : Heap) (locs : List Loc) (ls : Array Slot), va_P (dC, dI) cl (wa a cA 199 f :: wa r cR nr g :: wa q cQ 255 h :: pl) H → va_D A (wa a cA 199 f :: wa r cR nr g :: wa q cQ 255 h :: pl) → va_S A H0 H locs → lv_has ls 5 [(0, .ref a), (1, .ref r), (2, .int (nI (3 * t))), (3, .ref q), (4, .int (nI 255))] → W p l e R s m args below meth c H locs cells slots Q (F0 m 72 ls [])) :
    ∀ (k i : Nat), i ≤ 255 → 255 < i + k → ∀ (h : Nat → Int32) (H : Heap) (locs : List Loc) (ls : Array Slot), va_P (dC, dI) cl (wa a cA 199 f :: wa r cR nr g :: wa q cQ 255 h :: pl) H → va_D A (wa a cA 199 f :: wa r cR nr g :: wa q cQ 255 h :: pl) → va_S A H0 H locs → lv_has ls 5 [(0, .ref a), (1, .ref r), (2, .int (nI (3 * t))), (3, .ref q), (4, .int (nI i))] → W p l e R s m args below meth c H locs cells slots Q (F0 m 50 ls []) := by
  intro k
  induction k with
  | zero => intro i h1 h2; omega
  | succ k ih =>
    intro i hi hk h H locs ls hP hD hS hl
    refine lv_iload hx hb dX15_unpacked_50 (lv_at hl 4 rfl) ?_
    refine lv_aload_n hx hb dX15_unpacked_52 rfl (lv_at hl 3 rfl) ?_
    refine va_alen (D := (dC, dI)) hx hb hK hP 2 2 rfl rfl rfl dX15_unpacked_53 ?_
    refine lv_icmp_ge (tgt := 72) hx hb dX15_unpacked_54 (by decide) (fun hc => ?_) (fun hc => ?_)
    · have hi2 : i = 255 := by
        rcases Nat.lt_or_ge i 255 with q1 | q1
        · exact absurd hc (nI_ge q1 (by omega))
        · omega
      subst hi2
      exact kk h H locs ls hP hD hS hl
    · have hlt : i < 255 := by
        rcases Nat.lt_or_ge i 255 with q1 | q1
        · exact q1
        · exact absurd (nI_le q1 (by omega)) hc
      refine lv_aload_n hx hb dX15_unpacked_57 rfl (lv_at hl 3 rfl) ?_
      refine lv_iload hx hb dX15_unpacked_58 (lv_at hl 4 rfl) ?_
      refine lv_aload_n hx hb dX15_unpacked_60 rfl (lv_at hl 0 rfl) ?_
      refine lv_iload_n hx hb dX15_unpacked_61 rfl (lv_at hl 2 rfl) ?_
      refine lv_iconst (v := nI 2) hx hb dX15_unpacked_62 (by decide) ?_
      refine lv_iadd hx hb dX15_unpacked_63 ?_
      refine lv_topi (fun y ey => ?_)
      have ey2 : y = nI (3 * t + 2) := ey.trans (nI_add _ _)
      refine va_iald (D := (dC, dI)) hx hb hK hP 0 0 rfl rfl (by rw [ey2]; exact vp_in_nI (by omega) (by omega)) dX15_unpacked_64 ?_
      refine va_iast (D := (dC, dI)) hx hb hK hP hD hS 2 2 rfl rfl (vp_in_nI hlt (by omega)) dX15_unpacked_65 (fun H locs hP hD hS => ?_)
      refine lv_iinc (v := nI (i + 1)) (lv' := [(4, .int (nI (i + 1))), (0, .ref a), (1, .ref r), (2, .int (nI (3 * t))), (3, .ref q)]) hx hb dX15_unpacked_66 hl (k := 4) rfl (by rw [nI_succ]; rfl) (by decide) rfl (fun ls hl => ?_)
      refine lv_goto (tgt := 50) hx hb dX15_unpacked_69 (by decide) ?_
      exact ih (i + 1) (by omega) (by omega) _ H locs ls hP hD hS (lv_sub hl [1, 2, 3, 4, 0] rfl)
set_option maxHeartbeats 4000000 in
set_option maxRecDepth 100000 in
/-- the outer loop, from the t-th run on, to the 255 that lacks its number -/
theorem unp_loop {p : Program} {l : Launch} {e : Env} {R : Room} {s : State} {m : MethodId} {args : Array Value} {below : List Frame} {meth : Method} {c : Code} {Q : State → Prop} {cl : List vw_C} {dC : Nat → ClassId} {dI : Nat → Nat → Nat} {A : Nat → Prop} {H0 : Heap} {a : Nat} {f : Nat → Int32} {cA : ClassId}
    (hx : p.tables.exec = Jvm.exec) (hb : c.code = cX15_unpacked) (hml : c.maxLocals = 5) (hown : s.vm.findClass RX15 = some m.cls) (hts : ∀ w ∈ us_unpacked, w.before args s = true) (hA : ∀ q : Nat, H0.size ≤ q → A q)
    (hRf : 1 ≤ R.frames) (hRl : 23 ≤ R.locals) (hRc : 133 ≤ R.cells) (hRs : 580635 ≤ R.slots) (hf : ∀ j, j < 199 → f j = 255)
    (kk : ∀ (pl : va_W) (H : Heap) (locs : List Loc) (ls : Array Slot), us pl = 580635 → va_K (dC, dI) cl [(cA, .int)] s → va_P (dC, dI) cl (wa a cA 199 f :: pl) H → va_D A (wa a cA 199 f :: pl) → va_S A H0 H locs → W p l e R s m args below meth c H locs 133 580635 Q (F0 m 37 ls [])) :
    ∀ (k t : Nat), t + k = 66 → ∀ (r : Nat) (cR : ClassId) (g : Nat → Int32) (pl : va_W) (H : Heap) (locs : List Loc) (ls : Array Slot), us pl + 255 * t = uT t → va_K (dC, dI) cl [(cA, .int), (cR, .int)] s → va_P (dC, dI) cl (wa a cA 199 f :: wa r cR (255 * t) g :: pl) H → va_D A (wa a cA 199 f :: wa r cR (255 * t) g :: pl) → va_S A H0 H locs → lv_has ls 5 [(0, .ref a), (1, .ref r), (2, .int (nI (3 * t)))] → W p l e R s m args below meth c H locs (1 + 2 * t) (uT t) Q (F0 m 6 ls []) := by
  intro k
  induction k with
  | zero =>
    intro t ht r cR g pl H locs ls hu hK hP hD hS hl
    have ht66 : t = 66 := by omega
    subst ht66
    refine lv_iload_n hx hb dX15_unpacked_6 rfl (lv_at hl 2 rfl) ?_
    refine lv_aload_n hx hb dX15_unpacked_7 rfl (lv_at hl 0 rfl) ?_
    refine va_alen (D := (dC, dI)) hx hb hK hP 0 0 rfl rfl rfl dX15_unpacked_8 ?_
    refine lv_icmp_ge (tgt := 104) hx hb dX15_unpacked_9 (by decide) (fun hc => absurd hc (nI_ge (a := 3 * 66) (b := 199) (by omega) (by omega))) (fun _ => ?_)
    refine lv_aload_n hx hb dX15_unpacked_12 rfl (lv_at hl 0 rfl) ?_
    refine lv_iload_n hx hb dX15_unpacked_13 rfl (lv_at hl 2 rfl) ?_
    refine va_iald (D := (dC, dI)) hx hb hK hP 0 0 rfl rfl (vp_in_nI (by omega) (by omega)) dX15_unpacked_14 ?_
    refine lv_sipush (v := 255) hx hb dX15_unpacked_15 (by decide) ?_
    refine lv_icmp_ne (tgt := 84) hx hb dX15_unpacked_18 (by decide) (fun hc => absurd (hf _ (by rw [nI_clamp (by omega)]; omega)) hc) (fun _ => ?_)
    refine lv_iload_n hx hb dX15_unpacked_21 rfl (lv_at hl 2 rfl) ?_
    refine lv_iconst (v := nI 2) hx hb dX15_unpacked_22 (by decide) ?_
    refine lv_iadd hx hb dX15_unpacked_23 ?_
    refine lv_topi (fun y ey => ?_)
    have ey2 : y = nI 200 := ey.trans (nI_add _ _)
    refine lv_aload_n hx hb dX15_unpacked_24 rfl (lv_at hl 0 rfl) ?_
    refine va_alen (D := (dC, dI)) hx hb hK hP 0 0 rfl rfl rfl dX15_unpacked_25 ?_
    refine lv_icmp_ge (tgt := 37) hx hb dX15_unpacked_26 (by decide) (fun _ => ?_) (fun hc => absurd (by rw [ey2]; exact nI_le (a := 199) (b := 200) (by omega) (by omega)) hc)
    rw [uT_66]
    refine kk (wa r cR (255 * 66) g :: pl) H locs ls ?_ (hK.sub [0] rfl) hP hD hS
    rw [us_cons, us_wa]
    have := uT_66
    omega
  | succ k ih =>
    intro t ht r cR g pl H locs ls hu hK hP hD hS hl
    have ht66 : t < 66 := by omega
    have huT : uT (t + 1) = uT t + 255 + 255 * (t + 1) := rfl
    have huL := uT_le (t + 1) (by omega)
    refine lv_iload_n hx hb dX15_unpacked_6 rfl (lv_at hl 2 rfl) ?_
    refine lv_aload_n hx hb dX15_unpacked_7 rfl (lv_at hl 0 rfl) ?_
    refine va_alen (D := (dC, dI)) hx hb hK hP 0 0 rfl rfl rfl dX15_unpacked_8 ?_
    refine lv_icmp_ge (tgt := 104) hx hb dX15_unpacked_9 (by decide) (fun hc => absurd hc (nI_ge (a := 3 * t) (b := 199) (by omega) (by omega))) (fun _ => ?_)
    refine lv_aload_n hx hb dX15_unpacked_12 rfl (lv_at hl 0 rfl) ?_
    refine lv_iload_n hx hb dX15_unpacked_13 rfl (lv_at hl 2 rfl) ?_
    refine va_iald (D := (dC, dI)) hx hb hK hP 0 0 rfl rfl (vp_in_nI (by omega) (by omega)) dX15_unpacked_14 ?_
    refine lv_sipush (v := 255) hx hb dX15_unpacked_15 (by decide) ?_
    refine lv_icmp_ne (tgt := 84) hx hb dX15_unpacked_18 (by decide) (fun hc => absurd (hf _ (by rw [nI_clamp (by omega)]; omega)) hc) (fun _ => ?_)
    refine lv_iload_n hx hb dX15_unpacked_21 rfl (lv_at hl 2 rfl) ?_
    refine lv_iconst (v := nI 2) hx hb dX15_unpacked_22 (by decide) ?_
    refine lv_iadd hx hb dX15_unpacked_23 ?_
    refine lv_topi (fun y ey => ?_)
    have ey2 : y = nI (3 * t + 2) := ey.trans (nI_add _ _)
    refine lv_aload_n hx hb dX15_unpacked_24 rfl (lv_at hl 0 rfl) ?_
    refine va_alen (D := (dC, dI)) hx hb hK hP 0 0 rfl rfl rfl dX15_unpacked_25 ?_
    refine lv_icmp_ge (tgt := 37) hx hb dX15_unpacked_26 (by decide) (fun hc => absurd hc (by rw [ey2]; exact nI_ge (a := 3 * t + 2) (b := 199) (by omega) (by omega))) (fun _ => ?_)
    refine lv_aload_n hx hb dX15_unpacked_29 rfl (lv_at hl 0 rfl) ?_
    refine lv_iload_n hx hb dX15_unpacked_30 rfl (lv_at hl 2 rfl) ?_
    refine lv_iconst (v := nI 1) hx hb dX15_unpacked_31 (by decide) ?_
    refine lv_iadd hx hb dX15_unpacked_32 ?_
    refine lv_topi (fun y1 ey1 => ?_)
    have ey3 : y1 = nI (3 * t + 1) := ey1.trans (nI_add _ _)
    have hin1 : vp_in y1 199 := by rw [ey3]; exact vp_in_nI (by omega) (by omega)
    refine va_iald (D := (dC, dI)) hx hb hK hP 0 0 rfl rfl hin1 dX15_unpacked_33 ?_
    have hv1 : f y1.toNatClampNeg = 255 := hf _ (by rw [ey3, nI_clamp (by omega)]; omega)
    rw [hv1]
    refine lv_if_ne (tgt := 39) hx hb dX15_unpacked_34 (by decide) (fun _ => ?_) (fun hc => absurd hc (by decide))
    refine lv_aload_n hx hb dX15_unpacked_39 rfl (lv_at hl 0 rfl) ?_
    refine lv_iload_n hx hb dX15_unpacked_40 rfl (lv_at hl 2 rfl) ?_
    refine lv_iconst (v := nI 1) hx hb dX15_unpacked_41 (by decide) ?_
    refine lv_iadd hx hb dX15_unpacked_42 ?_
    rw [← ey1]
    refine va_iald (D := (dC, dI)) hx hb hK hP 0 0 rfl rfl hin1 dX15_unpacked_43 ?_
    rw [hv1]
    refine va_newa (D := (dC, dI)) (atype := .int) (N' := 255) (a0 := (255, .inl (fun _ => 0))) hx hb (hts (.arrayClass .int) (by decide +kernel)) rfl hK hP hD hS hA (fun _ => rfl) (by decide) (by decide) (by decide) (by omega) (by omega) dX15_unpacked_44 (fun q cQ H hK hP hD hS => ?_)
    have hK : va_K (dC, dI) cl [(cA, .int), (cR, .int), (cQ, .int)] s := hK
    have hpm : ((wa a cA 199 f :: wa r cR (255 * t) g :: pl) ++ [wa q cQ 255 (fun _ => 0)]).Perm (wa a cA 199 f :: wa r cR (255 * t) g :: wa q cQ 255 (fun _ => 0) :: pl) := List.Perm.cons _ (List.Perm.cons _ (List.perm_append_singleton _ _))
    have hP := uv_Pp hpm hP
    have hD := uv_Dp hpm hD
    refine lv_astore_n (lv' := [(3, .ref q), (0, .ref a), (1, .ref r), (2, .int (nI (3 * t)))]) hx hb dX15_unpacked_46 rfl hl (by decide) rfl (fun ls hl => ?_)
    refine lv_iconst (v := nI 0) hx hb dX15_unpacked_47 (by decide) ?_
    refine lv_istore (lv' := [(4, .int (nI 0)), (3, .ref q), (0, .ref a), (1, .ref r), (2, .int (nI (3 * t)))]) hx hb dX15_unpacked_48 hl (by decide) rfl (fun ls hl => ?_)
    refine unp_fill (A := A) (H0 := H0) (g := g) hx hb ht66 hK ?_ 256 0 (by omega) (by omega) _ H _ ls hP hD hS (lv_sub hl [2, 3, 4, 1, 0] rfl)
    intro h H locs ls hP hD hS hl
    refine lv_aload_n hx hb dX15_unpacked_72 rfl (lv_at hl 1 rfl) ?_
    refine lv_aload_n hx hb dX15_unpacked_73 rfl (lv_at hl 3 rfl) ?_
    have hpc : (wa a cA 199 f :: wa r cR (255 * t) g :: wa q cQ 255 h :: pl).Perm ([wa r cR (255 * t) g, wa q cQ 255 h] ++ (wa a cA 199 f :: pl)) := (List.Perm.swap _ _ _).trans (List.Perm.cons _ (List.Perm.swap _ _ _))
    have hPc := uv_Ps (List.sublist_append_left [wa r cR (255 * t) g, wa q cQ 255 h] (wa a cA 199 f :: pl)) (uv_Pp hpc hP)
    have hDc := uv_Ds (List.sublist_append_left [wa r cR (255 * t) g, wa q cQ 255 h] (wa a cA 199 f :: pl)) (uv_Dp hpc hD)
    have hKc := hK.sub (tys' := [(cR, .int), (cQ, .int)]) [1, 2] rfl
    have hFc := uv_free hD hS hA hpc
    refine va_callr (va_runS (As := [.ref r, .ref q]) (rest := []) ⟨hx, hb, hml, hown, hts⟩ (c_joined l cl dC dI r q H.size (255 * t) 255 g h cR cQ (by omega)) (va_cwS 2 hts ug_unpacked_joined rfl rfl rfl (by decide +kernel) ⟨hRf, hRl⟩) ⟨fun a U g mk q => by obtain ⟨q0, q1, qP, qK, qD⟩ := q; exact ⟨q0, q1, qP, va_K.moved (u := U) (U := U.calling g mk a) (Vm.Alike.refl U.vm) qK, qD⟩, fun U hU hW => ⟨rfl, by rw [hU], by rw [hU]; exact hPc, va_K.moved hW.alike hKc, hDc.weaken (fun _ _ _ _ => trivial)⟩⟩ rfl rfl hl.1 rfl (lv_room (Nat.le_of_ble_eq_true rfl)) dX15_unpacked_74 ⟨by omega, by omega⟩) hS (fun q _ h => hFc q h) hFc (fun u rr t1 H1 locs1 ht1 hvm hw hB hz1 hk1 hS => ?_)
    obtain ⟨cR2, g2⟩ := u
    obtain ⟨hP1, hK1, hD1⟩ := hB
    rw [ht1] at hP1
    have hK1 := va_K.moved hvm.symm hK1
    obtain ⟨hP, hD⟩ := uv_join hP hD hpc hk1 hFc hP1 hD1
    have hK := (hK.sub (tys' := [(cA, .int)]) [0] rfl).app (hK1.sub (tys' := [(cR2, .int)]) [2] rfl)
    refine lv_astore_n (lv' := [(1, .ref rr), (0, .ref a), (2, .int (nI (3 * t))), (3, .ref q), (4, .int (nI 255))]) hx hb dX15_unpacked_77 rfl hl (by decide) rfl (fun ls hl => ?_)
    refine lv_iinc (v := nI (3 * (t + 1))) (lv' := [(2, .int (nI (3 * (t + 1)))), (1, .ref rr), (0, .ref a), (3, .ref q), (4, .int (nI 255))]) hx hb dX15_unpacked_78 hl (k := 2) rfl (by rw [show Int32.ofInt 3 = nI 3 from rfl, nI_add]; rfl) (by decide) rfl (fun ls hl => ?_)
    refine lv_goto (tgt := 6) hx hb dX15_unpacked_81 (by decide) ?_
    have hpe : ([wa r cR (255 * t) g, wa q cQ 255 h, wa rr cR2 (255 * t + 255) g2] ++ (wa a cA 199 f :: pl)).Perm (wa a cA 199 f :: wa rr cR2 (255 * (t + 1)) g2 :: wa r cR (255 * t) g :: wa q cQ 255 h :: pl) := by
      have e1 : 255 * (t + 1) = 255 * t + 255 := by omega
      rw [e1]
      refine (List.perm_middle (l₁ := [wa r cR (255 * t) g, wa q cQ 255 h, wa rr cR2 (255 * t + 255) g2])).trans (List.Perm.cons _ ?_)
      exact List.perm_middle (l₁ := [wa r cR (255 * t) g, wa q cQ 255 h]) (l₂ := pl)
    have e2 : 1 + 2 * t + 1 + 1 = 1 + 2 * (t + 1) := by omega
    have e3 : uT t + 255 + (255 * t + 255) = uT (t + 1) := by rw [huT]; omega
    rw [e2, e3]
    exact ih (t + 1) (by omega) rr cR2 g2 (wa r cR (255 * t) g :: wa q cQ 255 h :: pl) H1 locs1 ls (by rw [us_cons, us_cons, us_wa, us_wa, huT]; omega) hK (uv_Pp hpe hP) (uv_Dp hpe hD) hS (lv_sub hl [2, 1, 0] rfl)
/-- a method that answers null, with a list of cells that it made -/
def un_Q (B : va_W → State → Prop) (A : Nat → Prop) : Array Value → State → Outcome → State → Prop := fun _ st oc t => (∃ pl : va_W, oc = .returned (some .null) ∧ B pl t) ∧ va_F A st t
set_option maxHeartbeats 4000000 in
set_option maxRecDepth 100000 in
/-- unpacked of 199 bytes 255: null, and 580635 slots are made -/
theorem c_unpacked (l : Launch) (cl : List vw_C) (dC : Nat → ClassId) (dI : Nat → Nat → Nat) (a sz : Nat) (f : Nat → Int32) (cA : ClassId) (hf : ∀ j, j < 199 → f j = 255) : Met l yX15_unpacked us_unpacked ({ frames := 1, cells := 133, slots := 580635, locals := 23 }) (va_Pc [.ref a] (fun U => U.heap.size = sz ∧ va_P (dC, dI) cl [wa a cA 199 f] U.heap ∧ va_K (dC, dI) cl [(cA, .int)] U ∧ va_D (fun _ => True) [wa a cA 199 f])) (un_Q (fun pl t => us pl = 580635 ∧ va_P (dC, dI) cl (wa a cA 199 f :: pl) t.heap ∧ va_K (dC, dI) cl [(cA, .int)] t ∧ va_D (va_A [wa a cA 199 f] sz) (wa a cA 199 f :: pl)) (va_A [wa a cA 199 f] sz)) 133 580635 (va_A [wa a cA 199 f] sz) := by
  refine Met.ofW (cc := cX15_unpacked) (maxL := 5) (ret := (some (.array .int))) (by decide) rfl ?_
  intro p e s m args below meth c s₁ B hml hv
  obtain ⟨rfl, hsz, hP, hK, hD0⟩ := hv
  have hx := B.exec
  have hb := B.bytes
  have hr := B.returns
  have hts := atoms_spec (ws := us_unpacked) B.pre
  have hown : s.vm.findClass RX15 = some m.cls := findClass_of_methodNamed B.named
  have hlocks := B.notSynchronized
  subst hsz
  have hD := hD0.self (sz := s.heap.size)
  generalize hAe : va_A [wa a cA 199 f] s.heap.size = A at hD ⊢
  have hA : ∀ q : Nat, s.heap.size ≤ q → A q := fun q h => by rw [← hAe]; exact Or.inr h
  have hS : va_S A s.heap s.heap [] := va_S.rf
  have hl := lv_entry ([.ref a]) (n := 5) (Nat.le_of_ble_eq_true rfl)
  rw [lg_entry_eq]
  generalize (lg_sl ([.ref a]) ++ List.replicate (5 - (lg_sl ([.ref a])).length) Slot.unset).toArray = ls at hl ⊢
  have hl : lv_has ls 5 [(0, .ref a)] := hl
  refine lv_iconst (v := nI 0) hx hb dX15_unpacked_0 (by decide) ?_
  refine va_newa (D := (dC, dI)) (atype := .int) (N' := 0) (a0 := (0, .inl (fun _ => 0))) hx hb (hts (.arrayClass .int) (by decide +kernel)) rfl hK hP hD hS hA (fun _ => rfl) (by decide) (by decide) (by decide) (Nat.le_of_ble_eq_true rfl) (Nat.le_of_ble_eq_true rfl) dX15_unpacked_1 (fun r cR H hK hP hD hS => ?_)
  refine lv_astore_n (lv' := [(1, .ref r), (0, .ref a)]) hx hb dX15_unpacked_3 rfl hl (by decide) rfl (fun ls hl => ?_)
  refine lv_iconst (v := nI 0) hx hb dX15_unpacked_4 (by decide) ?_
  refine lv_istore_n (lv' := [(2, .int (nI 0)), (1, .ref r), (0, .ref a)]) hx hb dX15_unpacked_5 rfl hl (by decide) rfl (fun ls hl => ?_)
  refine unp_loop (A := A) (H0 := s.heap) (f := f) hx hb hml hown hts hA (Nat.le_of_ble_eq_true rfl) (Nat.le_of_ble_eq_true rfl) (Nat.le_of_ble_eq_true rfl) (Nat.le_of_ble_eq_true rfl) hf ?_ 66 0 rfl r cR (fun _ => 0) [] H _ ls rfl hK hP hD hS (lv_sub hl [2, 1, 0] rfl)
  intro pl H locs ls hu hK hP hD hS
  refine lv_null hx hb dX15_unpacked_37 ?_
  exact W.aret (v := .null) hx hb hr (Or.inr ⟨_, rfl⟩) (Or.inl rfl) (fun t ht hW => ⟨⟨pl, rfl, hu, by rw [ht]; exact hP, va_K.moved hW.alike hK, hD⟩, hS.F ht⟩) hS.2.2 dX15_unpacked_38
end
section
/-! names of classes, from the print of the task; small rows of our own -/
def RX0 : String := "Patchferry$Blocks"
def RX1 : String := "Patchferry$Differ"
def RX2 : String := "Patchferry$Disk"
def RX3 : String := "Patchferry$Edits"
def RX4 : String := "Patchferry$Patch"
def RX5 : String := "Patchferry$Program"
def RX6 : String := "Patchferry$Row"
def RX7 : String := "Patchferry$Runs"
def RX8 : String := "Patchferry$Store"
def RX9 : String := "Patchferry$Tree"
def RX10 : String := "Patchferry$Versions"
def RX11 : String := "Patchferry"
def RX12 : String := "PatchferryModel$Edit"
def RX13 : String := "PatchferryModel$Patch"
def RX14 : String := "PatchferryModel$Step"
def RJx145de : String := "java/io/Serializable"
def RJ5 : String := "java/lang/AbstractStringBuilder"
def RJx2cfe8 : String := "java/lang/Appendable"
def RJx00060 : String := "java/lang/ArrayIndexOutOfBoundsException"
def RJx9f9b0 : String := "java/lang/CharSequence"
def RJx8e188 : String := "java/lang/Cloneable"
def RJxb160c : String := "java/lang/Comparable"
def RJxabbfe : String := "java/lang/Integer$IntegerCache"
def RJ6 : String := "java/lang/Integer"
def RJxab1ab : String := "java/lang/Iterable"
def RJ9 : String := "java/lang/Math"
def RJxd2413 : String := "java/lang/Number"
def RJ0 : String := "java/lang/String"
def RJ4 : String := "java/lang/StringBuilder"
def RJx7c733 : String := "java/lang/StringIndexOutOfBoundsException"
def RJ1 : String := "java/lang/StringLatin1"
def RJ2 : String := "java/lang/StringUTF16"
def RJ10 : String := "java/lang/System"
def RJxfd54e : String := "java/lang/constant/Constable"
def RJx3cf43 : String := "java/lang/constant/ConstantDesc"
def RJxa1e45 : String := "java/util/AbstractCollection"
def RJxc12de : String := "java/util/AbstractList"
def RJx35411 : String := "java/util/ArrayList$Itr"
def RJx4a65c : String := "java/util/ArrayList"
def RJ7 : String := "java/util/Arrays"
def RJx5ef63 : String := "java/util/Collection"
def RJx4d0d8 : String := "java/util/Iterator"
def RJxbd725 : String := "java/util/List"
def RJ15 : String := "java/util/Objects"
def RJxf0a74 : String := "java/util/RandomAccess"
def RJxa66e6 : String := "java/util/SequencedCollection"
def RJ8 : String := "jdk/internal/util/ArraysSupport"
def RJ3 : String := "jdk/internal/util/Preconditions"
def RL : String := "PatchferryLaw"
def TJ0 : u_T := fun k => match k with
  | 0 => ("java/lang/String", "value", "[B", true)
  | 1 => ("java/lang/String", "coder", "B", true)
  | 2 => ("java/lang/String", "hash", "I", false)
  | _ => ("java/lang/String", "hashIsZero", "Z", false)
def tyJ0 : Nat → FieldType := fun k => match k with
  | 0 => .array .byte
  | 1 => .byte
  | 2 => .int
  | _ => .boolean
abbrev wsJ00 : List Cond := u_ws RJ0 TJ0 4
theorem nmJ0 : ∀ a, a < 4 → ∀ b, b < 4 → a ≠ b → (TJ0 a).2.1 ≠ (TJ0 b).2.1 := by decide +kernel
theorem tyJ0_ok : ∀ k, k < 4 → parseFieldDescriptor (TJ0 k).2.2.1 = some (tyJ0 k) := by decide +kernel
def TJ4 : u_T := fun k => match k with
  | 0 => ("java/lang/AbstractStringBuilder", "value", "[B", false)
  | 1 => ("java/lang/AbstractStringBuilder", "coder", "B", false)
  | 2 => ("java/lang/AbstractStringBuilder", "maybeLatin1", "Z", false)
  | _ => ("java/lang/AbstractStringBuilder", "count", "I", false)
def tyJ4 : Nat → FieldType := fun k => match k with
  | 0 => .array .byte
  | 1 => .byte
  | 2 => .boolean
  | _ => .int
abbrev wsJ40 : List Cond := u_ws RJ4 TJ4 4
theorem nmJ4 : ∀ a, a < 4 → ∀ b, b < 4 → a ≠ b → (TJ4 a).2.1 ≠ (TJ4 b).2.1 := by decide +kernel
theorem tyJ4_ok : ∀ k, k < 4 → parseFieldDescriptor (TJ4 k).2.2.1 = some (tyJ4 k) := by decide +kernel
def TJ6 : u_T := fun k => match k with
  | _ => ("java/lang/Integer", "value", "I", true)
def tyJ6 : Nat → FieldType := fun k => match k with
  | _ => .int
abbrev wsJ60 : List Cond := u_ws RJ6 TJ6 1
theorem nmJ6 : ∀ a, a < 1 → ∀ b, b < 1 → a ≠ b → (TJ6 a).2.1 ≠ (TJ6 b).2.1 := by decide +kernel
theorem tyJ6_ok : ∀ k, k < 1 → parseFieldDescriptor (TJ6 k).2.2.1 = some (tyJ6 k) := by decide +kernel
def TJx00060 : u_T := fun k => match k with
  | 0 => ("java/lang/Throwable", "cause", "Ljava/lang/Throwable;", false)
  | 1 => ("java/lang/Throwable", "stackTrace", "[Ljava/lang/StackTraceElement;", false)
  | 2 => ("java/lang/Throwable", "suppressedExceptions", "Ljava/util/List;", false)
  | 3 => ("java/lang/Throwable", "detailMessage", "Ljava/lang/String;", false)
  | 4 => ("java/lang/Throwable", "backtrace", "Ljava/lang/Object;", false)
  | _ => ("java/lang/Throwable", "depth", "I", false)
def tyJx00060 : Nat → FieldType := fun k => match k with
  | 0 => .object "java/lang/Throwable"
  | 1 => .array (.object "java/lang/StackTraceElement")
  | 2 => .object "java/util/List"
  | 3 => .object "java/lang/String"
  | 4 => .object "java/lang/Object"
  | _ => .int
abbrev wsJx000600 : List Cond := u_ws RJx00060 TJx00060 6
theorem nmJx00060 : ∀ a, a < 6 → ∀ b, b < 6 → a ≠ b → (TJx00060 a).2.1 ≠ (TJx00060 b).2.1 := by decide +kernel
theorem tyJx00060_ok : ∀ k, k < 6 → parseFieldDescriptor (TJx00060 k).2.2.1 = some (tyJx00060 k) := by decide +kernel
def TJx7c733 : u_T := fun k => match k with
  | 0 => ("java/lang/Throwable", "backtrace", "Ljava/lang/Object;", false)
  | 1 => ("java/lang/Throwable", "detailMessage", "Ljava/lang/String;", false)
  | 2 => ("java/lang/Throwable", "cause", "Ljava/lang/Throwable;", false)
  | 3 => ("java/lang/Throwable", "stackTrace", "[Ljava/lang/StackTraceElement;", false)
  | 4 => ("java/lang/Throwable", "depth", "I", false)
  | _ => ("java/lang/Throwable", "suppressedExceptions", "Ljava/util/List;", false)
def tyJx7c733 : Nat → FieldType := fun k => match k with
  | 0 => .object "java/lang/Object"
  | 1 => .object "java/lang/String"
  | 2 => .object "java/lang/Throwable"
  | 3 => .array (.object "java/lang/StackTraceElement")
  | 4 => .int
  | _ => .object "java/util/List"
abbrev wsJx7c7330 : List Cond := u_ws RJx7c733 TJx7c733 6
theorem nmJx7c733 : ∀ a, a < 6 → ∀ b, b < 6 → a ≠ b → (TJx7c733 a).2.1 ≠ (TJx7c733 b).2.1 := by decide +kernel
theorem tyJx7c733_ok : ∀ k, k < 6 → parseFieldDescriptor (TJx7c733 k).2.2.1 = some (tyJx7c733 k) := by decide +kernel
def TJx35411 : u_T := fun k => match k with
  | 0 => ("java/util/ArrayList$Itr", "cursor", "I", false)
  | 1 => ("java/util/ArrayList$Itr", "lastRet", "I", false)
  | 2 => ("java/util/ArrayList$Itr", "expectedModCount", "I", false)
  | _ => ("java/util/ArrayList$Itr", "this$0", "Ljava/util/ArrayList;", true)
def tyJx35411 : Nat → FieldType := fun k => match k with
  | 0 => .int
  | 1 => .int
  | 2 => .int
  | _ => .object "java/util/ArrayList"
abbrev wsJx354110 : List Cond := u_ws RJx35411 TJx35411 4
theorem nmJx35411 : ∀ a, a < 4 → ∀ b, b < 4 → a ≠ b → (TJx35411 a).2.1 ≠ (TJx35411 b).2.1 := by decide +kernel
theorem tyJx35411_ok : ∀ k, k < 4 → parseFieldDescriptor (TJx35411 k).2.2.1 = some (tyJx35411 k) := by decide +kernel
def TJx4a65c : u_T := fun k => match k with
  | 0 => ("java/util/AbstractList", "modCount", "I", false)
  | 1 => ("java/util/ArrayList", "elementData", "[Ljava/lang/Object;", false)
  | _ => ("java/util/ArrayList", "size", "I", false)
def tyJx4a65c : Nat → FieldType := fun k => match k with
  | 0 => .int
  | 1 => .array (.object "java/lang/Object")
  | _ => .int
abbrev wsJx4a65c0 : List Cond := u_ws RJx4a65c TJx4a65c 3
theorem nmJx4a65c : ∀ a, a < 3 → ∀ b, b < 3 → a ≠ b → (TJx4a65c a).2.1 ≠ (TJx4a65c b).2.1 := by decide +kernel
theorem tyJx4a65c_ok : ∀ k, k < 3 → parseFieldDescriptor (TJx4a65c k).2.2.1 = some (tyJx4a65c k) := by decide +kernel
def TX0 : u_T := fun k => match k with
  | 0 => ("Patchferry$Blocks", "weaks", "LPatchferry$Row;", true)
  | 1 => ("Patchferry$Blocks", "strongs", "LPatchferry$Row;", true)
  | 2 => ("Patchferry$Blocks", "plain", "I", false)
  | 3 => ("Patchferry$Blocks", "wrong", "I", false)
  | _ => ("Patchferry$Blocks", "used", "I", false)
def tyX0 : Nat → FieldType := fun k => match k with
  | 0 => .object "Patchferry$Row"
  | 1 => .object "Patchferry$Row"
  | 2 => .int
  | 3 => .int
  | _ => .int
abbrev wsX00 : List Cond := u_ws RX0 TX0 5
theorem nmX0 : ∀ a, a < 5 → ∀ b, b < 5 → a ≠ b → (TX0 a).2.1 ≠ (TX0 b).2.1 := by decide +kernel
theorem tyX0_ok : ∀ k, k < 5 → parseFieldDescriptor (TX0 k).2.2.1 = some (tyX0 k) := by decide +kernel
def TX1 : u_T := fun k => match k with
  | 0 => ("Patchferry$Differ", "before", "LPatchferry$Runs;", true)
  | 1 => ("Patchferry$Differ", "after", "LPatchferry$Runs;", true)
  | 2 => ("Patchferry$Differ", "spot", "I", false)
  | 3 => ("Patchferry$Differ", "foundSize", "I", false)
  | 4 => ("Patchferry$Differ", "foundFrom", "I", false)
  | 5 => ("Patchferry$Differ", "stretched", "I", false)
  | 6 => ("Patchferry$Differ", "unlike", "I", false)
  | 7 => ("Patchferry$Differ", "from", "I", false)
  | 8 => ("Patchferry$Differ", "size", "I", false)
  | _ => ("Patchferry$Differ", "changed", "I", false)
def tyX1 : Nat → FieldType := fun k => match k with
  | 0 => .object "Patchferry$Runs"
  | 1 => .object "Patchferry$Runs"
  | 2 => .int
  | 3 => .int
  | 4 => .int
  | 5 => .int
  | 6 => .int
  | 7 => .int
  | 8 => .int
  | _ => .int
abbrev wsX10 : List Cond := u_ws RX1 TX1 10
theorem nmX1 : ∀ a, a < 10 → ∀ b, b < 10 → a ≠ b → (TX1 a).2.1 ≠ (TX1 b).2.1 := by decide +kernel
theorem tyX1_ok : ∀ k, k < 10 → parseFieldDescriptor (TX1 k).2.2.1 = some (tyX1 k) := by decide +kernel
def TX2 : u_T := fun k => match k with
  | 0 => ("Patchferry$Disk", "cells", "LPatchferry$Row;", true)
  | 1 => ("Patchferry$Disk", "ahead", "LPatchferry$Row;", true)
  | 2 => ("Patchferry$Disk", "hand", "LPatchferry$Row;", true)
  | 3 => ("Patchferry$Disk", "begins", "LPatchferry$Row;", true)
  | 4 => ("Patchferry$Disk", "needs", "LPatchferry$Row;", true)
  | 5 => ("Patchferry$Disk", "order", "LPatchferry$Row;", true)
  | 6 => ("Patchferry$Disk", "laid", "LPatchferry$Patch;", false)
  | 7 => ("Patchferry$Disk", "isLaid", "Z", false)
  | 8 => ("Patchferry$Disk", "saved", "I", false)
  | 9 => ("Patchferry$Disk", "savedSize", "I", false)
  | 10 => ("Patchferry$Disk", "done", "I", false)
  | _ => ("Patchferry$Disk", "cut", "I", false)
def tyX2 : Nat → FieldType := fun k => match k with
  | 0 => .object "Patchferry$Row"
  | 1 => .object "Patchferry$Row"
  | 2 => .object "Patchferry$Row"
  | 3 => .object "Patchferry$Row"
  | 4 => .object "Patchferry$Row"
  | 5 => .object "Patchferry$Row"
  | 6 => .object "Patchferry$Patch"
  | 7 => .boolean
  | 8 => .int
  | 9 => .int
  | 10 => .int
  | _ => .int
abbrev wsX20 : List Cond := u_ws RX2 TX2 12
theorem nmX2 : ∀ a, a < 12 → ∀ b, b < 12 → a ≠ b → (TX2 a).2.1 ≠ (TX2 b).2.1 := by decide +kernel
theorem tyX2_ok : ∀ k, k < 12 → parseFieldDescriptor (TX2 k).2.2.1 = some (tyX2 k) := by decide +kernel
def TX3 : u_T := fun k => match k with
  | 0 => ("Patchferry$Edits", "froms", "LPatchferry$Row;", true)
  | 1 => ("Patchferry$Edits", "tos", "LPatchferry$Row;", true)
  | 2 => ("Patchferry$Edits", "begins", "LPatchferry$Row;", true)
  | _ => ("Patchferry$Edits", "values", "LPatchferry$Row;", true)
def tyX3 : Nat → FieldType := fun k => match k with
  | 0 => .object "Patchferry$Row"
  | 1 => .object "Patchferry$Row"
  | 2 => .object "Patchferry$Row"
  | _ => .object "Patchferry$Row"
abbrev wsX30 : List Cond := u_ws RX3 TX3 4
theorem nmX3 : ∀ a, a < 4 → ∀ b, b < 4 → a ≠ b → (TX3 a).2.1 ≠ (TX3 b).2.1 := by decide +kernel
theorem tyX3_ok : ∀ k, k < 4 → parseFieldDescriptor (TX3 k).2.2.1 = some (tyX3 k) := by decide +kernel
def TX4 : u_T := fun k => match k with
  | 0 => ("Patchferry$Patch", "froms", "LPatchferry$Row;", true)
  | 1 => ("Patchferry$Patch", "sizes", "LPatchferry$Row;", true)
  | 2 => ("Patchferry$Patch", "adds", "LPatchferry$Row;", true)
  | _ => ("Patchferry$Patch", "base", "LPatchferry$Row;", false)
def tyX4 : Nat → FieldType := fun k => match k with
  | 0 => .object "Patchferry$Row"
  | 1 => .object "Patchferry$Row"
  | 2 => .object "Patchferry$Row"
  | _ => .object "Patchferry$Row"
abbrev wsX40 : List Cond := u_ws RX4 TX4 4
theorem nmX4 : ∀ a, a < 4 → ∀ b, b < 4 → a ≠ b → (TX4 a).2.1 ≠ (TX4 b).2.1 := by decide +kernel
theorem tyX4_ok : ∀ k, k < 4 → parseFieldDescriptor (TX4 k).2.2.1 = some (tyX4 k) := by decide +kernel
def TX5 : u_T := fun k => match k with
  | 0 => ("Patchferry$Program", "marks", "LPatchferry$Row;", true)
  | _ => ("Patchferry$Program", "places", "LPatchferry$Row;", true)
def tyX5 : Nat → FieldType := fun k => match k with
  | 0 => .object "Patchferry$Row"
  | _ => .object "Patchferry$Row"
abbrev wsX50 : List Cond := u_ws RX5 TX5 2
theorem nmX5 : ∀ a, a < 2 → ∀ b, b < 2 → a ≠ b → (TX5 a).2.1 ≠ (TX5 b).2.1 := by decide +kernel
theorem tyX5_ok : ∀ k, k < 2 → parseFieldDescriptor (TX5 k).2.2.1 = some (tyX5 k) := by decide +kernel
def TX6 : u_T := fun k => match k with
  | 0 => ("Patchferry$Row", "cells", "[I", true)
  | _ => ("Patchferry$Row", "size", "I", false)
def tyX6 : Nat → FieldType := fun k => match k with
  | 0 => .array .int
  | _ => .int
abbrev wsX60 : List Cond := u_ws RX6 TX6 2
theorem nmX6 : ∀ a, a < 2 → ∀ b, b < 2 → a ≠ b → (TX6 a).2.1 ≠ (TX6 b).2.1 := by decide +kernel
theorem tyX6_ok : ∀ k, k < 2 → parseFieldDescriptor (TX6 k).2.2.1 = some (tyX6 k) := by decide +kernel
def TX7 : u_T := fun k => match k with
  | 0 => ("Patchferry$Runs", "values", "LPatchferry$Row;", true)
  | _ => ("Patchferry$Runs", "ends", "LPatchferry$Row;", true)
def tyX7 : Nat → FieldType := fun k => match k with
  | 0 => .object "Patchferry$Row"
  | _ => .object "Patchferry$Row"
abbrev wsX70 : List Cond := u_ws RX7 TX7 2
theorem nmX7 : ∀ a, a < 2 → ∀ b, b < 2 → a ≠ b → (TX7 a).2.1 ≠ (TX7 b).2.1 := by decide +kernel
theorem tyX7_ok : ∀ k, k < 2 → parseFieldDescriptor (TX7 k).2.2.1 = some (tyX7 k) := by decide +kernel
def TX8 : u_T := fun k => match k with
  | 0 => ("Patchferry$Store", "texts", "Ljava/util/ArrayList;", true)
  | 1 => ("Patchferry$Store", "cuts", "Ljava/util/ArrayList;", true)
  | 2 => ("Patchferry$Store", "none", "LPatchferry$Row;", true)
  | 3 => ("Patchferry$Store", "homes", "LPatchferry$Row;", true)
  | 4 => ("Patchferry$Store", "starts", "LPatchferry$Row;", true)
  | 5 => ("Patchferry$Store", "sizes", "LPatchferry$Row;", true)
  | 6 => ("Patchferry$Store", "sums", "LPatchferry$Row;", true)
  | 7 => ("Patchferry$Store", "uses", "LPatchferry$Row;", true)
  | 8 => ("Patchferry$Store", "kept", "LPatchferry$Row;", true)
  | 9 => ("Patchferry$Store", "isStored", "LPatchferry$Row;", true)
  | 10 => ("Patchferry$Store", "folders", "LPatchferry$Row;", true)
  | 11 => ("Patchferry$Store", "numbers", "LPatchferry$Row;", true)
  | 12 => ("Patchferry$Store", "marks", "LPatchferry$Row;", true)
  | _ => ("Patchferry$Store", "grid", "LPatchferry$Row;", true)
def tyX8 : Nat → FieldType := fun k => match k with
  | 0 => .object "java/util/ArrayList"
  | 1 => .object "java/util/ArrayList"
  | 2 => .object "Patchferry$Row"
  | 3 => .object "Patchferry$Row"
  | 4 => .object "Patchferry$Row"
  | 5 => .object "Patchferry$Row"
  | 6 => .object "Patchferry$Row"
  | 7 => .object "Patchferry$Row"
  | 8 => .object "Patchferry$Row"
  | 9 => .object "Patchferry$Row"
  | 10 => .object "Patchferry$Row"
  | 11 => .object "Patchferry$Row"
  | 12 => .object "Patchferry$Row"
  | _ => .object "Patchferry$Row"
abbrev wsX80 : List Cond := u_ws RX8 TX8 14
theorem nmX8 : ∀ a, a < 14 → ∀ b, b < 14 → a ≠ b → (TX8 a).2.1 ≠ (TX8 b).2.1 := by decide +kernel
theorem tyX8_ok : ∀ k, k < 14 → parseFieldDescriptor (TX8 k).2.2.1 = some (tyX8 k) := by decide +kernel
def TX9 : u_T := fun k => match k with
  | _ => ("Patchferry$Tree", "sums", "LPatchferry$Row;", true)
def tyX9 : Nat → FieldType := fun k => match k with
  | _ => .object "Patchferry$Row"
abbrev wsX90 : List Cond := u_ws RX9 TX9 1
theorem nmX9 : ∀ a, a < 1 → ∀ b, b < 1 → a ≠ b → (TX9 a).2.1 ≠ (TX9 b).2.1 := by decide +kernel
theorem tyX9_ok : ∀ k, k < 1 → parseFieldDescriptor (TX9 k).2.2.1 = some (tyX9 k) := by decide +kernel
def TX10 : u_T := fun k => match k with
  | 0 => ("Patchferry$Versions", "texts", "Ljava/util/ArrayList;", true)
  | 1 => ("Patchferry$Versions", "none", "LPatchferry$Row;", true)
  | 2 => ("Patchferry$Versions", "keys", "LPatchferry$Row;", true)
  | 3 => ("Patchferry$Versions", "counts", "LPatchferry$Row;", true)
  | 4 => ("Patchferry$Versions", "gains", "LPatchferry$Row;", true)
  | _ => ("Patchferry$Versions", "costs", "LPatchferry$Row;", true)
def tyX10 : Nat → FieldType := fun k => match k with
  | 0 => .object "java/util/ArrayList"
  | 1 => .object "Patchferry$Row"
  | 2 => .object "Patchferry$Row"
  | 3 => .object "Patchferry$Row"
  | 4 => .object "Patchferry$Row"
  | _ => .object "Patchferry$Row"
abbrev wsX100 : List Cond := u_ws RX10 TX10 6
theorem nmX10 : ∀ a, a < 6 → ∀ b, b < 6 → a ≠ b → (TX10 a).2.1 ≠ (TX10 b).2.1 := by decide +kernel
theorem tyX10_ok : ∀ k, k < 6 → parseFieldDescriptor (TX10 k).2.2.1 = some (tyX10 k) := by decide +kernel
def TX11 : u_T := fun k => match k with
  | 0 => ("Patchferry", "texts", "Ljava/util/ArrayList;", true)
  | 1 => ("Patchferry", "patches", "Ljava/util/ArrayList;", true)
  | 2 => ("Patchferry", "buffer", "LPatchferry$Row;", true)
  | 3 => ("Patchferry", "word", "Ljava/lang/StringBuilder;", true)
  | 4 => ("Patchferry", "work", "LPatchferry$Row;", true)
  | 5 => ("Patchferry", "spare", "LPatchferry$Row;", true)
  | 6 => ("Patchferry", "signs", "LPatchferry$Row;", true)
  | 7 => ("Patchferry", "runs", "LPatchferry$Runs;", true)
  | 8 => ("Patchferry", "differ", "LPatchferry$Differ;", true)
  | 9 => ("Patchferry", "link", "LPatchferry$Patch;", true)
  | 10 => ("Patchferry", "mine", "LPatchferry$Edits;", true)
  | 11 => ("Patchferry", "theirs", "LPatchferry$Edits;", true)
  | 12 => ("Patchferry", "shelf", "LPatchferry$Store;", true)
  | 13 => ("Patchferry", "blocks", "LPatchferry$Blocks;", true)
  | 14 => ("Patchferry", "program", "LPatchferry$Program;", true)
  | 15 => ("Patchferry", "disk", "LPatchferry$Disk;", true)
  | 16 => ("Patchferry", "versions", "LPatchferry$Versions;", true)
  | 17 => ("Patchferry", "tree", "LPatchferry$Tree;", true)
  | _ => ("Patchferry", "lastClash", "I", false)
def tyX11 : Nat → FieldType := fun k => match k with
  | 0 => .object "java/util/ArrayList"
  | 1 => .object "java/util/ArrayList"
  | 2 => .object "Patchferry$Row"
  | 3 => .object "java/lang/StringBuilder"
  | 4 => .object "Patchferry$Row"
  | 5 => .object "Patchferry$Row"
  | 6 => .object "Patchferry$Row"
  | 7 => .object "Patchferry$Runs"
  | 8 => .object "Patchferry$Differ"
  | 9 => .object "Patchferry$Patch"
  | 10 => .object "Patchferry$Edits"
  | 11 => .object "Patchferry$Edits"
  | 12 => .object "Patchferry$Store"
  | 13 => .object "Patchferry$Blocks"
  | 14 => .object "Patchferry$Program"
  | 15 => .object "Patchferry$Disk"
  | 16 => .object "Patchferry$Versions"
  | 17 => .object "Patchferry$Tree"
  | _ => .int
abbrev wsX110 : List Cond := u_ws RX11 TX11 19
theorem nmX11 : ∀ a, a < 19 → ∀ b, b < 19 → a ≠ b → (TX11 a).2.1 ≠ (TX11 b).2.1 := by decide +kernel
theorem tyX11_ok : ∀ k, k < 19 → parseFieldDescriptor (TX11 k).2.2.1 = some (tyX11 k) := by decide +kernel
def TX12 : u_T := fun k => match k with
  | 0 => ("PatchferryModel$Edit", "from", "I", true)
  | 1 => ("PatchferryModel$Edit", "to", "I", true)
  | _ => ("PatchferryModel$Edit", "bytes", "[I", true)
def tyX12 : Nat → FieldType := fun k => match k with
  | 0 => .int
  | 1 => .int
  | _ => .array .int
abbrev wsX120 : List Cond := u_ws RX12 TX12 3
theorem nmX12 : ∀ a, a < 3 → ∀ b, b < 3 → a ≠ b → (TX12 a).2.1 ≠ (TX12 b).2.1 := by decide +kernel
theorem tyX12_ok : ∀ k, k < 3 → parseFieldDescriptor (TX12 k).2.2.1 = some (tyX12 k) := by decide +kernel
def TX13 : u_T := fun k => match k with
  | 0 => ("PatchferryModel$Patch", "base", "[I", true)
  | _ => ("PatchferryModel$Patch", "steps", "Ljava/util/ArrayList;", true)
def tyX13 : Nat → FieldType := fun k => match k with
  | 0 => .array .int
  | _ => .object "java/util/ArrayList"
abbrev wsX130 : List Cond := u_ws RX13 TX13 2
theorem nmX13 : ∀ a, a < 2 → ∀ b, b < 2 → a ≠ b → (TX13 a).2.1 ≠ (TX13 b).2.1 := by decide +kernel
theorem tyX13_ok : ∀ k, k < 2 → parseFieldDescriptor (TX13 k).2.2.1 = some (tyX13 k) := by decide +kernel
def TX14 : u_T := fun k => match k with
  | 0 => ("PatchferryModel$Step", "from", "I", true)
  | _ => ("PatchferryModel$Step", "bytes", "[I", true)
def tyX14 : Nat → FieldType := fun k => match k with
  | 0 => .int
  | _ => .array .int
abbrev wsX140 : List Cond := u_ws RX14 TX14 2
theorem nmX14 : ∀ a, a < 2 → ∀ b, b < 2 → a ≠ b → (TX14 a).2.1 ≠ (TX14 b).2.1 := by decide +kernel
theorem tyX14_ok : ∀ k, k < 2 → parseFieldDescriptor (TX14 k).2.2.1 = some (tyX14 k) := by decide +kernel
def TX15 : u_T := fun k => match k with
  | 0 => ("PatchferryModel", "thrown", "I", false)
  | 1 => ("PatchferryModel", "buffer", "[I", false)
  | 2 => ("PatchferryModel", "word", "Ljava/lang/String;", false)
  | 3 => ("PatchferryModel", "files", "Ljava/util/ArrayList;", true)
  | 4 => ("PatchferryModel", "patches", "Ljava/util/ArrayList;", true)
  | 5 => ("PatchferryModel", "clash", "I", false)
  | 6 => ("PatchferryModel", "kept", "Ljava/util/ArrayList;", true)
  | 7 => ("PatchferryModel", "uses", "Ljava/util/ArrayList;", true)
  | 8 => ("PatchferryModel", "isStored", "[Z", true)
  | 9 => ("PatchferryModel", "folders", "[I", true)
  | 10 => ("PatchferryModel", "disk", "[I", false)
  | 11 => ("PatchferryModel", "cut", "I", false)
  | 12 => ("PatchferryModel", "laid", "LPatchferryModel$Patch;", false)
  | 13 => ("PatchferryModel", "saved", "I", false)
  | 14 => ("PatchferryModel", "done", "I", false)
  | 15 => ("PatchferryModel", "order", "Ljava/util/ArrayList;", true)
  | 16 => ("PatchferryModel", "savedRows", "Ljava/util/ArrayList;", true)
  | 17 => ("PatchferryModel", "versions", "Ljava/util/ArrayList;", true)
  | 18 => ("PatchferryModel", "areKeys", "[Z", true)
  | 19 => ("PatchferryModel", "counts", "[I", true)
  | 20 => ("PatchferryModel", "literals", "I", false)
  | 21 => ("PatchferryModel", "falseOnes", "I", false)
  | _ => ("PatchferryModel", "used", "I", false)
def tyX15 : Nat → FieldType := fun k => match k with
  | 0 => .int
  | 1 => .array .int
  | 2 => .object "java/lang/String"
  | 3 => .object "java/util/ArrayList"
  | 4 => .object "java/util/ArrayList"
  | 5 => .int
  | 6 => .object "java/util/ArrayList"
  | 7 => .object "java/util/ArrayList"
  | 8 => .array .boolean
  | 9 => .array .int
  | 10 => .array .int
  | 11 => .int
  | 12 => .object "PatchferryModel$Patch"
  | 13 => .int
  | 14 => .int
  | 15 => .object "java/util/ArrayList"
  | 16 => .object "java/util/ArrayList"
  | 17 => .object "java/util/ArrayList"
  | 18 => .array .boolean
  | 19 => .array .int
  | 20 => .int
  | 21 => .int
  | _ => .int
abbrev wsX150 : List Cond := u_ws RX15 TX15 23
theorem nmX15 : ∀ a, a < 23 → ∀ b, b < 23 → a ≠ b → (TX15 a).2.1 ≠ (TX15 b).2.1 := by decide +kernel
theorem tyX15_ok : ∀ k, k < 23 → parseFieldDescriptor (TX15 k).2.2.1 = some (tyX15 k) := by decide +kernel
abbrev vwCl : List vw_C := [(RJ0, TJ0, 4), (RJ4, TJ4, 4), (RJ6, TJ6, 1), (RJx00060, TJx00060, 6), (RJx7c733, TJx7c733, 6), (RJx35411, TJx35411, 4), (RJx4a65c, TJx4a65c, 3), (RX0, TX0, 5), (RX1, TX1, 10), (RX2, TX2, 12), (RX3, TX3, 4), (RX4, TX4, 4), (RX5, TX5, 2), (RX6, TX6, 2), (RX7, TX7, 2), (RX8, TX8, 14), (RX9, TX9, 1), (RX10, TX10, 6), (RX11, TX11, 19), (RX12, TX12, 3), (RX13, TX13, 2), (RX14, TX14, 2), (RX15, TX15, 23)]
/-- the arrays that the worlds hold: of ints, of references to anything -/
abbrev ty0 (cI cO : ClassId) : List (ClassId × FieldType) := [(cI, .int), (cO, .object "java/lang/Object")]
/-- an array of references as a cell of a world -/
abbrev wq (a : Nat) (cA : ClassId) (n : Nat) (f : Nat → Option Nat) : Nat × va_E := (a, .inl (cA, n, .inr (.inr (.inr (.inr f)))))
abbrev wl (a : Nat) (cA : ClassId) (n : Nat) (f : Nat → Int64) : Nat × va_E := (a, .inl (cA, n, .inr (.inl f)))
/-- there is one class of int arrays -/
theorem uc_eq {D : va_G} {cl : List vw_C} {tys : List (ClassId × FieldType)} {U : State} {cA cB : ClassId} (h : va_K D cl tys U) (i j : Nat) (h1 : tys[i]? = some (cA, .int)) (h2 : tys[j]? = some (cB, .int)) : cA = cB := by
  have a : U.vm.findClass ("[" ++ FieldType.int.toString) = some cA := (h.2 i _ h1).2
  have b : U.vm.findClass ("[" ++ FieldType.int.toString) = some cB := (h.2 j _ h2).2
  exact Option.some.inj (a.symm.trans b)
/-- what ArrayList's empty row is: the static that holds it, and the row itself, neither of them ours -/
def uz (z0 : Nat) (A : Nat → Prop) (U : State) : Prop := va_Z "java/util/ArrayList" "DEFAULTCAPACITY_EMPTY_ELEMENTDATA" "[Ljava/lang/Object;" (.ref z0) A U U.heap ∧ ∃ f : Nat → Value, va_T (.object "java/lang/Object") z0 0 f A U U.heap
/-- a method that only reads and hands back a reference -/
def uS_r (post : Nat → Prop) : Array Value → State → Outcome → State → Prop := fun _ st oc t => ∃ k : Nat, oc = .returned (some (.ref k)) ∧ post k ∧ t.heap = st.heap
section UC
variable {p : Program} {l : Launch} {e : Env} {R : Room} {s : State} {m : MethodId} {args : Array Value} {below : List Frame} {meth : Method} {c : Code} {H : Heap} {locs : List Loc} {cells slots : Nat} {Q : State → Prop}
variable {pc : Nat} {ls : Array Slot} {rest st0 : List Value} {a : Array Value}
theorem uc_i {post : Int32 → Prop} (hr : va_Run p l e R s m args below meth c H locs cells slots 0 0 (F0 m pc ls st0) rest (vp_Si post a) (fun _ => False))
    (kk : ∀ r : Int32, post r → W p l e R s m args below meth c H locs cells slots Q (F0 m (pc + 3) ls (.int r :: rest))) : W p l e R s m args below meth c H locs cells slots Q (F0 m pc ls st0) := by
  intro T hT X
  obtain ⟨v, st₀, t, T', L, h0, X', hL, e1, -, ⟨r, hv, hp, hh⟩, st⟩ := hr T hT X
  cases hv
  obtain ⟨t2, a1, b1⟩ := kk r hp T' (by rw [e1, hh, h0]) (Stand.forget X' (fun q h => (hL q h).elim))
  exact ⟨t2, st t2 a1, b1⟩
theorem uc_r {post : Nat → Prop} (hr : va_Run p l e R s m args below meth c H locs cells slots 0 0 (F0 m pc ls st0) rest (uS_r post a) (fun _ => False))
    (kk : ∀ r : Nat, post r → W p l e R s m args below meth c H locs cells slots Q (F0 m (pc + 3) ls (.ref r :: rest))) : W p l e R s m args below meth c H locs cells slots Q (F0 m pc ls st0) := by
  intro T hT X
  obtain ⟨v, st₀, t, T', L, h0, X', hL, e1, -, ⟨r, hv, hp, hh⟩, st⟩ := hr T hT X
  cases hv
  obtain ⟨t2, a1, b1⟩ := kk r hp T' (by rw [e1, hh, h0]) (Stand.forget X' (fun q h => (hL q h).elim))
  exact ⟨t2, st t2 a1, b1⟩
theorem uc_v {post : Unit → Prop} (hr : va_Run p l e R s m args below meth c H locs cells slots 0 0 (F0 m pc ls st0) rest (va_Sv post a) (fun _ => False))
    (kk : W p l e R s m args below meth c H locs cells slots Q (F0 m (pc + 3) ls rest)) : W p l e R s m args below meth c H locs cells slots Q (F0 m pc ls st0) := by
  intro T hT X
  obtain ⟨v, st₀, t, T', L, h0, X', hL, e1, -, ⟨hv, hp, hh⟩, st⟩ := hr T hT X
  cases hv
  obtain ⟨t2, a1, b1⟩ := kk T' (by rw [e1, hh, h0]) (Stand.forget X' (fun q h => (hL q h).elim))
  exact ⟨t2, st t2 a1, b1⟩
end UC
theorem uz.moved {z0 : Nat} {A : Nat → Prop} {U V : State} (h : uz z0 A U) (hvm : U.vm.Alike V.vm) (hh : V.heap = U.heap) : uz z0 A V := by
  obtain ⟨h1, f, h2⟩ := h
  unfold uz
  rw [hh]
  exact ⟨h1.moved hvm, f, h2.moved hvm⟩
theorem uz_call {z0 : Nat} {A B : Nat → Prop} {s U : State} {H : Heap} {locs : List Loc} (h : uz z0 A s) (hS : va_S A s.heap H locs) (hF : ∀ q, B q → A q) (hU : U.heap = H) (hvm : s.vm.Alike U.vm) : uz z0 B U := by
  obtain ⟨h1, f, h2⟩ := h
  unfold uz
  rw [hU]
  exact ⟨((h1.kept hS.2.1).narrow hF).moved hvm, f, ((h2.kept hS.2.1).narrow hF).moved hvm⟩
/-- how far a counter is from its bound -/
def um (x b : Int32) : Nat := (b.toInt - x.toInt).toNat
theorem um_lt {x b : Int32} (h : ¬ b ≤ x) : um (x + 1) b < um x b := by
  have h1 : x.toInt < b.toInt := by
    have : ¬ b.toInt ≤ x.toInt := fun q => h (Int32.le_iff_toInt_le.mpr q)
    omega
  have hb := Int32.toInt_le b
  have hx := Int32.le_toInt x
  have e : (x + 1).toInt = x.toInt + 1 := by
    rw [Int32.toInt_add]
    show (x.toInt + 1).bmod (2 ^ 32) = x.toInt + 1
    exact Int.bmod_eq_of_le (by have : (-2147483648 : Int) ≤ x.toInt := hx; omega) (by have : b.toInt ≤ (2147483647 : Int) := hb; omega)
  unfold um
  rw [e]
  omega
end
section
/-! laid by wip/whole: names, words and decode rows from the print of the task; the contracts are told in wip/whole/*.py -/
abbrev cX6_size : ByteArray := prog_8_method_2_code
def yX6_size : MethodName := ⟨RX6, "size", "()I"⟩
theorem dX6_size_0 : decode cX6_size 0 = .ok (.aload_n 0, 1) := by decide +kernel
theorem dX6_size_1 : decode cX6_size 1 = .ok (.getfield 21, 3) := by decide +kernel
theorem dX6_size_4 : decode cX6_size 4 = .ok (.ireturn, 1) := by decide +kernel
abbrev cX6_get : ByteArray := prog_8_method_3_code
def yX6_get : MethodName := ⟨RX6, "get", "(I)I"⟩
theorem dX6_get_0 : decode cX6_get 0 = .ok (.iload_n 1, 1) := by decide +kernel
theorem dX6_get_1 : decode cX6_get 1 = .ok (.ifCond .lt 20, 3) := by decide +kernel
theorem dX6_get_4 : decode cX6_get 4 = .ok (.iload_n 1, 1) := by decide +kernel
theorem dX6_get_5 : decode cX6_get 5 = .ok (.aload_n 0, 1) := by decide +kernel
theorem dX6_get_6 : decode cX6_get 6 = .ok (.getfield 21, 3) := by decide +kernel
theorem dX6_get_9 : decode cX6_get 9 = .ok (.if_icmp .ge 12, 3) := by decide +kernel
theorem dX6_get_12 : decode cX6_get 12 = .ok (.aload_n 0, 1) := by decide +kernel
theorem dX6_get_13 : decode cX6_get 13 = .ok (.getfield 15, 3) := by decide +kernel
theorem dX6_get_16 : decode cX6_get 16 = .ok (.iload_n 1, 1) := by decide +kernel
theorem dX6_get_17 : decode cX6_get 17 = .ok (.iaload, 1) := by decide +kernel
theorem dX6_get_18 : decode cX6_get 18 = .ok (.goto 4, 3) := by decide +kernel
theorem dX6_get_21 : decode cX6_get 21 = .ok (.iconst 0, 1) := by decide +kernel
theorem dX6_get_22 : decode cX6_get 22 = .ok (.ireturn, 1) := by decide +kernel
abbrev cX6_set : ByteArray := prog_8_method_4_code
def yX6_set : MethodName := ⟨RX6, "set", "(II)V"⟩
theorem dX6_set_0 : decode cX6_set 0 = .ok (.iload_n 1, 1) := by decide +kernel
theorem dX6_set_1 : decode cX6_set 1 = .ok (.ifCond .lt 18, 3) := by decide +kernel
theorem dX6_set_4 : decode cX6_set 4 = .ok (.iload_n 1, 1) := by decide +kernel
theorem dX6_set_5 : decode cX6_set 5 = .ok (.aload_n 0, 1) := by decide +kernel
theorem dX6_set_6 : decode cX6_set 6 = .ok (.getfield 21, 3) := by decide +kernel
theorem dX6_set_9 : decode cX6_set 9 = .ok (.if_icmp .ge 10, 3) := by decide +kernel
theorem dX6_set_12 : decode cX6_set 12 = .ok (.aload_n 0, 1) := by decide +kernel
theorem dX6_set_13 : decode cX6_set 13 = .ok (.getfield 15, 3) := by decide +kernel
theorem dX6_set_16 : decode cX6_set 16 = .ok (.iload_n 1, 1) := by decide +kernel
theorem dX6_set_17 : decode cX6_set 17 = .ok (.iload_n 2, 1) := by decide +kernel
theorem dX6_set_18 : decode cX6_set 18 = .ok (.iastore, 1) := by decide +kernel
theorem dX6_set_19 : decode cX6_set 19 = .ok (.return_, 1) := by decide +kernel
abbrev cX6_add : ByteArray := prog_8_method_5_code
def yX6_add : MethodName := ⟨RX6, "add", "(I)V"⟩
theorem dX6_add_0 : decode cX6_add 0 = .ok (.aload_n 0, 1) := by decide +kernel
theorem dX6_add_1 : decode cX6_add 1 = .ok (.getfield 21, 3) := by decide +kernel
theorem dX6_add_4 : decode cX6_add 4 = .ok (.aload_n 0, 1) := by decide +kernel
theorem dX6_add_5 : decode cX6_add 5 = .ok (.getfield 15, 3) := by decide +kernel
theorem dX6_add_8 : decode cX6_add 8 = .ok (.arraylength, 1) := by decide +kernel
theorem dX6_add_9 : decode cX6_add 9 = .ok (.if_icmp .ge 23, 3) := by decide +kernel
theorem dX6_add_12 : decode cX6_add 12 = .ok (.aload_n 0, 1) := by decide +kernel
theorem dX6_add_13 : decode cX6_add 13 = .ok (.getfield 15, 3) := by decide +kernel
theorem dX6_add_16 : decode cX6_add 16 = .ok (.aload_n 0, 1) := by decide +kernel
theorem dX6_add_17 : decode cX6_add 17 = .ok (.getfield 21, 3) := by decide +kernel
theorem dX6_add_20 : decode cX6_add 20 = .ok (.iload_n 1, 1) := by decide +kernel
theorem dX6_add_21 : decode cX6_add 21 = .ok (.iastore, 1) := by decide +kernel
theorem dX6_add_22 : decode cX6_add 22 = .ok (.aload_n 0, 1) := by decide +kernel
theorem dX6_add_23 : decode cX6_add 23 = .ok (.dup, 1) := by decide +kernel
theorem dX6_add_24 : decode cX6_add 24 = .ok (.getfield 21, 3) := by decide +kernel
theorem dX6_add_27 : decode cX6_add 27 = .ok (.iconst 1, 1) := by decide +kernel
theorem dX6_add_28 : decode cX6_add 28 = .ok (.iadd, 1) := by decide +kernel
theorem dX6_add_29 : decode cX6_add 29 = .ok (.putfield 21, 3) := by decide +kernel
theorem dX6_add_32 : decode cX6_add 32 = .ok (.return_, 1) := by decide +kernel
abbrev cX6_clear : ByteArray := prog_8_method_6_code
def yX6_clear : MethodName := ⟨RX6, "clear", "()V"⟩
theorem dX6_clear_0 : decode cX6_clear 0 = .ok (.aload_n 0, 1) := by decide +kernel
theorem dX6_clear_1 : decode cX6_clear 1 = .ok (.iconst 0, 1) := by decide +kernel
theorem dX6_clear_2 : decode cX6_clear 2 = .ok (.putfield 21, 3) := by decide +kernel
theorem dX6_clear_5 : decode cX6_clear 5 = .ok (.return_, 1) := by decide +kernel
abbrev cX6_init : ByteArray := prog_8_method_1_code
def yX6_init : MethodName := ⟨RX6, "<init>", "(I)V"⟩
theorem dX6_init_0 : decode cX6_init 0 = .ok (.aload_n 0, 1) := by decide +kernel
theorem dX6_init_1 : decode cX6_init 1 = .ok (.invokespecial 3, 3) := by decide +kernel
theorem dX6_init_4 : decode cX6_init 4 = .ok (.aload_n 0, 1) := by decide +kernel
theorem dX6_init_5 : decode cX6_init 5 = .ok (.iload_n 1, 1) := by decide +kernel
theorem dX6_init_6 : decode cX6_init 6 = .ok (.iconst 0, 1) := by decide +kernel
theorem dX6_init_7 : decode cX6_init 7 = .ok (.invokestatic 9, 3) := by decide +kernel
theorem dX6_init_10 : decode cX6_init 10 = .ok (.newarray .int, 2) := by decide +kernel
theorem dX6_init_12 : decode cX6_init 12 = .ok (.putfield 15, 3) := by decide +kernel
theorem dX6_init_15 : decode cX6_init 15 = .ok (.return_, 1) := by decide +kernel
def usX6_size : List Cond := .code yX6_size cX6_size 1 (some .int) :: ([.fieldLink RX6 21 "Patchferry$Row" "size" "I"] ++ wsX60)
def usX6_get : List Cond := .code yX6_get cX6_get 2 (some .int) :: ([.fieldLink RX6 21 "Patchferry$Row" "size" "I", .fieldLink RX6 15 "Patchferry$Row" "cells" "[I"] ++ wsX60)
def usX6_set : List Cond := .code yX6_set cX6_set 3 none :: ([.fieldLink RX6 21 "Patchferry$Row" "size" "I", .fieldLink RX6 15 "Patchferry$Row" "cells" "[I"] ++ wsX60)
def usX6_add : List Cond := .code yX6_add cX6_add 2 none :: ([.fieldLink RX6 21 "Patchferry$Row" "size" "I", .fieldLink RX6 15 "Patchferry$Row" "cells" "[I"] ++ wsX60)
def usX6_clear : List Cond := .code yX6_clear cX6_clear 1 none :: ([.fieldLink RX6 21 "Patchferry$Row" "size" "I"] ++ wsX60)
def usX6_init : List Cond := .code yX6_init cX6_init 2 none :: ([.methodLink RX6 3 objectInit, .instanceMethod objectInit, .code objectInit ⟨#[0xb1]⟩ 1 none, .methodLink RX6 9 Lib.Math.max.name, .static Lib.Math.max.name, .initialized "java/lang/Math", .code Lib.Math.max.name Lib.Math.max.code 2 (some .int), .arrayClass .int, .fieldLink RX6 15 "Patchferry$Row" "cells" "[I"] ++ wsX60)
theorem inX6_size_RX6 : ∀ w ∈ u_ws RX6 TX6 2, w ∈ usX6_size := by decide +kernel
theorem inX6_get_RX6 : ∀ w ∈ u_ws RX6 TX6 2, w ∈ usX6_get := by decide +kernel
theorem inX6_set_RX6 : ∀ w ∈ u_ws RX6 TX6 2, w ∈ usX6_set := by decide +kernel
theorem inX6_add_RX6 : ∀ w ∈ u_ws RX6 TX6 2, w ∈ usX6_add := by decide +kernel
theorem inX6_clear_RX6 : ∀ w ∈ u_ws RX6 TX6 2, w ∈ usX6_clear := by decide +kernel
theorem inX6_init_RX6 : ∀ w ∈ u_ws RX6 TX6 2, w ∈ usX6_init := by decide +kernel
set_option maxHeartbeats 4000000 in
set_option maxRecDepth 100000 in
theorem p_size (l : Launch) (dC : Nat → ClassId) (dI : Nat → Nat → Nat) (cI cO : ClassId) (h : Nat) (ca : Nat) (n : Nat) : Met l yX6_size usX6_size ({ frames := 0, cells := 0, slots := 0, locals := 0 }) (va_Pc [.ref h] (fun U => va_P (dC, dI) vwCl [(h, .inr (13, [.ref ca, .int (nI n)]))] U.heap ∧ va_K (dC, dI) vwCl (ty0 cI cO) U)) (vp_Si (fun r => r = nI n)) 0 0 (fun _ => False) := by
  refine Met.ofW (cc := cX6_size) (maxL := 1) (ret := (some .int)) (by decide) rfl ?_
  intro p e s m args below meth c s₁ B hml hv
  obtain ⟨rfl, hP, hK⟩ := hv
  have hx := B.exec
  have hb := B.bytes
  have hr := B.returns
  have hts := atoms_spec (ws := usX6_size) B.pre
  have hown : s.vm.findClass RX6 = some m.cls := findClass_of_methodNamed B.named
  have hlocks := B.notSynchronized
  have hl := lv_entry ([.ref h]) (n := 1) (Nat.le_of_ble_eq_true rfl)
  rw [lg_entry_eq]
  generalize (lg_sl ([.ref h]) ++ List.replicate (1 - (lg_sl ([.ref h])).length) Slot.unset).toArray = ls at hl ⊢
  have hl : lv_has ls 1 [(0, .ref h)] := hl
  refine lv_aload_n hx hb dX6_size_0 rfl (lv_at hl 0 rfl) ?_
  refine va_get (D := (dC, dI)) (ci := 13) (v := .int (nI n)) (C := RX6) (T := TX6) (N := 2) hx hb hts inX6_size_RX6 hown hK hP 0 rfl rfl 1 (by decide) (hts (.fieldLink RX6 21 "Patchferry$Row" "size" "I") (by decide +kernel)) (fun _ h9 => h9) rfl dX6_size_1 ?_
  exact W.iret (v := nI n) hx hb hr (fun t ht hW => ⟨_, rfl, rfl, ht⟩) (fun q hq => by cases hq) dX6_size_4
set_option maxHeartbeats 4000000 in
set_option maxRecDepth 100000 in
theorem p_get (l : Launch) (dC : Nat → ClassId) (dI : Nat → Nat → Nat) (cI cO : ClassId) (h : Nat) (ca : Nat) (n : Nat) (L : Nat) (f : Nat → Int32) (p0 : Int32) (hn : n ≤ L) (hL : L ≤ 100000) : Met l yX6_get usX6_get ({ frames := 0, cells := 0, slots := 0, locals := 0 }) (va_Pc [.ref h, .int p0] (fun U => va_P (dC, dI) vwCl [(h, .inr (13, [.ref ca, .int (nI n)])), wa ca cI L f] U.heap ∧ va_K (dC, dI) vwCl (ty0 cI cO) U)) (vp_Si (fun r => (∀ j, j < n → p0 = nI j → r = f j) ∧ (∀ j, n ≤ j → j < 2 ^ 31 → p0 = nI j → r = 0))) 0 0 (fun _ => False) := by
  refine Met.ofW (cc := cX6_get) (maxL := 2) (ret := (some .int)) (by decide) rfl ?_
  intro p e s m args below meth c s₁ B hml hv
  obtain ⟨rfl, hP, hK⟩ := hv
  have hx := B.exec
  have hb := B.bytes
  have hr := B.returns
  have hts := atoms_spec (ws := usX6_get) B.pre
  have hown : s.vm.findClass RX6 = some m.cls := findClass_of_methodNamed B.named
  have hlocks := B.notSynchronized
  have hl := lv_entry ([.ref h, .int p0]) (n := 2) (Nat.le_of_ble_eq_true rfl)
  rw [lg_entry_eq]
  generalize (lg_sl ([.ref h, .int p0]) ++ List.replicate (2 - (lg_sl ([.ref h, .int p0])).length) Slot.unset).toArray = ls at hl ⊢
  have hl : lv_has ls 2 [(0, .ref h), (1, .int p0)] := hl
  refine lv_iload_n hx hb dX6_get_0 rfl (lv_at hl 1 rfl) ?_
  refine lv_if_lt (tgt := 21) hx hb dX6_get_1 (by decide) (fun c_1 => ?_) (fun c_1 => ?_)
  · refine lv_iconst (v := nI 0) hx hb dX6_get_21 (by decide) ?_
    exact W.iret (v := nI 0) hx hb hr (fun t ht hW => ⟨_, rfl, ⟨fun j hj e => absurd c_1 (by rw [e]; exact nI_pos (by omega)), fun _ _ _ _ => rfl⟩, ht⟩) (fun q hq => by cases hq) dX6_get_22
  · refine lv_iload_n hx hb dX6_get_4 rfl (lv_at hl 1 rfl) ?_
    refine lv_aload_n hx hb dX6_get_5 rfl (lv_at hl 0 rfl) ?_
    refine va_get (D := (dC, dI)) (ci := 13) (v := .int (nI n)) (C := RX6) (T := TX6) (N := 2) hx hb hts inX6_get_RX6 hown hK hP 0 rfl rfl 1 (by decide) (hts (.fieldLink RX6 21 "Patchferry$Row" "size" "I") (by decide +kernel)) (fun _ h9 => h9) rfl dX6_get_6 ?_
    refine lv_icmp_ge (tgt := 21) hx hb dX6_get_9 (by decide) (fun c_2 => ?_) (fun c_2 => ?_)
    · refine lv_iconst (v := nI 0) hx hb dX6_get_21 (by decide) ?_
      exact W.iret (v := nI 0) hx hb hr (fun t ht hW => ⟨_, rfl, ⟨fun j hj e => absurd c_2 (by rw [e]; exact nI_ge hj (by omega)), fun _ _ _ _ => rfl⟩, ht⟩) (fun q hq => by cases hq) dX6_get_22
    · refine lv_aload_n hx hb dX6_get_12 rfl (lv_at hl 0 rfl) ?_
      refine va_get (D := (dC, dI)) (ci := 13) (v := .ref ca) (C := RX6) (T := TX6) (N := 2) hx hb hts inX6_get_RX6 hown hK hP 0 rfl rfl 0 (by decide) (hts (.fieldLink RX6 15 "Patchferry$Row" "cells" "[I") (by decide +kernel)) (fun _ h9 => h9) rfl dX6_get_13 ?_
      refine lv_iload_n hx hb dX6_get_16 rfl (lv_at hl 1 rfl) ?_
      obtain ⟨j, hj, ej⟩ : ∃ j : Nat, j < n ∧ p0 = nI j := by
        rcases pk_ix p0 (n := n) (by omega) with q | q | q
        · exact absurd q c_1
        · exact absurd q c_2
        · exact q
      refine va_iald (D := (dC, dI)) hx hb hK hP 1 0 rfl rfl (by rw [ej]; exact vp_in_nI (by omega) (by omega)) dX6_get_17 ?_
      refine lv_goto (tgt := 22) hx hb dX6_get_18 (by decide) ?_
      exact W.iret (v := f (p0).toNatClampNeg) hx hb hr (fun t ht hW => ⟨_, rfl, ⟨fun i hi e => by rw [e, nI_clamp (by omega)], fun i hi hi2 e => absurd ((nI_eq (by omega) hi2).mp (ej.symm.trans e)) (by omega)⟩, ht⟩) (fun q hq => by cases hq) dX6_get_22
set_option maxHeartbeats 4000000 in
set_option maxRecDepth 100000 in
theorem c_set (l : Launch) (dC : Nat → ClassId) (dI : Nat → Nat → Nat) (cI cO : ClassId) (sz : Nat) (h : Nat) (ca : Nat) (n : Nat) (L : Nat) (f : Nat → Int32) (p0 : Int32) (p1 : Int32) (hn : n ≤ L) (hL : L ≤ 100000) : Met l yX6_set usX6_set ({ frames := 0, cells := 0, slots := 0, locals := 0 }) (va_Pc [.ref h, .int p0, .int p1] (fun U => U.heap.size = sz ∧ va_P (dC, dI) vwCl [(h, .inr (13, [.ref ca, .int (nI n)])), wa ca cI L f] U.heap ∧ va_K (dC, dI) vwCl (ty0 cI cO) U ∧ va_D (fun _ => True) [(h, .inr (13, [.ref ca, .int (nI n)])), wa ca cI L f])) (va_Qv (fun _ : Unit => True) (fun _ t => ∃ (f2 : Nat → Int32), va_P (dC, dI) vwCl [(h, .inr (13, [.ref ca, .int (nI n)])), wa ca cI L f2] t.heap ∧ va_K (dC, dI) vwCl (ty0 cI cO) t ∧ va_D (va_A [(h, .inr (13, [.ref ca, .int (nI n)])), wa ca cI L f] sz) [(h, .inr (13, [.ref ca, .int (nI n)])), wa ca cI L f2]) (va_A [(h, .inr (13, [.ref ca, .int (nI n)])), wa ca cI L f] sz)) 0 0 (va_A [(h, .inr (13, [.ref ca, .int (nI n)])), wa ca cI L f] sz) := by
  refine Met.ofW (cc := cX6_set) (maxL := 3) (ret := none) (by decide) rfl ?_
  intro p e s m args below meth c s₁ B hml hv
  obtain ⟨rfl, hsz, hP, hK, hD0⟩ := hv
  have hx := B.exec
  have hb := B.bytes
  have hr := B.returns
  have hts := atoms_spec (ws := usX6_set) B.pre
  have hown : s.vm.findClass RX6 = some m.cls := findClass_of_methodNamed B.named
  have hlocks := B.notSynchronized
  subst hsz
  have hD := hD0.self (sz := s.heap.size)
  generalize hAe : va_A [(h, .inr (13, [.ref ca, .int (nI n)])), wa ca cI L f] s.heap.size = A at hD ⊢
  have hA : ∀ q : Nat, s.heap.size ≤ q → A q := fun q h => by rw [← hAe]; exact Or.inr h
  have hS : va_S A s.heap s.heap [] := va_S.rf
  have hl := lv_entry ([.ref h, .int p0, .int p1]) (n := 3) (Nat.le_of_ble_eq_true rfl)
  rw [lg_entry_eq]
  generalize (lg_sl ([.ref h, .int p0, .int p1]) ++ List.replicate (3 - (lg_sl ([.ref h, .int p0, .int p1])).length) Slot.unset).toArray = ls at hl ⊢
  have hl : lv_has ls 3 [(0, .ref h), (1, .int p0), (2, .int p1)] := hl
  refine lv_iload_n hx hb dX6_set_0 rfl (lv_at hl 1 rfl) ?_
  refine lv_if_lt (tgt := 19) hx hb dX6_set_1 (by decide) (fun c_1 => ?_) (fun c_1 => ?_)
  · have hPe : va_P (dC, dI) vwCl [(h, .inr (13, [.ref ca, .int (nI n)])), wa ca cI L f] _ := hP.sub [0, 1] rfl
    have hDe : va_D A [(h, .inr (13, [.ref ca, .int (nI n)])), wa ca cI L f] := hD.sub [0, 1] (by decide) rfl
    refine W.widen (k := 0) (n := 0) (by first | exact Nat.le_of_ble_eq_true rfl | omega | (dsimp only [headSpec]; omega) | (simp only [headSpec]; omega) | omega) (by first | exact Nat.le_of_ble_eq_true rfl | omega | (dsimp only [headSpec]; omega) | (simp only [headSpec]; omega) | omega) ?_
    exact W.vret hx hb hr (fun t ht hW => ⟨⟨(), rfl, trivial, _, by rw [ht]; exact hPe, va_K.moved hW.alike hK, hDe⟩, hS.F ht⟩) hS.2.2 dX6_set_19
  · refine lv_iload_n hx hb dX6_set_4 rfl (lv_at hl 1 rfl) ?_
    refine lv_aload_n hx hb dX6_set_5 rfl (lv_at hl 0 rfl) ?_
    refine va_get (D := (dC, dI)) (ci := 13) (v := .int (nI n)) (C := RX6) (T := TX6) (N := 2) hx hb hts inX6_set_RX6 hown hK hP 0 rfl rfl 1 (by decide) (hts (.fieldLink RX6 21 "Patchferry$Row" "size" "I") (by decide +kernel)) (fun _ h9 => h9) rfl dX6_set_6 ?_
    refine lv_icmp_ge (tgt := 19) hx hb dX6_set_9 (by decide) (fun c_2 => ?_) (fun c_2 => ?_)
    · have hPe : va_P (dC, dI) vwCl [(h, .inr (13, [.ref ca, .int (nI n)])), wa ca cI L f] _ := hP.sub [0, 1] rfl
      have hDe : va_D A [(h, .inr (13, [.ref ca, .int (nI n)])), wa ca cI L f] := hD.sub [0, 1] (by decide) rfl
      refine W.widen (k := 0) (n := 0) (by first | exact Nat.le_of_ble_eq_true rfl | omega | (dsimp only [headSpec]; omega) | (simp only [headSpec]; omega) | omega) (by first | exact Nat.le_of_ble_eq_true rfl | omega | (dsimp only [headSpec]; omega) | (simp only [headSpec]; omega) | omega) ?_
      exact W.vret hx hb hr (fun t ht hW => ⟨⟨(), rfl, trivial, _, by rw [ht]; exact hPe, va_K.moved hW.alike hK, hDe⟩, hS.F ht⟩) hS.2.2 dX6_set_19
    · refine lv_aload_n hx hb dX6_set_12 rfl (lv_at hl 0 rfl) ?_
      refine va_get (D := (dC, dI)) (ci := 13) (v := .ref ca) (C := RX6) (T := TX6) (N := 2) hx hb hts inX6_set_RX6 hown hK hP 0 rfl rfl 0 (by decide) (hts (.fieldLink RX6 15 "Patchferry$Row" "cells" "[I") (by decide +kernel)) (fun _ h9 => h9) rfl dX6_set_13 ?_
      refine lv_iload_n hx hb dX6_set_16 rfl (lv_at hl 1 rfl) ?_
      refine lv_iload_n hx hb dX6_set_17 rfl (lv_at hl 2 rfl) ?_
      obtain ⟨j, hj, ej⟩ : ∃ j : Nat, j < n ∧ p0 = nI j := by
        rcases pk_ix p0 (n := n) (by omega) with q | q | q
        · exact absurd q c_1
        · exact absurd q c_2
        · exact q
      refine va_iast (D := (dC, dI)) hx hb hK hP hD hS 1 0 rfl rfl (by rw [ej]; exact vp_in_nI (by omega) (by omega)) dX6_set_18 (fun H locs hP hD hS => ?_)
      have hP : va_P (dC, dI) vwCl [(h, .inr (13, [.ref ca, .int (nI n)])), wa ca cI L (upd f (p0).toNatClampNeg p1)] H := hP
      have hD : va_D A [(h, .inr (13, [.ref ca, .int (nI n)])), wa ca cI L (upd f (p0).toNatClampNeg p1)] := hD
      have hPe : va_P (dC, dI) vwCl [(h, .inr (13, [.ref ca, .int (nI n)])), wa ca cI L (upd f (p0).toNatClampNeg p1)] _ := hP.sub [0, 1] rfl
      have hDe : va_D A [(h, .inr (13, [.ref ca, .int (nI n)])), wa ca cI L (upd f (p0).toNatClampNeg p1)] := hD.sub [0, 1] (by decide) rfl
      refine W.widen (k := 0) (n := 0) (by first | exact Nat.le_of_ble_eq_true rfl | omega | (dsimp only [headSpec]; omega) | (simp only [headSpec]; omega) | omega) (by first | exact Nat.le_of_ble_eq_true rfl | omega | (dsimp only [headSpec]; omega) | (simp only [headSpec]; omega) | omega) ?_
      exact W.vret hx hb hr (fun t ht hW => ⟨⟨(), rfl, trivial, _, by rw [ht]; exact hPe, va_K.moved hW.alike hK, hDe⟩, hS.F ht⟩) hS.2.2 dX6_set_19
set_option maxHeartbeats 4000000 in
set_option maxRecDepth 100000 in
theorem c_add (l : Launch) (dC : Nat → ClassId) (dI : Nat → Nat → Nat) (cI cO : ClassId) (sz : Nat) (h : Nat) (ca : Nat) (n : Nat) (L : Nat) (f : Nat → Int32) (p0 : Int32) (hn : n ≤ L) (hL : L ≤ 100000) : Met l yX6_add usX6_add ({ frames := 0, cells := 0, slots := 0, locals := 0 }) (va_Pc [.ref h, .int p0] (fun U => U.heap.size = sz ∧ va_P (dC, dI) vwCl [(h, .inr (13, [.ref ca, .int (nI n)])), wa ca cI L f] U.heap ∧ va_K (dC, dI) vwCl (ty0 cI cO) U ∧ va_D (fun _ => True) [(h, .inr (13, [.ref ca, .int (nI n)])), wa ca cI L f])) (va_Qv (fun _ : Unit => True) (fun _ t => ∃ (n2 : Nat), ∃ (f2 : Nat → Int32), (n2 ≤ L) ∧ (n < L → n2 = n + 1 ∧ f2 n = p0 ∧ ∀ j, j < n → f2 j = f j) ∧ va_P (dC, dI) vwCl [(h, .inr (13, [.ref ca, .int (nI n2)])), wa ca cI L f2] t.heap ∧ va_K (dC, dI) vwCl (ty0 cI cO) t ∧ va_D (va_A [(h, .inr (13, [.ref ca, .int (nI n)])), wa ca cI L f] sz) [(h, .inr (13, [.ref ca, .int (nI n2)])), wa ca cI L f2]) (va_A [(h, .inr (13, [.ref ca, .int (nI n)])), wa ca cI L f] sz)) 0 0 (va_A [(h, .inr (13, [.ref ca, .int (nI n)])), wa ca cI L f] sz) := by
  refine Met.ofW (cc := cX6_add) (maxL := 2) (ret := none) (by decide) rfl ?_
  intro p e s m args below meth c s₁ B hml hv
  obtain ⟨rfl, hsz, hP, hK, hD0⟩ := hv
  have hx := B.exec
  have hb := B.bytes
  have hr := B.returns
  have hts := atoms_spec (ws := usX6_add) B.pre
  have hown : s.vm.findClass RX6 = some m.cls := findClass_of_methodNamed B.named
  have hlocks := B.notSynchronized
  subst hsz
  have hD := hD0.self (sz := s.heap.size)
  generalize hAe : va_A [(h, .inr (13, [.ref ca, .int (nI n)])), wa ca cI L f] s.heap.size = A at hD ⊢
  have hA : ∀ q : Nat, s.heap.size ≤ q → A q := fun q h => by rw [← hAe]; exact Or.inr h
  have hS : va_S A s.heap s.heap [] := va_S.rf
  have hl := lv_entry ([.ref h, .int p0]) (n := 2) (Nat.le_of_ble_eq_true rfl)
  rw [lg_entry_eq]
  generalize (lg_sl ([.ref h, .int p0]) ++ List.replicate (2 - (lg_sl ([.ref h, .int p0])).length) Slot.unset).toArray = ls at hl ⊢
  have hl : lv_has ls 2 [(0, .ref h), (1, .int p0)] := hl
  refine lv_aload_n hx hb dX6_add_0 rfl (lv_at hl 0 rfl) ?_
  refine va_get (D := (dC, dI)) (ci := 13) (v := .int (nI n)) (C := RX6) (T := TX6) (N := 2) hx hb hts inX6_add_RX6 hown hK hP 0 rfl rfl 1 (by decide) (hts (.fieldLink RX6 21 "Patchferry$Row" "size" "I") (by decide +kernel)) (fun _ h9 => h9) rfl dX6_add_1 ?_
  refine lv_aload_n hx hb dX6_add_4 rfl (lv_at hl 0 rfl) ?_
  refine va_get (D := (dC, dI)) (ci := 13) (v := .ref ca) (C := RX6) (T := TX6) (N := 2) hx hb hts inX6_add_RX6 hown hK hP 0 rfl rfl 0 (by decide) (hts (.fieldLink RX6 15 "Patchferry$Row" "cells" "[I") (by decide +kernel)) (fun _ h9 => h9) rfl dX6_add_5 ?_
  refine va_alen (D := (dC, dI)) hx hb hK hP 1 0 rfl rfl rfl dX6_add_8 ?_
  refine lv_icmp_ge (tgt := 32) hx hb dX6_add_9 (by decide) (fun c_1 => ?_) (fun c_1 => ?_)
  · have hge : L ≤ n := by
      rcases Nat.lt_or_ge n L with q | q
      · exact absurd c_1 (nI_ge q (by omega))
      · exact q
    have hPe : va_P (dC, dI) vwCl [(h, .inr (13, [.ref ca, .int (nI n)])), wa ca cI L f] _ := hP.sub [0, 1] rfl
    have hDe : va_D A [(h, .inr (13, [.ref ca, .int (nI n)])), wa ca cI L f] := hD.sub [0, 1] (by decide) rfl
    refine W.widen (k := 0) (n := 0) (by first | exact Nat.le_of_ble_eq_true rfl | omega | (dsimp only [headSpec]; omega) | (simp only [headSpec]; omega) | omega) (by first | exact Nat.le_of_ble_eq_true rfl | omega | (dsimp only [headSpec]; omega) | (simp only [headSpec]; omega) | omega) ?_
    exact W.vret hx hb hr (fun t ht hW => ⟨⟨(), rfl, trivial, _, _, hn, fun q => absurd q (by omega), by rw [ht]; exact hPe, va_K.moved hW.alike hK, hDe⟩, hS.F ht⟩) hS.2.2 dX6_add_32
  · have hlt : n < L := by
      rcases Nat.lt_or_ge n L with q | q
      · exact q
      · exact absurd (nI_le q (by omega)) c_1
    refine lv_aload_n hx hb dX6_add_12 rfl (lv_at hl 0 rfl) ?_
    refine va_get (D := (dC, dI)) (ci := 13) (v := .ref ca) (C := RX6) (T := TX6) (N := 2) hx hb hts inX6_add_RX6 hown hK hP 0 rfl rfl 0 (by decide) (hts (.fieldLink RX6 15 "Patchferry$Row" "cells" "[I") (by decide +kernel)) (fun _ h9 => h9) rfl dX6_add_13 ?_
    refine lv_aload_n hx hb dX6_add_16 rfl (lv_at hl 0 rfl) ?_
    refine va_get (D := (dC, dI)) (ci := 13) (v := .int (nI n)) (C := RX6) (T := TX6) (N := 2) hx hb hts inX6_add_RX6 hown hK hP 0 rfl rfl 1 (by decide) (hts (.fieldLink RX6 21 "Patchferry$Row" "size" "I") (by decide +kernel)) (fun _ h9 => h9) rfl dX6_add_17 ?_
    refine lv_iload_n hx hb dX6_add_20 rfl (lv_at hl 1 rfl) ?_
    refine va_iast (D := (dC, dI)) hx hb hK hP hD hS 1 0 rfl rfl (vp_in_nI hlt (by omega)) dX6_add_21 (fun H locs hP hD hS => ?_)
    have hP : va_P (dC, dI) vwCl [(h, .inr (13, [.ref ca, .int (nI n)])), wa ca cI L (upd f (nI n).toNatClampNeg p0)] H := hP
    have hD : va_D A [(h, .inr (13, [.ref ca, .int (nI n)])), wa ca cI L (upd f (nI n).toNatClampNeg p0)] := hD
    refine lv_aload_n hx hb dX6_add_22 rfl (lv_at hl 0 rfl) ?_
    refine lv_dup hx hb dX6_add_23 rfl ?_
    refine va_get (D := (dC, dI)) (ci := 13) (v := .int (nI n)) (C := RX6) (T := TX6) (N := 2) hx hb hts inX6_add_RX6 hown hK hP 0 rfl rfl 1 (by decide) (hts (.fieldLink RX6 21 "Patchferry$Row" "size" "I") (by decide +kernel)) (fun _ h9 => h9) rfl dX6_add_24 ?_
    refine lv_iconst (v := nI 1) hx hb dX6_add_27 (by decide) ?_
    refine lv_iadd hx hb dX6_add_28 ?_
    refine lv_topi (fun y_2 ey_2 => ?_)
    have h_3 : y_2 = nI (n + 1) := ey_2.trans (nI_1 n)
    subst h_3
    refine va_put (D := (dC, dI)) (ci := 13) (v := .int (nI (n + 1))) (ty := .int) (C := RX6) (T := TX6) (N := 2) hx hb hts inX6_add_RX6 tyX6 tyX6_ok nmX6 hown hK hP hD hS 0 rfl rfl 1 (by decide) (hts (.fieldLink RX6 21 "Patchferry$Row" "size" "I") (by decide +kernel)) (fun _ h9 => h9) rfl (by decide +kernel) rfl rfl (Nat.le_of_ble_eq_true rfl) dX6_add_29 (fun H locs hP hD hS => ?_)
    have hP : va_P (dC, dI) vwCl [(h, .inr (13, [.ref ca, .int (nI (n + 1))])), wa ca cI L (upd f (nI n).toNatClampNeg p0)] H := hP
    have hD : va_D A [(h, .inr (13, [.ref ca, .int (nI (n + 1))])), wa ca cI L (upd f (nI n).toNatClampNeg p0)] := hD
    have hPe : va_P (dC, dI) vwCl [(h, .inr (13, [.ref ca, .int (nI (n + 1))])), wa ca cI L (upd f (nI n).toNatClampNeg p0)] _ := hP.sub [0, 1] rfl
    have hDe : va_D A [(h, .inr (13, [.ref ca, .int (nI (n + 1))])), wa ca cI L (upd f (nI n).toNatClampNeg p0)] := hD.sub [0, 1] (by decide) rfl
    refine W.widen (k := 0) (n := 0) (by first | exact Nat.le_of_ble_eq_true rfl | omega | (dsimp only [headSpec]; omega) | (simp only [headSpec]; omega) | omega) (by first | exact Nat.le_of_ble_eq_true rfl | omega | (dsimp only [headSpec]; omega) | (simp only [headSpec]; omega) | omega) ?_
    exact W.vret hx hb hr (fun t ht hW => ⟨⟨(), rfl, trivial, _, _, hlt, fun _ => ⟨rfl, by rw [nI_clamp (by omega)]; exact pk_us, fun j hj => by rw [nI_clamp (by omega)]; exact pk_un (by omega)⟩, by rw [ht]; exact hPe, va_K.moved hW.alike hK, hDe⟩, hS.F ht⟩) hS.2.2 dX6_add_32
set_option maxHeartbeats 4000000 in
set_option maxRecDepth 100000 in
theorem c_clear (l : Launch) (dC : Nat → ClassId) (dI : Nat → Nat → Nat) (cI cO : ClassId) (sz : Nat) (h : Nat) (ca : Nat) (x : Int32) : Met l yX6_clear usX6_clear ({ frames := 0, cells := 0, slots := 0, locals := 0 }) (va_Pc [.ref h] (fun U => U.heap.size = sz ∧ va_P (dC, dI) vwCl [(h, .inr (13, [.ref ca, .int x]))] U.heap ∧ va_K (dC, dI) vwCl (ty0 cI cO) U ∧ va_D (fun _ => True) [(h, .inr (13, [.ref ca, .int x]))])) (va_Qv (fun _ : Unit => True) (fun _ t => va_P (dC, dI) vwCl [(h, .inr (13, [.ref ca, .int (nI 0)]))] t.heap ∧ va_K (dC, dI) vwCl (ty0 cI cO) t ∧ va_D (va_A [(h, .inr (13, [.ref ca, .int x]))] sz) [(h, .inr (13, [.ref ca, .int (nI 0)]))]) (va_A [(h, .inr (13, [.ref ca, .int x]))] sz)) 0 0 (va_A [(h, .inr (13, [.ref ca, .int x]))] sz) := by
  refine Met.ofW (cc := cX6_clear) (maxL := 1) (ret := none) (by decide) rfl ?_
  intro p e s m args below meth c s₁ B hml hv
  obtain ⟨rfl, hsz, hP, hK, hD0⟩ := hv
  have hx := B.exec
  have hb := B.bytes
  have hr := B.returns
  have hts := atoms_spec (ws := usX6_clear) B.pre
  have hown : s.vm.findClass RX6 = some m.cls := findClass_of_methodNamed B.named
  have hlocks := B.notSynchronized
  subst hsz
  have hD := hD0.self (sz := s.heap.size)
  generalize hAe : va_A [(h, .inr (13, [.ref ca, .int x]))] s.heap.size = A at hD ⊢
  have hA : ∀ q : Nat, s.heap.size ≤ q → A q := fun q h => by rw [← hAe]; exact Or.inr h
  have hS : va_S A s.heap s.heap [] := va_S.rf
  have hl := lv_entry ([.ref h]) (n := 1) (Nat.le_of_ble_eq_true rfl)
  rw [lg_entry_eq]
  generalize (lg_sl ([.ref h]) ++ List.replicate (1 - (lg_sl ([.ref h])).length) Slot.unset).toArray = ls at hl ⊢
  have hl : lv_has ls 1 [(0, .ref h)] := hl
  refine lv_aload_n hx hb dX6_clear_0 rfl (lv_at hl 0 rfl) ?_
  refine lv_iconst (v := nI 0) hx hb dX6_clear_1 (by decide) ?_
  refine va_put (D := (dC, dI)) (ci := 13) (v := .int (nI 0)) (ty := .int) (C := RX6) (T := TX6) (N := 2) hx hb hts inX6_clear_RX6 tyX6 tyX6_ok nmX6 hown hK hP hD hS 0 rfl rfl 1 (by decide) (hts (.fieldLink RX6 21 "Patchferry$Row" "size" "I") (by decide +kernel)) (fun _ h9 => h9) rfl (by decide +kernel) rfl rfl (Nat.le_of_ble_eq_true rfl) dX6_clear_2 (fun H locs hP hD hS => ?_)
  have hP : va_P (dC, dI) vwCl [(h, .inr (13, [.ref ca, .int (nI 0)]))] H := hP
  have hD : va_D A [(h, .inr (13, [.ref ca, .int (nI 0)]))] := hD
  have hPe : va_P (dC, dI) vwCl [(h, .inr (13, [.ref ca, .int (nI 0)]))] _ := hP.sub [0] rfl
  have hDe : va_D A [(h, .inr (13, [.ref ca, .int (nI 0)]))] := hD.sub [0] (by decide) rfl
  refine W.widen (k := 0) (n := 0) (by first | exact Nat.le_of_ble_eq_true rfl | omega | (dsimp only [headSpec]; omega) | (simp only [headSpec]; omega) | omega) (by first | exact Nat.le_of_ble_eq_true rfl | omega | (dsimp only [headSpec]; omega) | (simp only [headSpec]; omega) | omega) ?_
  exact W.vret hx hb hr (fun t ht hW => ⟨⟨(), rfl, trivial, by rw [ht]; exact hPe, va_K.moved hW.alike hK, hDe⟩, hS.F ht⟩) hS.2.2 dX6_clear_5
set_option maxHeartbeats 4000000 in
set_option maxRecDepth 100000 in
theorem c_rowinit (l : Launch) (dC : Nat → ClassId) (dI : Nat → Nat → Nat) (cI cO : ClassId) (sz : Nat) (h : Nat) (k : Nat) (hk : k ≤ 100000) : Met l yX6_init usX6_init ({ frames := 1, cells := 1, slots := k, locals := 16 }) (va_Pc [.ref h, .int (nI k)] (fun U => U.heap.size = sz ∧ va_P (dC, dI) vwCl [(h, .inr (13, [.null, .int (nI 0)]))] U.heap ∧ va_K (dC, dI) vwCl (ty0 cI cO) U ∧ va_D (fun _ => True) [(h, .inr (13, [.null, .int (nI 0)]))])) (va_Qv (fun _ : Unit => True) (fun _ t => ∃ (ca : Nat), va_P (dC, dI) vwCl [(h, .inr (13, [.ref ca, .int (nI 0)])), wa ca cI k (fun _ => 0)] t.heap ∧ va_K (dC, dI) vwCl (ty0 cI cO) t ∧ va_D (va_A [(h, .inr (13, [.null, .int (nI 0)]))] sz) [(h, .inr (13, [.ref ca, .int (nI 0)])), wa ca cI k (fun _ => 0)]) (va_A [(h, .inr (13, [.null, .int (nI 0)]))] sz)) 1 k (va_A [(h, .inr (13, [.null, .int (nI 0)]))] sz) := by
  refine Met.ofW (cc := cX6_init) (maxL := 2) (ret := none) (by decide) rfl ?_
  intro p e s m args below meth c s₁ B hml hv
  obtain ⟨rfl, hsz, hP, hK, hD0⟩ := hv
  have hx := B.exec
  have hb := B.bytes
  have hr := B.returns
  have hts := atoms_spec (ws := usX6_init) B.pre
  have hown : s.vm.findClass RX6 = some m.cls := findClass_of_methodNamed B.named
  have hlocks := B.notSynchronized
  have hin : meth.name = "<init>" := (name_of_methodNamed B.named B.method).1
  subst hsz
  have hD := hD0.self (sz := s.heap.size)
  generalize hAe : va_A [(h, .inr (13, [.null, .int (nI 0)]))] s.heap.size = A at hD ⊢
  have hA : ∀ q : Nat, s.heap.size ≤ q → A q := fun q h => by rw [← hAe]; exact Or.inr h
  have hS : va_S A s.heap s.heap [] := va_S.rf
  have hl := lv_entry ([.ref h, .int (nI k)]) (n := 2) (Nat.le_of_ble_eq_true rfl)
  rw [lg_entry_eq]
  generalize (lg_sl ([.ref h, .int (nI k)]) ++ List.replicate (2 - (lg_sl ([.ref h, .int (nI k)])).length) Slot.unset).toArray = ls at hl ⊢
  have hl : lv_has ls 2 [(0, .ref h), (1, .int (nI k))] := hl
  refine lv_aload_n hx hb dX6_init_0 rfl (lv_at hl 0 rfl) ?_
  refine W.objInit hx hb hown (hts (.methodLink RX6 3 objectInit) (by decide +kernel)) (hts (.instanceMethod objectInit) (by decide +kernel)) (hts _ (List.mem_of_getElem? (i := 3) rfl)) rfl (by rw [hml]; exact hl.1) rfl dX6_init_1 (by first | exact Nat.le_of_ble_eq_true rfl | omega | (dsimp only [headSpec]; omega) | (simp only [headSpec]; omega) | omega) (by first | exact Nat.le_of_ble_eq_true rfl | omega | (dsimp only [headSpec]; omega) | (simp only [headSpec]; omega) | omega) ?_
  refine W.eq (g2 := F0 m 4 ls []) rfl ?_
  refine lv_aload_n hx hb dX6_init_4 rfl (lv_at hl 0 rfl) ?_
  refine lv_iload_n hx hb dX6_init_5 rfl (lv_at hl 1 rfl) ?_
  refine lv_iconst (v := nI 0) hx hb dX6_init_6 (by decide) ?_
  refine va_mmax hx hb (hml.trans hl.1.symm) hown (hts (.methodLink RX6 9 Lib.Math.max.name) (by decide +kernel)) (hts (.static Lib.Math.max.name) (by decide +kernel)) (hts (.initialized "java/lang/Math") (by decide +kernel)) (hts _ (List.mem_of_getElem? (i := 7) rfl)) (by first | exact Nat.le_of_ble_eq_true rfl | omega | (dsimp only [headSpec]; omega) | (simp only [headSpec]; omega) | omega) (by first | exact Nat.le_of_ble_eq_true rfl | omega | (dsimp only [headSpec]; omega) | (simp only [headSpec]; omega) | omega) (by first | exact Nat.le_of_ble_eq_true rfl | omega | (dsimp only [headSpec]; omega) | (simp only [headSpec]; omega) | omega) (by first | exact Nat.le_of_ble_eq_true rfl | omega | (dsimp only [headSpec]; omega) | (simp only [headSpec]; omega) | omega) dX6_init_7 ?_
  rw [if_neg (nI_nlt (a := k) (b := 0) (by omega) (by omega))]
  refine va_newa (D := (dC, dI)) (atype := .int) (N' := k) (a0 := (k, .inl (fun _ => 0))) hx hb (hts (.arrayClass .int) (by decide +kernel)) rfl hK hP hD hS hA (fun _ => rfl) (nI_pos (by omega)) (nI_clamp (by omega)) (by show k * 4 ≤ 536870912; omega) (by first | exact Nat.le_of_ble_eq_true rfl | omega | (dsimp only [headSpec]; omega) | (simp only [headSpec]; omega) | omega) (by first | exact Nat.le_of_ble_eq_true rfl | omega | (dsimp only [headSpec]; omega) | (simp only [headSpec]; omega) | omega) dX6_init_10 (fun q_1 cQ_2 H hK2 hP hD hS => ?_)
  obtain rfl := uc_eq hK2 0 2 rfl rfl
  have hP : va_P (dC, dI) vwCl [(h, .inr (13, [.null, .int (nI 0)])), wa q_1 cI k (fun _ => 0)] H := hP
  have hD : va_D A [(h, .inr (13, [.null, .int (nI 0)])), wa q_1 cI k (fun _ => 0)] := hD
  refine W.widen (k := 1) (n := k) (by first | exact Nat.le_of_ble_eq_true rfl | omega | (dsimp only [headSpec]; omega) | (simp only [headSpec]; omega) | omega) (by first | exact Nat.le_of_ble_eq_true rfl | omega | (dsimp only [headSpec]; omega) | (simp only [headSpec]; omega) | omega) ?_
  refine va_putF (D := (dC, dI)) (ci := 13) (v := .ref q_1) (ty := .array .int) (C := RX6) (T := TX6) (N := 2) hx hb hts inX6_init_RX6 tyX6 tyX6_ok nmX6 hown hK hP hD hS 0 rfl rfl 0 (by decide) (hts (.fieldLink RX6 15 "Patchferry$Row" "cells" "[I") (by decide +kernel)) (fun _ h9 => h9) rfl hin rfl (by decide +kernel) rfl rfl (Nat.le_of_ble_eq_true rfl) dX6_init_12 (fun H locs hP hD hS => ?_)
  have hP : va_P (dC, dI) vwCl [(h, .inr (13, [.ref q_1, .int (nI 0)])), wa q_1 cI k (fun _ => 0)] H := hP
  have hD : va_D A [(h, .inr (13, [.ref q_1, .int (nI 0)])), wa q_1 cI k (fun _ => 0)] := hD
  have hPe : va_P (dC, dI) vwCl [(h, .inr (13, [.ref q_1, .int (nI 0)])), wa q_1 cI k (fun _ => 0)] _ := hP.sub [0, 1] rfl
  have hDe : va_D A [(h, .inr (13, [.ref q_1, .int (nI 0)])), wa q_1 cI k (fun _ => 0)] := hD.sub [0, 1] (by decide) rfl
  refine W.widen (k := 1) (n := k) (by first | exact Nat.le_of_ble_eq_true rfl | omega | (dsimp only [headSpec]; omega) | (simp only [headSpec]; omega) | omega) (by first | exact Nat.le_of_ble_eq_true rfl | omega | (dsimp only [headSpec]; omega) | (simp only [headSpec]; omega) | omega) ?_
  exact W.vret hx hb hr (fun t ht hW => ⟨⟨(), rfl, trivial, _, by rw [ht]; exact hPe, va_K.moved hW.alike hK, hDe⟩, hS.F ht⟩) hS.2.2 dX6_init_15
end
section
/-! laid by wip/whole: names, words and decode rows from the print of the task; the contracts are told in wip/whole/*.py -/
abbrev cX6_strongSum : ByteArray := prog_8_method_14_code
def yX6_strongSum : MethodName := ⟨RX6, "strongSum", "(III)I"⟩
theorem dX6_strongSum_0 : decode cX6_strongSum 0 = .ok (.iload_n 1, 1) := by decide +kernel
theorem dX6_strongSum_1 : decode cX6_strongSum 1 = .ok (.istore 4, 2) := by decide +kernel
theorem dX6_strongSum_3 : decode cX6_strongSum 3 = .ok (.iconst 0, 1) := by decide +kernel
theorem dX6_strongSum_4 : decode cX6_strongSum 4 = .ok (.istore 5, 2) := by decide +kernel
theorem dX6_strongSum_6 : decode cX6_strongSum 6 = .ok (.iload 5, 2) := by decide +kernel
theorem dX6_strongSum_8 : decode cX6_strongSum 8 = .ok (.iload_n 3, 1) := by decide +kernel
theorem dX6_strongSum_9 : decode cX6_strongSum 9 = .ok (.if_icmp .ge 31, 3) := by decide +kernel
theorem dX6_strongSum_12 : decode cX6_strongSum 12 = .ok (.sipush 257, 3) := by decide +kernel
theorem dX6_strongSum_15 : decode cX6_strongSum 15 = .ok (.iload 4, 2) := by decide +kernel
theorem dX6_strongSum_17 : decode cX6_strongSum 17 = .ok (.imul, 1) := by decide +kernel
theorem dX6_strongSum_18 : decode cX6_strongSum 18 = .ok (.aload_n 0, 1) := by decide +kernel
theorem dX6_strongSum_19 : decode cX6_strongSum 19 = .ok (.iload_n 2, 1) := by decide +kernel
theorem dX6_strongSum_20 : decode cX6_strongSum 20 = .ok (.iload 5, 2) := by decide +kernel
theorem dX6_strongSum_22 : decode cX6_strongSum 22 = .ok (.iadd, 1) := by decide +kernel
theorem dX6_strongSum_23 : decode cX6_strongSum 23 = .ok (.invokevirtual 38, 3) := by decide +kernel
theorem dX6_strongSum_26 : decode cX6_strongSum 26 = .ok (.iadd, 1) := by decide +kernel
theorem dX6_strongSum_27 : decode cX6_strongSum 27 = .ok (.iconst 1, 1) := by decide +kernel
theorem dX6_strongSum_28 : decode cX6_strongSum 28 = .ok (.iadd, 1) := by decide +kernel
theorem dX6_strongSum_29 : decode cX6_strongSum 29 = .ok (.ldc 53, 2) := by decide +kernel
theorem dX6_strongSum_31 : decode cX6_strongSum 31 = .ok (.irem, 1) := by decide +kernel
theorem dX6_strongSum_32 : decode cX6_strongSum 32 = .ok (.istore 4, 2) := by decide +kernel
theorem dX6_strongSum_34 : decode cX6_strongSum 34 = .ok (.iinc 5 1, 3) := by decide +kernel
theorem dX6_strongSum_37 : decode cX6_strongSum 37 = .ok (.goto (-31), 3) := by decide +kernel
theorem dX6_strongSum_40 : decode cX6_strongSum 40 = .ok (.iload 4, 2) := by decide +kernel
theorem dX6_strongSum_42 : decode cX6_strongSum 42 = .ok (.ireturn, 1) := by decide +kernel
abbrev cX6_agrees : ByteArray := prog_8_method_11_code
def yX6_agrees : MethodName := ⟨RX6, "agrees", "(ILPatchferry$Row;II)Z"⟩
theorem dX6_agrees_0 : decode cX6_agrees 0 = .ok (.iconst 0, 1) := by decide +kernel
theorem dX6_agrees_1 : decode cX6_agrees 1 = .ok (.istore 5, 2) := by decide +kernel
theorem dX6_agrees_3 : decode cX6_agrees 3 = .ok (.iload 5, 2) := by decide +kernel
theorem dX6_agrees_5 : decode cX6_agrees 5 = .ok (.iload 4, 2) := by decide +kernel
theorem dX6_agrees_7 : decode cX6_agrees 7 = .ok (.if_icmp .ge 30, 3) := by decide +kernel
theorem dX6_agrees_10 : decode cX6_agrees 10 = .ok (.aload_n 0, 1) := by decide +kernel
theorem dX6_agrees_11 : decode cX6_agrees 11 = .ok (.iload_n 1, 1) := by decide +kernel
theorem dX6_agrees_12 : decode cX6_agrees 12 = .ok (.iload 5, 2) := by decide +kernel
theorem dX6_agrees_14 : decode cX6_agrees 14 = .ok (.iadd, 1) := by decide +kernel
theorem dX6_agrees_15 : decode cX6_agrees 15 = .ok (.invokevirtual 38, 3) := by decide +kernel
theorem dX6_agrees_18 : decode cX6_agrees 18 = .ok (.aload_n 2, 1) := by decide +kernel
theorem dX6_agrees_19 : decode cX6_agrees 19 = .ok (.iload_n 3, 1) := by decide +kernel
theorem dX6_agrees_20 : decode cX6_agrees 20 = .ok (.iload 5, 2) := by decide +kernel
theorem dX6_agrees_22 : decode cX6_agrees 22 = .ok (.iadd, 1) := by decide +kernel
theorem dX6_agrees_23 : decode cX6_agrees 23 = .ok (.invokevirtual 38, 3) := by decide +kernel
theorem dX6_agrees_26 : decode cX6_agrees 26 = .ok (.if_icmp .eq 5, 3) := by decide +kernel
theorem dX6_agrees_29 : decode cX6_agrees 29 = .ok (.iconst 0, 1) := by decide +kernel
theorem dX6_agrees_30 : decode cX6_agrees 30 = .ok (.ireturn, 1) := by decide +kernel
theorem dX6_agrees_31 : decode cX6_agrees 31 = .ok (.iinc 5 1, 3) := by decide +kernel
theorem dX6_agrees_34 : decode cX6_agrees 34 = .ok (.goto (-31), 3) := by decide +kernel
theorem dX6_agrees_37 : decode cX6_agrees 37 = .ok (.iconst 1, 1) := by decide +kernel
theorem dX6_agrees_38 : decode cX6_agrees 38 = .ok (.ireturn, 1) := by decide +kernel
abbrev cX6_copyFrom : ByteArray := prog_8_method_9_code
def yX6_copyFrom : MethodName := ⟨RX6, "copyFrom", "(LPatchferry$Row;)V"⟩
theorem dX6_copyFrom_0 : decode cX6_copyFrom 0 = .ok (.aload_n 0, 1) := by decide +kernel
theorem dX6_copyFrom_1 : decode cX6_copyFrom 1 = .ok (.invokevirtual 35, 3) := by decide +kernel
theorem dX6_copyFrom_4 : decode cX6_copyFrom 4 = .ok (.iconst 0, 1) := by decide +kernel
theorem dX6_copyFrom_5 : decode cX6_copyFrom 5 = .ok (.istore_n 2, 1) := by decide +kernel
theorem dX6_copyFrom_6 : decode cX6_copyFrom 6 = .ok (.iload_n 2, 1) := by decide +kernel
theorem dX6_copyFrom_7 : decode cX6_copyFrom 7 = .ok (.aload_n 1, 1) := by decide +kernel
theorem dX6_copyFrom_8 : decode cX6_copyFrom 8 = .ok (.getfield 21, 3) := by decide +kernel
theorem dX6_copyFrom_11 : decode cX6_copyFrom 11 = .ok (.if_icmp .ge 18, 3) := by decide +kernel
theorem dX6_copyFrom_14 : decode cX6_copyFrom 14 = .ok (.aload_n 0, 1) := by decide +kernel
theorem dX6_copyFrom_15 : decode cX6_copyFrom 15 = .ok (.aload_n 1, 1) := by decide +kernel
theorem dX6_copyFrom_16 : decode cX6_copyFrom 16 = .ok (.iload_n 2, 1) := by decide +kernel
theorem dX6_copyFrom_17 : decode cX6_copyFrom 17 = .ok (.invokevirtual 38, 3) := by decide +kernel
theorem dX6_copyFrom_20 : decode cX6_copyFrom 20 = .ok (.invokevirtual 42, 3) := by decide +kernel
theorem dX6_copyFrom_23 : decode cX6_copyFrom 23 = .ok (.iinc 2 1, 3) := by decide +kernel
theorem dX6_copyFrom_26 : decode cX6_copyFrom 26 = .ok (.goto (-20), 3) := by decide +kernel
theorem dX6_copyFrom_29 : decode cX6_copyFrom 29 = .ok (.return_, 1) := by decide +kernel
abbrev cX6_copy : ByteArray := prog_8_method_8_code
def yX6_copy : MethodName := ⟨RX6, "copy", "()LPatchferry$Row;"⟩
theorem dX6_copy_0 : decode cX6_copy 0 = .ok (.new 16, 3) := by decide +kernel
theorem dX6_copy_3 : decode cX6_copy 3 = .ok (.dup, 1) := by decide +kernel
theorem dX6_copy_4 : decode cX6_copy 4 = .ok (.aload_n 0, 1) := by decide +kernel
theorem dX6_copy_5 : decode cX6_copy 5 = .ok (.getfield 21, 3) := by decide +kernel
theorem dX6_copy_8 : decode cX6_copy 8 = .ok (.invokespecial 28, 3) := by decide +kernel
theorem dX6_copy_11 : decode cX6_copy 11 = .ok (.astore_n 1, 1) := by decide +kernel
theorem dX6_copy_12 : decode cX6_copy 12 = .ok (.aload_n 1, 1) := by decide +kernel
theorem dX6_copy_13 : decode cX6_copy 13 = .ok (.aload_n 0, 1) := by decide +kernel
theorem dX6_copy_14 : decode cX6_copy 14 = .ok (.invokevirtual 31, 3) := by decide +kernel
theorem dX6_copy_17 : decode cX6_copy 17 = .ok (.aload_n 1, 1) := by decide +kernel
theorem dX6_copy_18 : decode cX6_copy 18 = .ok (.areturn, 1) := by decide +kernel
def usX6_strongSum : List Cond := .code yX6_strongSum cX6_strongSum 6 (some .int) :: ([.constant RX6 53 (1000003), .methodLink RX6 38 yX6_get, .instanceMethod yX6_get, .selects RX6 yX6_get yX6_get, .initialized RX6, .code yX6_get cX6_get 2 (some .int), .fieldLink RX6 21 "Patchferry$Row" "size" "I", .fieldLink RX6 15 "Patchferry$Row" "cells" "[I"] ++ wsX60)
def usX6_agrees : List Cond := .code yX6_agrees cX6_agrees 6 (some .boolean) :: ([.methodLink RX6 38 yX6_get, .instanceMethod yX6_get, .selects RX6 yX6_get yX6_get, .initialized RX6, .code yX6_get cX6_get 2 (some .int), .fieldLink RX6 21 "Patchferry$Row" "size" "I", .fieldLink RX6 15 "Patchferry$Row" "cells" "[I"] ++ wsX60)
def usX6_copyFrom : List Cond := .code yX6_copyFrom cX6_copyFrom 3 none :: ([.fieldLink RX6 21 "Patchferry$Row" "size" "I", .methodLink RX6 35 yX6_clear, .instanceMethod yX6_clear, .selects RX6 yX6_clear yX6_clear, .initialized RX6, .code yX6_clear cX6_clear 1 none, .methodLink RX6 38 yX6_get, .instanceMethod yX6_get, .selects RX6 yX6_get yX6_get, .code yX6_get cX6_get 2 (some .int), .fieldLink RX6 15 "Patchferry$Row" "cells" "[I", .methodLink RX6 42 yX6_add, .instanceMethod yX6_add, .selects RX6 yX6_add yX6_add, .code yX6_add cX6_add 2 none] ++ wsX60)
def usX6_copy_r1 : List Cond := [Cond.classLink RX6 16 RX6, Cond.instantiable RX6 2, Cond.initialized RX6, Cond.fieldLink RX6 21 "Patchferry$Row" "size" "I", Cond.methodLink RX6 28 yX6_init, Cond.instanceMethod yX6_init, Cond.code yX6_init cX6_init 2 none, Cond.methodLink RX6 3 objectInit, Cond.instanceMethod objectInit, Cond.code objectInit ⟨#[0xb1]⟩ 1 none, Cond.methodLink RX6 9 Lib.Math.max.name, Cond.static Lib.Math.max.name, Cond.initialized "java/lang/Math", Cond.code Lib.Math.max.name Lib.Math.max.code 2 (some .int), Cond.arrayClass .int, Cond.fieldLink RX6 15 "Patchferry$Row" "cells" "[I", Cond.methodLink RX6 31 yX6_copyFrom, Cond.instanceMethod yX6_copyFrom, Cond.selects RX6 yX6_copyFrom yX6_copyFrom, Cond.code yX6_copyFrom cX6_copyFrom 3 none]
def usX6_copy_r2 : List Cond := [Cond.methodLink RX6 35 yX6_clear, Cond.instanceMethod yX6_clear, Cond.selects RX6 yX6_clear yX6_clear, Cond.code yX6_clear cX6_clear 1 none, Cond.methodLink RX6 38 yX6_get, Cond.instanceMethod yX6_get, Cond.selects RX6 yX6_get yX6_get, Cond.code yX6_get cX6_get 2 (some .int), Cond.methodLink RX6 42 yX6_add, Cond.instanceMethod yX6_add, Cond.selects RX6 yX6_add yX6_add, Cond.code yX6_add cX6_add 2 none]
def usX6_copy : List Cond := .code yX6_copy cX6_copy 2 (some (.object "Patchferry$Row")) :: ((usX6_copy_r1 ++ (usX6_copy_r2)) ++ wsX60)
theorem inX6_copyFrom_RX6 : ∀ w ∈ u_ws RX6 TX6 2, w ∈ usX6_copyFrom := by decide +kernel
theorem inX6_copy_RX6 : ∀ w ∈ u_ws RX6 TX6 2, w ∈ usX6_copy := by decide +kernel
set_option maxRecDepth 20000 in
theorem ugX6_strongSum_X6_get : GoodIn usX6_strongSum (wsV RX6 38 RX6 yX6_get usX6_get) := goodIn_p _ [6] (by decide +kernel) (by decide +kernel)
set_option maxRecDepth 20000 in
theorem ugX6_agrees_X6_get : GoodIn usX6_agrees (wsV RX6 38 RX6 yX6_get usX6_get) := goodIn_p _ [5] (by decide +kernel) (by decide +kernel)
set_option maxRecDepth 20000 in
theorem ugX6_copyFrom_X6_get : GoodIn usX6_copyFrom (wsV RX6 38 RX6 yX6_get usX6_get) := goodIn_p _ [10] (by decide +kernel) (by decide +kernel)
set_option maxRecDepth 20000 in
theorem ugX6_copyFrom_X6_add : GoodIn usX6_copyFrom (wsV RX6 42 RX6 yX6_add usX6_add) := goodIn_p _ [15] (by decide +kernel) (by decide +kernel)
set_option maxRecDepth 20000 in
theorem ugX6_copyFrom_X6_clear : GoodIn usX6_copyFrom (wsV RX6 35 RX6 yX6_clear usX6_clear) := goodIn_p _ [6] (by decide +kernel) (by decide +kernel)
set_option maxRecDepth 20000 in
theorem ugX6_copy_X6_init : GoodIn usX6_copy (usX6_init) := goodIn_p _ [7, 10, 14] (by decide +kernel) (by decide +kernel)
set_option maxRecDepth 20000 in
theorem ugX6_copy_X6_copyFrom : GoodIn usX6_copy (wsV RX6 31 RX6 yX6_copyFrom usX6_copyFrom) := goodIn_p _ [20, 24, 28, 32] (by decide +kernel) (by decide +kernel)
set_option maxHeartbeats 4000000 in
set_option maxRecDepth 100000 in
theorem strong_loop {p : Program} {l : Launch} {e : Env} {R : Room} {s : State} {m : MethodId} {args : Array Value} {below : List Frame} {meth : Method} {c : Code} {cells slots : Nat} {Q : State → Prop} {dC : Nat → ClassId} {dI : Nat → Nat → Nat} {cI cO : ClassId} {h : Nat} {ca : Nat} {n : Nat} {L : Nat} {f : Nat → Int32} {p0 : Int32} {p1 : Int32} {p2 : Int32} {H : Heap} {locs : List Loc} (hx : p.tables.exec = Jvm.exec) (hb : c.code = cX6_strongSum) (hml : c.maxLocals = 6) (hown : s.vm.findClass RX6 = some m.cls) (hts : ∀ w ∈ usX6_strongSum, w.before args s = true) (hK : va_K (dC, dI) vwCl (ty0 cI cO) s) (hRf : 1 ≤ R.frames) (hRl : 21 ≤ R.locals) (hRc : cells + 0 ≤ R.cells) (hRs : slots + 0 ≤ R.slots) (hP : va_P (dC, dI) vwCl [(h, .inr (13, [.ref ca, .int (nI n)])), wa ca cI L f] H) (hn : n ≤ L) (hL : L ≤ 100000) (kk : ∀ (x4 : Int32) (x5 : Int32) (ls : Array Slot), lv_has ls 6 [(0, .ref h), (1, .int p0), (2, .int p1), (3, .int p2), (4, .int x4), (5, .int x5)] → W p l e R s m args below meth c H locs cells slots Q (F0 m 40 ls [])) :
    ∀ (k : Nat), ∀ (x4 : Int32) (x5 : Int32) (ls : Array Slot), (um x5 p2 < k) → lv_has ls 6 [(0, .ref h), (1, .int p0), (2, .int p1), (3, .int p2), (4, .int x4), (5, .int x5)] → W p l e R s m args below meth c H locs cells slots Q (F0 m 6 ls []) := by
  intro k
  induction k with
  | zero => intro x4 x5 ls hk  hl; omega
  | succ k ih =>
    intro x4 x5 ls hk  hl
    refine lv_iload hx hb dX6_strongSum_6 (lv_at hl 5 rfl) ?_
    refine lv_iload_n hx hb dX6_strongSum_8 rfl (lv_at hl 3 rfl) ?_
    refine lv_icmp_ge (tgt := 40) hx hb dX6_strongSum_9 (by decide) (fun c_1 => ?_) (fun c_1 => ?_)
    · exact kk x4 x5 ls  (lv_sub hl [0, 1, 2, 3, 4, 5] rfl)
    · have hm := um_lt c_1
      refine lv_sipush (v := nI 257) hx hb dX6_strongSum_12 (by decide) ?_
      refine lv_iload hx hb dX6_strongSum_15 (lv_at hl 4 rfl) ?_
      refine lv_imul hx hb dX6_strongSum_17 ?_
      refine lv_topi (fun y_2 ey_2 => ?_)
      refine lv_aload_n hx hb dX6_strongSum_18 rfl (lv_at hl 0 rfl) ?_
      refine lv_iload_n hx hb dX6_strongSum_19 rfl (lv_at hl 2 rfl) ?_
      refine lv_iload hx hb dX6_strongSum_20 (lv_at hl 5 rfl) ?_
      refine lv_iadd hx hb dX6_strongSum_22 ?_
      refine lv_topi (fun y_3 ey_3 => ?_)
      have hPc : va_P (dC, dI) vwCl [(h, .inr (13, [.ref ca, .int (nI n)])), wa ca cI L f] _ := hP.sub [0, 1] rfl
      refine uc_i (va_runV (As := [.int y_3]) (rest := [.int y_2]) ⟨hx, hb, hml, hown, hts⟩ (p_get l dC dI cI cO h ca n L f y_3 hn hL) (cwV 1 hts ugX6_strongSum_X6_get rfl rfl rfl (by decide +kernel) ⟨(by first | exact Nat.le_of_ble_eq_true rfl | omega | (dsimp only [headSpec]; omega) | (simp only [headSpec]; omega) | omega), (by first | exact Nat.le_of_ble_eq_true rfl | omega | (dsimp only [headSpec]; omega) | (simp only [headSpec]; omega) | omega)⟩) ⟨fun a U g mk q => by obtain ⟨q0, qP, qK⟩ := q; exact ⟨q0, qP, va_K.moved (u := U) (U := U.calling g mk a) (Vm.Alike.refl U.vm) qK⟩, va_recv hK hPc (ci := 13) (q0 := 0) rfl rfl, fun U hU hW => ⟨rfl, by rw [hU]; exact hPc, va_K.moved hW.alike hK⟩⟩ rfl rfl hl.1 rfl (lv_room (Nat.le_of_ble_eq_true rfl)) dX6_strongSum_23 ⟨(by first | exact Nat.le_of_ble_eq_true rfl | omega | (dsimp only [headSpec]; omega) | (simp only [headSpec]; omega) | omega), (by first | exact Nat.le_of_ble_eq_true rfl | omega | (dsimp only [headSpec]; omega) | (simp only [headSpec]; omega) | omega)⟩) (fun r1 er1 => ?_)
      refine lv_iadd hx hb dX6_strongSum_26 ?_
      refine lv_topi (fun y_4 ey_4 => ?_)
      refine lv_iconst (v := nI 1) hx hb dX6_strongSum_27 (by decide) ?_
      refine lv_iadd hx hb dX6_strongSum_28 ?_
      refine lv_topi (fun y_5 ey_5 => ?_)
      refine lv_ldc (v := nI 1000003) hx hb hown (hts (.constant RX6 53 (nI 1000003)) (by decide +kernel)) dX6_strongSum_29 ?_
      refine lv_irem hx hb dX6_strongSum_31 (by decide) ?_
      refine lv_topi (fun y_6 ey_6 => ?_)
      refine lv_istore (lv' := [(4, .int y_6), (0, .ref h), (1, .int p0), (2, .int p1), (3, .int p2), (5, .int x5)]) hx hb dX6_strongSum_32 hl (by decide) rfl (fun ls hl => ?_)
      refine lv_iinc (v := (x5 + 1)) (lv' := [(5, .int (x5 + 1)), (4, .int y_6), (0, .ref h), (1, .int p0), (2, .int p1), (3, .int p2)]) hx hb dX6_strongSum_34 hl (k := 5) rfl rfl (by decide) rfl (fun ls hl => ?_)
      refine lv_goto (tgt := 6) hx hb dX6_strongSum_37 (by decide) ?_
      exact ih _ _ ls (by omega) (lv_sub hl [2, 3, 4, 5, 1, 0] rfl)
set_option maxHeartbeats 4000000 in
set_option maxRecDepth 100000 in
theorem p_strong (l : Launch) (dC : Nat → ClassId) (dI : Nat → Nat → Nat) (cI cO : ClassId) (h : Nat) (ca : Nat) (n : Nat) (L : Nat) (f : Nat → Int32) (p0 : Int32) (p1 : Int32) (p2 : Int32) (hn : n ≤ L) (hL : L ≤ 100000) : Met l yX6_strongSum usX6_strongSum ({ frames := 1, cells := 0, slots := 0, locals := 21 }) (va_Pc [.ref h, .int p0, .int p1, .int p2] (fun U => va_P (dC, dI) vwCl [(h, .inr (13, [.ref ca, .int (nI n)])), wa ca cI L f] U.heap ∧ va_K (dC, dI) vwCl (ty0 cI cO) U)) (vp_Si (fun r => True)) 0 0 (fun _ => False) := by
  refine Met.ofW (cc := cX6_strongSum) (maxL := 6) (ret := (some .int)) (by decide) rfl ?_
  intro p e s m args below meth c s₁ B hml hv
  obtain ⟨rfl, hP, hK⟩ := hv
  have hx := B.exec
  have hb := B.bytes
  have hr := B.returns
  have hts := atoms_spec (ws := usX6_strongSum) B.pre
  have hown : s.vm.findClass RX6 = some m.cls := findClass_of_methodNamed B.named
  have hlocks := B.notSynchronized
  have hl := lv_entry ([.ref h, .int p0, .int p1, .int p2]) (n := 6) (Nat.le_of_ble_eq_true rfl)
  rw [lg_entry_eq]
  generalize (lg_sl ([.ref h, .int p0, .int p1, .int p2]) ++ List.replicate (6 - (lg_sl ([.ref h, .int p0, .int p1, .int p2])).length) Slot.unset).toArray = ls at hl ⊢
  have hl : lv_has ls 6 [(0, .ref h), (1, .int p0), (2, .int p1), (3, .int p2)] := hl
  refine lv_iload_n hx hb dX6_strongSum_0 rfl (lv_at hl 1 rfl) ?_
  refine lv_istore (lv' := [(4, .int p0), (0, .ref h), (1, .int p0), (2, .int p1), (3, .int p2)]) hx hb dX6_strongSum_1 hl (by decide) rfl (fun ls hl => ?_)
  refine lv_iconst (v := nI 0) hx hb dX6_strongSum_3 (by decide) ?_
  refine lv_istore (lv' := [(5, .int (nI 0)), (4, .int p0), (0, .ref h), (1, .int p0), (2, .int p1), (3, .int p2)]) hx hb dX6_strongSum_4 hl (by decide) rfl (fun ls hl => ?_)
  refine strong_loop hx hb hml hown hts hK (by first | exact Nat.le_of_ble_eq_true rfl | omega | (dsimp only [headSpec]; omega) | (simp only [headSpec]; omega) | omega) (by first | exact Nat.le_of_ble_eq_true rfl | omega | (dsimp only [headSpec]; omega) | (simp only [headSpec]; omega) | omega) (by first | exact Nat.le_of_ble_eq_true rfl | omega | (dsimp only [headSpec]; omega) | (simp only [headSpec]; omega) | omega) (by first | exact Nat.le_of_ble_eq_true rfl | omega | (dsimp only [headSpec]; omega) | (simp only [headSpec]; omega) | omega) hP hn hL ?_ (um (nI 0) p2 + 1) p0 (nI 0) ls (by omega) (lv_sub hl [2, 3, 4, 5, 1, 0] rfl)
  intro x4 x5 ls hl
  refine lv_iload hx hb dX6_strongSum_40 (lv_at hl 4 rfl) ?_
  exact W.iret (v := x4) hx hb hr (fun t ht hW => ⟨_, rfl, trivial, ht⟩) (fun q hq => by cases hq) dX6_strongSum_42
set_option maxHeartbeats 4000000 in
set_option maxRecDepth 100000 in
theorem agrees_loop {p : Program} {l : Launch} {e : Env} {R : Room} {s : State} {m : MethodId} {args : Array Value} {below : List Frame} {meth : Method} {c : Code} {cells slots : Nat} {Q : State → Prop} {dC : Nat → ClassId} {dI : Nat → Nat → Nat} {cI cO : ClassId} {h : Nat} {ca : Nat} {n : Nat} {L : Nat} {f : Nat → Int32} {g : Nat} {cg : Nat} {n2 : Nat} {L2 : Nat} {f2 : Nat → Int32} {p0 : Int32} {p1 : Int32} {p2 : Int32} {H : Heap} {locs : List Loc} (hx : p.tables.exec = Jvm.exec) (hb : c.code = cX6_agrees) (hml : c.maxLocals = 6) (hown : s.vm.findClass RX6 = some m.cls) (hts : ∀ w ∈ usX6_agrees, w.before args s = true) (hK : va_K (dC, dI) vwCl (ty0 cI cO) s) (hRf : 1 ≤ R.frames) (hRl : 21 ≤ R.locals) (hRc : cells + 0 ≤ R.cells) (hRs : slots + 0 ≤ R.slots) (hP : va_P (dC, dI) vwCl [(h, .inr (13, [.ref ca, .int (nI n)])), wa ca cI L f, (g, .inr (13, [.ref cg, .int (nI n2)])), wa cg cI L2 f2] H) (hn : n ≤ L) (hL : L ≤ 100000) (hn2 : n2 ≤ L2) (hL2 : L2 ≤ 100000) (kf : ∀ (ls : Array Slot), W p l e R s m args below meth c H locs cells slots Q (F0 m 29 ls [])) (kk : ∀ (x5 : Int32) (ls : Array Slot), lv_has ls 6 [(0, .ref h), (1, .int p0), (2, .ref g), (3, .int p1), (4, .int p2), (5, .int x5)] → W p l e R s m args below meth c H locs cells slots Q (F0 m 37 ls [])) :
    ∀ (k : Nat), ∀ (x5 : Int32) (ls : Array Slot), (um x5 p2 < k) → lv_has ls 6 [(0, .ref h), (1, .int p0), (2, .ref g), (3, .int p1), (4, .int p2), (5, .int x5)] → W p l e R s m args below meth c H locs cells slots Q (F0 m 3 ls []) := by
  intro k
  induction k with
  | zero => intro x5 ls hk  hl; omega
  | succ k ih =>
    intro x5 ls hk  hl
    refine lv_iload hx hb dX6_agrees_3 (lv_at hl 5 rfl) ?_
    refine lv_iload hx hb dX6_agrees_5 (lv_at hl 4 rfl) ?_
    refine lv_icmp_ge (tgt := 37) hx hb dX6_agrees_7 (by decide) (fun c_1 => ?_) (fun c_1 => ?_)
    · exact kk x5 ls  (lv_sub hl [0, 1, 2, 3, 4, 5] rfl)
    · have hm := um_lt c_1
      refine lv_aload_n hx hb dX6_agrees_10 rfl (lv_at hl 0 rfl) ?_
      refine lv_iload_n hx hb dX6_agrees_11 rfl (lv_at hl 1 rfl) ?_
      refine lv_iload hx hb dX6_agrees_12 (lv_at hl 5 rfl) ?_
      refine lv_iadd hx hb dX6_agrees_14 ?_
      refine lv_topi (fun y_2 ey_2 => ?_)
      have hPc : va_P (dC, dI) vwCl [(h, .inr (13, [.ref ca, .int (nI n)])), wa ca cI L f] _ := hP.sub [0, 1] rfl
      refine uc_i (va_runV (As := [.int y_2]) (rest := []) ⟨hx, hb, hml, hown, hts⟩ (p_get l dC dI cI cO h ca n L f y_2 hn hL) (cwV 1 hts ugX6_agrees_X6_get rfl rfl rfl (by decide +kernel) ⟨(by first | exact Nat.le_of_ble_eq_true rfl | omega | (dsimp only [headSpec]; omega) | (simp only [headSpec]; omega) | omega), (by first | exact Nat.le_of_ble_eq_true rfl | omega | (dsimp only [headSpec]; omega) | (simp only [headSpec]; omega) | omega)⟩) ⟨fun a U g mk q => by obtain ⟨q0, qP, qK⟩ := q; exact ⟨q0, qP, va_K.moved (u := U) (U := U.calling g mk a) (Vm.Alike.refl U.vm) qK⟩, va_recv hK hPc (ci := 13) (q0 := 0) rfl rfl, fun U hU hW => ⟨rfl, by rw [hU]; exact hPc, va_K.moved hW.alike hK⟩⟩ rfl rfl hl.1 rfl (lv_room (Nat.le_of_ble_eq_true rfl)) dX6_agrees_15 ⟨(by first | exact Nat.le_of_ble_eq_true rfl | omega | (dsimp only [headSpec]; omega) | (simp only [headSpec]; omega) | omega), (by first | exact Nat.le_of_ble_eq_true rfl | omega | (dsimp only [headSpec]; omega) | (simp only [headSpec]; omega) | omega)⟩) (fun r1 er1 => ?_)
      refine lv_aload_n hx hb dX6_agrees_18 rfl (lv_at hl 2 rfl) ?_
      refine lv_iload_n hx hb dX6_agrees_19 rfl (lv_at hl 3 rfl) ?_
      refine lv_iload hx hb dX6_agrees_20 (lv_at hl 5 rfl) ?_
      refine lv_iadd hx hb dX6_agrees_22 ?_
      refine lv_topi (fun y_3 ey_3 => ?_)
      have hPc : va_P (dC, dI) vwCl [(g, .inr (13, [.ref cg, .int (nI n2)])), wa cg cI L2 f2] _ := hP.sub [2, 3] rfl
      refine uc_i (va_runV (As := [.int y_3]) (rest := [.int r1]) ⟨hx, hb, hml, hown, hts⟩ (p_get l dC dI cI cO g cg n2 L2 f2 y_3 hn2 hL2) (cwV 1 hts ugX6_agrees_X6_get rfl rfl rfl (by decide +kernel) ⟨(by first | exact Nat.le_of_ble_eq_true rfl | omega | (dsimp only [headSpec]; omega) | (simp only [headSpec]; omega) | omega), (by first | exact Nat.le_of_ble_eq_true rfl | omega | (dsimp only [headSpec]; omega) | (simp only [headSpec]; omega) | omega)⟩) ⟨fun a U g mk q => by obtain ⟨q0, qP, qK⟩ := q; exact ⟨q0, qP, va_K.moved (u := U) (U := U.calling g mk a) (Vm.Alike.refl U.vm) qK⟩, va_recv hK hPc (ci := 13) (q0 := 0) rfl rfl, fun U hU hW => ⟨rfl, by rw [hU]; exact hPc, va_K.moved hW.alike hK⟩⟩ rfl rfl hl.1 rfl (lv_room (Nat.le_of_ble_eq_true rfl)) dX6_agrees_23 ⟨(by first | exact Nat.le_of_ble_eq_true rfl | omega | (dsimp only [headSpec]; omega) | (simp only [headSpec]; omega) | omega), (by first | exact Nat.le_of_ble_eq_true rfl | omega | (dsimp only [headSpec]; omega) | (simp only [headSpec]; omega) | omega)⟩) (fun r2 er2 => ?_)
      refine lv_icmp_eq (tgt := 31) hx hb dX6_agrees_26 (by decide) (fun c_4 => ?_) (fun c_4 => ?_)
      · refine lv_iinc (v := (x5 + 1)) (lv' := [(5, .int (x5 + 1)), (0, .ref h), (1, .int p0), (2, .ref g), (3, .int p1), (4, .int p2)]) hx hb dX6_agrees_31 hl (k := 5) rfl rfl (by decide) rfl (fun ls hl => ?_)
        refine lv_goto (tgt := 3) hx hb dX6_agrees_34 (by decide) ?_
        exact ih _ ls (by omega) (lv_sub hl [1, 2, 3, 4, 5, 0] rfl)
      · exact kf ls
set_option maxHeartbeats 4000000 in
set_option maxRecDepth 100000 in
theorem p_agrees (l : Launch) (dC : Nat → ClassId) (dI : Nat → Nat → Nat) (cI cO : ClassId) (h : Nat) (ca : Nat) (n : Nat) (L : Nat) (f : Nat → Int32) (g : Nat) (cg : Nat) (n2 : Nat) (L2 : Nat) (f2 : Nat → Int32) (p0 : Int32) (p1 : Int32) (p2 : Int32) (hn : n ≤ L) (hL : L ≤ 100000) (hn2 : n2 ≤ L2) (hL2 : L2 ≤ 100000) : Met l yX6_agrees usX6_agrees ({ frames := 1, cells := 0, slots := 0, locals := 21 }) (va_Pc [.ref h, .int p0, .ref g, .int p1, .int p2] (fun U => va_P (dC, dI) vwCl [(h, .inr (13, [.ref ca, .int (nI n)])), wa ca cI L f, (g, .inr (13, [.ref cg, .int (nI n2)])), wa cg cI L2 f2] U.heap ∧ va_K (dC, dI) vwCl (ty0 cI cO) U)) (vp_Si (fun r => r = 0 ∨ r = 1)) 0 0 (fun _ => False) := by
  refine Met.ofW (cc := cX6_agrees) (maxL := 6) (ret := (some .boolean)) (by decide) rfl ?_
  intro p e s m args below meth c s₁ B hml hv
  obtain ⟨rfl, hP, hK⟩ := hv
  have hx := B.exec
  have hb := B.bytes
  have hr := B.returns
  have hts := atoms_spec (ws := usX6_agrees) B.pre
  have hown : s.vm.findClass RX6 = some m.cls := findClass_of_methodNamed B.named
  have hlocks := B.notSynchronized
  have hl := lv_entry ([.ref h, .int p0, .ref g, .int p1, .int p2]) (n := 6) (Nat.le_of_ble_eq_true rfl)
  rw [lg_entry_eq]
  generalize (lg_sl ([.ref h, .int p0, .ref g, .int p1, .int p2]) ++ List.replicate (6 - (lg_sl ([.ref h, .int p0, .ref g, .int p1, .int p2])).length) Slot.unset).toArray = ls at hl ⊢
  have hl : lv_has ls 6 [(0, .ref h), (1, .int p0), (2, .ref g), (3, .int p1), (4, .int p2)] := hl
  refine lv_iconst (v := nI 0) hx hb dX6_agrees_0 (by decide) ?_
  refine lv_istore (lv' := [(5, .int (nI 0)), (0, .ref h), (1, .int p0), (2, .ref g), (3, .int p1), (4, .int p2)]) hx hb dX6_agrees_1 hl (by decide) rfl (fun ls hl => ?_)
  refine agrees_loop hx hb hml hown hts hK (by first | exact Nat.le_of_ble_eq_true rfl | omega | (dsimp only [headSpec]; omega) | (simp only [headSpec]; omega) | omega) (by first | exact Nat.le_of_ble_eq_true rfl | omega | (dsimp only [headSpec]; omega) | (simp only [headSpec]; omega) | omega) (by first | exact Nat.le_of_ble_eq_true rfl | omega | (dsimp only [headSpec]; omega) | (simp only [headSpec]; omega) | omega) (by first | exact Nat.le_of_ble_eq_true rfl | omega | (dsimp only [headSpec]; omega) | (simp only [headSpec]; omega) | omega) hP hn hL hn2 hL2 (fun ls => ?_) ?_ (um (nI 0) p2 + 1) (nI 0) ls (by omega) (lv_sub hl [1, 2, 3, 4, 5, 0] rfl)
  · refine lv_iconst (v := nI 0) hx hb dX6_agrees_29 (by decide) ?_
    exact W.zret (v := nI 0) hx hb hr rfl (fun t ht hW => ⟨_, rfl, Or.inl rfl, ht⟩) (fun q hq => by cases hq) dX6_agrees_30
  · intro x5 ls hl
    refine lv_iconst (v := nI 1) hx hb dX6_agrees_37 (by decide) ?_
    exact W.zret (v := nI 1) hx hb hr rfl (fun t ht hW => ⟨_, rfl, Or.inr rfl, ht⟩) (fun q hq => by cases hq) dX6_agrees_38
set_option maxHeartbeats 4000000 in
set_option maxRecDepth 100000 in
theorem copyFrom_loop {p : Program} {l : Launch} {e : Env} {R : Room} {s : State} {m : MethodId} {args : Array Value} {below : List Frame} {meth : Method} {c : Code} {cells slots : Nat} {Q : State → Prop} {dC : Nat → ClassId} {dI : Nat → Nat → Nat} {cI cO : ClassId} {h : Nat} {ca : Nat} {L : Nat} {g : Nat} {cg : Nat} {n2 : Nat} {L2 : Nat} {f2 : Nat → Int32} {A : Nat → Prop} {H0 : Heap} (hx : p.tables.exec = Jvm.exec) (hb : c.code = cX6_copyFrom) (hml : c.maxLocals = 3) (hown : s.vm.findClass RX6 = some m.cls) (hts : ∀ w ∈ usX6_copyFrom, w.before args s = true) (hK : va_K (dC, dI) vwCl (ty0 cI cO) s) (hRf : 1 ≤ R.frames) (hRl : 21 ≤ R.locals) (hRc : cells + 0 ≤ R.cells) (hRs : slots + 0 ≤ R.slots) (hA : ∀ q : Nat, H0.size ≤ q → A q) (hL : L ≤ 100000) (hn2 : n2 ≤ L2) (hL2 : L2 ≤ 100000) (hLn : n2 ≤ L) (kk : ∀ (f3 : Nat → Int32) (H : Heap) (locs : List Loc) (ls : Array Slot), (∀ j, j < n2 → f3 j = f2 j) → va_P (dC, dI) vwCl [(h, .inr (13, [.ref ca, .int (nI n2)])), wa ca cI L f3, (g, .inr (13, [.ref cg, .int (nI n2)])), wa cg cI L2 f2] H → va_D A [(h, .inr (13, [.ref ca, .int (nI n2)])), wa ca cI L f3, (g, .inr (13, [.ref cg, .int (nI n2)])), wa cg cI L2 f2] → va_S A H0 H locs → lv_has ls 3 [(0, .ref h), (1, .ref g)] → W p l e R s m args below meth c H locs cells slots Q (F0 m 29 ls [])) :
    ∀ (k : Nat), ∀ (i : Nat) (f3 : Nat → Int32) (H : Heap) (locs : List Loc) (ls : Array Slot), (n2 < i + k) → (i ≤ n2) → (∀ j, j < i → f3 j = f2 j) → va_P (dC, dI) vwCl [(h, .inr (13, [.ref ca, .int (nI i)])), wa ca cI L f3, (g, .inr (13, [.ref cg, .int (nI n2)])), wa cg cI L2 f2] H → va_D A [(h, .inr (13, [.ref ca, .int (nI i)])), wa ca cI L f3, (g, .inr (13, [.ref cg, .int (nI n2)])), wa cg cI L2 f2] → va_S A H0 H locs → lv_has ls 3 [(0, .ref h), (1, .ref g), (2, .int (nI i))] → W p l e R s m args below meth c H locs cells slots Q (F0 m 6 ls []) := by
  intro k
  induction k with
  | zero => intro i f3 H locs ls hk hi hv hP hD hS hl; omega
  | succ k ih =>
    intro i f3 H locs ls hk hi hv hP hD hS hl
    refine lv_iload_n hx hb dX6_copyFrom_6 rfl (lv_at hl 2 rfl) ?_
    refine lv_aload_n hx hb dX6_copyFrom_7 rfl (lv_at hl 1 rfl) ?_
    refine va_get (D := (dC, dI)) (ci := 13) (v := .int (nI n2)) (C := RX6) (T := TX6) (N := 2) hx hb hts inX6_copyFrom_RX6 hown hK hP 2 rfl rfl 1 (by decide) (hts (.fieldLink RX6 21 "Patchferry$Row" "size" "I") (by decide +kernel)) (fun _ h9 => h9) rfl dX6_copyFrom_8 ?_
    refine lv_icmp_ge (tgt := 29) hx hb dX6_copyFrom_11 (by decide) (fun c_1 => ?_) (fun c_1 => ?_)
    · obtain rfl : i = n2 := by
        rcases Nat.lt_or_ge i n2 with q | q
        · exact absurd c_1 (nI_ge q (by omega))
        · omega
      exact kk f3 H locs ls hv hP hD hS (lv_sub hl [0, 1] rfl)
    · have hlt : i < n2 := by
        rcases Nat.lt_or_ge i n2 with q | q
        · exact q
        · exact absurd (nI_le q (by omega)) c_1
      refine lv_aload_n hx hb dX6_copyFrom_14 rfl (lv_at hl 0 rfl) ?_
      refine lv_aload_n hx hb dX6_copyFrom_15 rfl (lv_at hl 1 rfl) ?_
      refine lv_iload_n hx hb dX6_copyFrom_16 rfl (lv_at hl 2 rfl) ?_
      have hPc : va_P (dC, dI) vwCl [(g, .inr (13, [.ref cg, .int (nI n2)])), wa cg cI L2 f2] _ := hP.sub [2, 3] rfl
      refine uc_i (va_runV (As := [.int (nI i)]) (rest := [.ref h]) ⟨hx, hb, hml, hown, hts⟩ (p_get l dC dI cI cO g cg n2 L2 f2 (nI i) hn2 hL2) (cwV 1 hts ugX6_copyFrom_X6_get rfl rfl rfl (by decide +kernel) ⟨(by first | exact Nat.le_of_ble_eq_true rfl | omega | (dsimp only [headSpec]; omega) | (simp only [headSpec]; omega) | omega), (by first | exact Nat.le_of_ble_eq_true rfl | omega | (dsimp only [headSpec]; omega) | (simp only [headSpec]; omega) | omega)⟩) ⟨fun a U g mk q => by obtain ⟨q0, qP, qK⟩ := q; exact ⟨q0, qP, va_K.moved (u := U) (U := U.calling g mk a) (Vm.Alike.refl U.vm) qK⟩, va_recv hK hPc (ci := 13) (q0 := 0) rfl rfl, fun U hU hW => ⟨rfl, by rw [hU]; exact hPc, va_K.moved hW.alike hK⟩⟩ rfl rfl hl.1 rfl (lv_room (Nat.le_of_ble_eq_true rfl)) dX6_copyFrom_17 ⟨(by first | exact Nat.le_of_ble_eq_true rfl | omega | (dsimp only [headSpec]; omega) | (simp only [headSpec]; omega) | omega), (by first | exact Nat.le_of_ble_eq_true rfl | omega | (dsimp only [headSpec]; omega) | (simp only [headSpec]; omega) | omega)⟩) (fun r1 er1 => ?_)
      have hPc : va_P (dC, dI) vwCl [(h, .inr (13, [.ref ca, .int (nI i)])), wa ca cI L f3] _ := hP.sub [0, 1] rfl
      have hDc : va_D _ [(h, .inr (13, [.ref ca, .int (nI i)])), wa ca cI L f3] := hD.sub [0, 1] (by decide) rfl
      have hFc := va_free (wc := [(h, .inr (13, [.ref ca, .int (nI i)])), wa ca cI L f3]) hD hS hA [0, 1] rfl
      refine va_callv (va_runV (As := [.int r1]) (rest := []) ⟨hx, hb, hml, hown, hts⟩ (c_add l dC dI cI cO H.size h ca i L f3 r1 (by omega) hL) (cwV 1 hts ugX6_copyFrom_X6_add rfl rfl rfl (by decide +kernel) ⟨(by first | exact Nat.le_of_ble_eq_true rfl | omega | (dsimp only [headSpec]; omega) | (simp only [headSpec]; omega) | omega), (by first | exact Nat.le_of_ble_eq_true rfl | omega | (dsimp only [headSpec]; omega) | (simp only [headSpec]; omega) | omega)⟩) ⟨fun a U g mk q => by obtain ⟨q0, q1, qP, qK, qD⟩ := q; exact ⟨q0, q1, qP, va_K.moved (u := U) (U := U.calling g mk a) (Vm.Alike.refl U.vm) qK, qD⟩, va_recv hK hPc (ci := 13) (q0 := 0) rfl rfl, fun U hU hW => ⟨rfl, by rw [hU], by rw [hU]; exact hPc, va_K.moved hW.alike hK, hDc.weaken (fun _ _ _ _ => trivial)⟩⟩ rfl rfl hl.1 rfl (lv_room (Nat.le_of_ble_eq_true rfl)) dX6_copyFrom_20 ⟨(by first | exact Nat.le_of_ble_eq_true rfl | omega | (dsimp only [headSpec]; omega) | (simp only [headSpec]; omega) | omega), (by first | exact Nat.le_of_ble_eq_true rfl | omega | (dsimp only [headSpec]; omega) | (simp only [headSpec]; omega) | omega)⟩) hS (fun q _ h => hFc q h) hFc (fun u t H locs ht hvm hw hB hz1 hk1 hS => ?_)
      obtain ⟨n4, f4, hn4, hf4, hP1, hK1, hD1⟩ := hB
      rw [ht] at hP1
      obtain ⟨hP, hD⟩ := va_join (wr := [(g, .inr (13, [.ref cg, .int (nI n2)])), wa cg cI L2 f2]) (w1 := [(h, .inr (13, [.ref ca, .int (nI n4)])), wa ca cI L f4]) hP hD [0, 1] [2, 3] rfl rfl (by decide) (by decide) hk1 hFc hP1 hD1
      have hP : va_P (dC, dI) vwCl [(g, .inr (13, [.ref cg, .int (nI n2)])), wa cg cI L2 f2, (h, .inr (13, [.ref ca, .int (nI n4)])), wa ca cI L f4] H := hP
      have hD : va_D A [(g, .inr (13, [.ref cg, .int (nI n2)])), wa cg cI L2 f2, (h, .inr (13, [.ref ca, .int (nI n4)])), wa ca cI L f4] := hD
      obtain ⟨rfl, hf5, hf6⟩ := hf4 (by omega)
      refine lv_iinc (v := (nI (i + 1))) (lv' := [(2, .int (nI (i + 1))), (0, .ref h), (1, .ref g)]) hx hb dX6_copyFrom_23 hl (k := 2) rfl (by rw [nI_succ]; rfl) (by decide) rfl (fun ls hl => ?_)
      refine lv_goto (tgt := 6) hx hb dX6_copyFrom_26 (by decide) ?_
      exact ih (i + 1) f4 H locs ls (by omega) (by omega) (fun j hj => (Nat.lt_or_ge j i).elim (fun q => (hf6 j q).trans (hv j q)) (fun q => by have e0 : j = i := (by omega); subst e0; exact hf5.trans (er1.1 j hlt rfl))) (hP.sub [2, 3, 0, 1] rfl) (hD.sub [2, 3, 0, 1] (by decide) rfl) hS (lv_sub hl [1, 2, 0] rfl)
set_option maxHeartbeats 4000000 in
set_option maxRecDepth 100000 in
theorem c_copyFrom (l : Launch) (dC : Nat → ClassId) (dI : Nat → Nat → Nat) (cI cO : ClassId) (sz : Nat) (h : Nat) (ca : Nat) (n : Nat) (L : Nat) (f : Nat → Int32) (g : Nat) (cg : Nat) (n2 : Nat) (L2 : Nat) (f2 : Nat → Int32) (hn : n ≤ L) (hL : L ≤ 100000) (hn2 : n2 ≤ L2) (hL2 : L2 ≤ 100000) (hLn : n2 ≤ L) : Met l yX6_copyFrom usX6_copyFrom ({ frames := 1, cells := 0, slots := 0, locals := 21 }) (va_Pc [.ref h, .ref g] (fun U => U.heap.size = sz ∧ va_P (dC, dI) vwCl [(h, .inr (13, [.ref ca, .int (nI n)])), wa ca cI L f, (g, .inr (13, [.ref cg, .int (nI n2)])), wa cg cI L2 f2] U.heap ∧ va_K (dC, dI) vwCl (ty0 cI cO) U ∧ va_D (fun _ => True) [(h, .inr (13, [.ref ca, .int (nI n)])), wa ca cI L f, (g, .inr (13, [.ref cg, .int (nI n2)])), wa cg cI L2 f2])) (va_Qv (fun _ : Unit => True) (fun _ t => ∃ (f3 : Nat → Int32), (∀ j, j < n2 → f3 j = f2 j) ∧ va_P (dC, dI) vwCl [(h, .inr (13, [.ref ca, .int (nI n2)])), wa ca cI L f3, (g, .inr (13, [.ref cg, .int (nI n2)])), wa cg cI L2 f2] t.heap ∧ va_K (dC, dI) vwCl (ty0 cI cO) t ∧ va_D (va_A [(h, .inr (13, [.ref ca, .int (nI n)])), wa ca cI L f, (g, .inr (13, [.ref cg, .int (nI n2)])), wa cg cI L2 f2] sz) [(h, .inr (13, [.ref ca, .int (nI n2)])), wa ca cI L f3, (g, .inr (13, [.ref cg, .int (nI n2)])), wa cg cI L2 f2]) (va_A [(h, .inr (13, [.ref ca, .int (nI n)])), wa ca cI L f, (g, .inr (13, [.ref cg, .int (nI n2)])), wa cg cI L2 f2] sz)) 0 0 (va_A [(h, .inr (13, [.ref ca, .int (nI n)])), wa ca cI L f, (g, .inr (13, [.ref cg, .int (nI n2)])), wa cg cI L2 f2] sz) := by
  refine Met.ofW (cc := cX6_copyFrom) (maxL := 3) (ret := none) (by decide) rfl ?_
  intro p e s m args below meth c s₁ B hml hv
  obtain ⟨rfl, hsz, hP, hK, hD0⟩ := hv
  have hx := B.exec
  have hb := B.bytes
  have hr := B.returns
  have hts := atoms_spec (ws := usX6_copyFrom) B.pre
  have hown : s.vm.findClass RX6 = some m.cls := findClass_of_methodNamed B.named
  have hlocks := B.notSynchronized
  subst hsz
  have hD := hD0.self (sz := s.heap.size)
  generalize hAe : va_A [(h, .inr (13, [.ref ca, .int (nI n)])), wa ca cI L f, (g, .inr (13, [.ref cg, .int (nI n2)])), wa cg cI L2 f2] s.heap.size = A at hD ⊢
  have hA : ∀ q : Nat, s.heap.size ≤ q → A q := fun q h => by rw [← hAe]; exact Or.inr h
  have hS : va_S A s.heap s.heap [] := va_S.rf
  have hl := lv_entry ([.ref h, .ref g]) (n := 3) (Nat.le_of_ble_eq_true rfl)
  rw [lg_entry_eq]
  generalize (lg_sl ([.ref h, .ref g]) ++ List.replicate (3 - (lg_sl ([.ref h, .ref g])).length) Slot.unset).toArray = ls at hl ⊢
  have hl : lv_has ls 3 [(0, .ref h), (1, .ref g)] := hl
  refine lv_aload_n hx hb dX6_copyFrom_0 rfl (lv_at hl 0 rfl) ?_
  have hPc : va_P (dC, dI) vwCl [(h, .inr (13, [.ref ca, .int (nI n)]))] _ := hP.sub [0] rfl
  have hDc : va_D _ [(h, .inr (13, [.ref ca, .int (nI n)]))] := hD.sub [0] (by decide) rfl
  have hFc := va_free (wc := [(h, .inr (13, [.ref ca, .int (nI n)]))]) hD hS hA [0] rfl
  refine va_callv (va_runV (As := []) (rest := []) ⟨hx, hb, hml, hown, hts⟩ (c_clear l dC dI cI cO s.heap.size h ca (nI n)) (cwV 0 hts ugX6_copyFrom_X6_clear rfl rfl rfl (by decide +kernel) ⟨(by first | exact Nat.le_of_ble_eq_true rfl | omega | (dsimp only [headSpec]; omega) | (simp only [headSpec]; omega) | omega), (by first | exact Nat.le_of_ble_eq_true rfl | omega | (dsimp only [headSpec]; omega) | (simp only [headSpec]; omega) | omega)⟩) ⟨fun a U g mk q => by obtain ⟨q0, q1, qP, qK, qD⟩ := q; exact ⟨q0, q1, qP, va_K.moved (u := U) (U := U.calling g mk a) (Vm.Alike.refl U.vm) qK, qD⟩, va_recv hK hPc (ci := 13) (q0 := 0) rfl rfl, fun U hU hW => ⟨rfl, by rw [hU], by rw [hU]; exact hPc, va_K.moved hW.alike hK, hDc.weaken (fun _ _ _ _ => trivial)⟩⟩ rfl rfl hl.1 rfl (lv_room (Nat.le_of_ble_eq_true rfl)) dX6_copyFrom_1 ⟨(by first | exact Nat.le_of_ble_eq_true rfl | omega | (dsimp only [headSpec]; omega) | (simp only [headSpec]; omega) | omega), (by first | exact Nat.le_of_ble_eq_true rfl | omega | (dsimp only [headSpec]; omega) | (simp only [headSpec]; omega) | omega)⟩) hS (fun q _ h => hFc q h) hFc (fun u t H locs ht hvm hw hB hz1 hk1 hS => ?_)
  obtain ⟨hP1, hK1, hD1⟩ := hB
  rw [ht] at hP1
  obtain ⟨hP, hD⟩ := va_join (wr := [wa ca cI L f, (g, .inr (13, [.ref cg, .int (nI n2)])), wa cg cI L2 f2]) (w1 := [(h, .inr (13, [.ref ca, .int (nI 0)]))]) hP hD [0] [1, 2, 3] rfl rfl (by decide) (by decide) hk1 hFc hP1 hD1
  have hP : va_P (dC, dI) vwCl [wa ca cI L f, (g, .inr (13, [.ref cg, .int (nI n2)])), wa cg cI L2 f2, (h, .inr (13, [.ref ca, .int (nI 0)]))] H := hP
  have hD : va_D A [wa ca cI L f, (g, .inr (13, [.ref cg, .int (nI n2)])), wa cg cI L2 f2, (h, .inr (13, [.ref ca, .int (nI 0)]))] := hD
  refine lv_iconst (v := nI 0) hx hb dX6_copyFrom_4 (by decide) ?_
  refine lv_istore_n (lv' := [(2, .int (nI 0)), (0, .ref h), (1, .ref g)]) hx hb dX6_copyFrom_5 rfl hl (by decide) rfl (fun ls hl => ?_)
  refine copyFrom_loop hx hb hml hown hts hK (by first | exact Nat.le_of_ble_eq_true rfl | omega | (dsimp only [headSpec]; omega) | (simp only [headSpec]; omega) | omega) (by first | exact Nat.le_of_ble_eq_true rfl | omega | (dsimp only [headSpec]; omega) | (simp only [headSpec]; omega) | omega) (by first | exact Nat.le_of_ble_eq_true rfl | omega | (dsimp only [headSpec]; omega) | (simp only [headSpec]; omega) | omega) (by first | exact Nat.le_of_ble_eq_true rfl | omega | (dsimp only [headSpec]; omega) | (simp only [headSpec]; omega) | omega) hA hL hn2 hL2 hLn ?_ (n2 + 1) 0 f H locs ls (by omega) (by omega) (fun j hj => absurd hj (by omega)) (hP.sub [3, 0, 1, 2] rfl) (hD.sub [3, 0, 1, 2] (by decide) rfl) hS (lv_sub hl [1, 2, 0] rfl)
  intro f3 H locs ls hv hP hD hS hl
  have hPe : va_P (dC, dI) vwCl [(h, .inr (13, [.ref ca, .int (nI n2)])), wa ca cI L f3, (g, .inr (13, [.ref cg, .int (nI n2)])), wa cg cI L2 f2] _ := hP.sub [0, 1, 2, 3] rfl
  have hDe : va_D A [(h, .inr (13, [.ref ca, .int (nI n2)])), wa ca cI L f3, (g, .inr (13, [.ref cg, .int (nI n2)])), wa cg cI L2 f2] := hD.sub [0, 1, 2, 3] (by decide) rfl
  refine W.widen (k := 0) (n := 0) (by first | exact Nat.le_of_ble_eq_true rfl | omega | (dsimp only [headSpec]; omega) | (simp only [headSpec]; omega) | omega) (by first | exact Nat.le_of_ble_eq_true rfl | omega | (dsimp only [headSpec]; omega) | (simp only [headSpec]; omega) | omega) ?_
  exact W.vret hx hb hr (fun t ht hW => ⟨⟨(), rfl, trivial, _, hv, by rw [ht]; exact hPe, va_K.moved hW.alike hK, hDe⟩, hS.F ht⟩) hS.2.2 dX6_copyFrom_29
set_option maxHeartbeats 4000000 in
set_option maxRecDepth 100000 in
theorem c_copy (l : Launch) (dC : Nat → ClassId) (dI : Nat → Nat → Nat) (cI cO : ClassId) (sz : Nat) (h : Nat) (ca : Nat) (n : Nat) (L : Nat) (f : Nat → Int32) (hn : n ≤ L) (hL : L ≤ 100000) (hn2 : n ≤ 200) : Met l yX6_copy usX6_copy ({ frames := 2, cells := 2, slots := 202, locals := 43 }) (va_Pc [.ref h] (fun U => U.heap.size = sz ∧ va_P (dC, dI) vwCl [(h, .inr (13, [.ref ca, .int (nI n)])), wa ca cI L f] U.heap ∧ va_K (dC, dI) vwCl (ty0 cI cO) U ∧ va_D (fun _ => True) [(h, .inr (13, [.ref ca, .int (nI n)])), wa ca cI L f])) (va_Qr (fun _ : Unit => True) (fun _ ra t => ∃ (cr : Nat), ∃ (f3 : Nat → Int32), (∀ j, j < n → f3 j = f j) ∧ va_P (dC, dI) vwCl [(h, .inr (13, [.ref ca, .int (nI n)])), wa ca cI L f, (ra, .inr (13, [.ref cr, .int (nI n)])), wa cr cI n f3] t.heap ∧ va_K (dC, dI) vwCl (ty0 cI cO) t ∧ va_D (va_A [(h, .inr (13, [.ref ca, .int (nI n)])), wa ca cI L f] sz) [(h, .inr (13, [.ref ca, .int (nI n)])), wa ca cI L f, (ra, .inr (13, [.ref cr, .int (nI n)])), wa cr cI n f3]) (va_A [(h, .inr (13, [.ref ca, .int (nI n)])), wa ca cI L f] sz)) 2 202 (va_A [(h, .inr (13, [.ref ca, .int (nI n)])), wa ca cI L f] sz) := by
  refine Met.ofW (cc := cX6_copy) (maxL := 2) (ret := (some (.object "Patchferry$Row"))) (by decide) rfl ?_
  intro p e s m args below meth c s₁ B hml hv
  obtain ⟨rfl, hsz, hP, hK, hD0⟩ := hv
  have hx := B.exec
  have hb := B.bytes
  have hr := B.returns
  have hts := atoms_spec (ws := usX6_copy) B.pre
  have hown : s.vm.findClass RX6 = some m.cls := findClass_of_methodNamed B.named
  have hlocks := B.notSynchronized
  subst hsz
  have hD := hD0.self (sz := s.heap.size)
  generalize hAe : va_A [(h, .inr (13, [.ref ca, .int (nI n)])), wa ca cI L f] s.heap.size = A at hD ⊢
  have hA : ∀ q : Nat, s.heap.size ≤ q → A q := fun q h => by rw [← hAe]; exact Or.inr h
  have hS : va_S A s.heap s.heap [] := va_S.rf
  have hl := lv_entry ([.ref h]) (n := 2) (Nat.le_of_ble_eq_true rfl)
  rw [lg_entry_eq]
  generalize (lg_sl ([.ref h]) ++ List.replicate (2 - (lg_sl ([.ref h])).length) Slot.unset).toArray = ls at hl ⊢
  have hl : lv_has ls 2 [(0, .ref h)] := hl
  refine va_new (ci := 13) (fs := [.null, .int (nI 0)]) (C := RX6) (T := TX6) (N := 2) hx hb hts inX6_copy_RX6 tyX6 tyX6_ok hown (hts (.classLink RX6 16 RX6) (by decide +kernel)) (hts (.instantiable RX6 2) (by decide +kernel)) (hts (.initialized RX6) (by decide +kernel)) hK hP hD hS hA rfl (fun j hj => by rcases (show j = 0 ∨ j = 1 by omega) with rfl | rfl <;> rfl) (by first | exact Nat.le_of_ble_eq_true rfl | omega | (dsimp only [headSpec]; omega) | (simp only [headSpec]; omega) | omega) (by first | exact Nat.le_of_ble_eq_true rfl | omega | (dsimp only [headSpec]; omega) | (simp only [headSpec]; omega) | omega) dX6_copy_0 (fun q_1 H hP hD hS => ?_)
  have hP : va_P (dC, dI) vwCl [(h, .inr (13, [.ref ca, .int (nI n)])), wa ca cI L f, (q_1, .inr (13, [.null, .int (nI 0)]))] H := hP
  have hD : va_D A [(h, .inr (13, [.ref ca, .int (nI n)])), wa ca cI L f, (q_1, .inr (13, [.null, .int (nI 0)]))] := hD
  refine W.widen (k := 1) (n := 2) (by first | exact Nat.le_of_ble_eq_true rfl | omega | (dsimp only [headSpec]; omega) | (simp only [headSpec]; omega) | omega) (by first | exact Nat.le_of_ble_eq_true rfl | omega | (dsimp only [headSpec]; omega) | (simp only [headSpec]; omega) | omega) ?_
  refine lv_dup hx hb dX6_copy_3 rfl ?_
  refine lv_aload_n hx hb dX6_copy_4 rfl (lv_at hl 0 rfl) ?_
  refine va_get (D := (dC, dI)) (ci := 13) (v := .int (nI n)) (C := RX6) (T := TX6) (N := 2) hx hb hts inX6_copy_RX6 hown hK hP 0 rfl rfl 1 (by decide) (hts (.fieldLink RX6 21 "Patchferry$Row" "size" "I") (by decide +kernel)) (fun _ h9 => h9) rfl dX6_copy_5 ?_
  have hPc : va_P (dC, dI) vwCl [(q_1, .inr (13, [.null, .int (nI 0)]))] _ := hP.sub [2] rfl
  have hDc : va_D _ [(q_1, .inr (13, [.null, .int (nI 0)]))] := hD.sub [2] (by decide) rfl
  have hFc := va_free (wc := [(q_1, .inr (13, [.null, .int (nI 0)]))]) hD hS hA [2] rfl
  refine va_callv (va_runI (As := [.int (nI n)]) (rest := [.ref q_1]) ⟨hx, hb, hml, hown, hts⟩ (c_rowinit l dC dI cI cO H.size q_1 n (by omega)) (cwI 1 hts ugX6_copy_X6_init rfl rfl rfl (hts (.initialized RX6) (by decide +kernel)) (hts (.methodLink RX6 28 yX6_init) (by decide +kernel)) (hts (.instanceMethod yX6_init) (by decide +kernel)) rfl (by decide +kernel) ⟨(by first | exact Nat.le_of_ble_eq_true rfl | omega | (dsimp only [headSpec]; omega) | (simp only [headSpec]; omega) | omega), (by first | exact Nat.le_of_ble_eq_true rfl | omega | (dsimp only [headSpec]; omega) | (simp only [headSpec]; omega) | omega)⟩) ⟨fun a U g mk q => by obtain ⟨q0, q1, qP, qK, qD⟩ := q; exact ⟨q0, q1, qP, va_K.moved (u := U) (U := U.calling g mk a) (Vm.Alike.refl U.vm) qK, qD⟩, fun U hU hW => ⟨rfl, by rw [hU], by rw [hU]; exact hPc, va_K.moved hW.alike hK, hDc.weaken (fun _ _ _ _ => trivial)⟩⟩ rfl rfl hl.1 rfl (lv_room (Nat.le_of_ble_eq_true rfl)) dX6_copy_8 ⟨(by first | exact Nat.le_of_ble_eq_true rfl | omega | (dsimp only [headSpec]; omega) | (simp only [headSpec]; omega) | omega), (by first | exact Nat.le_of_ble_eq_true rfl | omega | (dsimp only [headSpec]; omega) | (simp only [headSpec]; omega) | omega)⟩) hS (fun q _ h => hFc q h) hFc (fun u t H locs ht hvm hw hB hz1 hk1 hS => ?_)
  obtain ⟨cr, hP1, hK1, hD1⟩ := hB
  rw [ht] at hP1
  obtain ⟨hP, hD⟩ := va_join (wr := [(h, .inr (13, [.ref ca, .int (nI n)])), wa ca cI L f]) (w1 := [(q_1, .inr (13, [.ref cr, .int (nI 0)])), wa cr cI n (fun _ => 0)]) hP hD [2] [0, 1] rfl rfl (by decide) (by decide) hk1 hFc hP1 hD1
  have hP : va_P (dC, dI) vwCl [(h, .inr (13, [.ref ca, .int (nI n)])), wa ca cI L f, (q_1, .inr (13, [.ref cr, .int (nI 0)])), wa cr cI n (fun _ => 0)] H := hP
  have hD : va_D A [(h, .inr (13, [.ref ca, .int (nI n)])), wa ca cI L f, (q_1, .inr (13, [.ref cr, .int (nI 0)])), wa cr cI n (fun _ => 0)] := hD
  refine W.widen (k := 2) (n := 2 + n) (by first | exact Nat.le_of_ble_eq_true rfl | omega | (dsimp only [headSpec]; omega) | (simp only [headSpec]; omega) | omega) (by first | exact Nat.le_of_ble_eq_true rfl | omega | (dsimp only [headSpec]; omega) | (simp only [headSpec]; omega) | omega) ?_
  refine lv_astore_n (lv' := [(1, .ref q_1), (0, .ref h)]) hx hb dX6_copy_11 rfl hl (by decide) rfl (fun ls hl => ?_)
  refine lv_aload_n hx hb dX6_copy_12 rfl (lv_at hl 0 rfl) ?_
  refine lv_aload_n hx hb dX6_copy_13 rfl (lv_at hl 1 rfl) ?_
  have hPc : va_P (dC, dI) vwCl [(q_1, .inr (13, [.ref cr, .int (nI 0)])), wa cr cI n (fun _ => 0), (h, .inr (13, [.ref ca, .int (nI n)])), wa ca cI L f] _ := hP.sub [2, 3, 0, 1] rfl
  have hDc : va_D _ [(q_1, .inr (13, [.ref cr, .int (nI 0)])), wa cr cI n (fun _ => 0), (h, .inr (13, [.ref ca, .int (nI n)])), wa ca cI L f] := hD.sub [2, 3, 0, 1] (by decide) rfl
  have hFc := va_free (wc := [(q_1, .inr (13, [.ref cr, .int (nI 0)])), wa cr cI n (fun _ => 0), (h, .inr (13, [.ref ca, .int (nI n)])), wa ca cI L f]) hD hS hA [2, 3, 0, 1] rfl
  refine va_callv (va_runV (As := [.ref h]) (rest := []) ⟨hx, hb, hml, hown, hts⟩ (c_copyFrom l dC dI cI cO H.size q_1 cr 0 n (fun _ => 0) h ca n L f (by omega) (by omega) hn hL (Nat.le_refl n)) (cwV 1 hts ugX6_copy_X6_copyFrom rfl rfl rfl (by decide +kernel) ⟨(by first | exact Nat.le_of_ble_eq_true rfl | omega | (dsimp only [headSpec]; omega) | (simp only [headSpec]; omega) | omega), (by first | exact Nat.le_of_ble_eq_true rfl | omega | (dsimp only [headSpec]; omega) | (simp only [headSpec]; omega) | omega)⟩) ⟨fun a U g mk q => by obtain ⟨q0, q1, qP, qK, qD⟩ := q; exact ⟨q0, q1, qP, va_K.moved (u := U) (U := U.calling g mk a) (Vm.Alike.refl U.vm) qK, qD⟩, va_recv hK hPc (ci := 13) (q0 := 0) rfl rfl, fun U hU hW => ⟨rfl, by rw [hU], by rw [hU]; exact hPc, va_K.moved hW.alike hK, hDc.weaken (fun _ _ _ _ => trivial)⟩⟩ rfl rfl hl.1 rfl (lv_room (Nat.le_of_ble_eq_true rfl)) dX6_copy_14 ⟨(by first | exact Nat.le_of_ble_eq_true rfl | omega | (dsimp only [headSpec]; omega) | (simp only [headSpec]; omega) | omega), (by first | exact Nat.le_of_ble_eq_true rfl | omega | (dsimp only [headSpec]; omega) | (simp only [headSpec]; omega) | omega)⟩) hS (fun q _ h => hFc q h) hFc (fun u t H locs ht hvm hw hB hz1 hk1 hS => ?_)
  obtain ⟨f3, hf3, hP1, hK1, hD1⟩ := hB
  rw [ht] at hP1
  obtain ⟨hP, hD⟩ := va_join (wr := []) (w1 := [(q_1, .inr (13, [.ref cr, .int (nI n)])), wa cr cI n f3, (h, .inr (13, [.ref ca, .int (nI n)])), wa ca cI L f]) hP hD [2, 3, 0, 1] [] rfl rfl (by decide) (by decide) hk1 hFc hP1 hD1
  have hP : va_P (dC, dI) vwCl [(q_1, .inr (13, [.ref cr, .int (nI n)])), wa cr cI n f3, (h, .inr (13, [.ref ca, .int (nI n)])), wa ca cI L f] H := hP
  have hD : va_D A [(q_1, .inr (13, [.ref cr, .int (nI n)])), wa cr cI n f3, (h, .inr (13, [.ref ca, .int (nI n)])), wa ca cI L f] := hD
  refine lv_aload_n hx hb dX6_copy_17 rfl (lv_at hl 0 rfl) ?_
  have hPe : va_P (dC, dI) vwCl [(h, .inr (13, [.ref ca, .int (nI n)])), wa ca cI L f, (q_1, .inr (13, [.ref cr, .int (nI n)])), wa cr cI n f3] _ := hP.sub [2, 3, 0, 1] rfl
  have hDe : va_D A [(h, .inr (13, [.ref ca, .int (nI n)])), wa ca cI L f, (q_1, .inr (13, [.ref cr, .int (nI n)])), wa cr cI n f3] := hD.sub [2, 3, 0, 1] (by decide) rfl
  refine W.widen (k := 2) (n := 202) (by first | exact Nat.le_of_ble_eq_true rfl | omega | (dsimp only [headSpec]; omega) | (simp only [headSpec]; omega) | omega) (by first | exact Nat.le_of_ble_eq_true rfl | omega | (dsimp only [headSpec]; omega) | (simp only [headSpec]; omega) | omega) ?_
  exact W.aret (v := .ref q_1) hx hb hr (Or.inl ⟨_, rfl⟩) (Or.inr ⟨_, rfl⟩) (fun t ht hW => ⟨⟨(), _, rfl, trivial, _, _, hf3, by rw [ht]; exact hPe, va_K.moved hW.alike hK, hDe⟩, hS.F ht⟩) hS.2.2 dX6_copy_18
end
