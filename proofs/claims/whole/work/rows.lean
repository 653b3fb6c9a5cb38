section
-- ===== PART A: goes FIRST, ahead of the names: the tables' words, and 'selects' of the private methods out of them =====
/-- a private method of a class that the tables say can be made, by its rows of tables_1 -/
def lw_okq (q : MethodName × Nat) : Prop := (q.1.cls ≠ "java/lang/invoke/MethodHandle" ∧ q.1.cls ≠ "java/lang/invoke/VarHandle") ∧ Cond.instantiable q.1.cls q.2 ∈ tables_1 ∧ Cond.privateMethod q.1 ∈ tables_1 ∧ Cond.instanceMethod q.1 ∈ tables_1
theorem lw_p0 : lw_okq (⟨"java/lang/Throwable", "fillInStackTrace", "(I)Ljava/lang/Throwable;"⟩, 6) := ⟨⟨by decide +kernel, by decide +kernel⟩, List.mem_of_getElem? (i := 558) (by decide +kernel), List.mem_of_getElem? (i := 556) (by decide +kernel), List.mem_of_getElem? (i := 557) (by decide +kernel)⟩
theorem lw_p1 : lw_okq (⟨"Patchferry", "comesBackLabelled", "(LPatchferry$Row;)Z"⟩, 19) := ⟨⟨by decide +kernel, by decide +kernel⟩, List.mem_of_getElem? (i := 46) (by decide +kernel), List.mem_of_getElem? (i := 925) (by decide +kernel), List.mem_of_getElem? (i := 926) (by decide +kernel)⟩
theorem lw_p2 : lw_okq (⟨"Patchferry", "writeLabelled", "(LPatchferry$Row;LPatchferry$Row;)Z"⟩, 19) := ⟨⟨by decide +kernel, by decide +kernel⟩, List.mem_of_getElem? (i := 46) (by decide +kernel), List.mem_of_getElem? (i := 929) (by decide +kernel), List.mem_of_getElem? (i := 930) (by decide +kernel)⟩
theorem lw_p3 : lw_okq (⟨"Patchferry", "comesBackPacked", "(LPatchferry$Row;)Z"⟩, 19) := ⟨⟨by decide +kernel, by decide +kernel⟩, List.mem_of_getElem? (i := 46) (by decide +kernel), List.mem_of_getElem? (i := 968) (by decide +kernel), List.mem_of_getElem? (i := 969) (by decide +kernel)⟩
theorem lw_p4 : lw_okq (⟨"Patchferry$Runs", "foldPart", "(IIZLPatchferry$Row;)V"⟩, 2) := ⟨⟨by decide +kernel, by decide +kernel⟩, List.mem_of_getElem? (i := 133) (by decide +kernel), List.mem_of_getElem? (i := 1010) (by decide +kernel), List.mem_of_getElem? (i := 1011) (by decide +kernel)⟩
theorem lw_p5 : lw_okq (⟨"Patchferry", "versionsStand", "()Z"⟩, 19) := ⟨⟨by decide +kernel, by decide +kernel⟩, List.mem_of_getElem? (i := 46) (by decide +kernel), List.mem_of_getElem? (i := 1026) (by decide +kernel), List.mem_of_getElem? (i := 1027) (by decide +kernel)⟩
theorem lw_p6 : lw_okq (⟨"Patchferry$Patch", "restart", "(LPatchferry$Row;)V"⟩, 4) := ⟨⟨by decide +kernel, by decide +kernel⟩, List.mem_of_getElem? (i := 190) (by decide +kernel), List.mem_of_getElem? (i := 1044) (by decide +kernel), List.mem_of_getElem? (i := 1045) (by decide +kernel)⟩
theorem lw_p7 : lw_okq (⟨"Patchferry$Patch", "addOperation", "(II)V"⟩, 4) := ⟨⟨by decide +kernel, by decide +kernel⟩, List.mem_of_getElem? (i := 190) (by decide +kernel), List.mem_of_getElem? (i := 1090) (by decide +kernel), List.mem_of_getElem? (i := 1091) (by decide +kernel)⟩
theorem lw_p8 : lw_okq (⟨"Patchferry$Store", "cutOf", "(I)LPatchferry$Row;"⟩, 14) := ⟨⟨by decide +kernel, by decide +kernel⟩, List.mem_of_getElem? (i := 232) (by decide +kernel), List.mem_of_getElem? (i := 1125) (by decide +kernel), List.mem_of_getElem? (i := 1126) (by decide +kernel)⟩
theorem lw_p9 : lw_okq (⟨"Patchferry$Store", "countPieces", "(LPatchferry$Row;)V"⟩, 14) := ⟨⟨by decide +kernel, by decide +kernel⟩, List.mem_of_getElem? (i := 232) (by decide +kernel), List.mem_of_getElem? (i := 1130) (by decide +kernel), List.mem_of_getElem? (i := 1131) (by decide +kernel)⟩
theorem lw_p10 : lw_okq (⟨"Patchferry", "diskStands", "()Z"⟩, 19) := ⟨⟨by decide +kernel, by decide +kernel⟩, List.mem_of_getElem? (i := 46) (by decide +kernel), List.mem_of_getElem? (i := 1134) (by decide +kernel), List.mem_of_getElem? (i := 1135) (by decide +kernel)⟩
theorem lw_p11 : lw_okq (⟨"Patchferry", "needByte", "(I)V"⟩, 19) := ⟨⟨by decide +kernel, by decide +kernel⟩, List.mem_of_getElem? (i := 46) (by decide +kernel), List.mem_of_getElem? (i := 1160) (by decide +kernel), List.mem_of_getElem? (i := 1161) (by decide +kernel)⟩
theorem lw_p12 : lw_okq (⟨"Patchferry", "needBuffer", "(I)V"⟩, 19) := ⟨⟨by decide +kernel, by decide +kernel⟩, List.mem_of_getElem? (i := 46) (by decide +kernel), List.mem_of_getElem? (i := 1167) (by decide +kernel), List.mem_of_getElem? (i := 1168) (by decide +kernel)⟩
theorem lw_p13 : lw_okq (⟨"Patchferry", "needMany", "(I)V"⟩, 19) := ⟨⟨by decide +kernel, by decide +kernel⟩, List.mem_of_getElem? (i := 46) (by decide +kernel), List.mem_of_getElem? (i := 1195) (by decide +kernel), List.mem_of_getElem? (i := 1196) (by decide +kernel)⟩
theorem lw_p14 : lw_okq (⟨"Patchferry", "held", "(I)LPatchferry$Row;"⟩, 19) := ⟨⟨by decide +kernel, by decide +kernel⟩, List.mem_of_getElem? (i := 46) (by decide +kernel), List.mem_of_getElem? (i := 1208) (by decide +kernel), List.mem_of_getElem? (i := 1209) (by decide +kernel)⟩
theorem lw_p15 : lw_okq (⟨"Patchferry", "keep", "(LPatchferry$Row;)I"⟩, 19) := ⟨⟨by decide +kernel, by decide +kernel⟩, List.mem_of_getElem? (i := 46) (by decide +kernel), List.mem_of_getElem? (i := 1234) (by decide +kernel), List.mem_of_getElem? (i := 1235) (by decide +kernel)⟩
def lw_privs_1 : List (MethodName × Nat) := [(⟨"java/lang/Throwable", "fillInStackTrace", "(I)Ljava/lang/Throwable;"⟩, 6), (⟨"Patchferry", "comesBackLabelled", "(LPatchferry$Row;)Z"⟩, 19), (⟨"Patchferry", "writeLabelled", "(LPatchferry$Row;LPatchferry$Row;)Z"⟩, 19), (⟨"Patchferry", "comesBackPacked", "(LPatchferry$Row;)Z"⟩, 19), (⟨"Patchferry$Runs", "foldPart", "(IIZLPatchferry$Row;)V"⟩, 2), (⟨"Patchferry", "versionsStand", "()Z"⟩, 19), (⟨"Patchferry$Patch", "restart", "(LPatchferry$Row;)V"⟩, 4), (⟨"Patchferry$Patch", "addOperation", "(II)V"⟩, 4), (⟨"Patchferry$Store", "cutOf", "(I)LPatchferry$Row;"⟩, 14), (⟨"Patchferry$Store", "countPieces", "(LPatchferry$Row;)V"⟩, 14), (⟨"Patchferry", "diskStands", "()Z"⟩, 19), (⟨"Patchferry", "needByte", "(I)V"⟩, 19), (⟨"Patchferry", "needBuffer", "(I)V"⟩, 19), (⟨"Patchferry", "needMany", "(I)V"⟩, 19), (⟨"Patchferry", "held", "(I)LPatchferry$Row;"⟩, 19), (⟨"Patchferry", "keep", "(LPatchferry$Row;)I"⟩, 19)]
theorem lw_r1 : ∀ q ∈ lw_privs_1, lw_okq q := List.forall_mem_cons.mpr ⟨lw_p0, List.forall_mem_cons.mpr ⟨lw_p1, List.forall_mem_cons.mpr ⟨lw_p2, List.forall_mem_cons.mpr ⟨lw_p3, List.forall_mem_cons.mpr ⟨lw_p4, List.forall_mem_cons.mpr ⟨lw_p5, List.forall_mem_cons.mpr ⟨lw_p6, List.forall_mem_cons.mpr ⟨lw_p7, List.forall_mem_cons.mpr ⟨lw_p8, List.forall_mem_cons.mpr ⟨lw_p9, List.forall_mem_cons.mpr ⟨lw_p10, List.forall_mem_cons.mpr ⟨lw_p11, List.forall_mem_cons.mpr ⟨lw_p12, List.forall_mem_cons.mpr ⟨lw_p13, List.forall_mem_cons.mpr ⟨lw_p14, List.forall_mem_cons.mpr ⟨lw_p15, fun _ h => absurd h List.not_mem_nil⟩⟩⟩⟩⟩⟩⟩⟩⟩⟩⟩⟩⟩⟩⟩⟩
theorem lw_p16 : lw_okq (⟨"Patchferry", "needFileRoom", "(I)V"⟩, 19) := ⟨⟨by decide +kernel, by decide +kernel⟩, List.mem_of_getElem? (i := 46) (by decide +kernel), List.mem_of_getElem? (i := 1238) (by decide +kernel), List.mem_of_getElem? (i := 1239) (by decide +kernel)⟩
theorem lw_p17 : lw_okq (⟨"java/util/ArrayList", "add", "(Ljava/lang/Object;[Ljava/lang/Object;I)V"⟩, 3) := ⟨⟨by decide +kernel, by decide +kernel⟩, List.mem_of_getElem? (i := 54) (by decide +kernel), List.mem_of_getElem? (i := 1259) (by decide +kernel), List.mem_of_getElem? (i := 1260) (by decide +kernel)⟩
theorem lw_p18 : lw_okq (⟨"java/util/ArrayList", "grow", "()[Ljava/lang/Object;"⟩, 3) := ⟨⟨by decide +kernel, by decide +kernel⟩, List.mem_of_getElem? (i := 54) (by decide +kernel), List.mem_of_getElem? (i := 1263) (by decide +kernel), List.mem_of_getElem? (i := 1264) (by decide +kernel)⟩
theorem lw_p19 : lw_okq (⟨"java/util/ArrayList", "grow", "(I)[Ljava/lang/Object;"⟩, 3) := ⟨⟨by decide +kernel, by decide +kernel⟩, List.mem_of_getElem? (i := 54) (by decide +kernel), List.mem_of_getElem? (i := 1267) (by decide +kernel), List.mem_of_getElem? (i := 1268) (by decide +kernel)⟩
theorem lw_p20 : lw_okq (⟨"Patchferry$Store", "isCut", "(LPatchferry$Row;II)Z"⟩, 14) := ⟨⟨by decide +kernel, by decide +kernel⟩, List.mem_of_getElem? (i := 232) (by decide +kernel), List.mem_of_getElem? (i := 1322) (by decide +kernel), List.mem_of_getElem? (i := 1323) (by decide +kernel)⟩
theorem lw_p21 : lw_okq (⟨"Patchferry$Store", "numberOf", "(LPatchferry$Row;III)I"⟩, 14) := ⟨⟨by decide +kernel, by decide +kernel⟩, List.mem_of_getElem? (i := 232) (by decide +kernel), List.mem_of_getElem? (i := 1326) (by decide +kernel), List.mem_of_getElem? (i := 1327) (by decide +kernel)⟩
theorem lw_p22 : lw_okq (⟨"Patchferry$Store", "textOf", "(I)LPatchferry$Row;"⟩, 14) := ⟨⟨by decide +kernel, by decide +kernel⟩, List.mem_of_getElem? (i := 232) (by decide +kernel), List.mem_of_getElem? (i := 1335) (by decide +kernel), List.mem_of_getElem? (i := 1336) (by decide +kernel)⟩
theorem lw_p23 : lw_okq (⟨"Patchferry", "needIndex", "(II)V"⟩, 19) := ⟨⟨by decide +kernel, by decide +kernel⟩, List.mem_of_getElem? (i := 46) (by decide +kernel), List.mem_of_getElem? (i := 1355) (by decide +kernel), List.mem_of_getElem? (i := 1356) (by decide +kernel)⟩
theorem lw_p24 : lw_okq (⟨"Patchferry", "rankEnds", "(LPatchferry$Row;LPatchferry$Row;)V"⟩, 19) := ⟨⟨by decide +kernel, by decide +kernel⟩, List.mem_of_getElem? (i := 46) (by decide +kernel), List.mem_of_getElem? (i := 1404) (by decide +kernel), List.mem_of_getElem? (i := 1405) (by decide +kernel)⟩
theorem lw_p25 : lw_okq (⟨"Patchferry", "seekMatch", "(III)V"⟩, 19) := ⟨⟨by decide +kernel, by decide +kernel⟩, List.mem_of_getElem? (i := 46) (by decide +kernel), List.mem_of_getElem? (i := 1416) (by decide +kernel), List.mem_of_getElem? (i := 1417) (by decide +kernel)⟩
theorem lw_p26 : lw_okq (⟨"Patchferry", "needPatchRoom", "()V"⟩, 19) := ⟨⟨by decide +kernel, by decide +kernel⟩, List.mem_of_getElem? (i := 46) (by decide +kernel), List.mem_of_getElem? (i := 1461) (by decide +kernel), List.mem_of_getElem? (i := 1462) (by decide +kernel)⟩
theorem lw_p27 : lw_okq (⟨"Patchferry", "keepPatch", "(LPatchferry$Patch;)I"⟩, 19) := ⟨⟨by decide +kernel, by decide +kernel⟩, List.mem_of_getElem? (i := 46) (by decide +kernel), List.mem_of_getElem? (i := 1466) (by decide +kernel), List.mem_of_getElem? (i := 1467) (by decide +kernel)⟩
theorem lw_p28 : lw_okq (⟨"Patchferry", "known", "(I)LPatchferry$Patch;"⟩, 19) := ⟨⟨by decide +kernel, by decide +kernel⟩, List.mem_of_getElem? (i := 46) (by decide +kernel), List.mem_of_getElem? (i := 1477) (by decide +kernel), List.mem_of_getElem? (i := 1478) (by decide +kernel)⟩
theorem lw_p29 : lw_okq (⟨"Patchferry$Patch", "changedIn", "(II)I"⟩, 4) := ⟨⟨by decide +kernel, by decide +kernel⟩, List.mem_of_getElem? (i := 190) (by decide +kernel), List.mem_of_getElem? (i := 1518) (by decide +kernel), List.mem_of_getElem? (i := 1519) (by decide +kernel)⟩
theorem lw_p30 : lw_okq (⟨"Patchferry$Patch", "joinCopy", "(LPatchferry$Patch;LPatchferry$Patch;III)V"⟩, 4) := ⟨⟨by decide +kernel, by decide +kernel⟩, List.mem_of_getElem? (i := 190) (by decide +kernel), List.mem_of_getElem? (i := 1582) (by decide +kernel), List.mem_of_getElem? (i := 1583) (by decide +kernel)⟩
theorem lw_p31 : lw_okq (⟨"Patchferry$Edits", "closeGap", "(III)V"⟩, 4) := ⟨⟨by decide +kernel, by decide +kernel⟩, List.mem_of_getElem? (i := 211) (by decide +kernel), List.mem_of_getElem? (i := 1606) (by decide +kernel), List.mem_of_getElem? (i := 1607) (by decide +kernel)⟩
def lw_privs_2 : List (MethodName × Nat) := [(⟨"Patchferry", "needFileRoom", "(I)V"⟩, 19), (⟨"java/util/ArrayList", "add", "(Ljava/lang/Object;[Ljava/lang/Object;I)V"⟩, 3), (⟨"java/util/ArrayList", "grow", "()[Ljava/lang/Object;"⟩, 3), (⟨"java/util/ArrayList", "grow", "(I)[Ljava/lang/Object;"⟩, 3), (⟨"Patchferry$Store", "isCut", "(LPatchferry$Row;II)Z"⟩, 14), (⟨"Patchferry$Store", "numberOf", "(LPatchferry$Row;III)I"⟩, 14), (⟨"Patchferry$Store", "textOf", "(I)LPatchferry$Row;"⟩, 14), (⟨"Patchferry", "needIndex", "(II)V"⟩, 19), (⟨"Patchferry", "rankEnds", "(LPatchferry$Row;LPatchferry$Row;)V"⟩, 19), (⟨"Patchferry", "seekMatch", "(III)V"⟩, 19), (⟨"Patchferry", "needPatchRoom", "()V"⟩, 19), (⟨"Patchferry", "keepPatch", "(LPatchferry$Patch;)I"⟩, 19), (⟨"Patchferry", "known", "(I)LPatchferry$Patch;"⟩, 19), (⟨"Patchferry$Patch", "changedIn", "(II)I"⟩, 4), (⟨"Patchferry$Patch", "joinCopy", "(LPatchferry$Patch;LPatchferry$Patch;III)V"⟩, 4), (⟨"Patchferry$Edits", "closeGap", "(III)V"⟩, 4)]
theorem lw_r2 : ∀ q ∈ lw_privs_2, lw_okq q := List.forall_mem_cons.mpr ⟨lw_p16, List.forall_mem_cons.mpr ⟨lw_p17, List.forall_mem_cons.mpr ⟨lw_p18, List.forall_mem_cons.mpr ⟨lw_p19, List.forall_mem_cons.mpr ⟨lw_p20, List.forall_mem_cons.mpr ⟨lw_p21, List.forall_mem_cons.mpr ⟨lw_p22, List.forall_mem_cons.mpr ⟨lw_p23, List.forall_mem_cons.mpr ⟨lw_p24, List.forall_mem_cons.mpr ⟨lw_p25, List.forall_mem_cons.mpr ⟨lw_p26, List.forall_mem_cons.mpr ⟨lw_p27, List.forall_mem_cons.mpr ⟨lw_p28, List.forall_mem_cons.mpr ⟨lw_p29, List.forall_mem_cons.mpr ⟨lw_p30, List.forall_mem_cons.mpr ⟨lw_p31, fun _ h => absurd h List.not_mem_nil⟩⟩⟩⟩⟩⟩⟩⟩⟩⟩⟩⟩⟩⟩⟩⟩
theorem lw_p32 : lw_okq (⟨"Patchferry$Edits", "enter", "(III)V"⟩, 4) := ⟨⟨by decide +kernel, by decide +kernel⟩, List.mem_of_getElem? (i := 211) (by decide +kernel), List.mem_of_getElem? (i := 1611) (by decide +kernel), List.mem_of_getElem? (i := 1612) (by decide +kernel)⟩
theorem lw_p33 : lw_okq (⟨"Patchferry$Edits", "readChanged", "(LPatchferry$Patch;III)V"⟩, 4) := ⟨⟨by decide +kernel, by decide +kernel⟩, List.mem_of_getElem? (i := 211) (by decide +kernel), List.mem_of_getElem? (i := 1615) (by decide +kernel), List.mem_of_getElem? (i := 1616) (by decide +kernel)⟩
theorem lw_p34 : lw_okq (⟨"Patchferry$Edits", "isLike", "(ILPatchferry$Edits;I)Z"⟩, 4) := ⟨⟨by decide +kernel, by decide +kernel⟩, List.mem_of_getElem? (i := 211) (by decide +kernel), List.mem_of_getElem? (i := 1628) (by decide +kernel), List.mem_of_getElem? (i := 1629) (by decide +kernel)⟩
theorem lw_p35 : lw_okq (⟨"Patchferry$Edits", "valuesEnd", "(I)I"⟩, 4) := ⟨⟨by decide +kernel, by decide +kernel⟩, List.mem_of_getElem? (i := 211) (by decide +kernel), List.mem_of_getElem? (i := 1632) (by decide +kernel), List.mem_of_getElem? (i := 1633) (by decide +kernel)⟩
theorem lw_p36 : lw_okq (⟨"Patchferry$Edits", "writeEdit", "(ILPatchferry$Row;ILPatchferry$Row;)I"⟩, 4) := ⟨⟨by decide +kernel, by decide +kernel⟩, List.mem_of_getElem? (i := 211) (by decide +kernel), List.mem_of_getElem? (i := 1642) (by decide +kernel), List.mem_of_getElem? (i := 1643) (by decide +kernel)⟩
theorem lw_p37 : lw_okq (⟨"Patchferry$Edits", "writePart", "(LPatchferry$Row;IILPatchferry$Row;)V"⟩, 4) := ⟨⟨by decide +kernel, by decide +kernel⟩, List.mem_of_getElem? (i := 211) (by decide +kernel), List.mem_of_getElem? (i := 1646) (by decide +kernel), List.mem_of_getElem? (i := 1647) (by decide +kernel)⟩
theorem lw_p38 : lw_okq (⟨"Patchferry", "needFile", "(I)V"⟩, 19) := ⟨⟨by decide +kernel, by decide +kernel⟩, List.mem_of_getElem? (i := 46) (by decide +kernel), List.mem_of_getElem? (i := 1665) (by decide +kernel), List.mem_of_getElem? (i := 1666) (by decide +kernel)⟩
theorem lw_p39 : lw_okq (⟨"Patchferry$Store", "forgetPieces", "(LPatchferry$Row;)V"⟩, 14) := ⟨⟨by decide +kernel, by decide +kernel⟩, List.mem_of_getElem? (i := 232) (by decide +kernel), List.mem_of_getElem? (i := 1720) (by decide +kernel), List.mem_of_getElem? (i := 1721) (by decide +kernel)⟩
theorem lw_p40 : lw_okq (⟨"Patchferry$Store", "fillGrid", "()V"⟩, 14) := ⟨⟨by decide +kernel, by decide +kernel⟩, List.mem_of_getElem? (i := 232) (by decide +kernel), List.mem_of_getElem? (i := 1747) (by decide +kernel), List.mem_of_getElem? (i := 1748) (by decide +kernel)⟩
theorem lw_p41 : lw_okq (⟨"Patchferry$Store", "bestPair", "()I"⟩, 14) := ⟨⟨by decide +kernel, by decide +kernel⟩, List.mem_of_getElem? (i := 232) (by decide +kernel), List.mem_of_getElem? (i := 1752) (by decide +kernel), List.mem_of_getElem? (i := 1753) (by decide +kernel)⟩
theorem lw_p42 : lw_okq (⟨"Patchferry$Store", "takePair", "(II)V"⟩, 14) := ⟨⟨by decide +kernel, by decide +kernel⟩, List.mem_of_getElem? (i := 232) (by decide +kernel), List.mem_of_getElem? (i := 1756) (by decide +kernel), List.mem_of_getElem? (i := 1757) (by decide +kernel)⟩
theorem lw_p43 : lw_okq (⟨"Patchferry", "scanBlocks", "(III)V"⟩, 19) := ⟨⟨by decide +kernel, by decide +kernel⟩, List.mem_of_getElem? (i := 46) (by decide +kernel), List.mem_of_getElem? (i := 1768) (by decide +kernel), List.mem_of_getElem? (i := 1769) (by decide +kernel)⟩
theorem lw_p44 : lw_okq (⟨"Patchferry$Blocks", "isBlock", "(LPatchferry$Row;II)Z"⟩, 5) := ⟨⟨by decide +kernel, by decide +kernel⟩, List.mem_of_getElem? (i := 285) (by decide +kernel), List.mem_of_getElem? (i := 1786) (by decide +kernel), List.mem_of_getElem? (i := 1787) (by decide +kernel)⟩
theorem lw_p45 : lw_okq (⟨"Patchferry", "findMode", "(LPatchferry$Row;)I"⟩, 19) := ⟨⟨by decide +kernel, by decide +kernel⟩, List.mem_of_getElem? (i := 46) (by decide +kernel), List.mem_of_getElem? (i := 1880) (by decide +kernel), List.mem_of_getElem? (i := 1881) (by decide +kernel)⟩
theorem lw_p46 : lw_okq (⟨"Patchferry$Disk", "findBegins", "()V"⟩, 12) := ⟨⟨by decide +kernel, by decide +kernel⟩, List.mem_of_getElem? (i := 326) (by decide +kernel), List.mem_of_getElem? (i := 1934) (by decide +kernel), List.mem_of_getElem? (i := 1935) (by decide +kernel)⟩
theorem lw_p47 : lw_okq (⟨"Patchferry$Disk", "findNeeds", "()V"⟩, 12) := ⟨⟨by decide +kernel, by decide +kernel⟩, List.mem_of_getElem? (i := 326) (by decide +kernel), List.mem_of_getElem? (i := 1941) (by decide +kernel), List.mem_of_getElem? (i := 1942) (by decide +kernel)⟩
def lw_privs_3 : List (MethodName × Nat) := [(⟨"Patchferry$Edits", "enter", "(III)V"⟩, 4), (⟨"Patchferry$Edits", "readChanged", "(LPatchferry$Patch;III)V"⟩, 4), (⟨"Patchferry$Edits", "isLike", "(ILPatchferry$Edits;I)Z"⟩, 4), (⟨"Patchferry$Edits", "valuesEnd", "(I)I"⟩, 4), (⟨"Patchferry$Edits", "writeEdit", "(ILPatchferry$Row;ILPatchferry$Row;)I"⟩, 4), (⟨"Patchferry$Edits", "writePart", "(LPatchferry$Row;IILPatchferry$Row;)V"⟩, 4), (⟨"Patchferry", "needFile", "(I)V"⟩, 19), (⟨"Patchferry$Store", "forgetPieces", "(LPatchferry$Row;)V"⟩, 14), (⟨"Patchferry$Store", "fillGrid", "()V"⟩, 14), (⟨"Patchferry$Store", "bestPair", "()I"⟩, 14), (⟨"Patchferry$Store", "takePair", "(II)V"⟩, 14), (⟨"Patchferry", "scanBlocks", "(III)V"⟩, 19), (⟨"Patchferry$Blocks", "isBlock", "(LPatchferry$Row;II)Z"⟩, 5), (⟨"Patchferry", "findMode", "(LPatchferry$Row;)I"⟩, 19), (⟨"Patchferry$Disk", "findBegins", "()V"⟩, 12), (⟨"Patchferry$Disk", "findNeeds", "()V"⟩, 12)]
theorem lw_r3 : ∀ q ∈ lw_privs_3, lw_okq q := List.forall_mem_cons.mpr ⟨lw_p32, List.forall_mem_cons.mpr ⟨lw_p33, List.forall_mem_cons.mpr ⟨lw_p34, List.forall_mem_cons.mpr ⟨lw_p35, List.forall_mem_cons.mpr ⟨lw_p36, List.forall_mem_cons.mpr ⟨lw_p37, List.forall_mem_cons.mpr ⟨lw_p38, List.forall_mem_cons.mpr ⟨lw_p39, List.forall_mem_cons.mpr ⟨lw_p40, List.forall_mem_cons.mpr ⟨lw_p41, List.forall_mem_cons.mpr ⟨lw_p42, List.forall_mem_cons.mpr ⟨lw_p43, List.forall_mem_cons.mpr ⟨lw_p44, List.forall_mem_cons.mpr ⟨lw_p45, List.forall_mem_cons.mpr ⟨lw_p46, List.forall_mem_cons.mpr ⟨lw_p47, fun _ h => absurd h List.not_mem_nil⟩⟩⟩⟩⟩⟩⟩⟩⟩⟩⟩⟩⟩⟩⟩⟩
theorem lw_p48 : lw_okq (⟨"Patchferry$Disk", "choose", "()V"⟩, 12) := ⟨⟨by decide +kernel, by decide +kernel⟩, List.mem_of_getElem? (i := 326) (by decide +kernel), List.mem_of_getElem? (i := 1947) (by decide +kernel), List.mem_of_getElem? (i := 1948) (by decide +kernel)⟩
theorem lw_p49 : lw_okq (⟨"Patchferry$Disk", "bytesOf", "(I)I"⟩, 12) := ⟨⟨by decide +kernel, by decide +kernel⟩, List.mem_of_getElem? (i := 326) (by decide +kernel), List.mem_of_getElem? (i := 1952) (by decide +kernel), List.mem_of_getElem? (i := 1953) (by decide +kernel)⟩
theorem lw_p50 : lw_okq (⟨"Patchferry$Disk", "arrange", "(I)Z"⟩, 12) := ⟨⟨by decide +kernel, by decide +kernel⟩, List.mem_of_getElem? (i := 326) (by decide +kernel), List.mem_of_getElem? (i := 1956) (by decide +kernel), List.mem_of_getElem? (i := 1957) (by decide +kernel)⟩
theorem lw_p51 : lw_okq (⟨"Patchferry$Disk", "lowestReady", "(II)I"⟩, 12) := ⟨⟨by decide +kernel, by decide +kernel⟩, List.mem_of_getElem? (i := 326) (by decide +kernel), List.mem_of_getElem? (i := 1960) (by decide +kernel), List.mem_of_getElem? (i := 1961) (by decide +kernel)⟩
theorem lw_p52 : lw_okq (⟨"Patchferry$Disk", "saveAhead", "()V"⟩, 12) := ⟨⟨by decide +kernel, by decide +kernel⟩, List.mem_of_getElem? (i := 326) (by decide +kernel), List.mem_of_getElem? (i := 1964) (by decide +kernel), List.mem_of_getElem? (i := 1965) (by decide +kernel)⟩
theorem lw_p53 : lw_okq (⟨"Patchferry$Disk", "isSaved", "(I)Z"⟩, 12) := ⟨⟨by decide +kernel, by decide +kernel⟩, List.mem_of_getElem? (i := 326) (by decide +kernel), List.mem_of_getElem? (i := 1973) (by decide +kernel), List.mem_of_getElem? (i := 1974) (by decide +kernel)⟩
theorem lw_p54 : lw_okq (⟨"Patchferry$Disk", "write", "(I)V"⟩, 12) := ⟨⟨by decide +kernel, by decide +kernel⟩, List.mem_of_getElem? (i := 326) (by decide +kernel), List.mem_of_getElem? (i := 1983) (by decide +kernel), List.mem_of_getElem? (i := 1984) (by decide +kernel)⟩
theorem lw_p55 : lw_okq (⟨"Patchferry$Versions", "takeGreatestGain", "()I"⟩, 6) := ⟨⟨by decide +kernel, by decide +kernel⟩, List.mem_of_getElem? (i := 373) (by decide +kernel), List.mem_of_getElem? (i := 2142) (by decide +kernel), List.mem_of_getElem? (i := 2143) (by decide +kernel)⟩
theorem lw_p56 : lw_okq (⟨"Patchferry$Tree", "readLeaves", "(LPatchferry$Row;)V"⟩, 1) := ⟨⟨by decide +kernel, by decide +kernel⟩, List.mem_of_getElem? (i := 402) (by decide +kernel), List.mem_of_getElem? (i := 2157) (by decide +kernel), List.mem_of_getElem? (i := 2158) (by decide +kernel)⟩
theorem lw_p57 : lw_okq (⟨"Patchferry$Tree", "leafSum", "(LPatchferry$Row;I)I"⟩, 1) := ⟨⟨by decide +kernel, by decide +kernel⟩, List.mem_of_getElem? (i := 402) (by decide +kernel), List.mem_of_getElem? (i := 2168) (by decide +kernel), List.mem_of_getElem? (i := 2169) (by decide +kernel)⟩
theorem lw_p58 : lw_okq (⟨"Patchferry$Tree", "climb", "()I"⟩, 1) := ⟨⟨by decide +kernel, by decide +kernel⟩, List.mem_of_getElem? (i := 402) (by decide +kernel), List.mem_of_getElem? (i := 2175) (by decide +kernel), List.mem_of_getElem? (i := 2176) (by decide +kernel)⟩
theorem lw_p59 : lw_okq (⟨"Patchferry", "needAsManyLeaves", "(LPatchferry$Row;LPatchferry$Row;)V"⟩, 19) := ⟨⟨by decide +kernel, by decide +kernel⟩, List.mem_of_getElem? (i := 46) (by decide +kernel), List.mem_of_getElem? (i := 2190) (by decide +kernel), List.mem_of_getElem? (i := 2191) (by decide +kernel)⟩
theorem lw_p60 : lw_okq (⟨"PatchferryModel", "fails", "(I)Z"⟩, 23) := ⟨⟨by decide +kernel, by decide +kernel⟩, List.mem_of_getElem? (i := 2232) (by decide +kernel), List.mem_of_getElem? (i := 2323) (by decide +kernel), List.mem_of_getElem? (i := 2324) (by decide +kernel)⟩
theorem lw_p61 : lw_okq (⟨"PatchferryModel", "put", "([I)I"⟩, 23) := ⟨⟨by decide +kernel, by decide +kernel⟩, List.mem_of_getElem? (i := 2232) (by decide +kernel), List.mem_of_getElem? (i := 2327) (by decide +kernel), List.mem_of_getElem? (i := 2328) (by decide +kernel)⟩
theorem lw_p62 : lw_okq (⟨"PatchferryModel", "failsFile", "(I)Z"⟩, 23) := ⟨⟨by decide +kernel, by decide +kernel⟩, List.mem_of_getElem? (i := 2232) (by decide +kernel), List.mem_of_getElem? (i := 2342) (by decide +kernel), List.mem_of_getElem? (i := 2343) (by decide +kernel)⟩
theorem lw_p63 : lw_okq (⟨"PatchferryModel", "isFile", "(I)Z"⟩, 23) := ⟨⟨by decide +kernel, by decide +kernel⟩, List.mem_of_getElem? (i := 2232) (by decide +kernel), List.mem_of_getElem? (i := 2346) (by decide +kernel), List.mem_of_getElem? (i := 2347) (by decide +kernel)⟩
def lw_privs_4 : List (MethodName × Nat) := [(⟨"Patchferry$Disk", "choose", "()V"⟩, 12), (⟨"Patchferry$Disk", "bytesOf", "(I)I"⟩, 12), (⟨"Patchferry$Disk", "arrange", "(I)Z"⟩, 12), (⟨"Patchferry$Disk", "lowestReady", "(II)I"⟩, 12), (⟨"Patchferry$Disk", "saveAhead", "()V"⟩, 12), (⟨"Patchferry$Disk", "isSaved", "(I)Z"⟩, 12), (⟨"Patchferry$Disk", "write", "(I)V"⟩, 12), (⟨"Patchferry$Versions", "takeGreatestGain", "()I"⟩, 6), (⟨"Patchferry$Tree", "readLeaves", "(LPatchferry$Row;)V"⟩, 1), (⟨"Patchferry$Tree", "leafSum", "(LPatchferry$Row;I)I"⟩, 1), (⟨"Patchferry$Tree", "climb", "()I"⟩, 1), (⟨"Patchferry", "needAsManyLeaves", "(LPatchferry$Row;LPatchferry$Row;)V"⟩, 19), (⟨"PatchferryModel", "fails", "(I)Z"⟩, 23), (⟨"PatchferryModel", "put", "([I)I"⟩, 23), (⟨"PatchferryModel", "failsFile", "(I)Z"⟩, 23), (⟨"PatchferryModel", "isFile", "(I)Z"⟩, 23)]
theorem lw_r4 : ∀ q ∈ lw_privs_4, lw_okq q := List.forall_mem_cons.mpr ⟨lw_p48, List.forall_mem_cons.mpr ⟨lw_p49, List.forall_mem_cons.mpr ⟨lw_p50, List.forall_mem_cons.mpr ⟨lw_p51, List.forall_mem_cons.mpr ⟨lw_p52, List.forall_mem_cons.mpr ⟨lw_p53, List.forall_mem_cons.mpr ⟨lw_p54, List.forall_mem_cons.mpr ⟨lw_p55, List.forall_mem_cons.mpr ⟨lw_p56, List.forall_mem_cons.mpr ⟨lw_p57, List.forall_mem_cons.mpr ⟨lw_p58, List.forall_mem_cons.mpr ⟨lw_p59, List.forall_mem_cons.mpr ⟨lw_p60, List.forall_mem_cons.mpr ⟨lw_p61, List.forall_mem_cons.mpr ⟨lw_p62, List.forall_mem_cons.mpr ⟨lw_p63, fun _ h => absurd h List.not_mem_nil⟩⟩⟩⟩⟩⟩⟩⟩⟩⟩⟩⟩⟩⟩⟩⟩
theorem lw_p64 : lw_okq (⟨"PatchferryModel", "keep", "([I)I"⟩, 23) := ⟨⟨by decide +kernel, by decide +kernel⟩, List.mem_of_getElem? (i := 2232) (by decide +kernel), List.mem_of_getElem? (i := 2360) (by decide +kernel), List.mem_of_getElem? (i := 2361) (by decide +kernel)⟩
theorem lw_p65 : lw_okq (⟨"PatchferryModel", "failsFiles", "(II)Z"⟩, 23) := ⟨⟨by decide +kernel, by decide +kernel⟩, List.mem_of_getElem? (i := 2232) (by decide +kernel), List.mem_of_getElem? (i := 2377) (by decide +kernel), List.mem_of_getElem? (i := 2378) (by decide +kernel)⟩
theorem lw_p66 : lw_okq (⟨"PatchferryModel", "failsPlace", "(III)Z"⟩, 23) := ⟨⟨by decide +kernel, by decide +kernel⟩, List.mem_of_getElem? (i := 2232) (by decide +kernel), List.mem_of_getElem? (i := 2414) (by decide +kernel), List.mem_of_getElem? (i := 2415) (by decide +kernel)⟩
theorem lw_p67 : lw_okq (⟨"PatchferryModel", "keep", "(LPatchferryModel$Patch;)I"⟩, 23) := ⟨⟨by decide +kernel, by decide +kernel⟩, List.mem_of_getElem? (i := 2232) (by decide +kernel), List.mem_of_getElem? (i := 2478) (by decide +kernel), List.mem_of_getElem? (i := 2479) (by decide +kernel)⟩
theorem lw_p68 : lw_okq (⟨"PatchferryModel", "failsPatch", "(I)Z"⟩, 23) := ⟨⟨by decide +kernel, by decide +kernel⟩, List.mem_of_getElem? (i := 2232) (by decide +kernel), List.mem_of_getElem? (i := 2486) (by decide +kernel), List.mem_of_getElem? (i := 2487) (by decide +kernel)⟩
theorem lw_p69 : lw_okq (⟨"PatchferryModel", "isPatch", "(I)Z"⟩, 23) := ⟨⟨by decide +kernel, by decide +kernel⟩, List.mem_of_getElem? (i := 2232) (by decide +kernel), List.mem_of_getElem? (i := 2490) (by decide +kernel), List.mem_of_getElem? (i := 2491) (by decide +kernel)⟩
theorem lw_p70 : lw_okq (⟨"PatchferryModel", "failsStep", "(II)Z"⟩, 23) := ⟨⟨by decide +kernel, by decide +kernel⟩, List.mem_of_getElem? (i := 2232) (by decide +kernel), List.mem_of_getElem? (i := 2498) (by decide +kernel), List.mem_of_getElem? (i := 2499) (by decide +kernel)⟩
theorem lw_p71 : lw_okq (⟨"PatchferryModel", "failsMade", "([II)Z"⟩, 23) := ⟨⟨by decide +kernel, by decide +kernel⟩, List.mem_of_getElem? (i := 2232) (by decide +kernel), List.mem_of_getElem? (i := 2626) (by decide +kernel), List.mem_of_getElem? (i := 2627) (by decide +kernel)⟩
theorem lw_p72 : lw_okq (⟨"PatchferryModel", "failsPatches", "(II)Z"⟩, 23) := ⟨⟨by decide +kernel, by decide +kernel⟩, List.mem_of_getElem? (i := 2232) (by decide +kernel), List.mem_of_getElem? (i := 2634) (by decide +kernel), List.mem_of_getElem? (i := 2635) (by decide +kernel)⟩
theorem lw_p73 : lw_okq (⟨"java/util/ArrayList", "rangeCheckForAdd", "(I)V"⟩, 3) := ⟨⟨by decide +kernel, by decide +kernel⟩, List.mem_of_getElem? (i := 54) (by decide +kernel), List.mem_of_getElem? (i := 2714) (by decide +kernel), List.mem_of_getElem? (i := 2715) (by decide +kernel)⟩
theorem lw_p74 : lw_okq (⟨"java/util/ArrayList", "outOfBoundsMsg", "(I)Ljava/lang/String;"⟩, 3) := ⟨⟨by decide +kernel, by decide +kernel⟩, List.mem_of_getElem? (i := 54) (by decide +kernel), List.mem_of_getElem? (i := 2719) (by decide +kernel), List.mem_of_getElem? (i := 2720) (by decide +kernel)⟩
theorem lw_p75 : lw_okq (⟨"java/util/ArrayList", "fastRemove", "([Ljava/lang/Object;I)V"⟩, 3) := ⟨⟨by decide +kernel, by decide +kernel⟩, List.mem_of_getElem? (i := 54) (by decide +kernel), List.mem_of_getElem? (i := 2795) (by decide +kernel), List.mem_of_getElem? (i := 2796) (by decide +kernel)⟩
theorem lw_p76 : lw_okq (⟨"PatchferryModel", "failsLook", "(III)Z"⟩, 23) := ⟨⟨by decide +kernel, by decide +kernel⟩, List.mem_of_getElem? (i := 2232) (by decide +kernel), List.mem_of_getElem? (i := 2822) (by decide +kernel), List.mem_of_getElem? (i := 2823) (by decide +kernel)⟩
theorem lw_p77 : lw_okq (⟨"PatchferryModel", "look", "([I[II)V"⟩, 23) := ⟨⟨by decide +kernel, by decide +kernel⟩, List.mem_of_getElem? (i := 2232) (by decide +kernel), List.mem_of_getElem? (i := 2826) (by decide +kernel), List.mem_of_getElem? (i := 2827) (by decide +kernel)⟩
theorem lw_p78 : lw_okq (⟨"PatchferryModel", "wireOf", "(II)I"⟩, 23) := ⟨⟨by decide +kernel, by decide +kernel⟩, List.mem_of_getElem? (i := 2232) (by decide +kernel), List.mem_of_getElem? (i := 2846) (by decide +kernel), List.mem_of_getElem? (i := 2847) (by decide +kernel)⟩
theorem lw_p79 : lw_okq (⟨"PatchferryModel", "isHalf", "()Z"⟩, 23) := ⟨⟨by decide +kernel, by decide +kernel⟩, List.mem_of_getElem? (i := 2232) (by decide +kernel), List.mem_of_getElem? (i := 2965) (by decide +kernel), List.mem_of_getElem? (i := 2966) (by decide +kernel)⟩
def lw_privs_5 : List (MethodName × Nat) := [(⟨"PatchferryModel", "keep", "([I)I"⟩, 23), (⟨"PatchferryModel", "failsFiles", "(II)Z"⟩, 23), (⟨"PatchferryModel", "failsPlace", "(III)Z"⟩, 23), (⟨"PatchferryModel", "keep", "(LPatchferryModel$Patch;)I"⟩, 23), (⟨"PatchferryModel", "failsPatch", "(I)Z"⟩, 23), (⟨"PatchferryModel", "isPatch", "(I)Z"⟩, 23), (⟨"PatchferryModel", "failsStep", "(II)Z"⟩, 23), (⟨"PatchferryModel", "failsMade", "([II)Z"⟩, 23), (⟨"PatchferryModel", "failsPatches", "(II)Z"⟩, 23), (⟨"java/util/ArrayList", "rangeCheckForAdd", "(I)V"⟩, 3), (⟨"java/util/ArrayList", "outOfBoundsMsg", "(I)Ljava/lang/String;"⟩, 3), (⟨"java/util/ArrayList", "fastRemove", "([Ljava/lang/Object;I)V"⟩, 3), (⟨"PatchferryModel", "failsLook", "(III)Z"⟩, 23), (⟨"PatchferryModel", "look", "([I[II)V"⟩, 23), (⟨"PatchferryModel", "wireOf", "(II)I"⟩, 23), (⟨"PatchferryModel", "isHalf", "()Z"⟩, 23)]
theorem lw_r5 : ∀ q ∈ lw_privs_5, lw_okq q := List.forall_mem_cons.mpr ⟨lw_p64, List.forall_mem_cons.mpr ⟨lw_p65, List.forall_mem_cons.mpr ⟨lw_p66, List.forall_mem_cons.mpr ⟨lw_p67, List.forall_mem_cons.mpr ⟨lw_p68, List.forall_mem_cons.mpr ⟨lw_p69, List.forall_mem_cons.mpr ⟨lw_p70, List.forall_mem_cons.mpr ⟨lw_p71, List.forall_mem_cons.mpr ⟨lw_p72, List.forall_mem_cons.mpr ⟨lw_p73, List.forall_mem_cons.mpr ⟨lw_p74, List.forall_mem_cons.mpr ⟨lw_p75, List.forall_mem_cons.mpr ⟨lw_p76, List.forall_mem_cons.mpr ⟨lw_p77, List.forall_mem_cons.mpr ⟨lw_p78, List.forall_mem_cons.mpr ⟨lw_p79, fun _ h => absurd h List.not_mem_nil⟩⟩⟩⟩⟩⟩⟩⟩⟩⟩⟩⟩⟩⟩⟩⟩
theorem lw_p80 : lw_okq (⟨"PatchferryModel", "goAhead", "()I"⟩, 23) := ⟨⟨by decide +kernel, by decide +kernel⟩, List.mem_of_getElem? (i := 2232) (by decide +kernel), List.mem_of_getElem? (i := 2988) (by decide +kernel), List.mem_of_getElem? (i := 2989) (by decide +kernel)⟩
theorem lw_p81 : lw_okq (⟨"PatchferryModel", "isVersion", "(I)Z"⟩, 23) := ⟨⟨by decide +kernel, by decide +kernel⟩, List.mem_of_getElem? (i := 2232) (by decide +kernel), List.mem_of_getElem? (i := 3029) (by decide +kernel), List.mem_of_getElem? (i := 3030) (by decide +kernel)⟩
theorem lw_p82 : lw_okq (⟨"PatchferryModel", "bytesAt", "(I)[I"⟩, 23) := ⟨⟨by decide +kernel, by decide +kernel⟩, List.mem_of_getElem? (i := 2232) (by decide +kernel), List.mem_of_getElem? (i := 3037) (by decide +kernel), List.mem_of_getElem? (i := 3038) (by decide +kernel)⟩
theorem lw_p83 : lw_okq (⟨"PatchferryModel", "cost", "(II)I"⟩, 23) := ⟨⟨by decide +kernel, by decide +kernel⟩, List.mem_of_getElem? (i := 2232) (by decide +kernel), List.mem_of_getElem? (i := 3041) (by decide +kernel), List.mem_of_getElem? (i := 3042) (by decide +kernel)⟩
theorem lw_p84 : lw_okq (⟨"PatchferryModel", "failsMirror", "(II)Z"⟩, 23) := ⟨⟨by decide +kernel, by decide +kernel⟩, List.mem_of_getElem? (i := 2232) (by decide +kernel), List.mem_of_getElem? (i := 3082) (by decide +kernel), List.mem_of_getElem? (i := 3083) (by decide +kernel)⟩
theorem lw_p85 : lw_okq (⟨"PatchferryModel", "isProved", "(III)Z"⟩, 23) := ⟨⟨by decide +kernel, by decide +kernel⟩, List.mem_of_getElem? (i := 2232) (by decide +kernel), List.mem_of_getElem? (i := 3086) (by decide +kernel), List.mem_of_getElem? (i := 3087) (by decide +kernel)⟩
def lw_privs_6 : List (MethodName × Nat) := [(⟨"PatchferryModel", "goAhead", "()I"⟩, 23), (⟨"PatchferryModel", "isVersion", "(I)Z"⟩, 23), (⟨"PatchferryModel", "bytesAt", "(I)[I"⟩, 23), (⟨"PatchferryModel", "cost", "(II)I"⟩, 23), (⟨"PatchferryModel", "failsMirror", "(II)Z"⟩, 23), (⟨"PatchferryModel", "isProved", "(III)Z"⟩, 23)]
theorem lw_r6 : ∀ q ∈ lw_privs_6, lw_okq q := List.forall_mem_cons.mpr ⟨lw_p80, List.forall_mem_cons.mpr ⟨lw_p81, List.forall_mem_cons.mpr ⟨lw_p82, List.forall_mem_cons.mpr ⟨lw_p83, List.forall_mem_cons.mpr ⟨lw_p84, List.forall_mem_cons.mpr ⟨lw_p85, fun _ h => absurd h List.not_mem_nil⟩⟩⟩⟩⟩⟩
def lw_privs : List (MethodName × Nat) := lw_privs_1 ++ (lw_privs_2 ++ (lw_privs_3 ++ (lw_privs_4 ++ (lw_privs_5 ++ (lw_privs_6)))))
def lw_tbl : List Cond := k2_sels lw_privs ++ tables_1
theorem lw_privs_ok : ∀ q ∈ lw_privs, lw_okq q := by
  show ∀ q ∈ lw_privs_1 ++ (lw_privs_2 ++ (lw_privs_3 ++ (lw_privs_4 ++ (lw_privs_5 ++ (lw_privs_6))))), lw_okq q
  exact List.forall_mem_append.mpr ⟨lw_r1, List.forall_mem_append.mpr ⟨lw_r2, List.forall_mem_append.mpr ⟨lw_r3, List.forall_mem_append.mpr ⟨lw_r4, List.forall_mem_append.mpr ⟨lw_r5, lw_r6⟩⟩⟩⟩⟩
/-- the streams that the claim lets the run draw from -/
abbrev lw_cs : List Choice := [Jvm.Choice.named "NaN.bits"]
theorem lw_bits : nanBits ∈ lw_cs := by first | decide | exact List.mem_cons_self | simp [lw_cs, nanBits]
-- ===== end of PART A; then your names; then what follows =====
end
section
/-! WORLDS AS BAGS: a world's cells in any order, and a join behind a call in which the rest may be any list -/
theorem uv_P {D : va_G} {cl : List vw_C} {ws : va_W} {H : Heap} : va_P D cl ws H ↔ ∀ q ∈ ws, va_at D cl q H := by
  constructor
  · intro h q hq
    obtain ⟨k, hk⟩ := List.getElem?_of_mem hq
    exact h k q hk
  · intro h k q hk
    exact h q (List.mem_of_getElem? hk)
theorem uv_D {A : Nat → Prop} {ws : va_W} : va_D A ws ↔ (ws.map Prod.fst).Nodup ∧ ∀ q ∈ ws, A q.1 := by
  constructor
  · intro h
    refine ⟨?_, fun q hq => ?_⟩
    · rw [List.Nodup, List.pairwise_iff_getElem]
      intro i j hi hj hij
      rw [List.length_map] at hi hj
      rw [List.getElem_map, List.getElem_map]
      intro e
      have := h.1 i j ws[i] ws[j] (List.getElem?_eq_getElem hi) (List.getElem?_eq_getElem hj) e
      omega
    · obtain ⟨k, hk⟩ := List.getElem?_of_mem hq
      exact h.2 k q hk
  · intro h
    refine ⟨fun i j p q hp hq e => ?_, fun k q hk => h.2 q (List.mem_of_getElem? hk)⟩
    obtain ⟨hi, rfl⟩ := List.getElem?_eq_some_iff.mp hp
    obtain ⟨hj, rfl⟩ := List.getElem?_eq_some_iff.mp hq
    have h1 := h.1
    rw [List.Nodup, List.pairwise_iff_getElem] at h1
    rcases Nat.lt_trichotomy i j with g | g | g
    · have := h1 i j (by rw [List.length_map]; exact hi) (by rw [List.length_map]; exact hj) g
      rw [List.getElem_map, List.getElem_map] at this
      exact absurd e this
    · exact g
    · have := h1 j i (by rw [List.length_map]; exact hj) (by rw [List.length_map]; exact hi) g
      rw [List.getElem_map, List.getElem_map] at this
      exact absurd e.symm this
theorem uv_Pp {D : va_G} {cl : List vw_C} {ws ws' : va_W} {H : Heap} (hp : ws.Perm ws') (h : va_P D cl ws H) : va_P D cl ws' H := uv_P.mpr fun q hq => uv_P.mp h q (hp.mem_iff.mpr hq)
theorem uv_Dp {A : Nat → Prop} {ws ws' : va_W} (hp : ws.Perm ws') (h : va_D A ws) : va_D A ws' := by
  obtain ⟨h1, h2⟩ := uv_D.mp h
  exact uv_D.mpr ⟨(hp.map Prod.fst).nodup_iff.mp h1, fun q hq => h2 q (hp.mem_iff.mpr hq)⟩
theorem uv_Ps {D : va_G} {cl : List vw_C} {ws ws' : va_W} {H : Heap} (hs : ws'.Sublist ws) (h : va_P D cl ws H) : va_P D cl ws' H := uv_P.mpr fun q hq => uv_P.mp h q (hs.subset hq)
theorem uv_Ds {A : Nat → Prop} {ws ws' : va_W} (hs : ws'.Sublist ws) (h : va_D A ws) : va_D A ws' := by
  obtain ⟨h1, h2⟩ := uv_D.mp h
  exact uv_D.mpr ⟨h1.sublist (hs.map Prod.fst), fun q hq => h2 q (hs.subset hq)⟩
/-- the callee's cells and new ones are ours to change -/
theorem uv_free {A0 : Nat → Prop} {ws wc wr : va_W} {H0 H : Heap} {locs : List Loc} (hD : va_D A0 ws) (hS : va_S A0 H0 H locs) (hA : ∀ q, H0.size ≤ q → A0 q) (hp : ws.Perm (wc ++ wr)) : ∀ q, va_A wc H.size q → A0 q := by
  intro q h
  rcases h with ⟨k, e, h⟩ | h
  · exact (uv_D.mp hD).2 (q, e) (hp.mem_iff.mpr (List.mem_append_left _ (List.mem_of_getElem? h)))
  · exact hA q (Nat.le_trans hS.1 h)
theorem uv_join {A0 : Nat → Prop} {D : va_G} {cl : List vw_C} {ws wc wr w1 : va_W} {H H1 : Heap} (hP : va_P D cl ws H) (hD : va_D A0 ws) (hp : ws.Perm (wc ++ wr))
    (hk : ∀ q : Nat, q < H.size → ¬ va_A wc H.size q → H1[q]? = H[q]?) (hF : ∀ q, va_A wc H.size q → A0 q) (hP1 : va_P D cl w1 H1) (hD1 : va_D (va_A wc H.size) w1) : va_P D cl (w1 ++ wr) H1 ∧ va_D A0 (w1 ++ wr) := by
  have hP2 := uv_P.mp (uv_Pp hp hP)
  obtain ⟨hN, hI⟩ := uv_D.mp (uv_Dp hp hD)
  obtain ⟨hN1, hI1⟩ := uv_D.mp hD1
  rw [List.map_append, List.nodup_append] at hN
  have apart : ∀ q ∈ wr, q.1 < H.size ∧ ¬ va_A wc H.size q.1 := by
    intro q hq
    have hl := (hP2 q (List.mem_append_right _ hq)).lt
    refine ⟨hl, fun h => ?_⟩
    rcases h with ⟨k, e, h⟩ | h
    · exact hN.2.2 q.1 (List.mem_map.mpr ⟨(q.1, e), List.mem_of_getElem? h, rfl⟩) q.1 (List.mem_map.mpr ⟨q, hq, rfl⟩) rfl
    · omega
  refine ⟨uv_P.mpr fun q hq => ?_, uv_D.mpr ⟨?_, fun q hq => ?_⟩⟩
  · rcases List.mem_append.mp hq with h | h
    · exact uv_P.mp hP1 q h
    · obtain ⟨g1, g2⟩ := apart q h
      exact (hP2 q (List.mem_append_right _ h)).kept (hk q.1 g1 g2)
  · rw [List.map_append, List.nodup_append]
    refine ⟨hN1, hN.2.1, fun x hx y hy e => ?_⟩
    obtain ⟨q, hq, rfl⟩ := List.mem_map.mp hx
    obtain ⟨q2, hq2, rfl⟩ := List.mem_map.mp hy
    exact (apart q2 hq2).2 (by rw [← e]; exact hI1 q hq)
  · rcases List.mem_append.mp hq with h | h
    · exact hF q.1 (hI1 q h)
    · exact hI q (List.mem_append_right _ h)
end
section
/-! names of classes, from the print of the task; small rows of our own -/
def RX0 : String := "Patchferry$Blocks"
def RX1 : String := "Patchferry$Differ"
def RX2 : String := "Patchferry$Disk"
def RX3 : String := "Patchferry$Edits"
def RX4 : String := "Patchferry$Patch"
def RX5 : String := "Patchferry$Program"
def RX6 : String := "Patchferry$Row"
def RX7 : String := "Patchferry$Runs"
def RX8 : String := "Patchferry$Store"
def RX9 : String := "Patchferry$Tree"
def RX10 : String := "Patchferry$Versions"
def RX11 : String := "Patchferry"
def RX12 : String := "PatchferryModel$Edit"
def RX13 : String := "PatchferryModel$Patch"
def RX14 : String := "PatchferryModel$Step"
def RX15 : String := "PatchferryModel"
def RJx145de : String := "java/io/Serializable"
def RJ5 : String := "java/lang/AbstractStringBuilder"
def RJx2cfe8 : String := "java/lang/Appendable"
def RJx00060 : String := "java/lang/ArrayIndexOutOfBoundsException"
def RJx9f9b0 : String := "java/lang/CharSequence"
def RJx8e188 : String := "java/lang/Cloneable"
def RJxb160c : String := "java/lang/Comparable"
def RJxabbfe : String := "java/lang/Integer$IntegerCache"
def RJ6 : String := "java/lang/Integer"
def RJxab1ab : String := "java/lang/Iterable"
def RJ9 : String := "java/lang/Math"
def RJxd2413 : String := "java/lang/Number"
def RJ0 : String := "java/lang/String"
def RJ4 : String := "java/lang/StringBuilder"
def RJx7c733 : String := "java/lang/StringIndexOutOfBoundsException"
def RJ1 : String := "java/lang/StringLatin1"
def RJ2 : String := "java/lang/StringUTF16"
def RJ10 : String := "java/lang/System"
def RJxfd54e : String := "java/lang/constant/Constable"
def RJx3cf43 : String := "java/lang/constant/ConstantDesc"
def RJxa1e45 : String := "java/util/AbstractCollection"
def RJxc12de : String := "java/util/AbstractList"
def RJx35411 : String := "java/util/ArrayList$Itr"
def RJx4a65c : String := "java/util/ArrayList"
def RJ7 : String := "java/util/Arrays"
def RJx5ef63 : String := "java/util/Collection"
def RJx4d0d8 : String := "java/util/Iterator"
def RJxbd725 : String := "java/util/List"
def RJ15 : String := "java/util/Objects"
def RJxf0a74 : String := "java/util/RandomAccess"
def RJxa66e6 : String := "java/util/SequencedCollection"
def RJ8 : String := "jdk/internal/util/ArraysSupport"
def RJ3 : String := "jdk/internal/util/Preconditions"
def RL : String := "PatchferryLaw"
abbrev cX0_init : ByteArray := prog_2_method_1_code
def yX0_init : MethodName := ⟨RX0, "<init>", "()V"⟩
abbrev cX0_scan : ByteArray := prog_2_method_2_code
def yX0_scan : MethodName := ⟨RX0, "scan", "(LPatchferry$Row;LPatchferry$Row;I)V"⟩
abbrev cX0_isBlock : ByteArray := prog_2_method_3_code
def yX0_isBlock : MethodName := ⟨RX0, "isBlock", "(LPatchferry$Row;II)Z"⟩
abbrev cX0_sent : ByteArray := prog_2_method_4_code
def yX0_sent : MethodName := ⟨RX0, "sent", "()I"⟩
abbrev cX1_init : ByteArray := prog_3_method_1_code
def yX1_init : MethodName := ⟨RX1, "<init>", "()V"⟩
abbrev cX1_begin : ByteArray := prog_3_method_2_code
def yX1_begin : MethodName := ⟨RX1, "begin", "(LPatchferry$Row;LPatchferry$Row;)V"⟩
abbrev cX1_beginInside : ByteArray := prog_3_method_3_code
def yX1_beginInside : MethodName := ⟨RX1, "beginInside", "(LPatchferry$Row;LPatchferry$Row;)V"⟩
abbrev cX1_from : ByteArray := prog_3_method_4_code
def yX1_from : MethodName := ⟨RX1, "from", "()I"⟩
abbrev cX1_size : ByteArray := prog_3_method_5_code
def yX1_size : MethodName := ⟨RX1, "size", "()I"⟩
abbrev cX1_seek : ByteArray := prog_3_method_6_code
def yX1_seek : MethodName := ⟨RX1, "seek", "(I)V"⟩
abbrev cX1_stretch : ByteArray := prog_3_method_7_code
def yX1_stretch : MethodName := ⟨RX1, "stretch", "(II)V"⟩
abbrev cX1_next : ByteArray := prog_3_method_8_code
def yX1_next : MethodName := ⟨RX1, "next", "()Z"⟩
abbrev cX1_tally : ByteArray := prog_3_method_9_code
def yX1_tally : MethodName := ⟨RX1, "tally", "()I"⟩
abbrev cX2_init : ByteArray := prog_4_method_1_code
def yX2_init : MethodName := ⟨RX2, "<init>", "()V"⟩
abbrev cX2_fill : ByteArray := prog_4_method_2_code
def yX2_fill : MethodName := ⟨RX2, "fill", "(LPatchferry$Row;)V"⟩
abbrev cX2_tellCut : ByteArray := prog_4_method_3_code
def yX2_tellCut : MethodName := ⟨RX2, "tellCut", "(I)I"⟩
abbrev cX2_isAtRest : ByteArray := prog_4_method_4_code
def yX2_isAtRest : MethodName := ⟨RX2, "isAtRest", "()Z"⟩
abbrev cX2_wasLaid : ByteArray := prog_4_method_5_code
def yX2_wasLaid : MethodName := ⟨RX2, "wasLaid", "()Z"⟩
abbrev cX2_laidPatch : ByteArray := prog_4_method_6_code
def yX2_laidPatch : MethodName := ⟨RX2, "laidPatch", "()LPatchferry$Patch;"⟩
abbrev cX2_has : ByteArray := prog_4_method_7_code
def yX2_has : MethodName := ⟨RX2, "has", "(LPatchferry$Row;)Z"⟩
abbrev cX2_size : ByteArray := prog_4_method_8_code
def yX2_size : MethodName := ⟨RX2, "size", "()I"⟩
abbrev cX2_get : ByteArray := prog_4_method_9_code
def yX2_get : MethodName := ⟨RX2, "get", "(I)I"⟩
abbrev cX2_savedCount : ByteArray := prog_4_method_10_code
def yX2_savedCount : MethodName := ⟨RX2, "savedCount", "()I"⟩
abbrev cX2_orderCount : ByteArray := prog_4_method_11_code
def yX2_orderCount : MethodName := ⟨RX2, "orderCount", "()I"⟩
abbrev cX2_ordered : ByteArray := prog_4_method_12_code
def yX2_ordered : MethodName := ⟨RX2, "ordered", "(I)I"⟩
abbrev cX2_start : ByteArray := prog_4_method_13_code
def yX2_start : MethodName := ⟨RX2, "start", "(LPatchferry$Patch;)V"⟩
abbrev cX2_findBegins : ByteArray := prog_4_method_14_code
def yX2_findBegins : MethodName := ⟨RX2, "findBegins", "()V"⟩
abbrev cX2_findNeeds : ByteArray := prog_4_method_15_code
def yX2_findNeeds : MethodName := ⟨RX2, "findNeeds", "()V"⟩
abbrev cX2_choose : ByteArray := prog_4_method_16_code
def yX2_choose : MethodName := ⟨RX2, "choose", "()V"⟩
abbrev cX2_bytesOf : ByteArray := prog_4_method_17_code
def yX2_bytesOf : MethodName := ⟨RX2, "bytesOf", "(I)I"⟩
abbrev cX2_arrange : ByteArray := prog_4_method_18_code
def yX2_arrange : MethodName := ⟨RX2, "arrange", "(I)Z"⟩
abbrev cX2_lowestReady : ByteArray := prog_4_method_19_code
def yX2_lowestReady : MethodName := ⟨RX2, "lowestReady", "(II)I"⟩
abbrev cX2_saveAhead : ByteArray := prog_4_method_20_code
def yX2_saveAhead : MethodName := ⟨RX2, "saveAhead", "()V"⟩
abbrev cX2_isSaved : ByteArray := prog_4_method_21_code
def yX2_isSaved : MethodName := ⟨RX2, "isSaved", "(I)Z"⟩
abbrev cX2_run : ByteArray := prog_4_method_22_code
def yX2_run : MethodName := ⟨RX2, "run", "()I"⟩
abbrev cX2_write : ByteArray := prog_4_method_23_code
def yX2_write : MethodName := ⟨RX2, "write", "(I)V"⟩
abbrev cX3_init : ByteArray := prog_5_method_1_code
def yX3_init : MethodName := ⟨RX3, "<init>", "()V"⟩
abbrev cX3_read : ByteArray := prog_5_method_2_code
def yX3_read : MethodName := ⟨RX3, "read", "(LPatchferry$Patch;)Z"⟩
abbrev cX3_closeGap : ByteArray := prog_5_method_3_code
def yX3_closeGap : MethodName := ⟨RX3, "closeGap", "(III)V"⟩
abbrev cX3_readChanged : ByteArray := prog_5_method_4_code
def yX3_readChanged : MethodName := ⟨RX3, "readChanged", "(LPatchferry$Patch;III)V"⟩
abbrev cX3_enter : ByteArray := prog_5_method_5_code
def yX3_enter : MethodName := ⟨RX3, "enter", "(III)V"⟩
abbrev cX3_valuesEnd : ByteArray := prog_5_method_6_code
def yX3_valuesEnd : MethodName := ⟨RX3, "valuesEnd", "(I)I"⟩
abbrev cX3_isLike : ByteArray := prog_5_method_7_code
def yX3_isLike : MethodName := ⟨RX3, "isLike", "(ILPatchferry$Edits;I)Z"⟩
abbrev cX3_clashWith : ByteArray := prog_5_method_8_code
def yX3_clashWith : MethodName := ⟨RX3, "clashWith", "(LPatchferry$Edits;)I"⟩
abbrev cX3_blend : ByteArray := prog_5_method_9_code
def yX3_blend : MethodName := ⟨RX3, "blend", "(LPatchferry$Edits;LPatchferry$Row;LPatchferry$Row;)V"⟩
abbrev cX3_writeEdit : ByteArray := prog_5_method_10_code
def yX3_writeEdit : MethodName := ⟨RX3, "writeEdit", "(ILPatchferry$Row;ILPatchferry$Row;)I"⟩
abbrev cX3_writePart : ByteArray := prog_5_method_11_code
def yX3_writePart : MethodName := ⟨RX3, "writePart", "(LPatchferry$Row;IILPatchferry$Row;)V"⟩
abbrev cX4_init : ByteArray := prog_6_method_1_code
def yX4_init : MethodName := ⟨RX4, "<init>", "()V"⟩
abbrev cX4_count : ByteArray := prog_6_method_2_code
def yX4_count : MethodName := ⟨RX4, "count", "()I"⟩
abbrev cX4_fromAt : ByteArray := prog_6_method_3_code
def yX4_fromAt : MethodName := ⟨RX4, "fromAt", "(I)I"⟩
abbrev cX4_sizeAt : ByteArray := prog_6_method_4_code
def yX4_sizeAt : MethodName := ⟨RX4, "sizeAt", "(I)I"⟩
abbrev cX4_addAt : ByteArray := prog_6_method_5_code
def yX4_addAt : MethodName := ⟨RX4, "addAt", "(I)I"⟩
abbrev cX4_madeSize : ByteArray := prog_6_method_6_code
def yX4_madeSize : MethodName := ⟨RX4, "madeSize", "()I"⟩
abbrev cX4_base : ByteArray := prog_6_method_7_code
def yX4_base : MethodName := ⟨RX4, "base", "()LPatchferry$Row;"⟩
abbrev cX4_draw : ByteArray := prog_6_method_8_code
def yX4_draw : MethodName := ⟨RX4, "draw", "(LPatchferry$Differ;LPatchferry$Row;LPatchferry$Row;)V"⟩
abbrev cX4_join : ByteArray := prog_6_method_9_code
def yX4_join : MethodName := ⟨RX4, "join", "(LPatchferry$Patch;LPatchferry$Patch;)V"⟩
abbrev cX4_joinCopy : ByteArray := prog_6_method_10_code
def yX4_joinCopy : MethodName := ⟨RX4, "joinCopy", "(LPatchferry$Patch;LPatchferry$Patch;III)V"⟩
abbrev cX4_restart : ByteArray := prog_6_method_11_code
def yX4_restart : MethodName := ⟨RX4, "restart", "(LPatchferry$Row;)V"⟩
abbrev cX4_addOperation : ByteArray := prog_6_method_12_code
def yX4_addOperation : MethodName := ⟨RX4, "addOperation", "(II)V"⟩
abbrev cX4_writeMade : ByteArray := prog_6_method_13_code
def yX4_writeMade : MethodName := ⟨RX4, "writeMade", "(LPatchferry$Row;)V"⟩
abbrev cX4_taken : ByteArray := prog_6_method_14_code
def yX4_taken : MethodName := ⟨RX4, "taken", "()I"⟩
abbrev cX4_changedIn : ByteArray := prog_6_method_15_code
def yX4_changedIn : MethodName := ⟨RX4, "changedIn", "(II)I"⟩
abbrev cX4_writeSigns : ByteArray := prog_6_method_16_code
def yX4_writeSigns : MethodName := ⟨RX4, "writeSigns", "(LPatchferry$Row;)V"⟩
abbrev cX4_writeNumber : ByteArray := prog_6_method_17_code
def yX4_writeNumber : MethodName := ⟨RX4, "writeNumber", "(ILPatchferry$Row;)V"⟩
abbrev cX4_costOf : ByteArray := prog_6_method_18_code
def yX4_costOf : MethodName := ⟨RX4, "costOf", "(IIII)I"⟩
abbrev cX4_numberBytes : ByteArray := prog_6_method_19_code
def yX4_numberBytes : MethodName := ⟨RX4, "numberBytes", "(I)I"⟩
abbrev cX5_init : ByteArray := prog_7_method_1_code
def yX5_init : MethodName := ⟨RX5, "<init>", "()V"⟩
abbrev cX5_isJump : ByteArray := prog_7_method_2_code
def yX5_isJump : MethodName := ⟨RX5, "isJump", "(I)Z"⟩
abbrev cX5_target : ByteArray := prog_7_method_3_code
def yX5_target : MethodName := ⟨RX5, "target", "(LPatchferry$Row;I)I"⟩
abbrev cX5_count : ByteArray := prog_7_method_4_code
def yX5_count : MethodName := ⟨RX5, "count", "()I"⟩
abbrev cX5_read : ByteArray := prog_7_method_5_code
def yX5_read : MethodName := ⟨RX5, "read", "(LPatchferry$Row;)Z"⟩
abbrev cX5_writeLabelled : ByteArray := prog_7_method_6_code
def yX5_writeLabelled : MethodName := ⟨RX5, "writeLabelled", "(LPatchferry$Row;LPatchferry$Row;)V"⟩
abbrev cX5_writePlain : ByteArray := prog_7_method_7_code
def yX5_writePlain : MethodName := ⟨RX5, "writePlain", "(LPatchferry$Row;LPatchferry$Row;)Z"⟩
abbrev cX6_init : ByteArray := prog_8_method_1_code
def yX6_init : MethodName := ⟨RX6, "<init>", "(I)V"⟩
abbrev cX6_size : ByteArray := prog_8_method_2_code
def yX6_size : MethodName := ⟨RX6, "size", "()I"⟩
abbrev cX6_get : ByteArray := prog_8_method_3_code
def yX6_get : MethodName := ⟨RX6, "get", "(I)I"⟩
abbrev cX6_set : ByteArray := prog_8_method_4_code
def yX6_set : MethodName := ⟨RX6, "set", "(II)V"⟩
abbrev cX6_add : ByteArray := prog_8_method_5_code
def yX6_add : MethodName := ⟨RX6, "add", "(I)V"⟩
abbrev cX6_clear : ByteArray := prog_8_method_6_code
def yX6_clear : MethodName := ⟨RX6, "clear", "()V"⟩
abbrev cX6_resize : ByteArray := prog_8_method_7_code
def yX6_resize : MethodName := ⟨RX6, "resize", "(I)V"⟩
abbrev cX6_copy : ByteArray := prog_8_method_8_code
def yX6_copy : MethodName := ⟨RX6, "copy", "()LPatchferry$Row;"⟩
abbrev cX6_copyFrom : ByteArray := prog_8_method_9_code
def yX6_copyFrom : MethodName := ⟨RX6, "copyFrom", "(LPatchferry$Row;)V"⟩
abbrev cX6_matches : ByteArray := prog_8_method_10_code
def yX6_matches : MethodName := ⟨RX6, "matches", "(LPatchferry$Row;)Z"⟩
abbrev cX6_agrees : ByteArray := prog_8_method_11_code
def yX6_agrees : MethodName := ⟨RX6, "agrees", "(ILPatchferry$Row;II)Z"⟩
abbrev cX6_turnRound : ByteArray := prog_8_method_12_code
def yX6_turnRound : MethodName := ⟨RX6, "turnRound", "()V"⟩
abbrev cX6_raiseAll : ByteArray := prog_8_method_13_code
def yX6_raiseAll : MethodName := ⟨RX6, "raiseAll", "()V"⟩
abbrev cX6_strongSum : ByteArray := prog_8_method_14_code
def yX6_strongSum : MethodName := ⟨RX6, "strongSum", "(III)I"⟩
abbrev cX6_weakSum : ByteArray := prog_8_method_15_code
def yX6_weakSum : MethodName := ⟨RX6, "weakSum", "(II)I"⟩
abbrev cX7_init : ByteArray := prog_9_method_1_code
def yX7_init : MethodName := ⟨RX7, "<init>", "()V"⟩
abbrev cX7_count : ByteArray := prog_9_method_2_code
def yX7_count : MethodName := ⟨RX7, "count", "()I"⟩
abbrev cX7_value : ByteArray := prog_9_method_3_code
def yX7_value : MethodName := ⟨RX7, "value", "(I)I"⟩
abbrev cX7_end : ByteArray := prog_9_method_4_code
def yX7_end : MethodName := ⟨RX7, "end", "(I)I"⟩
abbrev cX7_begin : ByteArray := prog_9_method_5_code
def yX7_begin : MethodName := ⟨RX7, "begin", "(I)I"⟩
abbrev cX7_total : ByteArray := prog_9_method_6_code
def yX7_total : MethodName := ⟨RX7, "total", "()I"⟩
abbrev cX7_put : ByteArray := prog_9_method_7_code
def yX7_put : MethodName := ⟨RX7, "put", "(II)V"⟩
abbrev cX7_clear : ByteArray := prog_9_method_8_code
def yX7_clear : MethodName := ⟨RX7, "clear", "()V"⟩
abbrev cX7_read : ByteArray := prog_9_method_9_code
def yX7_read : MethodName := ⟨RX7, "read", "(LPatchferry$Row;)V"⟩
abbrev cX7_runAt : ByteArray := prog_9_method_10_code
def yX7_runAt : MethodName := ⟨RX7, "runAt", "(I)I"⟩
abbrev cX7_alikeFrom : ByteArray := prog_9_method_11_code
def yX7_alikeFrom : MethodName := ⟨RX7, "alikeFrom", "(ILPatchferry$Runs;I)I"⟩
abbrev cX7_unfold : ByteArray := prog_9_method_12_code
def yX7_unfold : MethodName := ⟨RX7, "unfold", "(LPatchferry$Row;)Z"⟩
abbrev cX7_fold : ByteArray := prog_9_method_13_code
def yX7_fold : MethodName := ⟨RX7, "fold", "(ILPatchferry$Row;)V"⟩
abbrev cX7_foldPart : ByteArray := prog_9_method_14_code
def yX7_foldPart : MethodName := ⟨RX7, "foldPart", "(IIZLPatchferry$Row;)V"⟩
abbrev cX7_spell : ByteArray := prog_9_method_15_code
def yX7_spell : MethodName := ⟨RX7, "spell", "(LPatchferry$Row;)V"⟩
abbrev cX8_init : ByteArray := prog_10_method_1_code
def yX8_init : MethodName := ⟨RX8, "<init>", "()V"⟩
abbrev cX8_enter : ByteArray := prog_10_method_2_code
def yX8_enter : MethodName := ⟨RX8, "enter", "(LPatchferry$Row;)V"⟩
abbrev cX8_isCut : ByteArray := prog_10_method_3_code
def yX8_isCut : MethodName := ⟨RX8, "isCut", "(LPatchferry$Row;II)Z"⟩
abbrev cX8_numberOf : ByteArray := prog_10_method_4_code
def yX8_numberOf : MethodName := ⟨RX8, "numberOf", "(LPatchferry$Row;III)I"⟩
abbrev cX8_textOf : ByteArray := prog_10_method_5_code
def yX8_textOf : MethodName := ⟨RX8, "textOf", "(I)LPatchferry$Row;"⟩
abbrev cX8_cutOf : ByteArray := prog_10_method_6_code
def yX8_cutOf : MethodName := ⟨RX8, "cutOf", "(I)LPatchferry$Row;"⟩
abbrev cX8_countOf : ByteArray := prog_10_method_7_code
def yX8_countOf : MethodName := ⟨RX8, "countOf", "(I)I"⟩
abbrev cX8_sizeOf : ByteArray := prog_10_method_8_code
def yX8_sizeOf : MethodName := ⟨RX8, "sizeOf", "(II)I"⟩
abbrev cX8_isIn : ByteArray := prog_10_method_9_code
def yX8_isIn : MethodName := ⟨RX8, "isIn", "(I)Z"⟩
abbrev cX8_takeIn : ByteArray := prog_10_method_10_code
def yX8_takeIn : MethodName := ⟨RX8, "takeIn", "(I)I"⟩
abbrev cX8_takeOut : ByteArray := prog_10_method_11_code
def yX8_takeOut : MethodName := ⟨RX8, "takeOut", "(I)I"⟩
abbrev cX8_sweep : ByteArray := prog_10_method_12_code
def yX8_sweep : MethodName := ⟨RX8, "sweep", "()I"⟩
abbrev cX8_keptBytes : ByteArray := prog_10_method_13_code
def yX8_keptBytes : MethodName := ⟨RX8, "keptBytes", "()I"⟩
abbrev cX8_alike : ByteArray := prog_10_method_14_code
def yX8_alike : MethodName := ⟨RX8, "alike", "(II)I"⟩
abbrev cX8_countPieces : ByteArray := prog_10_method_15_code
def yX8_countPieces : MethodName := ⟨RX8, "countPieces", "(LPatchferry$Row;)V"⟩
abbrev cX8_forgetPieces : ByteArray := prog_10_method_16_code
def yX8_forgetPieces : MethodName := ⟨RX8, "forgetPieces", "(LPatchferry$Row;)V"⟩
abbrev cX8_moveTo : ByteArray := prog_10_method_17_code
def yX8_moveTo : MethodName := ⟨RX8, "moveTo", "(II)I"⟩
abbrev cX8_oldOf : ByteArray := prog_10_method_18_code
def yX8_oldOf : MethodName := ⟨RX8, "oldOf", "(I)I"⟩
abbrev cX8_fillGrid : ByteArray := prog_10_method_19_code
def yX8_fillGrid : MethodName := ⟨RX8, "fillGrid", "()V"⟩
abbrev cX8_bestPair : ByteArray := prog_10_method_20_code
def yX8_bestPair : MethodName := ⟨RX8, "bestPair", "()I"⟩
abbrev cX8_takePair : ByteArray := prog_10_method_21_code
def yX8_takePair : MethodName := ⟨RX8, "takePair", "(II)V"⟩
abbrev cX8_usesStand : ByteArray := prog_10_method_22_code
def yX8_usesStand : MethodName := ⟨RX8, "usesStand", "()Z"⟩
abbrev cX9_init : ByteArray := prog_11_method_1_code
def yX9_init : MethodName := ⟨RX9, "<init>", "()V"⟩
abbrev cX9_leaves : ByteArray := prog_11_method_2_code
def yX9_leaves : MethodName := ⟨RX9, "leaves", "(LPatchferry$Row;)I"⟩
abbrev cX9_leafSum : ByteArray := prog_11_method_3_code
def yX9_leafSum : MethodName := ⟨RX9, "leafSum", "(LPatchferry$Row;I)I"⟩
abbrev cX9_readLeaves : ByteArray := prog_11_method_4_code
def yX9_readLeaves : MethodName := ⟨RX9, "readLeaves", "(LPatchferry$Row;)V"⟩
abbrev cX9_climb : ByteArray := prog_11_method_5_code
def yX9_climb : MethodName := ⟨RX9, "climb", "()I"⟩
abbrev cX9_root : ByteArray := prog_11_method_6_code
def yX9_root : MethodName := ⟨RX9, "root", "(LPatchferry$Row;)I"⟩
abbrev cX9_provesLeaf : ByteArray := prog_11_method_7_code
def yX9_provesLeaf : MethodName := ⟨RX9, "provesLeaf", "(LPatchferry$Row;LPatchferry$Row;I)Z"⟩
abbrev cX10_init : ByteArray := prog_12_method_1_code
def yX10_init : MethodName := ⟨RX10, "<init>", "()V"⟩
abbrev cX10_count : ByteArray := prog_12_method_2_code
def yX10_count : MethodName := ⟨RX10, "count", "()I"⟩
abbrev cX10_enter : ByteArray := prog_12_method_3_code
def yX10_enter : MethodName := ⟨RX10, "enter", "(LPatchferry$Row;)I"⟩
abbrev cX10_textOf : ByteArray := prog_12_method_4_code
def yX10_textOf : MethodName := ⟨RX10, "textOf", "(I)LPatchferry$Row;"⟩
abbrev cX10_tellKey : ByteArray := prog_12_method_5_code
def yX10_tellKey : MethodName := ⟨RX10, "tellKey", "(IZ)Z"⟩
abbrev cX10_tellCount : ByteArray := prog_12_method_6_code
def yX10_tellCount : MethodName := ⟨RX10, "tellCount", "(II)I"⟩
abbrev cX10_lastKey : ByteArray := prog_12_method_7_code
def yX10_lastKey : MethodName := ⟨RX10, "lastKey", "(I)I"⟩
abbrev cX10_cost : ByteArray := prog_12_method_8_code
def yX10_cost : MethodName := ⟨RX10, "cost", "(LPatchferry$Differ;II)I"⟩
abbrev cX10_walk : ByteArray := prog_12_method_9_code
def yX10_walk : MethodName := ⟨RX10, "walk", "(LPatchferry$Differ;II)I"⟩
abbrev cX10_fleetBytes : ByteArray := prog_12_method_10_code
def yX10_fleetBytes : MethodName := ⟨RX10, "fleetBytes", "(LPatchferry$Differ;I)I"⟩
abbrev cX10_takeGreatestGain : ByteArray := prog_12_method_11_code
def yX10_takeGreatestGain : MethodName := ⟨RX10, "takeGreatestGain", "()I"⟩
abbrev cX11_init : ByteArray := prog_1_method_1_code
def yX11_init : MethodName := ⟨RX11, "<init>", "()V"⟩
abbrev cX11_type : ByteArray := prog_1_method_2_code
def yX11_type : MethodName := ⟨RX11, "type", "(I)I"⟩
abbrev cX11_repeat : ByteArray := prog_1_method_3_code
def yX11_repeat : MethodName := ⟨RX11, "repeat", "(II)I"⟩
abbrev cX11_quote : ByteArray := prog_1_method_4_code
def yX11_quote : MethodName := ⟨RX11, "quote", "(III)I"⟩
abbrev cX11_file : ByteArray := prog_1_method_5_code
def yX11_file : MethodName := ⟨RX11, "file", "()I"⟩
abbrev cX11_length : ByteArray := prog_1_method_6_code
def yX11_length : MethodName := ⟨RX11, "length", "(I)I"⟩
abbrev cX11_at : ByteArray := prog_1_method_7_code
def yX11_at : MethodName := ⟨RX11, "at", "(II)I"⟩
abbrev cX11_isSame : ByteArray := prog_1_method_8_code
def yX11_isSame : MethodName := ⟨RX11, "isSame", "(II)Z"⟩
abbrev cX11_letter : ByteArray := prog_1_method_9_code
def yX11_letter : MethodName := ⟨RX11, "letter", "(C)I"⟩
abbrev cX11_doWord : ByteArray := prog_1_method_10_code
def yX11_doWord : MethodName := ⟨RX11, "doWord", "()I"⟩
abbrev cX11_endAt : ByteArray := prog_1_method_11_code
def yX11_endAt : MethodName := ⟨RX11, "endAt", "(II)I"⟩
abbrev cX11_matchLength : ByteArray := prog_1_method_12_code
def yX11_matchLength : MethodName := ⟨RX11, "matchLength", "(III)I"⟩
abbrev cX11_matchPlace : ByteArray := prog_1_method_13_code
def yX11_matchPlace : MethodName := ⟨RX11, "matchPlace", "(III)I"⟩
abbrev cX11_slack : ByteArray := prog_1_method_14_code
def yX11_slack : MethodName := ⟨RX11, "slack", "(IIII)I"⟩
abbrev cX11_make : ByteArray := prog_1_method_15_code
def yX11_make : MethodName := ⟨RX11, "make", "(II)I"⟩
abbrev cX11_operations : ByteArray := prog_1_method_16_code
def yX11_operations : MethodName := ⟨RX11, "operations", "(I)I"⟩
abbrev cX11_kindOf : ByteArray := prog_1_method_17_code
def yX11_kindOf : MethodName := ⟨RX11, "kindOf", "(II)C"⟩
abbrev cX11_fromOf : ByteArray := prog_1_method_18_code
def yX11_fromOf : MethodName := ⟨RX11, "fromOf", "(II)I"⟩
abbrev cX11_lengthOf : ByteArray := prog_1_method_19_code
def yX11_lengthOf : MethodName := ⟨RX11, "lengthOf", "(II)I"⟩
abbrev cX11_signAt : ByteArray := prog_1_method_20_code
def yX11_signAt : MethodName := ⟨RX11, "signAt", "(II)C"⟩
abbrev cX11_bytes : ByteArray := prog_1_method_21_code
def yX11_bytes : MethodName := ⟨RX11, "bytes", "(I)I"⟩
abbrev cX11_apply : ByteArray := prog_1_method_22_code
def yX11_apply : MethodName := ⟨RX11, "apply", "(II)I"⟩
abbrev cX11_compose : ByteArray := prog_1_method_23_code
def yX11_compose : MethodName := ⟨RX11, "compose", "(II)I"⟩
abbrev cX11_merge : ByteArray := prog_1_method_24_code
def yX11_merge : MethodName := ⟨RX11, "merge", "(II)I"⟩
abbrev cX11_clash : ByteArray := prog_1_method_25_code
def yX11_clash : MethodName := ⟨RX11, "clash", "()I"⟩
abbrev cX11_pieces : ByteArray := prog_1_method_26_code
def yX11_pieces : MethodName := ⟨RX11, "pieces", "(I)I"⟩
abbrev cX11_pieceLength : ByteArray := prog_1_method_27_code
def yX11_pieceLength : MethodName := ⟨RX11, "pieceLength", "(II)I"⟩
abbrev cX11_store : ByteArray := prog_1_method_28_code
def yX11_store : MethodName := ⟨RX11, "store", "(I)I"⟩
abbrev cX11_drop : ByteArray := prog_1_method_29_code
def yX11_drop : MethodName := ⟨RX11, "drop", "(I)I"⟩
abbrev cX11_collect : ByteArray := prog_1_method_30_code
def yX11_collect : MethodName := ⟨RX11, "collect", "()I"⟩
abbrev cX11_stored : ByteArray := prog_1_method_31_code
def yX11_stored : MethodName := ⟨RX11, "stored", "()I"⟩
abbrev cX11_likeness : ByteArray := prog_1_method_32_code
def yX11_likeness : MethodName := ⟨RX11, "likeness", "(II)I"⟩
abbrev cX11_setFolder : ByteArray := prog_1_method_33_code
def yX11_setFolder : MethodName := ⟨RX11, "setFolder", "(II)I"⟩
abbrev cX11_renamed : ByteArray := prog_1_method_34_code
def yX11_renamed : MethodName := ⟨RX11, "renamed", "(I)I"⟩
abbrev cX11_literals : ByteArray := prog_1_method_35_code
def yX11_literals : MethodName := ⟨RX11, "literals", "(III)I"⟩
abbrev cX11_falseOnes : ByteArray := prog_1_method_36_code
def yX11_falseOnes : MethodName := ⟨RX11, "falseOnes", "(III)I"⟩
abbrev cX11_wire : ByteArray := prog_1_method_37_code
def yX11_wire : MethodName := ⟨RX11, "wire", "(III)I"⟩
abbrev cX11_bestLength : ByteArray := prog_1_method_38_code
def yX11_bestLength : MethodName := ⟨RX11, "bestLength", "(II)I"⟩
abbrev cX11_labels : ByteArray := prog_1_method_39_code
def yX11_labels : MethodName := ⟨RX11, "labels", "(I)I"⟩
abbrev cX11_label : ByteArray := prog_1_method_40_code
def yX11_label : MethodName := ⟨RX11, "label", "(I)I"⟩
abbrev cX11_unlabel : ByteArray := prog_1_method_41_code
def yX11_unlabel : MethodName := ⟨RX11, "unlabel", "(I)I"⟩
abbrev cX11_labelledBytes : ByteArray := prog_1_method_42_code
def yX11_labelledBytes : MethodName := ⟨RX11, "labelledBytes", "(II)I"⟩
abbrev cX11_pack : ByteArray := prog_1_method_43_code
def yX11_pack : MethodName := ⟨RX11, "pack", "(II)I"⟩
abbrev cX11_unpack : ByteArray := prog_1_method_44_code
def yX11_unpack : MethodName := ⟨RX11, "unpack", "(I)I"⟩
abbrev cX11_modeOf : ByteArray := prog_1_method_45_code
def yX11_modeOf : MethodName := ⟨RX11, "modeOf", "(I)I"⟩
abbrev cX11_insideBytes : ByteArray := prog_1_method_46_code
def yX11_insideBytes : MethodName := ⟨RX11, "insideBytes", "(II)I"⟩
abbrev cX11_load : ByteArray := prog_1_method_47_code
def yX11_load : MethodName := ⟨RX11, "load", "(I)I"⟩
abbrev cX11_setCut : ByteArray := prog_1_method_48_code
def yX11_setCut : MethodName := ⟨RX11, "setCut", "(I)I"⟩
abbrev cX11_lay : ByteArray := prog_1_method_49_code
def yX11_lay : MethodName := ⟨RX11, "lay", "(I)I"⟩
abbrev cX11_goOn : ByteArray := prog_1_method_50_code
def yX11_goOn : MethodName := ⟨RX11, "goOn", "()I"⟩
abbrev cX11_isWhole : ByteArray := prog_1_method_51_code
def yX11_isWhole : MethodName := ⟨RX11, "isWhole", "()Z"⟩
abbrev cX11_savedBytes : ByteArray := prog_1_method_52_code
def yX11_savedBytes : MethodName := ⟨RX11, "savedBytes", "()I"⟩
abbrev cX11_orderAt : ByteArray := prog_1_method_53_code
def yX11_orderAt : MethodName := ⟨RX11, "orderAt", "(I)I"⟩
abbrev cX11_diskLength : ByteArray := prog_1_method_54_code
def yX11_diskLength : MethodName := ⟨RX11, "diskLength", "()I"⟩
abbrev cX11_onDisk : ByteArray := prog_1_method_55_code
def yX11_onDisk : MethodName := ⟨RX11, "onDisk", "(I)I"⟩
abbrev cX11_isOn : ByteArray := prog_1_method_56_code
def yX11_isOn : MethodName := ⟨RX11, "isOn", "(I)Z"⟩
abbrev cX11_version : ByteArray := prog_1_method_57_code
def yX11_version : MethodName := ⟨RX11, "version", "(I)I"⟩
abbrev cX11_setKey : ByteArray := prog_1_method_58_code
def yX11_setKey : MethodName := ⟨RX11, "setKey", "(IZ)Z"⟩
abbrev cX11_fetch : ByteArray := prog_1_method_59_code
def yX11_fetch : MethodName := ⟨RX11, "fetch", "(I)I"⟩
abbrev cX11_route : ByteArray := prog_1_method_60_code
def yX11_route : MethodName := ⟨RX11, "route", "(II)I"⟩
abbrev cX11_chain : ByteArray := prog_1_method_61_code
def yX11_chain : MethodName := ⟨RX11, "chain", "(II)I"⟩
abbrev cX11_setCount : ByteArray := prog_1_method_62_code
def yX11_setCount : MethodName := ⟨RX11, "setCount", "(II)I"⟩
abbrev cX11_fleet : ByteArray := prog_1_method_63_code
def yX11_fleet : MethodName := ⟨RX11, "fleet", "(I)I"⟩
abbrev cX11_rootOf : ByteArray := prog_1_method_64_code
def yX11_rootOf : MethodName := ⟨RX11, "rootOf", "(I)J"⟩
abbrev cX11_proves : ByteArray := prog_1_method_65_code
def yX11_proves : MethodName := ⟨RX11, "proves", "(III)Z"⟩
abbrev cX11_liar : ByteArray := prog_1_method_66_code
def yX11_liar : MethodName := ⟨RX11, "liar", "(II)I"⟩
abbrev cX11_files : ByteArray := prog_1_method_67_code
def yX11_files : MethodName := ⟨RX11, "files", "()I"⟩
abbrev cX11_sumOf : ByteArray := prog_1_method_68_code
def yX11_sumOf : MethodName := ⟨RX11, "sumOf", "(I)J"⟩
abbrev cX11_share : ByteArray := prog_1_method_69_code
def yX11_share : MethodName := ⟨RX11, "share", "(I)F"⟩
abbrev cX11_meanLength : ByteArray := prog_1_method_70_code
def yX11_meanLength : MethodName := ⟨RX11, "meanLength", "()D"⟩
abbrev cX11_isSound : ByteArray := prog_1_method_71_code
def yX11_isSound : MethodName := ⟨RX11, "isSound", "()Z"⟩
abbrev cX11_comesBackLabelled : ByteArray := prog_1_method_72_code
def yX11_comesBackLabelled : MethodName := ⟨RX11, "comesBackLabelled", "(LPatchferry$Row;)Z"⟩
abbrev cX11_comesBackPacked : ByteArray := prog_1_method_73_code
def yX11_comesBackPacked : MethodName := ⟨RX11, "comesBackPacked", "(LPatchferry$Row;)Z"⟩
abbrev cX11_versionsStand : ByteArray := prog_1_method_74_code
def yX11_versionsStand : MethodName := ⟨RX11, "versionsStand", "()Z"⟩
abbrev cX11_diskStands : ByteArray := prog_1_method_75_code
def yX11_diskStands : MethodName := ⟨RX11, "diskStands", "()Z"⟩
abbrev cX11_keep : ByteArray := prog_1_method_76_code
def yX11_keep : MethodName := ⟨RX11, "keep", "(LPatchferry$Row;)I"⟩
abbrev cX11_keepPatch : ByteArray := prog_1_method_77_code
def yX11_keepPatch : MethodName := ⟨RX11, "keepPatch", "(LPatchferry$Patch;)I"⟩
abbrev cX11_rankEnds : ByteArray := prog_1_method_78_code
def yX11_rankEnds : MethodName := ⟨RX11, "rankEnds", "(LPatchferry$Row;LPatchferry$Row;)V"⟩
abbrev cX11_seekMatch : ByteArray := prog_1_method_79_code
def yX11_seekMatch : MethodName := ⟨RX11, "seekMatch", "(III)V"⟩
abbrev cX11_scanBlocks : ByteArray := prog_1_method_80_code
def yX11_scanBlocks : MethodName := ⟨RX11, "scanBlocks", "(III)V"⟩
abbrev cX11_writeLabelled : ByteArray := prog_1_method_81_code
def yX11_writeLabelled : MethodName := ⟨RX11, "writeLabelled", "(LPatchferry$Row;LPatchferry$Row;)Z"⟩
abbrev cX11_findMode : ByteArray := prog_1_method_82_code
def yX11_findMode : MethodName := ⟨RX11, "findMode", "(LPatchferry$Row;)I"⟩
abbrev cX11_held : ByteArray := prog_1_method_83_code
def yX11_held : MethodName := ⟨RX11, "held", "(I)LPatchferry$Row;"⟩
abbrev cX11_needFile : ByteArray := prog_1_method_84_code
def yX11_needFile : MethodName := ⟨RX11, "needFile", "(I)V"⟩
abbrev cX11_known : ByteArray := prog_1_method_85_code
def yX11_known : MethodName := ⟨RX11, "known", "(I)LPatchferry$Patch;"⟩
abbrev cX11_needIndex : ByteArray := prog_1_method_86_code
def yX11_needIndex : MethodName := ⟨RX11, "needIndex", "(II)V"⟩
abbrev cX11_needByte : ByteArray := prog_1_method_87_code
def yX11_needByte : MethodName := ⟨RX11, "needByte", "(I)V"⟩
abbrev cX11_needMany : ByteArray := prog_1_method_88_code
def yX11_needMany : MethodName := ⟨RX11, "needMany", "(I)V"⟩
abbrev cX11_needBuffer : ByteArray := prog_1_method_89_code
def yX11_needBuffer : MethodName := ⟨RX11, "needBuffer", "(I)V"⟩
abbrev cX11_needFileRoom : ByteArray := prog_1_method_90_code
def yX11_needFileRoom : MethodName := ⟨RX11, "needFileRoom", "(I)V"⟩
abbrev cX11_needPatchRoom : ByteArray := prog_1_method_91_code
def yX11_needPatchRoom : MethodName := ⟨RX11, "needPatchRoom", "()V"⟩
abbrev cX11_needAsManyLeaves : ByteArray := prog_1_method_92_code
def yX11_needAsManyLeaves : MethodName := ⟨RX11, "needAsManyLeaves", "(LPatchferry$Row;LPatchferry$Row;)V"⟩
abbrev cX12_init : ByteArray := prog_15_method_1_code
def yX12_init : MethodName := ⟨RX12, "<init>", "(II[I)V"⟩
abbrev cX12_isAs : ByteArray := prog_15_method_2_code
def yX12_isAs : MethodName := ⟨RX12, "isAs", "(LPatchferryModel$Edit;)Z"⟩
abbrev cX12_touches : ByteArray := prog_15_method_3_code
def yX12_touches : MethodName := ⟨RX12, "touches", "(LPatchferryModel$Edit;)Z"⟩
abbrev cX13_init : ByteArray := prog_16_method_1_code
def yX13_init : MethodName := ⟨RX13, "<init>", "([I)V"⟩
abbrev cX14_init : ByteArray := prog_17_method_1_code
def yX14_init : MethodName := ⟨RX14, "<init>", "(I[I)V"⟩
abbrev cX14_isCopy : ByteArray := prog_17_method_2_code
def yX14_isCopy : MethodName := ⟨RX14, "isCopy", "()Z"⟩
abbrev cX15_init : ByteArray := prog_14_method_1_code
def yX15_init : MethodName := ⟨RX15, "<init>", "()V"⟩
abbrev cX15_thrown : ByteArray := prog_14_method_2_code
def yX15_thrown : MethodName := ⟨RX15, "thrown", "()I"⟩
abbrev cX15_fails : ByteArray := prog_14_method_3_code
def yX15_fails : MethodName := ⟨RX15, "fails", "(I)Z"⟩
abbrev cX15_in : ByteArray := prog_14_method_4_code
def yX15_in : MethodName := ⟨RX15, "in", "(III)Z"⟩
abbrev cX15_same : ByteArray := prog_14_method_5_code
def yX15_same : MethodName := ⟨RX15, "same", "([I[I)Z"⟩
abbrev cX15_part : ByteArray := prog_14_method_6_code
def yX15_part : MethodName := ⟨RX15, "part", "([III)[I"⟩
abbrev cX15_joined : ByteArray := prog_14_method_7_code
def yX15_joined : MethodName := ⟨RX15, "joined", "([I[I)[I"⟩
abbrev cX15_isFile : ByteArray := prog_14_method_8_code
def yX15_isFile : MethodName := ⟨RX15, "isFile", "(I)Z"⟩
abbrev cX15_failsFile : ByteArray := prog_14_method_9_code
def yX15_failsFile : MethodName := ⟨RX15, "failsFile", "(I)Z"⟩
abbrev cX15_failsFiles : ByteArray := prog_14_method_10_code
def yX15_failsFiles : MethodName := ⟨RX15, "failsFiles", "(II)Z"⟩
abbrev cX15_put : ByteArray := prog_14_method_11_code
def yX15_put : MethodName := ⟨RX15, "put", "([I)I"⟩
abbrev cX15_type : ByteArray := prog_14_method_12_code
def yX15_type : MethodName := ⟨RX15, "type", "(I)I"⟩
abbrev cX15_repeat : ByteArray := prog_14_method_13_code
def yX15_repeat : MethodName := ⟨RX15, "repeat", "(II)I"⟩
abbrev cX15_quote : ByteArray := prog_14_method_14_code
def yX15_quote : MethodName := ⟨RX15, "quote", "(III)I"⟩
abbrev cX15_keep : ByteArray := prog_14_method_15_code
def yX15_keep : MethodName := ⟨RX15, "keep", "([I)I"⟩
abbrev cX15_file : ByteArray := prog_14_method_16_code
def yX15_file : MethodName := ⟨RX15, "file", "()I"⟩
abbrev cX15_length : ByteArray := prog_14_method_17_code
def yX15_length : MethodName := ⟨RX15, "length", "(I)I"⟩
abbrev cX15_at : ByteArray := prog_14_method_18_code
def yX15_at : MethodName := ⟨RX15, "at", "(II)I"⟩
abbrev cX15_isSame : ByteArray := prog_14_method_19_code
def yX15_isSame : MethodName := ⟨RX15, "isSame", "(II)Z"⟩
abbrev cX15_letter : ByteArray := prog_14_method_20_code
def yX15_letter : MethodName := ⟨RX15, "letter", "(C)I"⟩
abbrev cX15_doWord : ByteArray := prog_14_method_21_code
def yX15_doWord : MethodName := ⟨RX15, "doWord", "()I"⟩
abbrev cX15_isAhead : ByteArray := prog_14_method_22_code
def yX15_isAhead : MethodName := ⟨RX15, "isAhead", "([III)Z"⟩
abbrev cX15_endAt : ByteArray := prog_14_method_23_code
def yX15_endAt : MethodName := ⟨RX15, "endAt", "(II)I"⟩
abbrev cX15_alike : ByteArray := prog_14_method_24_code
def yX15_alike : MethodName := ⟨RX15, "alike", "([II[II)I"⟩
abbrev cX15_match : ByteArray := prog_14_method_25_code
def yX15_match : MethodName := ⟨RX15, "match", "([I[II)I"⟩
abbrev cX15_failsPlace : ByteArray := prog_14_method_26_code
def yX15_failsPlace : MethodName := ⟨RX15, "failsPlace", "(III)Z"⟩
abbrev cX15_matchLength : ByteArray := prog_14_method_27_code
def yX15_matchLength : MethodName := ⟨RX15, "matchLength", "(III)I"⟩
abbrev cX15_matchPlace : ByteArray := prog_14_method_28_code
def yX15_matchPlace : MethodName := ⟨RX15, "matchPlace", "(III)I"⟩
abbrev cX15_slack : ByteArray := prog_14_method_29_code
def yX15_slack : MethodName := ⟨RX15, "slack", "([II[II)I"⟩
abbrev cX15_slack_ : ByteArray := prog_14_method_30_code
def yX15_slack_ : MethodName := ⟨RX15, "slack", "(IIII)I"⟩
abbrev cX15_between : ByteArray := prog_14_method_31_code
def yX15_between : MethodName := ⟨RX15, "between", "([I[I)LPatchferryModel$Patch;"⟩
abbrev cX15_addExtra : ByteArray := prog_14_method_32_code
def yX15_addExtra : MethodName := ⟨RX15, "addExtra", "(LPatchferryModel$Patch;[I)V"⟩
abbrev cX15_applied : ByteArray := prog_14_method_33_code
def yX15_applied : MethodName := ⟨RX15, "applied", "(LPatchferryModel$Patch;)[I"⟩
abbrev cX15_bytesOf : ByteArray := prog_14_method_34_code
def yX15_bytesOf : MethodName := ⟨RX15, "bytesOf", "(LPatchferryModel$Step;[I)[I"⟩
abbrev cX15_keep_ : ByteArray := prog_14_method_35_code
def yX15_keep_ : MethodName := ⟨RX15, "keep", "(LPatchferryModel$Patch;)I"⟩
abbrev cX15_make : ByteArray := prog_14_method_36_code
def yX15_make : MethodName := ⟨RX15, "make", "(II)I"⟩
abbrev cX15_isPatch : ByteArray := prog_14_method_37_code
def yX15_isPatch : MethodName := ⟨RX15, "isPatch", "(I)Z"⟩
abbrev cX15_failsPatch : ByteArray := prog_14_method_38_code
def yX15_failsPatch : MethodName := ⟨RX15, "failsPatch", "(I)Z"⟩
abbrev cX15_failsStep : ByteArray := prog_14_method_39_code
def yX15_failsStep : MethodName := ⟨RX15, "failsStep", "(II)Z"⟩
abbrev cX15_operations : ByteArray := prog_14_method_40_code
def yX15_operations : MethodName := ⟨RX15, "operations", "(I)I"⟩
abbrev cX15_kindOf : ByteArray := prog_14_method_41_code
def yX15_kindOf : MethodName := ⟨RX15, "kindOf", "(II)C"⟩
abbrev cX15_fromOf : ByteArray := prog_14_method_42_code
def yX15_fromOf : MethodName := ⟨RX15, "fromOf", "(II)I"⟩
abbrev cX15_lengthOf : ByteArray := prog_14_method_43_code
def yX15_lengthOf : MethodName := ⟨RX15, "lengthOf", "(II)I"⟩
abbrev cX15_changed : ByteArray := prog_14_method_44_code
def yX15_changed : MethodName := ⟨RX15, "changed", "(LPatchferryModel$Step;)I"⟩
abbrev cX15_text : ByteArray := prog_14_method_45_code
def yX15_text : MethodName := ⟨RX15, "text", "(LPatchferryModel$Patch;)Ljava/lang/String;"⟩
abbrev cX15_signAt : ByteArray := prog_14_method_46_code
def yX15_signAt : MethodName := ⟨RX15, "signAt", "(II)C"⟩
abbrev cX15_taken : ByteArray := prog_14_method_47_code
def yX15_taken : MethodName := ⟨RX15, "taken", "(I)I"⟩
abbrev cX15_bytes : ByteArray := prog_14_method_48_code
def yX15_bytes : MethodName := ⟨RX15, "bytes", "(LPatchferryModel$Patch;)I"⟩
abbrev cX15_bytes_ : ByteArray := prog_14_method_49_code
def yX15_bytes_ : MethodName := ⟨RX15, "bytes", "(I)I"⟩
abbrev cX15_failsMade : ByteArray := prog_14_method_50_code
def yX15_failsMade : MethodName := ⟨RX15, "failsMade", "([II)Z"⟩
abbrev cX15_apply : ByteArray := prog_14_method_51_code
def yX15_apply : MethodName := ⟨RX15, "apply", "(II)I"⟩
abbrev cX15_piece : ByteArray := prog_14_method_52_code
def yX15_piece : MethodName := ⟨RX15, "piece", "(LPatchferryModel$Patch;LPatchferryModel$Step;LPatchferryModel$Patch;)V"⟩
abbrev cX15_composed : ByteArray := prog_14_method_53_code
def yX15_composed : MethodName := ⟨RX15, "composed", "(LPatchferryModel$Patch;LPatchferryModel$Patch;)LPatchferryModel$Patch;"⟩
abbrev cX15_failsPatches : ByteArray := prog_14_method_54_code
def yX15_failsPatches : MethodName := ⟨RX15, "failsPatches", "(II)Z"⟩
abbrev cX15_compose : ByteArray := prog_14_method_55_code
def yX15_compose : MethodName := ⟨RX15, "compose", "(II)I"⟩
abbrev cX15_addGap : ByteArray := prog_14_method_56_code
def yX15_addGap : MethodName := ⟨RX15, "addGap", "(Ljava/util/ArrayList;II[I)V"⟩
abbrev cX15_edits : ByteArray := prog_14_method_57_code
def yX15_edits : MethodName := ⟨RX15, "edits", "(LPatchferryModel$Patch;)Ljava/util/ArrayList;"⟩
abbrev cX15_clashOf : ByteArray := prog_14_method_58_code
def yX15_clashOf : MethodName := ⟨RX15, "clashOf", "(Ljava/util/ArrayList;Ljava/util/ArrayList;)I"⟩
abbrev cX15_merge : ByteArray := prog_14_method_59_code
def yX15_merge : MethodName := ⟨RX15, "merge", "(II)I"⟩
abbrev cX15_clash : ByteArray := prog_14_method_60_code
def yX15_clash : MethodName := ⟨RX15, "clash", "()I"⟩
abbrev cX15_piecesOf : ByteArray := prog_14_method_61_code
def yX15_piecesOf : MethodName := ⟨RX15, "piecesOf", "([I)Ljava/util/ArrayList;"⟩
abbrev cX15_pieces : ByteArray := prog_14_method_62_code
def yX15_pieces : MethodName := ⟨RX15, "pieces", "(I)I"⟩
abbrev cX15_pieceLength : ByteArray := prog_14_method_63_code
def yX15_pieceLength : MethodName := ⟨RX15, "pieceLength", "(II)I"⟩
abbrev cX15_find : ByteArray := prog_14_method_64_code
def yX15_find : MethodName := ⟨RX15, "find", "(Ljava/util/ArrayList;[I)I"⟩
abbrev cX15_store : ByteArray := prog_14_method_65_code
def yX15_store : MethodName := ⟨RX15, "store", "(I)I"⟩
abbrev cX15_drop : ByteArray := prog_14_method_66_code
def yX15_drop : MethodName := ⟨RX15, "drop", "(I)I"⟩
abbrev cX15_collect : ByteArray := prog_14_method_67_code
def yX15_collect : MethodName := ⟨RX15, "collect", "()I"⟩
abbrev cX15_stored : ByteArray := prog_14_method_68_code
def yX15_stored : MethodName := ⟨RX15, "stored", "()I"⟩
abbrev cX15_likeness : ByteArray := prog_14_method_69_code
def yX15_likeness : MethodName := ⟨RX15, "likeness", "([I[I)I"⟩
abbrev cX15_likeness_ : ByteArray := prog_14_method_70_code
def yX15_likeness_ : MethodName := ⟨RX15, "likeness", "(II)I"⟩
abbrev cX15_setFolder : ByteArray := prog_14_method_71_code
def yX15_setFolder : MethodName := ⟨RX15, "setFolder", "(II)I"⟩
abbrev cX15_renamed : ByteArray := prog_14_method_72_code
def yX15_renamed : MethodName := ⟨RX15, "renamed", "(I)I"⟩
abbrev cX15_strong : ByteArray := prog_14_method_73_code
def yX15_strong : MethodName := ⟨RX15, "strong", "([IIII)I"⟩
abbrev cX15_weak : ByteArray := prog_14_method_74_code
def yX15_weak : MethodName := ⟨RX15, "weak", "([III)I"⟩
abbrev cX15_look : ByteArray := prog_14_method_75_code
def yX15_look : MethodName := ⟨RX15, "look", "([I[II)V"⟩
abbrev cX15_failsLook : ByteArray := prog_14_method_76_code
def yX15_failsLook : MethodName := ⟨RX15, "failsLook", "(III)Z"⟩
abbrev cX15_literals : ByteArray := prog_14_method_77_code
def yX15_literals : MethodName := ⟨RX15, "literals", "(III)I"⟩
abbrev cX15_falseOnes : ByteArray := prog_14_method_78_code
def yX15_falseOnes : MethodName := ⟨RX15, "falseOnes", "(III)I"⟩
abbrev cX15_wireOf : ByteArray := prog_14_method_79_code
def yX15_wireOf : MethodName := ⟨RX15, "wireOf", "(II)I"⟩
abbrev cX15_wire : ByteArray := prog_14_method_80_code
def yX15_wire : MethodName := ⟨RX15, "wire", "(III)I"⟩
abbrev cX15_bestLength : ByteArray := prog_14_method_81_code
def yX15_bestLength : MethodName := ⟨RX15, "bestLength", "(II)I"⟩
abbrev cX15_labelsOf : ByteArray := prog_14_method_82_code
def yX15_labelsOf : MethodName := ⟨RX15, "labelsOf", "([I)Ljava/util/ArrayList;"⟩
abbrev cX15_labelled : ByteArray := prog_14_method_83_code
def yX15_labelled : MethodName := ⟨RX15, "labelled", "([I)[I"⟩
abbrev cX15_unlabelled : ByteArray := prog_14_method_84_code
def yX15_unlabelled : MethodName := ⟨RX15, "unlabelled", "([I)[I"⟩
abbrev cX15_labels : ByteArray := prog_14_method_85_code
def yX15_labels : MethodName := ⟨RX15, "labels", "(I)I"⟩
abbrev cX15_label : ByteArray := prog_14_method_86_code
def yX15_label : MethodName := ⟨RX15, "label", "(I)I"⟩
abbrev cX15_unlabel : ByteArray := prog_14_method_87_code
def yX15_unlabel : MethodName := ⟨RX15, "unlabel", "(I)I"⟩
abbrev cX15_labelledBytes : ByteArray := prog_14_method_88_code
def yX15_labelledBytes : MethodName := ⟨RX15, "labelledBytes", "(II)I"⟩
abbrev cX15_packed : ByteArray := prog_14_method_89_code
def yX15_packed : MethodName := ⟨RX15, "packed", "([II)[I"⟩
abbrev cX15_unpacked : ByteArray := prog_14_method_90_code
def yX15_unpacked : MethodName := ⟨RX15, "unpacked", "([I)[I"⟩
abbrev cX15_modeOf : ByteArray := prog_14_method_91_code
def yX15_modeOf : MethodName := ⟨RX15, "modeOf", "([I)I"⟩
abbrev cX15_pack : ByteArray := prog_14_method_92_code
def yX15_pack : MethodName := ⟨RX15, "pack", "(II)I"⟩
abbrev cX15_unpack : ByteArray := prog_14_method_93_code
def yX15_unpack : MethodName := ⟨RX15, "unpack", "(I)I"⟩
abbrev cX15_modeOf_ : ByteArray := prog_14_method_94_code
def yX15_modeOf_ : MethodName := ⟨RX15, "modeOf", "(I)I"⟩
abbrev cX15_insideBytes : ByteArray := prog_14_method_95_code
def yX15_insideBytes : MethodName := ⟨RX15, "insideBytes", "(II)I"⟩
abbrev cX15_load : ByteArray := prog_14_method_96_code
def yX15_load : MethodName := ⟨RX15, "load", "(I)I"⟩
abbrev cX15_setCut : ByteArray := prog_14_method_97_code
def yX15_setCut : MethodName := ⟨RX15, "setCut", "(I)I"⟩
abbrev cX15_beginOf : ByteArray := prog_14_method_98_code
def yX15_beginOf : MethodName := ⟨RX15, "beginOf", "(LPatchferryModel$Patch;I)I"⟩
abbrev cX15_hurts : ByteArray := prog_14_method_99_code
def yX15_hurts : MethodName := ⟨RX15, "hurts", "(LPatchferryModel$Patch;II)Z"⟩
abbrev cX15_ordered : ByteArray := prog_14_method_100_code
def yX15_ordered : MethodName := ⟨RX15, "ordered", "(LPatchferryModel$Patch;I)Ljava/util/ArrayList;"⟩
abbrev cX15_bytesOfSet : ByteArray := prog_14_method_101_code
def yX15_bytesOfSet : MethodName := ⟨RX15, "bytesOfSet", "(LPatchferryModel$Patch;I)I"⟩
abbrev cX15_areCopies : ByteArray := prog_14_method_102_code
def yX15_areCopies : MethodName := ⟨RX15, "areCopies", "(LPatchferryModel$Patch;I)Z"⟩
abbrev cX15_goAhead : ByteArray := prog_14_method_103_code
def yX15_goAhead : MethodName := ⟨RX15, "goAhead", "()I"⟩
abbrev cX15_isHalf : ByteArray := prog_14_method_104_code
def yX15_isHalf : MethodName := ⟨RX15, "isHalf", "()Z"⟩
abbrev cX15_lay : ByteArray := prog_14_method_105_code
def yX15_lay : MethodName := ⟨RX15, "lay", "(I)I"⟩
abbrev cX15_goOn : ByteArray := prog_14_method_106_code
def yX15_goOn : MethodName := ⟨RX15, "goOn", "()I"⟩
abbrev cX15_isWhole : ByteArray := prog_14_method_107_code
def yX15_isWhole : MethodName := ⟨RX15, "isWhole", "()Z"⟩
abbrev cX15_savedBytes : ByteArray := prog_14_method_108_code
def yX15_savedBytes : MethodName := ⟨RX15, "savedBytes", "()I"⟩
abbrev cX15_orderAt : ByteArray := prog_14_method_109_code
def yX15_orderAt : MethodName := ⟨RX15, "orderAt", "(I)I"⟩
abbrev cX15_diskLength : ByteArray := prog_14_method_110_code
def yX15_diskLength : MethodName := ⟨RX15, "diskLength", "()I"⟩
abbrev cX15_onDisk : ByteArray := prog_14_method_111_code
def yX15_onDisk : MethodName := ⟨RX15, "onDisk", "(I)I"⟩
abbrev cX15_isOn : ByteArray := prog_14_method_112_code
def yX15_isOn : MethodName := ⟨RX15, "isOn", "(I)Z"⟩
abbrev cX15_version : ByteArray := prog_14_method_113_code
def yX15_version : MethodName := ⟨RX15, "version", "(I)I"⟩
abbrev cX15_isVersion : ByteArray := prog_14_method_114_code
def yX15_isVersion : MethodName := ⟨RX15, "isVersion", "(I)Z"⟩
abbrev cX15_setKey : ByteArray := prog_14_method_115_code
def yX15_setKey : MethodName := ⟨RX15, "setKey", "(IZ)Z"⟩
abbrev cX15_bytesAt : ByteArray := prog_14_method_116_code
def yX15_bytesAt : MethodName := ⟨RX15, "bytesAt", "(I)[I"⟩
abbrev cX15_cost : ByteArray := prog_14_method_117_code
def yX15_cost : MethodName := ⟨RX15, "cost", "(II)I"⟩
abbrev cX15_fetch : ByteArray := prog_14_method_118_code
def yX15_fetch : MethodName := ⟨RX15, "fetch", "(I)I"⟩
abbrev cX15_route : ByteArray := prog_14_method_119_code
def yX15_route : MethodName := ⟨RX15, "route", "(II)I"⟩
abbrev cX15_chain : ByteArray := prog_14_method_120_code
def yX15_chain : MethodName := ⟨RX15, "chain", "(II)I"⟩
abbrev cX15_setCount : ByteArray := prog_14_method_121_code
def yX15_setCount : MethodName := ⟨RX15, "setCount", "(II)I"⟩
abbrev cX15_fleet : ByteArray := prog_14_method_122_code
def yX15_fleet : MethodName := ⟨RX15, "fleet", "(I)I"⟩
abbrev cX15_leaves : ByteArray := prog_14_method_123_code
def yX15_leaves : MethodName := ⟨RX15, "leaves", "([I)I"⟩
abbrev cX15_leafSum : ByteArray := prog_14_method_124_code
def yX15_leafSum : MethodName := ⟨RX15, "leafSum", "([II)I"⟩
abbrev cX15_root : ByteArray := prog_14_method_125_code
def yX15_root : MethodName := ⟨RX15, "root", "([IIJ)J"⟩
abbrev cX15_rootOf : ByteArray := prog_14_method_126_code
def yX15_rootOf : MethodName := ⟨RX15, "rootOf", "(I)J"⟩
abbrev cX15_failsMirror : ByteArray := prog_14_method_127_code
def yX15_failsMirror : MethodName := ⟨RX15, "failsMirror", "(II)Z"⟩
abbrev cX15_isProved : ByteArray := prog_14_method_128_code
def yX15_isProved : MethodName := ⟨RX15, "isProved", "(III)Z"⟩
abbrev cX15_proves : ByteArray := prog_14_method_129_code
def yX15_proves : MethodName := ⟨RX15, "proves", "(III)Z"⟩
abbrev cX15_liar : ByteArray := prog_14_method_130_code
def yX15_liar : MethodName := ⟨RX15, "liar", "(II)I"⟩
abbrev cX15_files : ByteArray := prog_14_method_131_code
def yX15_files : MethodName := ⟨RX15, "files", "()I"⟩
abbrev cX15_sumOf : ByteArray := prog_14_method_132_code
def yX15_sumOf : MethodName := ⟨RX15, "sumOf", "(I)J"⟩
abbrev cX15_share : ByteArray := prog_14_method_133_code
def yX15_share : MethodName := ⟨RX15, "share", "(I)F"⟩
abbrev cX15_meanLength : ByteArray := prog_14_method_134_code
def yX15_meanLength : MethodName := ⟨RX15, "meanLength", "()D"⟩
abbrev cX15_isSound : ByteArray := prog_14_method_135_code
def yX15_isSound : MethodName := ⟨RX15, "isSound", "()Z"⟩
abbrev cJ5_init_d00df : ByteArray := prog_19_method_2_code
def yJ5_init_d00df : MethodName := ⟨RJ5, "<init>", "(I)V"⟩
abbrev cJ5_length_8abf5 : ByteArray := prog_19_method_6_code
def yJ5_length_8abf5 : MethodName := ⟨RJ5, "length", "()I"⟩
abbrev cJ5_ensureCapacityInternal_d00df : ByteArray := prog_19_method_9_code
def yJ5_ensureCapacityInternal_d00df : MethodName := ⟨RJ5, "ensureCapacityInternal", "(I)V"⟩
abbrev cJ5_newCapacity_0f7a4 : ByteArray := prog_19_method_10_code
def yJ5_newCapacity_0f7a4 : MethodName := ⟨RJ5, "newCapacity", "(I)I"⟩
abbrev cJ5_inflate_da8c8 : ByteArray := prog_19_method_11_code
def yJ5_inflate_da8c8 : MethodName := ⟨RJ5, "inflate", "()V"⟩
abbrev cJ5_setLength_d00df : ByteArray := prog_19_method_13_code
def yJ5_setLength_d00df : MethodName := ⟨RJ5, "setLength", "(I)V"⟩
abbrev cJ5_append_cf1ce : ByteArray := prog_19_method_22_code
def yJ5_append_cf1ce : MethodName := ⟨RJ5, "append", "(Ljava/lang/String;)Ljava/lang/AbstractStringBuilder;"⟩
abbrev cJ5_appendNull_278bc : ByteArray := prog_19_method_26_code
def yJ5_appendNull_278bc : MethodName := ⟨RJ5, "appendNull", "()Ljava/lang/AbstractStringBuilder;"⟩
abbrev cJ5_append_3fe6f : ByteArray := prog_19_method_31_code
def yJ5_append_3fe6f : MethodName := ⟨RJ5, "append", "(C)Ljava/lang/AbstractStringBuilder;"⟩
abbrev cJ5_append_c97b9 : ByteArray := prog_19_method_32_code
def yJ5_append_c97b9 : MethodName := ⟨RJ5, "append", "(I)Ljava/lang/AbstractStringBuilder;"⟩
abbrev cJ5_getValue_6d5f1 : ByteArray := prog_19_method_64_code
def yJ5_getValue_6d5f1 : MethodName := ⟨RJ5, "getValue", "()[B"⟩
abbrev cJ5_isLatin1_aae02 : ByteArray := prog_19_method_68_code
def yJ5_isLatin1_aae02 : MethodName := ⟨RJ5, "isLatin1", "()Z"⟩
abbrev cJ5_inflateIfNeededFor_a7421 : ByteArray := prog_19_method_71_code
def yJ5_inflateIfNeededFor_a7421 : MethodName := ⟨RJ5, "inflateIfNeededFor", "(Ljava/lang/String;)V"⟩
abbrev cJ5_putStringAt_47b60 : ByteArray := prog_19_method_73_code
def yJ5_putStringAt_47b60 : MethodName := ⟨RJ5, "putStringAt", "(ILjava/lang/String;)V"⟩
abbrev cJx00060_init_d00df : ByteArray := prog_21_method_3_code
def yJx00060_init_d00df : MethodName := ⟨RJx00060, "<init>", "(I)V"⟩
abbrev cJ6_getChars_ba4f3 : ByteArray := prog_29_method_12_code
def yJ6_getChars_ba4f3 : MethodName := ⟨RJ6, "getChars", "(II[B)I"⟩
abbrev cJ6_stringSize_0f7a4 : ByteArray := prog_29_method_13_code
def yJ6_stringSize_0f7a4 : MethodName := ⟨RJ6, "stringSize", "(I)I"⟩
abbrev cJ6_valueOf_2dffe : ByteArray := prog_29_method_22_code
def yJ6_valueOf_2dffe : MethodName := ⟨RJ6, "valueOf", "(I)Ljava/lang/Integer;"⟩
abbrev cJ6_init_d00df : ByteArray := prog_29_method_23_code
def yJ6_init_d00df : MethodName := ⟨RJ6, "<init>", "(I)V"⟩
abbrev cJ6_intValue_8abf5 : ByteArray := prog_29_method_27_code
def yJ6_intValue_8abf5 : MethodName := ⟨RJ6, "intValue", "()I"⟩
abbrev cJ6_equals_9ea2d : ByteArray := prog_29_method_34_code
def yJ6_equals_9ea2d : MethodName := ⟨RJ6, "equals", "(Ljava/lang/Object;)Z"⟩
abbrev cJ9_abs_0f7a4 : ByteArray := prog_32_method_59_code
def yJ9_abs_0f7a4 : MethodName := ⟨RJ9, "abs", "(I)I"⟩
abbrev cJ9_max_7cf53 : ByteArray := prog_32_method_65_code
def yJ9_max_7cf53 : MethodName := ⟨RJ9, "max", "(II)I"⟩
abbrev cJ9_min_7cf53 : ByteArray := prog_32_method_69_code
def yJ9_min_7cf53 : MethodName := ⟨RJ9, "min", "(II)I"⟩
abbrev cJxd2413_init_da8c8 : ByteArray := prog_33_method_1_code
def yJxd2413_init_da8c8 : MethodName := ⟨RJxd2413, "<init>", "()V"⟩
abbrev cJ0_init_81219 : ByteArray := prog_35_method_53_code
def yJ0_init_81219 : MethodName := ⟨RJ0, "<init>", "(Ljava/lang/StringBuilder;)V"⟩
abbrev cJ0_length_8abf5 : ByteArray := prog_35_method_54_code
def yJ0_length_8abf5 : MethodName := ⟨RJ0, "length", "()I"⟩
abbrev cJ0_isEmpty_aae02 : ByteArray := prog_35_method_55_code
def yJ0_isEmpty_aae02 : MethodName := ⟨RJ0, "isEmpty", "()Z"⟩
abbrev cJ0_charAt_5068e : ByteArray := prog_35_method_56_code
def yJ0_charAt_5068e : MethodName := ⟨RJ0, "charAt", "(I)C"⟩
abbrev cJ0_equals_9ea2d : ByteArray := prog_35_method_66_code
def yJ0_equals_9ea2d : MethodName := ⟨RJ0, "equals", "(Ljava/lang/Object;)Z"⟩
abbrev cJ0_getBytes_840e7 : ByteArray := prog_35_method_147_code
def yJ0_getBytes_840e7 : MethodName := ⟨RJ0, "getBytes", "([BIB)V"⟩
abbrev cJ0_init_db425 : ByteArray := prog_35_method_150_code
def yJ0_init_db425 : MethodName := ⟨RJ0, "<init>", "(Ljava/lang/AbstractStringBuilder;Ljava/lang/Void;)V"⟩
abbrev cJ0_coder_7d493 : ByteArray := prog_35_method_152_code
def yJ0_coder_7d493 : MethodName := ⟨RJ0, "coder", "()B"⟩
abbrev cJ0_isLatin1_aae02 : ByteArray := prog_35_method_154_code
def yJ0_isLatin1_aae02 : MethodName := ⟨RJ0, "isLatin1", "()Z"⟩
abbrev cJ0_checkIndex_df160 : ByteArray := prog_35_method_155_code
def yJ0_checkIndex_df160 : MethodName := ⟨RJ0, "checkIndex", "(II)V"⟩
abbrev cJ0_checkBoundsOffCount_cabcc : ByteArray := prog_35_method_157_code
def yJ0_checkBoundsOffCount_cabcc : MethodName := ⟨RJ0, "checkBoundsOffCount", "(III)I"⟩
abbrev cJ0_checkBoundsBeginEnd_23922 : ByteArray := prog_35_method_158_code
def yJ0_checkBoundsBeginEnd_23922 : MethodName := ⟨RJ0, "checkBoundsBeginEnd", "(III)V"⟩
abbrev cJ4_init_da8c8 : ByteArray := prog_36_method_1_code
def yJ4_init_da8c8 : MethodName := ⟨RJ4, "<init>", "()V"⟩
abbrev cJ4_append_15ec4 : ByteArray := prog_36_method_7_code
def yJ4_append_15ec4 : MethodName := ⟨RJ4, "append", "(Ljava/lang/String;)Ljava/lang/StringBuilder;"⟩
abbrev cJ4_append_cf468 : ByteArray := prog_36_method_14_code
def yJ4_append_cf468 : MethodName := ⟨RJ4, "append", "(C)Ljava/lang/StringBuilder;"⟩
abbrev cJ4_append_bf812 : ByteArray := prog_36_method_15_code
def yJ4_append_bf812 : MethodName := ⟨RJ4, "append", "(I)Ljava/lang/StringBuilder;"⟩
abbrev cJ4_toString_0e30d : ByteArray := prog_36_method_42_code
def yJ4_toString_0e30d : MethodName := ⟨RJ4, "toString", "()Ljava/lang/String;"⟩
abbrev cJ4_setLength_d00df : ByteArray := prog_36_method_89_code
def yJ4_setLength_d00df : MethodName := ⟨RJ4, "setLength", "(I)V"⟩
abbrev cJ4_length_8abf5 : ByteArray := prog_36_method_93_code
def yJ4_length_8abf5 : MethodName := ⟨RJ4, "length", "()I"⟩
abbrev cJx7c733_init_d00df : ByteArray := prog_37_method_3_code
def yJx7c733_init_d00df : MethodName := ⟨RJx7c733, "<init>", "(I)V"⟩
abbrev cJ1_charAt_3b067 : ByteArray := prog_38_method_2_code
def yJ1_charAt_3b067 : MethodName := ⟨RJ1, "charAt", "([BI)C"⟩
abbrev cJ1_canEncode_fc78d : ByteArray := prog_38_method_3_code
def yJ1_canEncode_fc78d : MethodName := ⟨RJ1, "canEncode", "(C)Z"⟩
abbrev cJ1_equals_b5fdf : ByteArray := prog_38_method_13_code
def yJ1_equals_b5fdf : MethodName := ⟨RJ1, "equals", "([B[B)Z"⟩
abbrev cJ1_fillNull_b72d1 : ByteArray := prog_38_method_48_code
def yJ1_fillNull_b72d1 : MethodName := ⟨RJ1, "fillNull", "([BII)V"⟩
abbrev cJ1_inflate_0e8fd : ByteArray := prog_38_method_50_code
def yJ1_inflate_0e8fd : MethodName := ⟨RJ1, "inflate", "([BI[BII)V"⟩
abbrev cJ2_newBytesFor_77867 : ByteArray := prog_39_method_2_code
def yJ2_newBytesFor_77867 : MethodName := ⟨RJ2, "newBytesFor", "(I)[B"⟩
abbrev cJ2_newBytesLength_0f7a4 : ByteArray := prog_39_method_3_code
def yJ2_newBytesLength_0f7a4 : MethodName := ⟨RJ2, "newBytesLength", "(I)I"⟩
abbrev cJ2_putChar_b72d1 : ByteArray := prog_39_method_4_code
def yJ2_putChar_b72d1 : MethodName := ⟨RJ2, "putChar", "([BII)V"⟩
abbrev cJ2_getChar_3b067 : ByteArray := prog_39_method_5_code
def yJ2_getChar_3b067 : MethodName := ⟨RJ2, "getChar", "([BI)C"⟩
abbrev cJ2_length_9d52b : ByteArray := prog_39_method_6_code
def yJ2_length_9d52b : MethodName := ⟨RJ2, "length", "([B)I"⟩
abbrev cJ2_coderFromArrayLen_85cad : ByteArray := prog_39_method_15_code
def yJ2_coderFromArrayLen_85cad : MethodName := ⟨RJ2, "coderFromArrayLen", "([BI)B"⟩
abbrev cJ2_compress_39247 : ByteArray := prog_39_method_17_code
def yJ2_compress_39247 : MethodName := ⟨RJ2, "compress", "([BII)[B"⟩
abbrev cJ2_compress_5af95 : ByteArray := prog_39_method_22_code
def yJ2_compress_5af95 : MethodName := ⟨RJ2, "compress", "([BI[BII)I"⟩
abbrev cJ2_fillNull_b72d1 : ByteArray := prog_39_method_70_code
def yJ2_fillNull_b72d1 : MethodName := ⟨RJ2, "fillNull", "([BII)V"⟩
abbrev cJ2_putCharSB_b72d1 : ByteArray := prog_39_method_71_code
def yJ2_putCharSB_b72d1 : MethodName := ⟨RJ2, "putCharSB", "([BII)V"⟩
abbrev cJ2_getChars_46870 : ByteArray := prog_39_method_77_code
def yJ2_getChars_46870 : MethodName := ⟨RJ2, "getChars", "(III[B)I"⟩
abbrev cJ2_putCharsAt_cd4e5 : ByteArray := prog_39_method_81_code
def yJ2_putCharsAt_cd4e5 : MethodName := ⟨RJ2, "putCharsAt", "([BICCCC)I"⟩
abbrev cJ2_charAt_3b067 : ByteArray := prog_39_method_83_code
def yJ2_charAt_3b067 : MethodName := ⟨RJ2, "charAt", "([BI)C"⟩
abbrev cJ2_inflate_0e8fd : ByteArray := prog_39_method_86_code
def yJ2_inflate_0e8fd : MethodName := ⟨RJ2, "inflate", "([BI[BII)V"⟩
abbrev cJ2_getChars_ba4f3 : ByteArray := prog_39_method_89_code
def yJ2_getChars_ba4f3 : MethodName := ⟨RJ2, "getChars", "(II[B)I"⟩
abbrev cJ2_checkIndex_2214a : ByteArray := prog_39_method_91_code
def yJ2_checkIndex_2214a : MethodName := ⟨RJ2, "checkIndex", "(I[B)V"⟩
abbrev cJ2_checkBoundsBeginEnd_d044e : ByteArray := prog_39_method_93_code
def yJ2_checkBoundsBeginEnd_d044e : MethodName := ⟨RJ2, "checkBoundsBeginEnd", "(II[B)V"⟩
abbrev cJ2_checkBoundsOffCount_d044e : ByteArray := prog_39_method_94_code
def yJ2_checkBoundsOffCount_d044e : MethodName := ⟨RJ2, "checkBoundsOffCount", "(II[B)V"⟩
abbrev cJxa1e45_init_da8c8 : ByteArray := prog_45_method_1_code
def yJxa1e45_init_da8c8 : MethodName := ⟨RJxa1e45, "<init>", "()V"⟩
abbrev cJxc12de_init_da8c8 : ByteArray := prog_46_method_1_code
def yJxc12de_init_da8c8 : MethodName := ⟨RJxc12de, "<init>", "()V"⟩
abbrev cJx35411_init_45d68 : ByteArray := prog_48_method_1_code
def yJx35411_init_45d68 : MethodName := ⟨RJx35411, "<init>", "(Ljava/util/ArrayList;)V"⟩
abbrev cJx35411_hasNext_aae02 : ByteArray := prog_48_method_2_code
def yJx35411_hasNext_aae02 : MethodName := ⟨RJx35411, "hasNext", "()Z"⟩
abbrev cJx35411_next_0502b : ByteArray := prog_48_method_3_code
def yJx35411_next_0502b : MethodName := ⟨RJx35411, "next", "()Ljava/lang/Object;"⟩
abbrev cJx35411_checkForComodification_da8c8 : ByteArray := prog_48_method_6_code
def yJx35411_checkForComodification_da8c8 : MethodName := ⟨RJx35411, "checkForComodification", "()V"⟩
abbrev cJx4a65c_init_da8c8 : ByteArray := prog_47_method_2_code
def yJx4a65c_init_da8c8 : MethodName := ⟨RJx4a65c, "<init>", "()V"⟩
abbrev cJx4a65c_init_4bcb3 : ByteArray := prog_47_method_3_code
def yJx4a65c_init_4bcb3 : MethodName := ⟨RJx4a65c, "<init>", "(Ljava/util/Collection;)V"⟩
abbrev cJx4a65c_grow_92f84 : ByteArray := prog_47_method_6_code
def yJx4a65c_grow_92f84 : MethodName := ⟨RJx4a65c, "grow", "(I)[Ljava/lang/Object;"⟩
abbrev cJx4a65c_grow_d5877 : ByteArray := prog_47_method_7_code
def yJx4a65c_grow_d5877 : MethodName := ⟨RJx4a65c, "grow", "()[Ljava/lang/Object;"⟩
abbrev cJx4a65c_size_8abf5 : ByteArray := prog_47_method_8_code
def yJx4a65c_size_8abf5 : MethodName := ⟨RJx4a65c, "size", "()I"⟩
abbrev cJx4a65c_isEmpty_aae02 : ByteArray := prog_47_method_9_code
def yJx4a65c_isEmpty_aae02 : MethodName := ⟨RJx4a65c, "isEmpty", "()Z"⟩
abbrev cJx4a65c_indexOf_e47da : ByteArray := prog_47_method_11_code
def yJx4a65c_indexOf_e47da : MethodName := ⟨RJx4a65c, "indexOf", "(Ljava/lang/Object;)I"⟩
abbrev cJx4a65c_indexOfRange_bf822 : ByteArray := prog_47_method_12_code
def yJx4a65c_indexOfRange_bf822 : MethodName := ⟨RJx4a65c, "indexOfRange", "(Ljava/lang/Object;II)I"⟩
abbrev cJx4a65c_toArray_d5877 : ByteArray := prog_47_method_16_code
def yJx4a65c_toArray_d5877 : MethodName := ⟨RJx4a65c, "toArray", "()[Ljava/lang/Object;"⟩
abbrev cJx4a65c_elementData_915e3 : ByteArray := prog_47_method_18_code
def yJx4a65c_elementData_915e3 : MethodName := ⟨RJx4a65c, "elementData", "(I)Ljava/lang/Object;"⟩
abbrev cJx4a65c_get_915e3 : ByteArray := prog_47_method_20_code
def yJx4a65c_get_915e3 : MethodName := ⟨RJx4a65c, "get", "(I)Ljava/lang/Object;"⟩
abbrev cJx4a65c_set_bcc79 : ByteArray := prog_47_method_23_code
def yJx4a65c_set_bcc79 : MethodName := ⟨RJx4a65c, "set", "(ILjava/lang/Object;)Ljava/lang/Object;"⟩
abbrev cJx4a65c_add_72be8 : ByteArray := prog_47_method_24_code
def yJx4a65c_add_72be8 : MethodName := ⟨RJx4a65c, "add", "(Ljava/lang/Object;[Ljava/lang/Object;I)V"⟩
abbrev cJx4a65c_add_9ea2d : ByteArray := prog_47_method_25_code
def yJx4a65c_add_9ea2d : MethodName := ⟨RJx4a65c, "add", "(Ljava/lang/Object;)Z"⟩
abbrev cJx4a65c_add_7a177 : ByteArray := prog_47_method_26_code
def yJx4a65c_add_7a177 : MethodName := ⟨RJx4a65c, "add", "(ILjava/lang/Object;)V"⟩
abbrev cJx4a65c_remove_915e3 : ByteArray := prog_47_method_29_code
def yJx4a65c_remove_915e3 : MethodName := ⟨RJx4a65c, "remove", "(I)Ljava/lang/Object;"⟩
abbrev cJx4a65c_fastRemove_b59b0 : ByteArray := prog_47_method_39_code
def yJx4a65c_fastRemove_b59b0 : MethodName := ⟨RJx4a65c, "fastRemove", "([Ljava/lang/Object;I)V"⟩
abbrev cJx4a65c_clear_da8c8 : ByteArray := prog_47_method_40_code
def yJx4a65c_clear_da8c8 : MethodName := ⟨RJx4a65c, "clear", "()V"⟩
abbrev cJx4a65c_addAll_f0b43 : ByteArray := prog_47_method_41_code
def yJx4a65c_addAll_f0b43 : MethodName := ⟨RJx4a65c, "addAll", "(Ljava/util/Collection;)Z"⟩
abbrev cJx4a65c_rangeCheckForAdd_d00df : ByteArray := prog_47_method_45_code
def yJx4a65c_rangeCheckForAdd_d00df : MethodName := ⟨RJx4a65c, "rangeCheckForAdd", "(I)V"⟩
abbrev cJx4a65c_outOfBoundsMsg_b52d3 : ByteArray := prog_47_method_46_code
def yJx4a65c_outOfBoundsMsg_b52d3 : MethodName := ⟨RJx4a65c, "outOfBoundsMsg", "(I)Ljava/lang/String;"⟩
abbrev cJx4a65c_iterator_32c93 : ByteArray := prog_47_method_55_code
def yJx4a65c_iterator_32c93 : MethodName := ⟨RJx4a65c, "iterator", "()Ljava/util/Iterator;"⟩
abbrev cJ7_rangeCheck_23922 : ByteArray := prog_49_method_30_code
def yJ7_rangeCheck_23922 : MethodName := ⟨RJ7, "rangeCheck", "(III)V"⟩
abbrev cJ7_fill_eb02e : ByteArray := prog_49_method_110_code
def yJ7_fill_eb02e : MethodName := ⟨RJ7, "fill", "([BIIB)V"⟩
abbrev cJ7_copyOf_1904c : ByteArray := prog_49_method_119_code
def yJ7_copyOf_1904c : MethodName := ⟨RJ7, "copyOf", "([Ljava/lang/Object;I)[Ljava/lang/Object;"⟩
abbrev cJ7_copyOf_6403c : ByteArray := prog_49_method_120_code
def yJ7_copyOf_6403c : MethodName := ⟨RJ7, "copyOf", "([Ljava/lang/Object;ILjava/lang/Class;)[Ljava/lang/Object;"⟩
abbrev cJ7_copyOf_9075b : ByteArray := prog_49_method_121_code
def yJ7_copyOf_9075b : MethodName := ⟨RJ7, "copyOf", "([BI)[B"⟩
abbrev cJ7_checkLength_df160 : ByteArray := prog_49_method_131_code
def yJ7_checkLength_df160 : MethodName := ⟨RJ7, "checkLength", "(II)V"⟩
abbrev cJ7_copyOfRange_39247 : ByteArray := prog_49_method_132_code
def yJ7_copyOfRange_39247 : MethodName := ⟨RJ7, "copyOfRange", "([BII)[B"⟩
abbrev cJ7_copyOfRangeByte_39247 : ByteArray := prog_49_method_133_code
def yJ7_copyOfRangeByte_39247 : MethodName := ⟨RJ7, "copyOfRangeByte", "([BII)[B"⟩
abbrev cJ15_checkIndex_7cf53 : ByteArray := prog_54_method_17_code
def yJ15_checkIndex_7cf53 : MethodName := ⟨RJ15, "checkIndex", "(II)I"⟩
abbrev cJ8_newLength_cabcc : ByteArray := prog_57_method_27_code
def yJ8_newLength_cabcc : MethodName := ⟨RJ8, "newLength", "(III)I"⟩
abbrev cJ8_hugeLength_7cf53 : ByteArray := prog_57_method_28_code
def yJ8_hugeLength_7cf53 : MethodName := ⟨RJ8, "hugeLength", "(II)I"⟩
abbrev cJ3_checkIndex_8e157 : ByteArray := prog_58_method_11_code
def yJ3_checkIndex_8e157 : MethodName := ⟨RJ3, "checkIndex", "(IILjava/util/function/BiFunction;)I"⟩
abbrev cJ3_checkFromToIndex_8c36e : ByteArray := prog_58_method_12_code
def yJ3_checkFromToIndex_8c36e : MethodName := ⟨RJ3, "checkFromToIndex", "(IIILjava/util/function/BiFunction;)I"⟩
abbrev cJ3_checkFromIndexSize_8c36e : ByteArray := prog_58_method_13_code
def yJ3_checkFromIndexSize_8c36e : MethodName := ⟨RJ3, "checkFromIndexSize", "(IIILjava/util/function/BiFunction;)I"⟩
abbrev cL_type : ByteArray := method_3_code
def yL_type : MethodName := ⟨RL, "type", "(LPatchferry;I[J)I"⟩
abbrev cL_repeat : ByteArray := method_4_code
def yL_repeat : MethodName := ⟨RL, "repeat", "(LPatchferry;II[J)I"⟩
abbrev cL_quote : ByteArray := method_5_code
def yL_quote : MethodName := ⟨RL, "quote", "(LPatchferry;III[J)I"⟩
abbrev cL_file : ByteArray := method_6_code
def yL_file : MethodName := ⟨RL, "file", "(LPatchferry;[J)I"⟩
abbrev cL_length : ByteArray := method_7_code
def yL_length : MethodName := ⟨RL, "length", "(LPatchferry;I[J)I"⟩
abbrev cL_at : ByteArray := method_8_code
def yL_at : MethodName := ⟨RL, "at", "(LPatchferry;II[J)I"⟩
abbrev cL_isSame : ByteArray := method_9_code
def yL_isSame : MethodName := ⟨RL, "isSame", "(LPatchferry;II[J)I"⟩
abbrev cL_letter : ByteArray := method_10_code
def yL_letter : MethodName := ⟨RL, "letter", "(LPatchferry;C[J)I"⟩
abbrev cL_endAt : ByteArray := method_11_code
def yL_endAt : MethodName := ⟨RL, "endAt", "(LPatchferry;II[J)I"⟩
abbrev cL_matchLength : ByteArray := method_12_code
def yL_matchLength : MethodName := ⟨RL, "matchLength", "(LPatchferry;III[J)I"⟩
abbrev cL_matchPlace : ByteArray := method_13_code
def yL_matchPlace : MethodName := ⟨RL, "matchPlace", "(LPatchferry;III[J)I"⟩
abbrev cL_slack : ByteArray := method_14_code
def yL_slack : MethodName := ⟨RL, "slack", "(LPatchferry;IIII[J)I"⟩
abbrev cL_make : ByteArray := method_15_code
def yL_make : MethodName := ⟨RL, "make", "(LPatchferry;II[J)I"⟩
abbrev cL_operations : ByteArray := method_16_code
def yL_operations : MethodName := ⟨RL, "operations", "(LPatchferry;I[J)I"⟩
abbrev cL_kindOf : ByteArray := method_17_code
def yL_kindOf : MethodName := ⟨RL, "kindOf", "(LPatchferry;II[J)I"⟩
abbrev cL_fromOf : ByteArray := method_18_code
def yL_fromOf : MethodName := ⟨RL, "fromOf", "(LPatchferry;II[J)I"⟩
abbrev cL_lengthOf : ByteArray := method_19_code
def yL_lengthOf : MethodName := ⟨RL, "lengthOf", "(LPatchferry;II[J)I"⟩
abbrev cL_signAt : ByteArray := method_20_code
def yL_signAt : MethodName := ⟨RL, "signAt", "(LPatchferry;II[J)I"⟩
abbrev cL_bytes : ByteArray := method_21_code
def yL_bytes : MethodName := ⟨RL, "bytes", "(LPatchferry;I[J)I"⟩
abbrev cL_apply : ByteArray := method_22_code
def yL_apply : MethodName := ⟨RL, "apply", "(LPatchferry;II[J)I"⟩
abbrev cL_compose : ByteArray := method_23_code
def yL_compose : MethodName := ⟨RL, "compose", "(LPatchferry;II[J)I"⟩
abbrev cL_merge : ByteArray := method_24_code
def yL_merge : MethodName := ⟨RL, "merge", "(LPatchferry;II[J)I"⟩
abbrev cL_clash : ByteArray := method_25_code
def yL_clash : MethodName := ⟨RL, "clash", "(LPatchferry;[J)I"⟩
abbrev cL_pieces : ByteArray := method_26_code
def yL_pieces : MethodName := ⟨RL, "pieces", "(LPatchferry;I[J)I"⟩
abbrev cL_pieceLength : ByteArray := method_27_code
def yL_pieceLength : MethodName := ⟨RL, "pieceLength", "(LPatchferry;II[J)I"⟩
abbrev cL_store : ByteArray := method_28_code
def yL_store : MethodName := ⟨RL, "store", "(LPatchferry;I[J)I"⟩
abbrev cL_drop : ByteArray := method_29_code
def yL_drop : MethodName := ⟨RL, "drop", "(LPatchferry;I[J)I"⟩
abbrev cL_likeness : ByteArray := method_30_code
def yL_likeness : MethodName := ⟨RL, "likeness", "(LPatchferry;II[J)I"⟩
abbrev cL_setFolder : ByteArray := method_31_code
def yL_setFolder : MethodName := ⟨RL, "setFolder", "(LPatchferry;II[J)I"⟩
abbrev cL_renamed : ByteArray := method_32_code
def yL_renamed : MethodName := ⟨RL, "renamed", "(LPatchferry;I[J)I"⟩
abbrev cL_literals : ByteArray := method_33_code
def yL_literals : MethodName := ⟨RL, "literals", "(LPatchferry;III[J)I"⟩
abbrev cL_falseOnes : ByteArray := method_34_code
def yL_falseOnes : MethodName := ⟨RL, "falseOnes", "(LPatchferry;III[J)I"⟩
abbrev cL_wire : ByteArray := method_35_code
def yL_wire : MethodName := ⟨RL, "wire", "(LPatchferry;III[J)I"⟩
abbrev cL_bestLength : ByteArray := method_36_code
def yL_bestLength : MethodName := ⟨RL, "bestLength", "(LPatchferry;II[J)I"⟩
abbrev cL_labels : ByteArray := method_37_code
def yL_labels : MethodName := ⟨RL, "labels", "(LPatchferry;I[J)I"⟩
abbrev cL_label : ByteArray := method_38_code
def yL_label : MethodName := ⟨RL, "label", "(LPatchferry;I[J)I"⟩
abbrev cL_unlabel : ByteArray := method_39_code
def yL_unlabel : MethodName := ⟨RL, "unlabel", "(LPatchferry;I[J)I"⟩
abbrev cL_labelledBytes : ByteArray := method_40_code
def yL_labelledBytes : MethodName := ⟨RL, "labelledBytes", "(LPatchferry;II[J)I"⟩
abbrev cL_pack : ByteArray := method_41_code
def yL_pack : MethodName := ⟨RL, "pack", "(LPatchferry;II[J)I"⟩
abbrev cL_unpack : ByteArray := method_42_code
def yL_unpack : MethodName := ⟨RL, "unpack", "(LPatchferry;I[J)I"⟩
abbrev cL_modeOf : ByteArray := method_43_code
def yL_modeOf : MethodName := ⟨RL, "modeOf", "(LPatchferry;I[J)I"⟩
abbrev cL_insideBytes : ByteArray := method_44_code
def yL_insideBytes : MethodName := ⟨RL, "insideBytes", "(LPatchferry;II[J)I"⟩
abbrev cL_load : ByteArray := method_45_code
def yL_load : MethodName := ⟨RL, "load", "(LPatchferry;I[J)I"⟩
abbrev cL_setCut : ByteArray := method_46_code
def yL_setCut : MethodName := ⟨RL, "setCut", "(LPatchferry;I[J)I"⟩
abbrev cL_lay : ByteArray := method_47_code
def yL_lay : MethodName := ⟨RL, "lay", "(LPatchferry;I[J)I"⟩
abbrev cL_goOn : ByteArray := method_48_code
def yL_goOn : MethodName := ⟨RL, "goOn", "(LPatchferry;[J)I"⟩
abbrev cL_savedBytes : ByteArray := method_49_code
def yL_savedBytes : MethodName := ⟨RL, "savedBytes", "(LPatchferry;[J)I"⟩
abbrev cL_orderAt : ByteArray := method_50_code
def yL_orderAt : MethodName := ⟨RL, "orderAt", "(LPatchferry;I[J)I"⟩
abbrev cL_onDisk : ByteArray := method_51_code
def yL_onDisk : MethodName := ⟨RL, "onDisk", "(LPatchferry;I[J)I"⟩
abbrev cL_isOn : ByteArray := method_52_code
def yL_isOn : MethodName := ⟨RL, "isOn", "(LPatchferry;I[J)I"⟩
abbrev cL_version : ByteArray := method_53_code
def yL_version : MethodName := ⟨RL, "version", "(LPatchferry;I[J)I"⟩
abbrev cL_setKey : ByteArray := method_54_code
def yL_setKey : MethodName := ⟨RL, "setKey", "(LPatchferry;IZ[J)I"⟩
abbrev cL_fetch : ByteArray := method_55_code
def yL_fetch : MethodName := ⟨RL, "fetch", "(LPatchferry;I[J)I"⟩
abbrev cL_route : ByteArray := method_56_code
def yL_route : MethodName := ⟨RL, "route", "(LPatchferry;II[J)I"⟩
abbrev cL_chain : ByteArray := method_57_code
def yL_chain : MethodName := ⟨RL, "chain", "(LPatchferry;II[J)I"⟩
abbrev cL_setCount : ByteArray := method_58_code
def yL_setCount : MethodName := ⟨RL, "setCount", "(LPatchferry;II[J)I"⟩
abbrev cL_fleet : ByteArray := method_59_code
def yL_fleet : MethodName := ⟨RL, "fleet", "(LPatchferry;I[J)I"⟩
abbrev cL_rootOf : ByteArray := method_60_code
def yL_rootOf : MethodName := ⟨RL, "rootOf", "(LPatchferry;I[J)I"⟩
abbrev cL_proves : ByteArray := method_61_code
def yL_proves : MethodName := ⟨RL, "proves", "(LPatchferry;III[J)I"⟩
abbrev cL_liar : ByteArray := method_62_code
def yL_liar : MethodName := ⟨RL, "liar", "(LPatchferry;II[J)I"⟩
abbrev cL_sumOf : ByteArray := method_63_code
def yL_sumOf : MethodName := ⟨RL, "sumOf", "(LPatchferry;I[J)I"⟩
abbrev cL_share : ByteArray := method_64_code
def yL_share : MethodName := ⟨RL, "share", "(LPatchferry;I[D)I"⟩
abbrev cL_meanLength : ByteArray := method_65_code
def yL_meanLength : MethodName := ⟨RL, "meanLength", "(LPatchferry;[D)I"⟩
abbrev cL_law : ByteArray := code
def yL_law : MethodName := ⟨RL, "law", "([I)Z"⟩
def TJ0 : u_T := fun k => match k with
  | 0 => ("java/lang/String", "value", "[B", true)
  | 1 => ("java/lang/String", "coder", "B", true)
  | 2 => ("java/lang/String", "hash", "I", false)
  | _ => ("java/lang/String", "hashIsZero", "Z", false)
def tyJ0 : Nat → FieldType := fun k => match k with
  | 0 => .array .byte
  | 1 => .byte
  | 2 => .int
  | _ => .boolean
abbrev wsJ00 : List Cond := u_ws RJ0 TJ0 4
theorem nmJ0 : ∀ a, a < 4 → ∀ b, b < 4 → a ≠ b → (TJ0 a).2.1 ≠ (TJ0 b).2.1 := by decide +kernel
theorem tyJ0_ok : ∀ k, k < 4 → parseFieldDescriptor (TJ0 k).2.2.1 = some (tyJ0 k) := by decide +kernel
def TJ4 : u_T := fun k => match k with
  | 0 => ("java/lang/AbstractStringBuilder", "value", "[B", false)
  | 1 => ("java/lang/AbstractStringBuilder", "coder", "B", false)
  | 2 => ("java/lang/AbstractStringBuilder", "maybeLatin1", "Z", false)
  | _ => ("java/lang/AbstractStringBuilder", "count", "I", false)
def tyJ4 : Nat → FieldType := fun k => match k with
  | 0 => .array .byte
  | 1 => .byte
  | 2 => .boolean
  | _ => .int
abbrev wsJ40 : List Cond := u_ws RJ4 TJ4 4
theorem nmJ4 : ∀ a, a < 4 → ∀ b, b < 4 → a ≠ b → (TJ4 a).2.1 ≠ (TJ4 b).2.1 := by decide +kernel
theorem tyJ4_ok : ∀ k, k < 4 → parseFieldDescriptor (TJ4 k).2.2.1 = some (tyJ4 k) := by decide +kernel
def TJ6 : u_T := fun k => match k with
  | _ => ("java/lang/Integer", "value", "I", true)
def tyJ6 : Nat → FieldType := fun k => match k with
  | _ => .int
abbrev wsJ60 : List Cond := u_ws RJ6 TJ6 1
theorem nmJ6 : ∀ a, a < 1 → ∀ b, b < 1 → a ≠ b → (TJ6 a).2.1 ≠ (TJ6 b).2.1 := by decide +kernel
theorem tyJ6_ok : ∀ k, k < 1 → parseFieldDescriptor (TJ6 k).2.2.1 = some (tyJ6 k) := by decide +kernel
def TJx00060 : u_T := fun k => match k with
  | 0 => ("java/lang/Throwable", "cause", "Ljava/lang/Throwable;", false)
  | 1 => ("java/lang/Throwable", "stackTrace", "[Ljava/lang/StackTraceElement;", false)
  | 2 => ("java/lang/Throwable", "suppressedExceptions", "Ljava/util/List;", false)
  | 3 => ("java/lang/Throwable", "detailMessage", "Ljava/lang/String;", false)
  | 4 => ("java/lang/Throwable", "backtrace", "Ljava/lang/Object;", false)
  | _ => ("java/lang/Throwable", "depth", "I", false)
def tyJx00060 : Nat → FieldType := fun k => match k with
  | 0 => .object "java/lang/Throwable"
  | 1 => .array (.object "java/lang/StackTraceElement")
  | 2 => .object "java/util/List"
  | 3 => .object "java/lang/String"
  | 4 => .object "java/lang/Object"
  | _ => .int
abbrev wsJx000600 : List Cond := u_ws RJx00060 TJx00060 6
theorem nmJx00060 : ∀ a, a < 6 → ∀ b, b < 6 → a ≠ b → (TJx00060 a).2.1 ≠ (TJx00060 b).2.1 := by decide +kernel
theorem tyJx00060_ok : ∀ k, k < 6 → parseFieldDescriptor (TJx00060 k).2.2.1 = some (tyJx00060 k) := by decide +kernel
def TJx7c733 : u_T := fun k => match k with
  | 0 => ("java/lang/Throwable", "backtrace", "Ljava/lang/Object;", false)
  | 1 => ("java/lang/Throwable", "detailMessage", "Ljava/lang/String;", false)
  | 2 => ("java/lang/Throwable", "cause", "Ljava/lang/Throwable;", false)
  | 3 => ("java/lang/Throwable", "stackTrace", "[Ljava/lang/StackTraceElement;", false)
  | 4 => ("java/lang/Throwable", "depth", "I", false)
  | _ => ("java/lang/Throwable", "suppressedExceptions", "Ljava/util/List;", false)
def tyJx7c733 : Nat → FieldType := fun k => match k with
  | 0 => .object "java/lang/Object"
  | 1 => .object "java/lang/String"
  | 2 => .object "java/lang/Throwable"
  | 3 => .array (.object "java/lang/StackTraceElement")
  | 4 => .int
  | _ => .object "java/util/List"
abbrev wsJx7c7330 : List Cond := u_ws RJx7c733 TJx7c733 6
theorem nmJx7c733 : ∀ a, a < 6 → ∀ b, b < 6 → a ≠ b → (TJx7c733 a).2.1 ≠ (TJx7c733 b).2.1 := by decide +kernel
theorem tyJx7c733_ok : ∀ k, k < 6 → parseFieldDescriptor (TJx7c733 k).2.2.1 = some (tyJx7c733 k) := by decide +kernel
def TJx35411 : u_T := fun k => match k with
  | 0 => ("java/util/ArrayList$Itr", "cursor", "I", false)
  | 1 => ("java/util/ArrayList$Itr", "lastRet", "I", false)
  | 2 => ("java/util/ArrayList$Itr", "expectedModCount", "I", false)
  | _ => ("java/util/ArrayList$Itr", "this$0", "Ljava/util/ArrayList;", true)
def tyJx35411 : Nat → FieldType := fun k => match k with
  | 0 => .int
  | 1 => .int
  | 2 => .int
  | _ => .object "java/util/ArrayList"
abbrev wsJx354110 : List Cond := u_ws RJx35411 TJx35411 4
theorem nmJx35411 : ∀ a, a < 4 → ∀ b, b < 4 → a ≠ b → (TJx35411 a).2.1 ≠ (TJx35411 b).2.1 := by decide +kernel
theorem tyJx35411_ok : ∀ k, k < 4 → parseFieldDescriptor (TJx35411 k).2.2.1 = some (tyJx35411 k) := by decide +kernel
def TJx4a65c : u_T := fun k => match k with
  | 0 => ("java/util/AbstractList", "modCount", "I", false)
  | 1 => ("java/util/ArrayList", "elementData", "[Ljava/lang/Object;", false)
  | _ => ("java/util/ArrayList", "size", "I", false)
def tyJx4a65c : Nat → FieldType := fun k => match k with
  | 0 => .int
  | 1 => .array (.object "java/lang/Object")
  | _ => .int
abbrev wsJx4a65c0 : List Cond := u_ws RJx4a65c TJx4a65c 3
theorem nmJx4a65c : ∀ a, a < 3 → ∀ b, b < 3 → a ≠ b → (TJx4a65c a).2.1 ≠ (TJx4a65c b).2.1 := by decide +kernel
theorem tyJx4a65c_ok : ∀ k, k < 3 → parseFieldDescriptor (TJx4a65c k).2.2.1 = some (tyJx4a65c k) := by decide +kernel
def TX0 : u_T := fun k => match k with
  | 0 => ("Patchferry$Blocks", "weaks", "LPatchferry$Row;", true)
  | 1 => ("Patchferry$Blocks", "strongs", "LPatchferry$Row;", true)
  | 2 => ("Patchferry$Blocks", "plain", "I", false)
  | 3 => ("Patchferry$Blocks", "wrong", "I", false)
  | _ => ("Patchferry$Blocks", "used", "I", false)
def tyX0 : Nat → FieldType := fun k => match k with
  | 0 => .object "Patchferry$Row"
  | 1 => .object "Patchferry$Row"
  | 2 => .int
  | 3 => .int
  | _ => .int
abbrev wsX00 : List Cond := u_ws RX0 TX0 5
theorem nmX0 : ∀ a, a < 5 → ∀ b, b < 5 → a ≠ b → (TX0 a).2.1 ≠ (TX0 b).2.1 := by decide +kernel
theorem tyX0_ok : ∀ k, k < 5 → parseFieldDescriptor (TX0 k).2.2.1 = some (tyX0 k) := by decide +kernel
def TX1 : u_T := fun k => match k with
  | 0 => ("Patchferry$Differ", "before", "LPatchferry$Runs;", true)
  | 1 => ("Patchferry$Differ", "after", "LPatchferry$Runs;", true)
  | 2 => ("Patchferry$Differ", "spot", "I", false)
  | 3 => ("Patchferry$Differ", "foundSize", "I", false)
  | 4 => ("Patchferry$Differ", "foundFrom", "I", false)
  | 5 => ("Patchferry$Differ", "stretched", "I", false)
  | 6 => ("Patchferry$Differ", "unlike", "I", false)
  | 7 => ("Patchferry$Differ", "from", "I", false)
  | 8 => ("Patchferry$Differ", "size", "I", false)
  | _ => ("Patchferry$Differ", "changed", "I", false)
def tyX1 : Nat → FieldType := fun k => match k with
  | 0 => .object "Patchferry$Runs"
  | 1 => .object "Patchferry$Runs"
  | 2 => .int
  | 3 => .int
  | 4 => .int
  | 5 => .int
  | 6 => .int
  | 7 => .int
  | 8 => .int
  | _ => .int
abbrev wsX10 : List Cond := u_ws RX1 TX1 10
theorem nmX1 : ∀ a, a < 10 → ∀ b, b < 10 → a ≠ b → (TX1 a).2.1 ≠ (TX1 b).2.1 := by decide +kernel
theorem tyX1_ok : ∀ k, k < 10 → parseFieldDescriptor (TX1 k).2.2.1 = some (tyX1 k) := by decide +kernel
def TX2 : u_T := fun k => match k with
  | 0 => ("Patchferry$Disk", "cells", "LPatchferry$Row;", true)
  | 1 => ("Patchferry$Disk", "ahead", "LPatchferry$Row;", true)
  | 2 => ("Patchferry$Disk", "hand", "LPatchferry$Row;", true)
  | 3 => ("Patchferry$Disk", "begins", "LPatchferry$Row;", true)
  | 4 => ("Patchferry$Disk", "needs", "LPatchferry$Row;", true)
  | 5 => ("Patchferry$Disk", "order", "LPatchferry$Row;", true)
  | 6 => ("Patchferry$Disk", "laid", "LPatchferry$Patch;", false)
  | 7 => ("Patchferry$Disk", "isLaid", "Z", false)
  | 8 => ("Patchferry$Disk", "saved", "I", false)
  | 9 => ("Patchferry$Disk", "savedSize", "I", false)
  | 10 => ("Patchferry$Disk", "done", "I", false)
  | _ => ("Patchferry$Disk", "cut", "I", false)
def tyX2 : Nat → FieldType := fun k => match k with
  | 0 => .object "Patchferry$Row"
  | 1 => .object "Patchferry$Row"
  | 2 => .object "Patchferry$Row"
  | 3 => .object "Patchferry$Row"
  | 4 => .object "Patchferry$Row"
  | 5 => .object "Patchferry$Row"
  | 6 => .object "Patchferry$Patch"
  | 7 => .boolean
  | 8 => .int
  | 9 => .int
  | 10 => .int
  | _ => .int
abbrev wsX20 : List Cond := u_ws RX2 TX2 12
theorem nmX2 : ∀ a, a < 12 → ∀ b, b < 12 → a ≠ b → (TX2 a).2.1 ≠ (TX2 b).2.1 := by decide +kernel
theorem tyX2_ok : ∀ k, k < 12 → parseFieldDescriptor (TX2 k).2.2.1 = some (tyX2 k) := by decide +kernel
def TX3 : u_T := fun k => match k with
  | 0 => ("Patchferry$Edits", "froms", "LPatchferry$Row;", true)
  | 1 => ("Patchferry$Edits", "tos", "LPatchferry$Row;", true)
  | 2 => ("Patchferry$Edits", "begins", "LPatchferry$Row;", true)
  | _ => ("Patchferry$Edits", "values", "LPatchferry$Row;", true)
def tyX3 : Nat → FieldType := fun k => match k with
  | 0 => .object "Patchferry$Row"
  | 1 => .object "Patchferry$Row"
  | 2 => .object "Patchferry$Row"
  | _ => .object "Patchferry$Row"
abbrev wsX30 : List Cond := u_ws RX3 TX3 4
theorem nmX3 : ∀ a, a < 4 → ∀ b, b < 4 → a ≠ b → (TX3 a).2.1 ≠ (TX3 b).2.1 := by decide +kernel
theorem tyX3_ok : ∀ k, k < 4 → parseFieldDescriptor (TX3 k).2.2.1 = some (tyX3 k) := by decide +kernel
def TX4 : u_T := fun k => match k with
  | 0 => ("Patchferry$Patch", "froms", "LPatchferry$Row;", true)
  | 1 => ("Patchferry$Patch", "sizes", "LPatchferry$Row;", true)
  | 2 => ("Patchferry$Patch", "adds", "LPatchferry$Row;", true)
  | _ => ("Patchferry$Patch", "base", "LPatchferry$Row;", false)
def tyX4 : Nat → FieldType := fun k => match k with
  | 0 => .object "Patchferry$Row"
  | 1 => .object "Patchferry$Row"
  | 2 => .object "Patchferry$Row"
  | _ => .object "Patchferry$Row"
abbrev wsX40 : List Cond := u_ws RX4 TX4 4
theorem nmX4 : ∀ a, a < 4 → ∀ b, b < 4 → a ≠ b → (TX4 a).2.1 ≠ (TX4 b).2.1 := by decide +kernel
theorem tyX4_ok : ∀ k, k < 4 → parseFieldDescriptor (TX4 k).2.2.1 = some (tyX4 k) := by decide +kernel
def TX5 : u_T := fun k => match k with
  | 0 => ("Patchferry$Program", "marks", "LPatchferry$Row;", true)
  | _ => ("Patchferry$Program", "places", "LPatchferry$Row;", true)
def tyX5 : Nat → FieldType := fun k => match k with
  | 0 => .object "Patchferry$Row"
  | _ => .object "Patchferry$Row"
abbrev wsX50 : List Cond := u_ws RX5 TX5 2
theorem nmX5 : ∀ a, a < 2 → ∀ b, b < 2 → a ≠ b → (TX5 a).2.1 ≠ (TX5 b).2.1 := by decide +kernel
theorem tyX5_ok : ∀ k, k < 2 → parseFieldDescriptor (TX5 k).2.2.1 = some (tyX5 k) := by decide +kernel
def TX6 : u_T := fun k => match k with
  | 0 => ("Patchferry$Row", "cells", "[I", true)
  | _ => ("Patchferry$Row", "size", "I", false)
def tyX6 : Nat → FieldType := fun k => match k with
  | 0 => .array .int
  | _ => .int
abbrev wsX60 : List Cond := u_ws RX6 TX6 2
theorem nmX6 : ∀ a, a < 2 → ∀ b, b < 2 → a ≠ b → (TX6 a).2.1 ≠ (TX6 b).2.1 := by decide +kernel
theorem tyX6_ok : ∀ k, k < 2 → parseFieldDescriptor (TX6 k).2.2.1 = some (tyX6 k) := by decide +kernel
def TX7 : u_T := fun k => match k with
  | 0 => ("Patchferry$Runs", "values", "LPatchferry$Row;", true)
  | _ => ("Patchferry$Runs", "ends", "LPatchferry$Row;", true)
def tyX7 : Nat → FieldType := fun k => match k with
  | 0 => .object "Patchferry$Row"
  | _ => .object "Patchferry$Row"
abbrev wsX70 : List Cond := u_ws RX7 TX7 2
theorem nmX7 : ∀ a, a < 2 → ∀ b, b < 2 → a ≠ b → (TX7 a).2.1 ≠ (TX7 b).2.1 := by decide +kernel
theorem tyX7_ok : ∀ k, k < 2 → parseFieldDescriptor (TX7 k).2.2.1 = some (tyX7 k) := by decide +kernel
def TX8 : u_T := fun k => match k with
  | 0 => ("Patchferry$Store", "texts", "Ljava/util/ArrayList;", true)
  | 1 => ("Patchferry$Store", "cuts", "Ljava/util/ArrayList;", true)
  | 2 => ("Patchferry$Store", "none", "LPatchferry$Row;", true)
  | 3 => ("Patchferry$Store", "homes", "LPatchferry$Row;", true)
  | 4 => ("Patchferry$Store", "starts", "LPatchferry$Row;", true)
  | 5 => ("Patchferry$Store", "sizes", "LPatchferry$Row;", true)
  | 6 => ("Patchferry$Store", "sums", "LPatchferry$Row;", true)
  | 7 => ("Patchferry$Store", "uses", "LPatchferry$Row;", true)
  | 8 => ("Patchferry$Store", "kept", "LPatchferry$Row;", true)
  | 9 => ("Patchferry$Store", "isStored", "LPatchferry$Row;", true)
  | 10 => ("Patchferry$Store", "folders", "LPatchferry$Row;", true)
  | 11 => ("Patchferry$Store", "numbers", "LPatchferry$Row;", true)
  | 12 => ("Patchferry$Store", "marks", "LPatchferry$Row;", true)
  | _ => ("Patchferry$Store", "grid", "LPatchferry$Row;", true)
def tyX8 : Nat → FieldType := fun k => match k with
  | 0 => .object "java/util/ArrayList"
  | 1 => .object "java/util/ArrayList"
  | 2 => .object "Patchferry$Row"
  | 3 => .object "Patchferry$Row"
  | 4 => .object "Patchferry$Row"
  | 5 => .object "Patchferry$Row"
  | 6 => .object "Patchferry$Row"
  | 7 => .object "Patchferry$Row"
  | 8 => .object "Patchferry$Row"
  | 9 => .object "Patchferry$Row"
  | 10 => .object "Patchferry$Row"
  | 11 => .object "Patchferry$Row"
  | 12 => .object "Patchferry$Row"
  | _ => .object "Patchferry$Row"
abbrev wsX80 : List Cond := u_ws RX8 TX8 14
theorem nmX8 : ∀ a, a < 14 → ∀ b, b < 14 → a ≠ b → (TX8 a).2.1 ≠ (TX8 b).2.1 := by decide +kernel
theorem tyX8_ok : ∀ k, k < 14 → parseFieldDescriptor (TX8 k).2.2.1 = some (tyX8 k) := by decide +kernel
def TX9 : u_T := fun k => match k with
  | _ => ("Patchferry$Tree", "sums", "LPatchferry$Row;", true)
def tyX9 : Nat → FieldType := fun k => match k with
  | _ => .object "Patchferry$Row"
abbrev wsX90 : List Cond := u_ws RX9 TX9 1
theorem nmX9 : ∀ a, a < 1 → ∀ b, b < 1 → a ≠ b → (TX9 a).2.1 ≠ (TX9 b).2.1 := by decide +kernel
theorem tyX9_ok : ∀ k, k < 1 → parseFieldDescriptor (TX9 k).2.2.1 = some (tyX9 k) := by decide +kernel
def TX10 : u_T := fun k => match k with
  | 0 => ("Patchferry$Versions", "texts", "Ljava/util/ArrayList;", true)
  | 1 => ("Patchferry$Versions", "none", "LPatchferry$Row;", true)
  | 2 => ("Patchferry$Versions", "keys", "LPatchferry$Row;", true)
  | 3 => ("Patchferry$Versions", "counts", "LPatchferry$Row;", true)
  | 4 => ("Patchferry$Versions", "gains", "LPatchferry$Row;", true)
  | _ => ("Patchferry$Versions", "costs", "LPatchferry$Row;", true)
def tyX10 : Nat → FieldType := fun k => match k with
  | 0 => .object "java/util/ArrayList"
  | 1 => .object "Patchferry$Row"
  | 2 => .object "Patchferry$Row"
  | 3 => .object "Patchferry$Row"
  | 4 => .object "Patchferry$Row"
  | _ => .object "Patchferry$Row"
abbrev wsX100 : List Cond := u_ws RX10 TX10 6
theorem nmX10 : ∀ a, a < 6 → ∀ b, b < 6 → a ≠ b → (TX10 a).2.1 ≠ (TX10 b).2.1 := by decide +kernel
theorem tyX10_ok : ∀ k, k < 6 → parseFieldDescriptor (TX10 k).2.2.1 = some (tyX10 k) := by decide +kernel
def TX11 : u_T := fun k => match k with
  | 0 => ("Patchferry", "texts", "Ljava/util/ArrayList;", true)
  | 1 => ("Patchferry", "patches", "Ljava/util/ArrayList;", true)
  | 2 => ("Patchferry", "buffer", "LPatchferry$Row;", true)
  | 3 => ("Patchferry", "word", "Ljava/lang/StringBuilder;", true)
  | 4 => ("Patchferry", "work", "LPatchferry$Row;", true)
  | 5 => ("Patchferry", "spare", "LPatchferry$Row;", true)
  | 6 => ("Patchferry", "signs", "LPatchferry$Row;", true)
  | 7 => ("Patchferry", "runs", "LPatchferry$Runs;", true)
  | 8 => ("Patchferry", "differ", "LPatchferry$Differ;", true)
  | 9 => ("Patchferry", "link", "LPatchferry$Patch;", true)
  | 10 => ("Patchferry", "mine", "LPatchferry$Edits;", true)
  | 11 => ("Patchferry", "theirs", "LPatchferry$Edits;", true)
  | 12 => ("Patchferry", "shelf", "LPatchferry$Store;", true)
  | 13 => ("Patchferry", "blocks", "LPatchferry$Blocks;", true)
  | 14 => ("Patchferry", "program", "LPatchferry$Program;", true)
  | 15 => ("Patchferry", "disk", "LPatchferry$Disk;", true)
  | 16 => ("Patchferry", "versions", "LPatchferry$Versions;", true)
  | 17 => ("Patchferry", "tree", "LPatchferry$Tree;", true)
  | _ => ("Patchferry", "lastClash", "I", false)
def tyX11 : Nat → FieldType := fun k => match k with
  | 0 => .object "java/util/ArrayList"
  | 1 => .object "java/util/ArrayList"
  | 2 => .object "Patchferry$Row"
  | 3 => .object "java/lang/StringBuilder"
  | 4 => .object "Patchferry$Row"
  | 5 => .object "Patchferry$Row"
  | 6 => .object "Patchferry$Row"
  | 7 => .object "Patchferry$Runs"
  | 8 => .object "Patchferry$Differ"
  | 9 => .object "Patchferry$Patch"
  | 10 => .object "Patchferry$Edits"
  | 11 => .object "Patchferry$Edits"
  | 12 => .object "Patchferry$Store"
  | 13 => .object "Patchferry$Blocks"
  | 14 => .object "Patchferry$Program"
  | 15 => .object "Patchferry$Disk"
  | 16 => .object "Patchferry$Versions"
  | 17 => .object "Patchferry$Tree"
  | _ => .int
abbrev wsX110 : List Cond := u_ws RX11 TX11 19
theorem nmX11 : ∀ a, a < 19 → ∀ b, b < 19 → a ≠ b → (TX11 a).2.1 ≠ (TX11 b).2.1 := by decide +kernel
theorem tyX11_ok : ∀ k, k < 19 → parseFieldDescriptor (TX11 k).2.2.1 = some (tyX11 k) := by decide +kernel
def TX12 : u_T := fun k => match k with
  | 0 => ("PatchferryModel$Edit", "from", "I", true)
  | 1 => ("PatchferryModel$Edit", "to", "I", true)
  | _ => ("PatchferryModel$Edit", "bytes", "[I", true)
def tyX12 : Nat → FieldType := fun k => match k with
  | 0 => .int
  | 1 => .int
  | _ => .array .int
abbrev wsX120 : List Cond := u_ws RX12 TX12 3
theorem nmX12 : ∀ a, a < 3 → ∀ b, b < 3 → a ≠ b → (TX12 a).2.1 ≠ (TX12 b).2.1 := by decide +kernel
theorem tyX12_ok : ∀ k, k < 3 → parseFieldDescriptor (TX12 k).2.2.1 = some (tyX12 k) := by decide +kernel
def TX13 : u_T := fun k => match k with
  | 0 => ("PatchferryModel$Patch", "base", "[I", true)
  | _ => ("PatchferryModel$Patch", "steps", "Ljava/util/ArrayList;", true)
def tyX13 : Nat → FieldType := fun k => match k with
  | 0 => .array .int
  | _ => .object "java/util/ArrayList"
abbrev wsX130 : List Cond := u_ws RX13 TX13 2
theorem nmX13 : ∀ a, a < 2 → ∀ b, b < 2 → a ≠ b → (TX13 a).2.1 ≠ (TX13 b).2.1 := by decide +kernel
theorem tyX13_ok : ∀ k, k < 2 → parseFieldDescriptor (TX13 k).2.2.1 = some (tyX13 k) := by decide +kernel
def TX14 : u_T := fun k => match k with
  | 0 => ("PatchferryModel$Step", "from", "I", true)
  | _ => ("PatchferryModel$Step", "bytes", "[I", true)
def tyX14 : Nat → FieldType := fun k => match k with
  | 0 => .int
  | _ => .array .int
abbrev wsX140 : List Cond := u_ws RX14 TX14 2
theorem nmX14 : ∀ a, a < 2 → ∀ b, b < 2 → a ≠ b → (TX14 a).2.1 ≠ (TX14 b).2.1 := by decide +kernel
theorem tyX14_ok : ∀ k, k < 2 → parseFieldDescriptor (TX14 k).2.2.1 = some (tyX14 k) := by decide +kernel
def TX15 : u_T := fun k => match k with
  | 0 => ("PatchferryModel", "thrown", "I", false)
  | 1 => ("PatchferryModel", "buffer", "[I", false)
  | 2 => ("PatchferryModel", "word", "Ljava/lang/String;", false)
  | 3 => ("PatchferryModel", "files", "Ljava/util/ArrayList;", true)
  | 4 => ("PatchferryModel", "patches", "Ljava/util/ArrayList;", true)
  | 5 => ("PatchferryModel", "clash", "I", false)
  | 6 => ("PatchferryModel", "kept", "Ljava/util/ArrayList;", true)
  | 7 => ("PatchferryModel", "uses", "Ljava/util/ArrayList;", true)
  | 8 => ("PatchferryModel", "isStored", "[Z", true)
  | 9 => ("PatchferryModel", "folders", "[I", true)
  | 10 => ("PatchferryModel", "disk", "[I", false)
  | 11 => ("PatchferryModel", "cut", "I", false)
  | 12 => ("PatchferryModel", "laid", "LPatchferryModel$Patch;", false)
  | 13 => ("PatchferryModel", "saved", "I", false)
  | 14 => ("PatchferryModel", "done", "I", false)
  | 15 => ("PatchferryModel", "order", "Ljava/util/ArrayList;", true)
  | 16 => ("PatchferryModel", "savedRows", "Ljava/util/ArrayList;", true)
  | 17 => ("PatchferryModel", "versions", "Ljava/util/ArrayList;", true)
  | 18 => ("PatchferryModel", "areKeys", "[Z", true)
  | 19 => ("PatchferryModel", "counts", "[I", true)
  | 20 => ("PatchferryModel", "literals", "I", false)
  | 21 => ("PatchferryModel", "falseOnes", "I", false)
  | _ => ("PatchferryModel", "used", "I", false)
def tyX15 : Nat → FieldType := fun k => match k with
  | 0 => .int
  | 1 => .array .int
  | 2 => .object "java/lang/String"
  | 3 => .object "java/util/ArrayList"
  | 4 => .object "java/util/ArrayList"
  | 5 => .int
  | 6 => .object "java/util/ArrayList"
  | 7 => .object "java/util/ArrayList"
  | 8 => .array .boolean
  | 9 => .array .int
  | 10 => .array .int
  | 11 => .int
  | 12 => .object "PatchferryModel$Patch"
  | 13 => .int
  | 14 => .int
  | 15 => .object "java/util/ArrayList"
  | 16 => .object "java/util/ArrayList"
  | 17 => .object "java/util/ArrayList"
  | 18 => .array .boolean
  | 19 => .array .int
  | 20 => .int
  | 21 => .int
  | _ => .int
abbrev wsX150 : List Cond := u_ws RX15 TX15 23
theorem nmX15 : ∀ a, a < 23 → ∀ b, b < 23 → a ≠ b → (TX15 a).2.1 ≠ (TX15 b).2.1 := by decide +kernel
theorem tyX15_ok : ∀ k, k < 23 → parseFieldDescriptor (TX15 k).2.2.1 = some (tyX15 k) := by decide +kernel
abbrev vwCl : List vw_C := [(RJ0, TJ0, 4), (RJ4, TJ4, 4), (RJ6, TJ6, 1), (RJx00060, TJx00060, 6), (RJx7c733, TJx7c733, 6), (RJx35411, TJx35411, 4), (RJx4a65c, TJx4a65c, 3), (RX0, TX0, 5), (RX1, TX1, 10), (RX2, TX2, 12), (RX3, TX3, 4), (RX4, TX4, 4), (RX5, TX5, 2), (RX6, TX6, 2), (RX7, TX7, 2), (RX8, TX8, 14), (RX9, TX9, 1), (RX10, TX10, 6), (RX11, TX11, 19), (RX12, TX12, 3), (RX13, TX13, 2), (RX14, TX14, 2), (RX15, TX15, 23)]
/-- an int array as a cell of a world -/
abbrev wa (a : Nat) (cA : ClassId) (n : Nat) (f : Nat → Int32) : Nat × va_E := (a, .inl (cA, n, .inl f))
/-- the arrays that the worlds hold: of ints, of references to anything -/
abbrev ty0 (cI cO : ClassId) : List (ClassId × FieldType) := [(cI, .int), (cO, .object "java/lang/Object")]
/-- an array of references as a cell of a world -/
abbrev wq (a : Nat) (cA : ClassId) (n : Nat) (f : Nat → Option Nat) : Nat × va_E := (a, .inl (cA, n, .inr (.inr (.inr (.inr f)))))
abbrev wl (a : Nat) (cA : ClassId) (n : Nat) (f : Nat → Int64) : Nat × va_E := (a, .inl (cA, n, .inr (.inl f)))
/-- there is one class of int arrays -/
theorem uc_eq {D : va_G} {cl : List vw_C} {tys : List (ClassId × FieldType)} {U : State} {cA cB : ClassId} (h : va_K D cl tys U) (i j : Nat) (h1 : tys[i]? = some (cA, .int)) (h2 : tys[j]? = some (cB, .int)) : cA = cB := by
  have a : U.vm.findClass ("[" ++ FieldType.int.toString) = some cA := (h.2 i _ h1).2
  have b : U.vm.findClass ("[" ++ FieldType.int.toString) = some cB := (h.2 j _ h2).2
  exact Option.some.inj (a.symm.trans b)
/-- an object of the class may lie in a row of Objects -/
def uA (C : String) (U : State) : Prop := ∀ comp c0 : ClassId, U.vm.findClass "java/lang/Object" = some comp → U.vm.findClass C = some c0 → U.vm.assignable c0 comp = true
theorem uA.moved {C : String} {u U : State} (hvm : u.vm.Alike U.vm) (h : uA C u) : uA C U := by
  intro comp c0 h1 h2
  rw [hvm.findClass] at h1 h2
  rw [hvm.assignable]
  exact h comp c0 h1 h2
theorem uA_int {D : va_G} {cl : List vw_C} {tys : List (ClassId × FieldType)} {ws : va_W} {H : Heap} {s : State} {a n t0 q0 : Nat} {cI : ClassId} {f : Nat → Int32} (hK : va_K D cl tys s) (hP : va_P D cl ws H) (ht : tys[t0]? = some (cI, .int)) (he : ws[q0]? = some (wa a cI n f)) (h : uA "[I" s) : va_Any "java/lang/Object" s H a := by
  have hc : s.vm.findClass ("[" ++ FieldType.int.toString) = some cI := (hK.2 t0 _ ht).2
  have e0 : "[" ++ FieldType.int.toString = "[I" := by decide
  rw [e0] at hc
  obtain ⟨kC, hkC, -⟩ := Vm.findClass_spec hc
  refine ⟨_, hP q0 _ he, rfl, ⟨kC, hkC⟩, fun comp h1 => h comp _ h1 hc⟩
/-- what ArrayList's empty row is: the static that holds it, and the row itself, neither of them ours; what may lie in rows of Objects -/
def uz (z0 : Nat) (A : Nat → Prop) (U : State) : Prop := va_Z "java/util/ArrayList" "DEFAULTCAPACITY_EMPTY_ELEMENTDATA" "[Ljava/lang/Object;" (.ref z0) A U U.heap ∧ (∃ f : Nat → Value, va_T (.object "java/lang/Object") z0 0 f A U U.heap) ∧ va_AO "java/lang/Object" U ∧ uA "Patchferry$Row" U ∧ uA "[I" U ∧ va_Z "java/lang/String" "COMPACT_STRINGS" "Z" (.int (nI 1)) A U U.heap
/-- a method that only reads and hands back a reference -/
def uS_r (post : Nat → Prop) : Array Value → State → Outcome → State → Prop := fun _ st oc t => ∃ k : Nat, oc = .returned (some (.ref k)) ∧ post k ∧ t.heap = st.heap
section UC
variable {p : Program} {l : Launch} {e : Env} {R : Room} {s : State} {m : MethodId} {args : Array Value} {below : List Frame} {meth : Method} {c : Code} {H : Heap} {locs : List Loc} {cells slots : Nat} {Q : State → Prop}
variable {pc : Nat} {ls : Array Slot} {rest st0 : List Value} {a : Array Value}
theorem uc_i {post : Int32 → Prop} (hr : va_Run p l e R s m args below meth c H locs cells slots 0 0 (F0 m pc ls st0) rest (vp_Si post a) (fun _ => False))
    (kk : ∀ r : Int32, post r → W p l e R s m args below meth c H locs cells slots Q (F0 m (pc + 3) ls (.int r :: rest))) : W p l e R s m args below meth c H locs cells slots Q (F0 m pc ls st0) := by
  intro T hT X
  obtain ⟨v, st₀, t, T', L, h0, X', hL, e1, -, ⟨r, hv, hp, hh⟩, st⟩ := hr T hT X
  cases hv
  obtain ⟨t2, a1, b1⟩ := kk r hp T' (by rw [e1, hh, h0]) (Stand.forget X' (fun q h => (hL q h).elim))
  exact ⟨t2, st t2 a1, b1⟩
theorem uc_r {post : Nat → Prop} (hr : va_Run p l e R s m args below meth c H locs cells slots 0 0 (F0 m pc ls st0) rest (uS_r post a) (fun _ => False))
    (kk : ∀ r : Nat, post r → W p l e R s m args below meth c H locs cells slots Q (F0 m (pc + 3) ls (.ref r :: rest))) : W p l e R s m args below meth c H locs cells slots Q (F0 m pc ls st0) := by
  intro T hT X
  obtain ⟨v, st₀, t, T', L, h0, X', hL, e1, -, ⟨r, hv, hp, hh⟩, st⟩ := hr T hT X
  cases hv
  obtain ⟨t2, a1, b1⟩ := kk r hp T' (by rw [e1, hh, h0]) (Stand.forget X' (fun q h => (hL q h).elim))
  exact ⟨t2, st t2 a1, b1⟩
theorem uc_v {post : Unit → Prop} (hr : va_Run p l e R s m args below meth c H locs cells slots 0 0 (F0 m pc ls st0) rest (va_Sv post a) (fun _ => False))
    (kk : W p l e R s m args below meth c H locs cells slots Q (F0 m (pc + 3) ls rest)) : W p l e R s m args below meth c H locs cells slots Q (F0 m pc ls st0) := by
  intro T hT X
  obtain ⟨v, st₀, t, T', L, h0, X', hL, e1, -, ⟨hv, hp, hh⟩, st⟩ := hr T hT X
  cases hv
  obtain ⟨t2, a1, b1⟩ := kk T' (by rw [e1, hh, h0]) (Stand.forget X' (fun q h => (hL q h).elim))
  exact ⟨t2, st t2 a1, b1⟩
end UC
theorem uz.moved {z0 : Nat} {A : Nat → Prop} {U V : State} (h : uz z0 A U) (hvm : U.vm.Alike V.vm) (hh : V.heap = U.heap) : uz z0 A V := by
  obtain ⟨h1, ⟨f, h2⟩, h3, h4, h5, h6⟩ := h
  unfold uz
  rw [hh]
  exact ⟨h1.moved hvm, ⟨f, h2.moved hvm⟩, h3.moved hvm, h4.moved hvm, h5.moved hvm, h6.moved hvm⟩
theorem uz_call {z0 : Nat} {A B : Nat → Prop} {s U : State} {H : Heap} {locs : List Loc} (h : uz z0 A s) (hS : va_S A s.heap H locs) (hF : ∀ q, B q → A q) (hU : U.heap = H) (hvm : s.vm.Alike U.vm) : uz z0 B U := by
  obtain ⟨h1, ⟨f, h2⟩, h3, h4, h5, h6⟩ := h
  unfold uz
  rw [hU]
  exact ⟨((h1.kept hS.2.1).narrow hF).moved hvm, ⟨f, ((h2.kept hS.2.1).narrow hF).moved hvm⟩, h3.moved hvm, h4.moved hvm, h5.moved hvm, ((h6.kept hS.2.1).narrow hF).moved hvm⟩
/-- how far a counter is from its bound -/
def um (x b : Int32) : Nat := (b.toInt - x.toInt).toNat
theorem um_lt {x b : Int32} (h : ¬ b ≤ x) : um (x + 1) b < um x b := by
  have h1 : x.toInt < b.toInt := by
    have : ¬ b.toInt ≤ x.toInt := fun q => h (Int32.le_iff_toInt_le.mpr q)
    omega
  have hb := Int32.toInt_le b
  have hx := Int32.le_toInt x
  have e : (x + 1).toInt = x.toInt + 1 := by
    rw [Int32.toInt_add]
    show (x.toInt + 1).bmod (2 ^ 32) = x.toInt + 1
    exact Int.bmod_eq_of_le (by have : (-2147483648 : Int) ≤ x.toInt := hx; omega) (by have : b.toInt ≤ (2147483647 : Int) := hb; omega)
  unfold um
  rw [e]
  omega
theorem uc_eqO {D : va_G} {cl : List vw_C} {tys : List (ClassId × FieldType)} {U : State} {cA cB : ClassId} {C : String} (h : va_K D cl tys U) (i j : Nat) (h1 : tys[i]? = some (cA, .object C)) (h2 : tys[j]? = some (cB, .object C)) : cA = cB := by
  obtain ⟨_, _, _, _, _, a⟩ := (h.2 i _ h1).2
  obtain ⟨_, _, _, _, _, b⟩ := (h.2 j _ h2).2
  exact Option.some.inj (a.symm.trans b)
end
section
/-! names: picked from the print of the task by wip/whole/names.py -/
theorem dX15_joined_0 : decode cX15_joined 0 = .ok (.aload_n 0, 1) := by decide +kernel
theorem dX15_joined_1 : decode cX15_joined 1 = .ok (.arraylength, 1) := by decide +kernel
theorem dX15_joined_2 : decode cX15_joined 2 = .ok (.aload_n 1, 1) := by decide +kernel
theorem dX15_joined_3 : decode cX15_joined 3 = .ok (.arraylength, 1) := by decide +kernel
theorem dX15_joined_4 : decode cX15_joined 4 = .ok (.iadd, 1) := by decide +kernel
theorem dX15_joined_5 : decode cX15_joined 5 = .ok (.newarray .int, 2) := by decide +kernel
theorem dX15_joined_7 : decode cX15_joined 7 = .ok (.astore_n 2, 1) := by decide +kernel
theorem dX15_joined_8 : decode cX15_joined 8 = .ok (.iconst 0, 1) := by decide +kernel
theorem dX15_joined_9 : decode cX15_joined 9 = .ok (.istore_n 3, 1) := by decide +kernel
theorem dX15_joined_10 : decode cX15_joined 10 = .ok (.iload_n 3, 1) := by decide +kernel
theorem dX15_joined_11 : decode cX15_joined 11 = .ok (.aload_n 2, 1) := by decide +kernel
theorem dX15_joined_12 : decode cX15_joined 12 = .ok (.arraylength, 1) := by decide +kernel
theorem dX15_joined_13 : decode cX15_joined 13 = .ok (.if_icmp .ge 30, 3) := by decide +kernel
theorem dX15_joined_16 : decode cX15_joined 16 = .ok (.aload_n 2, 1) := by decide +kernel
theorem dX15_joined_17 : decode cX15_joined 17 = .ok (.iload_n 3, 1) := by decide +kernel
theorem dX15_joined_18 : decode cX15_joined 18 = .ok (.iload_n 3, 1) := by decide +kernel
theorem dX15_joined_19 : decode cX15_joined 19 = .ok (.aload_n 0, 1) := by decide +kernel
theorem dX15_joined_20 : decode cX15_joined 20 = .ok (.arraylength, 1) := by decide +kernel
theorem dX15_joined_21 : decode cX15_joined 21 = .ok (.if_icmp .ge 9, 3) := by decide +kernel
theorem dX15_joined_24 : decode cX15_joined 24 = .ok (.aload_n 0, 1) := by decide +kernel
theorem dX15_joined_25 : decode cX15_joined 25 = .ok (.iload_n 3, 1) := by decide +kernel
theorem dX15_joined_26 : decode cX15_joined 26 = .ok (.iaload, 1) := by decide +kernel
theorem dX15_joined_27 : decode cX15_joined 27 = .ok (.goto 9, 3) := by decide +kernel
theorem dX15_joined_30 : decode cX15_joined 30 = .ok (.aload_n 1, 1) := by decide +kernel
theorem dX15_joined_31 : decode cX15_joined 31 = .ok (.iload_n 3, 1) := by decide +kernel
theorem dX15_joined_32 : decode cX15_joined 32 = .ok (.aload_n 0, 1) := by decide +kernel
theorem dX15_joined_33 : decode cX15_joined 33 = .ok (.arraylength, 1) := by decide +kernel
theorem dX15_joined_34 : decode cX15_joined 34 = .ok (.isub, 1) := by decide +kernel
theorem dX15_joined_35 : decode cX15_joined 35 = .ok (.iaload, 1) := by decide +kernel
theorem dX15_joined_36 : decode cX15_joined 36 = .ok (.iastore, 1) := by decide +kernel
theorem dX15_joined_37 : decode cX15_joined 37 = .ok (.iinc 3 1, 3) := by decide +kernel
theorem dX15_joined_40 : decode cX15_joined 40 = .ok (.goto (-30), 3) := by decide +kernel
theorem dX15_joined_43 : decode cX15_joined 43 = .ok (.aload_n 2, 1) := by decide +kernel
theorem dX15_joined_44 : decode cX15_joined 44 = .ok (.areturn, 1) := by decide +kernel
theorem dX15_unpacked_0 : decode cX15_unpacked 0 = .ok (.iconst 0, 1) := by decide +kernel
theorem dX15_unpacked_1 : decode cX15_unpacked 1 = .ok (.newarray .int, 2) := by decide +kernel
theorem dX15_unpacked_3 : decode cX15_unpacked 3 = .ok (.astore_n 1, 1) := by decide +kernel
theorem dX15_unpacked_4 : decode cX15_unpacked 4 = .ok (.iconst 0, 1) := by decide +kernel
theorem dX15_unpacked_5 : decode cX15_unpacked 5 = .ok (.istore_n 2, 1) := by decide +kernel
theorem dX15_unpacked_6 : decode cX15_unpacked 6 = .ok (.iload_n 2, 1) := by decide +kernel
theorem dX15_unpacked_7 : decode cX15_unpacked 7 = .ok (.aload_n 0, 1) := by decide +kernel
theorem dX15_unpacked_8 : decode cX15_unpacked 8 = .ok (.arraylength, 1) := by decide +kernel
theorem dX15_unpacked_9 : decode cX15_unpacked 9 = .ok (.if_icmp .ge 95, 3) := by decide +kernel
theorem dX15_unpacked_12 : decode cX15_unpacked 12 = .ok (.aload_n 0, 1) := by decide +kernel
theorem dX15_unpacked_13 : decode cX15_unpacked 13 = .ok (.iload_n 2, 1) := by decide +kernel
theorem dX15_unpacked_14 : decode cX15_unpacked 14 = .ok (.iaload, 1) := by decide +kernel
theorem dX15_unpacked_15 : decode cX15_unpacked 15 = .ok (.sipush 255, 3) := by decide +kernel
theorem dX15_unpacked_18 : decode cX15_unpacked 18 = .ok (.if_icmp .ne 66, 3) := by decide +kernel
theorem dX15_unpacked_21 : decode cX15_unpacked 21 = .ok (.iload_n 2, 1) := by decide +kernel
theorem dX15_unpacked_22 : decode cX15_unpacked 22 = .ok (.iconst 2, 1) := by decide +kernel
theorem dX15_unpacked_23 : decode cX15_unpacked 23 = .ok (.iadd, 1) := by decide +kernel
theorem dX15_unpacked_24 : decode cX15_unpacked 24 = .ok (.aload_n 0, 1) := by decide +kernel
theorem dX15_unpacked_25 : decode cX15_unpacked 25 = .ok (.arraylength, 1) := by decide +kernel
theorem dX15_unpacked_26 : decode cX15_unpacked 26 = .ok (.if_icmp .ge 11, 3) := by decide +kernel
theorem dX15_unpacked_29 : decode cX15_unpacked 29 = .ok (.aload_n 0, 1) := by decide +kernel
theorem dX15_unpacked_30 : decode cX15_unpacked 30 = .ok (.iload_n 2, 1) := by decide +kernel
theorem dX15_unpacked_31 : decode cX15_unpacked 31 = .ok (.iconst 1, 1) := by decide +kernel
theorem dX15_unpacked_32 : decode cX15_unpacked 32 = .ok (.iadd, 1) := by decide +kernel
theorem dX15_unpacked_33 : decode cX15_unpacked 33 = .ok (.iaload, 1) := by decide +kernel
theorem dX15_unpacked_34 : decode cX15_unpacked 34 = .ok (.ifCond .ne 5, 3) := by decide +kernel
theorem dX15_unpacked_37 : decode cX15_unpacked 37 = .ok (.aconst_null, 1) := by decide +kernel
theorem dX15_unpacked_38 : decode cX15_unpacked 38 = .ok (.areturn, 1) := by decide +kernel
theorem dX15_unpacked_39 : decode cX15_unpacked 39 = .ok (.aload_n 0, 1) := by decide +kernel
theorem dX15_unpacked_40 : decode cX15_unpacked 40 = .ok (.iload_n 2, 1) := by decide +kernel
theorem dX15_unpacked_41 : decode cX15_unpacked 41 = .ok (.iconst 1, 1) := by decide +kernel
theorem dX15_unpacked_42 : decode cX15_unpacked 42 = .ok (.iadd, 1) := by decide +kernel
theorem dX15_unpacked_43 : decode cX15_unpacked 43 = .ok (.iaload, 1) := by decide +kernel
theorem dX15_unpacked_44 : decode cX15_unpacked 44 = .ok (.newarray .int, 2) := by decide +kernel
theorem dX15_unpacked_46 : decode cX15_unpacked 46 = .ok (.astore_n 3, 1) := by decide +kernel
theorem dX15_unpacked_47 : decode cX15_unpacked 47 = .ok (.iconst 0, 1) := by decide +kernel
theorem dX15_unpacked_48 : decode cX15_unpacked 48 = .ok (.istore 4, 2) := by decide +kernel
theorem dX15_unpacked_50 : decode cX15_unpacked 50 = .ok (.iload 4, 2) := by decide +kernel
theorem dX15_unpacked_52 : decode cX15_unpacked 52 = .ok (.aload_n 3, 1) := by decide +kernel
theorem dX15_unpacked_53 : decode cX15_unpacked 53 = .ok (.arraylength, 1) := by decide +kernel
theorem dX15_unpacked_54 : decode cX15_unpacked 54 = .ok (.if_icmp .ge 18, 3) := by decide +kernel
theorem dX15_unpacked_57 : decode cX15_unpacked 57 = .ok (.aload_n 3, 1) := by decide +kernel
theorem dX15_unpacked_58 : decode cX15_unpacked 58 = .ok (.iload 4, 2) := by decide +kernel
theorem dX15_unpacked_60 : decode cX15_unpacked 60 = .ok (.aload_n 0, 1) := by decide +kernel
theorem dX15_unpacked_61 : decode cX15_unpacked 61 = .ok (.iload_n 2, 1) := by decide +kernel
theorem dX15_unpacked_62 : decode cX15_unpacked 62 = .ok (.iconst 2, 1) := by decide +kernel
theorem dX15_unpacked_63 : decode cX15_unpacked 63 = .ok (.iadd, 1) := by decide +kernel
theorem dX15_unpacked_64 : decode cX15_unpacked 64 = .ok (.iaload, 1) := by decide +kernel
theorem dX15_unpacked_65 : decode cX15_unpacked 65 = .ok (.iastore, 1) := by decide +kernel
theorem dX15_unpacked_66 : decode cX15_unpacked 66 = .ok (.iinc 4 1, 3) := by decide +kernel
theorem dX15_unpacked_69 : decode cX15_unpacked 69 = .ok (.goto (-19), 3) := by decide +kernel
theorem dX15_unpacked_72 : decode cX15_unpacked 72 = .ok (.aload_n 1, 1) := by decide +kernel
theorem dX15_unpacked_73 : decode cX15_unpacked 73 = .ok (.aload_n 3, 1) := by decide +kernel
theorem dX15_unpacked_74 : decode cX15_unpacked 74 = .ok (.invokestatic 85, 3) := by decide +kernel
theorem dX15_unpacked_77 : decode cX15_unpacked 77 = .ok (.astore_n 1, 1) := by decide +kernel
theorem dX15_unpacked_78 : decode cX15_unpacked 78 = .ok (.iinc 2 3, 3) := by decide +kernel
theorem dX15_unpacked_81 : decode cX15_unpacked 81 = .ok (.goto (-75), 3) := by decide +kernel
theorem dX15_unpacked_84 : decode cX15_unpacked 84 = .ok (.aload_n 1, 1) := by decide +kernel
theorem dX15_unpacked_85 : decode cX15_unpacked 85 = .ok (.iconst 1, 1) := by decide +kernel
theorem dX15_unpacked_86 : decode cX15_unpacked 86 = .ok (.newarray .int, 2) := by decide +kernel
theorem dX15_unpacked_88 : decode cX15_unpacked 88 = .ok (.dup, 1) := by decide +kernel
theorem dX15_unpacked_89 : decode cX15_unpacked 89 = .ok (.iconst 0, 1) := by decide +kernel
theorem dX15_unpacked_90 : decode cX15_unpacked 90 = .ok (.aload_n 0, 1) := by decide +kernel
theorem dX15_unpacked_91 : decode cX15_unpacked 91 = .ok (.iload_n 2, 1) := by decide +kernel
theorem dX15_unpacked_92 : decode cX15_unpacked 92 = .ok (.iaload, 1) := by decide +kernel
theorem dX15_unpacked_93 : decode cX15_unpacked 93 = .ok (.iastore, 1) := by decide +kernel
theorem dX15_unpacked_94 : decode cX15_unpacked 94 = .ok (.invokestatic 85, 3) := by decide +kernel
theorem dX15_unpacked_97 : decode cX15_unpacked 97 = .ok (.astore_n 1, 1) := by decide +kernel
theorem dX15_unpacked_98 : decode cX15_unpacked 98 = .ok (.iinc 2 1, 3) := by decide +kernel
theorem dX15_unpacked_101 : decode cX15_unpacked 101 = .ok (.goto (-95), 3) := by decide +kernel
theorem dX15_unpacked_104 : decode cX15_unpacked 104 = .ok (.aload_n 1, 1) := by decide +kernel
theorem dX15_unpacked_105 : decode cX15_unpacked 105 = .ok (.areturn, 1) := by decide +kernel
/-! THE REFERENCE'S OWN COST: joined and unpacked over a row of 199 bytes 255: what they make, counted from below -/
/-- the words that the two methods need -/
def us_joined : List Cond := .code yX15_joined cX15_joined 4 (some (.array .int)) :: [.arrayClass .int]
def us_unpacked : List Cond := .code yX15_unpacked cX15_unpacked 5 (some (.array .int)) :: [.arrayClass .int, .methodLink RX15 85 yX15_joined, .static yX15_joined, .initialized RX15, .code yX15_joined cX15_joined 4 (some (.array .int))]
theorem ug_unpacked_joined : GoodIn us_unpacked (va_wsS RX15 85 yX15_joined us_joined) := goodIn_p _ [5] rfl (by decide +kernel)
/-- what the joined row holds -/
def jn (f f2 : Nat → Int32) (n j : Nat) : Int32 := if j < n then f j else f2 (j - n)
/-- the loop of joined, up to its end -/
theorem joined_loop {p : Program} {l : Launch} {e : Env} {R : Room} {s : State} {m : MethodId} {args : Array Value} {below : List Frame} {meth : Method} {c : Code} {cells slots : Nat} {Q : State → Prop} {cl : List vw_C} {dC : Nat → ClassId} {dI : Nat → Nat → Nat} {A : Nat → Prop} {H0 : Heap} {a b q n n2 : Nat} {f f2 : Nat → Int32} {cA cB cR : ClassId}
    (hx : p.tables.exec = Jvm.exec) (hb : c.code = cX15_joined) (hn : n + n2 < 2 ^ 31) (hK : va_K (dC, dI) cl [(cA, .int), (cB, .int), (cR, .int)] s)
    (kk : ∀ (g : Nat → Int32) (H : Heap) (locs : List Loc) (ls : Array Slot), (∀ j, j < n + n2 → g j = jn f f2 n j) → va_P (dC, dI) cl [wa a cA n f, wa b cB n2 f2, wa q cR (n + n2) g] H → va_D A [wa a cA n f, wa b cB n2 f2, wa q cR (n + n2) g] → va_S A H0 H locs → lv_has ls 4 [(0, .ref a), (1, .ref b), (2, .ref q), (3, .int (nI (n + n2)))] → W p l e R s m args below meth c H locs cells slots Q (F0 m 43 ls [])) :
    ∀ (k i : Nat), i ≤ n + n2 → n + n2 < i + k → ∀ (g : Nat → Int32) (H : Heap) (locs : List Loc) (ls : Array Slot), (∀ j, j < i → g j = jn f f2 n j) → va_P (dC, dI) cl [wa a cA n f, wa b cB n2 f2, wa q cR (n + n2) g] H → va_D A [wa a cA n f, wa b cB n2 f2, wa q cR (n + n2) g] → va_S A H0 H locs → lv_has ls 4 [(0, .ref a), (1, .ref b), (2, .ref q), (3, .int (nI i))] → W p l e R s m args below meth c H locs cells slots Q (F0 m 10 ls []) := by
  intro k
  induction k with
  | zero => intro i h1 h2; omega
  | succ k ih =>
    intro i hi hk g H locs ls hg hP hD hS hl
    refine lv_iload_n hx hb dX15_joined_10 rfl (lv_at hl 3 rfl) ?_
    refine lv_aload_n hx hb dX15_joined_11 rfl (lv_at hl 2 rfl) ?_
    refine va_alen (D := (dC, dI)) hx hb hK hP 2 2 rfl rfl rfl dX15_joined_12 ?_
    refine lv_icmp_ge (tgt := 43) hx hb dX15_joined_13 (by decide) (fun h => ?_) (fun h => ?_)
    · have hi2 : i = n + n2 := by
        rcases Nat.lt_or_ge i (n + n2) with q1 | q1
        · exact absurd h (nI_ge q1 hn)
        · omega
      subst hi2
      exact kk g H locs ls hg hP hD hS hl
    · have hlt : i < n + n2 := by
        rcases Nat.lt_or_ge i (n + n2) with q1 | q1
        · exact q1
        · exact absurd (nI_le q1 (by omega)) h
      have tail : ∀ x : Int32, x = jn f f2 n i → W p l e R s m args below meth c H locs cells slots Q (F0 m 36 ls [.int x, .int (nI i), .ref q]) := by
        intro x hxj
        refine va_iast (D := (dC, dI)) hx hb hK hP hD hS 2 2 rfl rfl (vp_in_nI hlt hn) dX15_joined_36 (fun H locs hP hD hS => ?_)
        have hP : va_P (dC, dI) cl [wa a cA n f, wa b cB n2 f2, wa q cR (n + n2) (upd g (nI i).toNatClampNeg x)] H := hP
        have hD : va_D A [wa a cA n f, wa b cB n2 f2, wa q cR (n + n2) (upd g (nI i).toNatClampNeg x)] := hD
        refine lv_iinc (v := nI (i + 1)) (lv' := [(3, .int (nI (i + 1))), (0, .ref a), (1, .ref b), (2, .ref q)]) hx hb dX15_joined_37 hl (k := 3) rfl (by rw [nI_succ]; rfl) (by decide) rfl (fun ls hl => ?_)
        refine lv_goto (tgt := 10) hx hb dX15_joined_40 (by decide) ?_
        exact ih (i + 1) (by omega) (by omega) _ H locs ls (fun j hj => by
          rw [nI_clamp (by omega)]
          rcases Nat.lt_or_ge j i with q1 | q1
          · rw [pk_un (by omega)]; exact hg j q1
          · have e0 : j = i := by omega
            subst e0
            rw [pk_us]; exact hxj) hP hD hS (lv_sub hl [1, 2, 3, 0] rfl)
      refine lv_aload_n hx hb dX15_joined_16 rfl (lv_at hl 2 rfl) ?_
      refine lv_iload_n hx hb dX15_joined_17 rfl (lv_at hl 3 rfl) ?_
      refine lv_iload_n hx hb dX15_joined_18 rfl (lv_at hl 3 rfl) ?_
      refine lv_aload_n hx hb dX15_joined_19 rfl (lv_at hl 0 rfl) ?_
      refine va_alen (D := (dC, dI)) hx hb hK hP 0 0 rfl rfl rfl dX15_joined_20 ?_
      refine lv_icmp_ge (tgt := 30) hx hb dX15_joined_21 (by decide) (fun h2 => ?_) (fun h2 => ?_)
      · have hni : n ≤ i := by
          rcases Nat.lt_or_ge i n with q1 | q1
          · exact absurd h2 (nI_ge q1 (by omega))
          · exact q1
        refine lv_aload_n hx hb dX15_joined_30 rfl (lv_at hl 1 rfl) ?_
        refine lv_iload_n hx hb dX15_joined_31 rfl (lv_at hl 3 rfl) ?_
        refine lv_aload_n hx hb dX15_joined_32 rfl (lv_at hl 0 rfl) ?_
        refine va_alen (D := (dC, dI)) hx hb hK hP 0 0 rfl rfl rfl dX15_joined_33 ?_
        refine lv_isub hx hb dX15_joined_34 ?_
        refine lv_topi (fun y ey => ?_)
        have ey2 : y = nI (i - n) := ey.trans (pk_sub hni)
        refine va_iald (D := (dC, dI)) hx hb hK hP 1 1 rfl rfl (by rw [ey2]; exact vp_in_nI (by omega) (by omega)) dX15_joined_35 ?_
        exact tail _ (by rw [ey2, nI_clamp (by omega), jn, if_neg (by omega)])
      · have hni : i < n := by
          rcases Nat.lt_or_ge i n with q1 | q1
          · exact q1
          · exact absurd (nI_le q1 (by omega)) h2
        refine lv_aload_n hx hb dX15_joined_24 rfl (lv_at hl 0 rfl) ?_
        refine lv_iload_n hx hb dX15_joined_25 rfl (lv_at hl 3 rfl) ?_
        refine va_iald (D := (dC, dI)) hx hb hK hP 0 0 rfl rfl (vp_in_nI hni (by omega)) dX15_joined_26 ?_
        refine lv_goto (tgt := 36) hx hb dX15_joined_27 (by decide) ?_
        exact tail _ (by rw [nI_clamp (by omega), jn, if_pos hni])
set_option maxHeartbeats 4000000 in
set_option maxRecDepth 100000 in
/-- joined: a new array as long as both together -/
theorem c_joined (l : Launch) (cl : List vw_C) (dC : Nat → ClassId) (dI : Nat → Nat → Nat) (a b sz n n2 : Nat) (f f2 : Nat → Int32) (cA cB : ClassId) (hn : n + n2 ≤ 134217728) : Met l yX15_joined us_joined ({ frames := 0, cells := 1, slots := n + n2, locals := 0 }) (va_Pc [.ref a, .ref b] (fun U => U.heap.size = sz ∧ va_P (dC, dI) cl [wa a cA n f, wa b cB n2 f2] U.heap ∧ va_K (dC, dI) cl [(cA, .int), (cB, .int)] U ∧ va_D (fun _ => True) [wa a cA n f, wa b cB n2 f2])) (va_Qr (fun u : ClassId × (Nat → Int32) => ∀ j, j < n + n2 → u.2 j = jn f f2 n j) (fun u r t => va_P (dC, dI) cl [wa a cA n f, wa b cB n2 f2, wa r u.1 (n + n2) u.2] t.heap ∧ va_K (dC, dI) cl [(cA, .int), (cB, .int), (u.1, .int)] t ∧ va_D (va_A [wa a cA n f, wa b cB n2 f2] sz) [wa a cA n f, wa b cB n2 f2, wa r u.1 (n + n2) u.2]) (va_A [wa a cA n f, wa b cB n2 f2] sz)) 1 (n + n2) (va_A [wa a cA n f, wa b cB n2 f2] sz) := by
  refine Met.ofW (cc := cX15_joined) (maxL := 4) (ret := (some (.array .int))) (by decide) rfl ?_
  intro p e s m args below meth c s₁ B hml hv
  obtain ⟨rfl, hsz, hP, hK, hD0⟩ := hv
  have hx := B.exec
  have hb := B.bytes
  have hr := B.returns
  have hts := atoms_spec (ws := us_joined) B.pre
  have hlocks := B.notSynchronized
  subst hsz
  have hD := hD0.self (sz := s.heap.size)
  generalize hAe : va_A [wa a cA n f, wa b cB n2 f2] s.heap.size = A at hD ⊢
  have hA : ∀ q : Nat, s.heap.size ≤ q → A q := fun q h => by rw [← hAe]; exact Or.inr h
  have hS : va_S A s.heap s.heap [] := va_S.rf
  have hl := lv_entry ([.ref a, .ref b]) (n := 4) (Nat.le_of_ble_eq_true rfl)
  rw [lg_entry_eq]
  generalize (lg_sl ([.ref a, .ref b]) ++ List.replicate (4 - (lg_sl ([.ref a, .ref b])).length) Slot.unset).toArray = ls at hl ⊢
  have hl : lv_has ls 4 [(0, .ref a), (1, .ref b)] := hl
  refine lv_aload_n hx hb dX15_joined_0 rfl (lv_at hl 0 rfl) ?_
  refine va_alen (D := (dC, dI)) hx hb hK hP 0 0 rfl rfl rfl dX15_joined_1 ?_
  refine lv_aload_n hx hb dX15_joined_2 rfl (lv_at hl 1 rfl) ?_
  refine va_alen (D := (dC, dI)) hx hb hK hP 1 1 rfl rfl rfl dX15_joined_3 ?_
  refine lv_iadd hx hb dX15_joined_4 ?_
  refine lv_topi (fun y ey => ?_)
  have ey2 : y = nI (n + n2) := ey.trans (nI_add n n2)
  refine va_newa (D := (dC, dI)) (atype := .int) (N' := n + n2) (a0 := (n + n2, .inl (fun _ => 0))) hx hb (hts (.arrayClass .int) (by decide +kernel)) rfl hK hP hD hS hA (fun _ => rfl) (by rw [ey2]; exact nI_pos (by omega)) (by rw [ey2]; exact nI_clamp (by omega)) (by show (n + n2) * 4 ≤ 536870912; omega) (Nat.le_refl _) (Nat.le_of_eq (Nat.zero_add _)) dX15_joined_5 (fun q cR H hK hP hD hS => ?_)
  have hP : va_P (dC, dI) cl [wa a cA n f, wa b cB n2 f2, wa q cR (n + n2) (fun _ => 0)] H := hP
  have hD : va_D A [wa a cA n f, wa b cB n2 f2, wa q cR (n + n2) (fun _ => 0)] := hD
  have hK : va_K (dC, dI) cl [(cA, .int), (cB, .int), (cR, .int)] s := hK
  refine lv_astore_n (lv' := [(2, .ref q), (0, .ref a), (1, .ref b)]) hx hb dX15_joined_7 rfl hl (by decide) rfl (fun ls hl => ?_)
  refine lv_iconst (v := 0) hx hb dX15_joined_8 (by decide) ?_
  refine lv_istore_n (lv' := [(3, .int 0), (2, .ref q), (0, .ref a), (1, .ref b)]) hx hb dX15_joined_9 rfl hl (by decide) rfl (fun ls hl => ?_)
  have hl : lv_has ls 4 [(3, .int (nI 0)), (2, .ref q), (0, .ref a), (1, .ref b)] := hl
  refine joined_loop (A := A) (H0 := s.heap) (f := f) (f2 := f2) hx hb (by omega) hK ?_ (n + n2 + 1) 0 (Nat.zero_le _) (by omega) _ H _ ls (fun j hj => absurd hj (by omega)) hP hD hS (lv_sub hl [2, 3, 1, 0] rfl)
  intro g H locs ls hg hP hD hS hl
  refine lv_aload_n hx hb dX15_joined_43 rfl (lv_at hl 2 rfl) ?_
  refine W.widen (k := 1) (n := n + n2) (Nat.le_refl _) (Nat.le_of_eq (Nat.zero_add _)) ?_
  exact W.aret (v := .ref q) hx hb hr (Or.inr ⟨_, rfl⟩) (Or.inr ⟨_, rfl⟩) (fun t ht hW => ⟨⟨(cR, g), q, rfl, hg, by rw [ht]; exact hP, va_K.moved hW.alike hK, hD⟩, hS.F ht⟩) hS.2.2 dX15_joined_44
end
section
/-! unpacked over 199 bytes 255: what it makes, counted from below -/
/-- what an entry of a world has in slots, of arrays alone -/
def ug : va_E → Nat
  | .inl x => x.2.1
  | .inr _ => 0
def us : va_W → Nat := fun ws => (ws.map fun q => ug q.2).sum
theorem us_nil : us [] = 0 := rfl
theorem us_cons (q : Nat × va_E) (ws : va_W) : us (q :: ws) = ug q.2 + us ws := by simp [us]
theorem us_app (a b : va_W) : us (a ++ b) = us a + us b := by simp [us]
theorem us_wa (a : Nat) (cA : ClassId) (n : Nat) (f : Nat → Int32) : ug (wa a cA n f).2 = n := rfl
/-- slots made up to the t-th run -/
def uT : Nat → Nat | 0 => 0 | t + 1 => uT t + 255 + 255 * (t + 1)
theorem uT_le : ∀ t, t < 67 → uT t ≤ 580635 := by decide +kernel
theorem uT_66 : uT 66 = 580635 := by decide +kernel
/-- the loop that fills a run -/
theorem unp_fill {p : Program} {l : Launch} {e : Env} {R : Room} {s : State} {m : MethodId} {args : Array Value} {below : List Frame} {meth : Method} {c : Code} {cells slots : Nat} {Q : State → Prop} {cl : List vw_C} {dC : Nat → ClassId} {dI : Nat → Nat → Nat} {A : Nat → Prop} {H0 : Heap} {a r q nr t : Nat} {f g : Nat → Int32} {cA cR cQ : ClassId} {pl : va_W}
    (hx : p.tables.exec = Jvm.exec) (hb : c.code = cX15_unpacked) (ht : t < 66) (hK : va_K (dC, dI) cl [(cA, .int), (cR, .int), (cQ, .int)] s)
    (kk : ∀ (h : Nat → Int32) (H : Heap) (locs : List Loc) (ls : Array Slot), va_P (dC, dI) cl (wa a cA 199 f :: wa r cR nr g :: wa q cQ 255 h :: pl) H → va_D A (wa a cA 199 f :: wa r cR nr g :: wa q cQ 255 h :: pl) → va_S A H0 H locs → lv_has ls 5 [(0, .ref a), (1, .ref r), (2, .int (nI (3 * t))), (3, .ref q), (4, .int (nI 255))] → W p l e R s m args below meth c H locs cells slots Q (F0 m 72 ls [])) :
    ∀ (k i : Nat), i ≤ 255 → 255 < i + k → ∀ (h : Nat → Int32) (H : Heap) (locs : List Loc) (ls : Array Slot), va_P (dC, dI) cl (wa a cA 199 f :: wa r cR nr g :: wa q cQ 255 h :: pl) H → va_D A (wa a cA 199 f :: wa r cR nr g :: wa q cQ 255 h :: pl) → va_S A H0 H locs → lv_has ls 5 [(0, .ref a), (1, .ref r), (2, .int (nI (3 * t))), (3, .ref q), (4, .int (nI i))] → W p l e R s m args below meth c H locs cells slots Q (F0 m 50 ls []) := by
  intro k
  induction k with
  | zero => intro i h1 h2; omega
  | succ k ih =>
    intro i hi hk h H locs ls hP hD hS hl
    refine lv_iload hx hb dX15_unpacked_50 (lv_at hl 4 rfl) ?_
    refine lv_aload_n hx hb dX15_unpacked_52 rfl (lv_at hl 3 rfl) ?_
    refine va_alen (D := (dC, dI)) hx hb hK hP 2 2 rfl rfl rfl dX15_unpacked_53 ?_
    refine lv_icmp_ge (tgt := 72) hx hb dX15_unpacked_54 (by decide) (fun hc => ?_) (fun hc => ?_)
    · have hi2 : i = 255 := by
        rcases Nat.lt_or_ge i 255 with q1 | q1
        · exact absurd hc (nI_ge q1 (by omega))
        · omega
      subst hi2
      exact kk h H locs ls hP hD hS hl
    · have hlt : i < 255 := by
        rcases Nat.lt_or_ge i 255 with q1 | q1
        · exact q1
        · exact absurd (nI_le q1 (by omega)) hc
      refine lv_aload_n hx hb dX15_unpacked_57 rfl (lv_at hl 3 rfl) ?_
      refine lv_iload hx hb dX15_unpacked_58 (lv_at hl 4 rfl) ?_
      refine lv_aload_n hx hb dX15_unpacked_60 rfl (lv_at hl 0 rfl) ?_
      refine lv_iload_n hx hb dX15_unpacked_61 rfl (lv_at hl 2 rfl) ?_
      refine lv_iconst (v := nI 2) hx hb dX15_unpacked_62 (by decide) ?_
      refine lv_iadd hx hb dX15_unpacked_63 ?_
      refine lv_topi (fun y ey => ?_)
      have ey2 : y = nI (3 * t + 2) := ey.trans (nI_add _ _)
      refine va_iald (D := (dC, dI)) hx hb hK hP 0 0 rfl rfl (by rw [ey2]; exact vp_in_nI (by omega) (by omega)) dX15_unpacked_64 ?_
      refine va_iast (D := (dC, dI)) hx hb hK hP hD hS 2 2 rfl rfl (vp_in_nI hlt (by omega)) dX15_unpacked_65 (fun H locs hP hD hS => ?_)
      refine lv_iinc (v := nI (i + 1)) (lv' := [(4, .int (nI (i + 1))), (0, .ref a), (1, .ref r), (2, .int (nI (3 * t))), (3, .ref q)]) hx hb dX15_unpacked_66 hl (k := 4) rfl (by rw [nI_succ]; rfl) (by decide) rfl (fun ls hl => ?_)
      refine lv_goto (tgt := 50) hx hb dX15_unpacked_69 (by decide) ?_
      exact ih (i + 1) (by omega) (by omega) _ H locs ls hP hD hS (lv_sub hl [1, 2, 3, 4, 0] rfl)
set_option maxHeartbeats 4000000 in
set_option maxRecDepth 100000 in
/-- the outer loop, from the t-th run on, to the 255 that lacks its number -/
theorem unp_loop {p : Program} {l : Launch} {e : Env} {R : Room} {s : State} {m : MethodId} {args : Array Value} {below : List Frame} {meth : Method} {c : Code} {Q : State → Prop} {cl : List vw_C} {dC : Nat → ClassId} {dI : Nat → Nat → Nat} {A : Nat → Prop} {H0 : Heap} {a : Nat} {f : Nat → Int32} {cA : ClassId}
    (hx : p.tables.exec = Jvm.exec) (hb : c.code = cX15_unpacked) (hml : c.maxLocals = 5) (hown : s.vm.findClass RX15 = some m.cls) (hts : ∀ w ∈ us_unpacked, w.before args s = true) (hA : ∀ q : Nat, H0.size ≤ q → A q)
    (hRf : 1 ≤ R.frames) (hRl : 23 ≤ R.locals) (hRc : 133 ≤ R.cells) (hRs : 580635 ≤ R.slots) (hf : ∀ j, j < 199 → f j = 255)
    (kk : ∀ (pl : va_W) (H : Heap) (locs : List Loc) (ls : Array Slot), us pl = 580635 → va_K (dC, dI) cl [(cA, .int)] s → va_P (dC, dI) cl (wa a cA 199 f :: pl) H → va_D A (wa a cA 199 f :: pl) → va_S A H0 H locs → W p l e R s m args below meth c H locs 133 580635 Q (F0 m 37 ls [])) :
    ∀ (k t : Nat), t + k = 66 → ∀ (r : Nat) (cR : ClassId) (g : Nat → Int32) (pl : va_W) (H : Heap) (locs : List Loc) (ls : Array Slot), us pl + 255 * t = uT t → va_K (dC, dI) cl [(cA, .int), (cR, .int)] s → va_P (dC, dI) cl (wa a cA 199 f :: wa r cR (255 * t) g :: pl) H → va_D A (wa a cA 199 f :: wa r cR (255 * t) g :: pl) → va_S A H0 H locs → lv_has ls 5 [(0, .ref a), (1, .ref r), (2, .int (nI (3 * t)))] → W p l e R s m args below meth c H locs (1 + 2 * t) (uT t) Q (F0 m 6 ls []) := by
  intro k
  induction k with
  | zero =>
    intro t ht r cR g pl H locs ls hu hK hP hD hS hl
    have ht66 : t = 66 := by omega
    subst ht66
    refine lv_iload_n hx hb dX15_unpacked_6 rfl (lv_at hl 2 rfl) ?_
    refine lv_aload_n hx hb dX15_unpacked_7 rfl (lv_at hl 0 rfl) ?_
    refine va_alen (D := (dC, dI)) hx hb hK hP 0 0 rfl rfl rfl dX15_unpacked_8 ?_
    refine lv_icmp_ge (tgt := 104) hx hb dX15_unpacked_9 (by decide) (fun hc => absurd hc (nI_ge (a := 3 * 66) (b := 199) (by omega) (by omega))) (fun _ => ?_)
    refine lv_aload_n hx hb dX15_unpacked_12 rfl (lv_at hl 0 rfl) ?_
    refine lv_iload_n hx hb dX15_unpacked_13 rfl (lv_at hl 2 rfl) ?_
    refine va_iald (D := (dC, dI)) hx hb hK hP 0 0 rfl rfl (vp_in_nI (by omega) (by omega)) dX15_unpacked_14 ?_
    refine lv_sipush (v := 255) hx hb dX15_unpacked_15 (by decide) ?_
    refine lv_icmp_ne (tgt := 84) hx hb dX15_unpacked_18 (by decide) (fun hc => absurd (hf _ (by rw [nI_clamp (by omega)]; omega)) hc) (fun _ => ?_)
    refine lv_iload_n hx hb dX15_unpacked_21 rfl (lv_at hl 2 rfl) ?_
    refine lv_iconst (v := nI 2) hx hb dX15_unpacked_22 (by decide) ?_
    refine lv_iadd hx hb dX15_unpacked_23 ?_
    refine lv_topi (fun y ey => ?_)
    have ey2 : y = nI 200 := ey.trans (nI_add _ _)
    refine lv_aload_n hx hb dX15_unpacked_24 rfl (lv_at hl 0 rfl) ?_
    refine va_alen (D := (dC, dI)) hx hb hK hP 0 0 rfl rfl rfl dX15_unpacked_25 ?_
    refine lv_icmp_ge (tgt := 37) hx hb dX15_unpacked_26 (by decide) (fun _ => ?_) (fun hc => absurd (by rw [ey2]; exact nI_le (a := 199) (b := 200) (by omega) (by omega)) hc)
    rw [uT_66]
    refine kk (wa r cR (255 * 66) g :: pl) H locs ls ?_ (hK.sub [0] rfl) hP hD hS
    rw [us_cons, us_wa]
    have := uT_66
    omega
  | succ k ih =>
    intro t ht r cR g pl H locs ls hu hK hP hD hS hl
    have ht66 : t < 66 := by omega
    have huT : uT (t + 1) = uT t + 255 + 255 * (t + 1) := rfl
    have huL := uT_le (t + 1) (by omega)
    refine lv_iload_n hx hb dX15_unpacked_6 rfl (lv_at hl 2 rfl) ?_
    refine lv_aload_n hx hb dX15_unpacked_7 rfl (lv_at hl 0 rfl) ?_
    refine va_alen (D := (dC, dI)) hx hb hK hP 0 0 rfl rfl rfl dX15_unpacked_8 ?_
    refine lv_icmp_ge (tgt := 104) hx hb dX15_unpacked_9 (by decide) (fun hc => absurd hc (nI_ge (a := 3 * t) (b := 199) (by omega) (by omega))) (fun _ => ?_)
    refine lv_aload_n hx hb dX15_unpacked_12 rfl (lv_at hl 0 rfl) ?_
    refine lv_iload_n hx hb dX15_unpacked_13 rfl (lv_at hl 2 rfl) ?_
    refine va_iald (D := (dC, dI)) hx hb hK hP 0 0 rfl rfl (vp_in_nI (by omega) (by omega)) dX15_unpacked_14 ?_
    refine lv_sipush (v := 255) hx hb dX15_unpacked_15 (by decide) ?_
    refine lv_icmp_ne (tgt := 84) hx hb dX15_unpacked_18 (by decide) (fun hc => absurd (hf _ (by rw [nI_clamp (by omega)]; omega)) hc) (fun _ => ?_)
    refine lv_iload_n hx hb dX15_unpacked_21 rfl (lv_at hl 2 rfl) ?_
    refine lv_iconst (v := nI 2) hx hb dX15_unpacked_22 (by decide) ?_
    refine lv_iadd hx hb dX15_unpacked_23 ?_
    refine lv_topi (fun y ey => ?_)
    have ey2 : y = nI (3 * t + 2) := ey.trans (nI_add _ _)
    refine lv_aload_n hx hb dX15_unpacked_24 rfl (lv_at hl 0 rfl) ?_
    refine va_alen (D := (dC, dI)) hx hb hK hP 0 0 rfl rfl rfl dX15_unpacked_25 ?_
    refine lv_icmp_ge (tgt := 37) hx hb dX15_unpacked_26 (by decide) (fun hc => absurd hc (by rw [ey2]; exact nI_ge (a := 3 * t + 2) (b := 199) (by omega) (by omega))) (fun _ => ?_)
    refine lv_aload_n hx hb dX15_unpacked_29 rfl (lv_at hl 0 rfl) ?_
    refine lv_iload_n hx hb dX15_unpacked_30 rfl (lv_at hl 2 rfl) ?_
    refine lv_iconst (v := nI 1) hx hb dX15_unpacked_31 (by decide) ?_
    refine lv_iadd hx hb dX15_unpacked_32 ?_
    refine lv_topi (fun y1 ey1 => ?_)
    have ey3 : y1 = nI (3 * t + 1) := ey1.trans (nI_add _ _)
    have hin1 : vp_in y1 199 := by rw [ey3]; exact vp_in_nI (by omega) (by omega)
    refine va_iald (D := (dC, dI)) hx hb hK hP 0 0 rfl rfl hin1 dX15_unpacked_33 ?_
    have hv1 : f y1.toNatClampNeg = 255 := hf _ (by rw [ey3, nI_clamp (by omega)]; omega)
    rw [hv1]
    refine lv_if_ne (tgt := 39) hx hb dX15_unpacked_34 (by decide) (fun _ => ?_) (fun hc => absurd hc (by decide))
    refine lv_aload_n hx hb dX15_unpacked_39 rfl (lv_at hl 0 rfl) ?_
    refine lv_iload_n hx hb dX15_unpacked_40 rfl (lv_at hl 2 rfl) ?_
    refine lv_iconst (v := nI 1) hx hb dX15_unpacked_41 (by decide) ?_
    refine lv_iadd hx hb dX15_unpacked_42 ?_
    rw [← ey1]
    refine va_iald (D := (dC, dI)) hx hb hK hP 0 0 rfl rfl hin1 dX15_unpacked_43 ?_
    rw [hv1]
    refine va_newa (D := (dC, dI)) (atype := .int) (N' := 255) (a0 := (255, .inl (fun _ => 0))) hx hb (hts (.arrayClass .int) (by decide +kernel)) rfl hK hP hD hS hA (fun _ => rfl) (by decide) (by decide) (by decide) (by omega) (by omega) dX15_unpacked_44 (fun q cQ H hK hP hD hS => ?_)
    have hK : va_K (dC, dI) cl [(cA, .int), (cR, .int), (cQ, .int)] s := hK
    have hpm : ((wa a cA 199 f :: wa r cR (255 * t) g :: pl) ++ [wa q cQ 255 (fun _ => 0)]).Perm (wa a cA 199 f :: wa r cR (255 * t) g :: wa q cQ 255 (fun _ => 0) :: pl) := List.Perm.cons _ (List.Perm.cons _ (List.perm_append_singleton _ _))
    have hP := uv_Pp hpm hP
    have hD := uv_Dp hpm hD
    refine lv_astore_n (lv' := [(3, .ref q), (0, .ref a), (1, .ref r), (2, .int (nI (3 * t)))]) hx hb dX15_unpacked_46 rfl hl (by decide) rfl (fun ls hl => ?_)
    refine lv_iconst (v := nI 0) hx hb dX15_unpacked_47 (by decide) ?_
    refine lv_istore (lv' := [(4, .int (nI 0)), (3, .ref q), (0, .ref a), (1, .ref r), (2, .int (nI (3 * t)))]) hx hb dX15_unpacked_48 hl (by decide) rfl (fun ls hl => ?_)
    refine unp_fill (A := A) (H0 := H0) (g := g) hx hb ht66 hK ?_ 256 0 (by omega) (by omega) _ H _ ls hP hD hS (lv_sub hl [2, 3, 4, 1, 0] rfl)
    intro h H locs ls hP hD hS hl
    refine lv_aload_n hx hb dX15_unpacked_72 rfl (lv_at hl 1 rfl) ?_
    refine lv_aload_n hx hb dX15_unpacked_73 rfl (lv_at hl 3 rfl) ?_
    have hpc : (wa a cA 199 f :: wa r cR (255 * t) g :: wa q cQ 255 h :: pl).Perm ([wa r cR (255 * t) g, wa q cQ 255 h] ++ (wa a cA 199 f :: pl)) := (List.Perm.swap _ _ _).trans (List.Perm.cons _ (List.Perm.swap _ _ _))
    have hPc := uv_Ps (List.sublist_append_left [wa r cR (255 * t) g, wa q cQ 255 h] (wa a cA 199 f :: pl)) (uv_Pp hpc hP)
    have hDc := uv_Ds (List.sublist_append_left [wa r cR (255 * t) g, wa q cQ 255 h] (wa a cA 199 f :: pl)) (uv_Dp hpc hD)
    have hKc := hK.sub (tys' := [(cR, .int), (cQ, .int)]) [1, 2] rfl
    have hFc := uv_free hD hS hA hpc
    refine va_callr (va_runS (As := [.ref r, .ref q]) (rest := []) ⟨hx, hb, hml, hown, hts⟩ (c_joined l cl dC dI r q H.size (255 * t) 255 g h cR cQ (by omega)) (va_cwS 2 hts ug_unpacked_joined rfl rfl rfl (by decide +kernel) ⟨hRf, hRl⟩) ⟨fun a U g mk q => by obtain ⟨q0, q1, qP, qK, qD⟩ := q; exact ⟨q0, q1, qP, va_K.moved (u := U) (U := U.calling g mk a) (Vm.Alike.refl U.vm) qK, qD⟩, fun U hU hW => ⟨rfl, by rw [hU], by rw [hU]; exact hPc, va_K.moved hW.alike hKc, hDc.weaken (fun _ _ _ _ => trivial)⟩⟩ rfl rfl hl.1 rfl (lv_room (Nat.le_of_ble_eq_true rfl)) dX15_unpacked_74 ⟨by omega, by omega⟩) hS (fun q _ h => hFc q h) hFc (fun u rr t1 H1 locs1 ht1 hvm hw hB hz1 hk1 hS => ?_)
    obtain ⟨cR2, g2⟩ := u
    obtain ⟨hP1, hK1, hD1⟩ := hB
    rw [ht1] at hP1
    have hK1 := va_K.moved hvm.symm hK1
    obtain ⟨hP, hD⟩ := uv_join hP hD hpc hk1 hFc hP1 hD1
    have hK := (hK.sub (tys' := [(cA, .int)]) [0] rfl).app (hK1.sub (tys' := [(cR2, .int)]) [2] rfl)
    refine lv_astore_n (lv' := [(1, .ref rr), (0, .ref a), (2, .int (nI (3 * t))), (3, .ref q), (4, .int (nI 255))]) hx hb dX15_unpacked_77 rfl hl (by decide) rfl (fun ls hl => ?_)
    refine lv_iinc (v := nI (3 * (t + 1))) (lv' := [(2, .int (nI (3 * (t + 1)))), (1, .ref rr), (0, .ref a), (3, .ref q), (4, .int (nI 255))]) hx hb dX15_unpacked_78 hl (k := 2) rfl (by rw [show Int32.ofInt 3 = nI 3 from rfl, nI_add]; rfl) (by decide) rfl (fun ls hl => ?_)
    refine lv_goto (tgt := 6) hx hb dX15_unpacked_81 (by decide) ?_
    have hpe : ([wa r cR (255 * t) g, wa q cQ 255 h, wa rr cR2 (255 * t + 255) g2] ++ (wa a cA 199 f :: pl)).Perm (wa a cA 199 f :: wa rr cR2 (255 * (t + 1)) g2 :: wa r cR (255 * t) g :: wa q cQ 255 h :: pl) := by
      have e1 : 255 * (t + 1) = 255 * t + 255 := by omega
      rw [e1]
      refine (List.perm_middle (l₁ := [wa r cR (255 * t) g, wa q cQ 255 h, wa rr cR2 (255 * t + 255) g2])).trans (List.Perm.cons _ ?_)
      exact List.perm_middle (l₁ := [wa r cR (255 * t) g, wa q cQ 255 h]) (l₂ := pl)
    have e2 : 1 + 2 * t + 1 + 1 = 1 + 2 * (t + 1) := by omega
    have e3 : uT t + 255 + (255 * t + 255) = uT (t + 1) := by rw [huT]; omega
    rw [e2, e3]
    exact ih (t + 1) (by omega) rr cR2 g2 (wa r cR (255 * t) g :: wa q cQ 255 h :: pl) H1 locs1 ls (by rw [us_cons, us_cons, us_wa, us_wa, huT]; omega) hK (uv_Pp hpe hP) (uv_Dp hpe hD) hS (lv_sub hl [2, 1, 0] rfl)
/-- a method that answers null, with a list of cells that it made -/
def un_Q (B : va_W → State → Prop) (A : Nat → Prop) : Array Value → State → Outcome → State → Prop := fun _ st oc t => (∃ pl : va_W, oc = .returned (some .null) ∧ B pl t) ∧ va_F A st t
set_option maxHeartbeats 4000000 in
set_option maxRecDepth 100000 in
/-- unpacked of 199 bytes 255: null, and 580635 slots are made -/
theorem c_unpacked (l : Launch) (cl : List vw_C) (dC : Nat → ClassId) (dI : Nat → Nat → Nat) (a sz : Nat) (f : Nat → Int32) (cA : ClassId) (hf : ∀ j, j < 199 → f j = 255) : Met l yX15_unpacked us_unpacked ({ frames := 1, cells := 133, slots := 580635, locals := 23 }) (va_Pc [.ref a] (fun U => U.heap.size = sz ∧ va_P (dC, dI) cl [wa a cA 199 f] U.heap ∧ va_K (dC, dI) cl [(cA, .int)] U ∧ va_D (fun _ => True) [wa a cA 199 f])) (un_Q (fun pl t => us pl = 580635 ∧ va_P (dC, dI) cl (wa a cA 199 f :: pl) t.heap ∧ va_K (dC, dI) cl [(cA, .int)] t ∧ va_D (va_A [wa a cA 199 f] sz) (wa a cA 199 f :: pl)) (va_A [wa a cA 199 f] sz)) 133 580635 (va_A [wa a cA 199 f] sz) := by
  refine Met.ofW (cc := cX15_unpacked) (maxL := 5) (ret := (some (.array .int))) (by decide) rfl ?_
  intro p e s m args below meth c s₁ B hml hv
  obtain ⟨rfl, hsz, hP, hK, hD0⟩ := hv
  have hx := B.exec
  have hb := B.bytes
  have hr := B.returns
  have hts := atoms_spec (ws := us_unpacked) B.pre
  have hown : s.vm.findClass RX15 = some m.cls := findClass_of_methodNamed B.named
  have hlocks := B.notSynchronized
  subst hsz
  have hD := hD0.self (sz := s.heap.size)
  generalize hAe : va_A [wa a cA 199 f] s.heap.size = A at hD ⊢
  have hA : ∀ q : Nat, s.heap.size ≤ q → A q := fun q h => by rw [← hAe]; exact Or.inr h
  have hS : va_S A s.heap s.heap [] := va_S.rf
  have hl := lv_entry ([.ref a]) (n := 5) (Nat.le_of_ble_eq_true rfl)
  rw [lg_entry_eq]
  generalize (lg_sl ([.ref a]) ++ List.replicate (5 - (lg_sl ([.ref a])).length) Slot.unset).toArray = ls at hl ⊢
  have hl : lv_has ls 5 [(0, .ref a)] := hl
  refine lv_iconst (v := nI 0) hx hb dX15_unpacked_0 (by decide) ?_
  refine va_newa (D := (dC, dI)) (atype := .int) (N' := 0) (a0 := (0, .inl (fun _ => 0))) hx hb (hts (.arrayClass .int) (by decide +kernel)) rfl hK hP hD hS hA (fun _ => rfl) (by decide) (by decide) (by decide) (Nat.le_of_ble_eq_true rfl) (Nat.le_of_ble_eq_true rfl) dX15_unpacked_1 (fun r cR H hK hP hD hS => ?_)
  refine lv_astore_n (lv' := [(1, .ref r), (0, .ref a)]) hx hb dX15_unpacked_3 rfl hl (by decide) rfl (fun ls hl => ?_)
  refine lv_iconst (v := nI 0) hx hb dX15_unpacked_4 (by decide) ?_
  refine lv_istore_n (lv' := [(2, .int (nI 0)), (1, .ref r), (0, .ref a)]) hx hb dX15_unpacked_5 rfl hl (by decide) rfl (fun ls hl => ?_)
  refine unp_loop (A := A) (H0 := s.heap) (f := f) hx hb hml hown hts hA (Nat.le_of_ble_eq_true rfl) (Nat.le_of_ble_eq_true rfl) (Nat.le_of_ble_eq_true rfl) (Nat.le_of_ble_eq_true rfl) hf ?_ 66 0 rfl r cR (fun _ => 0) [] H _ ls rfl hK hP hD hS (lv_sub hl [2, 1, 0] rfl)
  intro pl H locs ls hu hK hP hD hS
  refine lv_null hx hb dX15_unpacked_37 ?_
  exact W.aret (v := .null) hx hb hr (Or.inr ⟨_, rfl⟩) (Or.inl rfl) (fun t ht hW => ⟨⟨pl, rfl, hu, by rw [ht]; exact hP, va_K.moved hW.alike hK, hD⟩, hS.F ht⟩) hS.2.2 dX15_unpacked_38
end
