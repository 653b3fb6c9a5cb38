section
-- ===== PART A: goes FIRST, ahead of the names: the tables' words, and 'selects' of the private methods out of them =====
/-- a private method of a class that the tables say can be made, by its rows of tables_1 -/
def lw_okq (q : MethodName × Nat) : Prop := (q.1.cls ≠ "java/lang/invoke/MethodHandle" ∧ q.1.cls ≠ "java/lang/invoke/VarHandle") ∧ Cond.instantiable q.1.cls q.2 ∈ tables_1 ∧ Cond.privateMethod q.1 ∈ tables_1 ∧ Cond.instanceMethod q.1 ∈ tables_1
theorem lw_p0 : lw_okq (⟨"java/lang/Throwable", "fillInStackTrace", "(I)Ljava/lang/Throwable;"⟩, 6) := ⟨⟨by decide +kernel, by decide +kernel⟩, List.mem_of_getElem? (i := 558) (by decide +kernel), List.mem_of_getElem? (i := 556) (by decide +kernel), List.mem_of_getElem? (i := 557) (by decide +kernel)⟩
theorem lw_p1 : lw_okq (⟨"Patchferry", "comesBackLabelled", "(LPatchferry$Row;)Z"⟩, 19) := ⟨⟨by decide +kernel, by decide +kernel⟩, List.mem_of_getElem? (i := 46) (by decide +kernel), List.mem_of_getElem? (i := 925) (by decide +kernel), List.mem_of_getElem? (i := 926) (by decide +kernel)⟩
theorem lw_p2 : lw_okq (⟨"Patchferry", "writeLabelled", "(LPatchferry$Row;LPatchferry$Row;)Z"⟩, 19) := ⟨⟨by decide +kernel, by decide +kernel⟩, List.mem_of_getElem? (i := 46) (by decide +kernel), List.mem_of_getElem? (i := 929) (by decide +kernel), List.mem_of_getElem? (i := 930) (by decide +kernel)⟩
theorem lw_p3 : lw_okq (⟨"Patchferry", "comesBackPacked", "(LPatchferry$Row;)Z"⟩, 19) := ⟨⟨by decide +kernel, by decide +kernel⟩, List.mem_of_getElem? (i := 46) (by decide +kernel), List.mem_of_getElem? (i := 968) (by decide +kernel), List.mem_of_getElem? (i := 969) (by decide +kernel)⟩
theorem lw_p4 : lw_okq (⟨"Patchferry$Runs", "foldPart", "(IIZLPatchferry$Row;)V"⟩, 2) := ⟨⟨by decide +kernel, by decide +kernel⟩, List.mem_of_getElem? (i := 133) (by decide +kernel), List.mem_of_getElem? (i := 1010) (by decide +kernel), List.mem_of_getElem? (i := 1011) (by decide +kernel)⟩
theorem lw_p5 : lw_okq (⟨"Patchferry", "versionsStand", "()Z"⟩, 19) := ⟨⟨by decide +kernel, by decide +kernel⟩, List.mem_of_getElem? (i := 46) (by decide +kernel), List.mem_of_getElem? (i := 1026) (by decide +kernel), List.mem_of_getElem? (i := 1027) (by decide +kernel)⟩
theorem lw_p6 : lw_okq (⟨"Patchferry$Patch", "restart", "(LPatchferry$Row;)V"⟩, 4) := ⟨⟨by decide +kernel, by decide +kernel⟩, List.mem_of_getElem? (i := 190) (by decide +kernel), List.mem_of_getElem? (i := 1044) (by decide +kernel), List.mem_of_getElem? (i := 1045) (by decide +kernel)⟩
theorem lw_p7 : lw_okq (⟨"Patchferry$Patch", "addOperation", "(II)V"⟩, 4) := ⟨⟨by decide +kernel, by decide +kernel⟩, List.mem_of_getElem? (i := 190) (by decide +kernel), List.mem_of_getElem? (i := 1090) (by decide +kernel), List.mem_of_getElem? (i := 1091) (by decide +kernel)⟩
theorem lw_p8 : lw_okq (⟨"Patchferry$Store", "cutOf", "(I)LPatchferry$Row;"⟩, 14) := ⟨⟨by decide +kernel, by decide +kernel⟩, List.mem_of_getElem? (i := 232) (by decide +kernel), List.mem_of_getElem? (i := 1125) (by decide +kernel), List.mem_of_getElem? (i := 1126) (by decide +kernel)⟩
theorem lw_p9 : lw_okq (⟨"Patchferry$Store", "countPieces", "(LPatchferry$Row;)V"⟩, 14) := ⟨⟨by decide +kernel, by decide +kernel⟩, List.mem_of_getElem? (i := 232) (by decide +kernel), List.mem_of_getElem? (i := 1130) (by decide +kernel), List.mem_of_getElem? (i := 1131) (by decide +kernel)⟩
theorem lw_p10 : lw_okq (⟨"Patchferry", "diskStands", "()Z"⟩, 19) := ⟨⟨by decide +kernel, by decide +kernel⟩, List.mem_of_getElem? (i := 46) (by decide +kernel), List.mem_of_getElem? (i := 1134) (by decide +kernel), List.mem_of_getElem? (i := 1135) (by decide +kernel)⟩
theorem lw_p11 : lw_okq (⟨"Patchferry", "needByte", "(I)V"⟩, 19) := ⟨⟨by decide +kernel, by decide +kernel⟩, List.mem_of_getElem? (i := 46) (by decide +kernel), List.mem_of_getElem? (i := 1160) (by decide +kernel), List.mem_of_getElem? (i := 1161) (by decide +kernel)⟩
theorem lw_p12 : lw_okq (⟨"Patchferry", "needBuffer", "(I)V"⟩, 19) := ⟨⟨by decide +kernel, by decide +kernel⟩, List.mem_of_getElem? (i := 46) (by decide +kernel), List.mem_of_getElem? (i := 1167) (by decide +kernel), List.mem_of_getElem? (i := 1168) (by decide +kernel)⟩
theorem lw_p13 : lw_okq (⟨"Patchferry", "needMany", "(I)V"⟩, 19) := ⟨⟨by decide +kernel, by decide +kernel⟩, List.mem_of_getElem? (i := 46) (by decide +kernel), List.mem_of_getElem? (i := 1195) (by decide +kernel), List.mem_of_getElem? (i := 1196) (by decide +kernel)⟩
theorem lw_p14 : lw_okq (⟨"Patchferry", "held", "(I)LPatchferry$Row;"⟩, 19) := ⟨⟨by decide +kernel, by decide +kernel⟩, List.mem_of_getElem? (i := 46) (by decide +kernel), List.mem_of_getElem? (i := 1208) (by decide +kernel), List.mem_of_getElem? (i := 1209) (by decide +kernel)⟩
theorem lw_p15 : lw_okq (⟨"Patchferry", "keep", "(LPatchferry$Row;)I"⟩, 19) := ⟨⟨by decide +kernel, by decide +kernel⟩, List.mem_of_getElem? (i := 46) (by decide +kernel), List.mem_of_getElem? (i := 1234) (by decide +kernel), List.mem_of_getElem? (i := 1235) (by decide +kernel)⟩
def lw_privs_1 : List (MethodName × Nat) := [(⟨"java/lang/Throwable", "fillInStackTrace", "(I)Ljava/lang/Throwable;"⟩, 6), (⟨"Patchferry", "comesBackLabelled", "(LPatchferry$Row;)Z"⟩, 19), (⟨"Patchferry", "writeLabelled", "(LPatchferry$Row;LPatchferry$Row;)Z"⟩, 19), (⟨"Patchferry", "comesBackPacked", "(LPatchferry$Row;)Z"⟩, 19), (⟨"Patchferry$Runs", "foldPart", "(IIZLPatchferry$Row;)V"⟩, 2), (⟨"Patchferry", "versionsStand", "()Z"⟩, 19), (⟨"Patchferry$Patch", "restart", "(LPatchferry$Row;)V"⟩, 4), (⟨"Patchferry$Patch", "addOperation", "(II)V"⟩, 4), (⟨"Patchferry$Store", "cutOf", "(I)LPatchferry$Row;"⟩, 14), (⟨"Patchferry$Store", "countPieces", "(LPatchferry$Row;)V"⟩, 14), (⟨"Patchferry", "diskStands", "()Z"⟩, 19), (⟨"Patchferry", "needByte", "(I)V"⟩, 19), (⟨"Patchferry", "needBuffer", "(I)V"⟩, 19), (⟨"Patchferry", "needMany", "(I)V"⟩, 19), (⟨"Patchferry", "held", "(I)LPatchferry$Row;"⟩, 19), (⟨"Patchferry", "keep", "(LPatchferry$Row;)I"⟩, 19)]
theorem lw_r1 : ∀ q ∈ lw_privs_1, lw_okq q := List.forall_mem_cons.mpr ⟨lw_p0, List.forall_mem_cons.mpr ⟨lw_p1, List.forall_mem_cons.mpr ⟨lw_p2, List.forall_mem_cons.mpr ⟨lw_p3, List.forall_mem_cons.mpr ⟨lw_p4, List.forall_mem_cons.mpr ⟨lw_p5, List.forall_mem_cons.mpr ⟨lw_p6, List.forall_mem_cons.mpr ⟨lw_p7, List.forall_mem_cons.mpr ⟨lw_p8, List.forall_mem_cons.mpr ⟨lw_p9, List.forall_mem_cons.mpr ⟨lw_p10, List.forall_mem_cons.mpr ⟨lw_p11, List.forall_mem_cons.mpr ⟨lw_p12, List.forall_mem_cons.mpr ⟨lw_p13, List.forall_mem_cons.mpr ⟨lw_p14, List.forall_mem_cons.mpr ⟨lw_p15, fun _ h => absurd h List.not_mem_nil⟩⟩⟩⟩⟩⟩⟩⟩⟩⟩⟩⟩⟩⟩⟩⟩
theorem lw_p16 : lw_okq (⟨"Patchferry", "needFileRoom", "(I)V"⟩, 19) := ⟨⟨by decide +kernel, by decide +kernel⟩, List.mem_of_getElem? (i := 46) (by decide +kernel), List.mem_of_getElem? (i := 1238) (by decide +kernel), List.mem_of_getElem? (i := 1239) (by decide +kernel)⟩
theorem lw_p17 : lw_okq (⟨"java/util/ArrayList", "add", "(Ljava/lang/Object;[Ljava/lang/Object;I)V"⟩, 3) := ⟨⟨by decide +kernel, by decide +kernel⟩, List.mem_of_getElem? (i := 54) (by decide +kernel), List.mem_of_getElem? (i := 1259) (by decide +kernel), List.mem_of_getElem? (i := 1260) (by decide +kernel)⟩
theorem lw_p18 : lw_okq (⟨"java/util/ArrayList", "grow", "()[Ljava/lang/Object;"⟩, 3) := ⟨⟨by decide +kernel, by decide +kernel⟩, List.mem_of_getElem? (i := 54) (by decide +kernel), List.mem_of_getElem? (i := 1263) (by decide +kernel), List.mem_of_getElem? (i := 1264) (by decide +kernel)⟩
theorem lw_p19 : lw_okq (⟨"java/util/ArrayList", "grow", "(I)[Ljava/lang/Object;"⟩, 3) := ⟨⟨by decide +kernel, by decide +kernel⟩, List.mem_of_getElem? (i := 54) (by decide +kernel), List.mem_of_getElem? (i := 1267) (by decide +kernel), List.mem_of_getElem? (i := 1268) (by decide +kernel)⟩
theorem lw_p20 : lw_okq (⟨"Patchferry$Store", "isCut", "(LPatchferry$Row;II)Z"⟩, 14) := ⟨⟨by decide +kernel, by decide +kernel⟩, List.mem_of_getElem? (i := 232) (by decide +kernel), List.mem_of_getElem? (i := 1322) (by decide +kernel), List.mem_of_getElem? (i := 1323) (by decide +kernel)⟩
theorem lw_p21 : lw_okq (⟨"Patchferry$Store", "numberOf", "(LPatchferry$Row;III)I"⟩, 14) := ⟨⟨by decide +kernel, by decide +kernel⟩, List.mem_of_getElem? (i := 232) (by decide +kernel), List.mem_of_getElem? (i := 1326) (by decide +kernel), List.mem_of_getElem? (i := 1327) (by decide +kernel)⟩
theorem lw_p22 : lw_okq (⟨"Patchferry$Store", "textOf", "(I)LPatchferry$Row;"⟩, 14) := ⟨⟨by decide +kernel, by decide +kernel⟩, List.mem_of_getElem? (i := 232) (by decide +kernel), List.mem_of_getElem? (i := 1335) (by decide +kernel), List.mem_of_getElem? (i := 1336) (by decide +kernel)⟩
theorem lw_p23 : lw_okq (⟨"Patchferry", "needIndex", "(II)V"⟩, 19) := ⟨⟨by decide +kernel, by decide +kernel⟩, List.mem_of_getElem? (i := 46) (by decide +kernel), List.mem_of_getElem? (i := 1355) (by decide +kernel), List.mem_of_getElem? (i := 1356) (by decide +kernel)⟩
theorem lw_p24 : lw_okq (⟨"Patchferry", "rankEnds", "(LPatchferry$Row;LPatchferry$Row;)V"⟩, 19) := ⟨⟨by decide +kernel, by decide +kernel⟩, List.mem_of_getElem? (i := 46) (by decide +kernel), List.mem_of_getElem? (i := 1404) (by decide +kernel), List.mem_of_getElem? (i := 1405) (by decide +kernel)⟩
theorem lw_p25 : lw_okq (⟨"Patchferry", "seekMatch", "(III)V"⟩, 19) := ⟨⟨by decide +kernel, by decide +kernel⟩, List.mem_of_getElem? (i := 46) (by decide +kernel), List.mem_of_getElem? (i := 1416) (by decide +kernel), List.mem_of_getElem? (i := 1417) (by decide +kernel)⟩
theorem lw_p26 : lw_okq (⟨"Patchferry", "needPatchRoom", "()V"⟩, 19) := ⟨⟨by decide +kernel, by decide +kernel⟩, List.mem_of_getElem? (i := 46) (by decide +kernel), List.mem_of_getElem? (i := 1461) (by decide +kernel), List.mem_of_getElem? (i := 1462) (by decide +kernel)⟩
theorem lw_p27 : lw_okq (⟨"Patchferry", "keepPatch", "(LPatchferry$Patch;)I"⟩, 19) := ⟨⟨by decide +kernel, by decide +kernel⟩, List.mem_of_getElem? (i := 46) (by decide +kernel), List.mem_of_getElem? (i := 1466) (by decide +kernel), List.mem_of_getElem? (i := 1467) (by decide +kernel)⟩
theorem lw_p28 : lw_okq (⟨"Patchferry", "known", "(I)LPatchferry$Patch;"⟩, 19) := ⟨⟨by decide +kernel, by decide +kernel⟩, List.mem_of_getElem? (i := 46) (by decide +kernel), List.mem_of_getElem? (i := 1477) (by decide +kernel), List.mem_of_getElem? (i := 1478) (by decide +kernel)⟩
theorem lw_p29 : lw_okq (⟨"Patchferry$Patch", "changedIn", "(II)I"⟩, 4) := ⟨⟨by decide +kernel, by decide +kernel⟩, List.mem_of_getElem? (i := 190) (by decide +kernel), List.mem_of_getElem? (i := 1518) (by decide +kernel), List.mem_of_getElem? (i := 1519) (by decide +kernel)⟩
theorem lw_p30 : lw_okq (⟨"Patchferry$Patch", "joinCopy", "(LPatchferry$Patch;LPatchferry$Patch;III)V"⟩, 4) := ⟨⟨by decide +kernel, by decide +kernel⟩, List.mem_of_getElem? (i := 190) (by decide +kernel), List.mem_of_getElem? (i := 1582) (by decide +kernel), List.mem_of_getElem? (i := 1583) (by decide +kernel)⟩
theorem lw_p31 : lw_okq (⟨"Patchferry$Edits", "closeGap", "(III)V"⟩, 4) := ⟨⟨by decide +kernel, by decide +kernel⟩, List.mem_of_getElem? (i := 211) (by decide +kernel), List.mem_of_getElem? (i := 1606) (by decide +kernel), List.mem_of_getElem? (i := 1607) (by decide +kernel)⟩
def lw_privs_2 : List (MethodName × Nat) := [(⟨"Patchferry", "needFileRoom", "(I)V"⟩, 19), (⟨"java/util/ArrayList", "add", "(Ljava/lang/Object;[Ljava/lang/Object;I)V"⟩, 3), (⟨"java/util/ArrayList", "grow", "()[Ljava/lang/Object;"⟩, 3), (⟨"java/util/ArrayList", "grow", "(I)[Ljava/lang/Object;"⟩, 3), (⟨"Patchferry$Store", "isCut", "(LPatchferry$Row;II)Z"⟩, 14), (⟨"Patchferry$Store", "numberOf", "(LPatchferry$Row;III)I"⟩, 14), (⟨"Patchferry$Store", "textOf", "(I)LPatchferry$Row;"⟩, 14), (⟨"Patchferry", "needIndex", "(II)V"⟩, 19), (⟨"Patchferry", "rankEnds", "(LPatchferry$Row;LPatchferry$Row;)V"⟩, 19), (⟨"Patchferry", "seekMatch", "(III)V"⟩, 19), (⟨"Patchferry", "needPatchRoom", "()V"⟩, 19), (⟨"Patchferry", "keepPatch", "(LPatchferry$Patch;)I"⟩, 19), (⟨"Patchferry", "known", "(I)LPatchferry$Patch;"⟩, 19), (⟨"Patchferry$Patch", "changedIn", "(II)I"⟩, 4), (⟨"Patchferry$Patch", "joinCopy", "(LPatchferry$Patch;LPatchferry$Patch;III)V"⟩, 4), (⟨"Patchferry$Edits", "closeGap", "(III)V"⟩, 4)]
theorem lw_r2 : ∀ q ∈ lw_privs_2, lw_okq q := List.forall_mem_cons.mpr ⟨lw_p16, List.forall_mem_cons.mpr ⟨lw_p17, List.forall_mem_cons.mpr ⟨lw_p18, List.forall_mem_cons.mpr ⟨lw_p19, List.forall_mem_cons.mpr ⟨lw_p20, List.forall_mem_cons.mpr ⟨lw_p21, List.forall_mem_cons.mpr ⟨lw_p22, List.forall_mem_cons.mpr ⟨lw_p23, List.forall_mem_cons.mpr ⟨lw_p24, List.forall_mem_cons.mpr ⟨lw_p25, List.forall_mem_cons.mpr ⟨lw_p26, List.forall_mem_cons.mpr ⟨lw_p27, List.forall_mem_cons.mpr ⟨lw_p28, List.forall_mem_cons.mpr ⟨lw_p29, List.forall_mem_cons.mpr ⟨lw_p30, List.forall_mem_cons.mpr ⟨lw_p31, fun _ h => absurd h List.not_mem_nil⟩⟩⟩⟩⟩⟩⟩⟩⟩⟩⟩⟩⟩⟩⟩⟩
theorem lw_p32 : lw_okq (⟨"Patchferry$Edits", "enter", "(III)V"⟩, 4) := ⟨⟨by decide +kernel, by decide +kernel⟩, List.mem_of_getElem? (i := 211) (by decide +kernel), List.mem_of_getElem? (i := 1611) (by decide +kernel), List.mem_of_getElem? (i := 1612) (by decide +kernel)⟩
theorem lw_p33 : lw_okq (⟨"Patchferry$Edits", "readChanged", "(LPatchferry$Patch;III)V"⟩, 4) := ⟨⟨by decide +kernel, by decide +kernel⟩, List.mem_of_getElem? (i := 211) (by decide +kernel), List.mem_of_getElem? (i := 1615) (by decide +kernel), List.mem_of_getElem? (i := 1616) (by decide +kernel)⟩
theorem lw_p34 : lw_okq (⟨"Patchferry$Edits", "isLike", "(ILPatchferry$Edits;I)Z"⟩, 4) := ⟨⟨by decide +kernel, by decide +kernel⟩, List.mem_of_getElem? (i := 211) (by decide +kernel), List.mem_of_getElem? (i := 1628) (by decide +kernel), List.mem_of_getElem? (i := 1629) (by decide +kernel)⟩
theorem lw_p35 : lw_okq (⟨"Patchferry$Edits", "valuesEnd", "(I)I"⟩, 4) := ⟨⟨by decide +kernel, by decide +kernel⟩, List.mem_of_getElem? (i := 211) (by decide +kernel), List.mem_of_getElem? (i := 1632) (by decide +kernel), List.mem_of_getElem? (i := 1633) (by decide +kernel)⟩
theorem lw_p36 : lw_okq (⟨"Patchferry$Edits", "writeEdit", "(ILPatchferry$Row;ILPatchferry$Row;)I"⟩, 4) := ⟨⟨by decide +kernel, by decide +kernel⟩, List.mem_of_getElem? (i := 211) (by decide +kernel), List.mem_of_getElem? (i := 1642) (by decide +kernel), List.mem_of_getElem? (i := 1643) (by decide +kernel)⟩
theorem lw_p37 : lw_okq (⟨"Patchferry$Edits", "writePart", "(LPatchferry$Row;IILPatchferry$Row;)V"⟩, 4) := ⟨⟨by decide +kernel, by decide +kernel⟩, List.mem_of_getElem? (i := 211) (by decide +kernel), List.mem_of_getElem? (i := 1646) (by decide +kernel), List.mem_of_getElem? (i := 1647) (by decide +kernel)⟩
theorem lw_p38 : lw_okq (⟨"Patchferry", "needFile", "(I)V"⟩, 19) := ⟨⟨by decide +kernel, by decide +kernel⟩, List.mem_of_getElem? (i := 46) (by decide +kernel), List.mem_of_getElem? (i := 1665) (by decide +kernel), List.mem_of_getElem? (i := 1666) (by decide +kernel)⟩
theorem lw_p39 : lw_okq (⟨"Patchferry$Store", "forgetPieces", "(LPatchferry$Row;)V"⟩, 14) := ⟨⟨by decide +kernel, by decide +kernel⟩, List.mem_of_getElem? (i := 232) (by decide +kernel), List.mem_of_getElem? (i := 1720) (by decide +kernel), List.mem_of_getElem? (i := 1721) (by decide +kernel)⟩
theorem lw_p40 : lw_okq (⟨"Patchferry$Store", "fillGrid", "()V"⟩, 14) := ⟨⟨by decide +kernel, by decide +kernel⟩, List.mem_of_getElem? (i := 232) (by decide +kernel), List.mem_of_getElem? (i := 1747) (by decide +kernel), List.mem_of_getElem? (i := 1748) (by decide +kernel)⟩
theorem lw_p41 : lw_okq (⟨"Patchferry$Store", "bestPair", "()I"⟩, 14) := ⟨⟨by decide +kernel, by decide +kernel⟩, List.mem_of_getElem? (i := 232) (by decide +kernel), List.mem_of_getElem? (i := 1752) (by decide +kernel), List.mem_of_getElem? (i := 1753) (by decide +kernel)⟩
theorem lw_p42 : lw_okq (⟨"Patchferry$Store", "takePair", "(II)V"⟩, 14) := ⟨⟨by decide +kernel, by decide +kernel⟩, List.mem_of_getElem? (i := 232) (by decide +kernel), List.mem_of_getElem? (i := 1756) (by decide +kernel), List.mem_of_getElem? (i := 1757) (by decide +kernel)⟩
theorem lw_p43 : lw_okq (⟨"Patchferry", "scanBlocks", "(III)V"⟩, 19) := ⟨⟨by decide +kernel, by decide +kernel⟩, List.mem_of_getElem? (i := 46) (by decide +kernel), List.mem_of_getElem? (i := 1768) (by decide +kernel), List.mem_of_getElem? (i := 1769) (by decide +kernel)⟩
theorem lw_p44 : lw_okq (⟨"Patchferry$Blocks", "isBlock", "(LPatchferry$Row;II)Z"⟩, 5) := ⟨⟨by decide +kernel, by decide +kernel⟩, List.mem_of_getElem? (i := 285) (by decide +kernel), List.mem_of_getElem? (i := 1786) (by decide +kernel), List.mem_of_getElem? (i := 1787) (by decide +kernel)⟩
theorem lw_p45 : lw_okq (⟨"Patchferry", "findMode", "(LPatchferry$Row;)I"⟩, 19) := ⟨⟨by decide +kernel, by decide +kernel⟩, List.mem_of_getElem? (i := 46) (by decide +kernel), List.mem_of_getElem? (i := 1880) (by decide +kernel), List.mem_of_getElem? (i := 1881) (by decide +kernel)⟩
theorem lw_p46 : lw_okq (⟨"Patchferry$Disk", "findBegins", "()V"⟩, 12) := ⟨⟨by decide +kernel, by decide +kernel⟩, List.mem_of_getElem? (i := 326) (by decide +kernel), List.mem_of_getElem? (i := 1934) (by decide +kernel), List.mem_of_getElem? (i := 1935) (by decide +kernel)⟩
theorem lw_p47 : lw_okq (⟨"Patchferry$Disk", "findNeeds", "()V"⟩, 12) := ⟨⟨by decide +kernel, by decide +kernel⟩, List.mem_of_getElem? (i := 326) (by decide +kernel), List.mem_of_getElem? (i := 1941) (by decide +kernel), List.mem_of_getElem? (i := 1942) (by decide +kernel)⟩
def lw_privs_3 : List (MethodName × Nat) := [(⟨"Patchferry$Edits", "enter", "(III)V"⟩, 4), (⟨"Patchferry$Edits", "readChanged", "(LPatchferry$Patch;III)V"⟩, 4), (⟨"Patchferry$Edits", "isLike", "(ILPatchferry$Edits;I)Z"⟩, 4), (⟨"Patchferry$Edits", "valuesEnd", "(I)I"⟩, 4), (⟨"Patchferry$Edits", "writeEdit", "(ILPatchferry$Row;ILPatchferry$Row;)I"⟩, 4), (⟨"Patchferry$Edits", "writePart", "(LPatchferry$Row;IILPatchferry$Row;)V"⟩, 4), (⟨"Patchferry", "needFile", "(I)V"⟩, 19), (⟨"Patchferry$Store", "forgetPieces", "(LPatchferry$Row;)V"⟩, 14), (⟨"Patchferry$Store", "fillGrid", "()V"⟩, 14), (⟨"Patchferry$Store", "bestPair", "()I"⟩, 14), (⟨"Patchferry$Store", "takePair", "(II)V"⟩, 14), (⟨"Patchferry", "scanBlocks", "(III)V"⟩, 19), (⟨"Patchferry$Blocks", "isBlock", "(LPatchferry$Row;II)Z"⟩, 5), (⟨"Patchferry", "findMode", "(LPatchferry$Row;)I"⟩, 19), (⟨"Patchferry$Disk", "findBegins", "()V"⟩, 12), (⟨"Patchferry$Disk", "findNeeds", "()V"⟩, 12)]
theorem lw_r3 : ∀ q ∈ lw_privs_3, lw_okq q := List.forall_mem_cons.mpr ⟨lw_p32, List.forall_mem_cons.mpr ⟨lw_p33, List.forall_mem_cons.mpr ⟨lw_p34, List.forall_mem_cons.mpr ⟨lw_p35, List.forall_mem_cons.mpr ⟨lw_p36, List.forall_mem_cons.mpr ⟨lw_p37, List.forall_mem_cons.mpr ⟨lw_p38, List.forall_mem_cons.mpr ⟨lw_p39, List.forall_mem_cons.mpr ⟨lw_p40, List.forall_mem_cons.mpr ⟨lw_p41, List.forall_mem_cons.mpr ⟨lw_p42, List.forall_mem_cons.mpr ⟨lw_p43, List.forall_mem_cons.mpr ⟨lw_p44, List.forall_mem_cons.mpr ⟨lw_p45, List.forall_mem_cons.mpr ⟨lw_p46, List.forall_mem_cons.mpr ⟨lw_p47, fun _ h => absurd h List.not_mem_nil⟩⟩⟩⟩⟩⟩⟩⟩⟩⟩⟩⟩⟩⟩⟩⟩
theorem lw_p48 : lw_okq (⟨"Patchferry$Disk", "choose", "()V"⟩, 12) := ⟨⟨by decide +kernel, by decide +kernel⟩, List.mem_of_getElem? (i := 326) (by decide +kernel), List.mem_of_getElem? (i := 1947) (by decide +kernel), List.mem_of_getElem? (i := 1948) (by decide +kernel)⟩
theorem lw_p49 : lw_okq (⟨"Patchferry$Disk", "bytesOf", "(I)I"⟩, 12) := ⟨⟨by decide +kernel, by decide +kernel⟩, List.mem_of_getElem? (i := 326) (by decide +kernel), List.mem_of_getElem? (i := 1952) (by decide +kernel), List.mem_of_getElem? (i := 1953) (by decide +kernel)⟩
theorem lw_p50 : lw_okq (⟨"Patchferry$Disk", "arrange", "(I)Z"⟩, 12) := ⟨⟨by decide +kernel, by decide +kernel⟩, List.mem_of_getElem? (i := 326) (by decide +kernel), List.mem_of_getElem? (i := 1956) (by decide +kernel), List.mem_of_getElem? (i := 1957) (by decide +kernel)⟩
theorem lw_p51 : lw_okq (⟨"Patchferry$Disk", "lowestReady", "(II)I"⟩, 12) := ⟨⟨by decide +kernel, by decide +kernel⟩, List.mem_of_getElem? (i := 326) (by decide +kernel), List.mem_of_getElem? (i := 1960) (by decide +kernel), List.mem_of_getElem? (i := 1961) (by decide +kernel)⟩
theorem lw_p52 : lw_okq (⟨"Patchferry$Disk", "saveAhead", "()V"⟩, 12) := ⟨⟨by decide +kernel, by decide +kernel⟩, List.mem_of_getElem? (i := 326) (by decide +kernel), List.mem_of_getElem? (i := 1964) (by decide +kernel), List.mem_of_getElem? (i := 1965) (by decide +kernel)⟩
theorem lw_p53 : lw_okq (⟨"Patchferry$Disk", "isSaved", "(I)Z"⟩, 12) := ⟨⟨by decide +kernel, by decide +kernel⟩, List.mem_of_getElem? (i := 326) (by decide +kernel), List.mem_of_getElem? (i := 1973) (by decide +kernel), List.mem_of_getElem? (i := 1974) (by decide +kernel)⟩
theorem lw_p54 : lw_okq (⟨"Patchferry$Disk", "write", "(I)V"⟩, 12) := ⟨⟨by decide +kernel, by decide +kernel⟩, List.mem_of_getElem? (i := 326) (by decide +kernel), List.mem_of_getElem? (i := 1983) (by decide +kernel), List.mem_of_getElem? (i := 1984) (by decide +kernel)⟩
theorem lw_p55 : lw_okq (⟨"Patchferry$Versions", "takeGreatestGain", "()I"⟩, 6) := ⟨⟨by decide +kernel, by decide +kernel⟩, List.mem_of_getElem? (i := 373) (by decide +kernel), List.mem_of_getElem? (i := 2142) (by decide +kernel), List.mem_of_getElem? (i := 2143) (by decide +kernel)⟩
theorem lw_p56 : lw_okq (⟨"Patchferry$Tree", "readLeaves", "(LPatchferry$Row;)V"⟩, 1) := ⟨⟨by decide +kernel, by decide +kernel⟩, List.mem_of_getElem? (i := 402) (by decide +kernel), List.mem_of_getElem? (i := 2157) (by decide +kernel), List.mem_of_getElem? (i := 2158) (by decide +kernel)⟩
theorem lw_p57 : lw_okq (⟨"Patchferry$Tree", "leafSum", "(LPatchferry$Row;I)I"⟩, 1) := ⟨⟨by decide +kernel, by decide +kernel⟩, List.mem_of_getElem? (i := 402) (by decide +kernel), List.mem_of_getElem? (i := 2168) (by decide +kernel), List.mem_of_getElem? (i := 2169) (by decide +kernel)⟩
theorem lw_p58 : lw_okq (⟨"Patchferry$Tree", "climb", "()I"⟩, 1) := ⟨⟨by decide +kernel, by decide +kernel⟩, List.mem_of_getElem? (i := 402) (by decide +kernel), List.mem_of_getElem? (i := 2175) (by decide +kernel), List.mem_of_getElem? (i := 2176) (by decide +kernel)⟩
theorem lw_p59 : lw_okq (⟨"Patchferry", "needAsManyLeaves", "(LPatchferry$Row;LPatchferry$Row;)V"⟩, 19) := ⟨⟨by decide +kernel, by decide +kernel⟩, List.mem_of_getElem? (i := 46) (by decide +kernel), List.mem_of_getElem? (i := 2190) (by decide +kernel), List.mem_of_getElem? (i := 2191) (by decide +kernel)⟩
theorem lw_p60 : lw_okq (⟨"PatchferryModel", "fails", "(I)Z"⟩, 23) := ⟨⟨by decide +kernel, by decide +kernel⟩, List.mem_of_getElem? (i := 2232) (by decide +kernel), List.mem_of_getElem? (i := 2323) (by decide +kernel), List.mem_of_getElem? (i := 2324) (by decide +kernel)⟩
theorem lw_p61 : lw_okq (⟨"PatchferryModel", "put", "([I)I"⟩, 23) := ⟨⟨by decide +kernel, by decide +kernel⟩, List.mem_of_getElem? (i := 2232) (by decide +kernel), List.mem_of_getElem? (i := 2327) (by decide +kernel), List.mem_of_getElem? (i := 2328) (by decide +kernel)⟩
theorem lw_p62 : lw_okq (⟨"PatchferryModel", "failsFile", "(I)Z"⟩, 23) := ⟨⟨by decide +kernel, by decide +kernel⟩, List.mem_of_getElem? (i := 2232) (by decide +kernel), List.mem_of_getElem? (i := 2342) (by decide +kernel), List.mem_of_getElem? (i := 2343) (by decide +kernel)⟩
theorem lw_p63 : lw_okq (⟨"PatchferryModel", "isFile", "(I)Z"⟩, 23) := ⟨⟨by decide +kernel, by decide +kernel⟩, List.mem_of_getElem? (i := 2232) (by decide +kernel), List.mem_of_getElem? (i := 2346) (by decide +kernel), List.mem_of_getElem? (i := 2347) (by decide +kernel)⟩
def lw_privs_4 : List (MethodName × Nat) := [(⟨"Patchferry$Disk", "choose", "()V"⟩, 12), (⟨"Patchferry$Disk", "bytesOf", "(I)I"⟩, 12), (⟨"Patchferry$Disk", "arrange", "(I)Z"⟩, 12), (⟨"Patchferry$Disk", "lowestReady", "(II)I"⟩, 12), (⟨"Patchferry$Disk", "saveAhead", "()V"⟩, 12), (⟨"Patchferry$Disk", "isSaved", "(I)Z"⟩, 12), (⟨"Patchferry$Disk", "write", "(I)V"⟩, 12), (⟨"Patchferry$Versions", "takeGreatestGain", "()I"⟩, 6), (⟨"Patchferry$Tree", "readLeaves", "(LPatchferry$Row;)V"⟩, 1), (⟨"Patchferry$Tree", "leafSum", "(LPatchferry$Row;I)I"⟩, 1), (⟨"Patchferry$Tree", "climb", "()I"⟩, 1), (⟨"Patchferry", "needAsManyLeaves", "(LPatchferry$Row;LPatchferry$Row;)V"⟩, 19), (⟨"PatchferryModel", "fails", "(I)Z"⟩, 23), (⟨"PatchferryModel", "put", "([I)I"⟩, 23), (⟨"PatchferryModel", "failsFile", "(I)Z"⟩, 23), (⟨"PatchferryModel", "isFile", "(I)Z"⟩, 23)]
theorem lw_r4 : ∀ q ∈ lw_privs_4, lw_okq q := List.forall_mem_cons.mpr ⟨lw_p48, List.forall_mem_cons.mpr ⟨lw_p49, List.forall_mem_cons.mpr ⟨lw_p50, List.forall_mem_cons.mpr ⟨lw_p51, List.forall_mem_cons.mpr ⟨lw_p52, List.forall_mem_cons.mpr ⟨lw_p53, List.forall_mem_cons.mpr ⟨lw_p54, List.forall_mem_cons.mpr ⟨lw_p55, List.forall_mem_cons.mpr ⟨lw_p56, List.forall_mem_cons.mpr ⟨lw_p57, List.forall_mem_cons.mpr ⟨lw_p58, List.forall_mem_cons.mpr ⟨lw_p59, List.forall_mem_cons.mpr ⟨lw_p60, List.forall_mem_cons.mpr ⟨lw_p61, List.forall_mem_cons.mpr ⟨lw_p62, List.forall_mem_cons.mpr ⟨lw_p63, fun _ h => absurd h List.not_mem_nil⟩⟩⟩⟩⟩⟩⟩⟩⟩⟩⟩⟩⟩⟩⟩⟩
theorem lw_p64 : lw_okq (⟨"PatchferryModel", "keep", "([I)I"⟩, 23) := ⟨⟨by decide +kernel, by decide +kernel⟩, List.mem_of_getElem? (i := 2232) (by decide +kernel), List.mem_of_getElem? (i := 2360) (by decide +kernel), List.mem_of_getElem? (i := 2361) (by decide +kernel)⟩
theorem lw_p65 : lw_okq (⟨"PatchferryModel", "failsFiles", "(II)Z"⟩, 23) := ⟨⟨by decide +kernel, by decide +kernel⟩, List.mem_of_getElem? (i := 2232) (by decide +kernel), List.mem_of_getElem? (i := 2377) (by decide +kernel), List.mem_of_getElem? (i := 2378) (by decide +kernel)⟩
theorem lw_p66 : lw_okq (⟨"PatchferryModel", "failsPlace", "(III)Z"⟩, 23) := ⟨⟨by decide +kernel, by decide +kernel⟩, List.mem_of_getElem? (i := 2232) (by decide +kernel), List.mem_of_getElem? (i := 2414) (by decide +kernel), List.mem_of_getElem? (i := 2415) (by decide +kernel)⟩
theorem lw_p67 : lw_okq (⟨"PatchferryModel", "keep", "(LPatchferryModel$Patch;)I"⟩, 23) := ⟨⟨by decide +kernel, by decide +kernel⟩, List.mem_of_getElem? (i := 2232) (by decide +kernel), List.mem_of_getElem? (i := 2478) (by decide +kernel), List.mem_of_getElem? (i := 2479) (by decide +kernel)⟩
theorem lw_p68 : lw_okq (⟨"PatchferryModel", "failsPatch", "(I)Z"⟩, 23) := ⟨⟨by decide +kernel, by decide +kernel⟩, List.mem_of_getElem? (i := 2232) (by decide +kernel), List.mem_of_getElem? (i := 2486) (by decide +kernel), List.mem_of_getElem? (i := 2487) (by decide +kernel)⟩
theorem lw_p69 : lw_okq (⟨"PatchferryModel", "isPatch", "(I)Z"⟩, 23) := ⟨⟨by decide +kernel, by decide +kernel⟩, List.mem_of_getElem? (i := 2232) (by decide +kernel), List.mem_of_getElem? (i := 2490) (by decide +kernel), List.mem_of_getElem? (i := 2491) (by decide +kernel)⟩
theorem lw_p70 : lw_okq (⟨"PatchferryModel", "failsStep", "(II)Z"⟩, 23) := ⟨⟨by decide +kernel, by decide +kernel⟩, List.mem_of_getElem? (i := 2232) (by decide +kernel), List.mem_of_getElem? (i := 2498) (by decide +kernel), List.mem_of_getElem? (i := 2499) (by decide +kernel)⟩
theorem lw_p71 : lw_okq (⟨"PatchferryModel", "failsMade", "([II)Z"⟩, 23) := ⟨⟨by decide +kernel, by decide +kernel⟩, List.mem_of_getElem? (i := 2232) (by decide +kernel), List.mem_of_getElem? (i := 2626) (by decide +kernel), List.mem_of_getElem? (i := 2627) (by decide +kernel)⟩
theorem lw_p72 : lw_okq (⟨"PatchferryModel", "failsPatches", "(II)Z"⟩, 23) := ⟨⟨by decide +kernel, by decide +kernel⟩, List.mem_of_getElem? (i := 2232) (by decide +kernel), List.mem_of_getElem? (i := 2634) (by decide +kernel), List.mem_of_getElem? (i := 2635) (by decide +kernel)⟩
theorem lw_p73 : lw_okq (⟨"java/util/ArrayList", "rangeCheckForAdd", "(I)V"⟩, 3) := ⟨⟨by decide +kernel, by decide +kernel⟩, List.mem_of_getElem? (i := 54) (by decide +kernel), List.mem_of_getElem? (i := 2714) (by decide +kernel), List.mem_of_getElem? (i := 2715) (by decide +kernel)⟩
theorem lw_p74 : lw_okq (⟨"java/util/ArrayList", "outOfBoundsMsg", "(I)Ljava/lang/String;"⟩, 3) := ⟨⟨by decide +kernel, by decide +kernel⟩, List.mem_of_getElem? (i := 54) (by decide +kernel), List.mem_of_getElem? (i := 2719) (by decide +kernel), List.mem_of_getElem? (i := 2720) (by decide +kernel)⟩
theorem lw_p75 : lw_okq (⟨"java/util/ArrayList", "fastRemove", "([Ljava/lang/Object;I)V"⟩, 3) := ⟨⟨by decide +kernel, by decide +kernel⟩, List.mem_of_getElem? (i := 54) (by decide +kernel), List.mem_of_getElem? (i := 2795) (by decide +kernel), List.mem_of_getElem? (i := 2796) (by decide +kernel)⟩
theorem lw_p76 : lw_okq (⟨"PatchferryModel", "failsLook", "(III)Z"⟩, 23) := ⟨⟨by decide +kernel, by decide +kernel⟩, List.mem_of_getElem? (i := 2232) (by decide +kernel), List.mem_of_getElem? (i := 2822) (by decide +kernel), List.mem_of_getElem? (i := 2823) (by decide +kernel)⟩
theorem lw_p77 : lw_okq (⟨"PatchferryModel", "look", "([I[II)V"⟩, 23) := ⟨⟨by decide +kernel, by decide +kernel⟩, List.mem_of_getElem? (i := 2232) (by decide +kernel), List.mem_of_getElem? (i := 2826) (by decide +kernel), List.mem_of_getElem? (i := 2827) (by decide +kernel)⟩
theorem lw_p78 : lw_okq (⟨"PatchferryModel", "wireOf", "(II)I"⟩, 23) := ⟨⟨by decide +kernel, by decide +kernel⟩, List.mem_of_getElem? (i := 2232) (by decide +kernel), List.mem_of_getElem? (i := 2846) (by decide +kernel), List.mem_of_getElem? (i := 2847) (by decide +kernel)⟩
theorem lw_p79 : lw_okq (⟨"PatchferryModel", "isHalf", "()Z"⟩, 23) := ⟨⟨by decide +kernel, by decide +kernel⟩, List.mem_of_getElem? (i := 2232) (by decide +kernel), List.mem_of_getElem? (i := 2965) (by decide +kernel), List.mem_of_getElem? (i := 2966) (by decide +kernel)⟩
def lw_privs_5 : List (MethodName × Nat) := [(⟨"PatchferryModel", "keep", "([I)I"⟩, 23), (⟨"PatchferryModel", "failsFiles", "(II)Z"⟩, 23), (⟨"PatchferryModel", "failsPlace", "(III)Z"⟩, 23), (⟨"PatchferryModel", "keep", "(LPatchferryModel$Patch;)I"⟩, 23), (⟨"PatchferryModel", "failsPatch", "(I)Z"⟩, 23), (⟨"PatchferryModel", "isPatch", "(I)Z"⟩, 23), (⟨"PatchferryModel", "failsStep", "(II)Z"⟩, 23), (⟨"PatchferryModel", "failsMade", "([II)Z"⟩, 23), (⟨"PatchferryModel", "failsPatches", "(II)Z"⟩, 23), (⟨"java/util/ArrayList", "rangeCheckForAdd", "(I)V"⟩, 3), (⟨"java/util/ArrayList", "outOfBoundsMsg", "(I)Ljava/lang/String;"⟩, 3), (⟨"java/util/ArrayList", "fastRemove", "([Ljava/lang/Object;I)V"⟩, 3), (⟨"PatchferryModel", "failsLook", "(III)Z"⟩, 23), (⟨"PatchferryModel", "look", "([I[II)V"⟩, 23), (⟨"PatchferryModel", "wireOf", "(II)I"⟩, 23), (⟨"PatchferryModel", "isHalf", "()Z"⟩, 23)]
theorem lw_r5 : ∀ q ∈ lw_privs_5, lw_okq q := List.forall_mem_cons.mpr ⟨lw_p64, List.forall_mem_cons.mpr ⟨lw_p65, List.forall_mem_cons.mpr ⟨lw_p66, List.forall_mem_cons.mpr ⟨lw_p67, List.forall_mem_cons.mpr ⟨lw_p68, List.forall_mem_cons.mpr ⟨lw_p69, List.forall_mem_cons.mpr ⟨lw_p70, List.forall_mem_cons.mpr ⟨lw_p71, List.forall_mem_cons.mpr ⟨lw_p72, List.forall_mem_cons.mpr ⟨lw_p73, List.forall_mem_cons.mpr ⟨lw_p74, List.forall_mem_cons.mpr ⟨lw_p75, List.forall_mem_cons.mpr ⟨lw_p76, List.forall_mem_cons.mpr ⟨lw_p77, List.forall_mem_cons.mpr ⟨lw_p78, List.forall_mem_cons.mpr ⟨lw_p79, fun _ h => absurd h List.not_mem_nil⟩⟩⟩⟩⟩⟩⟩⟩⟩⟩⟩⟩⟩⟩⟩⟩
theorem lw_p80 : lw_okq (⟨"PatchferryModel", "goAhead", "()I"⟩, 23) := ⟨⟨by decide +kernel, by decide +kernel⟩, List.mem_of_getElem? (i := 2232) (by decide +kernel), List.mem_of_getElem? (i := 2988) (by decide +kernel), List.mem_of_getElem? (i := 2989) (by decide +kernel)⟩
theorem lw_p81 : lw_okq (⟨"PatchferryModel", "isVersion", "(I)Z"⟩, 23) := ⟨⟨by decide +kernel, by decide +kernel⟩, List.mem_of_getElem? (i := 2232) (by decide +kernel), List.mem_of_getElem? (i := 3029) (by decide +kernel), List.mem_of_getElem? (i := 3030) (by decide +kernel)⟩
theorem lw_p82 : lw_okq (⟨"PatchferryModel", "bytesAt", "(I)[I"⟩, 23) := ⟨⟨by decide +kernel, by decide +kernel⟩, List.mem_of_getElem? (i := 2232) (by decide +kernel), List.mem_of_getElem? (i := 3037) (by decide +kernel), List.mem_of_getElem? (i := 3038) (by decide +kernel)⟩
theorem lw_p83 : lw_okq (⟨"PatchferryModel", "cost", "(II)I"⟩, 23) := ⟨⟨by decide +kernel, by decide +kernel⟩, List.mem_of_getElem? (i := 2232) (by decide +kernel), List.mem_of_getElem? (i := 3041) (by decide +kernel), List.mem_of_getElem? (i := 3042) (by decide +kernel)⟩
theorem lw_p84 : lw_okq (⟨"PatchferryModel", "failsMirror", "(II)Z"⟩, 23) := ⟨⟨by decide +kernel, by decide +kernel⟩, List.mem_of_getElem? (i := 2232) (by decide +kernel), List.mem_of_getElem? (i := 3082) (by decide +kernel), List.mem_of_getElem? (i := 3083) (by decide +kernel)⟩
theorem lw_p85 : lw_okq (⟨"PatchferryModel", "isProved", "(III)Z"⟩, 23) := ⟨⟨by decide +kernel, by decide +kernel⟩, List.mem_of_getElem? (i := 2232) (by decide +kernel), List.mem_of_getElem? (i := 3086) (by decide +kernel), List.mem_of_getElem? (i := 3087) (by decide +kernel)⟩
def lw_privs_6 : List (MethodName × Nat) := [(⟨"PatchferryModel", "goAhead", "()I"⟩, 23), (⟨"PatchferryModel", "isVersion", "(I)Z"⟩, 23), (⟨"PatchferryModel", "bytesAt", "(I)[I"⟩, 23), (⟨"PatchferryModel", "cost", "(II)I"⟩, 23), (⟨"PatchferryModel", "failsMirror", "(II)Z"⟩, 23), (⟨"PatchferryModel", "isProved", "(III)Z"⟩, 23)]
theorem lw_r6 : ∀ q ∈ lw_privs_6, lw_okq q := List.forall_mem_cons.mpr ⟨lw_p80, List.forall_mem_cons.mpr ⟨lw_p81, List.forall_mem_cons.mpr ⟨lw_p82, List.forall_mem_cons.mpr ⟨lw_p83, List.forall_mem_cons.mpr ⟨lw_p84, List.forall_mem_cons.mpr ⟨lw_p85, fun _ h => absurd h List.not_mem_nil⟩⟩⟩⟩⟩⟩
def lw_privs : List (MethodName × Nat) := lw_privs_1 ++ (lw_privs_2 ++ (lw_privs_3 ++ (lw_privs_4 ++ (lw_privs_5 ++ (lw_privs_6)))))
def lw_tbl : List Cond := k2_sels lw_privs ++ tables_1
theorem lw_privs_ok : ∀ q ∈ lw_privs, lw_okq q := by
  show ∀ q ∈ lw_privs_1 ++ (lw_privs_2 ++ (lw_privs_3 ++ (lw_privs_4 ++ (lw_privs_5 ++ (lw_privs_6))))), lw_okq q
  exact List.forall_mem_append.mpr ⟨lw_r1, List.forall_mem_append.mpr ⟨lw_r2, List.forall_mem_append.mpr ⟨lw_r3, List.forall_mem_append.mpr ⟨lw_r4, List.forall_mem_append.mpr ⟨lw_r5, lw_r6⟩⟩⟩⟩⟩
/-- the streams that the claim lets the run draw from -/
abbrev lw_cs : List Choice := [Jvm.Choice.named "NaN.bits"]
theorem lw_bits : nanBits ∈ lw_cs := by first | decide | exact List.mem_cons_self | simp [lw_cs, nanBits]
-- ===== end of PART A; then your names; then what follows =====
end
section
/-! WORLDS AS BAGS: a world's cells in any order, and a join behind a call in which the rest may be any list -/
theorem uv_P {D : va_G} {cl : List vw_C} {ws : va_W} {H : Heap} : va_P D cl ws H ↔ ∀ q ∈ ws, va_at D cl q H := by
  constructor
  · intro h q hq
    obtain ⟨k, hk⟩ := List.getElem?_of_mem hq
    exact h k q hk
  · intro h k q hk
    exact h q (List.mem_of_getElem? hk)
theorem uv_D {A : Nat → Prop} {ws : va_W} : va_D A ws ↔ (ws.map Prod.fst).Nodup ∧ ∀ q ∈ ws, A q.1 := by
  constructor
  · intro h
    refine ⟨?_, fun q hq => ?_⟩
    · rw [List.Nodup, List.pairwise_iff_getElem]
      intro i j hi hj hij
      rw [List.length_map] at hi hj
      rw [List.getElem_map, List.getElem_map]
      intro e
      have := h.1 i j ws[i] ws[j] (List.getElem?_eq_getElem hi) (List.getElem?_eq_getElem hj) e
      omega
    · obtain ⟨k, hk⟩ := List.getElem?_of_mem hq
      exact h.2 k q hk
  · intro h
    refine ⟨fun i j p q hp hq e => ?_, fun k q hk => h.2 q (List.mem_of_getElem? hk)⟩
    obtain ⟨hi, rfl⟩ := List.getElem?_eq_some_iff.mp hp
    obtain ⟨hj, rfl⟩ := List.getElem?_eq_some_iff.mp hq
    have h1 := h.1
    rw [List.Nodup, List.pairwise_iff_getElem] at h1
    rcases Nat.lt_trichotomy i j with g | g | g
    · have := h1 i j (by rw [List.length_map]; exact hi) (by rw [List.length_map]; exact hj) g
      rw [List.getElem_map, List.getElem_map] at this
      exact absurd e this
    · exact g
    · have := h1 j i (by rw [List.length_map]; exact hj) (by rw [List.length_map]; exact hi) g
      rw [List.getElem_map, List.getElem_map] at this
      exact absurd e.symm this
theorem uv_Pp {D : va_G} {cl : List vw_C} {ws ws' : va_W} {H : Heap} (hp : ws.Perm ws') (h : va_P D cl ws H) : va_P D cl ws' H := uv_P.mpr fun q hq => uv_P.mp h q (hp.mem_iff.mpr hq)
theorem uv_Dp {A : Nat → Prop} {ws ws' : va_W} (hp : ws.Perm ws') (h : va_D A ws) : va_D A ws' := by
  obtain ⟨h1, h2⟩ := uv_D.mp h
  exact uv_D.mpr ⟨(hp.map Prod.fst).nodup_iff.mp h1, fun q hq => h2 q (hp.mem_iff.mpr hq)⟩
theorem uv_Ps {D : va_G} {cl : List vw_C} {ws ws' : va_W} {H : Heap} (hs : ws'.Sublist ws) (h : va_P D cl ws H) : va_P D cl ws' H := uv_P.mpr fun q hq => uv_P.mp h q (hs.subset hq)
theorem uv_Ds {A : Nat → Prop} {ws ws' : va_W} (hs : ws'.Sublist ws) (h : va_D A ws) : va_D A ws' := by
  obtain ⟨h1, h2⟩ := uv_D.mp h
  exact uv_D.mpr ⟨h1.sublist (hs.map Prod.fst), fun q hq => h2 q (hs.subset hq)⟩
/-- the callee's cells and new ones are ours to change -/
theorem uv_free {A0 : Nat → Prop} {ws wc wr : va_W} {H0 H : Heap} {locs : List Loc} (hD : va_D A0 ws) (hS : va_S A0 H0 H locs) (hA : ∀ q, H0.size ≤ q → A0 q) (hp : ws.Perm (wc ++ wr)) : ∀ q, va_A wc H.size q → A0 q := by
  intro q h
  rcases h with ⟨k, e, h⟩ | h
  · exact (uv_D.mp hD).2 (q, e) (hp.mem_iff.mpr (List.mem_append_left _ (List.mem_of_getElem? h)))
  · exact hA q (Nat.le_trans hS.1 h)
theorem uv_join {A0 : Nat → Prop} {D : va_G} {cl : List vw_C} {ws wc wr w1 : va_W} {H H1 : Heap} (hP : va_P D cl ws H) (hD : va_D A0 ws) (hp : ws.Perm (wc ++ wr))
    (hk : ∀ q : Nat, q < H.size → ¬ va_A wc H.size q → H1[q]? = H[q]?) (hF : ∀ q, va_A wc H.size q → A0 q) (hP1 : va_P D cl w1 H1) (hD1 : va_D (va_A wc H.size) w1) : va_P D cl (w1 ++ wr) H1 ∧ va_D A0 (w1 ++ wr) := by
  have hP2 := uv_P.mp (uv_Pp hp hP)
  obtain ⟨hN, hI⟩ := uv_D.mp (uv_Dp hp hD)
  obtain ⟨hN1, hI1⟩ := uv_D.mp hD1
  rw [List.map_append, List.nodup_append] at hN
  have apart : ∀ q ∈ wr, q.1 < H.size ∧ ¬ va_A wc H.size q.1 := by
    intro q hq
    have hl := (hP2 q (List.mem_append_right _ hq)).lt
    refine ⟨hl, fun h => ?_⟩
    rcases h with ⟨k, e, h⟩ | h
    · exact hN.2.2 q.1 (List.mem_map.mpr ⟨(q.1, e), List.mem_of_getElem? h, rfl⟩) q.1 (List.mem_map.mpr ⟨q, hq, rfl⟩) rfl
    · omega
  refine ⟨uv_P.mpr fun q hq => ?_, uv_D.mpr ⟨?_, fun q hq => ?_⟩⟩
  · rcases List.mem_append.mp hq with h | h
    · exact uv_P.mp hP1 q h
    · obtain ⟨g1, g2⟩ := apart q h
      exact (hP2 q (List.mem_append_right _ h)).kept (hk q.1 g1 g2)
  · rw [List.map_append, List.nodup_append]
    refine ⟨hN1, hN.2.1, fun x hx y hy e => ?_⟩
    obtain ⟨q, hq, rfl⟩ := List.mem_map.mp hx
    obtain ⟨q2, hq2, rfl⟩ := List.mem_map.mp hy
    exact (apart q2 hq2).2 (by rw [← e]; exact hI1 q hq)
  · rcases List.mem_append.mp hq with h | h
    · exact hF q.1 (hI1 q h)
    · exact hI q (List.mem_append_right _ h)
end
section
/-! names of classes, from the print of the task; small rows of our own -/
def RX0 : String := "Patchferry$Blocks"
def RX1 : String := "Patchferry$Differ"
def RX2 : String := "Patchferry$Disk"
def RX3 : String := "Patchferry$Edits"
def RX4 : String := "Patchferry$Patch"
def RX5 : String := "Patchferry$Program"
def RX6 : String := "Patchferry$Row"
def RX7 : String := "Patchferry$Runs"
def RX8 : String := "Patchferry$Store"
def RX9 : String := "Patchferry$Tree"
def RX10 : String := "Patchferry$Versions"
def RX11 : String := "Patchferry"
def RX12 : String := "PatchferryModel$Edit"
def RX13 : String := "PatchferryModel$Patch"
def RX14 : String := "PatchferryModel$Step"
def RX15 : String := "PatchferryModel"
def RJx145de : String := "java/io/Serializable"
def RJ5 : String := "java/lang/AbstractStringBuilder"
def RJx2cfe8 : String := "java/lang/Appendable"
def RJx00060 : String := "java/lang/ArrayIndexOutOfBoundsException"
def RJx9f9b0 : String := "java/lang/CharSequence"
def RJx8e188 : String := "java/lang/Cloneable"
def RJxb160c : String := "java/lang/Comparable"
def RJxabbfe : String := "java/lang/Integer$IntegerCache"
def RJ6 : String := "java/lang/Integer"
def RJxab1ab : String := "java/lang/Iterable"
def RJ9 : String := "java/lang/Math"
def RJxd2413 : String := "java/lang/Number"
def RJ0 : String := "java/lang/String"
def RJ4 : String := "java/lang/StringBuilder"
def RJx7c733 : String := "java/lang/StringIndexOutOfBoundsException"
def RJ1 : String := "java/lang/StringLatin1"
def RJ2 : String := "java/lang/StringUTF16"
def RJ10 : String := "java/lang/System"
def RJxfd54e : String := "java/lang/constant/Constable"
def RJx3cf43 : String := "java/lang/constant/ConstantDesc"
def RJxa1e45 : String := "java/util/AbstractCollection"
def RJxc12de : String := "java/util/AbstractList"
def RJx35411 : String := "java/util/ArrayList$Itr"
def RJx4a65c : String := "java/util/ArrayList"
def RJ7 : String := "java/util/Arrays"
def RJx5ef63 : String := "java/util/Collection"
def RJx4d0d8 : String := "java/util/Iterator"
def RJxbd725 : String := "java/util/List"
def RJ15 : String := "java/util/Objects"
def RJxf0a74 : String := "java/util/RandomAccess"
def RJxa66e6 : String := "java/util/SequencedCollection"
def RJ8 : String := "jdk/internal/util/ArraysSupport"
def RJ3 : String := "jdk/internal/util/Preconditions"
def RL : String := "PatchferryLaw"
abbrev cX0_init : ByteArray := prog_2_method_1_code
def yX0_init : MethodName := ⟨RX0, "<init>", "()V"⟩
abbrev cX0_scan : ByteArray := prog_2_method_2_code
def yX0_scan : MethodName := ⟨RX0, "scan", "(LPatchferry$Row;LPatchferry$Row;I)V"⟩
abbrev cX0_isBlock : ByteArray := prog_2_method_3_code
def yX0_isBlock : MethodName := ⟨RX0, "isBlock", "(LPatchferry$Row;II)Z"⟩
abbrev cX0_sent : ByteArray := prog_2_method_4_code
def yX0_sent : MethodName := ⟨RX0, "sent", "()I"⟩
abbrev cX1_init : ByteArray := prog_3_method_1_code
def yX1_init : MethodName := ⟨RX1, "<init>", "()V"⟩
abbrev cX1_begin : ByteArray := prog_3_method_2_code
def yX1_begin : MethodName := ⟨RX1, "begin", "(LPatchferry$Row;LPatchferry$Row;)V"⟩
abbrev cX1_beginInside : ByteArray := prog_3_method_3_code
def yX1_beginInside : MethodName := ⟨RX1, "beginInside", "(LPatchferry$Row;LPatchferry$Row;)V"⟩
abbrev cX1_from : ByteArray := prog_3_method_4_code
def yX1_from : MethodName := ⟨RX1, "from", "()I"⟩
abbrev cX1_size : ByteArray := prog_3_method_5_code
def yX1_size : MethodName := ⟨RX1, "size", "()I"⟩
abbrev cX1_seek : ByteArray := prog_3_method_6_code
def yX1_seek : MethodName := ⟨RX1, "seek", "(I)V"⟩
abbrev cX1_stretch : ByteArray := prog_3_method_7_code
def yX1_stretch : MethodName := ⟨RX1, "stretch", "(II)V"⟩
abbrev cX1_next : ByteArray := prog_3_method_8_code
def yX1_next : MethodName := ⟨RX1, "next", "()Z"⟩
abbrev cX1_tally : ByteArray := prog_3_method_9_code
def yX1_tally : MethodName := ⟨RX1, "tally", "()I"⟩
abbrev cX2_init : ByteArray := prog_4_method_1_code
def yX2_init : MethodName := ⟨RX2, "<init>", "()V"⟩
abbrev cX2_fill : ByteArray := prog_4_method_2_code
def yX2_fill : MethodName := ⟨RX2, "fill", "(LPatchferry$Row;)V"⟩
abbrev cX2_tellCut : ByteArray := prog_4_method_3_code
def yX2_tellCut : MethodName := ⟨RX2, "tellCut", "(I)I"⟩
abbrev cX2_isAtRest : ByteArray := prog_4_method_4_code
def yX2_isAtRest : MethodName := ⟨RX2, "isAtRest", "()Z"⟩
abbrev cX2_wasLaid : ByteArray := prog_4_method_5_code
def yX2_wasLaid : MethodName := ⟨RX2, "wasLaid", "()Z"⟩
abbrev cX2_laidPatch : ByteArray := prog_4_method_6_code
def yX2_laidPatch : MethodName := ⟨RX2, "laidPatch", "()LPatchferry$Patch;"⟩
abbrev cX2_has : ByteArray := prog_4_method_7_code
def yX2_has : MethodName := ⟨RX2, "has", "(LPatchferry$Row;)Z"⟩
abbrev cX2_size : ByteArray := prog_4_method_8_code
def yX2_size : MethodName := ⟨RX2, "size", "()I"⟩
abbrev cX2_get : ByteArray := prog_4_method_9_code
def yX2_get : MethodName := ⟨RX2, "get", "(I)I"⟩
abbrev cX2_savedCount : ByteArray := prog_4_method_10_code
def yX2_savedCount : MethodName := ⟨RX2, "savedCount", "()I"⟩
abbrev cX2_orderCount : ByteArray := prog_4_method_11_code
def yX2_orderCount : MethodName := ⟨RX2, "orderCount", "()I"⟩
abbrev cX2_ordered : ByteArray := prog_4_method_12_code
def yX2_ordered : MethodName := ⟨RX2, "ordered", "(I)I"⟩
abbrev cX2_start : ByteArray := prog_4_method_13_code
def yX2_start : MethodName := ⟨RX2, "start", "(LPatchferry$Patch;)V"⟩
abbrev cX2_findBegins : ByteArray := prog_4_method_14_code
def yX2_findBegins : MethodName := ⟨RX2, "findBegins", "()V"⟩
abbrev cX2_findNeeds : ByteArray := prog_4_method_15_code
def yX2_findNeeds : MethodName := ⟨RX2, "findNeeds", "()V"⟩
abbrev cX2_choose : ByteArray := prog_4_method_16_code
def yX2_choose : MethodName := ⟨RX2, "choose", "()V"⟩
abbrev cX2_bytesOf : ByteArray := prog_4_method_17_code
def yX2_bytesOf : MethodName := ⟨RX2, "bytesOf", "(I)I"⟩
abbrev cX2_arrange : ByteArray := prog_4_method_18_code
def yX2_arrange : MethodName := ⟨RX2, "arrange", "(I)Z"⟩
abbrev cX2_lowestReady : ByteArray := prog_4_method_19_code
def yX2_lowestReady : MethodName := ⟨RX2, "lowestReady", "(II)I"⟩
abbrev cX2_saveAhead : ByteArray := prog_4_method_20_code
def yX2_saveAhead : MethodName := ⟨RX2, "saveAhead", "()V"⟩
abbrev cX2_isSaved : ByteArray := prog_4_method_21_code
def yX2_isSaved : MethodName := ⟨RX2, "isSaved", "(I)Z"⟩
abbrev cX2_run : ByteArray := prog_4_method_22_code
def yX2_run : MethodName := ⟨RX2, "run", "()I"⟩
abbrev cX2_write : ByteArray := prog_4_method_23_code
def yX2_write : MethodName := ⟨RX2, "write", "(I)V"⟩
abbrev cX3_init : ByteArray := prog_5_method_1_code
def yX3_init : MethodName := ⟨RX3, "<init>", "()V"⟩
abbrev cX3_read : ByteArray := prog_5_method_2_code
def yX3_read : MethodName := ⟨RX3, "read", "(LPatchferry$Patch;)Z"⟩
abbrev cX3_closeGap : ByteArray := prog_5_method_3_code
def yX3_closeGap : MethodName := ⟨RX3, "closeGap", "(III)V"⟩
abbrev cX3_readChanged : ByteArray := prog_5_method_4_code
def yX3_readChanged : MethodName := ⟨RX3, "readChanged", "(LPatchferry$Patch;III)V"⟩
abbrev cX3_enter : ByteArray := prog_5_method_5_code
def yX3_enter : MethodName := ⟨RX3, "enter", "(III)V"⟩
abbrev cX3_valuesEnd : ByteArray := prog_5_method_6_code
def yX3_valuesEnd : MethodName := ⟨RX3, "valuesEnd", "(I)I"⟩
abbrev cX3_isLike : ByteArray := prog_5_method_7_code
def yX3_isLike : MethodName := ⟨RX3, "isLike", "(ILPatchferry$Edits;I)Z"⟩
abbrev cX3_clashWith : ByteArray := prog_5_method_8_code
def yX3_clashWith : MethodName := ⟨RX3, "clashWith", "(LPatchferry$Edits;)I"⟩
abbrev cX3_blend : ByteArray := prog_5_method_9_code
def yX3_blend : MethodName := ⟨RX3, "blend", "(LPatchferry$Edits;LPatchferry$Row;LPatchferry$Row;)V"⟩
abbrev cX3_writeEdit : ByteArray := prog_5_method_10_code
def yX3_writeEdit : MethodName := ⟨RX3, "writeEdit", "(ILPatchferry$Row;ILPatchferry$Row;)I"⟩
abbrev cX3_writePart : ByteArray := prog_5_method_11_code
def yX3_writePart : MethodName := ⟨RX3, "writePart", "(LPatchferry$Row;IILPatchferry$Row;)V"⟩
abbrev cX4_init : ByteArray := prog_6_method_1_code
def yX4_init : MethodName := ⟨RX4, "<init>", "()V"⟩
abbrev cX4_count : ByteArray := prog_6_method_2_code
def yX4_count : MethodName := ⟨RX4, "count", "()I"⟩
abbrev cX4_fromAt : ByteArray := prog_6_method_3_code
def yX4_fromAt : MethodName := ⟨RX4, "fromAt", "(I)I"⟩
abbrev cX4_sizeAt : ByteArray := prog_6_method_4_code
def yX4_sizeAt : MethodName := ⟨RX4, "sizeAt", "(I)I"⟩
abbrev cX4_addAt : ByteArray := prog_6_method_5_code
def yX4_addAt : MethodName := ⟨RX4, "addAt", "(I)I"⟩
abbrev cX4_madeSize : ByteArray := prog_6_method_6_code
def yX4_madeSize : MethodName := ⟨RX4, "madeSize", "()I"⟩
abbrev cX4_base : ByteArray := prog_6_method_7_code
def yX4_base : MethodName := ⟨RX4, "base", "()LPatchferry$Row;"⟩
abbrev cX4_draw : ByteArray := prog_6_method_8_code
def yX4_draw : MethodName := ⟨RX4, "draw", "(LPatchferry$Differ;LPatchferry$Row;LPatchferry$Row;)V"⟩
abbrev cX4_join : ByteArray := prog_6_method_9_code
def yX4_join : MethodName := ⟨RX4, "join", "(LPatchferry$Patch;LPatchferry$Patch;)V"⟩
abbrev cX4_joinCopy : ByteArray := prog_6_method_10_code
def yX4_joinCopy : MethodName := ⟨RX4, "joinCopy", "(LPatchferry$Patch;LPatchferry$Patch;III)V"⟩
abbrev cX4_restart : ByteArray := prog_6_method_11_code
def yX4_restart : MethodName := ⟨RX4, "restart", "(LPatchferry$Row;)V"⟩
abbrev cX4_addOperation : ByteArray := prog_6_method_12_code
def yX4_addOperation : MethodName := ⟨RX4, "addOperation", "(II)V"⟩
abbrev cX4_writeMade : ByteArray := prog_6_method_13_code
def yX4_writeMade : MethodName := ⟨RX4, "writeMade", "(LPatchferry$Row;)V"⟩
abbrev cX4_taken : ByteArray := prog_6_method_14_code
def yX4_taken : MethodName := ⟨RX4, "taken", "()I"⟩
abbrev cX4_changedIn : ByteArray := prog_6_method_15_code
def yX4_changedIn : MethodName := ⟨RX4, "changedIn", "(II)I"⟩
abbrev cX4_writeSigns : ByteArray := prog_6_method_16_code
def yX4_writeSigns : MethodName := ⟨RX4, "writeSigns", "(LPatchferry$Row;)V"⟩
abbrev cX4_writeNumber : ByteArray := prog_6_method_17_code
def yX4_writeNumber : MethodName := ⟨RX4, "writeNumber", "(ILPatchferry$Row;)V"⟩
abbrev cX4_costOf : ByteArray := prog_6_method_18_code
def yX4_costOf : MethodName := ⟨RX4, "costOf", "(IIII)I"⟩
abbrev cX4_numberBytes : ByteArray := prog_6_method_19_code
def yX4_numberBytes : MethodName := ⟨RX4, "numberBytes", "(I)I"⟩
abbrev cX5_init : ByteArray := prog_7_method_1_code
def yX5_init : MethodName := ⟨RX5, "<init>", "()V"⟩
abbrev cX5_isJump : ByteArray := prog_7_method_2_code
def yX5_isJump : MethodName := ⟨RX5, "isJump", "(I)Z"⟩
abbrev cX5_target : ByteArray := prog_7_method_3_code
def yX5_target : MethodName := ⟨RX5, "target", "(LPatchferry$Row;I)I"⟩
abbrev cX5_count : ByteArray := prog_7_method_4_code
def yX5_count : MethodName := ⟨RX5, "count", "()I"⟩
abbrev cX5_read : ByteArray := prog_7_method_5_code
def yX5_read : MethodName := ⟨RX5, "read", "(LPatchferry$Row;)Z"⟩
abbrev cX5_writeLabelled : ByteArray := prog_7_method_6_code
def yX5_writeLabelled : MethodName := ⟨RX5, "writeLabelled", "(LPatchferry$Row;LPatchferry$Row;)V"⟩
abbrev cX5_writePlain : ByteArray := prog_7_method_7_code
def yX5_writePlain : MethodName := ⟨RX5, "writePlain", "(LPatchferry$Row;LPatchferry$Row;)Z"⟩
abbrev cX6_init : ByteArray := prog_8_method_1_code
def yX6_init : MethodName := ⟨RX6, "<init>", "(I)V"⟩
abbrev cX6_size : ByteArray := prog_8_method_2_code
def yX6_size : MethodName := ⟨RX6, "size", "()I"⟩
abbrev cX6_get : ByteArray := prog_8_method_3_code
def yX6_get : MethodName := ⟨RX6, "get", "(I)I"⟩
abbrev cX6_set : ByteArray := prog_8_method_4_code
def yX6_set : MethodName := ⟨RX6, "set", "(II)V"⟩
abbrev cX6_add : ByteArray := prog_8_method_5_code
def yX6_add : MethodName := ⟨RX6, "add", "(I)V"⟩
abbrev cX6_clear : ByteArray := prog_8_method_6_code
def yX6_clear : MethodName := ⟨RX6, "clear", "()V"⟩
abbrev cX6_resize : ByteArray := prog_8_method_7_code
def yX6_resize : MethodName := ⟨RX6, "resize", "(I)V"⟩
abbrev cX6_copy : ByteArray := prog_8_method_8_code
def yX6_copy : MethodName := ⟨RX6, "copy", "()LPatchferry$Row;"⟩
abbrev cX6_copyFrom : ByteArray := prog_8_method_9_code
def yX6_copyFrom : MethodName := ⟨RX6, "copyFrom", "(LPatchferry$Row;)V"⟩
abbrev cX6_matches : ByteArray := prog_8_method_10_code
def yX6_matches : MethodName := ⟨RX6, "matches", "(LPatchferry$Row;)Z"⟩
abbrev cX6_agrees : ByteArray := prog_8_method_11_code
def yX6_agrees : MethodName := ⟨RX6, "agrees", "(ILPatchferry$Row;II)Z"⟩
abbrev cX6_turnRound : ByteArray := prog_8_method_12_code
def yX6_turnRound : MethodName := ⟨RX6, "turnRound", "()V"⟩
abbrev cX6_raiseAll : ByteArray := prog_8_method_13_code
def yX6_raiseAll : MethodName := ⟨RX6, "raiseAll", "()V"⟩
abbrev cX6_strongSum : ByteArray := prog_8_method_14_code
def yX6_strongSum : MethodName := ⟨RX6, "strongSum", "(III)I"⟩
abbrev cX6_weakSum : ByteArray := prog_8_method_15_code
def yX6_weakSum : MethodName := ⟨RX6, "weakSum", "(II)I"⟩
abbrev cX7_init : ByteArray := prog_9_method_1_code
def yX7_init : MethodName := ⟨RX7, "<init>", "()V"⟩
abbrev cX7_count : ByteArray := prog_9_method_2_code
def yX7_count : MethodName := ⟨RX7, "count", "()I"⟩
abbrev cX7_value : ByteArray := prog_9_method_3_code
def yX7_value : MethodName := ⟨RX7, "value", "(I)I"⟩
abbrev cX7_end : ByteArray := prog_9_method_4_code
def yX7_end : MethodName := ⟨RX7, "end", "(I)I"⟩
abbrev cX7_begin : ByteArray := prog_9_method_5_code
def yX7_begin : MethodName := ⟨RX7, "begin", "(I)I"⟩
abbrev cX7_total : ByteArray := prog_9_method_6_code
def yX7_total : MethodName := ⟨RX7, "total", "()I"⟩
abbrev cX7_put : ByteArray := prog_9_method_7_code
def yX7_put : MethodName := ⟨RX7, "put", "(II)V"⟩
abbrev cX7_clear : ByteArray := prog_9_method_8_code
def yX7_clear : MethodName := ⟨RX7, "clear", "()V"⟩
abbrev cX7_read : ByteArray := prog_9_method_9_code
def yX7_read : MethodName := ⟨RX7, "read", "(LPatchferry$Row;)V"⟩
abbrev cX7_runAt : ByteArray := prog_9_method_10_code
def yX7_runAt : MethodName := ⟨RX7, "runAt", "(I)I"⟩
abbrev cX7_alikeFrom : ByteArray := prog_9_method_11_code
def yX7_alikeFrom : MethodName := ⟨RX7, "alikeFrom", "(ILPatchferry$Runs;I)I"⟩
abbrev cX7_unfold : ByteArray := prog_9_method_12_code
def yX7_unfold : MethodName := ⟨RX7, "unfold", "(LPatchferry$Row;)Z"⟩
abbrev cX7_fold : ByteArray := prog_9_method_13_code
def yX7_fold : MethodName := ⟨RX7, "fold", "(ILPatchferry$Row;)V"⟩
abbrev cX7_foldPart : ByteArray := prog_9_method_14_code
def yX7_foldPart : MethodName := ⟨RX7, "foldPart", "(IIZLPatchferry$Row;)V"⟩
abbrev cX7_spell : ByteArray := prog_9_method_15_code
def yX7_spell : MethodName := ⟨RX7, "spell", "(LPatchferry$Row;)V"⟩
abbrev cX8_init : ByteArray := prog_10_method_1_code
def yX8_init : MethodName := ⟨RX8, "<init>", "()V"⟩
abbrev cX8_enter : ByteArray := prog_10_method_2_code
def yX8_enter : MethodName := ⟨RX8, "enter", "(LPatchferry$Row;)V"⟩
abbrev cX8_isCut : ByteArray := prog_10_method_3_code
def yX8_isCut : MethodName := ⟨RX8, "isCut", "(LPatchferry$Row;II)Z"⟩
abbrev cX8_numberOf : ByteArray := prog_10_method_4_code
def yX8_numberOf : MethodName := ⟨RX8, "numberOf", "(LPatchferry$Row;III)I"⟩
abbrev cX8_textOf : ByteArray := prog_10_method_5_code
def yX8_textOf : MethodName := ⟨RX8, "textOf", "(I)LPatchferry$Row;"⟩
abbrev cX8_cutOf : ByteArray := prog_10_method_6_code
def yX8_cutOf : MethodName := ⟨RX8, "cutOf", "(I)LPatchferry$Row;"⟩
abbrev cX8_countOf : ByteArray := prog_10_method_7_code
def yX8_countOf : MethodName := ⟨RX8, "countOf", "(I)I"⟩
abbrev cX8_sizeOf : ByteArray := prog_10_method_8_code
def yX8_sizeOf : MethodName := ⟨RX8, "sizeOf", "(II)I"⟩
abbrev cX8_isIn : ByteArray := prog_10_method_9_code
def yX8_isIn : MethodName := ⟨RX8, "isIn", "(I)Z"⟩
abbrev cX8_takeIn : ByteArray := prog_10_method_10_code
def yX8_takeIn : MethodName := ⟨RX8, "takeIn", "(I)I"⟩
abbrev cX8_takeOut : ByteArray := prog_10_method_11_code
def yX8_takeOut : MethodName := ⟨RX8, "takeOut", "(I)I"⟩
abbrev cX8_sweep : ByteArray := prog_10_method_12_code
def yX8_sweep : MethodName := ⟨RX8, "sweep", "()I"⟩
abbrev cX8_keptBytes : ByteArray := prog_10_method_13_code
def yX8_keptBytes : MethodName := ⟨RX8, "keptBytes", "()I"⟩
abbrev cX8_alike : ByteArray := prog_10_method_14_code
def yX8_alike : MethodName := ⟨RX8, "alike", "(II)I"⟩
abbrev cX8_countPieces : ByteArray := prog_10_method_15_code
def yX8_countPieces : MethodName := ⟨RX8, "countPieces", "(LPatchferry$Row;)V"⟩
abbrev cX8_forgetPieces : ByteArray := prog_10_method_16_code
def yX8_forgetPieces : MethodName := ⟨RX8, "forgetPieces", "(LPatchferry$Row;)V"⟩
abbrev cX8_moveTo : ByteArray := prog_10_method_17_code
def yX8_moveTo : MethodName := ⟨RX8, "moveTo", "(II)I"⟩
abbrev cX8_oldOf : ByteArray := prog_10_method_18_code
def yX8_oldOf : MethodName := ⟨RX8, "oldOf", "(I)I"⟩
abbrev cX8_fillGrid : ByteArray := prog_10_method_19_code
def yX8_fillGrid : MethodName := ⟨RX8, "fillGrid", "()V"⟩
abbrev cX8_bestPair : ByteArray := prog_10_method_20_code
def yX8_bestPair : MethodName := ⟨RX8, "bestPair", "()I"⟩
abbrev cX8_takePair : ByteArray := prog_10_method_21_code
def yX8_takePair : MethodName := ⟨RX8, "takePair", "(II)V"⟩
abbrev cX8_usesStand : ByteArray := prog_10_method_22_code
def yX8_usesStand : MethodName := ⟨RX8, "usesStand", "()Z"⟩
abbrev cX9_init : ByteArray := prog_11_method_1_code
def yX9_init : MethodName := ⟨RX9, "<init>", "()V"⟩
abbrev cX9_leaves : ByteArray := prog_11_method_2_code
def yX9_leaves : MethodName := ⟨RX9, "leaves", "(LPatchferry$Row;)I"⟩
abbrev cX9_leafSum : ByteArray := prog_11_method_3_code
def yX9_leafSum : MethodName := ⟨RX9, "leafSum", "(LPatchferry$Row;I)I"⟩
abbrev cX9_readLeaves : ByteArray := prog_11_method_4_code
def yX9_readLeaves : MethodName := ⟨RX9, "readLeaves", "(LPatchferry$Row;)V"⟩
abbrev cX9_climb : ByteArray := prog_11_method_5_code
def yX9_climb : MethodName := ⟨RX9, "climb", "()I"⟩
abbrev cX9_root : ByteArray := prog_11_method_6_code
def yX9_root : MethodName := ⟨RX9, "root", "(LPatchferry$Row;)I"⟩
abbrev cX9_provesLeaf : ByteArray := prog_11_method_7_code
def yX9_provesLeaf : MethodName := ⟨RX9, "provesLeaf", "(LPatchferry$Row;LPatchferry$Row;I)Z"⟩
abbrev cX10_init : ByteArray := prog_12_method_1_code
def yX10_init : MethodName := ⟨RX10, "<init>", "()V"⟩
abbrev cX10_count : ByteArray := prog_12_method_2_code
def yX10_count : MethodName := ⟨RX10, "count", "()I"⟩
abbrev cX10_enter : ByteArray := prog_12_method_3_code
def yX10_enter : MethodName := ⟨RX10, "enter", "(LPatchferry$Row;)I"⟩
abbrev cX10_textOf : ByteArray := prog_12_method_4_code
def yX10_textOf : MethodName := ⟨RX10, "textOf", "(I)LPatchferry$Row;"⟩
abbrev cX10_tellKey : ByteArray := prog_12_method_5_code
def yX10_tellKey : MethodName := ⟨RX10, "tellKey", "(IZ)Z"⟩
abbrev cX10_tellCount : ByteArray := prog_12_method_6_code
def yX10_tellCount : MethodName := ⟨RX10, "tellCount", "(II)I"⟩
abbrev cX10_lastKey : ByteArray := prog_12_method_7_code
def yX10_lastKey : MethodName := ⟨RX10, "lastKey", "(I)I"⟩
abbrev cX10_cost : ByteArray := prog_12_method_8_code
def yX10_cost : MethodName := ⟨RX10, "cost", "(LPatchferry$Differ;II)I"⟩
abbrev cX10_walk : ByteArray := prog_12_method_9_code
def yX10_walk : MethodName := ⟨RX10, "walk", "(LPatchferry$Differ;II)I"⟩
abbrev cX10_fleetBytes : ByteArray := prog_12_method_10_code
def yX10_fleetBytes : MethodName := ⟨RX10, "fleetBytes", "(LPatchferry$Differ;I)I"⟩
abbrev cX10_takeGreatestGain : ByteArray := prog_12_method_11_code
def yX10_takeGreatestGain : MethodName := ⟨RX10, "takeGreatestGain", "()I"⟩
abbrev cX11_init : ByteArray := prog_1_method_1_code
def yX11_init : MethodName := ⟨RX11, "<init>", "()V"⟩
abbrev cX11_type : ByteArray := prog_1_method_2_code
def yX11_type : MethodName := ⟨RX11, "type", "(I)I"⟩
abbrev cX11_repeat : ByteArray := prog_1_method_3_code
def yX11_repeat : MethodName := ⟨RX11, "repeat", "(II)I"⟩
abbrev cX11_quote : ByteArray := prog_1_method_4_code
def yX11_quote : MethodName := ⟨RX11, "quote", "(III)I"⟩
abbrev cX11_file : ByteArray := prog_1_method_5_code
def yX11_file : MethodName := ⟨RX11, "file", "()I"⟩
abbrev cX11_length : ByteArray := prog_1_method_6_code
def yX11_length : MethodName := ⟨RX11, "length", "(I)I"⟩
abbrev cX11_at : ByteArray := prog_1_method_7_code
def yX11_at : MethodName := ⟨RX11, "at", "(II)I"⟩
abbrev cX11_isSame : ByteArray := prog_1_method_8_code
def yX11_isSame : MethodName := ⟨RX11, "isSame", "(II)Z"⟩
abbrev cX11_letter : ByteArray := prog_1_method_9_code
def yX11_letter : MethodName := ⟨RX11, "letter", "(C)I"⟩
abbrev cX11_doWord : ByteArray := prog_1_method_10_code
def yX11_doWord : MethodName := ⟨RX11, "doWord", "()I"⟩
abbrev cX11_endAt : ByteArray := prog_1_method_11_code
def yX11_endAt : MethodName := ⟨RX11, "endAt", "(II)I"⟩
abbrev cX11_matchLength : ByteArray := prog_1_method_12_code
def yX11_matchLength : MethodName := ⟨RX11, "matchLength", "(III)I"⟩
abbrev cX11_matchPlace : ByteArray := prog_1_method_13_code
def yX11_matchPlace : MethodName := ⟨RX11, "matchPlace", "(III)I"⟩
abbrev cX11_slack : ByteArray := prog_1_method_14_code
def yX11_slack : MethodName := ⟨RX11, "slack", "(IIII)I"⟩
abbrev cX11_make : ByteArray := prog_1_method_15_code
def yX11_make : MethodName := ⟨RX11, "make", "(II)I"⟩
abbrev cX11_operations : ByteArray := prog_1_method_16_code
def yX11_operations : MethodName := ⟨RX11, "operations", "(I)I"⟩
abbrev cX11_kindOf : ByteArray := prog_1_method_17_code
def yX11_kindOf : MethodName := ⟨RX11, "kindOf", "(II)C"⟩
abbrev cX11_fromOf : ByteArray := prog_1_method_18_code
def yX11_fromOf : MethodName := ⟨RX11, "fromOf", "(II)I"⟩
abbrev cX11_lengthOf : ByteArray := prog_1_method_19_code
def yX11_lengthOf : MethodName := ⟨RX11, "lengthOf", "(II)I"⟩
abbrev cX11_signAt : ByteArray := prog_1_method_20_code
def yX11_signAt : MethodName := ⟨RX11, "signAt", "(II)C"⟩
abbrev cX11_bytes : ByteArray := prog_1_method_21_code
def yX11_bytes : MethodName := ⟨RX11, "bytes", "(I)I"⟩
abbrev cX11_apply : ByteArray := prog_1_method_22_code
def yX11_apply : MethodName := ⟨RX11, "apply", "(II)I"⟩
abbrev cX11_compose : ByteArray := prog_1_method_23_code
def yX11_compose : MethodName := ⟨RX11, "compose", "(II)I"⟩
abbrev cX11_merge : ByteArray := prog_1_method_24_code
def yX11_merge : MethodName := ⟨RX11, "merge", "(II)I"⟩
abbrev cX11_clash : ByteArray := prog_1_method_25_code
def yX11_clash : MethodName := ⟨RX11, "clash", "()I"⟩
abbrev cX11_pieces : ByteArray := prog_1_method_26_code
def yX11_pieces : MethodName := ⟨RX11, "pieces", "(I)I"⟩
abbrev cX11_pieceLength : ByteArray := prog_1_method_27_code
def yX11_pieceLength : MethodName := ⟨RX11, "pieceLength", "(II)I"⟩
abbrev cX11_store : ByteArray := prog_1_method_28_code
def yX11_store : MethodName := ⟨RX11, "store", "(I)I"⟩
abbrev cX11_drop : ByteArray := prog_1_method_29_code
def yX11_drop : MethodName := ⟨RX11, "drop", "(I)I"⟩
abbrev cX11_collect : ByteArray := prog_1_method_30_code
def yX11_collect : MethodName := ⟨RX11, "collect", "()I"⟩
abbrev cX11_stored : ByteArray := prog_1_method_31_code
def yX11_stored : MethodName := ⟨RX11, "stored", "()I"⟩
abbrev cX11_likeness : ByteArray := prog_1_method_32_code
def yX11_likeness : MethodName := ⟨RX11, "likeness", "(II)I"⟩
abbrev cX11_setFolder : ByteArray := prog_1_method_33_code
def yX11_setFolder : MethodName := ⟨RX11, "setFolder", "(II)I"⟩
abbrev cX11_renamed : ByteArray := prog_1_method_34_code
def yX11_renamed : MethodName := ⟨RX11, "renamed", "(I)I"⟩
abbrev cX11_literals : ByteArray := prog_1_method_35_code
def yX11_literals : MethodName := ⟨RX11, "literals", "(III)I"⟩
abbrev cX11_falseOnes : ByteArray := prog_1_method_36_code
def yX11_falseOnes : MethodName := ⟨RX11, "falseOnes", "(III)I"⟩
abbrev cX11_wire : ByteArray := prog_1_method_37_code
def yX11_wire : MethodName := ⟨RX11, "wire", "(III)I"⟩
abbrev cX11_bestLength : ByteArray := prog_1_method_38_code
def yX11_bestLength : MethodName := ⟨RX11, "bestLength", "(II)I"⟩
abbrev cX11_labels : ByteArray := prog_1_method_39_code
def yX11_labels : MethodName := ⟨RX11, "labels", "(I)I"⟩
abbrev cX11_label : ByteArray := prog_1_method_40_code
def yX11_label : MethodName := ⟨RX11, "label", "(I)I"⟩
abbrev cX11_unlabel : ByteArray := prog_1_method_41_code
def yX11_unlabel : MethodName := ⟨RX11, "unlabel", "(I)I"⟩
abbrev cX11_labelledBytes : ByteArray := prog_1_method_42_code
def yX11_labelledBytes : MethodName := ⟨RX11, "labelledBytes", "(II)I"⟩
abbrev cX11_pack : ByteArray := prog_1_method_43_code
def yX11_pack : MethodName := ⟨RX11, "pack", "(II)I"⟩
abbrev cX11_unpack : ByteArray := prog_1_method_44_code
def yX11_unpack : MethodName := ⟨RX11, "unpack", "(I)I"⟩
abbrev cX11_modeOf : ByteArray := prog_1_method_45_code
def yX11_modeOf : MethodName := ⟨RX11, "modeOf", "(I)I"⟩
abbrev cX11_insideBytes : ByteArray := prog_1_method_46_code
def yX11_insideBytes : MethodName := ⟨RX11, "insideBytes", "(II)I"⟩
abbrev cX11_load : ByteArray := prog_1_method_47_code
def yX11_load : MethodName := ⟨RX11, "load", "(I)I"⟩
abbrev cX11_setCut : ByteArray := prog_1_method_48_code
def yX11_setCut : MethodName := ⟨RX11, "setCut", "(I)I"⟩
abbrev cX11_lay : ByteArray := prog_1_method_49_code
def yX11_lay : MethodName := ⟨RX11, "lay", "(I)I"⟩
abbrev cX11_goOn : ByteArray := prog_1_method_50_code
def yX11_goOn : MethodName := ⟨RX11, "goOn", "()I"⟩
abbrev cX11_isWhole : ByteArray := prog_1_method_51_code
def yX11_isWhole : MethodName := ⟨RX11, "isWhole", "()Z"⟩
abbrev cX11_savedBytes : ByteArray := prog_1_method_52_code
def yX11_savedBytes : MethodName := ⟨RX11, "savedBytes", "()I"⟩
abbrev cX11_orderAt : ByteArray := prog_1_method_53_code
def yX11_orderAt : MethodName := ⟨RX11, "orderAt", "(I)I"⟩
abbrev cX11_diskLength : ByteArray := prog_1_method_54_code
def yX11_diskLength : MethodName := ⟨RX11, "diskLength", "()I"⟩
abbrev cX11_onDisk : ByteArray := prog_1_method_55_code
def yX11_onDisk : MethodName := ⟨RX11, "onDisk", "(I)I"⟩
abbrev cX11_isOn : ByteArray := prog_1_method_56_code
def yX11_isOn : MethodName := ⟨RX11, "isOn", "(I)Z"⟩
abbrev cX11_version : ByteArray := prog_1_method_57_code
def yX11_version : MethodName := ⟨RX11, "version", "(I)I"⟩
abbrev cX11_setKey : ByteArray := prog_1_method_58_code
def yX11_setKey : MethodName := ⟨RX11, "setKey", "(IZ)Z"⟩
abbrev cX11_fetch : ByteArray := prog_1_method_59_code
def yX11_fetch : MethodName := ⟨RX11, "fetch", "(I)I"⟩
abbrev cX11_route : ByteArray := prog_1_method_60_code
def yX11_route : MethodName := ⟨RX11, "route", "(II)I"⟩
abbrev cX11_chain : ByteArray := prog_1_method_61_code
def yX11_chain : MethodName := ⟨RX11, "chain", "(II)I"⟩
abbrev cX11_setCount : ByteArray := prog_1_method_62_code
def yX11_setCount : MethodName := ⟨RX11, "setCount", "(II)I"⟩
abbrev cX11_fleet : ByteArray := prog_1_method_63_code
def yX11_fleet : MethodName := ⟨RX11, "fleet", "(I)I"⟩
abbrev cX11_rootOf : ByteArray := prog_1_method_64_code
def yX11_rootOf : MethodName := ⟨RX11, "rootOf", "(I)J"⟩
abbrev cX11_proves : ByteArray := prog_1_method_65_code
def yX11_proves : MethodName := ⟨RX11, "proves", "(III)Z"⟩
abbrev cX11_liar : ByteArray := prog_1_method_66_code
def yX11_liar : MethodName := ⟨RX11, "liar", "(II)I"⟩
abbrev cX11_files : ByteArray := prog_1_method_67_code
def yX11_files : MethodName := ⟨RX11, "files", "()I"⟩
abbrev cX11_sumOf : ByteArray := prog_1_method_68_code
def yX11_sumOf : MethodName := ⟨RX11, "sumOf", "(I)J"⟩
abbrev cX11_share : ByteArray := prog_1_method_69_code
def yX11_share : MethodName := ⟨RX11, "share", "(I)F"⟩
abbrev cX11_meanLength : ByteArray := prog_1_method_70_code
def yX11_meanLength : MethodName := ⟨RX11, "meanLength", "()D"⟩
abbrev cX11_isSound : ByteArray := prog_1_method_71_code
def yX11_isSound : MethodName := ⟨RX11, "isSound", "()Z"⟩
abbrev cX11_comesBackLabelled : ByteArray := prog_1_method_72_code
def yX11_comesBackLabelled : MethodName := ⟨RX11, "comesBackLabelled", "(LPatchferry$Row;)Z"⟩
abbrev cX11_comesBackPacked : ByteArray := prog_1_method_73_code
def yX11_comesBackPacked : MethodName := ⟨RX11, "comesBackPacked", "(LPatchferry$Row;)Z"⟩
abbrev cX11_versionsStand : ByteArray := prog_1_method_74_code
def yX11_versionsStand : MethodName := ⟨RX11, "versionsStand", "()Z"⟩
abbrev cX11_diskStands : ByteArray := prog_1_method_75_code
def yX11_diskStands : MethodName := ⟨RX11, "diskStands", "()Z"⟩
abbrev cX11_keep : ByteArray := prog_1_method_76_code
def yX11_keep : MethodName := ⟨RX11, "keep", "(LPatchferry$Row;)I"⟩
abbrev cX11_keepPatch : ByteArray := prog_1_method_77_code
def yX11_keepPatch : MethodName := ⟨RX11, "keepPatch", "(LPatchferry$Patch;)I"⟩
abbrev cX11_rankEnds : ByteArray := prog_1_method_78_code
def yX11_rankEnds : MethodName := ⟨RX11, "rankEnds", "(LPatchferry$Row;LPatchferry$Row;)V"⟩
abbrev cX11_seekMatch : ByteArray := prog_1_method_79_code
def yX11_seekMatch : MethodName := ⟨RX11, "seekMatch", "(III)V"⟩
abbrev cX11_scanBlocks : ByteArray := prog_1_method_80_code
def yX11_scanBlocks : MethodName := ⟨RX11, "scanBlocks", "(III)V"⟩
abbrev cX11_writeLabelled : ByteArray := prog_1_method_81_code
def yX11_writeLabelled : MethodName := ⟨RX11, "writeLabelled", "(LPatchferry$Row;LPatchferry$Row;)Z"⟩
abbrev cX11_findMode : ByteArray := prog_1_method_82_code
def yX11_findMode : MethodName := ⟨RX11, "findMode", "(LPatchferry$Row;)I"⟩
abbrev cX11_held : ByteArray := prog_1_method_83_code
def yX11_held : MethodName := ⟨RX11, "held", "(I)LPatchferry$Row;"⟩
abbrev cX11_needFile : ByteArray := prog_1_method_84_code
def yX11_needFile : MethodName := ⟨RX11, "needFile", "(I)V"⟩
abbrev cX11_known : ByteArray := prog_1_method_85_code
def yX11_known : MethodName := ⟨RX11, "known", "(I)LPatchferry$Patch;"⟩
abbrev cX11_needIndex : ByteArray := prog_1_method_86_code
def yX11_needIndex : MethodName := ⟨RX11, "needIndex", "(II)V"⟩
abbrev cX11_needByte : ByteArray := prog_1_method_87_code
def yX11_needByte : MethodName := ⟨RX11, "needByte", "(I)V"⟩
abbrev cX11_needMany : ByteArray := prog_1_method_88_code
def yX11_needMany : MethodName := ⟨RX11, "needMany", "(I)V"⟩
abbrev cX11_needBuffer : ByteArray := prog_1_method_89_code
def yX11_needBuffer : MethodName := ⟨RX11, "needBuffer", "(I)V"⟩
abbrev cX11_needFileRoom : ByteArray := prog_1_method_90_code
def yX11_needFileRoom : MethodName := ⟨RX11, "needFileRoom", "(I)V"⟩
abbrev cX11_needPatchRoom : ByteArray := prog_1_method_91_code
def yX11_needPatchRoom : MethodName := ⟨RX11, "needPatchRoom", "()V"⟩
abbrev cX11_needAsManyLeaves : ByteArray := prog_1_method_92_code
def yX11_needAsManyLeaves : MethodName := ⟨RX11, "needAsManyLeaves", "(LPatchferry$Row;LPatchferry$Row;)V"⟩
abbrev cX12_init : ByteArray := prog_15_method_1_code
def yX12_init : MethodName := ⟨RX12, "<init>", "(II[I)V"⟩
abbrev cX12_isAs : ByteArray := prog_15_method_2_code
def yX12_isAs : MethodName := ⟨RX12, "isAs", "(LPatchferryModel$Edit;)Z"⟩
abbrev cX12_touches : ByteArray := prog_15_method_3_code
def yX12_touches : MethodName := ⟨RX12, "touches", "(LPatchferryModel$Edit;)Z"⟩
abbrev cX13_init : ByteArray := prog_16_method_1_code
def yX13_init : MethodName := ⟨RX13, "<init>", "([I)V"⟩
abbrev cX14_init : ByteArray := prog_17_method_1_code
def yX14_init : MethodName := ⟨RX14, "<init>", "(I[I)V"⟩
abbrev cX14_isCopy : ByteArray := prog_17_method_2_code
def yX14_isCopy : MethodName := ⟨RX14, "isCopy", "()Z"⟩
abbrev cX15_init : ByteArray := prog_14_method_1_code
def yX15_init : MethodName := ⟨RX15, "<init>", "()V"⟩
abbrev cX15_thrown : ByteArray := prog_14_method_2_code
def yX15_thrown : MethodName := ⟨RX15, "thrown", "()I"⟩
abbrev cX15_fails : ByteArray := prog_14_method_3_code
def yX15_fails : MethodName := ⟨RX15, "fails", "(I)Z"⟩
abbrev cX15_in : ByteArray := prog_14_method_4_code
def yX15_in : MethodName := ⟨RX15, "in", "(III)Z"⟩
abbrev cX15_same : ByteArray := prog_14_method_5_code
def yX15_same : MethodName := ⟨RX15, "same", "([I[I)Z"⟩
abbrev cX15_part : ByteArray := prog_14_method_6_code
def yX15_part : MethodName := ⟨RX15, "part", "([III)[I"⟩
abbrev cX15_joined : ByteArray := prog_14_method_7_code
def yX15_joined : MethodName := ⟨RX15, "joined", "([I[I)[I"⟩
abbrev cX15_isFile : ByteArray := prog_14_method_8_code
def yX15_isFile : MethodName := ⟨RX15, "isFile", "(I)Z"⟩
abbrev cX15_failsFile : ByteArray := prog_14_method_9_code
def yX15_failsFile : MethodName := ⟨RX15, "failsFile", "(I)Z"⟩
abbrev cX15_failsFiles : ByteArray := prog_14_method_10_code
def yX15_failsFiles : MethodName := ⟨RX15, "failsFiles", "(II)Z"⟩
abbrev cX15_put : ByteArray := prog_14_method_11_code
def yX15_put : MethodName := ⟨RX15, "put", "([I)I"⟩
abbrev cX15_type : ByteArray := prog_14_method_12_code
def yX15_type : MethodName := ⟨RX15, "type", "(I)I"⟩
abbrev cX15_repeat : ByteArray := prog_14_method_13_code
def yX15_repeat : MethodName := ⟨RX15, "repeat", "(II)I"⟩
abbrev cX15_quote : ByteArray := prog_14_method_14_code
def yX15_quote : MethodName := ⟨RX15, "quote", "(III)I"⟩
abbrev cX15_keep : ByteArray := prog_14_method_15_code
def yX15_keep : MethodName := ⟨RX15, "keep", "([I)I"⟩
abbrev cX15_file : ByteArray := prog_14_method_16_code
def yX15_file : MethodName := ⟨RX15, "file", "()I"⟩
abbrev cX15_length : ByteArray := prog_14_method_17_code
def yX15_length : MethodName := ⟨RX15, "length", "(I)I"⟩
abbrev cX15_at : ByteArray := prog_14_method_18_code
def yX15_at : MethodName := ⟨RX15, "at", "(II)I"⟩
abbrev cX15_isSame : ByteArray := prog_14_method_19_code
def yX15_isSame : MethodName := ⟨RX15, "isSame", "(II)Z"⟩
abbrev cX15_letter : ByteArray := prog_14_method_20_code
def yX15_letter : MethodName := ⟨RX15, "letter", "(C)I"⟩
abbrev cX15_doWord : ByteArray := prog_14_method_21_code
def yX15_doWord : MethodName := ⟨RX15, "doWord", "()I"⟩
abbrev cX15_isAhead : ByteArray := prog_14_method_22_code
def yX15_isAhead : MethodName := ⟨RX15, "isAhead", "([III)Z"⟩
abbrev cX15_endAt : ByteArray := prog_14_method_23_code
def yX15_endAt : MethodName := ⟨RX15, "endAt", "(II)I"⟩
abbrev cX15_alike : ByteArray := prog_14_method_24_code
def yX15_alike : MethodName := ⟨RX15, "alike", "([II[II)I"⟩
abbrev cX15_match : ByteArray := prog_14_method_25_code
def yX15_match : MethodName := ⟨RX15, "match", "([I[II)I"⟩
abbrev cX15_failsPlace : ByteArray := prog_14_method_26_code
def yX15_failsPlace : MethodName := ⟨RX15, "failsPlace", "(III)Z"⟩
abbrev cX15_matchLength : ByteArray := prog_14_method_27_code
def yX15_matchLength : MethodName := ⟨RX15, "matchLength", "(III)I"⟩
abbrev cX15_matchPlace : ByteArray := prog_14_method_28_code
def yX15_matchPlace : MethodName := ⟨RX15, "matchPlace", "(III)I"⟩
abbrev cX15_slack : ByteArray := prog_14_method_29_code
def yX15_slack : MethodName := ⟨RX15, "slack", "([II[II)I"⟩
abbrev cX15_slack_ : ByteArray := prog_14_method_30_code
def yX15_slack_ : MethodName := ⟨RX15, "slack", "(IIII)I"⟩
abbrev cX15_between : ByteArray := prog_14_method_31_code
def yX15_between : MethodName := ⟨RX15, "between", "([I[I)LPatchferryModel$Patch;"⟩
abbrev cX15_addExtra : ByteArray := prog_14_method_32_code
def yX15_addExtra : MethodName := ⟨RX15, "addExtra", "(LPatchferryModel$Patch;[I)V"⟩
abbrev cX15_applied : ByteArray := prog_14_method_33_code
def yX15_applied : MethodName := ⟨RX15, "applied", "(LPatchferryModel$Patch;)[I"⟩
abbrev cX15_bytesOf : ByteArray := prog_14_method_34_code
def yX15_bytesOf : MethodName := ⟨RX15, "bytesOf", "(LPatchferryModel$Step;[I)[I"⟩
abbrev cX15_keep_ : ByteArray := prog_14_method_35_code
def yX15_keep_ : MethodName := ⟨RX15, "keep", "(LPatchferryModel$Patch;)I"⟩
abbrev cX15_make : ByteArray := prog_14_method_36_code
def yX15_make : MethodName := ⟨RX15, "make", "(II)I"⟩
abbrev cX15_isPatch : ByteArray := prog_14_method_37_code
def yX15_isPatch : MethodName := ⟨RX15, "isPatch", "(I)Z"⟩
abbrev cX15_failsPatch : ByteArray := prog_14_method_38_code
def yX15_failsPatch : MethodName := ⟨RX15, "failsPatch", "(I)Z"⟩
abbrev cX15_failsStep : ByteArray := prog_14_method_39_code
def yX15_failsStep : MethodName := ⟨RX15, "failsStep", "(II)Z"⟩
abbrev cX15_operations : ByteArray := prog_14_method_40_code
def yX15_operations : MethodName := ⟨RX15, "operations", "(I)I"⟩
abbrev cX15_kindOf : ByteArray := prog_14_method_41_code
def yX15_kindOf : MethodName := ⟨RX15, "kindOf", "(II)C"⟩
abbrev cX15_fromOf : ByteArray := prog_14_method_42_code
def yX15_fromOf : MethodName := ⟨RX15, "fromOf", "(II)I"⟩
abbrev cX15_lengthOf : ByteArray := prog_14_method_43_code
def yX15_lengthOf : MethodName := ⟨RX15, "lengthOf", "(II)I"⟩
abbrev cX15_changed : ByteArray := prog_14_method_44_code
def yX15_changed : MethodName := ⟨RX15, "changed", "(LPatchferryModel$Step;)I"⟩
abbrev cX15_text : ByteArray := prog_14_method_45_code
def yX15_text : MethodName := ⟨RX15, "text", "(LPatchferryModel$Patch;)Ljava/lang/String;"⟩
abbrev cX15_signAt : ByteArray := prog_14_method_46_code
def yX15_signAt : MethodName := ⟨RX15, "signAt", "(II)C"⟩
abbrev cX15_taken : ByteArray := prog_14_method_47_code
def yX15_taken : MethodName := ⟨RX15, "taken", "(I)I"⟩
abbrev cX15_bytes : ByteArray := prog_14_method_48_code
def yX15_bytes : MethodName := ⟨RX15, "bytes", "(LPatchferryModel$Patch;)I"⟩
abbrev cX15_bytes_ : ByteArray := prog_14_method_49_code
def yX15_bytes_ : MethodName := ⟨RX15, "bytes", "(I)I"⟩
abbrev cX15_failsMade : ByteArray := prog_14_method_50_code
def yX15_failsMade : MethodName := ⟨RX15, "failsMade", "([II)Z"⟩
abbrev cX15_apply : ByteArray := prog_14_method_51_code
def yX15_apply : MethodName := ⟨RX15, "apply", "(II)I"⟩
abbrev cX15_piece : ByteArray := prog_14_method_52_code
def yX15_piece : MethodName := ⟨RX15, "piece", "(LPatchferryModel$Patch;LPatchferryModel$Step;LPatchferryModel$Patch;)V"⟩
abbrev cX15_composed : ByteArray := prog_14_method_53_code
def yX15_composed : MethodName := ⟨RX15, "composed", "(LPatchferryModel$Patch;LPatchferryModel$Patch;)LPatchferryModel$Patch;"⟩
abbrev cX15_failsPatches : ByteArray := prog_14_method_54_code
def yX15_failsPatches : MethodName := ⟨RX15, "failsPatches", "(II)Z"⟩
abbrev cX15_compose : ByteArray := prog_14_method_55_code
def yX15_compose : MethodName := ⟨RX15, "compose", "(II)I"⟩
abbrev cX15_addGap : ByteArray := prog_14_method_56_code
def yX15_addGap : MethodName := ⟨RX15, "addGap", "(Ljava/util/ArrayList;II[I)V"⟩
abbrev cX15_edits : ByteArray := prog_14_method_57_code
def yX15_edits : MethodName := ⟨RX15, "edits", "(LPatchferryModel$Patch;)Ljava/util/ArrayList;"⟩
abbrev cX15_clashOf : ByteArray := prog_14_method_58_code
def yX15_clashOf : MethodName := ⟨RX15, "clashOf", "(Ljava/util/ArrayList;Ljava/util/ArrayList;)I"⟩
abbrev cX15_merge : ByteArray := prog_14_method_59_code
def yX15_merge : MethodName := ⟨RX15, "merge", "(II)I"⟩
abbrev cX15_clash : ByteArray := prog_14_method_60_code
def yX15_clash : MethodName := ⟨RX15, "clash", "()I"⟩
abbrev cX15_piecesOf : ByteArray := prog_14_method_61_code
def yX15_piecesOf : MethodName := ⟨RX15, "piecesOf", "([I)Ljava/util/ArrayList;"⟩
abbrev cX15_pieces : ByteArray := prog_14_method_62_code
def yX15_pieces : MethodName := ⟨RX15, "pieces", "(I)I"⟩
abbrev cX15_pieceLength : ByteArray := prog_14_method_63_code
def yX15_pieceLength : MethodName := ⟨RX15, "pieceLength", "(II)I"⟩
abbrev cX15_find : ByteArray := prog_14_method_64_code
def yX15_find : MethodName := ⟨RX15, "find", "(Ljava/util/ArrayList;[I)I"⟩
abbrev cX15_store : ByteArray := prog_14_method_65_code
def yX15_store : MethodName := ⟨RX15, "store", "(I)I"⟩
abbrev cX15_drop : ByteArray := prog_14_method_66_code
def yX15_drop : MethodName := ⟨RX15, "drop", "(I)I"⟩
abbrev cX15_collect : ByteArray := prog_14_method_67_code
def yX15_collect : MethodName := ⟨RX15, "collect", "()I"⟩
abbrev cX15_stored : ByteArray := prog_14_method_68_code
def yX15_stored : MethodName := ⟨RX15, "stored", "()I"⟩
abbrev cX15_likeness : ByteArray := prog_14_method_69_code
def yX15_likeness : MethodName := ⟨RX15, "likeness", "([I[I)I"⟩
abbrev cX15_likeness_ : ByteArray := prog_14_method_70_code
def yX15_likeness_ : MethodName := ⟨RX15, "likeness", "(II)I"⟩
abbrev cX15_setFolder : ByteArray := prog_14_method_71_code
def yX15_setFolder : MethodName := ⟨RX15, "setFolder", "(II)I"⟩
abbrev cX15_renamed : ByteArray := prog_14_method_72_code
def yX15_renamed : MethodName := ⟨RX15, "renamed", "(I)I"⟩
abbrev cX15_strong : ByteArray := prog_14_method_73_code
def yX15_strong : MethodName := ⟨RX15, "strong", "([IIII)I"⟩
abbrev cX15_weak : ByteArray := prog_14_method_74_code
def yX15_weak : MethodName := ⟨RX15, "weak", "([III)I"⟩
abbrev cX15_look : ByteArray := prog_14_method_75_code
def yX15_look : MethodName := ⟨RX15, "look", "([I[II)V"⟩
abbrev cX15_failsLook : ByteArray := prog_14_method_76_code
def yX15_failsLook : MethodName := ⟨RX15, "failsLook", "(III)Z"⟩
abbrev cX15_literals : ByteArray := prog_14_method_77_code
def yX15_literals : MethodName := ⟨RX15, "literals", "(III)I"⟩
abbrev cX15_falseOnes : ByteArray := prog_14_method_78_code
def yX15_falseOnes : MethodName := ⟨RX15, "falseOnes", "(III)I"⟩
abbrev cX15_wireOf : ByteArray := prog_14_method_79_code
def yX15_wireOf : MethodName := ⟨RX15, "wireOf", "(II)I"⟩
abbrev cX15_wire : ByteArray := prog_14_method_80_code
def yX15_wire : MethodName := ⟨RX15, "wire", "(III)I"⟩
abbrev cX15_bestLength : ByteArray := prog_14_method_81_code
def yX15_bestLength : MethodName := ⟨RX15, "bestLength", "(II)I"⟩
abbrev cX15_labelsOf : ByteArray := prog_14_method_82_code
def yX15_labelsOf : MethodName := ⟨RX15, "labelsOf", "([I)Ljava/util/ArrayList;"⟩
abbrev cX15_labelled : ByteArray := prog_14_method_83_code
def yX15_labelled : MethodName := ⟨RX15, "labelled", "([I)[I"⟩
abbrev cX15_unlabelled : ByteArray := prog_14_method_84_code
def yX15_unlabelled : MethodName := ⟨RX15, "unlabelled", "([I)[I"⟩
abbrev cX15_labels : ByteArray := prog_14_method_85_code
def yX15_labels : MethodName := ⟨RX15, "labels", "(I)I"⟩
abbrev cX15_label : ByteArray := prog_14_method_86_code
def yX15_label : MethodName := ⟨RX15, "label", "(I)I"⟩
abbrev cX15_unlabel : ByteArray := prog_14_method_87_code
def yX15_unlabel : MethodName := ⟨RX15, "unlabel", "(I)I"⟩
abbrev cX15_labelledBytes : ByteArray := prog_14_method_88_code
def yX15_labelledBytes : MethodName := ⟨RX15, "labelledBytes", "(II)I"⟩
abbrev cX15_packed : ByteArray := prog_14_method_89_code
def yX15_packed : MethodName := ⟨RX15, "packed", "([II)[I"⟩
abbrev cX15_unpacked : ByteArray := prog_14_method_90_code
def yX15_unpacked : MethodName := ⟨RX15, "unpacked", "([I)[I"⟩
abbrev cX15_modeOf : ByteArray := prog_14_method_91_code
def yX15_modeOf : MethodName := ⟨RX15, "modeOf", "([I)I"⟩
abbrev cX15_pack : ByteArray := prog_14_method_92_code
def yX15_pack : MethodName := ⟨RX15, "pack", "(II)I"⟩
abbrev cX15_unpack : ByteArray := prog_14_method_93_code
def yX15_unpack : MethodName := ⟨RX15, "unpack", "(I)I"⟩
abbrev cX15_modeOf_ : ByteArray := prog_14_method_94_code
def yX15_modeOf_ : MethodName := ⟨RX15, "modeOf", "(I)I"⟩
abbrev cX15_insideBytes : ByteArray := prog_14_method_95_code
def yX15_insideBytes : MethodName := ⟨RX15, "insideBytes", "(II)I"⟩
abbrev cX15_load : ByteArray := prog_14_method_96_code
def yX15_load : MethodName := ⟨RX15, "load", "(I)I"⟩
abbrev cX15_setCut : ByteArray := prog_14_method_97_code
def yX15_setCut : MethodName := ⟨RX15, "setCut", "(I)I"⟩
abbrev cX15_beginOf : ByteArray := prog_14_method_98_code
def yX15_beginOf : MethodName := ⟨RX15, "beginOf", "(LPatchferryModel$Patch;I)I"⟩
abbrev cX15_hurts : ByteArray := prog_14_method_99_code
def yX15_hurts : MethodName := ⟨RX15, "hurts", "(LPatchferryModel$Patch;II)Z"⟩
abbrev cX15_ordered : ByteArray := prog_14_method_100_code
def yX15_ordered : MethodName := ⟨RX15, "ordered", "(LPatchferryModel$Patch;I)Ljava/util/ArrayList;"⟩
abbrev cX15_bytesOfSet : ByteArray := prog_14_method_101_code
def yX15_bytesOfSet : MethodName := ⟨RX15, "bytesOfSet", "(LPatchferryModel$Patch;I)I"⟩
abbrev cX15_areCopies : ByteArray := prog_14_method_102_code
def yX15_areCopies : MethodName := ⟨RX15, "areCopies", "(LPatchferryModel$Patch;I)Z"⟩
abbrev cX15_goAhead : ByteArray := prog_14_method_103_code
def yX15_goAhead : MethodName := ⟨RX15, "goAhead", "()I"⟩
abbrev cX15_isHalf : ByteArray := prog_14_method_104_code
def yX15_isHalf : MethodName := ⟨RX15, "isHalf", "()Z"⟩
abbrev cX15_lay : ByteArray := prog_14_method_105_code
def yX15_lay : MethodName := ⟨RX15, "lay", "(I)I"⟩
abbrev cX15_goOn : ByteArray := prog_14_method_106_code
def yX15_goOn : MethodName := ⟨RX15, "goOn", "()I"⟩
abbrev cX15_isWhole : ByteArray := prog_14_method_107_code
def yX15_isWhole : MethodName := ⟨RX15, "isWhole", "()Z"⟩
abbrev cX15_savedBytes : ByteArray := prog_14_method_108_code
def yX15_savedBytes : MethodName := ⟨RX15, "savedBytes", "()I"⟩
abbrev cX15_orderAt : ByteArray := prog_14_method_109_code
def yX15_orderAt : MethodName := ⟨RX15, "orderAt", "(I)I"⟩
abbrev cX15_diskLength : ByteArray := prog_14_method_110_code
def yX15_diskLength : MethodName := ⟨RX15, "diskLength", "()I"⟩
abbrev cX15_onDisk : ByteArray := prog_14_method_111_code
def yX15_onDisk : MethodName := ⟨RX15, "onDisk", "(I)I"⟩
abbrev cX15_isOn : ByteArray := prog_14_method_112_code
def yX15_isOn : MethodName := ⟨RX15, "isOn", "(I)Z"⟩
abbrev cX15_version : ByteArray := prog_14_method_113_code
def yX15_version : MethodName := ⟨RX15, "version", "(I)I"⟩
abbrev cX15_isVersion : ByteArray := prog_14_method_114_code
def yX15_isVersion : MethodName := ⟨RX15, "isVersion", "(I)Z"⟩
abbrev cX15_setKey : ByteArray := prog_14_method_115_code
def yX15_setKey : MethodName := ⟨RX15, "setKey", "(IZ)Z"⟩
abbrev cX15_bytesAt : ByteArray := prog_14_method_116_code
def yX15_bytesAt : MethodName := ⟨RX15, "bytesAt", "(I)[I"⟩
abbrev cX15_cost : ByteArray := prog_14_method_117_code
def yX15_cost : MethodName := ⟨RX15, "cost", "(II)I"⟩
abbrev cX15_fetch : ByteArray := prog_14_method_118_code
def yX15_fetch : MethodName := ⟨RX15, "fetch", "(I)I"⟩
abbrev cX15_route : ByteArray := prog_14_method_119_code
def yX15_route : MethodName := ⟨RX15, "route", "(II)I"⟩
abbrev cX15_chain : ByteArray := prog_14_method_120_code
def yX15_chain : MethodName := ⟨RX15, "chain", "(II)I"⟩
abbrev cX15_setCount : ByteArray := prog_14_method_121_code
def yX15_setCount : MethodName := ⟨RX15, "setCount", "(II)I"⟩
abbrev cX15_fleet : ByteArray := prog_14_method_122_code
def yX15_fleet : MethodName := ⟨RX15, "fleet", "(I)I"⟩
abbrev cX15_leaves : ByteArray := prog_14_method_123_code
def yX15_leaves : MethodName := ⟨RX15, "leaves", "([I)I"⟩
abbrev cX15_leafSum : ByteArray := prog_14_method_124_code
def yX15_leafSum : MethodName := ⟨RX15, "leafSum", "([II)I"⟩
abbrev cX15_root : ByteArray := prog_14_method_125_code
def yX15_root : MethodName := ⟨RX15, "root", "([IIJ)J"⟩
abbrev cX15_rootOf : ByteArray := prog_14_method_126_code
def yX15_rootOf : MethodName := ⟨RX15, "rootOf", "(I)J"⟩
abbrev cX15_failsMirror : ByteArray := prog_14_method_127_code
def yX15_failsMirror : MethodName := ⟨RX15, "failsMirror", "(II)Z"⟩
abbrev cX15_isProved : ByteArray := prog_14_method_128_code
def yX15_isProved : MethodName := ⟨RX15, "isProved", "(III)Z"⟩
abbrev cX15_proves : ByteArray := prog_14_method_129_code
def yX15_proves : MethodName := ⟨RX15, "proves", "(III)Z"⟩
abbrev cX15_liar : ByteArray := prog_14_method_130_code
def yX15_liar : MethodName := ⟨RX15, "liar", "(II)I"⟩
abbrev cX15_files : ByteArray := prog_14_method_131_code
def yX15_files : MethodName := ⟨RX15, "files", "()I"⟩
abbrev cX15_sumOf : ByteArray := prog_14_method_132_code
def yX15_sumOf : MethodName := ⟨RX15, "sumOf", "(I)J"⟩
abbrev cX15_share : ByteArray := prog_14_method_133_code
def yX15_share : MethodName := ⟨RX15, "share", "(I)F"⟩
abbrev cX15_meanLength : ByteArray := prog_14_method_134_code
def yX15_meanLength : MethodName := ⟨RX15, "meanLength", "()D"⟩
abbrev cX15_isSound : ByteArray := prog_14_method_135_code
def yX15_isSound : MethodName := ⟨RX15, "isSound", "()Z"⟩
abbrev cJ5_init_d00df : ByteArray := prog_19_method_2_code
def yJ5_init_d00df : MethodName := ⟨RJ5, "<init>", "(I)V"⟩
abbrev cJ5_length_8abf5 : ByteArray := prog_19_method_6_code
def yJ5_length_8abf5 : MethodName := ⟨RJ5, "length", "()I"⟩
abbrev cJ5_ensureCapacityInternal_d00df : ByteArray := prog_19_method_9_code
def yJ5_ensureCapacityInternal_d00df : MethodName := ⟨RJ5, "ensureCapacityInternal", "(I)V"⟩
abbrev cJ5_newCapacity_0f7a4 : ByteArray := prog_19_method_10_code
def yJ5_newCapacity_0f7a4 : MethodName := ⟨RJ5, "newCapacity", "(I)I"⟩
abbrev cJ5_inflate_da8c8 : ByteArray := prog_19_method_11_code
def yJ5_inflate_da8c8 : MethodName := ⟨RJ5, "inflate", "()V"⟩
abbrev cJ5_setLength_d00df : ByteArray := prog_19_method_13_code
def yJ5_setLength_d00df : MethodName := ⟨RJ5, "setLength", "(I)V"⟩
abbrev cJ5_append_cf1ce : ByteArray := prog_19_method_22_code
def yJ5_append_cf1ce : MethodName := ⟨RJ5, "append", "(Ljava/lang/String;)Ljava/lang/AbstractStringBuilder;"⟩
abbrev cJ5_appendNull_278bc : ByteArray := prog_19_method_26_code
def yJ5_appendNull_278bc : MethodName := ⟨RJ5, "appendNull", "()Ljava/lang/AbstractStringBuilder;"⟩
abbrev cJ5_append_3fe6f : ByteArray := prog_19_method_31_code
def yJ5_append_3fe6f : MethodName := ⟨RJ5, "append", "(C)Ljava/lang/AbstractStringBuilder;"⟩
abbrev cJ5_append_c97b9 : ByteArray := prog_19_method_32_code
def yJ5_append_c97b9 : MethodName := ⟨RJ5, "append", "(I)Ljava/lang/AbstractStringBuilder;"⟩
abbrev cJ5_getValue_6d5f1 : ByteArray := prog_19_method_64_code
def yJ5_getValue_6d5f1 : MethodName := ⟨RJ5, "getValue", "()[B"⟩
abbrev cJ5_isLatin1_aae02 : ByteArray := prog_19_method_68_code
def yJ5_isLatin1_aae02 : MethodName := ⟨RJ5, "isLatin1", "()Z"⟩
abbrev cJ5_inflateIfNeededFor_a7421 : ByteArray := prog_19_method_71_code
def yJ5_inflateIfNeededFor_a7421 : MethodName := ⟨RJ5, "inflateIfNeededFor", "(Ljava/lang/String;)V"⟩
abbrev cJ5_putStringAt_47b60 : ByteArray := prog_19_method_73_code
def yJ5_putStringAt_47b60 : MethodName := ⟨RJ5, "putStringAt", "(ILjava/lang/String;)V"⟩
abbrev cJx00060_init_d00df : ByteArray := prog_21_method_3_code
def yJx00060_init_d00df : MethodName := ⟨RJx00060, "<init>", "(I)V"⟩
abbrev cJ6_getChars_ba4f3 : ByteArray := prog_29_method_12_code
def yJ6_getChars_ba4f3 : MethodName := ⟨RJ6, "getChars", "(II[B)I"⟩
abbrev cJ6_stringSize_0f7a4 : ByteArray := prog_29_method_13_code
def yJ6_stringSize_0f7a4 : MethodName := ⟨RJ6, "stringSize", "(I)I"⟩
abbrev cJ6_valueOf_2dffe : ByteArray := prog_29_method_22_code
def yJ6_valueOf_2dffe : MethodName := ⟨RJ6, "valueOf", "(I)Ljava/lang/Integer;"⟩
abbrev cJ6_init_d00df : ByteArray := prog_29_method_23_code
def yJ6_init_d00df : MethodName := ⟨RJ6, "<init>", "(I)V"⟩
abbrev cJ6_intValue_8abf5 : ByteArray := prog_29_method_27_code
def yJ6_intValue_8abf5 : MethodName := ⟨RJ6, "intValue", "()I"⟩
abbrev cJ6_equals_9ea2d : ByteArray := prog_29_method_34_code
def yJ6_equals_9ea2d : MethodName := ⟨RJ6, "equals", "(Ljava/lang/Object;)Z"⟩
abbrev cJ9_abs_0f7a4 : ByteArray := prog_32_method_59_code
def yJ9_abs_0f7a4 : MethodName := ⟨RJ9, "abs", "(I)I"⟩
abbrev cJ9_max_7cf53 : ByteArray := prog_32_method_65_code
def yJ9_max_7cf53 : MethodName := ⟨RJ9, "max", "(II)I"⟩
abbrev cJ9_min_7cf53 : ByteArray := prog_32_method_69_code
def yJ9_min_7cf53 : MethodName := ⟨RJ9, "min", "(II)I"⟩
abbrev cJxd2413_init_da8c8 : ByteArray := prog_33_method_1_code
def yJxd2413_init_da8c8 : MethodName := ⟨RJxd2413, "<init>", "()V"⟩
abbrev cJ0_init_81219 : ByteArray := prog_35_method_53_code
def yJ0_init_81219 : MethodName := ⟨RJ0, "<init>", "(Ljava/lang/StringBuilder;)V"⟩
abbrev cJ0_length_8abf5 : ByteArray := prog_35_method_54_code
def yJ0_length_8abf5 : MethodName := ⟨RJ0, "length", "()I"⟩
abbrev cJ0_isEmpty_aae02 : ByteArray := prog_35_method_55_code
def yJ0_isEmpty_aae02 : MethodName := ⟨RJ0, "isEmpty", "()Z"⟩
abbrev cJ0_charAt_5068e : ByteArray := prog_35_method_56_code
def yJ0_charAt_5068e : MethodName := ⟨RJ0, "charAt", "(I)C"⟩
abbrev cJ0_equals_9ea2d : ByteArray := prog_35_method_66_code
def yJ0_equals_9ea2d : MethodName := ⟨RJ0, "equals", "(Ljava/lang/Object;)Z"⟩
abbrev cJ0_getBytes_840e7 : ByteArray := prog_35_method_147_code
def yJ0_getBytes_840e7 : MethodName := ⟨RJ0, "getBytes", "([BIB)V"⟩
abbrev cJ0_init_db425 : ByteArray := prog_35_method_150_code
def yJ0_init_db425 : MethodName := ⟨RJ0, "<init>", "(Ljava/lang/AbstractStringBuilder;Ljava/lang/Void;)V"⟩
abbrev cJ0_coder_7d493 : ByteArray := prog_35_method_152_code
def yJ0_coder_7d493 : MethodName := ⟨RJ0, "coder", "()B"⟩
abbrev cJ0_isLatin1_aae02 : ByteArray := prog_35_method_154_code
def yJ0_isLatin1_aae02 : MethodName := ⟨RJ0, "isLatin1", "()Z"⟩
abbrev cJ0_checkIndex_df160 : ByteArray := prog_35_method_155_code
def yJ0_checkIndex_df160 : MethodName := ⟨RJ0, "checkIndex", "(II)V"⟩
abbrev cJ0_checkBoundsOffCount_cabcc : ByteArray := prog_35_method_157_code
def yJ0_checkBoundsOffCount_cabcc : MethodName := ⟨RJ0, "checkBoundsOffCount", "(III)I"⟩
abbrev cJ0_checkBoundsBeginEnd_23922 : ByteArray := prog_35_method_158_code
def yJ0_checkBoundsBeginEnd_23922 : MethodName := ⟨RJ0, "checkBoundsBeginEnd", "(III)V"⟩
abbrev cJ4_init_da8c8 : ByteArray := prog_36_method_1_code
def yJ4_init_da8c8 : MethodName := ⟨RJ4, "<init>", "()V"⟩
abbrev cJ4_append_15ec4 : ByteArray := prog_36_method_7_code
def yJ4_append_15ec4 : MethodName := ⟨RJ4, "append", "(Ljava/lang/String;)Ljava/lang/StringBuilder;"⟩
abbrev cJ4_append_cf468 : ByteArray := prog_36_method_14_code
def yJ4_append_cf468 : MethodName := ⟨RJ4, "append", "(C)Ljava/lang/StringBuilder;"⟩
abbrev cJ4_append_bf812 : ByteArray := prog_36_method_15_code
def yJ4_append_bf812 : MethodName := ⟨RJ4, "append", "(I)Ljava/lang/StringBuilder;"⟩
abbrev cJ4_toString_0e30d : ByteArray := prog_36_method_42_code
def yJ4_toString_0e30d : MethodName := ⟨RJ4, "toString", "()Ljava/lang/String;"⟩
abbrev cJ4_setLength_d00df : ByteArray := prog_36_method_89_code
def yJ4_setLength_d00df : MethodName := ⟨RJ4, "setLength", "(I)V"⟩
abbrev cJ4_length_8abf5 : ByteArray := prog_36_method_93_code
def yJ4_length_8abf5 : MethodName := ⟨RJ4, "length", "()I"⟩
abbrev cJx7c733_init_d00df : ByteArray := prog_37_method_3_code
def yJx7c733_init_d00df : MethodName := ⟨RJx7c733, "<init>", "(I)V"⟩
abbrev cJ1_charAt_3b067 : ByteArray := prog_38_method_2_code
def yJ1_charAt_3b067 : MethodName := ⟨RJ1, "charAt", "([BI)C"⟩
abbrev cJ1_canEncode_fc78d : ByteArray := prog_38_method_3_code
def yJ1_canEncode_fc78d : MethodName := ⟨RJ1, "canEncode", "(C)Z"⟩
abbrev cJ1_equals_b5fdf : ByteArray := prog_38_method_13_code
def yJ1_equals_b5fdf : MethodName := ⟨RJ1, "equals", "([B[B)Z"⟩
abbrev cJ1_fillNull_b72d1 : ByteArray := prog_38_method_48_code
def yJ1_fillNull_b72d1 : MethodName := ⟨RJ1, "fillNull", "([BII)V"⟩
abbrev cJ1_inflate_0e8fd : ByteArray := prog_38_method_50_code
def yJ1_inflate_0e8fd : MethodName := ⟨RJ1, "inflate", "([BI[BII)V"⟩
abbrev cJ2_newBytesFor_77867 : ByteArray := prog_39_method_2_code
def yJ2_newBytesFor_77867 : MethodName := ⟨RJ2, "newBytesFor", "(I)[B"⟩
abbrev cJ2_newBytesLength_0f7a4 : ByteArray := prog_39_method_3_code
def yJ2_newBytesLength_0f7a4 : MethodName := ⟨RJ2, "newBytesLength", "(I)I"⟩
abbrev cJ2_putChar_b72d1 : ByteArray := prog_39_method_4_code
def yJ2_putChar_b72d1 : MethodName := ⟨RJ2, "putChar", "([BII)V"⟩
abbrev cJ2_getChar_3b067 : ByteArray := prog_39_method_5_code
def yJ2_getChar_3b067 : MethodName := ⟨RJ2, "getChar", "([BI)C"⟩
abbrev cJ2_length_9d52b : ByteArray := prog_39_method_6_code
def yJ2_length_9d52b : MethodName := ⟨RJ2, "length", "([B)I"⟩
abbrev cJ2_coderFromArrayLen_85cad : ByteArray := prog_39_method_15_code
def yJ2_coderFromArrayLen_85cad : MethodName := ⟨RJ2, "coderFromArrayLen", "([BI)B"⟩
abbrev cJ2_compress_39247 : ByteArray := prog_39_method_17_code
def yJ2_compress_39247 : MethodName := ⟨RJ2, "compress", "([BII)[B"⟩
abbrev cJ2_compress_5af95 : ByteArray := prog_39_method_22_code
def yJ2_compress_5af95 : MethodName := ⟨RJ2, "compress", "([BI[BII)I"⟩
abbrev cJ2_fillNull_b72d1 : ByteArray := prog_39_method_70_code
def yJ2_fillNull_b72d1 : MethodName := ⟨RJ2, "fillNull", "([BII)V"⟩
abbrev cJ2_putCharSB_b72d1 : ByteArray := prog_39_method_71_code
def yJ2_putCharSB_b72d1 : MethodName := ⟨RJ2, "putCharSB", "([BII)V"⟩
abbrev cJ2_getChars_46870 : ByteArray := prog_39_method_77_code
def yJ2_getChars_46870 : MethodName := ⟨RJ2, "getChars", "(III[B)I"⟩
abbrev cJ2_putCharsAt_cd4e5 : ByteArray := prog_39_method_81_code
def yJ2_putCharsAt_cd4e5 : MethodName := ⟨RJ2, "putCharsAt", "([BICCCC)I"⟩
abbrev cJ2_charAt_3b067 : ByteArray := prog_39_method_83_code
def yJ2_charAt_3b067 : MethodName := ⟨RJ2, "charAt", "([BI)C"⟩
abbrev cJ2_inflate_0e8fd : ByteArray := prog_39_method_86_code
def yJ2_inflate_0e8fd : MethodName := ⟨RJ2, "inflate", "([BI[BII)V"⟩
abbrev cJ2_getChars_ba4f3 : ByteArray := prog_39_method_89_code
def yJ2_getChars_ba4f3 : MethodName := ⟨RJ2, "getChars", "(II[B)I"⟩
abbrev cJ2_checkIndex_2214a : ByteArray := prog_39_method_91_code
def yJ2_checkIndex_2214a : MethodName := ⟨RJ2, "checkIndex", "(I[B)V"⟩
abbrev cJ2_checkBoundsBeginEnd_d044e : ByteArray := prog_39_method_93_code
def yJ2_checkBoundsBeginEnd_d044e : MethodName := ⟨RJ2, "checkBoundsBeginEnd", "(II[B)V"⟩
abbrev cJ2_checkBoundsOffCount_d044e : ByteArray := prog_39_method_94_code
def yJ2_checkBoundsOffCount_d044e : MethodName := ⟨RJ2, "checkBoundsOffCount", "(II[B)V"⟩
abbrev cJxa1e45_init_da8c8 : ByteArray := prog_45_method_1_code
def yJxa1e45_init_da8c8 : MethodName := ⟨RJxa1e45, "<init>", "()V"⟩
abbrev cJxc12de_init_da8c8 : ByteArray := prog_46_method_1_code
def yJxc12de_init_da8c8 : MethodName := ⟨RJxc12de, "<init>", "()V"⟩
abbrev cJx35411_init_45d68 : ByteArray := prog_48_method_1_code
def yJx35411_init_45d68 : MethodName := ⟨RJx35411, "<init>", "(Ljava/util/ArrayList;)V"⟩
abbrev cJx35411_hasNext_aae02 : ByteArray := prog_48_method_2_code
def yJx35411_hasNext_aae02 : MethodName := ⟨RJx35411, "hasNext", "()Z"⟩
abbrev cJx35411_next_0502b : ByteArray := prog_48_method_3_code
def yJx35411_next_0502b : MethodName := ⟨RJx35411, "next", "()Ljava/lang/Object;"⟩
abbrev cJx35411_checkForComodification_da8c8 : ByteArray := prog_48_method_6_code
def yJx35411_checkForComodification_da8c8 : MethodName := ⟨RJx35411, "checkForComodification", "()V"⟩
abbrev cJx4a65c_init_da8c8 : ByteArray := prog_47_method_2_code
def yJx4a65c_init_da8c8 : MethodName := ⟨RJx4a65c, "<init>", "()V"⟩
abbrev cJx4a65c_init_4bcb3 : ByteArray := prog_47_method_3_code
def yJx4a65c_init_4bcb3 : MethodName := ⟨RJx4a65c, "<init>", "(Ljava/util/Collection;)V"⟩
abbrev cJx4a65c_grow_92f84 : ByteArray := prog_47_method_6_code
def yJx4a65c_grow_92f84 : MethodName := ⟨RJx4a65c, "grow", "(I)[Ljava/lang/Object;"⟩
abbrev cJx4a65c_grow_d5877 : ByteArray := prog_47_method_7_code
def yJx4a65c_grow_d5877 : MethodName := ⟨RJx4a65c, "grow", "()[Ljava/lang/Object;"⟩
abbrev cJx4a65c_size_8abf5 : ByteArray := prog_47_method_8_code
def yJx4a65c_size_8abf5 : MethodName := ⟨RJx4a65c, "size", "()I"⟩
abbrev cJx4a65c_isEmpty_aae02 : ByteArray := prog_47_method_9_code
def yJx4a65c_isEmpty_aae02 : MethodName := ⟨RJx4a65c, "isEmpty", "()Z"⟩
abbrev cJx4a65c_indexOf_e47da : ByteArray := prog_47_method_11_code
def yJx4a65c_indexOf_e47da : MethodName := ⟨RJx4a65c, "indexOf", "(Ljava/lang/Object;)I"⟩
abbrev cJx4a65c_indexOfRange_bf822 : ByteArray := prog_47_method_12_code
def yJx4a65c_indexOfRange_bf822 : MethodName := ⟨RJx4a65c, "indexOfRange", "(Ljava/lang/Object;II)I"⟩
abbrev cJx4a65c_toArray_d5877 : ByteArray := prog_47_method_16_code
def yJx4a65c_toArray_d5877 : MethodName := ⟨RJx4a65c, "toArray", "()[Ljava/lang/Object;"⟩
abbrev cJx4a65c_elementData_915e3 : ByteArray := prog_47_method_18_code
def yJx4a65c_elementData_915e3 : MethodName := ⟨RJx4a65c, "elementData", "(I)Ljava/lang/Object;"⟩
abbrev cJx4a65c_get_915e3 : ByteArray := prog_47_method_20_code
def yJx4a65c_get_915e3 : MethodName := ⟨RJx4a65c, "get", "(I)Ljava/lang/Object;"⟩
abbrev cJx4a65c_set_bcc79 : ByteArray := prog_47_method_23_code
def yJx4a65c_set_bcc79 : MethodName := ⟨RJx4a65c, "set", "(ILjava/lang/Object;)Ljava/lang/Object;"⟩
abbrev cJx4a65c_add_72be8 : ByteArray := prog_47_method_24_code
def yJx4a65c_add_72be8 : MethodName := ⟨RJx4a65c, "add", "(Ljava/lang/Object;[Ljava/lang/Object;I)V"⟩
abbrev cJx4a65c_add_9ea2d : ByteArray := prog_47_method_25_code
def yJx4a65c_add_9ea2d : MethodName := ⟨RJx4a65c, "add", "(Ljava/lang/Object;)Z"⟩
abbrev cJx4a65c_add_7a177 : ByteArray := prog_47_method_26_code
def yJx4a65c_add_7a177 : MethodName := ⟨RJx4a65c, "add", "(ILjava/lang/Object;)V"⟩
abbrev cJx4a65c_remove_915e3 : ByteArray := prog_47_method_29_code
def yJx4a65c_remove_915e3 : MethodName := ⟨RJx4a65c, "remove", "(I)Ljava/lang/Object;"⟩
abbrev cJx4a65c_fastRemove_b59b0 : ByteArray := prog_47_method_39_code
def yJx4a65c_fastRemove_b59b0 : MethodName := ⟨RJx4a65c, "fastRemove", "([Ljava/lang/Object;I)V"⟩
abbrev cJx4a65c_clear_da8c8 : ByteArray := prog_47_method_40_code
def yJx4a65c_clear_da8c8 : MethodName := ⟨RJx4a65c, "clear", "()V"⟩
abbrev cJx4a65c_addAll_f0b43 : ByteArray := prog_47_method_41_code
def yJx4a65c_addAll_f0b43 : MethodName := ⟨RJx4a65c, "addAll", "(Ljava/util/Collection;)Z"⟩
abbrev cJx4a65c_rangeCheckForAdd_d00df : ByteArray := prog_47_method_45_code
def yJx4a65c_rangeCheckForAdd_d00df : MethodName := ⟨RJx4a65c, "rangeCheckForAdd", "(I)V"⟩
abbrev cJx4a65c_outOfBoundsMsg_b52d3 : ByteArray := prog_47_method_46_code
def yJx4a65c_outOfBoundsMsg_b52d3 : MethodName := ⟨RJx4a65c, "outOfBoundsMsg", "(I)Ljava/lang/String;"⟩
abbrev cJx4a65c_iterator_32c93 : ByteArray := prog_47_method_55_code
def yJx4a65c_iterator_32c93 : MethodName := ⟨RJx4a65c, "iterator", "()Ljava/util/Iterator;"⟩
abbrev cJ7_rangeCheck_23922 : ByteArray := prog_49_method_30_code
def yJ7_rangeCheck_23922 : MethodName := ⟨RJ7, "rangeCheck", "(III)V"⟩
abbrev cJ7_fill_eb02e : ByteArray := prog_49_method_110_code
def yJ7_fill_eb02e : MethodName := ⟨RJ7, "fill", "([BIIB)V"⟩
abbrev cJ7_copyOf_1904c : ByteArray := prog_49_method_119_code
def yJ7_copyOf_1904c : MethodName := ⟨RJ7, "copyOf", "([Ljava/lang/Object;I)[Ljava/lang/Object;"⟩
abbrev cJ7_copyOf_6403c : ByteArray := prog_49_method_120_code
def yJ7_copyOf_6403c : MethodName := ⟨RJ7, "copyOf", "([Ljava/lang/Object;ILjava/lang/Class;)[Ljava/lang/Object;"⟩
abbrev cJ7_copyOf_9075b : ByteArray := prog_49_method_121_code
def yJ7_copyOf_9075b : MethodName := ⟨RJ7, "copyOf", "([BI)[B"⟩
abbrev cJ7_checkLength_df160 : ByteArray := prog_49_method_131_code
def yJ7_checkLength_df160 : MethodName := ⟨RJ7, "checkLength", "(II)V"⟩
abbrev cJ7_copyOfRange_39247 : ByteArray := prog_49_method_132_code
def yJ7_copyOfRange_39247 : MethodName := ⟨RJ7, "copyOfRange", "([BII)[B"⟩
abbrev cJ7_copyOfRangeByte_39247 : ByteArray := prog_49_method_133_code
def yJ7_copyOfRangeByte_39247 : MethodName := ⟨RJ7, "copyOfRangeByte", "([BII)[B"⟩
abbrev cJ15_checkIndex_7cf53 : ByteArray := prog_54_method_17_code
def yJ15_checkIndex_7cf53 : MethodName := ⟨RJ15, "checkIndex", "(II)I"⟩
abbrev cJ8_newLength_cabcc : ByteArray := prog_57_method_27_code
def yJ8_newLength_cabcc : MethodName := ⟨RJ8, "newLength", "(III)I"⟩
abbrev cJ8_hugeLength_7cf53 : ByteArray := prog_57_method_28_code
def yJ8_hugeLength_7cf53 : MethodName := ⟨RJ8, "hugeLength", "(II)I"⟩
abbrev cJ3_checkIndex_8e157 : ByteArray := prog_58_method_11_code
def yJ3_checkIndex_8e157 : MethodName := ⟨RJ3, "checkIndex", "(IILjava/util/function/BiFunction;)I"⟩
abbrev cJ3_checkFromToIndex_8c36e : ByteArray := prog_58_method_12_code
def yJ3_checkFromToIndex_8c36e : MethodName := ⟨RJ3, "checkFromToIndex", "(IIILjava/util/function/BiFunction;)I"⟩
abbrev cJ3_checkFromIndexSize_8c36e : ByteArray := prog_58_method_13_code
def yJ3_checkFromIndexSize_8c36e : MethodName := ⟨RJ3, "checkFromIndexSize", "(IIILjava/util/function/BiFunction;)I"⟩
abbrev cL_type : ByteArray := method_3_code
def yL_type : MethodName := ⟨RL, "type", "(LPatchferry;I[J)I"⟩
abbrev cL_repeat : ByteArray := method_4_code
def yL_repeat : MethodName := ⟨RL, "repeat", "(LPatchferry;II[J)I"⟩
abbrev cL_quote : ByteArray := method_5_code
def yL_quote : MethodName := ⟨RL, "quote", "(LPatchferry;III[J)I"⟩
abbrev cL_file : ByteArray := method_6_code
def yL_file : MethodName := ⟨RL, "file", "(LPatchferry;[J)I"⟩
abbrev cL_length : ByteArray := method_7_code
def yL_length : MethodName := ⟨RL, "length", "(LPatchferry;I[J)I"⟩
abbrev cL_at : ByteArray := method_8_code
def yL_at : MethodName := ⟨RL, "at", "(LPatchferry;II[J)I"⟩
abbrev cL_isSame : ByteArray := method_9_code
def yL_isSame : MethodName := ⟨RL, "isSame", "(LPatchferry;II[J)I"⟩
abbrev cL_letter : ByteArray := method_10_code
def yL_letter : MethodName := ⟨RL, "letter", "(LPatchferry;C[J)I"⟩
abbrev cL_endAt : ByteArray := method_11_code
def yL_endAt : MethodName := ⟨RL, "endAt", "(LPatchferry;II[J)I"⟩
abbrev cL_matchLength : ByteArray := method_12_code
def yL_matchLength : MethodName := ⟨RL, "matchLength", "(LPatchferry;III[J)I"⟩
abbrev cL_matchPlace : ByteArray := method_13_code
def yL_matchPlace : MethodName := ⟨RL, "matchPlace", "(LPatchferry;III[J)I"⟩
abbrev cL_slack : ByteArray := method_14_code
def yL_slack : MethodName := ⟨RL, "slack", "(LPatchferry;IIII[J)I"⟩
abbrev cL_make : ByteArray := method_15_code
def yL_make : MethodName := ⟨RL, "make", "(LPatchferry;II[J)I"⟩
abbrev cL_operations : ByteArray := method_16_code
def yL_operations : MethodName := ⟨RL, "operations", "(LPatchferry;I[J)I"⟩
abbrev cL_kindOf : ByteArray := method_17_code
def yL_kindOf : MethodName := ⟨RL, "kindOf", "(LPatchferry;II[J)I"⟩
abbrev cL_fromOf : ByteArray := method_18_code
def yL_fromOf : MethodName := ⟨RL, "fromOf", "(LPatchferry;II[J)I"⟩
abbrev cL_lengthOf : ByteArray := method_19_code
def yL_lengthOf : MethodName := ⟨RL, "lengthOf", "(LPatchferry;II[J)I"⟩
abbrev cL_signAt : ByteArray := method_20_code
def yL_signAt : MethodName := ⟨RL, "signAt", "(LPatchferry;II[J)I"⟩
abbrev cL_bytes : ByteArray := method_21_code
def yL_bytes : MethodName := ⟨RL, "bytes", "(LPatchferry;I[J)I"⟩
abbrev cL_apply : ByteArray := method_22_code
def yL_apply : MethodName := ⟨RL, "apply", "(LPatchferry;II[J)I"⟩
abbrev cL_compose : ByteArray := method_23_code
def yL_compose : MethodName := ⟨RL, "compose", "(LPatchferry;II[J)I"⟩
abbrev cL_merge : ByteArray := method_24_code
def yL_merge : MethodName := ⟨RL, "merge", "(LPatchferry;II[J)I"⟩
abbrev cL_clash : ByteArray := method_25_code
def yL_clash : MethodName := ⟨RL, "clash", "(LPatchferry;[J)I"⟩
abbrev cL_pieces : ByteArray := method_26_code
def yL_pieces : MethodName := ⟨RL, "pieces", "(LPatchferry;I[J)I"⟩
abbrev cL_pieceLength : ByteArray := method_27_code
def yL_pieceLength : MethodName := ⟨RL, "pieceLength", "(LPatchferry;II[J)I"⟩
abbrev cL_store : ByteArray := method_28_code
def yL_store : MethodName := ⟨RL, "store", "(LPatchferry;I[J)I"⟩
abbrev cL_drop : ByteArray := method_29_code
def yL_drop : MethodName := ⟨RL, "drop", "(LPatchferry;I[J)I"⟩
abbrev cL_likeness : ByteArray := method_30_code
def yL_likeness : MethodName := ⟨RL, "likeness", "(LPatchferry;II[J)I"⟩
abbrev cL_setFolder : ByteArray := method_31_code
def yL_setFolder : MethodName := ⟨RL, "setFolder", "(LPatchferry;II[J)I"⟩
abbrev cL_renamed : ByteArray := method_32_code
def yL_renamed : MethodName := ⟨RL, "renamed", "(LPatchferry;I[J)I"⟩
abbrev cL_literals : ByteArray := method_33_code
def yL_literals : MethodName := ⟨RL, "literals", "(LPatchferry;III[J)I"⟩
abbrev cL_falseOnes : ByteArray := method_34_code
def yL_falseOnes : MethodName := ⟨RL, "falseOnes", "(LPatchferry;III[J)I"⟩
abbrev cL_wire : ByteArray := method_35_code
def yL_wire : MethodName := ⟨RL, "wire", "(LPatchferry;III[J)I"⟩
abbrev cL_bestLength : ByteArray := method_36_code
def yL_bestLength : MethodName := ⟨RL, "bestLength", "(LPatchferry;II[J)I"⟩
abbrev cL_labels : ByteArray := method_37_code
def yL_labels : MethodName := ⟨RL, "labels", "(LPatchferry;I[J)I"⟩
abbrev cL_label : ByteArray := method_38_code
def yL_label : MethodName := ⟨RL, "label", "(LPatchferry;I[J)I"⟩
abbrev cL_unlabel : ByteArray := method_39_code
def yL_unlabel : MethodName := ⟨RL, "unlabel", "(LPatchferry;I[J)I"⟩
abbrev cL_labelledBytes : ByteArray := method_40_code
def yL_labelledBytes : MethodName := ⟨RL, "labelledBytes", "(LPatchferry;II[J)I"⟩
abbrev cL_pack : ByteArray := method_41_code
def yL_pack : MethodName := ⟨RL, "pack", "(LPatchferry;II[J)I"⟩
abbrev cL_unpack : ByteArray := method_42_code
def yL_unpack : MethodName := ⟨RL, "unpack", "(LPatchferry;I[J)I"⟩
abbrev cL_modeOf : ByteArray := method_43_code
def yL_modeOf : MethodName := ⟨RL, "modeOf", "(LPatchferry;I[J)I"⟩
abbrev cL_insideBytes : ByteArray := method_44_code
def yL_insideBytes : MethodName := ⟨RL, "insideBytes", "(LPatchferry;II[J)I"⟩
abbrev cL_load : ByteArray := method_45_code
def yL_load : MethodName := ⟨RL, "load", "(LPatchferry;I[J)I"⟩
abbrev cL_setCut : ByteArray := method_46_code
def yL_setCut : MethodName := ⟨RL, "setCut", "(LPatchferry;I[J)I"⟩
abbrev cL_lay : ByteArray := method_47_code
def yL_lay : MethodName := ⟨RL, "lay", "(LPatchferry;I[J)I"⟩
abbrev cL_goOn : ByteArray := method_48_code
def yL_goOn : MethodName := ⟨RL, "goOn", "(LPatchferry;[J)I"⟩
abbrev cL_savedBytes : ByteArray := method_49_code
def yL_savedBytes : MethodName := ⟨RL, "savedBytes", "(LPatchferry;[J)I"⟩
abbrev cL_orderAt : ByteArray := method_50_code
def yL_orderAt : MethodName := ⟨RL, "orderAt", "(LPatchferry;I[J)I"⟩
abbrev cL_onDisk : ByteArray := method_51_code
def yL_onDisk : MethodName := ⟨RL, "onDisk", "(LPatchferry;I[J)I"⟩
abbrev cL_isOn : ByteArray := method_52_code
def yL_isOn : MethodName := ⟨RL, "isOn", "(LPatchferry;I[J)I"⟩
abbrev cL_version : ByteArray := method_53_code
def yL_version : MethodName := ⟨RL, "version", "(LPatchferry;I[J)I"⟩
abbrev cL_setKey : ByteArray := method_54_code
def yL_setKey : MethodName := ⟨RL, "setKey", "(LPatchferry;IZ[J)I"⟩
abbrev cL_fetch : ByteArray := method_55_code
def yL_fetch : MethodName := ⟨RL, "fetch", "(LPatchferry;I[J)I"⟩
abbrev cL_route : ByteArray := method_56_code
def yL_route : MethodName := ⟨RL, "route", "(LPatchferry;II[J)I"⟩
abbrev cL_chain : ByteArray := method_57_code
def yL_chain : MethodName := ⟨RL, "chain", "(LPatchferry;II[J)I"⟩
abbrev cL_setCount : ByteArray := method_58_code
def yL_setCount : MethodName := ⟨RL, "setCount", "(LPatchferry;II[J)I"⟩
abbrev cL_fleet : ByteArray := method_59_code
def yL_fleet : MethodName := ⟨RL, "fleet", "(LPatchferry;I[J)I"⟩
abbrev cL_rootOf : ByteArray := method_60_code
def yL_rootOf : MethodName := ⟨RL, "rootOf", "(LPatchferry;I[J)I"⟩
abbrev cL_proves : ByteArray := method_61_code
def yL_proves : MethodName := ⟨RL, "proves", "(LPatchferry;III[J)I"⟩
abbrev cL_liar : ByteArray := method_62_code
def yL_liar : MethodName := ⟨RL, "liar", "(LPatchferry;II[J)I"⟩
abbrev cL_sumOf : ByteArray := method_63_code
def yL_sumOf : MethodName := ⟨RL, "sumOf", "(LPatchferry;I[J)I"⟩
abbrev cL_share : ByteArray := method_64_code
def yL_share : MethodName := ⟨RL, "share", "(LPatchferry;I[D)I"⟩
abbrev cL_meanLength : ByteArray := method_65_code
def yL_meanLength : MethodName := ⟨RL, "meanLength", "(LPatchferry;[D)I"⟩
abbrev cL_law : ByteArray := code
def yL_law : MethodName := ⟨RL, "law", "([I)Z"⟩
def TJ0 : u_T := fun k => match k with
  | 0 => ("java/lang/String", "value", "[B", true)
  | 1 => ("java/lang/String", "coder", "B", true)
  | 2 => ("java/lang/String", "hash", "I", false)
  | _ => ("java/lang/String", "hashIsZero", "Z", false)
def tyJ0 : Nat → FieldType := fun k => match k with
  | 0 => .array .byte
  | 1 => .byte
  | 2 => .int
  | _ => .boolean
abbrev wsJ00 : List Cond := u_ws RJ0 TJ0 4
theorem nmJ0 : ∀ a, a < 4 → ∀ b, b < 4 → a ≠ b → (TJ0 a).2.1 ≠ (TJ0 b).2.1 := by decide +kernel
theorem tyJ0_ok : ∀ k, k < 4 → parseFieldDescriptor (TJ0 k).2.2.1 = some (tyJ0 k) := by decide +kernel
def TJ4 : u_T := fun k => match k with
  | 0 => ("java/lang/AbstractStringBuilder", "value", "[B", false)
  | 1 => ("java/lang/AbstractStringBuilder", "coder", "B", false)
  | 2 => ("java/lang/AbstractStringBuilder", "maybeLatin1", "Z", false)
  | _ => ("java/lang/AbstractStringBuilder", "count", "I", false)
def tyJ4 : Nat → FieldType := fun k => match k with
  | 0 => .array .byte
  | 1 => .byte
  | 2 => .boolean
  | _ => .int
abbrev wsJ40 : List Cond := u_ws RJ4 TJ4 4
theorem nmJ4 : ∀ a, a < 4 → ∀ b, b < 4 → a ≠ b → (TJ4 a).2.1 ≠ (TJ4 b).2.1 := by decide +kernel
theorem tyJ4_ok : ∀ k, k < 4 → parseFieldDescriptor (TJ4 k).2.2.1 = some (tyJ4 k) := by decide +kernel
def TJ6 : u_T := fun k => match k with
  | _ => ("java/lang/Integer", "value", "I", true)
def tyJ6 : Nat → FieldType := fun k => match k with
  | _ => .int
abbrev wsJ60 : List Cond := u_ws RJ6 TJ6 1
theorem nmJ6 : ∀ a, a < 1 → ∀ b, b < 1 → a ≠ b → (TJ6 a).2.1 ≠ (TJ6 b).2.1 := by decide +kernel
theorem tyJ6_ok : ∀ k, k < 1 → parseFieldDescriptor (TJ6 k).2.2.1 = some (tyJ6 k) := by decide +kernel
def TJx00060 : u_T := fun k => match k with
  | 0 => ("java/lang/Throwable", "cause", "Ljava/lang/Throwable;", false)
  | 1 => ("java/lang/Throwable", "stackTrace", "[Ljava/lang/StackTraceElement;", false)
  | 2 => ("java/lang/Throwable", "suppressedExceptions", "Ljava/util/List;", false)
  | 3 => ("java/lang/Throwable", "detailMessage", "Ljava/lang/String;", false)
  | 4 => ("java/lang/Throwable", "backtrace", "Ljava/lang/Object;", false)
  | _ => ("java/lang/Throwable", "depth", "I", false)
def tyJx00060 : Nat → FieldType := fun k => match k with
  | 0 => .object "java/lang/Throwable"
  | 1 => .array (.object "java/lang/StackTraceElement")
  | 2 => .object "java/util/List"
  | 3 => .object "java/lang/String"
  | 4 => .object "java/lang/Object"
  | _ => .int
abbrev wsJx000600 : List Cond := u_ws RJx00060 TJx00060 6
theorem nmJx00060 : ∀ a, a < 6 → ∀ b, b < 6 → a ≠ b → (TJx00060 a).2.1 ≠ (TJx00060 b).2.1 := by decide +kernel
theorem tyJx00060_ok : ∀ k, k < 6 → parseFieldDescriptor (TJx00060 k).2.2.1 = some (tyJx00060 k) := by decide +kernel
def TJx7c733 : u_T := fun k => match k with
  | 0 => ("java/lang/Throwable", "backtrace", "Ljava/lang/Object;", false)
  | 1 => ("java/lang/Throwable", "detailMessage", "Ljava/lang/String;", false)
  | 2 => ("java/lang/Throwable", "cause", "Ljava/lang/Throwable;", false)
  | 3 => ("java/lang/Throwable", "stackTrace", "[Ljava/lang/StackTraceElement;", false)
  | 4 => ("java/lang/Throwable", "depth", "I", false)
  | _ => ("java/lang/Throwable", "suppressedExceptions", "Ljava/util/List;", false)
def tyJx7c733 : Nat → FieldType := fun k => match k with
  | 0 => .object "java/lang/Object"
  | 1 => .object "java/lang/String"
  | 2 => .object "java/lang/Throwable"
  | 3 => .array (.object "java/lang/StackTraceElement")
  | 4 => .int
  | _ => .object "java/util/List"
abbrev wsJx7c7330 : List Cond := u_ws RJx7c733 TJx7c733 6
theorem nmJx7c733 : ∀ a, a < 6 → ∀ b, b < 6 → a ≠ b → (TJx7c733 a).2.1 ≠ (TJx7c733 b).2.1 := by decide +kernel
theorem tyJx7c733_ok : ∀ k, k < 6 → parseFieldDescriptor (TJx7c733 k).2.2.1 = some (tyJx7c733 k) := by decide +kernel
def TJx35411 : u_T := fun k => match k with
  | 0 => ("java/util/ArrayList$Itr", "cursor", "I", false)
  | 1 => ("java/util/ArrayList$Itr", "lastRet", "I", false)
  | 2 => ("java/util/ArrayList$Itr", "expectedModCount", "I", false)
  | _ => ("java/util/ArrayList$Itr", "this$0", "Ljava/util/ArrayList;", true)
def tyJx35411 : Nat → FieldType := fun k => match k with
  | 0 => .int
  | 1 => .int
  | 2 => .int
  | _ => .object "java/util/ArrayList"
abbrev wsJx354110 : List Cond := u_ws RJx35411 TJx35411 4
theorem nmJx35411 : ∀ a, a < 4 → ∀ b, b < 4 → a ≠ b → (TJx35411 a).2.1 ≠ (TJx35411 b).2.1 := by decide +kernel
theorem tyJx35411_ok : ∀ k, k < 4 → parseFieldDescriptor (TJx35411 k).2.2.1 = some (tyJx35411 k) := by decide +kernel
def TJx4a65c : u_T := fun k => match k with
  | 0 => ("java/util/AbstractList", "modCount", "I", false)
  | 1 => ("java/util/ArrayList", "elementData", "[Ljava/lang/Object;", false)
  | _ => ("java/util/ArrayList", "size", "I", false)
def tyJx4a65c : Nat → FieldType := fun k => match k with
  | 0 => .int
  | 1 => .array (.object "java/lang/Object")
  | _ => .int
abbrev wsJx4a65c0 : List Cond := u_ws RJx4a65c TJx4a65c 3
theorem nmJx4a65c : ∀ a, a < 3 → ∀ b, b < 3 → a ≠ b → (TJx4a65c a).2.1 ≠ (TJx4a65c b).2.1 := by decide +kernel
theorem tyJx4a65c_ok : ∀ k, k < 3 → parseFieldDescriptor (TJx4a65c k).2.2.1 = some (tyJx4a65c k) := by decide +kernel
def TX0 : u_T := fun k => match k with
  | 0 => ("Patchferry$Blocks", "weaks", "LPatchferry$Row;", true)
  | 1 => ("Patchferry$Blocks", "strongs", "LPatchferry$Row;", true)
  | 2 => ("Patchferry$Blocks", "plain", "I", false)
  | 3 => ("Patchferry$Blocks", "wrong", "I", false)
  | _ => ("Patchferry$Blocks", "used", "I", false)
def tyX0 : Nat → FieldType := fun k => match k with
  | 0 => .object "Patchferry$Row"
  | 1 => .object "Patchferry$Row"
  | 2 => .int
  | 3 => .int
  | _ => .int
abbrev wsX00 : List Cond := u_ws RX0 TX0 5
theorem nmX0 : ∀ a, a < 5 → ∀ b, b < 5 → a ≠ b → (TX0 a).2.1 ≠ (TX0 b).2.1 := by decide +kernel
theorem tyX0_ok : ∀ k, k < 5 → parseFieldDescriptor (TX0 k).2.2.1 = some (tyX0 k) := by decide +kernel
def TX1 : u_T := fun k => match k with
  | 0 => ("Patchferry$Differ", "before", "LPatchferry$Runs;", true)
  | 1 => ("Patchferry$Differ", "after", "LPatchferry$Runs;", true)
  | 2 => ("Patchferry$Differ", "spot", "I", false)
  | 3 => ("Patchferry$Differ", "foundSize", "I", false)
  | 4 => ("Patchferry$Differ", "foundFrom", "I", false)
  | 5 => ("Patchferry$Differ", "stretched", "I", false)
  | 6 => ("Patchferry$Differ", "unlike", "I", false)
  | 7 => ("Patchferry$Differ", "from", "I", false)
  | 8 => ("Patchferry$Differ", "size", "I", false)
  | _ => ("Patchferry$Differ", "changed", "I", false)
def tyX1 : Nat → FieldType := fun k => match k with
  | 0 => .object "Patchferry$Runs"
  | 1 => .object "Patchferry$Runs"
  | 2 => .int
  | 3 => .int
  | 4 => .int
  | 5 => .int
  | 6 => .int
  | 7 => .int
  | 8 => .int
  | _ => .int
abbrev wsX10 : List Cond := u_ws RX1 TX1 10
theorem nmX1 : ∀ a, a < 10 → ∀ b, b < 10 → a ≠ b → (TX1 a).2.1 ≠ (TX1 b).2.1 := by decide +kernel
theorem tyX1_ok : ∀ k, k < 10 → parseFieldDescriptor (TX1 k).2.2.1 = some (tyX1 k) := by decide +kernel
def TX2 : u_T := fun k => match k with
  | 0 => ("Patchferry$Disk", "cells", "LPatchferry$Row;", true)
  | 1 => ("Patchferry$Disk", "ahead", "LPatchferry$Row;", true)
  | 2 => ("Patchferry$Disk", "hand", "LPatchferry$Row;", true)
  | 3 => ("Patchferry$Disk", "begins", "LPatchferry$Row;", true)
  | 4 => ("Patchferry$Disk", "needs", "LPatchferry$Row;", true)
  | 5 => ("Patchferry$Disk", "order", "LPatchferry$Row;", true)
  | 6 => ("Patchferry$Disk", "laid", "LPatchferry$Patch;", false)
  | 7 => ("Patchferry$Disk", "isLaid", "Z", false)
  | 8 => ("Patchferry$Disk", "saved", "I", false)
  | 9 => ("Patchferry$Disk", "savedSize", "I", false)
  | 10 => ("Patchferry$Disk", "done", "I", false)
  | _ => ("Patchferry$Disk", "cut", "I", false)
def tyX2 : Nat → FieldType := fun k => match k with
  | 0 => .object "Patchferry$Row"
  | 1 => .object "Patchferry$Row"
  | 2 => .object "Patchferry$Row"
  | 3 => .object "Patchferry$Row"
  | 4 => .object "Patchferry$Row"
  | 5 => .object "Patchferry$Row"
  | 6 => .object "Patchferry$Patch"
  | 7 => .boolean
  | 8 => .int
  | 9 => .int
  | 10 => .int
  | _ => .int
abbrev wsX20 : List Cond := u_ws RX2 TX2 12
theorem nmX2 : ∀ a, a < 12 → ∀ b, b < 12 → a ≠ b → (TX2 a).2.1 ≠ (TX2 b).2.1 := by decide +kernel
theorem tyX2_ok : ∀ k, k < 12 → parseFieldDescriptor (TX2 k).2.2.1 = some (tyX2 k) := by decide +kernel
def TX3 : u_T := fun k => match k with
  | 0 => ("Patchferry$Edits", "froms", "LPatchferry$Row;", true)
  | 1 => ("Patchferry$Edits", "tos", "LPatchferry$Row;", true)
  | 2 => ("Patchferry$Edits", "begins", "LPatchferry$Row;", true)
  | _ => ("Patchferry$Edits", "values", "LPatchferry$Row;", true)
def tyX3 : Nat → FieldType := fun k => match k with
  | 0 => .object "Patchferry$Row"
  | 1 => .object "Patchferry$Row"
  | 2 => .object "Patchferry$Row"
  | _ => .object "Patchferry$Row"
abbrev wsX30 : List Cond := u_ws RX3 TX3 4
theorem nmX3 : ∀ a, a < 4 → ∀ b, b < 4 → a ≠ b → (TX3 a).2.1 ≠ (TX3 b).2.1 := by decide +kernel
theorem tyX3_ok : ∀ k, k < 4 → parseFieldDescriptor (TX3 k).2.2.1 = some (tyX3 k) := by decide +kernel
def TX4 : u_T := fun k => match k with
  | 0 => ("Patchferry$Patch", "froms", "LPatchferry$Row;", true)
  | 1 => ("Patchferry$Patch", "sizes", "LPatchferry$Row;", true)
  | 2 => ("Patchferry$Patch", "adds", "LPatchferry$Row;", true)
  | _ => ("Patchferry$Patch", "base", "LPatchferry$Row;", false)
def tyX4 : Nat → FieldType := fun k => match k with
  | 0 => .object "Patchferry$Row"
  | 1 => .object "Patchferry$Row"
  | 2 => .object "Patchferry$Row"
  | _ => .object "Patchferry$Row"
abbrev wsX40 : List Cond := u_ws RX4 TX4 4
theorem nmX4 : ∀ a, a < 4 → ∀ b, b < 4 → a ≠ b → (TX4 a).2.1 ≠ (TX4 b).2.1 := by decide +kernel
theorem tyX4_ok : ∀ k, k < 4 → parseFieldDescriptor (TX4 k).2.2.1 = some (tyX4 k) := by decide +kernel
def TX5 : u_T := fun k => match k with
  | 0 => ("Patchferry$Program", "marks", "LPatchferry$Row;", true)
  | _ => ("Patchferry$Program", "places", "LPatchferry$Row;", true)
def tyX5 : Nat → FieldType := fun k => match k with
  | 0 => .object "Patchferry$Row"
  | _ => .object "Patchferry$Row"
abbrev wsX50 : List Cond := u_ws RX5 TX5 2
theorem nmX5 : ∀ a, a < 2 → ∀ b, b < 2 → a ≠ b → (TX5 a).2.1 ≠ (TX5 b).2.1 := by decide +kernel
theorem tyX5_ok : ∀ k, k < 2 → parseFieldDescriptor (TX5 k).2.2.1 = some (tyX5 k) := by decide +kernel
def TX6 : u_T := fun k => match k with
  | 0 => ("Patchferry$Row", "cells", "[I", true)
  | _ => ("Patchferry$Row", "size", "I", false)
def tyX6 : Nat → FieldType := fun k => match k with
  | 0 => .array .int
  | _ => .int
abbrev wsX60 : List Cond := u_ws RX6 TX6 2
theorem nmX6 : ∀ a, a < 2 → ∀ b, b < 2 → a ≠ b → (TX6 a).2.1 ≠ (TX6 b).2.1 := by decide +kernel
theorem tyX6_ok : ∀ k, k < 2 → parseFieldDescriptor (TX6 k).2.2.1 = some (tyX6 k) := by decide +kernel
def TX7 : u_T := fun k => match k with
  | 0 => ("Patchferry$Runs", "values", "LPatchferry$Row;", true)
  | _ => ("Patchferry$Runs", "ends", "LPatchferry$Row;", true)
def tyX7 : Nat → FieldType := fun k => match k with
  | 0 => .object "Patchferry$Row"
  | _ => .object "Patchferry$Row"
abbrev wsX70 : List Cond := u_ws RX7 TX7 2
theorem nmX7 : ∀ a, a < 2 → ∀ b, b < 2 → a ≠ b → (TX7 a).2.1 ≠ (TX7 b).2.1 := by decide +kernel
theorem tyX7_ok : ∀ k, k < 2 → parseFieldDescriptor (TX7 k).2.2.1 = some (tyX7 k) := by decide +kernel
def TX8 : u_T := fun k => match k with
  | 0 => ("Patchferry$Store", "texts", "Ljava/util/ArrayList;", true)
  | 1 => ("Patchferry$Store", "cuts", "Ljava/util/ArrayList;", true)
  | 2 => ("Patchferry$Store", "none", "LPatchferry$Row;", true)
  | 3 => ("Patchferry$Store", "homes", "LPatchferry$Row;", true)
  | 4 => ("Patchferry$Store", "starts", "LPatchferry$Row;", true)
  | 5 => ("Patchferry$Store", "sizes", "LPatchferry$Row;", true)
  | 6 => ("Patchferry$Store", "sums", "LPatchferry$Row;", true)
  | 7 => ("Patchferry$Store", "uses", "LPatchferry$Row;", true)
  | 8 => ("Patchferry$Store", "kept", "LPatchferry$Row;", true)
  | 9 => ("Patchferry$Store", "isStored", "LPatchferry$Row;", true)
  | 10 => ("Patchferry$Store", "folders", "LPatchferry$Row;", true)
  | 11 => ("Patchferry$Store", "numbers", "LPatchferry$Row;", true)
  | 12 => ("Patchferry$Store", "marks", "LPatchferry$Row;", true)
  | _ => ("Patchferry$Store", "grid", "LPatchferry$Row;", true)
def tyX8 : Nat → FieldType := fun k => match k with
  | 0 => .object "java/util/ArrayList"
  | 1 => .object "java/util/ArrayList"
  | 2 => .object "Patchferry$Row"
  | 3 => .object "Patchferry$Row"
  | 4 => .object "Patchferry$Row"
  | 5 => .object "Patchferry$Row"
  | 6 => .object "Patchferry$Row"
  | 7 => .object "Patchferry$Row"
  | 8 => .object "Patchferry$Row"
  | 9 => .object "Patchferry$Row"
  | 10 => .object "Patchferry$Row"
  | 11 => .object "Patchferry$Row"
  | 12 => .object "Patchferry$Row"
  | _ => .object "Patchferry$Row"
abbrev wsX80 : List Cond := u_ws RX8 TX8 14
theorem nmX8 : ∀ a, a < 14 → ∀ b, b < 14 → a ≠ b → (TX8 a).2.1 ≠ (TX8 b).2.1 := by decide +kernel
theorem tyX8_ok : ∀ k, k < 14 → parseFieldDescriptor (TX8 k).2.2.1 = some (tyX8 k) := by decide +kernel
def TX9 : u_T := fun k => match k with
  | _ => ("Patchferry$Tree", "sums", "LPatchferry$Row;", true)
def tyX9 : Nat → FieldType := fun k => match k with
  | _ => .object "Patchferry$Row"
abbrev wsX90 : List Cond := u_ws RX9 TX9 1
theorem nmX9 : ∀ a, a < 1 → ∀ b, b < 1 → a ≠ b → (TX9 a).2.1 ≠ (TX9 b).2.1 := by decide +kernel
theorem tyX9_ok : ∀ k, k < 1 → parseFieldDescriptor (TX9 k).2.2.1 = some (tyX9 k) := by decide +kernel
def TX10 : u_T := fun k => match k with
  | 0 => ("Patchferry$Versions", "texts", "Ljava/util/ArrayList;", true)
  | 1 => ("Patchferry$Versions", "none", "LPatchferry$Row;", true)
  | 2 => ("Patchferry$Versions", "keys", "LPatchferry$Row;", true)
  | 3 => ("Patchferry$Versions", "counts", "LPatchferry$Row;", true)
  | 4 => ("Patchferry$Versions", "gains", "LPatchferry$Row;", true)
  | _ => ("Patchferry$Versions", "costs", "LPatchferry$Row;", true)
def tyX10 : Nat → FieldType := fun k => match k with
  | 0 => .object "java/util/ArrayList"
  | 1 => .object "Patchferry$Row"
  | 2 => .object "Patchferry$Row"
  | 3 => .object "Patchferry$Row"
  | 4 => .object "Patchferry$Row"
  | _ => .object "Patchferry$Row"
abbrev wsX100 : List Cond := u_ws RX10 TX10 6
theorem nmX10 : ∀ a, a < 6 → ∀ b, b < 6 → a ≠ b → (TX10 a).2.1 ≠ (TX10 b).2.1 := by decide +kernel
theorem tyX10_ok : ∀ k, k < 6 → parseFieldDescriptor (TX10 k).2.2.1 = some (tyX10 k) := by decide +kernel
def TX11 : u_T := fun k => match k with
  | 0 => ("Patchferry", "texts", "Ljava/util/ArrayList;", true)
  | 1 => ("Patchferry", "patches", "Ljava/util/ArrayList;", true)
  | 2 => ("Patchferry", "buffer", "LPatchferry$Row;", true)
  | 3 => ("Patchferry", "word", "Ljava/lang/StringBuilder;", true)
  | 4 => ("Patchferry", "work", "LPatchferry$Row;", true)
  | 5 => ("Patchferry", "spare", "LPatchferry$Row;", true)
  | 6 => ("Patchferry", "signs", "LPatchferry$Row;", true)
  | 7 => ("Patchferry", "runs", "LPatchferry$Runs;", true)
  | 8 => ("Patchferry", "differ", "LPatchferry$Differ;", true)
  | 9 => ("Patchferry", "link", "LPatchferry$Patch;", true)
  | 10 => ("Patchferry", "mine", "LPatchferry$Edits;", true)
  | 11 => ("Patchferry", "theirs", "LPatchferry$Edits;", true)
  | 12 => ("Patchferry", "shelf", "LPatchferry$Store;", true)
  | 13 => ("Patchferry", "blocks", "LPatchferry$Blocks;", true)
  | 14 => ("Patchferry", "program", "LPatchferry$Program;", true)
  | 15 => ("Patchferry", "disk", "LPatchferry$Disk;", true)
  | 16 => ("Patchferry", "versions", "LPatchferry$Versions;", true)
  | 17 => ("Patchferry", "tree", "LPatchferry$Tree;", true)
  | _ => ("Patchferry", "lastClash", "I", false)
def tyX11 : Nat → FieldType := fun k => match k with
  | 0 => .object "java/util/ArrayList"
  | 1 => .object "java/util/ArrayList"
  | 2 => .object "Patchferry$Row"
  | 3 => .object "java/lang/StringBuilder"
  | 4 => .object "Patchferry$Row"
  | 5 => .object "Patchferry$Row"
  | 6 => .object "Patchferry$Row"
  | 7 => .object "Patchferry$Runs"
  | 8 => .object "Patchferry$Differ"
  | 9 => .object "Patchferry$Patch"
  | 10 => .object "Patchferry$Edits"
  | 11 => .object "Patchferry$Edits"
  | 12 => .object "Patchferry$Store"
  | 13 => .object "Patchferry$Blocks"
  | 14 => .object "Patchferry$Program"
  | 15 => .object "Patchferry$Disk"
  | 16 => .object "Patchferry$Versions"
  | 17 => .object "Patchferry$Tree"
  | _ => .int
abbrev wsX110 : List Cond := u_ws RX11 TX11 19
theorem nmX11 : ∀ a, a < 19 → ∀ b, b < 19 → a ≠ b → (TX11 a).2.1 ≠ (TX11 b).2.1 := by decide +kernel
theorem tyX11_ok : ∀ k, k < 19 → parseFieldDescriptor (TX11 k).2.2.1 = some (tyX11 k) := by decide +kernel
def TX12 : u_T := fun k => match k with
  | 0 => ("PatchferryModel$Edit", "from", "I", true)
  | 1 => ("PatchferryModel$Edit", "to", "I", true)
  | _ => ("PatchferryModel$Edit", "bytes", "[I", true)
def tyX12 : Nat → FieldType := fun k => match k with
  | 0 => .int
  | 1 => .int
  | _ => .array .int
abbrev wsX120 : List Cond := u_ws RX12 TX12 3
theorem nmX12 : ∀ a, a < 3 → ∀ b, b < 3 → a ≠ b → (TX12 a).2.1 ≠ (TX12 b).2.1 := by decide +kernel
theorem tyX12_ok : ∀ k, k < 3 → parseFieldDescriptor (TX12 k).2.2.1 = some (tyX12 k) := by decide +kernel
def TX13 : u_T := fun k => match k with
  | 0 => ("PatchferryModel$Patch", "base", "[I", true)
  | _ => ("PatchferryModel$Patch", "steps", "Ljava/util/ArrayList;", true)
def tyX13 : Nat → FieldType := fun k => match k with
  | 0 => .array .int
  | _ => .object "java/util/ArrayList"
abbrev wsX130 : List Cond := u_ws RX13 TX13 2
theorem nmX13 : ∀ a, a < 2 → ∀ b, b < 2 → a ≠ b → (TX13 a).2.1 ≠ (TX13 b).2.1 := by decide +kernel
theorem tyX13_ok : ∀ k, k < 2 → parseFieldDescriptor (TX13 k).2.2.1 = some (tyX13 k) := by decide +kernel
def TX14 : u_T := fun k => match k with
  | 0 => ("PatchferryModel$Step", "from", "I", true)
  | _ => ("PatchferryModel$Step", "bytes", "[I", true)
def tyX14 : Nat → FieldType := fun k => match k with
  | 0 => .int
  | _ => .array .int
abbrev wsX140 : List Cond := u_ws RX14 TX14 2
theorem nmX14 : ∀ a, a < 2 → ∀ b, b < 2 → a ≠ b → (TX14 a).2.1 ≠ (TX14 b).2.1 := by decide +kernel
theorem tyX14_ok : ∀ k, k < 2 → parseFieldDescriptor (TX14 k).2.2.1 = some (tyX14 k) := by decide +kernel
def TX15 : u_T := fun k => match k with
  | 0 => ("PatchferryModel", "thrown", "I", false)
  | 1 => ("PatchferryModel", "buffer", "[I", false)
  | 2 => ("PatchferryModel", "word", "Ljava/lang/String;", false)
  | 3 => ("PatchferryModel", "files", "Ljava/util/ArrayList;", true)
  | 4 => ("PatchferryModel", "patches", "Ljava/util/ArrayList;", true)
  | 5 => ("PatchferryModel", "clash", "I", false)
  | 6 => ("PatchferryModel", "kept", "Ljava/util/ArrayList;", true)
  | 7 => ("PatchferryModel", "uses", "Ljava/util/ArrayList;", true)
  | 8 => ("PatchferryModel", "isStored", "[Z", true)
  | 9 => ("PatchferryModel", "folders", "[I", true)
  | 10 => ("PatchferryModel", "disk", "[I", false)
  | 11 => ("PatchferryModel", "cut", "I", false)
  | 12 => ("PatchferryModel", "laid", "LPatchferryModel$Patch;", false)
  | 13 => ("PatchferryModel", "saved", "I", false)
  | 14 => ("PatchferryModel", "done", "I", false)
  | 15 => ("PatchferryModel", "order", "Ljava/util/ArrayList;", true)
  | 16 => ("PatchferryModel", "savedRows", "Ljava/util/ArrayList;", true)
  | 17 => ("PatchferryModel", "versions", "Ljava/util/ArrayList;", true)
  | 18 => ("PatchferryModel", "areKeys", "[Z", true)
  | 19 => ("PatchferryModel", "counts", "[I", true)
  | 20 => ("PatchferryModel", "literals", "I", false)
  | 21 => ("PatchferryModel", "falseOnes", "I", false)
  | _ => ("PatchferryModel", "used", "I", false)
def tyX15 : Nat → FieldType := fun k => match k with
  | 0 => .int
  | 1 => .array .int
  | 2 => .object "java/lang/String"
  | 3 => .object "java/util/ArrayList"
  | 4 => .object "java/util/ArrayList"
  | 5 => .int
  | 6 => .object "java/util/ArrayList"
  | 7 => .object "java/util/ArrayList"
  | 8 => .array .boolean
  | 9 => .array .int
  | 10 => .array .int
  | 11 => .int
  | 12 => .object "PatchferryModel$Patch"
  | 13 => .int
  | 14 => .int
  | 15 => .object "java/util/ArrayList"
  | 16 => .object "java/util/ArrayList"
  | 17 => .object "java/util/ArrayList"
  | 18 => .array .boolean
  | 19 => .array .int
  | 20 => .int
  | 21 => .int
  | _ => .int
abbrev wsX150 : List Cond := u_ws RX15 TX15 23
theorem nmX15 : ∀ a, a < 23 → ∀ b, b < 23 → a ≠ b → (TX15 a).2.1 ≠ (TX15 b).2.1 := by decide +kernel
theorem tyX15_ok : ∀ k, k < 23 → parseFieldDescriptor (TX15 k).2.2.1 = some (tyX15 k) := by decide +kernel
abbrev vwCl : List vw_C := [(RJ0, TJ0, 4), (RJ4, TJ4, 4), (RJ6, TJ6, 1), (RJx00060, TJx00060, 6), (RJx7c733, TJx7c733, 6), (RJx35411, TJx35411, 4), (RJx4a65c, TJx4a65c, 3), (RX0, TX0, 5), (RX1, TX1, 10), (RX2, TX2, 12), (RX3, TX3, 4), (RX4, TX4, 4), (RX5, TX5, 2), (RX6, TX6, 2), (RX7, TX7, 2), (RX8, TX8, 14), (RX9, TX9, 1), (RX10, TX10, 6), (RX11, TX11, 19), (RX12, TX12, 3), (RX13, TX13, 2), (RX14, TX14, 2), (RX15, TX15, 23)]
/-- an int array as a cell of a world -/
abbrev wa (a : Nat) (cA : ClassId) (n : Nat) (f : Nat → Int32) : Nat × va_E := (a, .inl (cA, n, .inl f))
/-- the arrays that the worlds hold: of ints, of references to anything -/
abbrev ty0 (cI cO : ClassId) : List (ClassId × FieldType) := [(cI, .int), (cO, .object "java/lang/Object")]
/-- an array of references as a cell of a world -/
abbrev wq (a : Nat) (cA : ClassId) (n : Nat) (f : Nat → Option Nat) : Nat × va_E := (a, .inl (cA, n, .inr (.inr (.inr (.inr f)))))
abbrev wl (a : Nat) (cA : ClassId) (n : Nat) (f : Nat → Int64) : Nat × va_E := (a, .inl (cA, n, .inr (.inl f)))
/-- there is one class of int arrays -/
theorem uc_eq {D : va_G} {cl : List vw_C} {tys : List (ClassId × FieldType)} {U : State} {cA cB : ClassId} (h : va_K D cl tys U) (i j : Nat) (h1 : tys[i]? = some (cA, .int)) (h2 : tys[j]? = some (cB, .int)) : cA = cB := by
  have a : U.vm.findClass ("[" ++ FieldType.int.toString) = some cA := (h.2 i _ h1).2
  have b : U.vm.findClass ("[" ++ FieldType.int.toString) = some cB := (h.2 j _ h2).2
  exact Option.some.inj (a.symm.trans b)
/-- an object of the class may lie in a row of Objects -/
def uA (C : String) (U : State) : Prop := ∀ comp c0 : ClassId, U.vm.findClass "java/lang/Object" = some comp → U.vm.findClass C = some c0 → U.vm.assignable c0 comp = true
theorem uA.moved {C : String} {u U : State} (hvm : u.vm.Alike U.vm) (h : uA C u) : uA C U := by
  intro comp c0 h1 h2
  rw [hvm.findClass] at h1 h2
  rw [hvm.assignable]
  exact h comp c0 h1 h2
theorem uA_int {D : va_G} {cl : List vw_C} {tys : List (ClassId × FieldType)} {ws : va_W} {H : Heap} {s : State} {a n t0 q0 : Nat} {cI : ClassId} {f : Nat → Int32} (hK : va_K D cl tys s) (hP : va_P D cl ws H) (ht : tys[t0]? = some (cI, .int)) (he : ws[q0]? = some (wa a cI n f)) (h : uA "[I" s) : va_Any "java/lang/Object" s H a := by
  have hc : s.vm.findClass ("[" ++ FieldType.int.toString) = some cI := (hK.2 t0 _ ht).2
  have e0 : "[" ++ FieldType.int.toString = "[I" := by decide
  rw [e0] at hc
  obtain ⟨kC, hkC, -⟩ := Vm.findClass_spec hc
  refine ⟨_, hP q0 _ he, rfl, ⟨kC, hkC⟩, fun comp h1 => h comp _ h1 hc⟩
/-- what ArrayList's empty row is: the static that holds it, and the row itself, neither of them ours; what may lie in rows of Objects -/
def uz (z0 : Nat) (A : Nat → Prop) (U : State) : Prop := va_Z "java/util/ArrayList" "DEFAULTCAPACITY_EMPTY_ELEMENTDATA" "[Ljava/lang/Object;" (.ref z0) A U U.heap ∧ (∃ f : Nat → Value, va_T (.object "java/lang/Object") z0 0 f A U U.heap) ∧ va_AO "java/lang/Object" U ∧ uA "Patchferry$Row" U ∧ uA "[I" U ∧ va_Z "java/lang/String" "COMPACT_STRINGS" "Z" (.int (nI 1)) A U U.heap
/-- a method that only reads and hands back a reference -/
def uS_r (post : Nat → Prop) : Array Value → State → Outcome → State → Prop := fun _ st oc t => ∃ k : Nat, oc = .returned (some (.ref k)) ∧ post k ∧ t.heap = st.heap
section UC
variable {p : Program} {l : Launch} {e : Env} {R : Room} {s : State} {m : MethodId} {args : Array Value} {below : List Frame} {meth : Method} {c : Code} {H : Heap} {locs : List Loc} {cells slots : Nat} {Q : State → Prop}
variable {pc : Nat} {ls : Array Slot} {rest st0 : List Value} {a : Array Value}
theorem uc_i {post : Int32 → Prop} (hr : va_Run p l e R s m args below meth c H locs cells slots 0 0 (F0 m pc ls st0) rest (vp_Si post a) (fun _ => False))
    (kk : ∀ r : Int32, post r → W p l e R s m args below meth c H locs cells slots Q (F0 m (pc + 3) ls (.int r :: rest))) : W p l e R s m args below meth c H locs cells slots Q (F0 m pc ls st0) := by
  intro T hT X
  obtain ⟨v, st₀, t, T', L, h0, X', hL, e1, -, ⟨r, hv, hp, hh⟩, st⟩ := hr T hT X
  cases hv
  obtain ⟨t2, a1, b1⟩ := kk r hp T' (by rw [e1, hh, h0]) (Stand.forget X' (fun q h => (hL q h).elim))
  exact ⟨t2, st t2 a1, b1⟩
theorem uc_r {post : Nat → Prop} (hr : va_Run p l e R s m args below meth c H locs cells slots 0 0 (F0 m pc ls st0) rest (uS_r post a) (fun _ => False))
    (kk : ∀ r : Nat, post r → W p l e R s m args below meth c H locs cells slots Q (F0 m (pc + 3) ls (.ref r :: rest))) : W p l e R s m args below meth c H locs cells slots Q (F0 m pc ls st0) := by
  intro T hT X
  obtain ⟨v, st₀, t, T', L, h0, X', hL, e1, -, ⟨r, hv, hp, hh⟩, st⟩ := hr T hT X
  cases hv
  obtain ⟨t2, a1, b1⟩ := kk r hp T' (by rw [e1, hh, h0]) (Stand.forget X' (fun q h => (hL q h).elim))
  exact ⟨t2, st t2 a1, b1⟩
theorem uc_v {post : Unit → Prop} (hr : va_Run p l e R s m args below meth c H locs cells slots 0 0 (F0 m pc ls st0) rest (va_Sv post a) (fun _ => False))
    (kk : W p l e R s m args below meth c H locs cells slots Q (F0 m (pc + 3) ls rest)) : W p l e R s m args below meth c H locs cells slots Q (F0 m pc ls st0) := by
  intro T hT X
  obtain ⟨v, st₀, t, T', L, h0, X', hL, e1, -, ⟨hv, hp, hh⟩, st⟩ := hr T hT X
  cases hv
  obtain ⟨t2, a1, b1⟩ := kk T' (by rw [e1, hh, h0]) (Stand.forget X' (fun q h => (hL q h).elim))
  exact ⟨t2, st t2 a1, b1⟩
end UC
theorem uz.moved {z0 : Nat} {A : Nat → Prop} {U V : State} (h : uz z0 A U) (hvm : U.vm.Alike V.vm) (hh : V.heap = U.heap) : uz z0 A V := by
  obtain ⟨h1, ⟨f, h2⟩, h3, h4, h5, h6⟩ := h
  unfold uz
  rw [hh]
  exact ⟨h1.moved hvm, ⟨f, h2.moved hvm⟩, h3.moved hvm, h4.moved hvm, h5.moved hvm, h6.moved hvm⟩
theorem uz_call {z0 : Nat} {A B : Nat → Prop} {s U : State} {H : Heap} {locs : List Loc} (h : uz z0 A s) (hS : va_S A s.heap H locs) (hF : ∀ q, B q → A q) (hU : U.heap = H) (hvm : s.vm.Alike U.vm) : uz z0 B U := by
  obtain ⟨h1, ⟨f, h2⟩, h3, h4, h5, h6⟩ := h
  unfold uz
  rw [hU]
  exact ⟨((h1.kept hS.2.1).narrow hF).moved hvm, ⟨f, ((h2.kept hS.2.1).narrow hF).moved hvm⟩, h3.moved hvm, h4.moved hvm, h5.moved hvm, ((h6.kept hS.2.1).narrow hF).moved hvm⟩
/-- how far a counter is from its bound -/
def um (x b : Int32) : Nat := (b.toInt - x.toInt).toNat
theorem um_lt {x b : Int32} (h : ¬ b ≤ x) : um (x + 1) b < um x b := by
  have h1 : x.toInt < b.toInt := by
    have : ¬ b.toInt ≤ x.toInt := fun q => h (Int32.le_iff_toInt_le.mpr q)
    omega
  have hb := Int32.toInt_le b
  have hx := Int32.le_toInt x
  have e : (x + 1).toInt = x.toInt + 1 := by
    rw [Int32.toInt_add]
    show (x.toInt + 1).bmod (2 ^ 32) = x.toInt + 1
    exact Int.bmod_eq_of_le (by have : (-2147483648 : Int) ≤ x.toInt := hx; omega) (by have : b.toInt ≤ (2147483647 : Int) := hb; omega)
  unfold um
  rw [e]
  omega
theorem uc_eqO {D : va_G} {cl : List vw_C} {tys : List (ClassId × FieldType)} {U : State} {cA cB : ClassId} {C : String} (h : va_K D cl tys U) (i j : Nat) (h1 : tys[i]? = some (cA, .object C)) (h2 : tys[j]? = some (cB, .object C)) : cA = cB := by
  obtain ⟨_, _, _, _, _, a⟩ := (h.2 i _ h1).2
  obtain ⟨_, _, _, _, _, b⟩ := (h.2 j _ h2).2
  exact Option.some.inj (a.symm.trans b)
end
section
/-! names: picked from the print of the task by wip/whole/names.py -/
theorem dX15_joined_0 : decode cX15_joined 0 = .ok (.aload_n 0, 1) := by decide +kernel
theorem dX15_joined_1 : decode cX15_joined 1 = .ok (.arraylength, 1) := by decide +kernel
theorem dX15_joined_2 : decode cX15_joined 2 = .ok (.aload_n 1, 1) := by decide +kernel
theorem dX15_joined_3 : decode cX15_joined 3 = .ok (.arraylength, 1) := by decide +kernel
theorem dX15_joined_4 : decode cX15_joined 4 = .ok (.iadd, 1) := by decide +kernel
theorem dX15_joined_5 : decode cX15_joined 5 = .ok (.newarray .int, 2) := by decide +kernel
theorem dX15_joined_7 : decode cX15_joined 7 = .ok (.astore_n 2, 1) := by decide +kernel
theorem dX15_joined_8 : decode cX15_joined 8 = .ok (.iconst 0, 1) := by decide +kernel
theorem dX15_joined_9 : decode cX15_joined 9 = .ok (.istore_n 3, 1) := by decide +kernel
theorem dX15_joined_10 : decode cX15_joined 10 = .ok (.iload_n 3, 1) := by decide +kernel
theorem dX15_joined_11 : decode cX15_joined 11 = .ok (.aload_n 2, 1) := by decide +kernel
theorem dX15_joined_12 : decode cX15_joined 12 = .ok (.arraylength, 1) := by decide +kernel
theorem dX15_joined_13 : decode cX15_joined 13 = .ok (.if_icmp .ge 30, 3) := by decide +kernel
theorem dX15_joined_16 : decode cX15_joined 16 = .ok (.aload_n 2, 1) := by decide +kernel
theorem dX15_joined_17 : decode cX15_joined 17 = .ok (.iload_n 3, 1) := by decide +kernel
theorem dX15_joined_18 : decode cX15_joined 18 = .ok (.iload_n 3, 1) := by decide +kernel
theorem dX15_joined_19 : decode cX15_joined 19 = .ok (.aload_n 0, 1) := by decide +kernel
theorem dX15_joined_20 : decode cX15_joined 20 = .ok (.arraylength, 1) := by decide +kernel
theorem dX15_joined_21 : decode cX15_joined 21 = .ok (.if_icmp .ge 9, 3) := by decide +kernel
theorem dX15_joined_24 : decode cX15_joined 24 = .ok (.aload_n 0, 1) := by decide +kernel
theorem dX15_joined_25 : decode cX15_joined 25 = .ok (.iload_n 3, 1) := by decide +kernel
theorem dX15_joined_26 : decode cX15_joined 26 = .ok (.iaload, 1) := by decide +kernel
theorem dX15_joined_27 : decode cX15_joined 27 = .ok (.goto 9, 3) := by decide +kernel
theorem dX15_joined_30 : decode cX15_joined 30 = .ok (.aload_n 1, 1) := by decide +kernel
theorem dX15_joined_31 : decode cX15_joined 31 = .ok (.iload_n 3, 1) := by decide +kernel
theorem dX15_joined_32 : decode cX15_joined 32 = .ok (.aload_n 0, 1) := by decide +kernel
theorem dX15_joined_33 : decode cX15_joined 33 = .ok (.arraylength, 1) := by decide +kernel
theorem dX15_joined_34 : decode cX15_joined 34 = .ok (.isub, 1) := by decide +kernel
theorem dX15_joined_35 : decode cX15_joined 35 = .ok (.iaload, 1) := by decide +kernel
theorem dX15_joined_36 : decode cX15_joined 36 = .ok (.iastore, 1) := by decide +kernel
theorem dX15_joined_37 : decode cX15_joined 37 = .ok (.iinc 3 1, 3) := by decide +kernel
theorem dX15_joined_40 : decode cX15_joined 40 = .ok (.goto (-30), 3) := by decide +kernel
theorem dX15_joined_43 : decode cX15_joined 43 = .ok (.aload_n 2, 1) := by decide +kernel
theorem dX15_joined_44 : decode cX15_joined 44 = .ok (.areturn, 1) := by decide +kernel
theorem dX15_unpacked_0 : decode cX15_unpacked 0 = .ok (.iconst 0, 1) := by decide +kernel
theorem dX15_unpacked_1 : decode cX15_unpacked 1 = .ok (.newarray .int, 2) := by decide +kernel
theorem dX15_unpacked_3 : decode cX15_unpacked 3 = .ok (.astore_n 1, 1) := by decide +kernel
theorem dX15_unpacked_4 : decode cX15_unpacked 4 = .ok (.iconst 0, 1) := by decide +kernel
theorem dX15_unpacked_5 : decode cX15_unpacked 5 = .ok (.istore_n 2, 1) := by decide +kernel
theorem dX15_unpacked_6 : decode cX15_unpacked 6 = .ok (.iload_n 2, 1) := by decide +kernel
theorem dX15_unpacked_7 : decode cX15_unpacked 7 = .ok (.aload_n 0, 1) := by decide +kernel
theorem dX15_unpacked_8 : decode cX15_unpacked 8 = .ok (.arraylength, 1) := by decide +kernel
theorem dX15_unpacked_9 : decode cX15_unpacked 9 = .ok (.if_icmp .ge 95, 3) := by decide +kernel
theorem dX15_unpacked_12 : decode cX15_unpacked 12 = .ok (.aload_n 0, 1) := by decide +kernel
theorem dX15_unpacked_13 : decode cX15_unpacked 13 = .ok (.iload_n 2, 1) := by decide +kernel
theorem dX15_unpacked_14 : decode cX15_unpacked 14 = .ok (.iaload, 1) := by decide +kernel
theorem dX15_unpacked_15 : decode cX15_unpacked 15 = .ok (.sipush 255, 3) := by decide +kernel
theorem dX15_unpacked_18 : decode cX15_unpacked 18 = .ok (.if_icmp .ne 66, 3) := by decide +kernel
theorem dX15_unpacked_21 : decode cX15_unpacked 21 = .ok (.iload_n 2, 1) := by decide +kernel
theorem dX15_unpacked_22 : decode cX15_unpacked 22 = .ok (.iconst 2, 1) := by decide +kernel
theorem dX15_unpacked_23 : decode cX15_unpacked 23 = .ok (.iadd, 1) := by decide +kernel
theorem dX15_unpacked_24 : decode cX15_unpacked 24 = .ok (.aload_n 0, 1) := by decide +kernel
theorem dX15_unpacked_25 : decode cX15_unpacked 25 = .ok (.arraylength, 1) := by decide +kernel
theorem dX15_unpacked_26 : decode cX15_unpacked 26 = .ok (.if_icmp .ge 11, 3) := by decide +kernel
theorem dX15_unpacked_29 : decode cX15_unpacked 29 = .ok (.aload_n 0, 1) := by decide +kernel
theorem dX15_unpacked_30 : decode cX15_unpacked 30 = .ok (.iload_n 2, 1) := by decide +kernel
theorem dX15_unpacked_31 : decode cX15_unpacked 31 = .ok (.iconst 1, 1) := by decide +kernel
theorem dX15_unpacked_32 : decode cX15_unpacked 32 = .ok (.iadd, 1) := by decide +kernel
theorem dX15_unpacked_33 : decode cX15_unpacked 33 = .ok (.iaload, 1) := by decide +kernel
theorem dX15_unpacked_34 : decode cX15_unpacked 34 = .ok (.ifCond .ne 5, 3) := by decide +kernel
theorem dX15_unpacked_37 : decode cX15_unpacked 37 = .ok (.aconst_null, 1) := by decide +kernel
theorem dX15_unpacked_38 : decode cX15_unpacked 38 = .ok (.areturn, 1) := by decide +kernel
theorem dX15_unpacked_39 : decode cX15_unpacked 39 = .ok (.aload_n 0, 1) := by decide +kernel
theorem dX15_unpacked_40 : decode cX15_unpacked 40 = .ok (.iload_n 2, 1) := by decide +kernel
theorem dX15_unpacked_41 : decode cX15_unpacked 41 = .ok (.iconst 1, 1) := by decide +kernel
theorem dX15_unpacked_42 : decode cX15_unpacked 42 = .ok (.iadd, 1) := by decide +kernel
theorem dX15_unpacked_43 : decode cX15_unpacked 43 = .ok (.iaload, 1) := by decide +kernel
theorem dX15_unpacked_44 : decode cX15_unpacked 44 = .ok (.newarray .int, 2) := by decide +kernel
theorem dX15_unpacked_46 : decode cX15_unpacked 46 = .ok (.astore_n 3, 1) := by decide +kernel
theorem dX15_unpacked_47 : decode cX15_unpacked 47 = .ok (.iconst 0, 1) := by decide +kernel
theorem dX15_unpacked_48 : decode cX15_unpacked 48 = .ok (.istore 4, 2) := by decide +kernel
theorem dX15_unpacked_50 : decode cX15_unpacked 50 = .ok (.iload 4, 2) := by decide +kernel
theorem dX15_unpacked_52 : decode cX15_unpacked 52 = .ok (.aload_n 3, 1) := by decide +kernel
theorem dX15_unpacked_53 : decode cX15_unpacked 53 = .ok (.arraylength, 1) := by decide +kernel
theorem dX15_unpacked_54 : decode cX15_unpacked 54 = .ok (.if_icmp .ge 18, 3) := by decide +kernel
theorem dX15_unpacked_57 : decode cX15_unpacked 57 = .ok (.aload_n 3, 1) := by decide +kernel
theorem dX15_unpacked_58 : decode cX15_unpacked 58 = .ok (.iload 4, 2) := by decide +kernel
theorem dX15_unpacked_60 : decode cX15_unpacked 60 = .ok (.aload_n 0, 1) := by decide +kernel
theorem dX15_unpacked_61 : decode cX15_unpacked 61 = .ok (.iload_n 2, 1) := by decide +kernel
theorem dX15_unpacked_62 : decode cX15_unpacked 62 = .ok (.iconst 2, 1) := by decide +kernel
theorem dX15_unpacked_63 : decode cX15_unpacked 63 = .ok (.iadd, 1) := by decide +kernel
theorem dX15_unpacked_64 : decode cX15_unpacked 64 = .ok (.iaload, 1) := by decide +kernel
theorem dX15_unpacked_65 : decode cX15_unpacked 65 = .ok (.iastore, 1) := by decide +kernel
theorem dX15_unpacked_66 : decode cX15_unpacked 66 = .ok (.iinc 4 1, 3) := by decide +kernel
theorem dX15_unpacked_69 : decode cX15_unpacked 69 = .ok (.goto (-19), 3) := by decide +kernel
theorem dX15_unpacked_72 : decode cX15_unpacked 72 = .ok (.aload_n 1, 1) := by decide +kernel
theorem dX15_unpacked_73 : decode cX15_unpacked 73 = .ok (.aload_n 3, 1) := by decide +kernel
theorem dX15_unpacked_74 : decode cX15_unpacked 74 = .ok (.invokestatic 85, 3) := by decide +kernel
theorem dX15_unpacked_77 : decode cX15_unpacked 77 = .ok (.astore_n 1, 1) := by decide +kernel
theorem dX15_unpacked_78 : decode cX15_unpacked 78 = .ok (.iinc 2 3, 3) := by decide +kernel
theorem dX15_unpacked_81 : decode cX15_unpacked 81 = .ok (.goto (-75), 3) := by decide +kernel
theorem dX15_unpacked_84 : decode cX15_unpacked 84 = .ok (.aload_n 1, 1) := by decide +kernel
theorem dX15_unpacked_85 : decode cX15_unpacked 85 = .ok (.iconst 1, 1) := by decide +kernel
theorem dX15_unpacked_86 : decode cX15_unpacked 86 = .ok (.newarray .int, 2) := by decide +kernel
theorem dX15_unpacked_88 : decode cX15_unpacked 88 = .ok (.dup, 1) := by decide +kernel
theorem dX15_unpacked_89 : decode cX15_unpacked 89 = .ok (.iconst 0, 1) := by decide +kernel
theorem dX15_unpacked_90 : decode cX15_unpacked 90 = .ok (.aload_n 0, 1) := by decide +kernel
theorem dX15_unpacked_91 : decode cX15_unpacked 91 = .ok (.iload_n 2, 1) := by decide +kernel
theorem dX15_unpacked_92 : decode cX15_unpacked 92 = .ok (.iaload, 1) := by decide +kernel
theorem dX15_unpacked_93 : decode cX15_unpacked 93 = .ok (.iastore, 1) := by decide +kernel
theorem dX15_unpacked_94 : decode cX15_unpacked 94 = .ok (.invokestatic 85, 3) := by decide +kernel
theorem dX15_unpacked_97 : decode cX15_unpacked 97 = .ok (.astore_n 1, 1) := by decide +kernel
theorem dX15_unpacked_98 : decode cX15_unpacked 98 = .ok (.iinc 2 1, 3) := by decide +kernel
theorem dX15_unpacked_101 : decode cX15_unpacked 101 = .ok (.goto (-95), 3) := by decide +kernel
theorem dX15_unpacked_104 : decode cX15_unpacked 104 = .ok (.aload_n 1, 1) := by decide +kernel
theorem dX15_unpacked_105 : decode cX15_unpacked 105 = .ok (.areturn, 1) := by decide +kernel
/-! THE REFERENCE'S OWN COST: joined and unpacked over a row of 199 bytes 255: what they make, counted from below -/
/-- the words that the two methods need -/
def us_joined : List Cond := .code yX15_joined cX15_joined 4 (some (.array .int)) :: [.arrayClass .int]
def us_unpacked : List Cond := .code yX15_unpacked cX15_unpacked 5 (some (.array .int)) :: [.arrayClass .int, .methodLink RX15 85 yX15_joined, .static yX15_joined, .initialized RX15, .code yX15_joined cX15_joined 4 (some (.array .int))]
theorem ug_unpacked_joined : GoodIn us_unpacked (va_wsS RX15 85 yX15_joined us_joined) := goodIn_p _ [5] rfl (by decide +kernel)
/-- the loop of joined, up to its end -/
theorem joined_loop {p : Program} {l : Launch} {e : Env} {R : Room} {s : State} {m : MethodId} {args : Array Value} {below : List Frame} {meth : Method} {c : Code} {cells slots : Nat} {Q : State → Prop} {cl : List vw_C} {dC : Nat → ClassId} {dI : Nat → Nat → Nat} {A : Nat → Prop} {H0 : Heap} {a b q n n2 : Nat} {f f2 : Nat → Int32} {cA cB cR : ClassId}
    (hx : p.tables.exec = Jvm.exec) (hb : c.code = cX15_joined) (hn : n + n2 < 2 ^ 31) (hK : va_K (dC, dI) cl [(cA, .int), (cB, .int), (cR, .int)] s)
    (kk : ∀ (g : Nat → Int32) (H : Heap) (locs : List Loc) (ls : Array Slot), va_P (dC, dI) cl [wa a cA n f, wa b cB n2 f2, wa q cR (n + n2) g] H → va_D A [wa a cA n f, wa b cB n2 f2, wa q cR (n + n2) g] → va_S A H0 H locs → lv_has ls 4 [(0, .ref a), (1, .ref b), (2, .ref q), (3, .int (nI (n + n2)))] → W p l e R s m args below meth c H locs cells slots Q (F0 m 43 ls [])) :
    ∀ (k i : Nat), i ≤ n + n2 → n + n2 < i + k → ∀ (g : Nat → Int32) (H : Heap) (locs : List Loc) (ls : Array Slot), va_P (dC, dI) cl [wa a cA n f, wa b cB n2 f2, wa q cR (n + n2) g] H → va_D A [wa a cA n f, wa b cB n2 f2, wa q cR (n + n2) g] → va_S A H0 H locs → lv_has ls 4 [(0, .ref a), (1, .ref b), (2, .ref q), (3, .int (nI i))] → W p l e R s m args below meth c H locs cells slots Q (F0 m 10 ls []) := by
  intro k
  induction k with
  | zero => intro i h1 h2; omega
  | succ k ih =>
    intro i hi hk g H locs ls hP hD hS hl
    refine lv_iload_n hx hb dX15_joined_10 rfl (lv_at hl 3 rfl) ?_
    refine lv_aload_n hx hb dX15_joined_11 rfl (lv_at hl 2 rfl) ?_
    refine va_alen (D := (dC, dI)) hx hb hK hP 2 2 rfl rfl rfl dX15_joined_12 ?_
    refine lv_icmp_ge (tgt := 43) hx hb dX15_joined_13 (by decide) (fun h => ?_) (fun h => ?_)
    · have hi2 : i = n + n2 := by
        rcases Nat.lt_or_ge i (n + n2) with q1 | q1
        · exact absurd h (nI_ge q1 hn)
        · omega
      subst hi2
      exact kk g H locs ls hP hD hS hl
    · have hlt : i < n + n2 := by
        rcases Nat.lt_or_ge i (n + n2) with q1 | q1
        · exact q1
        · exact absurd (nI_le q1 (by omega)) h
      have tail : ∀ x : Int32, W p l e R s m args below meth c H locs cells slots Q (F0 m 36 ls [.int x, .int (nI i), .ref q]) := by
        intro x
        refine va_iast (D := (dC, dI)) hx hb hK hP hD hS 2 2 rfl rfl (vp_in_nI hlt hn) dX15_joined_36 (fun H locs hP hD hS => ?_)
        have hP : va_P (dC, dI) cl [wa a cA n f, wa b cB n2 f2, wa q cR (n + n2) (upd g (nI i).toNatClampNeg x)] H := hP
        have hD : va_D A [wa a cA n f, wa b cB n2 f2, wa q cR (n + n2) (upd g (nI i).toNatClampNeg x)] := hD
        refine lv_iinc (v := nI (i + 1)) (lv' := [(3, .int (nI (i + 1))), (0, .ref a), (1, .ref b), (2, .ref q)]) hx hb dX15_joined_37 hl (k := 3) rfl (by rw [nI_succ]; rfl) (by decide) rfl (fun ls hl => ?_)
        refine lv_goto (tgt := 10) hx hb dX15_joined_40 (by decide) ?_
        exact ih (i + 1) (by omega) (by omega) _ H locs ls hP hD hS (lv_sub hl [1, 2, 3, 0] rfl)
      refine lv_aload_n hx hb dX15_joined_16 rfl (lv_at hl 2 rfl) ?_
      refine lv_iload_n hx hb dX15_joined_17 rfl (lv_at hl 3 rfl) ?_
      refine lv_iload_n hx hb dX15_joined_18 rfl (lv_at hl 3 rfl) ?_
      refine lv_aload_n hx hb dX15_joined_19 rfl (lv_at hl 0 rfl) ?_
      refine va_alen (D := (dC, dI)) hx hb hK hP 0 0 rfl rfl rfl dX15_joined_20 ?_
      refine lv_icmp_ge (tgt := 30) hx hb dX15_joined_21 (by decide) (fun h2 => ?_) (fun h2 => ?_)
      · have hni : n ≤ i := by
          rcases Nat.lt_or_ge i n with q1 | q1
          · exact absurd h2 (nI_ge q1 (by omega))
          · exact q1
        refine lv_aload_n hx hb dX15_joined_30 rfl (lv_at hl 1 rfl) ?_
        refine lv_iload_n hx hb dX15_joined_31 rfl (lv_at hl 3 rfl) ?_
        refine lv_aload_n hx hb dX15_joined_32 rfl (lv_at hl 0 rfl) ?_
        refine va_alen (D := (dC, dI)) hx hb hK hP 0 0 rfl rfl rfl dX15_joined_33 ?_
        refine lv_isub hx hb dX15_joined_34 ?_
        refine lv_topi (fun y ey => ?_)
        have ey2 : y = nI (i - n) := ey.trans (pk_sub hni)
        refine va_iald (D := (dC, dI)) hx hb hK hP 1 1 rfl rfl (by rw [ey2]; exact vp_in_nI (by omega) (by omega)) dX15_joined_35 ?_
        exact tail _
      · have hni : i < n := by
          rcases Nat.lt_or_ge i n with q1 | q1
          · exact q1
          · exact absurd (nI_le q1 (by omega)) h2
        refine lv_aload_n hx hb dX15_joined_24 rfl (lv_at hl 0 rfl) ?_
        refine lv_iload_n hx hb dX15_joined_25 rfl (lv_at hl 3 rfl) ?_
        refine va_iald (D := (dC, dI)) hx hb hK hP 0 0 rfl rfl (vp_in_nI hni (by omega)) dX15_joined_26 ?_
        refine lv_goto (tgt := 36) hx hb dX15_joined_27 (by decide) ?_
        exact tail _
set_option maxHeartbeats 4000000 in
set_option maxRecDepth 100000 in
/-- joined: a new array as long as both together -/
theorem c_joined (l : Launch) (cl : List vw_C) (dC : Nat → ClassId) (dI : Nat → Nat → Nat) (a b sz n n2 : Nat) (f f2 : Nat → Int32) (cA cB : ClassId) (hn : n + n2 ≤ 134217728) : Met l yX15_joined us_joined ({ frames := 0, cells := 1, slots := n + n2, locals := 0 }) (va_Pc [.ref a, .ref b] (fun U => U.heap.size = sz ∧ va_P (dC, dI) cl [wa a cA n f, wa b cB n2 f2] U.heap ∧ va_K (dC, dI) cl [(cA, .int), (cB, .int)] U ∧ va_D (fun _ => True) [wa a cA n f, wa b cB n2 f2])) (va_Qr (fun _ : ClassId × (Nat → Int32) => True) (fun u r t => va_P (dC, dI) cl [wa a cA n f, wa b cB n2 f2, wa r u.1 (n + n2) u.2] t.heap ∧ va_K (dC, dI) cl [(cA, .int), (cB, .int), (u.1, .int)] t ∧ va_D (va_A [wa a cA n f, wa b cB n2 f2] sz) [wa a cA n f, wa b cB n2 f2, wa r u.1 (n + n2) u.2]) (va_A [wa a cA n f, wa b cB n2 f2] sz)) 1 (n + n2) (va_A [wa a cA n f, wa b cB n2 f2] sz) := by
  refine Met.ofW (cc := cX15_joined) (maxL := 4) (ret := (some (.array .int))) (by decide) rfl ?_
  intro p e s m args below meth c s₁ B hml hv
  obtain ⟨rfl, hsz, hP, hK, hD0⟩ := hv
  have hx := B.exec
  have hb := B.bytes
  have hr := B.returns
  have hts := atoms_spec (ws := us_joined) B.pre
  have hlocks := B.notSynchronized
  subst hsz
  have hD := hD0.self (sz := s.heap.size)
  generalize hAe : va_A [wa a cA n f, wa b cB n2 f2] s.heap.size = A at hD ⊢
  have hA : ∀ q : Nat, s.heap.size ≤ q → A q := fun q h => by rw [← hAe]; exact Or.inr h
  have hS : va_S A s.heap s.heap [] := va_S.rf
  have hl := lv_entry ([.ref a, .ref b]) (n := 4) (Nat.le_of_ble_eq_true rfl)
  rw [lg_entry_eq]
  generalize (lg_sl ([.ref a, .ref b]) ++ List.replicate (4 - (lg_sl ([.ref a, .ref b])).length) Slot.unset).toArray = ls at hl ⊢
  have hl : lv_has ls 4 [(0, .ref a), (1, .ref b)] := hl
  refine lv_aload_n hx hb dX15_joined_0 rfl (lv_at hl 0 rfl) ?_
  refine va_alen (D := (dC, dI)) hx hb hK hP 0 0 rfl rfl rfl dX15_joined_1 ?_
  refine lv_aload_n hx hb dX15_joined_2 rfl (lv_at hl 1 rfl) ?_
  refine va_alen (D := (dC, dI)) hx hb hK hP 1 1 rfl rfl rfl dX15_joined_3 ?_
  refine lv_iadd hx hb dX15_joined_4 ?_
  refine lv_topi (fun y ey => ?_)
  have ey2 : y = nI (n + n2) := ey.trans (nI_add n n2)
  refine va_newa (D := (dC, dI)) (atype := .int) (N' := n + n2) (a0 := (n + n2, .inl (fun _ => 0))) hx hb (hts (.arrayClass .int) (by decide +kernel)) rfl hK hP hD hS hA (fun _ => rfl) (by rw [ey2]; exact nI_pos (by omega)) (by rw [ey2]; exact nI_clamp (by omega)) (by show (n + n2) * 4 ≤ 536870912; omega) (Nat.le_refl _) (Nat.le_of_eq (Nat.zero_add _)) dX15_joined_5 (fun q cR H hK hP hD hS => ?_)
  have hP : va_P (dC, dI) cl [wa a cA n f, wa b cB n2 f2, wa q cR (n + n2) (fun _ => 0)] H := hP
  have hD : va_D A [wa a cA n f, wa b cB n2 f2, wa q cR (n + n2) (fun _ => 0)] := hD
  have hK : va_K (dC, dI) cl [(cA, .int), (cB, .int), (cR, .int)] s := hK
  refine lv_astore_n (lv' := [(2, .ref q), (0, .ref a), (1, .ref b)]) hx hb dX15_joined_7 rfl hl (by decide) rfl (fun ls hl => ?_)
  refine lv_iconst (v := 0) hx hb dX15_joined_8 (by decide) ?_
  refine lv_istore_n (lv' := [(3, .int 0), (2, .ref q), (0, .ref a), (1, .ref b)]) hx hb dX15_joined_9 rfl hl (by decide) rfl (fun ls hl => ?_)
  have hl : lv_has ls 4 [(3, .int (nI 0)), (2, .ref q), (0, .ref a), (1, .ref b)] := hl
  refine joined_loop (A := A) (H0 := s.heap) (f := f) (f2 := f2) hx hb (by omega) hK ?_ (n + n2 + 1) 0 (Nat.zero_le _) (by omega) _ H _ ls hP hD hS (lv_sub hl [2, 3, 1, 0] rfl)
  intro g H locs ls hP hD hS hl
  refine lv_aload_n hx hb dX15_joined_43 rfl (lv_at hl 2 rfl) ?_
  refine W.widen (k := 1) (n := n + n2) (Nat.le_refl _) (Nat.le_of_eq (Nat.zero_add _)) ?_
  exact W.aret (v := .ref q) hx hb hr (Or.inr ⟨_, rfl⟩) (Or.inr ⟨_, rfl⟩) (fun t ht hW => ⟨⟨(cR, g), q, rfl, trivial, by rw [ht]; exact hP, va_K.moved hW.alike hK, hD⟩, hS.F ht⟩) hS.2.2 dX15_joined_44
end
section
/-! unpacked over 199 bytes 255: what it makes, counted from below -/
/-- what an entry of a world has in slots, of arrays alone -/
def ug : va_E → Nat
  | .inl x => x.2.1
  | .inr _ => 0
def us : va_W → Nat := fun ws => (ws.map fun q => ug q.2).sum
theorem us_nil : us [] = 0 := rfl
theorem us_cons (q : Nat × va_E) (ws : va_W) : us (q :: ws) = ug q.2 + us ws := by simp [us]
theorem us_app (a b : va_W) : us (a ++ b) = us a + us b := by simp [us]
theorem us_wa (a : Nat) (cA : ClassId) (n : Nat) (f : Nat → Int32) : ug (wa a cA n f).2 = n := rfl
/-- slots made up to the t-th run -/
def uT : Nat → Nat | 0 => 0 | t + 1 => uT t + 255 + 255 * (t + 1)
theorem uT_le : ∀ t, t < 67 → uT t ≤ 580635 := by decide +kernel
theorem uT_66 : uT 66 = 580635 := by decide +kernel
/-- the loop that fills a run -/
theorem unp_fill {p : Program} {l : Launch} {e : Env} {R : Room} {s : State} {m : MethodId} {args : Array Value} {below : List Frame} {meth : Method} {c : Code} {cells slots : Nat} {Q : State → Prop} {cl : List vw_C} {dC : Nat → ClassId} {dI : Nat → Nat → Nat} {A : Nat → Prop} {H0 : Heap} {a r q nr t : Nat} {f g : Nat → Int32} {cA cR cQ : ClassId} {pl : va_W}
    (hx : p.tables.exec = Jvm.exec) (hb : c.code = cX15_unpacked) (ht : t < 66) (hK : va_K (dC, dI) cl [(cA, .int), (cR, .int), (cQ, .int)] s)
    (kk : ∀ (h : Nat → Int32) (H : Heap) (locs : List Loc) (ls : Array Slot), va_P (dC, dI) cl (wa a cA 199 f :: wa r cR nr g :: wa q cQ 255 h :: pl) H → va_D A (wa a cA 199 f :: wa r cR nr g :: wa q cQ 255 h :: pl) → va_S A H0 H locs → lv_has ls 5 [(0, .ref a), (1, .ref r), (2, .int (nI (3 * t))), (3, .ref q), (4, .int (nI 255))] → W p l e R s m args below meth c H locs cells slots Q (F0 m 72 ls [])) :
    ∀ (k i : Nat), i ≤ 255 → 255 < i + k → ∀ (h : Nat → Int32) (H : Heap) (locs : List Loc) (ls : Array Slot), va_P (dC, dI) cl (wa a cA 199 f :: wa r cR nr g :: wa q cQ 255 h :: pl) H → va_D A (wa a cA 199 f :: wa r cR nr g :: wa q cQ 255 h :: pl) → va_S A H0 H locs → lv_has ls 5 [(0, .ref a), (1, .ref r), (2, .int (nI (3 * t))), (3, .ref q), (4, .int (nI i))] → W p l e R s m args below meth c H locs cells slots Q (F0 m 50 ls []) := by
  intro k
  induction k with
  | zero => intro i h1 h2; omega
  | succ k ih =>
    intro i hi hk h H locs ls hP hD hS hl
    refine lv_iload hx hb dX15_unpacked_50 (lv_at hl 4 rfl) ?_
    refine lv_aload_n hx hb dX15_unpacked_52 rfl (lv_at hl 3 rfl) ?_
    refine va_alen (D := (dC, dI)) hx hb hK hP 2 2 rfl rfl rfl dX15_unpacked_53 ?_
    refine lv_icmp_ge (tgt := 72) hx hb dX15_unpacked_54 (by decide) (fun hc => ?_) (fun hc => ?_)
    · have hi2 : i = 255 := by
        rcases Nat.lt_or_ge i 255 with q1 | q1
        · exact absurd hc (nI_ge q1 (by omega))
        · omega
      subst hi2
      exact kk h H locs ls hP hD hS hl
    · have hlt : i < 255 := by
        rcases Nat.lt_or_ge i 255 with q1 | q1
        · exact q1
        · exact absurd (nI_le q1 (by omega)) hc
      refine lv_aload_n hx hb dX15_unpacked_57 rfl (lv_at hl 3 rfl) ?_
      refine lv_iload hx hb dX15_unpacked_58 (lv_at hl 4 rfl) ?_
      refine lv_aload_n hx hb dX15_unpacked_60 rfl (lv_at hl 0 rfl) ?_
      refine lv_iload_n hx hb dX15_unpacked_61 rfl (lv_at hl 2 rfl) ?_
      refine lv_iconst (v := nI 2) hx hb dX15_unpacked_62 (by decide) ?_
      refine lv_iadd hx hb dX15_unpacked_63 ?_
      refine lv_topi (fun y ey => ?_)
      have ey2 : y = nI (3 * t + 2) := ey.trans (nI_add _ _)
      refine va_iald (D := (dC, dI)) hx hb hK hP 0 0 rfl rfl (by rw [ey2]; exact vp_in_nI (by omega) (by omega)) dX15_unpacked_64 ?_
      refine va_iast (D := (dC, dI)) hx hb hK hP hD hS 2 2 rfl rfl (vp_in_nI hlt (by omega)) dX15_unpacked_65 (fun H locs hP hD hS => ?_)
      refine lv_iinc (v := nI (i + 1)) (lv' := [(4, .int (nI (i + 1))), (0, .ref a), (1, .ref r), (2, .int (nI (3 * t))), (3, .ref q)]) hx hb dX15_unpacked_66 hl (k := 4) rfl (by rw [nI_succ]; rfl) (by decide) rfl (fun ls hl => ?_)
      refine lv_goto (tgt := 50) hx hb dX15_unpacked_69 (by decide) ?_
      exact ih (i + 1) (by omega) (by omega) _ H locs ls hP hD hS (lv_sub hl [1, 2, 3, 4, 0] rfl)
set_option maxHeartbeats 4000000 in
set_option maxRecDepth 100000 in
/-- the outer loop, from the t-th run on, to the 255 that lacks its number -/
theorem unp_loop {p : Program} {l : Launch} {e : Env} {R : Room} {s : State} {m : MethodId} {args : Array Value} {below : List Frame} {meth : Method} {c : Code} {Q : State → Prop} {cl : List vw_C} {dC : Nat → ClassId} {dI : Nat → Nat → Nat} {A : Nat → Prop} {H0 : Heap} {a : Nat} {f : Nat → Int32} {cA : ClassId}
    (hx : p.tables.exec = Jvm.exec) (hb : c.code = cX15_unpacked) (hml : c.maxLocals = 5) (hown : s.vm.findClass RX15 = some m.cls) (hts : ∀ w ∈ us_unpacked, w.before args s = true) (hA : ∀ q : Nat, H0.size ≤ q → A q)
    (hRf : 1 ≤ R.frames) (hRl : 23 ≤ R.locals) (hRc : 133 ≤ R.cells) (hRs : 580635 ≤ R.slots) (hf : ∀ j, j < 199 → f j = 255)
    (kk : ∀ (pl : va_W) (H : Heap) (locs : List Loc) (ls : Array Slot), us pl = 580635 → va_K (dC, dI) cl [(cA, .int)] s → va_P (dC, dI) cl (wa a cA 199 f :: pl) H → va_D A (wa a cA 199 f :: pl) → va_S A H0 H locs → W p l e R s m args below meth c H locs 133 580635 Q (F0 m 37 ls [])) :
    ∀ (k t : Nat), t + k = 66 → ∀ (r : Nat) (cR : ClassId) (g : Nat → Int32) (pl : va_W) (H : Heap) (locs : List Loc) (ls : Array Slot), us pl + 255 * t = uT t → va_K (dC, dI) cl [(cA, .int), (cR, .int)] s → va_P (dC, dI) cl (wa a cA 199 f :: wa r cR (255 * t) g :: pl) H → va_D A (wa a cA 199 f :: wa r cR (255 * t) g :: pl) → va_S A H0 H locs → lv_has ls 5 [(0, .ref a), (1, .ref r), (2, .int (nI (3 * t)))] → W p l e R s m args below meth c H locs (1 + 2 * t) (uT t) Q (F0 m 6 ls []) := by
  intro k
  induction k with
  | zero =>
    intro t ht r cR g pl H locs ls hu hK hP hD hS hl
    have ht66 : t = 66 := by omega
    subst ht66
    refine lv_iload_n hx hb dX15_unpacked_6 rfl (lv_at hl 2 rfl) ?_
    refine lv_aload_n hx hb dX15_unpacked_7 rfl (lv_at hl 0 rfl) ?_
    refine va_alen (D := (dC, dI)) hx hb hK hP 0 0 rfl rfl rfl dX15_unpacked_8 ?_
    refine lv_icmp_ge (tgt := 104) hx hb dX15_unpacked_9 (by decide) (fun hc => absurd hc (nI_ge (a := 3 * 66) (b := 199) (by omega) (by omega))) (fun _ => ?_)
    refine lv_aload_n hx hb dX15_unpacked_12 rfl (lv_at hl 0 rfl) ?_
    refine lv_iload_n hx hb dX15_unpacked_13 rfl (lv_at hl 2 rfl) ?_
    refine va_iald (D := (dC, dI)) hx hb hK hP 0 0 rfl rfl (vp_in_nI (by omega) (by omega)) dX15_unpacked_14 ?_
    refine lv_sipush (v := 255) hx hb dX15_unpacked_15 (by decide) ?_
    refine lv_icmp_ne (tgt := 84) hx hb dX15_unpacked_18 (by decide) (fun hc => absurd (hf _ (by rw [nI_clamp (by omega)]; omega)) hc) (fun _ => ?_)
    refine lv_iload_n hx hb dX15_unpacked_21 rfl (lv_at hl 2 rfl) ?_
    refine lv_iconst (v := nI 2) hx hb dX15_unpacked_22 (by decide) ?_
    refine lv_iadd hx hb dX15_unpacked_23 ?_
    refine lv_topi (fun y ey => ?_)
    have ey2 : y = nI 200 := ey.trans (nI_add _ _)
    refine lv_aload_n hx hb dX15_unpacked_24 rfl (lv_at hl 0 rfl) ?_
    refine va_alen (D := (dC, dI)) hx hb hK hP 0 0 rfl rfl rfl dX15_unpacked_25 ?_
    refine lv_icmp_ge (tgt := 37) hx hb dX15_unpacked_26 (by decide) (fun _ => ?_) (fun hc => absurd (by rw [ey2]; exact nI_le (a := 199) (b := 200) (by omega) (by omega)) hc)
    rw [uT_66]
    refine kk (wa r cR (255 * 66) g :: pl) H locs ls ?_ (hK.sub [0] rfl) hP hD hS
    rw [us_cons, us_wa]
    have := uT_66
    omega
  | succ k ih =>
    intro t ht r cR g pl H locs ls hu hK hP hD hS hl
    have ht66 : t < 66 := by omega
    have huT : uT (t + 1) = uT t + 255 + 255 * (t + 1) := rfl
    have huL := uT_le (t + 1) (by omega)
    refine lv_iload_n hx hb dX15_unpacked_6 rfl (lv_at hl 2 rfl) ?_
    refine lv_aload_n hx hb dX15_unpacked_7 rfl (lv_at hl 0 rfl) ?_
    refine va_alen (D := (dC, dI)) hx hb hK hP 0 0 rfl rfl rfl dX15_unpacked_8 ?_
    refine lv_icmp_ge (tgt := 104) hx hb dX15_unpacked_9 (by decide) (fun hc => absurd hc (nI_ge (a := 3 * t) (b := 199) (by omega) (by omega))) (fun _ => ?_)
    refine lv_aload_n hx hb dX15_unpacked_12 rfl (lv_at hl 0 rfl) ?_
    refine lv_iload_n hx hb dX15_unpacked_13 rfl (lv_at hl 2 rfl) ?_
    refine va_iald (D := (dC, dI)) hx hb hK hP 0 0 rfl rfl (vp_in_nI (by omega) (by omega)) dX15_unpacked_14 ?_
    refine lv_sipush (v := 255) hx hb dX15_unpacked_15 (by decide) ?_
    refine lv_icmp_ne (tgt := 84) hx hb dX15_unpacked_18 (by decide) (fun hc => absurd (hf _ (by rw [nI_clamp (by omega)]; omega)) hc) (fun _ => ?_)
    refine lv_iload_n hx hb dX15_unpacked_21 rfl (lv_at hl 2 rfl) ?_
    refine lv_iconst (v := nI 2) hx hb dX15_unpacked_22 (by decide) ?_
    refine lv_iadd hx hb dX15_unpacked_23 ?_
    refine lv_topi (fun y ey => ?_)
    have ey2 : y = nI (3 * t + 2) := ey.trans (nI_add _ _)
    refine lv_aload_n hx hb dX15_unpacked_24 rfl (lv_at hl 0 rfl) ?_
    refine va_alen (D := (dC, dI)) hx hb hK hP 0 0 rfl rfl rfl dX15_unpacked_25 ?_
    refine lv_icmp_ge (tgt := 37) hx hb dX15_unpacked_26 (by decide) (fun hc => absurd hc (by rw [ey2]; exact nI_ge (a := 3 * t + 2) (b := 199) (by omega) (by omega))) (fun _ => ?_)
    refine lv_aload_n hx hb dX15_unpacked_29 rfl (lv_at hl 0 rfl) ?_
    refine lv_iload_n hx hb dX15_unpacked_30 rfl (lv_at hl 2 rfl) ?_
    refine lv_iconst (v := nI 1) hx hb dX15_unpacked_31 (by decide) ?_
    refine lv_iadd hx hb dX15_unpacked_32 ?_
    refine lv_topi (fun y1 ey1 => ?_)
    have ey3 : y1 = nI (3 * t + 1) := ey1.trans (nI_add _ _)
    have hin1 : vp_in y1 199 := by rw [ey3]; exact vp_in_nI (by omega) (by omega)
    refine va_iald (D := (dC, dI)) hx hb hK hP 0 0 rfl rfl hin1 dX15_unpacked_33 ?_
    have hv1 : f y1.toNatClampNeg = 255 := hf _ (by rw [ey3, nI_clamp (by omega)]; omega)
    rw [hv1]
    refine lv_if_ne (tgt := 39) hx hb dX15_unpacked_34 (by decide) (fun _ => ?_) (fun hc => absurd hc (by decide))
    refine lv_aload_n hx hb dX15_unpacked_39 rfl (lv_at hl 0 rfl) ?_
    refine lv_iload_n hx hb dX15_unpacked_40 rfl (lv_at hl 2 rfl) ?_
    refine lv_iconst (v := nI 1) hx hb dX15_unpacked_41 (by decide) ?_
    refine lv_iadd hx hb dX15_unpacked_42 ?_
    rw [← ey1]
    refine va_iald (D := (dC, dI)) hx hb hK hP 0 0 rfl rfl hin1 dX15_unpacked_43 ?_
    rw [hv1]
    refine va_newa (D := (dC, dI)) (atype := .int) (N' := 255) (a0 := (255, .inl (fun _ => 0))) hx hb (hts (.arrayClass .int) (by decide +kernel)) rfl hK hP hD hS hA (fun _ => rfl) (by decide) (by decide) (by decide) (by omega) (by omega) dX15_unpacked_44 (fun q cQ H hK hP hD hS => ?_)
    have hK : va_K (dC, dI) cl [(cA, .int), (cR, .int), (cQ, .int)] s := hK
    have hpm : ((wa a cA 199 f :: wa r cR (255 * t) g :: pl) ++ [wa q cQ 255 (fun _ => 0)]).Perm (wa a cA 199 f :: wa r cR (255 * t) g :: wa q cQ 255 (fun _ => 0) :: pl) := List.Perm.cons _ (List.Perm.cons _ (List.perm_append_singleton _ _))
    have hP := uv_Pp hpm hP
    have hD := uv_Dp hpm hD
    refine lv_astore_n (lv' := [(3, .ref q), (0, .ref a), (1, .ref r), (2, .int (nI (3 * t)))]) hx hb dX15_unpacked_46 rfl hl (by decide) rfl (fun ls hl => ?_)
    refine lv_iconst (v := nI 0) hx hb dX15_unpacked_47 (by decide) ?_
    refine lv_istore (lv' := [(4, .int (nI 0)), (3, .ref q), (0, .ref a), (1, .ref r), (2, .int (nI (3 * t)))]) hx hb dX15_unpacked_48 hl (by decide) rfl (fun ls hl => ?_)
    refine unp_fill (A := A) (H0 := H0) (g := g) hx hb ht66 hK ?_ 256 0 (by omega) (by omega) _ H _ ls hP hD hS (lv_sub hl [2, 3, 4, 1, 0] rfl)
    intro h H locs ls hP hD hS hl
    refine lv_aload_n hx hb dX15_unpacked_72 rfl (lv_at hl 1 rfl) ?_
    refine lv_aload_n hx hb dX15_unpacked_73 rfl (lv_at hl 3 rfl) ?_
    have hpc : (wa a cA 199 f :: wa r cR (255 * t) g :: wa q cQ 255 h :: pl).Perm ([wa r cR (255 * t) g, wa q cQ 255 h] ++ (wa a cA 199 f :: pl)) := (List.Perm.swap _ _ _).trans (List.Perm.cons _ (List.Perm.swap _ _ _))
    have hPc := uv_Ps (List.sublist_append_left [wa r cR (255 * t) g, wa q cQ 255 h] (wa a cA 199 f :: pl)) (uv_Pp hpc hP)
    have hDc := uv_Ds (List.sublist_append_left [wa r cR (255 * t) g, wa q cQ 255 h] (wa a cA 199 f :: pl)) (uv_Dp hpc hD)
    have hKc := hK.sub (tys' := [(cR, .int), (cQ, .int)]) [1, 2] rfl
    have hFc := uv_free hD hS hA hpc
    refine va_callr (va_runS (As := [.ref r, .ref q]) (rest := []) ⟨hx, hb, hml, hown, hts⟩ (c_joined l cl dC dI r q H.size (255 * t) 255 g h cR cQ (by omega)) (va_cwS 2 hts ug_unpacked_joined rfl rfl rfl (by decide +kernel) ⟨hRf, hRl⟩) ⟨fun a U g mk q => by obtain ⟨q0, q1, qP, qK, qD⟩ := q; exact ⟨q0, q1, qP, va_K.moved (u := U) (U := U.calling g mk a) (Vm.Alike.refl U.vm) qK, qD⟩, fun U hU hW => ⟨rfl, by rw [hU], by rw [hU]; exact hPc, va_K.moved hW.alike hKc, hDc.weaken (fun _ _ _ _ => trivial)⟩⟩ rfl rfl hl.1 rfl (lv_room (Nat.le_of_ble_eq_true rfl)) dX15_unpacked_74 ⟨by omega, by omega⟩) hS (fun q _ h => hFc q h) hFc (fun u rr t1 H1 locs1 ht1 hvm hw hB hz1 hk1 hS => ?_)
    obtain ⟨cR2, g2⟩ := u
    obtain ⟨hP1, hK1, hD1⟩ := hB
    rw [ht1] at hP1
    have hK1 := va_K.moved hvm.symm hK1
    obtain ⟨hP, hD⟩ := uv_join hP hD hpc hk1 hFc hP1 hD1
    have hK := (hK.sub (tys' := [(cA, .int)]) [0] rfl).app (hK1.sub (tys' := [(cR2, .int)]) [2] rfl)
    refine lv_astore_n (lv' := [(1, .ref rr), (0, .ref a), (2, .int (nI (3 * t))), (3, .ref q), (4, .int (nI 255))]) hx hb dX15_unpacked_77 rfl hl (by decide) rfl (fun ls hl => ?_)
    refine lv_iinc (v := nI (3 * (t + 1))) (lv' := [(2, .int (nI (3 * (t + 1)))), (1, .ref rr), (0, .ref a), (3, .ref q), (4, .int (nI 255))]) hx hb dX15_unpacked_78 hl (k := 2) rfl (by rw [show Int32.ofInt 3 = nI 3 from rfl, nI_add]; rfl) (by decide) rfl (fun ls hl => ?_)
    refine lv_goto (tgt := 6) hx hb dX15_unpacked_81 (by decide) ?_
    have hpe : ([wa r cR (255 * t) g, wa q cQ 255 h, wa rr cR2 (255 * t + 255) g2] ++ (wa a cA 199 f :: pl)).Perm (wa a cA 199 f :: wa rr cR2 (255 * (t + 1)) g2 :: wa r cR (255 * t) g :: wa q cQ 255 h :: pl) := by
      have e1 : 255 * (t + 1) = 255 * t + 255 := by omega
      rw [e1]
      refine (List.perm_middle (l₁ := [wa r cR (255 * t) g, wa q cQ 255 h, wa rr cR2 (255 * t + 255) g2])).trans (List.Perm.cons _ ?_)
      exact List.perm_middle (l₁ := [wa r cR (255 * t) g, wa q cQ 255 h]) (l₂ := pl)
    have e2 : 1 + 2 * t + 1 + 1 = 1 + 2 * (t + 1) := by omega
    have e3 : uT t + 255 + (255 * t + 255) = uT (t + 1) := by rw [huT]; omega
    rw [e2, e3]
    exact ih (t + 1) (by omega) rr cR2 g2 (wa r cR (255 * t) g :: wa q cQ 255 h :: pl) H1 locs1 ls (by rw [us_cons, us_cons, us_wa, us_wa, huT]; omega) hK (uv_Pp hpe hP) (uv_Dp hpe hD) hS (lv_sub hl [2, 1, 0] rfl)
/-- a method that answers null, with a list of cells that it made -/
def un_Q (B : va_W → State → Prop) (A : Nat → Prop) : Array Value → State → Outcome → State → Prop := fun _ st oc t => (∃ pl : va_W, oc = .returned (some .null) ∧ B pl t) ∧ va_F A st t
set_option maxHeartbeats 4000000 in
set_option maxRecDepth 100000 in
/-- unpacked of 199 bytes 255: null, and 580635 slots are made -/
theorem c_unpacked (l : Launch) (cl : List vw_C) (dC : Nat → ClassId) (dI : Nat → Nat → Nat) (a sz : Nat) (f : Nat → Int32) (cA : ClassId) (hf : ∀ j, j < 199 → f j = 255) : Met l yX15_unpacked us_unpacked ({ frames := 1, cells := 133, slots := 580635, locals := 23 }) (va_Pc [.ref a] (fun U => U.heap.size = sz ∧ va_P (dC, dI) cl [wa a cA 199 f] U.heap ∧ va_K (dC, dI) cl [(cA, .int)] U ∧ va_D (fun _ => True) [wa a cA 199 f])) (un_Q (fun pl t => us pl = 580635 ∧ va_P (dC, dI) cl (wa a cA 199 f :: pl) t.heap ∧ va_K (dC, dI) cl [(cA, .int)] t ∧ va_D (va_A [wa a cA 199 f] sz) (wa a cA 199 f :: pl)) (va_A [wa a cA 199 f] sz)) 133 580635 (va_A [wa a cA 199 f] sz) := by
  refine Met.ofW (cc := cX15_unpacked) (maxL := 5) (ret := (some (.array .int))) (by decide) rfl ?_
  intro p e s m args below meth c s₁ B hml hv
  obtain ⟨rfl, hsz, hP, hK, hD0⟩ := hv
  have hx := B.exec
  have hb := B.bytes
  have hr := B.returns
  have hts := atoms_spec (ws := us_unpacked) B.pre
  have hown : s.vm.findClass RX15 = some m.cls := findClass_of_methodNamed B.named
  have hlocks := B.notSynchronized
  subst hsz
  have hD := hD0.self (sz := s.heap.size)
  generalize hAe : va_A [wa a cA 199 f] s.heap.size = A at hD ⊢
  have hA : ∀ q : Nat, s.heap.size ≤ q → A q := fun q h => by rw [← hAe]; exact Or.inr h
  have hS : va_S A s.heap s.heap [] := va_S.rf
  have hl := lv_entry ([.ref a]) (n := 5) (Nat.le_of_ble_eq_true rfl)
  rw [lg_entry_eq]
  generalize (lg_sl ([.ref a]) ++ List.replicate (5 - (lg_sl ([.ref a])).length) Slot.unset).toArray = ls at hl ⊢
  have hl : lv_has ls 5 [(0, .ref a)] := hl
  refine lv_iconst (v := nI 0) hx hb dX15_unpacked_0 (by decide) ?_
  refine va_newa (D := (dC, dI)) (atype := .int) (N' := 0) (a0 := (0, .inl (fun _ => 0))) hx hb (hts (.arrayClass .int) (by decide +kernel)) rfl hK hP hD hS hA (fun _ => rfl) (by decide) (by decide) (by decide) (Nat.le_of_ble_eq_true rfl) (Nat.le_of_ble_eq_true rfl) dX15_unpacked_1 (fun r cR H hK hP hD hS => ?_)
  refine lv_astore_n (lv' := [(1, .ref r), (0, .ref a)]) hx hb dX15_unpacked_3 rfl hl (by decide) rfl (fun ls hl => ?_)
  refine lv_iconst (v := nI 0) hx hb dX15_unpacked_4 (by decide) ?_
  refine lv_istore_n (lv' := [(2, .int (nI 0)), (1, .ref r), (0, .ref a)]) hx hb dX15_unpacked_5 rfl hl (by decide) rfl (fun ls hl => ?_)
  refine unp_loop (A := A) (H0 := s.heap) (f := f) hx hb hml hown hts hA (Nat.le_of_ble_eq_true rfl) (Nat.le_of_ble_eq_true rfl) (Nat.le_of_ble_eq_true rfl) (Nat.le_of_ble_eq_true rfl) hf ?_ 66 0 rfl r cR (fun _ => 0) [] H _ ls rfl hK hP hD hS (lv_sub hl [2, 1, 0] rfl)
  intro pl H locs ls hu hK hP hD hS
  refine lv_null hx hb dX15_unpacked_37 ?_
  exact W.aret (v := .null) hx hb hr (Or.inr ⟨_, rfl⟩) (Or.inl rfl) (fun t ht hW => ⟨⟨pl, rfl, hu, by rw [ht]; exact hP, va_K.moved hW.alike hK, hD⟩, hS.F ht⟩) hS.2.2 dX15_unpacked_38
end
section
/-! laid by wip/whole: names, words and decode rows from the print of the task; the contracts are told in wip/whole/*.py -/
theorem dX6_size_0 : decode cX6_size 0 = .ok (.aload_n 0, 1) := by decide +kernel
theorem dX6_size_1 : decode cX6_size 1 = .ok (.getfield 21, 3) := by decide +kernel
theorem dX6_size_4 : decode cX6_size 4 = .ok (.ireturn, 1) := by decide +kernel
theorem dX6_get_0 : decode cX6_get 0 = .ok (.iload_n 1, 1) := by decide +kernel
theorem dX6_get_1 : decode cX6_get 1 = .ok (.ifCond .lt 20, 3) := by decide +kernel
theorem dX6_get_4 : decode cX6_get 4 = .ok (.iload_n 1, 1) := by decide +kernel
theorem dX6_get_5 : decode cX6_get 5 = .ok (.aload_n 0, 1) := by decide +kernel
theorem dX6_get_6 : decode cX6_get 6 = .ok (.getfield 21, 3) := by decide +kernel
theorem dX6_get_9 : decode cX6_get 9 = .ok (.if_icmp .ge 12, 3) := by decide +kernel
theorem dX6_get_12 : decode cX6_get 12 = .ok (.aload_n 0, 1) := by decide +kernel
theorem dX6_get_13 : decode cX6_get 13 = .ok (.getfield 15, 3) := by decide +kernel
theorem dX6_get_16 : decode cX6_get 16 = .ok (.iload_n 1, 1) := by decide +kernel
theorem dX6_get_17 : decode cX6_get 17 = .ok (.iaload, 1) := by decide +kernel
theorem dX6_get_18 : decode cX6_get 18 = .ok (.goto 4, 3) := by decide +kernel
theorem dX6_get_21 : decode cX6_get 21 = .ok (.iconst 0, 1) := by decide +kernel
theorem dX6_get_22 : decode cX6_get 22 = .ok (.ireturn, 1) := by decide +kernel
theorem dX6_set_0 : decode cX6_set 0 = .ok (.iload_n 1, 1) := by decide +kernel
theorem dX6_set_1 : decode cX6_set 1 = .ok (.ifCond .lt 18, 3) := by decide +kernel
theorem dX6_set_4 : decode cX6_set 4 = .ok (.iload_n 1, 1) := by decide +kernel
theorem dX6_set_5 : decode cX6_set 5 = .ok (.aload_n 0, 1) := by decide +kernel
theorem dX6_set_6 : decode cX6_set 6 = .ok (.getfield 21, 3) := by decide +kernel
theorem dX6_set_9 : decode cX6_set 9 = .ok (.if_icmp .ge 10, 3) := by decide +kernel
theorem dX6_set_12 : decode cX6_set 12 = .ok (.aload_n 0, 1) := by decide +kernel
theorem dX6_set_13 : decode cX6_set 13 = .ok (.getfield 15, 3) := by decide +kernel
theorem dX6_set_16 : decode cX6_set 16 = .ok (.iload_n 1, 1) := by decide +kernel
theorem dX6_set_17 : decode cX6_set 17 = .ok (.iload_n 2, 1) := by decide +kernel
theorem dX6_set_18 : decode cX6_set 18 = .ok (.iastore, 1) := by decide +kernel
theorem dX6_set_19 : decode cX6_set 19 = .ok (.return_, 1) := by decide +kernel
theorem dX6_add_0 : decode cX6_add 0 = .ok (.aload_n 0, 1) := by decide +kernel
theorem dX6_add_1 : decode cX6_add 1 = .ok (.getfield 21, 3) := by decide +kernel
theorem dX6_add_4 : decode cX6_add 4 = .ok (.aload_n 0, 1) := by decide +kernel
theorem dX6_add_5 : decode cX6_add 5 = .ok (.getfield 15, 3) := by decide +kernel
theorem dX6_add_8 : decode cX6_add 8 = .ok (.arraylength, 1) := by decide +kernel
theorem dX6_add_9 : decode cX6_add 9 = .ok (.if_icmp .ge 23, 3) := by decide +kernel
theorem dX6_add_12 : decode cX6_add 12 = .ok (.aload_n 0, 1) := by decide +kernel
theorem dX6_add_13 : decode cX6_add 13 = .ok (.getfield 15, 3) := by decide +kernel
theorem dX6_add_16 : decode cX6_add 16 = .ok (.aload_n 0, 1) := by decide +kernel
theorem dX6_add_17 : decode cX6_add 17 = .ok (.getfield 21, 3) := by decide +kernel
theorem dX6_add_20 : decode cX6_add 20 = .ok (.iload_n 1, 1) := by decide +kernel
theorem dX6_add_21 : decode cX6_add 21 = .ok (.iastore, 1) := by decide +kernel
theorem dX6_add_22 : decode cX6_add 22 = .ok (.aload_n 0, 1) := by decide +kernel
theorem dX6_add_23 : decode cX6_add 23 = .ok (.dup, 1) := by decide +kernel
theorem dX6_add_24 : decode cX6_add 24 = .ok (.getfield 21, 3) := by decide +kernel
theorem dX6_add_27 : decode cX6_add 27 = .ok (.iconst 1, 1) := by decide +kernel
theorem dX6_add_28 : decode cX6_add 28 = .ok (.iadd, 1) := by decide +kernel
theorem dX6_add_29 : decode cX6_add 29 = .ok (.putfield 21, 3) := by decide +kernel
theorem dX6_add_32 : decode cX6_add 32 = .ok (.return_, 1) := by decide +kernel
theorem dX6_clear_0 : decode cX6_clear 0 = .ok (.aload_n 0, 1) := by decide +kernel
theorem dX6_clear_1 : decode cX6_clear 1 = .ok (.iconst 0, 1) := by decide +kernel
theorem dX6_clear_2 : decode cX6_clear 2 = .ok (.putfield 21, 3) := by decide +kernel
theorem dX6_clear_5 : decode cX6_clear 5 = .ok (.return_, 1) := by decide +kernel
theorem dX6_init_0 : decode cX6_init 0 = .ok (.aload_n 0, 1) := by decide +kernel
theorem dX6_init_1 : decode cX6_init 1 = .ok (.invokespecial 3, 3) := by decide +kernel
theorem dX6_init_4 : decode cX6_init 4 = .ok (.aload_n 0, 1) := by decide +kernel
theorem dX6_init_5 : decode cX6_init 5 = .ok (.iload_n 1, 1) := by decide +kernel
theorem dX6_init_6 : decode cX6_init 6 = .ok (.iconst 0, 1) := by decide +kernel
theorem dX6_init_7 : decode cX6_init 7 = .ok (.invokestatic 9, 3) := by decide +kernel
theorem dX6_init_10 : decode cX6_init 10 = .ok (.newarray .int, 2) := by decide +kernel
theorem dX6_init_12 : decode cX6_init 12 = .ok (.putfield 15, 3) := by decide +kernel
theorem dX6_init_15 : decode cX6_init 15 = .ok (.return_, 1) := by decide +kernel
def usX6_size : List Cond := .code yX6_size cX6_size 1 (some .int) :: ([.fieldLink RX6 21 "Patchferry$Row" "size" "I"] ++ wsX60)
def usX6_get : List Cond := .code yX6_get cX6_get 2 (some .int) :: ([.fieldLink RX6 21 "Patchferry$Row" "size" "I", .fieldLink RX6 15 "Patchferry$Row" "cells" "[I"] ++ wsX60)
def usX6_set : List Cond := .code yX6_set cX6_set 3 none :: ([.fieldLink RX6 21 "Patchferry$Row" "size" "I", .fieldLink RX6 15 "Patchferry$Row" "cells" "[I"] ++ wsX60)
def usX6_add : List Cond := .code yX6_add cX6_add 2 none :: ([.fieldLink RX6 21 "Patchferry$Row" "size" "I", .fieldLink RX6 15 "Patchferry$Row" "cells" "[I"] ++ wsX60)
def usX6_clear : List Cond := .code yX6_clear cX6_clear 1 none :: ([.fieldLink RX6 21 "Patchferry$Row" "size" "I"] ++ wsX60)
def usX6_init : List Cond := .code yX6_init cX6_init 2 none :: ([.methodLink RX6 3 objectInit, .instanceMethod objectInit, .code objectInit ⟨#[0xb1]⟩ 1 none, .methodLink RX6 9 Lib.Math.max.name, .static Lib.Math.max.name, .initialized "java/lang/Math", .code Lib.Math.max.name Lib.Math.max.code 2 (some .int), .arrayClass .int, .fieldLink RX6 15 "Patchferry$Row" "cells" "[I"] ++ wsX60)
theorem inX6_size_RX6 : ∀ w ∈ u_ws RX6 TX6 2, w ∈ usX6_size := by decide +kernel
theorem inX6_get_RX6 : ∀ w ∈ u_ws RX6 TX6 2, w ∈ usX6_get := by decide +kernel
theorem inX6_set_RX6 : ∀ w ∈ u_ws RX6 TX6 2, w ∈ usX6_set := by decide +kernel
theorem inX6_add_RX6 : ∀ w ∈ u_ws RX6 TX6 2, w ∈ usX6_add := by decide +kernel
theorem inX6_clear_RX6 : ∀ w ∈ u_ws RX6 TX6 2, w ∈ usX6_clear := by decide +kernel
theorem inX6_init_RX6 : ∀ w ∈ u_ws RX6 TX6 2, w ∈ usX6_init := by decide +kernel
set_option maxHeartbeats 4000000 in
set_option maxRecDepth 100000 in
theorem p_size (l : Launch) (dC : Nat → ClassId) (dI : Nat → Nat → Nat) (cI cO : ClassId) (h : Nat) (ca : Nat) (n : Nat) : Met l yX6_size usX6_size ({ frames := 0, cells := 0, slots := 0, locals := 0 }) (va_Pc [.ref h] (fun U => va_P (dC, dI) vwCl [(h, .inr (13, [.ref ca, .int (nI n)]))] U.heap ∧ va_K (dC, dI) vwCl (ty0 cI cO) U)) (vp_Si (fun r => r = nI n)) 0 0 (fun _ => False) := by
  refine Met.ofW (cc := cX6_size) (maxL := 1) (ret := (some .int)) (by decide) rfl ?_
  intro p e s m args below meth c s₁ B hml hv
  obtain ⟨rfl, hP, hK⟩ := hv
  have hx := B.exec
  have hb := B.bytes
  have hr := B.returns
  have hts := atoms_spec (ws := usX6_size) B.pre
  have hown : s.vm.findClass RX6 = some m.cls := findClass_of_methodNamed B.named
  have hlocks := B.notSynchronized
  have hl := lv_entry ([.ref h]) (n := 1) (Nat.le_of_ble_eq_true rfl)
  rw [lg_entry_eq]
  generalize (lg_sl ([.ref h]) ++ List.replicate (1 - (lg_sl ([.ref h])).length) Slot.unset).toArray = ls at hl ⊢
  have hl : lv_has ls 1 [(0, .ref h)] := hl
  refine lv_aload_n hx hb dX6_size_0 rfl (lv_at hl 0 rfl) ?_
  refine va_get (D := (dC, dI)) (ci := 13) (v := .int (nI n)) (C := RX6) (T := TX6) (N := 2) hx hb hts inX6_size_RX6 hown hK hP 0 rfl rfl 1 (by decide) (hts (.fieldLink RX6 21 "Patchferry$Row" "size" "I") (by decide +kernel)) (fun _ h9 => h9) rfl dX6_size_1 ?_
  exact W.iret (v := nI n) hx hb hr (fun t ht hW => ⟨_, rfl, rfl, ht⟩) (fun q hq => by cases hq) dX6_size_4
set_option maxHeartbeats 4000000 in
set_option maxRecDepth 100000 in
theorem p_get (l : Launch) (dC : Nat → ClassId) (dI : Nat → Nat → Nat) (cI cO : ClassId) (h : Nat) (ca : Nat) (n : Nat) (L : Nat) (f : Nat → Int32) (p0 : Int32) (hn : n ≤ L) (hL : L ≤ 100000) : Met l yX6_get usX6_get ({ frames := 0, cells := 0, slots := 0, locals := 0 }) (va_Pc [.ref h, .int p0] (fun U => va_P (dC, dI) vwCl [(h, .inr (13, [.ref ca, .int (nI n)])), wa ca cI L f] U.heap ∧ va_K (dC, dI) vwCl (ty0 cI cO) U)) (vp_Si (fun r => (∀ j, j < n → p0 = nI j → r = f j) ∧ (∀ j, n ≤ j → j < 2 ^ 31 → p0 = nI j → r = 0))) 0 0 (fun _ => False) := by
  refine Met.ofW (cc := cX6_get) (maxL := 2) (ret := (some .int)) (by decide) rfl ?_
  intro p e s m args below meth c s₁ B hml hv
  obtain ⟨rfl, hP, hK⟩ := hv
  have hx := B.exec
  have hb := B.bytes
  have hr := B.returns
  have hts := atoms_spec (ws := usX6_get) B.pre
  have hown : s.vm.findClass RX6 = some m.cls := findClass_of_methodNamed B.named
  have hlocks := B.notSynchronized
  have hl := lv_entry ([.ref h, .int p0]) (n := 2) (Nat.le_of_ble_eq_true rfl)
  rw [lg_entry_eq]
  generalize (lg_sl ([.ref h, .int p0]) ++ List.replicate (2 - (lg_sl ([.ref h, .int p0])).length) Slot.unset).toArray = ls at hl ⊢
  have hl : lv_has ls 2 [(0, .ref h), (1, .int p0)] := hl
  refine lv_iload_n hx hb dX6_get_0 rfl (lv_at hl 1 rfl) ?_
  refine lv_if_lt (tgt := 21) hx hb dX6_get_1 (by decide) (fun c_1 => ?_) (fun c_1 => ?_)
  · refine lv_iconst (v := nI 0) hx hb dX6_get_21 (by decide) ?_
    exact W.iret (v := nI 0) hx hb hr (fun t ht hW => ⟨_, rfl, ⟨fun j hj e => absurd c_1 (by rw [e]; exact nI_pos (by omega)), fun _ _ _ _ => rfl⟩, ht⟩) (fun q hq => by cases hq) dX6_get_22
  · refine lv_iload_n hx hb dX6_get_4 rfl (lv_at hl 1 rfl) ?_
    refine lv_aload_n hx hb dX6_get_5 rfl (lv_at hl 0 rfl) ?_
    refine va_get (D := (dC, dI)) (ci := 13) (v := .int (nI n)) (C := RX6) (T := TX6) (N := 2) hx hb hts inX6_get_RX6 hown hK hP 0 rfl rfl 1 (by decide) (hts (.fieldLink RX6 21 "Patchferry$Row" "size" "I") (by decide +kernel)) (fun _ h9 => h9) rfl dX6_get_6 ?_
    refine lv_icmp_ge (tgt := 21) hx hb dX6_get_9 (by decide) (fun c_2 => ?_) (fun c_2 => ?_)
    · refine lv_iconst (v := nI 0) hx hb dX6_get_21 (by decide) ?_
      exact W.iret (v := nI 0) hx hb hr (fun t ht hW => ⟨_, rfl, ⟨fun j hj e => absurd c_2 (by rw [e]; exact nI_ge hj (by omega)), fun _ _ _ _ => rfl⟩, ht⟩) (fun q hq => by cases hq) dX6_get_22
    · refine lv_aload_n hx hb dX6_get_12 rfl (lv_at hl 0 rfl) ?_
      refine va_get (D := (dC, dI)) (ci := 13) (v := .ref ca) (C := RX6) (T := TX6) (N := 2) hx hb hts inX6_get_RX6 hown hK hP 0 rfl rfl 0 (by decide) (hts (.fieldLink RX6 15 "Patchferry$Row" "cells" "[I") (by decide +kernel)) (fun _ h9 => h9) rfl dX6_get_13 ?_
      refine lv_iload_n hx hb dX6_get_16 rfl (lv_at hl 1 rfl) ?_
      obtain ⟨j, hj, ej⟩ : ∃ j : Nat, j < n ∧ p0 = nI j := by
        rcases pk_ix p0 (n := n) (by omega) with q | q | q
        · exact absurd q c_1
        · exact absurd q c_2
        · exact q
      refine va_iald (D := (dC, dI)) hx hb hK hP 1 0 rfl rfl (by rw [ej]; exact vp_in_nI (by omega) (by omega)) dX6_get_17 ?_
      refine lv_goto (tgt := 22) hx hb dX6_get_18 (by decide) ?_
      exact W.iret (v := f (p0).toNatClampNeg) hx hb hr (fun t ht hW => ⟨_, rfl, ⟨fun i hi e => by rw [e, nI_clamp (by omega)], fun i hi hi2 e => absurd ((nI_eq (by omega) hi2).mp (ej.symm.trans e)) (by omega)⟩, ht⟩) (fun q hq => by cases hq) dX6_get_22
set_option maxHeartbeats 4000000 in
set_option maxRecDepth 100000 in
theorem c_set (l : Launch) (dC : Nat → ClassId) (dI : Nat → Nat → Nat) (cI cO : ClassId) (sz : Nat) (h : Nat) (ca : Nat) (n : Nat) (L : Nat) (f : Nat → Int32) (p0 : Int32) (p1 : Int32) (hn : n ≤ L) (hL : L ≤ 100000) : Met l yX6_set usX6_set ({ frames := 0, cells := 0, slots := 0, locals := 0 }) (va_Pc [.ref h, .int p0, .int p1] (fun U => U.heap.size = sz ∧ va_P (dC, dI) vwCl [(h, .inr (13, [.ref ca, .int (nI n)])), wa ca cI L f] U.heap ∧ va_K (dC, dI) vwCl (ty0 cI cO) U ∧ va_D (fun _ => True) [(h, .inr (13, [.ref ca, .int (nI n)])), wa ca cI L f])) (va_Qv (fun _ : Unit => True) (fun _ t => ∃ (f2 : Nat → Int32), va_P (dC, dI) vwCl [(h, .inr (13, [.ref ca, .int (nI n)])), wa ca cI L f2] t.heap ∧ va_K (dC, dI) vwCl (ty0 cI cO) t ∧ va_D (va_A [(h, .inr (13, [.ref ca, .int (nI n)])), wa ca cI L f] sz) [(h, .inr (13, [.ref ca, .int (nI n)])), wa ca cI L f2]) (va_A [(h, .inr (13, [.ref ca, .int (nI n)])), wa ca cI L f] sz)) 0 0 (va_A [(h, .inr (13, [.ref ca, .int (nI n)])), wa ca cI L f] sz) := by
  refine Met.ofW (cc := cX6_set) (maxL := 3) (ret := none) (by decide) rfl ?_
  intro p e s m args below meth c s₁ B hml hv
  obtain ⟨rfl, hsz, hP, hK, hD0⟩ := hv
  have hx := B.exec
  have hb := B.bytes
  have hr := B.returns
  have hts := atoms_spec (ws := usX6_set) B.pre
  have hown : s.vm.findClass RX6 = some m.cls := findClass_of_methodNamed B.named
  have hlocks := B.notSynchronized
  subst hsz
  have hD := hD0.self (sz := s.heap.size)
  generalize hAe : va_A [(h, .inr (13, [.ref ca, .int (nI n)])), wa ca cI L f] s.heap.size = A at hD ⊢
  have hA : ∀ q : Nat, s.heap.size ≤ q → A q := fun q h => by rw [← hAe]; exact Or.inr h
  have hS : va_S A s.heap s.heap [] := va_S.rf
  have hl := lv_entry ([.ref h, .int p0, .int p1]) (n := 3) (Nat.le_of_ble_eq_true rfl)
  rw [lg_entry_eq]
  generalize (lg_sl ([.ref h, .int p0, .int p1]) ++ List.replicate (3 - (lg_sl ([.ref h, .int p0, .int p1])).length) Slot.unset).toArray = ls at hl ⊢
  have hl : lv_has ls 3 [(0, .ref h), (1, .int p0), (2, .int p1)] := hl
  refine lv_iload_n hx hb dX6_set_0 rfl (lv_at hl 1 rfl) ?_
  refine lv_if_lt (tgt := 19) hx hb dX6_set_1 (by decide) (fun c_1 => ?_) (fun c_1 => ?_)
  · have hPe : va_P (dC, dI) vwCl [(h, .inr (13, [.ref ca, .int (nI n)])), wa ca cI L f] _ := hP.sub [0, 1] rfl
    have hDe : va_D A [(h, .inr (13, [.ref ca, .int (nI n)])), wa ca cI L f] := hD.sub [0, 1] (by decide) rfl
    refine W.widen (k := 0) (n := 0) (by first | exact Nat.le_of_ble_eq_true rfl | omega | (dsimp only [headSpec]; omega) | (simp only [headSpec]; omega) | omega) (by first | exact Nat.le_of_ble_eq_true rfl | omega | (dsimp only [headSpec]; omega) | (simp only [headSpec]; omega) | omega) ?_
    exact W.vret hx hb hr (fun t ht hW => ⟨⟨(), rfl, trivial, _, by rw [ht]; exact hPe, va_K.moved hW.alike hK, hDe⟩, hS.F ht⟩) hS.2.2 dX6_set_19
  · refine lv_iload_n hx hb dX6_set_4 rfl (lv_at hl 1 rfl) ?_
    refine lv_aload_n hx hb dX6_set_5 rfl (lv_at hl 0 rfl) ?_
    refine va_get (D := (dC, dI)) (ci := 13) (v := .int (nI n)) (C := RX6) (T := TX6) (N := 2) hx hb hts inX6_set_RX6 hown hK hP 0 rfl rfl 1 (by decide) (hts (.fieldLink RX6 21 "Patchferry$Row" "size" "I") (by decide +kernel)) (fun _ h9 => h9) rfl dX6_set_6 ?_
    refine lv_icmp_ge (tgt := 19) hx hb dX6_set_9 (by decide) (fun c_2 => ?_) (fun c_2 => ?_)
    · have hPe : va_P (dC, dI) vwCl [(h, .inr (13, [.ref ca, .int (nI n)])), wa ca cI L f] _ := hP.sub [0, 1] rfl
      have hDe : va_D A [(h, .inr (13, [.ref ca, .int (nI n)])), wa ca cI L f] := hD.sub [0, 1] (by decide) rfl
      refine W.widen (k := 0) (n := 0) (by first | exact Nat.le_of_ble_eq_true rfl | omega | (dsimp only [headSpec]; omega) | (simp only [headSpec]; omega) | omega) (by first | exact Nat.le_of_ble_eq_true rfl | omega | (dsimp only [headSpec]; omega) | (simp only [headSpec]; omega) | omega) ?_
      exact W.vret hx hb hr (fun t ht hW => ⟨⟨(), rfl, trivial, _, by rw [ht]; exact hPe, va_K.moved hW.alike hK, hDe⟩, hS.F ht⟩) hS.2.2 dX6_set_19
    · refine lv_aload_n hx hb dX6_set_12 rfl (lv_at hl 0 rfl) ?_
      refine va_get (D := (dC, dI)) (ci := 13) (v := .ref ca) (C := RX6) (T := TX6) (N := 2) hx hb hts inX6_set_RX6 hown hK hP 0 rfl rfl 0 (by decide) (hts (.fieldLink RX6 15 "Patchferry$Row" "cells" "[I") (by decide +kernel)) (fun _ h9 => h9) rfl dX6_set_13 ?_
      refine lv_iload_n hx hb dX6_set_16 rfl (lv_at hl 1 rfl) ?_
      refine lv_iload_n hx hb dX6_set_17 rfl (lv_at hl 2 rfl) ?_
      obtain ⟨j, hj, ej⟩ : ∃ j : Nat, j < n ∧ p0 = nI j := by
        rcases pk_ix p0 (n := n) (by omega) with q | q | q
        · exact absurd q c_1
        · exact absurd q c_2
        · exact q
      refine va_iast (D := (dC, dI)) hx hb hK hP hD hS 1 0 rfl rfl (by rw [ej]; exact vp_in_nI (by omega) (by omega)) dX6_set_18 (fun H locs hP hD hS => ?_)
      have hP : va_P (dC, dI) vwCl [(h, .inr (13, [.ref ca, .int (nI n)])), wa ca cI L (upd f (p0).toNatClampNeg p1)] H := hP
      have hD : va_D A [(h, .inr (13, [.ref ca, .int (nI n)])), wa ca cI L (upd f (p0).toNatClampNeg p1)] := hD
      have hPe : va_P (dC, dI) vwCl [(h, .inr (13, [.ref ca, .int (nI n)])), wa ca cI L (upd f (p0).toNatClampNeg p1)] _ := hP.sub [0, 1] rfl
      have hDe : va_D A [(h, .inr (13, [.ref ca, .int (nI n)])), wa ca cI L (upd f (p0).toNatClampNeg p1)] := hD.sub [0, 1] (by decide) rfl
      refine W.widen (k := 0) (n := 0) (by first | exact Nat.le_of_ble_eq_true rfl | omega | (dsimp only [headSpec]; omega) | (simp only [headSpec]; omega) | omega) (by first | exact Nat.le_of_ble_eq_true rfl | omega | (dsimp only [headSpec]; omega) | (simp only [headSpec]; omega) | omega) ?_
      exact W.vret hx hb hr (fun t ht hW => ⟨⟨(), rfl, trivial, _, by rw [ht]; exact hPe, va_K.moved hW.alike hK, hDe⟩, hS.F ht⟩) hS.2.2 dX6_set_19
set_option maxHeartbeats 4000000 in
set_option maxRecDepth 100000 in
theorem c_add (l : Launch) (dC : Nat → ClassId) (dI : Nat → Nat → Nat) (cI cO : ClassId) (sz : Nat) (h : Nat) (ca : Nat) (n : Nat) (L : Nat) (f : Nat → Int32) (p0 : Int32) (hn : n ≤ L) (hL : L ≤ 100000) : Met l yX6_add usX6_add ({ frames := 0, cells := 0, slots := 0, locals := 0 }) (va_Pc [.ref h, .int p0] (fun U => U.heap.size = sz ∧ va_P (dC, dI) vwCl [(h, .inr (13, [.ref ca, .int (nI n)])), wa ca cI L f] U.heap ∧ va_K (dC, dI) vwCl (ty0 cI cO) U ∧ va_D (fun _ => True) [(h, .inr (13, [.ref ca, .int (nI n)])), wa ca cI L f])) (va_Qv (fun _ : Unit => True) (fun _ t => ∃ (n2 : Nat), ∃ (f2 : Nat → Int32), (n2 ≤ L) ∧ (n < L → n2 = n + 1 ∧ f2 n = p0 ∧ ∀ j, j < n → f2 j = f j) ∧ va_P (dC, dI) vwCl [(h, .inr (13, [.ref ca, .int (nI n2)])), wa ca cI L f2] t.heap ∧ va_K (dC, dI) vwCl (ty0 cI cO) t ∧ va_D (va_A [(h, .inr (13, [.ref ca, .int (nI n)])), wa ca cI L f] sz) [(h, .inr (13, [.ref ca, .int (nI n2)])), wa ca cI L f2]) (va_A [(h, .inr (13, [.ref ca, .int (nI n)])), wa ca cI L f] sz)) 0 0 (va_A [(h, .inr (13, [.ref ca, .int (nI n)])), wa ca cI L f] sz) := by
  refine Met.ofW (cc := cX6_add) (maxL := 2) (ret := none) (by decide) rfl ?_
  intro p e s m args below meth c s₁ B hml hv
  obtain ⟨rfl, hsz, hP, hK, hD0⟩ := hv
  have hx := B.exec
  have hb := B.bytes
  have hr := B.returns
  have hts := atoms_spec (ws := usX6_add) B.pre
  have hown : s.vm.findClass RX6 = some m.cls := findClass_of_methodNamed B.named
  have hlocks := B.notSynchronized
  subst hsz
  have hD := hD0.self (sz := s.heap.size)
  generalize hAe : va_A [(h, .inr (13, [.ref ca, .int (nI n)])), wa ca cI L f] s.heap.size = A at hD ⊢
  have hA : ∀ q : Nat, s.heap.size ≤ q → A q := fun q h => by rw [← hAe]; exact Or.inr h
  have hS : va_S A s.heap s.heap [] := va_S.rf
  have hl := lv_entry ([.ref h, .int p0]) (n := 2) (Nat.le_of_ble_eq_true rfl)
  rw [lg_entry_eq]
  generalize (lg_sl ([.ref h, .int p0]) ++ List.replicate (2 - (lg_sl ([.ref h, .int p0])).length) Slot.unset).toArray = ls at hl ⊢
  have hl : lv_has ls 2 [(0, .ref h), (1, .int p0)] := hl
  refine lv_aload_n hx hb dX6_add_0 rfl (lv_at hl 0 rfl) ?_
  refine va_get (D := (dC, dI)) (ci := 13) (v := .int (nI n)) (C := RX6) (T := TX6) (N := 2) hx hb hts inX6_add_RX6 hown hK hP 0 rfl rfl 1 (by decide) (hts (.fieldLink RX6 21 "Patchferry$Row" "size" "I") (by decide +kernel)) (fun _ h9 => h9) rfl dX6_add_1 ?_
  refine lv_aload_n hx hb dX6_add_4 rfl (lv_at hl 0 rfl) ?_
  refine va_get (D := (dC, dI)) (ci := 13) (v := .ref ca) (C := RX6) (T := TX6) (N := 2) hx hb hts inX6_add_RX6 hown hK hP 0 rfl rfl 0 (by decide) (hts (.fieldLink RX6 15 "Patchferry$Row" "cells" "[I") (by decide +kernel)) (fun _ h9 => h9) rfl dX6_add_5 ?_
  refine va_alen (D := (dC, dI)) hx hb hK hP 1 0 rfl rfl rfl dX6_add_8 ?_
  refine lv_icmp_ge (tgt := 32) hx hb dX6_add_9 (by decide) (fun c_1 => ?_) (fun c_1 => ?_)
  · have hge : L ≤ n := by
      rcases Nat.lt_or_ge n L with q | q
      · exact absurd c_1 (nI_ge q (by omega))
      · exact q
    have hPe : va_P (dC, dI) vwCl [(h, .inr (13, [.ref ca, .int (nI n)])), wa ca cI L f] _ := hP.sub [0, 1] rfl
    have hDe : va_D A [(h, .inr (13, [.ref ca, .int (nI n)])), wa ca cI L f] := hD.sub [0, 1] (by decide) rfl
    refine W.widen (k := 0) (n := 0) (by first | exact Nat.le_of_ble_eq_true rfl | omega | (dsimp only [headSpec]; omega) | (simp only [headSpec]; omega) | omega) (by first | exact Nat.le_of_ble_eq_true rfl | omega | (dsimp only [headSpec]; omega) | (simp only [headSpec]; omega) | omega) ?_
    exact W.vret hx hb hr (fun t ht hW => ⟨⟨(), rfl, trivial, _, _, hn, fun q => absurd q (by omega), by rw [ht]; exact hPe, va_K.moved hW.alike hK, hDe⟩, hS.F ht⟩) hS.2.2 dX6_add_32
  · have hlt : n < L := by
      rcases Nat.lt_or_ge n L with q | q
      · exact q
      · exact absurd (nI_le q (by omega)) c_1
    refine lv_aload_n hx hb dX6_add_12 rfl (lv_at hl 0 rfl) ?_
    refine va_get (D := (dC, dI)) (ci := 13) (v := .ref ca) (C := RX6) (T := TX6) (N := 2) hx hb hts inX6_add_RX6 hown hK hP 0 rfl rfl 0 (by decide) (hts (.fieldLink RX6 15 "Patchferry$Row" "cells" "[I") (by decide +kernel)) (fun _ h9 => h9) rfl dX6_add_13 ?_
    refine lv_aload_n hx hb dX6_add_16 rfl (lv_at hl 0 rfl) ?_
    refine va_get (D := (dC, dI)) (ci := 13) (v := .int (nI n)) (C := RX6) (T := TX6) (N := 2) hx hb hts inX6_add_RX6 hown hK hP 0 rfl rfl 1 (by decide) (hts (.fieldLink RX6 21 "Patchferry$Row" "size" "I") (by decide +kernel)) (fun _ h9 => h9) rfl dX6_add_17 ?_
    refine lv_iload_n hx hb dX6_add_20 rfl (lv_at hl 1 rfl) ?_
    refine va_iast (D := (dC, dI)) hx hb hK hP hD hS 1 0 rfl rfl (vp_in_nI hlt (by omega)) dX6_add_21 (fun H locs hP hD hS => ?_)
    have hP : va_P (dC, dI) vwCl [(h, .inr (13, [.ref ca, .int (nI n)])), wa ca cI L (upd f (nI n).toNatClampNeg p0)] H := hP
    have hD : va_D A [(h, .inr (13, [.ref ca, .int (nI n)])), wa ca cI L (upd f (nI n).toNatClampNeg p0)] := hD
    refine lv_aload_n hx hb dX6_add_22 rfl (lv_at hl 0 rfl) ?_
    refine lv_dup hx hb dX6_add_23 rfl ?_
    refine va_get (D := (dC, dI)) (ci := 13) (v := .int (nI n)) (C := RX6) (T := TX6) (N := 2) hx hb hts inX6_add_RX6 hown hK hP 0 rfl rfl 1 (by decide) (hts (.fieldLink RX6 21 "Patchferry$Row" "size" "I") (by decide +kernel)) (fun _ h9 => h9) rfl dX6_add_24 ?_
    refine lv_iconst (v := nI 1) hx hb dX6_add_27 (by decide) ?_
    refine lv_iadd hx hb dX6_add_28 ?_
    refine lv_topi (fun y_2 ey_2 => ?_)
    have h_3 : y_2 = nI (n + 1) := ey_2.trans (nI_1 n)
    subst h_3
    refine va_put (D := (dC, dI)) (ci := 13) (v := .int (nI (n + 1))) (ty := .int) (C := RX6) (T := TX6) (N := 2) hx hb hts inX6_add_RX6 tyX6 tyX6_ok nmX6 hown hK hP hD hS 0 rfl rfl 1 (by decide) (hts (.fieldLink RX6 21 "Patchferry$Row" "size" "I") (by decide +kernel)) (fun _ h9 => h9) rfl (by decide +kernel) rfl rfl (Nat.le_of_ble_eq_true rfl) dX6_add_29 (fun H locs hP hD hS => ?_)
    have hP : va_P (dC, dI) vwCl [(h, .inr (13, [.ref ca, .int (nI (n + 1))])), wa ca cI L (upd f (nI n).toNatClampNeg p0)] H := hP
    have hD : va_D A [(h, .inr (13, [.ref ca, .int (nI (n + 1))])), wa ca cI L (upd f (nI n).toNatClampNeg p0)] := hD
    have hPe : va_P (dC, dI) vwCl [(h, .inr (13, [.ref ca, .int (nI (n + 1))])), wa ca cI L (upd f (nI n).toNatClampNeg p0)] _ := hP.sub [0, 1] rfl
    have hDe : va_D A [(h, .inr (13, [.ref ca, .int (nI (n + 1))])), wa ca cI L (upd f (nI n).toNatClampNeg p0)] := hD.sub [0, 1] (by decide) rfl
    refine W.widen (k := 0) (n := 0) (by first | exact Nat.le_of_ble_eq_true rfl | omega | (dsimp only [headSpec]; omega) | (simp only [headSpec]; omega) | omega) (by first | exact Nat.le_of_ble_eq_true rfl | omega | (dsimp only [headSpec]; omega) | (simp only [headSpec]; omega) | omega) ?_
    exact W.vret hx hb hr (fun t ht hW => ⟨⟨(), rfl, trivial, _, _, hlt, fun _ => ⟨rfl, by rw [nI_clamp (by omega)]; exact pk_us, fun j hj => by rw [nI_clamp (by omega)]; exact pk_un (by omega)⟩, by rw [ht]; exact hPe, va_K.moved hW.alike hK, hDe⟩, hS.F ht⟩) hS.2.2 dX6_add_32
set_option maxHeartbeats 4000000 in
set_option maxRecDepth 100000 in
theorem c_clear (l : Launch) (dC : Nat → ClassId) (dI : Nat → Nat → Nat) (cI cO : ClassId) (sz : Nat) (h : Nat) (ca : Nat) (x : Int32) : Met l yX6_clear usX6_clear ({ frames := 0, cells := 0, slots := 0, locals := 0 }) (va_Pc [.ref h] (fun U => U.heap.size = sz ∧ va_P (dC, dI) vwCl [(h, .inr (13, [.ref ca, .int x]))] U.heap ∧ va_K (dC, dI) vwCl (ty0 cI cO) U ∧ va_D (fun _ => True) [(h, .inr (13, [.ref ca, .int x]))])) (va_Qv (fun _ : Unit => True) (fun _ t => va_P (dC, dI) vwCl [(h, .inr (13, [.ref ca, .int (nI 0)]))] t.heap ∧ va_K (dC, dI) vwCl (ty0 cI cO) t ∧ va_D (va_A [(h, .inr (13, [.ref ca, .int x]))] sz) [(h, .inr (13, [.ref ca, .int (nI 0)]))]) (va_A [(h, .inr (13, [.ref ca, .int x]))] sz)) 0 0 (va_A [(h, .inr (13, [.ref ca, .int x]))] sz) := by
  refine Met.ofW (cc := cX6_clear) (maxL := 1) (ret := none) (by decide) rfl ?_
  intro p e s m args below meth c s₁ B hml hv
  obtain ⟨rfl, hsz, hP, hK, hD0⟩ := hv
  have hx := B.exec
  have hb := B.bytes
  have hr := B.returns
  have hts := atoms_spec (ws := usX6_clear) B.pre
  have hown : s.vm.findClass RX6 = some m.cls := findClass_of_methodNamed B.named
  have hlocks := B.notSynchronized
  subst hsz
  have hD := hD0.self (sz := s.heap.size)
  generalize hAe : va_A [(h, .inr (13, [.ref ca, .int x]))] s.heap.size = A at hD ⊢
  have hA : ∀ q : Nat, s.heap.size ≤ q → A q := fun q h => by rw [← hAe]; exact Or.inr h
  have hS : va_S A s.heap s.heap [] := va_S.rf
  have hl := lv_entry ([.ref h]) (n := 1) (Nat.le_of_ble_eq_true rfl)
  rw [lg_entry_eq]
  generalize (lg_sl ([.ref h]) ++ List.replicate (1 - (lg_sl ([.ref h])).length) Slot.unset).toArray = ls at hl ⊢
  have hl : lv_has ls 1 [(0, .ref h)] := hl
  refine lv_aload_n hx hb dX6_clear_0 rfl (lv_at hl 0 rfl) ?_
  refine lv_iconst (v := nI 0) hx hb dX6_clear_1 (by decide) ?_
  refine va_put (D := (dC, dI)) (ci := 13) (v := .int (nI 0)) (ty := .int) (C := RX6) (T := TX6) (N := 2) hx hb hts inX6_clear_RX6 tyX6 tyX6_ok nmX6 hown hK hP hD hS 0 rfl rfl 1 (by decide) (hts (.fieldLink RX6 21 "Patchferry$Row" "size" "I") (by decide +kernel)) (fun _ h9 => h9) rfl (by decide +kernel) rfl rfl (Nat.le_of_ble_eq_true rfl) dX6_clear_2 (fun H locs hP hD hS => ?_)
  have hP : va_P (dC, dI) vwCl [(h, .inr (13, [.ref ca, .int (nI 0)]))] H := hP
  have hD : va_D A [(h, .inr (13, [.ref ca, .int (nI 0)]))] := hD
  have hPe : va_P (dC, dI) vwCl [(h, .inr (13, [.ref ca, .int (nI 0)]))] _ := hP.sub [0] rfl
  have hDe : va_D A [(h, .inr (13, [.ref ca, .int (nI 0)]))] := hD.sub [0] (by decide) rfl
  refine W.widen (k := 0) (n := 0) (by first | exact Nat.le_of_ble_eq_true rfl | omega | (dsimp only [headSpec]; omega) | (simp only [headSpec]; omega) | omega) (by first | exact Nat.le_of_ble_eq_true rfl | omega | (dsimp only [headSpec]; omega) | (simp only [headSpec]; omega) | omega) ?_
  exact W.vret hx hb hr (fun t ht hW => ⟨⟨(), rfl, trivial, by rw [ht]; exact hPe, va_K.moved hW.alike hK, hDe⟩, hS.F ht⟩) hS.2.2 dX6_clear_5
set_option maxHeartbeats 4000000 in
set_option maxRecDepth 100000 in
theorem c_rowinit (l : Launch) (dC : Nat → ClassId) (dI : Nat → Nat → Nat) (cI cO : ClassId) (sz : Nat) (h : Nat) (k : Nat) (hk : k ≤ 100000) : Met l yX6_init usX6_init ({ frames := 1, cells := 1, slots := k, locals := 16 }) (va_Pc [.ref h, .int (nI k)] (fun U => U.heap.size = sz ∧ va_P (dC, dI) vwCl [(h, .inr (13, [.null, .int (nI 0)]))] U.heap ∧ va_K (dC, dI) vwCl (ty0 cI cO) U ∧ va_D (fun _ => True) [(h, .inr (13, [.null, .int (nI 0)]))])) (va_Qv (fun _ : Unit => True) (fun _ t => ∃ (ca : Nat), va_P (dC, dI) vwCl [(h, .inr (13, [.ref ca, .int (nI 0)])), wa ca cI k (fun _ => 0)] t.heap ∧ va_K (dC, dI) vwCl (ty0 cI cO) t ∧ va_D (va_A [(h, .inr (13, [.null, .int (nI 0)]))] sz) [(h, .inr (13, [.ref ca, .int (nI 0)])), wa ca cI k (fun _ => 0)]) (va_A [(h, .inr (13, [.null, .int (nI 0)]))] sz)) 1 k (va_A [(h, .inr (13, [.null, .int (nI 0)]))] sz) := by
  refine Met.ofW (cc := cX6_init) (maxL := 2) (ret := none) (by decide) rfl ?_
  intro p e s m args below meth c s₁ B hml hv
  obtain ⟨rfl, hsz, hP, hK, hD0⟩ := hv
  have hx := B.exec
  have hb := B.bytes
  have hr := B.returns
  have hts := atoms_spec (ws := usX6_init) B.pre
  have hown : s.vm.findClass RX6 = some m.cls := findClass_of_methodNamed B.named
  have hlocks := B.notSynchronized
  have hin : meth.name = "<init>" := (name_of_methodNamed B.named B.method).1
  subst hsz
  have hD := hD0.self (sz := s.heap.size)
  generalize hAe : va_A [(h, .inr (13, [.null, .int (nI 0)]))] s.heap.size = A at hD ⊢
  have hA : ∀ q : Nat, s.heap.size ≤ q → A q := fun q h => by rw [← hAe]; exact Or.inr h
  have hS : va_S A s.heap s.heap [] := va_S.rf
  have hl := lv_entry ([.ref h, .int (nI k)]) (n := 2) (Nat.le_of_ble_eq_true rfl)
  rw [lg_entry_eq]
  generalize (lg_sl ([.ref h, .int (nI k)]) ++ List.replicate (2 - (lg_sl ([.ref h, .int (nI k)])).length) Slot.unset).toArray = ls at hl ⊢
  have hl : lv_has ls 2 [(0, .ref h), (1, .int (nI k))] := hl
  refine lv_aload_n hx hb dX6_init_0 rfl (lv_at hl 0 rfl) ?_
  refine W.objInit hx hb hown (hts (.methodLink RX6 3 objectInit) (by decide +kernel)) (hts (.instanceMethod objectInit) (by decide +kernel)) (hts _ (List.mem_of_getElem? (i := 3) rfl)) rfl (by rw [hml]; exact hl.1) rfl dX6_init_1 (by first | exact Nat.le_of_ble_eq_true rfl | omega | (dsimp only [headSpec]; omega) | (simp only [headSpec]; omega) | omega) (by first | exact Nat.le_of_ble_eq_true rfl | omega | (dsimp only [headSpec]; omega) | (simp only [headSpec]; omega) | omega) ?_
  refine W.eq (g2 := F0 m 4 ls []) rfl ?_
  refine lv_aload_n hx hb dX6_init_4 rfl (lv_at hl 0 rfl) ?_
  refine lv_iload_n hx hb dX6_init_5 rfl (lv_at hl 1 rfl) ?_
  refine lv_iconst (v := nI 0) hx hb dX6_init_6 (by decide) ?_
  refine va_mmax hx hb (hml.trans hl.1.symm) hown (hts (.methodLink RX6 9 Lib.Math.max.name) (by decide +kernel)) (hts (.static Lib.Math.max.name) (by decide +kernel)) (hts (.initialized "java/lang/Math") (by decide +kernel)) (hts _ (List.mem_of_getElem? (i := 7) rfl)) (by first | exact Nat.le_of_ble_eq_true rfl | omega | (dsimp only [headSpec]; omega) | (simp only [headSpec]; omega) | omega) (by first | exact Nat.le_of_ble_eq_true rfl | omega | (dsimp only [headSpec]; omega) | (simp only [headSpec]; omega) | omega) (by first | exact Nat.le_of_ble_eq_true rfl | omega | (dsimp only [headSpec]; omega) | (simp only [headSpec]; omega) | omega) (by first | exact Nat.le_of_ble_eq_true rfl | omega | (dsimp only [headSpec]; omega) | (simp only [headSpec]; omega) | omega) dX6_init_7 ?_
  rw [if_neg (nI_nlt (a := k) (b := 0) (by omega) (by omega))]
  refine va_newa (D := (dC, dI)) (atype := .int) (N' := k) (a0 := (k, .inl (fun _ => 0))) hx hb (hts (.arrayClass .int) (by decide +kernel)) rfl hK hP hD hS hA (fun _ => rfl) (nI_pos (by omega)) (nI_clamp (by omega)) (by show k * 4 ≤ 536870912; omega) (by first | exact Nat.le_of_ble_eq_true rfl | omega | (dsimp only [headSpec]; omega) | (simp only [headSpec]; omega) | omega) (by first | exact Nat.le_of_ble_eq_true rfl | omega | (dsimp only [headSpec]; omega) | (simp only [headSpec]; omega) | omega) dX6_init_10 (fun q_1 cQ_2 H hK2 hP hD hS => ?_)
  obtain rfl := uc_eq hK2 0 2 rfl rfl
  have hP : va_P (dC, dI) vwCl [(h, .inr (13, [.null, .int (nI 0)])), wa q_1 cI k (fun _ => 0)] H := hP
  have hD : va_D A [(h, .inr (13, [.null, .int (nI 0)])), wa q_1 cI k (fun _ => 0)] := hD
  refine W.widen (k := 1) (n := k) (by first | exact Nat.le_of_ble_eq_true rfl | omega | (dsimp only [headSpec]; omega) | (simp only [headSpec]; omega) | omega) (by first | exact Nat.le_of_ble_eq_true rfl | omega | (dsimp only [headSpec]; omega) | (simp only [headSpec]; omega) | omega) ?_
  refine va_putF (D := (dC, dI)) (ci := 13) (v := .ref q_1) (ty := .array .int) (C := RX6) (T := TX6) (N := 2) hx hb hts inX6_init_RX6 tyX6 tyX6_ok nmX6 hown hK hP hD hS 0 rfl rfl 0 (by decide) (hts (.fieldLink RX6 15 "Patchferry$Row" "cells" "[I") (by decide +kernel)) (fun _ h9 => h9) rfl hin rfl (by decide +kernel) rfl rfl (Nat.le_of_ble_eq_true rfl) dX6_init_12 (fun H locs hP hD hS => ?_)
  have hP : va_P (dC, dI) vwCl [(h, .inr (13, [.ref q_1, .int (nI 0)])), wa q_1 cI k (fun _ => 0)] H := hP
  have hD : va_D A [(h, .inr (13, [.ref q_1, .int (nI 0)])), wa q_1 cI k (fun _ => 0)] := hD
  have hPe : va_P (dC, dI) vwCl [(h, .inr (13, [.ref q_1, .int (nI 0)])), wa q_1 cI k (fun _ => 0)] _ := hP.sub [0, 1] rfl
  have hDe : va_D A [(h, .inr (13, [.ref q_1, .int (nI 0)])), wa q_1 cI k (fun _ => 0)] := hD.sub [0, 1] (by decide) rfl
  refine W.widen (k := 1) (n := k) (by first | exact Nat.le_of_ble_eq_true rfl | omega | (dsimp only [headSpec]; omega) | (simp only [headSpec]; omega) | omega) (by first | exact Nat.le_of_ble_eq_true rfl | omega | (dsimp only [headSpec]; omega) | (simp only [headSpec]; omega) | omega) ?_
  exact W.vret hx hb hr (fun t ht hW => ⟨⟨(), rfl, trivial, _, by rw [ht]; exact hPe, va_K.moved hW.alike hK, hDe⟩, hS.F ht⟩) hS.2.2 dX6_init_15
end
section
/-! laid by wip/whole: names, words and decode rows from the print of the task; the contracts are told in wip/whole/*.py -/
theorem dX6_strongSum_0 : decode cX6_strongSum 0 = .ok (.iload_n 1, 1) := by decide +kernel
theorem dX6_strongSum_1 : decode cX6_strongSum 1 = .ok (.istore 4, 2) := by decide +kernel
theorem dX6_strongSum_3 : decode cX6_strongSum 3 = .ok (.iconst 0, 1) := by decide +kernel
theorem dX6_strongSum_4 : decode cX6_strongSum 4 = .ok (.istore 5, 2) := by decide +kernel
theorem dX6_strongSum_6 : decode cX6_strongSum 6 = .ok (.iload 5, 2) := by decide +kernel
theorem dX6_strongSum_8 : decode cX6_strongSum 8 = .ok (.iload_n 3, 1) := by decide +kernel
theorem dX6_strongSum_9 : decode cX6_strongSum 9 = .ok (.if_icmp .ge 31, 3) := by decide +kernel
theorem dX6_strongSum_12 : decode cX6_strongSum 12 = .ok (.sipush 257, 3) := by decide +kernel
theorem dX6_strongSum_15 : decode cX6_strongSum 15 = .ok (.iload 4, 2) := by decide +kernel
theorem dX6_strongSum_17 : decode cX6_strongSum 17 = .ok (.imul, 1) := by decide +kernel
theorem dX6_strongSum_18 : decode cX6_strongSum 18 = .ok (.aload_n 0, 1) := by decide +kernel
theorem dX6_strongSum_19 : decode cX6_strongSum 19 = .ok (.iload_n 2, 1) := by decide +kernel
theorem dX6_strongSum_20 : decode cX6_strongSum 20 = .ok (.iload 5, 2) := by decide +kernel
theorem dX6_strongSum_22 : decode cX6_strongSum 22 = .ok (.iadd, 1) := by decide +kernel
theorem dX6_strongSum_23 : decode cX6_strongSum 23 = .ok (.invokevirtual 38, 3) := by decide +kernel
theorem dX6_strongSum_26 : decode cX6_strongSum 26 = .ok (.iadd, 1) := by decide +kernel
theorem dX6_strongSum_27 : decode cX6_strongSum 27 = .ok (.iconst 1, 1) := by decide +kernel
theorem dX6_strongSum_28 : decode cX6_strongSum 28 = .ok (.iadd, 1) := by decide +kernel
theorem dX6_strongSum_29 : decode cX6_strongSum 29 = .ok (.ldc 53, 2) := by decide +kernel
theorem dX6_strongSum_31 : decode cX6_strongSum 31 = .ok (.irem, 1) := by decide +kernel
theorem dX6_strongSum_32 : decode cX6_strongSum 32 = .ok (.istore 4, 2) := by decide +kernel
theorem dX6_strongSum_34 : decode cX6_strongSum 34 = .ok (.iinc 5 1, 3) := by decide +kernel
theorem dX6_strongSum_37 : decode cX6_strongSum 37 = .ok (.goto (-31), 3) := by decide +kernel
theorem dX6_strongSum_40 : decode cX6_strongSum 40 = .ok (.iload 4, 2) := by decide +kernel
theorem dX6_strongSum_42 : decode cX6_strongSum 42 = .ok (.ireturn, 1) := by decide +kernel
theorem dX6_agrees_0 : decode cX6_agrees 0 = .ok (.iconst 0, 1) := by decide +kernel
theorem dX6_agrees_1 : decode cX6_agrees 1 = .ok (.istore 5, 2) := by decide +kernel
theorem dX6_agrees_3 : decode cX6_agrees 3 = .ok (.iload 5, 2) := by decide +kernel
theorem dX6_agrees_5 : decode cX6_agrees 5 = .ok (.iload 4, 2) := by decide +kernel
theorem dX6_agrees_7 : decode cX6_agrees 7 = .ok (.if_icmp .ge 30, 3) := by decide +kernel
theorem dX6_agrees_10 : decode cX6_agrees 10 = .ok (.aload_n 0, 1) := by decide +kernel
theorem dX6_agrees_11 : decode cX6_agrees 11 = .ok (.iload_n 1, 1) := by decide +kernel
theorem dX6_agrees_12 : decode cX6_agrees 12 = .ok (.iload 5, 2) := by decide +kernel
theorem dX6_agrees_14 : decode cX6_agrees 14 = .ok (.iadd, 1) := by decide +kernel
theorem dX6_agrees_15 : decode cX6_agrees 15 = .ok (.invokevirtual 38, 3) := by decide +kernel
theorem dX6_agrees_18 : decode cX6_agrees 18 = .ok (.aload_n 2, 1) := by decide +kernel
theorem dX6_agrees_19 : decode cX6_agrees 19 = .ok (.iload_n 3, 1) := by decide +kernel
theorem dX6_agrees_20 : decode cX6_agrees 20 = .ok (.iload 5, 2) := by decide +kernel
theorem dX6_agrees_22 : decode cX6_agrees 22 = .ok (.iadd, 1) := by decide +kernel
theorem dX6_agrees_23 : decode cX6_agrees 23 = .ok (.invokevirtual 38, 3) := by decide +kernel
theorem dX6_agrees_26 : decode cX6_agrees 26 = .ok (.if_icmp .eq 5, 3) := by decide +kernel
theorem dX6_agrees_29 : decode cX6_agrees 29 = .ok (.iconst 0, 1) := by decide +kernel
theorem dX6_agrees_30 : decode cX6_agrees 30 = .ok (.ireturn, 1) := by decide +kernel
theorem dX6_agrees_31 : decode cX6_agrees 31 = .ok (.iinc 5 1, 3) := by decide +kernel
theorem dX6_agrees_34 : decode cX6_agrees 34 = .ok (.goto (-31), 3) := by decide +kernel
theorem dX6_agrees_37 : decode cX6_agrees 37 = .ok (.iconst 1, 1) := by decide +kernel
theorem dX6_agrees_38 : decode cX6_agrees 38 = .ok (.ireturn, 1) := by decide +kernel
theorem dX6_copyFrom_0 : decode cX6_copyFrom 0 = .ok (.aload_n 0, 1) := by decide +kernel
theorem dX6_copyFrom_1 : decode cX6_copyFrom 1 = .ok (.invokevirtual 35, 3) := by decide +kernel
theorem dX6_copyFrom_4 : decode cX6_copyFrom 4 = .ok (.iconst 0, 1) := by decide +kernel
theorem dX6_copyFrom_5 : decode cX6_copyFrom 5 = .ok (.istore_n 2, 1) := by decide +kernel
theorem dX6_copyFrom_6 : decode cX6_copyFrom 6 = .ok (.iload_n 2, 1) := by decide +kernel
theorem dX6_copyFrom_7 : decode cX6_copyFrom 7 = .ok (.aload_n 1, 1) := by decide +kernel
theorem dX6_copyFrom_8 : decode cX6_copyFrom 8 = .ok (.getfield 21, 3) := by decide +kernel
theorem dX6_copyFrom_11 : decode cX6_copyFrom 11 = .ok (.if_icmp .ge 18, 3) := by decide +kernel
theorem dX6_copyFrom_14 : decode cX6_copyFrom 14 = .ok (.aload_n 0, 1) := by decide +kernel
theorem dX6_copyFrom_15 : decode cX6_copyFrom 15 = .ok (.aload_n 1, 1) := by decide +kernel
theorem dX6_copyFrom_16 : decode cX6_copyFrom 16 = .ok (.iload_n 2, 1) := by decide +kernel
theorem dX6_copyFrom_17 : decode cX6_copyFrom 17 = .ok (.invokevirtual 38, 3) := by decide +kernel
theorem dX6_copyFrom_20 : decode cX6_copyFrom 20 = .ok (.invokevirtual 42, 3) := by decide +kernel
theorem dX6_copyFrom_23 : decode cX6_copyFrom 23 = .ok (.iinc 2 1, 3) := by decide +kernel
theorem dX6_copyFrom_26 : decode cX6_copyFrom 26 = .ok (.goto (-20), 3) := by decide +kernel
theorem dX6_copyFrom_29 : decode cX6_copyFrom 29 = .ok (.return_, 1) := by decide +kernel
theorem dX6_copy_0 : decode cX6_copy 0 = .ok (.new 16, 3) := by decide +kernel
theorem dX6_copy_3 : decode cX6_copy 3 = .ok (.dup, 1) := by decide +kernel
theorem dX6_copy_4 : decode cX6_copy 4 = .ok (.aload_n 0, 1) := by decide +kernel
theorem dX6_copy_5 : decode cX6_copy 5 = .ok (.getfield 21, 3) := by decide +kernel
theorem dX6_copy_8 : decode cX6_copy 8 = .ok (.invokespecial 28, 3) := by decide +kernel
theorem dX6_copy_11 : decode cX6_copy 11 = .ok (.astore_n 1, 1) := by decide +kernel
theorem dX6_copy_12 : decode cX6_copy 12 = .ok (.aload_n 1, 1) := by decide +kernel
theorem dX6_copy_13 : decode cX6_copy 13 = .ok (.aload_n 0, 1) := by decide +kernel
theorem dX6_copy_14 : decode cX6_copy 14 = .ok (.invokevirtual 31, 3) := by decide +kernel
theorem dX6_copy_17 : decode cX6_copy 17 = .ok (.aload_n 1, 1) := by decide +kernel
theorem dX6_copy_18 : decode cX6_copy 18 = .ok (.areturn, 1) := by decide +kernel
def usX6_strongSum : List Cond := .code yX6_strongSum cX6_strongSum 6 (some .int) :: ([.constant RX6 53 (1000003), .methodLink RX6 38 yX6_get, .instanceMethod yX6_get, .selects RX6 yX6_get yX6_get, .initialized RX6, .code yX6_get cX6_get 2 (some .int), .fieldLink RX6 21 "Patchferry$Row" "size" "I", .fieldLink RX6 15 "Patchferry$Row" "cells" "[I"] ++ wsX60)
def usX6_agrees : List Cond := .code yX6_agrees cX6_agrees 6 (some .boolean) :: ([.methodLink RX6 38 yX6_get, .instanceMethod yX6_get, .selects RX6 yX6_get yX6_get, .initialized RX6, .code yX6_get cX6_get 2 (some .int), .fieldLink RX6 21 "Patchferry$Row" "size" "I", .fieldLink RX6 15 "Patchferry$Row" "cells" "[I"] ++ wsX60)
def usX6_copyFrom : List Cond := .code yX6_copyFrom cX6_copyFrom 3 none :: ([.fieldLink RX6 21 "Patchferry$Row" "size" "I", .methodLink RX6 35 yX6_clear, .instanceMethod yX6_clear, .selects RX6 yX6_clear yX6_clear, .initialized RX6, .code yX6_clear cX6_clear 1 none, .methodLink RX6 38 yX6_get, .instanceMethod yX6_get, .selects RX6 yX6_get yX6_get, .code yX6_get cX6_get 2 (some .int), .fieldLink RX6 15 "Patchferry$Row" "cells" "[I", .methodLink RX6 42 yX6_add, .instanceMethod yX6_add, .selects RX6 yX6_add yX6_add, .code yX6_add cX6_add 2 none] ++ wsX60)
def usX6_copy_r1 : List Cond := [Cond.classLink RX6 16 RX6, Cond.instantiable RX6 2, Cond.initialized RX6, Cond.fieldLink RX6 21 "Patchferry$Row" "size" "I", Cond.methodLink RX6 28 yX6_init, Cond.instanceMethod yX6_init, Cond.code yX6_init cX6_init 2 none, Cond.methodLink RX6 3 objectInit, Cond.instanceMethod objectInit, Cond.code objectInit ⟨#[0xb1]⟩ 1 none, Cond.methodLink RX6 9 Lib.Math.max.name, Cond.static Lib.Math.max.name, Cond.initialized "java/lang/Math", Cond.code Lib.Math.max.name Lib.Math.max.code 2 (some .int), Cond.arrayClass .int, Cond.fieldLink RX6 15 "Patchferry$Row" "cells" "[I", Cond.methodLink RX6 31 yX6_copyFrom, Cond.instanceMethod yX6_copyFrom, Cond.selects RX6 yX6_copyFrom yX6_copyFrom, Cond.code yX6_copyFrom cX6_copyFrom 3 none]
def usX6_copy_r2 : List Cond := [Cond.methodLink RX6 35 yX6_clear, Cond.instanceMethod yX6_clear, Cond.selects RX6 yX6_clear yX6_clear, Cond.code yX6_clear cX6_clear 1 none, Cond.methodLink RX6 38 yX6_get, Cond.instanceMethod yX6_get, Cond.selects RX6 yX6_get yX6_get, Cond.code yX6_get cX6_get 2 (some .int), Cond.methodLink RX6 42 yX6_add, Cond.instanceMethod yX6_add, Cond.selects RX6 yX6_add yX6_add, Cond.code yX6_add cX6_add 2 none]
def usX6_copy : List Cond := .code yX6_copy cX6_copy 2 (some (.object "Patchferry$Row")) :: ((usX6_copy_r1 ++ (usX6_copy_r2)) ++ wsX60)
theorem inX6_copyFrom_RX6 : ∀ w ∈ u_ws RX6 TX6 2, w ∈ usX6_copyFrom := by decide +kernel
theorem inX6_copy_RX6 : ∀ w ∈ u_ws RX6 TX6 2, w ∈ usX6_copy := by decide +kernel
set_option maxRecDepth 20000 in
theorem ugX6_strongSum_X6_get : GoodIn usX6_strongSum (wsV RX6 38 RX6 yX6_get usX6_get) := goodIn_p _ [6] (by decide +kernel) (by decide +kernel)
set_option maxRecDepth 20000 in
theorem ugX6_agrees_X6_get : GoodIn usX6_agrees (wsV RX6 38 RX6 yX6_get usX6_get) := goodIn_p _ [5] (by decide +kernel) (by decide +kernel)
set_option maxRecDepth 20000 in
theorem ugX6_copyFrom_X6_get : GoodIn usX6_copyFrom (wsV RX6 38 RX6 yX6_get usX6_get) := goodIn_p _ [10] (by decide +kernel) (by decide +kernel)
set_option maxRecDepth 20000 in
theorem ugX6_copyFrom_X6_add : GoodIn usX6_copyFrom (wsV RX6 42 RX6 yX6_add usX6_add) := goodIn_p _ [15] (by decide +kernel) (by decide +kernel)
set_option maxRecDepth 20000 in
theorem ugX6_copyFrom_X6_clear : GoodIn usX6_copyFrom (wsV RX6 35 RX6 yX6_clear usX6_clear) := goodIn_p _ [6] (by decide +kernel) (by decide +kernel)
set_option maxRecDepth 20000 in
theorem ugX6_copy_X6_init : GoodIn usX6_copy (usX6_init) := goodIn_p _ [7, 10, 14] (by decide +kernel) (by decide +kernel)
set_option maxRecDepth 20000 in
theorem ugX6_copy_X6_copyFrom : GoodIn usX6_copy (wsV RX6 31 RX6 yX6_copyFrom usX6_copyFrom) := goodIn_p _ [20, 24, 28, 32] (by decide +kernel) (by decide +kernel)
set_option maxHeartbeats 4000000 in
set_option maxRecDepth 100000 in
theorem strong_loop {p : Program} {l : Launch} {e : Env} {R : Room} {s : State} {m : MethodId} {args : Array Value} {below : List Frame} {meth : Method} {c : Code} {cells slots : Nat} {Q : State → Prop} {dC : Nat → ClassId} {dI : Nat → Nat → Nat} {cI cO : ClassId} {h : Nat} {ca : Nat} {n : Nat} {L : Nat} {f : Nat → Int32} {p0 : Int32} {p1 : Int32} {p2 : Int32} {H : Heap} {locs : List Loc} (hx : p.tables.exec = Jvm.exec) (hb : c.code = cX6_strongSum) (hml : c.maxLocals = 6) (hown : s.vm.findClass RX6 = some m.cls) (hts : ∀ w ∈ usX6_strongSum, w.before args s = true) (hK : va_K (dC, dI) vwCl (ty0 cI cO) s) (hRf : 1 ≤ R.frames) (hRl : 21 ≤ R.locals) (hRc : cells + 0 ≤ R.cells) (hRs : slots + 0 ≤ R.slots) (hP : va_P (dC, dI) vwCl [(h, .inr (13, [.ref ca, .int (nI n)])), wa ca cI L f] H) (hn : n ≤ L) (hL : L ≤ 100000) (kk : ∀ (x4 : Int32) (x5 : Int32) (ls : Array Slot), lv_has ls 6 [(0, .ref h), (1, .int p0), (2, .int p1), (3, .int p2), (4, .int x4), (5, .int x5)] → W p l e R s m args below meth c H locs cells slots Q (F0 m 40 ls [])) :
    ∀ (k : Nat), ∀ (x4 : Int32) (x5 : Int32) (ls : Array Slot), (um x5 p2 < k) → lv_has ls 6 [(0, .ref h), (1, .int p0), (2, .int p1), (3, .int p2), (4, .int x4), (5, .int x5)] → W p l e R s m args below meth c H locs cells slots Q (F0 m 6 ls []) := by
  intro k
  induction k with
  | zero => intro x4 x5 ls hk  hl; omega
  | succ k ih =>
    intro x4 x5 ls hk  hl
    refine lv_iload hx hb dX6_strongSum_6 (lv_at hl 5 rfl) ?_
    refine lv_iload_n hx hb dX6_strongSum_8 rfl (lv_at hl 3 rfl) ?_
    refine lv_icmp_ge (tgt := 40) hx hb dX6_strongSum_9 (by decide) (fun c_1 => ?_) (fun c_1 => ?_)
    · exact kk x4 x5 ls  (lv_sub hl [0, 1, 2, 3, 4, 5] rfl)
    · have hm := um_lt c_1
      refine lv_sipush (v := nI 257) hx hb dX6_strongSum_12 (by decide) ?_
      refine lv_iload hx hb dX6_strongSum_15 (lv_at hl 4 rfl) ?_
      refine lv_imul hx hb dX6_strongSum_17 ?_
      refine lv_topi (fun y_2 ey_2 => ?_)
      refine lv_aload_n hx hb dX6_strongSum_18 rfl (lv_at hl 0 rfl) ?_
      refine lv_iload_n hx hb dX6_strongSum_19 rfl (lv_at hl 2 rfl) ?_
      refine lv_iload hx hb dX6_strongSum_20 (lv_at hl 5 rfl) ?_
      refine lv_iadd hx hb dX6_strongSum_22 ?_
      refine lv_topi (fun y_3 ey_3 => ?_)
      have hPc : va_P (dC, dI) vwCl [(h, .inr (13, [.ref ca, .int (nI n)])), wa ca cI L f] _ := hP.sub [0, 1] rfl
      refine uc_i (va_runV (As := [.int y_3]) (rest := [.int y_2]) ⟨hx, hb, hml, hown, hts⟩ (p_get l dC dI cI cO h ca n L f y_3 hn hL) (cwV 1 hts ugX6_strongSum_X6_get rfl rfl rfl (by decide +kernel) ⟨(by first | exact Nat.le_of_ble_eq_true rfl | omega | (dsimp only [headSpec]; omega) | (simp only [headSpec]; omega) | omega), (by first | exact Nat.le_of_ble_eq_true rfl | omega | (dsimp only [headSpec]; omega) | (simp only [headSpec]; omega) | omega)⟩) ⟨fun a U g mk q => by obtain ⟨q0, qP, qK⟩ := q; exact ⟨q0, qP, va_K.moved (u := U) (U := U.calling g mk a) (Vm.Alike.refl U.vm) qK⟩, va_recv hK hPc (ci := 13) (q0 := 0) rfl rfl, fun U hU hW => ⟨rfl, by rw [hU]; exact hPc, va_K.moved hW.alike hK⟩⟩ rfl rfl hl.1 rfl (lv_room (Nat.le_of_ble_eq_true rfl)) dX6_strongSum_23 ⟨(by first | exact Nat.le_of_ble_eq_true rfl | omega | (dsimp only [headSpec]; omega) | (simp only [headSpec]; omega) | omega), (by first | exact Nat.le_of_ble_eq_true rfl | omega | (dsimp only [headSpec]; omega) | (simp only [headSpec]; omega) | omega)⟩) (fun r1 er1 => ?_)
      refine lv_iadd hx hb dX6_strongSum_26 ?_
      refine lv_topi (fun y_4 ey_4 => ?_)
      refine lv_iconst (v := nI 1) hx hb dX6_strongSum_27 (by decide) ?_
      refine lv_iadd hx hb dX6_strongSum_28 ?_
      refine lv_topi (fun y_5 ey_5 => ?_)
      refine lv_ldc (v := nI 1000003) hx hb hown (hts (.constant RX6 53 (nI 1000003)) (by decide +kernel)) dX6_strongSum_29 ?_
      refine lv_irem hx hb dX6_strongSum_31 (by decide) ?_
      refine lv_topi (fun y_6 ey_6 => ?_)
      refine lv_istore (lv' := [(4, .int y_6), (0, .ref h), (1, .int p0), (2, .int p1), (3, .int p2), (5, .int x5)]) hx hb dX6_strongSum_32 hl (by decide) rfl (fun ls hl => ?_)
      refine lv_iinc (v := (x5 + 1)) (lv' := [(5, .int (x5 + 1)), (4, .int y_6), (0, .ref h), (1, .int p0), (2, .int p1), (3, .int p2)]) hx hb dX6_strongSum_34 hl (k := 5) rfl rfl (by decide) rfl (fun ls hl => ?_)
      refine lv_goto (tgt := 6) hx hb dX6_strongSum_37 (by decide) ?_
      exact ih _ _ ls (by omega) (lv_sub hl [2, 3, 4, 5, 1, 0] rfl)
set_option maxHeartbeats 4000000 in
set_option maxRecDepth 100000 in
theorem p_strong (l : Launch) (dC : Nat → ClassId) (dI : Nat → Nat → Nat) (cI cO : ClassId) (h : Nat) (ca : Nat) (n : Nat) (L : Nat) (f : Nat → Int32) (p0 : Int32) (p1 : Int32) (p2 : Int32) (hn : n ≤ L) (hL : L ≤ 100000) : Met l yX6_strongSum usX6_strongSum ({ frames := 1, cells := 0, slots := 0, locals := 21 }) (va_Pc [.ref h, .int p0, .int p1, .int p2] (fun U => va_P (dC, dI) vwCl [(h, .inr (13, [.ref ca, .int (nI n)])), wa ca cI L f] U.heap ∧ va_K (dC, dI) vwCl (ty0 cI cO) U)) (vp_Si (fun r => True)) 0 0 (fun _ => False) := by
  refine Met.ofW (cc := cX6_strongSum) (maxL := 6) (ret := (some .int)) (by decide) rfl ?_
  intro p e s m args below meth c s₁ B hml hv
  obtain ⟨rfl, hP, hK⟩ := hv
  have hx := B.exec
  have hb := B.bytes
  have hr := B.returns
  have hts := atoms_spec (ws := usX6_strongSum) B.pre
  have hown : s.vm.findClass RX6 = some m.cls := findClass_of_methodNamed B.named
  have hlocks := B.notSynchronized
  have hl := lv_entry ([.ref h, .int p0, .int p1, .int p2]) (n := 6) (Nat.le_of_ble_eq_true rfl)
  rw [lg_entry_eq]
  generalize (lg_sl ([.ref h, .int p0, .int p1, .int p2]) ++ List.replicate (6 - (lg_sl ([.ref h, .int p0, .int p1, .int p2])).length) Slot.unset).toArray = ls at hl ⊢
  have hl : lv_has ls 6 [(0, .ref h), (1, .int p0), (2, .int p1), (3, .int p2)] := hl
  refine lv_iload_n hx hb dX6_strongSum_0 rfl (lv_at hl 1 rfl) ?_
  refine lv_istore (lv' := [(4, .int p0), (0, .ref h), (1, .int p0), (2, .int p1), (3, .int p2)]) hx hb dX6_strongSum_1 hl (by decide) rfl (fun ls hl => ?_)
  refine lv_iconst (v := nI 0) hx hb dX6_strongSum_3 (by decide) ?_
  refine lv_istore (lv' := [(5, .int (nI 0)), (4, .int p0), (0, .ref h), (1, .int p0), (2, .int p1), (3, .int p2)]) hx hb dX6_strongSum_4 hl (by decide) rfl (fun ls hl => ?_)
  refine strong_loop hx hb hml hown hts hK (by first | exact Nat.le_of_ble_eq_true rfl | omega | (dsimp only [headSpec]; omega) | (simp only [headSpec]; omega) | omega) (by first | exact Nat.le_of_ble_eq_true rfl | omega | (dsimp only [headSpec]; omega) | (simp only [headSpec]; omega) | omega) (by first | exact Nat.le_of_ble_eq_true rfl | omega | (dsimp only [headSpec]; omega) | (simp only [headSpec]; omega) | omega) (by first | exact Nat.le_of_ble_eq_true rfl | omega | (dsimp only [headSpec]; omega) | (simp only [headSpec]; omega) | omega) hP hn hL ?_ (um (nI 0) p2 + 1) p0 (nI 0) ls (by omega) (lv_sub hl [2, 3, 4, 5, 1, 0] rfl)
  intro x4 x5 ls hl
  refine lv_iload hx hb dX6_strongSum_40 (lv_at hl 4 rfl) ?_
  exact W.iret (v := x4) hx hb hr (fun t ht hW => ⟨_, rfl, trivial, ht⟩) (fun q hq => by cases hq) dX6_strongSum_42
set_option maxHeartbeats 4000000 in
set_option maxRecDepth 100000 in
theorem agrees_loop {p : Program} {l : Launch} {e : Env} {R : Room} {s : State} {m : MethodId} {args : Array Value} {below : List Frame} {meth : Method} {c : Code} {cells slots : Nat} {Q : State → Prop} {dC : Nat → ClassId} {dI : Nat → Nat → Nat} {cI cO : ClassId} {h : Nat} {ca : Nat} {n : Nat} {L : Nat} {f : Nat → Int32} {g : Nat} {cg : Nat} {n2 : Nat} {L2 : Nat} {f2 : Nat → Int32} {p0 : Int32} {p1 : Int32} {p2 : Int32} {H : Heap} {locs : List Loc} (hx : p.tables.exec = Jvm.exec) (hb : c.code = cX6_agrees) (hml : c.maxLocals = 6) (hown : s.vm.findClass RX6 = some m.cls) (hts : ∀ w ∈ usX6_agrees, w.before args s = true) (hK : va_K (dC, dI) vwCl (ty0 cI cO) s) (hRf : 1 ≤ R.frames) (hRl : 21 ≤ R.locals) (hRc : cells + 0 ≤ R.cells) (hRs : slots + 0 ≤ R.slots) (hP : va_P (dC, dI) vwCl [(h, .inr (13, [.ref ca, .int (nI n)])), wa ca cI L f, (g, .inr (13, [.ref cg, .int (nI n2)])), wa cg cI L2 f2] H) (hn : n ≤ L) (hL : L ≤ 100000) (hn2 : n2 ≤ L2) (hL2 : L2 ≤ 100000) (kf : ∀ (ls : Array Slot), W p l e R s m args below meth c H locs cells slots Q (F0 m 29 ls [])) (kk : ∀ (x5 : Int32) (ls : Array Slot), lv_has ls 6 [(0, .ref h), (1, .int p0), (2, .ref g), (3, .int p1), (4, .int p2), (5, .int x5)] → W p l e R s m args below meth c H locs cells slots Q (F0 m 37 ls [])) :
    ∀ (k : Nat), ∀ (x5 : Int32) (ls : Array Slot), (um x5 p2 < k) → lv_has ls 6 [(0, .ref h), (1, .int p0), (2, .ref g), (3, .int p1), (4, .int p2), (5, .int x5)] → W p l e R s m args below meth c H locs cells slots Q (F0 m 3 ls []) := by
  intro k
  induction k with
  | zero => intro x5 ls hk  hl; omega
  | succ k ih =>
    intro x5 ls hk  hl
    refine lv_iload hx hb dX6_agrees_3 (lv_at hl 5 rfl) ?_
    refine lv_iload hx hb dX6_agrees_5 (lv_at hl 4 rfl) ?_
    refine lv_icmp_ge (tgt := 37) hx hb dX6_agrees_7 (by decide) (fun c_1 => ?_) (fun c_1 => ?_)
    · exact kk x5 ls  (lv_sub hl [0, 1, 2, 3, 4, 5] rfl)
    · have hm := um_lt c_1
      refine lv_aload_n hx hb dX6_agrees_10 rfl (lv_at hl 0 rfl) ?_
      refine lv_iload_n hx hb dX6_agrees_11 rfl (lv_at hl 1 rfl) ?_
      refine lv_iload hx hb dX6_agrees_12 (lv_at hl 5 rfl) ?_
      refine lv_iadd hx hb dX6_agrees_14 ?_
      refine lv_topi (fun y_2 ey_2 => ?_)
      have hPc : va_P (dC, dI) vwCl [(h, .inr (13, [.ref ca, .int (nI n)])), wa ca cI L f] _ := hP.sub [0, 1] rfl
      refine uc_i (va_runV (As := [.int y_2]) (rest := []) ⟨hx, hb, hml, hown, hts⟩ (p_get l dC dI cI cO h ca n L f y_2 hn hL) (cwV 1 hts ugX6_agrees_X6_get rfl rfl rfl (by decide +kernel) ⟨(by first | exact Nat.le_of_ble_eq_true rfl | omega | (dsimp only [headSpec]; omega) | (simp only [headSpec]; omega) | omega), (by first | exact Nat.le_of_ble_eq_true rfl | omega | (dsimp only [headSpec]; omega) | (simp only [headSpec]; omega) | omega)⟩) ⟨fun a U g mk q => by obtain ⟨q0, qP, qK⟩ := q; exact ⟨q0, qP, va_K.moved (u := U) (U := U.calling g mk a) (Vm.Alike.refl U.vm) qK⟩, va_recv hK hPc (ci := 13) (q0 := 0) rfl rfl, fun U hU hW => ⟨rfl, by rw [hU]; exact hPc, va_K.moved hW.alike hK⟩⟩ rfl rfl hl.1 rfl (lv_room (Nat.le_of_ble_eq_true rfl)) dX6_agrees_15 ⟨(by first | exact Nat.le_of_ble_eq_true rfl | omega | (dsimp only [headSpec]; omega) | (simp only [headSpec]; omega) | omega), (by first | exact Nat.le_of_ble_eq_true rfl | omega | (dsimp only [headSpec]; omega) | (simp only [headSpec]; omega) | omega)⟩) (fun r1 er1 => ?_)
      refine lv_aload_n hx hb dX6_agrees_18 rfl (lv_at hl 2 rfl) ?_
      refine lv_iload_n hx hb dX6_agrees_19 rfl (lv_at hl 3 rfl) ?_
      refine lv_iload hx hb dX6_agrees_20 (lv_at hl 5 rfl) ?_
      refine lv_iadd hx hb dX6_agrees_22 ?_
      refine lv_topi (fun y_3 ey_3 => ?_)
      have hPc : va_P (dC, dI) vwCl [(g, .inr (13, [.ref cg, .int (nI n2)])), wa cg cI L2 f2] _ := hP.sub [2, 3] rfl
      refine uc_i (va_runV (As := [.int y_3]) (rest := [.int r1]) ⟨hx, hb, hml, hown, hts⟩ (p_get l dC dI cI cO g cg n2 L2 f2 y_3 hn2 hL2) (cwV 1 hts ugX6_agrees_X6_get rfl rfl rfl (by decide +kernel) ⟨(by first | exact Nat.le_of_ble_eq_true rfl | omega | (dsimp only [headSpec]; omega) | (simp only [headSpec]; omega) | omega), (by first | exact Nat.le_of_ble_eq_true rfl | omega | (dsimp only [headSpec]; omega) | (simp only [headSpec]; omega) | omega)⟩) ⟨fun a U g mk q => by obtain ⟨q0, qP, qK⟩ := q; exact ⟨q0, qP, va_K.moved (u := U) (U := U.calling g mk a) (Vm.Alike.refl U.vm) qK⟩, va_recv hK hPc (ci := 13) (q0 := 0) rfl rfl, fun U hU hW => ⟨rfl, by rw [hU]; exact hPc, va_K.moved hW.alike hK⟩⟩ rfl rfl hl.1 rfl (lv_room (Nat.le_of_ble_eq_true rfl)) dX6_agrees_23 ⟨(by first | exact Nat.le_of_ble_eq_true rfl | omega | (dsimp only [headSpec]; omega) | (simp only [headSpec]; omega) | omega), (by first | exact Nat.le_of_ble_eq_true rfl | omega | (dsimp only [headSpec]; omega) | (simp only [headSpec]; omega) | omega)⟩) (fun r2 er2 => ?_)
      refine lv_icmp_eq (tgt := 31) hx hb dX6_agrees_26 (by decide) (fun c_4 => ?_) (fun c_4 => ?_)
      · refine lv_iinc (v := (x5 + 1)) (lv' := [(5, .int (x5 + 1)), (0, .ref h), (1, .int p0), (2, .ref g), (3, .int p1), (4, .int p2)]) hx hb dX6_agrees_31 hl (k := 5) rfl rfl (by decide) rfl (fun ls hl => ?_)
        refine lv_goto (tgt := 3) hx hb dX6_agrees_34 (by decide) ?_
        exact ih _ ls (by omega) (lv_sub hl [1, 2, 3, 4, 5, 0] rfl)
      · exact kf ls
set_option maxHeartbeats 4000000 in
set_option maxRecDepth 100000 in
theorem p_agrees (l : Launch) (dC : Nat → ClassId) (dI : Nat → Nat → Nat) (cI cO : ClassId) (h : Nat) (ca : Nat) (n : Nat) (L : Nat) (f : Nat → Int32) (g : Nat) (cg : Nat) (n2 : Nat) (L2 : Nat) (f2 : Nat → Int32) (p0 : Int32) (p1 : Int32) (p2 : Int32) (hn : n ≤ L) (hL : L ≤ 100000) (hn2 : n2 ≤ L2) (hL2 : L2 ≤ 100000) : Met l yX6_agrees usX6_agrees ({ frames := 1, cells := 0, slots := 0, locals := 21 }) (va_Pc [.ref h, .int p0, .ref g, .int p1, .int p2] (fun U => va_P (dC, dI) vwCl [(h, .inr (13, [.ref ca, .int (nI n)])), wa ca cI L f, (g, .inr (13, [.ref cg, .int (nI n2)])), wa cg cI L2 f2] U.heap ∧ va_K (dC, dI) vwCl (ty0 cI cO) U)) (vp_Si (fun r => r = 0 ∨ r = 1)) 0 0 (fun _ => False) := by
  refine Met.ofW (cc := cX6_agrees) (maxL := 6) (ret := (some .boolean)) (by decide) rfl ?_
  intro p e s m args below meth c s₁ B hml hv
  obtain ⟨rfl, hP, hK⟩ := hv
  have hx := B.exec
  have hb := B.bytes
  have hr := B.returns
  have hts := atoms_spec (ws := usX6_agrees) B.pre
  have hown : s.vm.findClass RX6 = some m.cls := findClass_of_methodNamed B.named
  have hlocks := B.notSynchronized
  have hl := lv_entry ([.ref h, .int p0, .ref g, .int p1, .int p2]) (n := 6) (Nat.le_of_ble_eq_true rfl)
  rw [lg_entry_eq]
  generalize (lg_sl ([.ref h, .int p0, .ref g, .int p1, .int p2]) ++ List.replicate (6 - (lg_sl ([.ref h, .int p0, .ref g, .int p1, .int p2])).length) Slot.unset).toArray = ls at hl ⊢
  have hl : lv_has ls 6 [(0, .ref h), (1, .int p0), (2, .ref g), (3, .int p1), (4, .int p2)] := hl
  refine lv_iconst (v := nI 0) hx hb dX6_agrees_0 (by decide) ?_
  refine lv_istore (lv' := [(5, .int (nI 0)), (0, .ref h), (1, .int p0), (2, .ref g), (3, .int p1), (4, .int p2)]) hx hb dX6_agrees_1 hl (by decide) rfl (fun ls hl => ?_)
  refine agrees_loop hx hb hml hown hts hK (by first | exact Nat.le_of_ble_eq_true rfl | omega | (dsimp only [headSpec]; omega) | (simp only [headSpec]; omega) | omega) (by first | exact Nat.le_of_ble_eq_true rfl | omega | (dsimp only [headSpec]; omega) | (simp only [headSpec]; omega) | omega) (by first | exact Nat.le_of_ble_eq_true rfl | omega | (dsimp only [headSpec]; omega) | (simp only [headSpec]; omega) | omega) (by first | exact Nat.le_of_ble_eq_true rfl | omega | (dsimp only [headSpec]; omega) | (simp only [headSpec]; omega) | omega) hP hn hL hn2 hL2 (fun ls => ?_) ?_ (um (nI 0) p2 + 1) (nI 0) ls (by omega) (lv_sub hl [1, 2, 3, 4, 5, 0] rfl)
  · refine lv_iconst (v := nI 0) hx hb dX6_agrees_29 (by decide) ?_
    exact W.zret (v := nI 0) hx hb hr rfl (fun t ht hW => ⟨_, rfl, Or.inl rfl, ht⟩) (fun q hq => by cases hq) dX6_agrees_30
  · intro x5 ls hl
    refine lv_iconst (v := nI 1) hx hb dX6_agrees_37 (by decide) ?_
    exact W.zret (v := nI 1) hx hb hr rfl (fun t ht hW => ⟨_, rfl, Or.inr rfl, ht⟩) (fun q hq => by cases hq) dX6_agrees_38
set_option maxHeartbeats 4000000 in
set_option maxRecDepth 100000 in
theorem copyFrom_loop {p : Program} {l : Launch} {e : Env} {R : Room} {s : State} {m : MethodId} {args : Array Value} {below : List Frame} {meth : Method} {c : Code} {cells slots : Nat} {Q : State → Prop} {dC : Nat → ClassId} {dI : Nat → Nat → Nat} {cI cO : ClassId} {h : Nat} {ca : Nat} {L : Nat} {g : Nat} {cg : Nat} {n2 : Nat} {L2 : Nat} {f2 : Nat → Int32} {A : Nat → Prop} {H0 : Heap} (hx : p.tables.exec = Jvm.exec) (hb : c.code = cX6_copyFrom) (hml : c.maxLocals = 3) (hown : s.vm.findClass RX6 = some m.cls) (hts : ∀ w ∈ usX6_copyFrom, w.before args s = true) (hK : va_K (dC, dI) vwCl (ty0 cI cO) s) (hRf : 1 ≤ R.frames) (hRl : 21 ≤ R.locals) (hRc : cells + 0 ≤ R.cells) (hRs : slots + 0 ≤ R.slots) (hA : ∀ q : Nat, H0.size ≤ q → A q) (hL : L ≤ 100000) (hn2 : n2 ≤ L2) (hL2 : L2 ≤ 100000) (hLn : n2 ≤ L) (kk : ∀ (f3 : Nat → Int32) (H : Heap) (locs : List Loc) (ls : Array Slot), (∀ j, j < n2 → f3 j = f2 j) → va_P (dC, dI) vwCl [(h, .inr (13, [.ref ca, .int (nI n2)])), wa ca cI L f3, (g, .inr (13, [.ref cg, .int (nI n2)])), wa cg cI L2 f2] H → va_D A [(h, .inr (13, [.ref ca, .int (nI n2)])), wa ca cI L f3, (g, .inr (13, [.ref cg, .int (nI n2)])), wa cg cI L2 f2] → va_S A H0 H locs → lv_has ls 3 [(0, .ref h), (1, .ref g)] → W p l e R s m args below meth c H locs cells slots Q (F0 m 29 ls [])) :
    ∀ (k : Nat), ∀ (i : Nat) (f3 : Nat → Int32) (H : Heap) (locs : List Loc) (ls : Array Slot), (n2 < i + k) → (i ≤ n2) → (∀ j, j < i → f3 j = f2 j) → va_P (dC, dI) vwCl [(h, .inr (13, [.ref ca, .int (nI i)])), wa ca cI L f3, (g, .inr (13, [.ref cg, .int (nI n2)])), wa cg cI L2 f2] H → va_D A [(h, .inr (13, [.ref ca, .int (nI i)])), wa ca cI L f3, (g, .inr (13, [.ref cg, .int (nI n2)])), wa cg cI L2 f2] → va_S A H0 H locs → lv_has ls 3 [(0, .ref h), (1, .ref g), (2, .int (nI i))] → W p l e R s m args below meth c H locs cells slots Q (F0 m 6 ls []) := by
  intro k
  induction k with
  | zero => intro i f3 H locs ls hk hi hv hP hD hS hl; omega
  | succ k ih =>
    intro i f3 H locs ls hk hi hv hP hD hS hl
    refine lv_iload_n hx hb dX6_copyFrom_6 rfl (lv_at hl 2 rfl) ?_
    refine lv_aload_n hx hb dX6_copyFrom_7 rfl (lv_at hl 1 rfl) ?_
    refine va_get (D := (dC, dI)) (ci := 13) (v := .int (nI n2)) (C := RX6) (T := TX6) (N := 2) hx hb hts inX6_copyFrom_RX6 hown hK hP 2 rfl rfl 1 (by decide) (hts (.fieldLink RX6 21 "Patchferry$Row" "size" "I") (by decide +kernel)) (fun _ h9 => h9) rfl dX6_copyFrom_8 ?_
    refine lv_icmp_ge (tgt := 29) hx hb dX6_copyFrom_11 (by decide) (fun c_1 => ?_) (fun c_1 => ?_)
    · obtain rfl : i = n2 := by
        rcases Nat.lt_or_ge i n2 with q | q
        · exact absurd c_1 (nI_ge q (by omega))
        · omega
      exact kk f3 H locs ls hv hP hD hS (lv_sub hl [0, 1] rfl)
    · have hlt : i < n2 := by
        rcases Nat.lt_or_ge i n2 with q | q
        · exact q
        · exact absurd (nI_le q (by omega)) c_1
      refine lv_aload_n hx hb dX6_copyFrom_14 rfl (lv_at hl 0 rfl) ?_
      refine lv_aload_n hx hb dX6_copyFrom_15 rfl (lv_at hl 1 rfl) ?_
      refine lv_iload_n hx hb dX6_copyFrom_16 rfl (lv_at hl 2 rfl) ?_
      have hPc : va_P (dC, dI) vwCl [(g, .inr (13, [.ref cg, .int (nI n2)])), wa cg cI L2 f2] _ := hP.sub [2, 3] rfl
      refine uc_i (va_runV (As := [.int (nI i)]) (rest := [.ref h]) ⟨hx, hb, hml, hown, hts⟩ (p_get l dC dI cI cO g cg n2 L2 f2 (nI i) hn2 hL2) (cwV 1 hts ugX6_copyFrom_X6_get rfl rfl rfl (by decide +kernel) ⟨(by first | exact Nat.le_of_ble_eq_true rfl | omega | (dsimp only [headSpec]; omega) | (simp only [headSpec]; omega) | omega), (by first | exact Nat.le_of_ble_eq_true rfl | omega | (dsimp only [headSpec]; omega) | (simp only [headSpec]; omega) | omega)⟩) ⟨fun a U g mk q => by obtain ⟨q0, qP, qK⟩ := q; exact ⟨q0, qP, va_K.moved (u := U) (U := U.calling g mk a) (Vm.Alike.refl U.vm) qK⟩, va_recv hK hPc (ci := 13) (q0 := 0) rfl rfl, fun U hU hW => ⟨rfl, by rw [hU]; exact hPc, va_K.moved hW.alike hK⟩⟩ rfl rfl hl.1 rfl (lv_room (Nat.le_of_ble_eq_true rfl)) dX6_copyFrom_17 ⟨(by first | exact Nat.le_of_ble_eq_true rfl | omega | (dsimp only [headSpec]; omega) | (simp only [headSpec]; omega) | omega), (by first | exact Nat.le_of_ble_eq_true rfl | omega | (dsimp only [headSpec]; omega) | (simp only [headSpec]; omega) | omega)⟩) (fun r1 er1 => ?_)
      have hPc : va_P (dC, dI) vwCl [(h, .inr (13, [.ref ca, .int (nI i)])), wa ca cI L f3] _ := hP.sub [0, 1] rfl
      have hDc : va_D _ [(h, .inr (13, [.ref ca, .int (nI i)])), wa ca cI L f3] := hD.sub [0, 1] (by decide) rfl
      have hFc := va_free (wc := [(h, .inr (13, [.ref ca, .int (nI i)])), wa ca cI L f3]) hD hS hA [0, 1] rfl
      refine va_callv (va_runV (As := [.int r1]) (rest := []) ⟨hx, hb, hml, hown, hts⟩ (c_add l dC dI cI cO H.size h ca i L f3 r1 (by omega) hL) (cwV 1 hts ugX6_copyFrom_X6_add rfl rfl rfl (by decide +kernel) ⟨(by first | exact Nat.le_of_ble_eq_true rfl | omega | (dsimp only [headSpec]; omega) | (simp only [headSpec]; omega) | omega), (by first | exact Nat.le_of_ble_eq_true rfl | omega | (dsimp only [headSpec]; omega) | (simp only [headSpec]; omega) | omega)⟩) ⟨fun a U g mk q => by obtain ⟨q0, q1, qP, qK, qD⟩ := q; exact ⟨q0, q1, qP, va_K.moved (u := U) (U := U.calling g mk a) (Vm.Alike.refl U.vm) qK, qD⟩, va_recv hK hPc (ci := 13) (q0 := 0) rfl rfl, fun U hU hW => ⟨rfl, by rw [hU], by rw [hU]; exact hPc, va_K.moved hW.alike hK, hDc.weaken (fun _ _ _ _ => trivial)⟩⟩ rfl rfl hl.1 rfl (lv_room (Nat.le_of_ble_eq_true rfl)) dX6_copyFrom_20 ⟨(by first | exact Nat.le_of_ble_eq_true rfl | omega | (dsimp only [headSpec]; omega) | (simp only [headSpec]; omega) | omega), (by first | exact Nat.le_of_ble_eq_true rfl | omega | (dsimp only [headSpec]; omega) | (simp only [headSpec]; omega) | omega)⟩) hS (fun q _ h => hFc q h) hFc (fun u t H locs ht hvm hw hB hz1 hk1 hS => ?_)
      obtain ⟨n4, f4, hn4, hf4, hP1, hK1, hD1⟩ := hB
      rw [ht] at hP1
      obtain ⟨hP, hD⟩ := va_join (wr := [(g, .inr (13, [.ref cg, .int (nI n2)])), wa cg cI L2 f2]) (w1 := [(h, .inr (13, [.ref ca, .int (nI n4)])), wa ca cI L f4]) hP hD [0, 1] [2, 3] rfl rfl (by decide) (by decide) hk1 hFc hP1 hD1
      have hP : va_P (dC, dI) vwCl [(g, .inr (13, [.ref cg, .int (nI n2)])), wa cg cI L2 f2, (h, .inr (13, [.ref ca, .int (nI n4)])), wa ca cI L f4] H := hP
      have hD : va_D A [(g, .inr (13, [.ref cg, .int (nI n2)])), wa cg cI L2 f2, (h, .inr (13, [.ref ca, .int (nI n4)])), wa ca cI L f4] := hD
      obtain ⟨rfl, hf5, hf6⟩ := hf4 (by omega)
      refine lv_iinc (v := (nI (i + 1))) (lv' := [(2, .int (nI (i + 1))), (0, .ref h), (1, .ref g)]) hx hb dX6_copyFrom_23 hl (k := 2) rfl (by rw [nI_succ]; rfl) (by decide) rfl (fun ls hl => ?_)
      refine lv_goto (tgt := 6) hx hb dX6_copyFrom_26 (by decide) ?_
      exact ih (i + 1) f4 H locs ls (by omega) (by omega) (fun j hj => (Nat.lt_or_ge j i).elim (fun q => (hf6 j q).trans (hv j q)) (fun q => by have e0 : j = i := (by omega); subst e0; exact hf5.trans (er1.1 j hlt rfl))) (hP.sub [2, 3, 0, 1] rfl) (hD.sub [2, 3, 0, 1] (by decide) rfl) hS (lv_sub hl [1, 2, 0] rfl)
set_option maxHeartbeats 4000000 in
set_option maxRecDepth 100000 in
theorem c_copyFrom (l : Launch) (dC : Nat → ClassId) (dI : Nat → Nat → Nat) (cI cO : ClassId) (sz : Nat) (h : Nat) (ca : Nat) (n : Nat) (L : Nat) (f : Nat → Int32) (g : Nat) (cg : Nat) (n2 : Nat) (L2 : Nat) (f2 : Nat → Int32) (hn : n ≤ L) (hL : L ≤ 100000) (hn2 : n2 ≤ L2) (hL2 : L2 ≤ 100000) (hLn : n2 ≤ L) : Met l yX6_copyFrom usX6_copyFrom ({ frames := 1, cells := 0, slots := 0, locals := 21 }) (va_Pc [.ref h, .ref g] (fun U => U.heap.size = sz ∧ va_P (dC, dI) vwCl [(h, .inr (13, [.ref ca, .int (nI n)])), wa ca cI L f, (g, .inr (13, [.ref cg, .int (nI n2)])), wa cg cI L2 f2] U.heap ∧ va_K (dC, dI) vwCl (ty0 cI cO) U ∧ va_D (fun _ => True) [(h, .inr (13, [.ref ca, .int (nI n)])), wa ca cI L f, (g, .inr (13, [.ref cg, .int (nI n2)])), wa cg cI L2 f2])) (va_Qv (fun _ : Unit => True) (fun _ t => ∃ (f3 : Nat → Int32), (∀ j, j < n2 → f3 j = f2 j) ∧ va_P (dC, dI) vwCl [(h, .inr (13, [.ref ca, .int (nI n2)])), wa ca cI L f3, (g, .inr (13, [.ref cg, .int (nI n2)])), wa cg cI L2 f2] t.heap ∧ va_K (dC, dI) vwCl (ty0 cI cO) t ∧ va_D (va_A [(h, .inr (13, [.ref ca, .int (nI n)])), wa ca cI L f, (g, .inr (13, [.ref cg, .int (nI n2)])), wa cg cI L2 f2] sz) [(h, .inr (13, [.ref ca, .int (nI n2)])), wa ca cI L f3, (g, .inr (13, [.ref cg, .int (nI n2)])), wa cg cI L2 f2]) (va_A [(h, .inr (13, [.ref ca, .int (nI n)])), wa ca cI L f, (g, .inr (13, [.ref cg, .int (nI n2)])), wa cg cI L2 f2] sz)) 0 0 (va_A [(h, .inr (13, [.ref ca, .int (nI n)])), wa ca cI L f, (g, .inr (13, [.ref cg, .int (nI n2)])), wa cg cI L2 f2] sz) := by
  refine Met.ofW (cc := cX6_copyFrom) (maxL := 3) (ret := none) (by decide) rfl ?_
  intro p e s m args below meth c s₁ B hml hv
  obtain ⟨rfl, hsz, hP, hK, hD0⟩ := hv
  have hx := B.exec
  have hb := B.bytes
  have hr := B.returns
  have hts := atoms_spec (ws := usX6_copyFrom) B.pre
  have hown : s.vm.findClass RX6 = some m.cls := findClass_of_methodNamed B.named
  have hlocks := B.notSynchronized
  subst hsz
  have hD := hD0.self (sz := s.heap.size)
  generalize hAe : va_A [(h, .inr (13, [.ref ca, .int (nI n)])), wa ca cI L f, (g, .inr (13, [.ref cg, .int (nI n2)])), wa cg cI L2 f2] s.heap.size = A at hD ⊢
  have hA : ∀ q : Nat, s.heap.size ≤ q → A q := fun q h => by rw [← hAe]; exact Or.inr h
  have hS : va_S A s.heap s.heap [] := va_S.rf
  have hl := lv_entry ([.ref h, .ref g]) (n := 3) (Nat.le_of_ble_eq_true rfl)
  rw [lg_entry_eq]
  generalize (lg_sl ([.ref h, .ref g]) ++ List.replicate (3 - (lg_sl ([.ref h, .ref g])).length) Slot.unset).toArray = ls at hl ⊢
  have hl : lv_has ls 3 [(0, .ref h), (1, .ref g)] := hl
  refine lv_aload_n hx hb dX6_copyFrom_0 rfl (lv_at hl 0 rfl) ?_
  have hPc : va_P (dC, dI) vwCl [(h, .inr (13, [.ref ca, .int (nI n)]))] _ := hP.sub [0] rfl
  have hDc : va_D _ [(h, .inr (13, [.ref ca, .int (nI n)]))] := hD.sub [0] (by decide) rfl
  have hFc := va_free (wc := [(h, .inr (13, [.ref ca, .int (nI n)]))]) hD hS hA [0] rfl
  refine va_callv (va_runV (As := []) (rest := []) ⟨hx, hb, hml, hown, hts⟩ (c_clear l dC dI cI cO s.heap.size h ca (nI n)) (cwV 0 hts ugX6_copyFrom_X6_clear rfl rfl rfl (by decide +kernel) ⟨(by first | exact Nat.le_of_ble_eq_true rfl | omega | (dsimp only [headSpec]; omega) | (simp only [headSpec]; omega) | omega), (by first | exact Nat.le_of_ble_eq_true rfl | omega | (dsimp only [headSpec]; omega) | (simp only [headSpec]; omega) | omega)⟩) ⟨fun a U g mk q => by obtain ⟨q0, q1, qP, qK, qD⟩ := q; exact ⟨q0, q1, qP, va_K.moved (u := U) (U := U.calling g mk a) (Vm.Alike.refl U.vm) qK, qD⟩, va_recv hK hPc (ci := 13) (q0 := 0) rfl rfl, fun U hU hW => ⟨rfl, by rw [hU], by rw [hU]; exact hPc, va_K.moved hW.alike hK, hDc.weaken (fun _ _ _ _ => trivial)⟩⟩ rfl rfl hl.1 rfl (lv_room (Nat.le_of_ble_eq_true rfl)) dX6_copyFrom_1 ⟨(by first | exact Nat.le_of_ble_eq_true rfl | omega | (dsimp only [headSpec]; omega) | (simp only [headSpec]; omega) | omega), (by first | exact Nat.le_of_ble_eq_true rfl | omega | (dsimp only [headSpec]; omega) | (simp only [headSpec]; omega) | omega)⟩) hS (fun q _ h => hFc q h) hFc (fun u t H locs ht hvm hw hB hz1 hk1 hS => ?_)
  obtain ⟨hP1, hK1, hD1⟩ := hB
  rw [ht] at hP1
  obtain ⟨hP, hD⟩ := va_join (wr := [wa ca cI L f, (g, .inr (13, [.ref cg, .int (nI n2)])), wa cg cI L2 f2]) (w1 := [(h, .inr (13, [.ref ca, .int (nI 0)]))]) hP hD [0] [1, 2, 3] rfl rfl (by decide) (by decide) hk1 hFc hP1 hD1
  have hP : va_P (dC, dI) vwCl [wa ca cI L f, (g, .inr (13, [.ref cg, .int (nI n2)])), wa cg cI L2 f2, (h, .inr (13, [.ref ca, .int (nI 0)]))] H := hP
  have hD : va_D A [wa ca cI L f, (g, .inr (13, [.ref cg, .int (nI n2)])), wa cg cI L2 f2, (h, .inr (13, [.ref ca, .int (nI 0)]))] := hD
  refine lv_iconst (v := nI 0) hx hb dX6_copyFrom_4 (by decide) ?_
  refine lv_istore_n (lv' := [(2, .int (nI 0)), (0, .ref h), (1, .ref g)]) hx hb dX6_copyFrom_5 rfl hl (by decide) rfl (fun ls hl => ?_)
  refine copyFrom_loop hx hb hml hown hts hK (by first | exact Nat.le_of_ble_eq_true rfl | omega | (dsimp only [headSpec]; omega) | (simp only [headSpec]; omega) | omega) (by first | exact Nat.le_of_ble_eq_true rfl | omega | (dsimp only [headSpec]; omega) | (simp only [headSpec]; omega) | omega) (by first | exact Nat.le_of_ble_eq_true rfl | omega | (dsimp only [headSpec]; omega) | (simp only [headSpec]; omega) | omega) (by first | exact Nat.le_of_ble_eq_true rfl | omega | (dsimp only [headSpec]; omega) | (simp only [headSpec]; omega) | omega) hA hL hn2 hL2 hLn ?_ (n2 + 1) 0 f H locs ls (by omega) (by omega) (fun j hj => absurd hj (by omega)) (hP.sub [3, 0, 1, 2] rfl) (hD.sub [3, 0, 1, 2] (by decide) rfl) hS (lv_sub hl [1, 2, 0] rfl)
  intro f3 H locs ls hv hP hD hS hl
  have hPe : va_P (dC, dI) vwCl [(h, .inr (13, [.ref ca, .int (nI n2)])), wa ca cI L f3, (g, .inr (13, [.ref cg, .int (nI n2)])), wa cg cI L2 f2] _ := hP.sub [0, 1, 2, 3] rfl
  have hDe : va_D A [(h, .inr (13, [.ref ca, .int (nI n2)])), wa ca cI L f3, (g, .inr (13, [.ref cg, .int (nI n2)])), wa cg cI L2 f2] := hD.sub [0, 1, 2, 3] (by decide) rfl
  refine W.widen (k := 0) (n := 0) (by first | exact Nat.le_of_ble_eq_true rfl | omega | (dsimp only [headSpec]; omega) | (simp only [headSpec]; omega) | omega) (by first | exact Nat.le_of_ble_eq_true rfl | omega | (dsimp only [headSpec]; omega) | (simp only [headSpec]; omega) | omega) ?_
  exact W.vret hx hb hr (fun t ht hW => ⟨⟨(), rfl, trivial, _, hv, by rw [ht]; exact hPe, va_K.moved hW.alike hK, hDe⟩, hS.F ht⟩) hS.2.2 dX6_copyFrom_29
set_option maxHeartbeats 4000000 in
set_option maxRecDepth 100000 in
theorem c_copy (l : Launch) (dC : Nat → ClassId) (dI : Nat → Nat → Nat) (cI cO : ClassId) (sz : Nat) (h : Nat) (ca : Nat) (n : Nat) (L : Nat) (f : Nat → Int32) (hn : n ≤ L) (hL : L ≤ 100000) (hn2 : n ≤ 200) : Met l yX6_copy usX6_copy ({ frames := 2, cells := 2, slots := 202, locals := 43 }) (va_Pc [.ref h] (fun U => U.heap.size = sz ∧ va_P (dC, dI) vwCl [(h, .inr (13, [.ref ca, .int (nI n)])), wa ca cI L f] U.heap ∧ va_K (dC, dI) vwCl (ty0 cI cO) U ∧ va_D (fun _ => True) [(h, .inr (13, [.ref ca, .int (nI n)])), wa ca cI L f])) (va_Qr (fun _ : Unit => True) (fun _ ra t => ∃ (cr : Nat), ∃ (f3 : Nat → Int32), (∀ j, j < n → f3 j = f j) ∧ va_P (dC, dI) vwCl [(h, .inr (13, [.ref ca, .int (nI n)])), wa ca cI L f, (ra, .inr (13, [.ref cr, .int (nI n)])), wa cr cI n f3] t.heap ∧ va_K (dC, dI) vwCl (ty0 cI cO) t ∧ va_D (va_A [(h, .inr (13, [.ref ca, .int (nI n)])), wa ca cI L f] sz) [(h, .inr (13, [.ref ca, .int (nI n)])), wa ca cI L f, (ra, .inr (13, [.ref cr, .int (nI n)])), wa cr cI n f3]) (va_A [(h, .inr (13, [.ref ca, .int (nI n)])), wa ca cI L f] sz)) 2 202 (va_A [(h, .inr (13, [.ref ca, .int (nI n)])), wa ca cI L f] sz) := by
  refine Met.ofW (cc := cX6_copy) (maxL := 2) (ret := (some (.object "Patchferry$Row"))) (by decide) rfl ?_
  intro p e s m args below meth c s₁ B hml hv
  obtain ⟨rfl, hsz, hP, hK, hD0⟩ := hv
  have hx := B.exec
  have hb := B.bytes
  have hr := B.returns
  have hts := atoms_spec (ws := usX6_copy) B.pre
  have hown : s.vm.findClass RX6 = some m.cls := findClass_of_methodNamed B.named
  have hlocks := B.notSynchronized
  subst hsz
  have hD := hD0.self (sz := s.heap.size)
  generalize hAe : va_A [(h, .inr (13, [.ref ca, .int (nI n)])), wa ca cI L f] s.heap.size = A at hD ⊢
  have hA : ∀ q : Nat, s.heap.size ≤ q → A q := fun q h => by rw [← hAe]; exact Or.inr h
  have hS : va_S A s.heap s.heap [] := va_S.rf
  have hl := lv_entry ([.ref h]) (n := 2) (Nat.le_of_ble_eq_true rfl)
  rw [lg_entry_eq]
  generalize (lg_sl ([.ref h]) ++ List.replicate (2 - (lg_sl ([.ref h])).length) Slot.unset).toArray = ls at hl ⊢
  have hl : lv_has ls 2 [(0, .ref h)] := hl
  refine va_new (ci := 13) (fs := [.null, .int (nI 0)]) (C := RX6) (T := TX6) (N := 2) hx hb hts inX6_copy_RX6 tyX6 tyX6_ok hown (hts (.classLink RX6 16 RX6) (by decide +kernel)) (hts (.instantiable RX6 2) (by decide +kernel)) (hts (.initialized RX6) (by decide +kernel)) hK hP hD hS hA rfl (fun j hj => by rcases (show j = 0 ∨ j = 1 by omega) with rfl | rfl <;> rfl) (by first | exact Nat.le_of_ble_eq_true rfl | omega | (dsimp only [headSpec]; omega) | (simp only [headSpec]; omega) | omega) (by first | exact Nat.le_of_ble_eq_true rfl | omega | (dsimp only [headSpec]; omega) | (simp only [headSpec]; omega) | omega) dX6_copy_0 (fun q_1 H hP hD hS => ?_)
  have hP : va_P (dC, dI) vwCl [(h, .inr (13, [.ref ca, .int (nI n)])), wa ca cI L f, (q_1, .inr (13, [.null, .int (nI 0)]))] H := hP
  have hD : va_D A [(h, .inr (13, [.ref ca, .int (nI n)])), wa ca cI L f, (q_1, .inr (13, [.null, .int (nI 0)]))] := hD
  refine W.widen (k := 1) (n := 2) (by first | exact Nat.le_of_ble_eq_true rfl | omega | (dsimp only [headSpec]; omega) | (simp only [headSpec]; omega) | omega) (by first | exact Nat.le_of_ble_eq_true rfl | omega | (dsimp only [headSpec]; omega) | (simp only [headSpec]; omega) | omega) ?_
  refine lv_dup hx hb dX6_copy_3 rfl ?_
  refine lv_aload_n hx hb dX6_copy_4 rfl (lv_at hl 0 rfl) ?_
  refine va_get (D := (dC, dI)) (ci := 13) (v := .int (nI n)) (C := RX6) (T := TX6) (N := 2) hx hb hts inX6_copy_RX6 hown hK hP 0 rfl rfl 1 (by decide) (hts (.fieldLink RX6 21 "Patchferry$Row" "size" "I") (by decide +kernel)) (fun _ h9 => h9) rfl dX6_copy_5 ?_
  have hPc : va_P (dC, dI) vwCl [(q_1, .inr (13, [.null, .int (nI 0)]))] _ := hP.sub [2] rfl
  have hDc : va_D _ [(q_1, .inr (13, [.null, .int (nI 0)]))] := hD.sub [2] (by decide) rfl
  have hFc := va_free (wc := [(q_1, .inr (13, [.null, .int (nI 0)]))]) hD hS hA [2] rfl
  refine va_callv (va_runI (As := [.int (nI n)]) (rest := [.ref q_1]) ⟨hx, hb, hml, hown, hts⟩ (c_rowinit l dC dI cI cO H.size q_1 n (by omega)) (cwI 1 hts ugX6_copy_X6_init rfl rfl rfl (hts (.initialized RX6) (by decide +kernel)) (hts (.methodLink RX6 28 yX6_init) (by decide +kernel)) (hts (.instanceMethod yX6_init) (by decide +kernel)) rfl (by decide +kernel) ⟨(by first | exact Nat.le_of_ble_eq_true rfl | omega | (dsimp only [headSpec]; omega) | (simp only [headSpec]; omega) | omega), (by first | exact Nat.le_of_ble_eq_true rfl | omega | (dsimp only [headSpec]; omega) | (simp only [headSpec]; omega) | omega)⟩) ⟨fun a U g mk q => by obtain ⟨q0, q1, qP, qK, qD⟩ := q; exact ⟨q0, q1, qP, va_K.moved (u := U) (U := U.calling g mk a) (Vm.Alike.refl U.vm) qK, qD⟩, fun U hU hW => ⟨rfl, by rw [hU], by rw [hU]; exact hPc, va_K.moved hW.alike hK, hDc.weaken (fun _ _ _ _ => trivial)⟩⟩ rfl rfl hl.1 rfl (lv_room (Nat.le_of_ble_eq_true rfl)) dX6_copy_8 ⟨(by first | exact Nat.le_of_ble_eq_true rfl | omega | (dsimp only [headSpec]; omega) | (simp only [headSpec]; omega) | omega), (by first | exact Nat.le_of_ble_eq_true rfl | omega | (dsimp only [headSpec]; omega) | (simp only [headSpec]; omega) | omega)⟩) hS (fun q _ h => hFc q h) hFc (fun u t H locs ht hvm hw hB hz1 hk1 hS => ?_)
  obtain ⟨cr, hP1, hK1, hD1⟩ := hB
  rw [ht] at hP1
  obtain ⟨hP, hD⟩ := va_join (wr := [(h, .inr (13, [.ref ca, .int (nI n)])), wa ca cI L f]) (w1 := [(q_1, .inr (13, [.ref cr, .int (nI 0)])), wa cr cI n (fun _ => 0)]) hP hD [2] [0, 1] rfl rfl (by decide) (by decide) hk1 hFc hP1 hD1
  have hP : va_P (dC, dI) vwCl [(h, .inr (13, [.ref ca, .int (nI n)])), wa ca cI L f, (q_1, .inr (13, [.ref cr, .int (nI 0)])), wa cr cI n (fun _ => 0)] H := hP
  have hD : va_D A [(h, .inr (13, [.ref ca, .int (nI n)])), wa ca cI L f, (q_1, .inr (13, [.ref cr, .int (nI 0)])), wa cr cI n (fun _ => 0)] := hD
  refine W.widen (k := 2) (n := 2 + n) (by first | exact Nat.le_of_ble_eq_true rfl | omega | (dsimp only [headSpec]; omega) | (simp only [headSpec]; omega) | omega) (by first | exact Nat.le_of_ble_eq_true rfl | omega | (dsimp only [headSpec]; omega) | (simp only [headSpec]; omega) | omega) ?_
  refine lv_astore_n (lv' := [(1, .ref q_1), (0, .ref h)]) hx hb dX6_copy_11 rfl hl (by decide) rfl (fun ls hl => ?_)
  refine lv_aload_n hx hb dX6_copy_12 rfl (lv_at hl 0 rfl) ?_
  refine lv_aload_n hx hb dX6_copy_13 rfl (lv_at hl 1 rfl) ?_
  have hPc : va_P (dC, dI) vwCl [(q_1, .inr (13, [.ref cr, .int (nI 0)])), wa cr cI n (fun _ => 0), (h, .inr (13, [.ref ca, .int (nI n)])), wa ca cI L f] _ := hP.sub [2, 3, 0, 1] rfl
  have hDc : va_D _ [(q_1, .inr (13, [.ref cr, .int (nI 0)])), wa cr cI n (fun _ => 0), (h, .inr (13, [.ref ca, .int (nI n)])), wa ca cI L f] := hD.sub [2, 3, 0, 1] (by decide) rfl
  have hFc := va_free (wc := [(q_1, .inr (13, [.ref cr, .int (nI 0)])), wa cr cI n (fun _ => 0), (h, .inr (13, [.ref ca, .int (nI n)])), wa ca cI L f]) hD hS hA [2, 3, 0, 1] rfl
  refine va_callv (va_runV (As := [.ref h]) (rest := []) ⟨hx, hb, hml, hown, hts⟩ (c_copyFrom l dC dI cI cO H.size q_1 cr 0 n (fun _ => 0) h ca n L f (by omega) (by omega) hn hL (Nat.le_refl n)) (cwV 1 hts ugX6_copy_X6_copyFrom rfl rfl rfl (by decide +kernel) ⟨(by first | exact Nat.le_of_ble_eq_true rfl | omega | (dsimp only [headSpec]; omega) | (simp only [headSpec]; omega) | omega), (by first | exact Nat.le_of_ble_eq_true rfl | omega | (dsimp only [headSpec]; omega) | (simp only [headSpec]; omega) | omega)⟩) ⟨fun a U g mk q => by obtain ⟨q0, q1, qP, qK, qD⟩ := q; exact ⟨q0, q1, qP, va_K.moved (u := U) (U := U.calling g mk a) (Vm.Alike.refl U.vm) qK, qD⟩, va_recv hK hPc (ci := 13) (q0 := 0) rfl rfl, fun U hU hW => ⟨rfl, by rw [hU], by rw [hU]; exact hPc, va_K.moved hW.alike hK, hDc.weaken (fun _ _ _ _ => trivial)⟩⟩ rfl rfl hl.1 rfl (lv_room (Nat.le_of_ble_eq_true rfl)) dX6_copy_14 ⟨(by first | exact Nat.le_of_ble_eq_true rfl | omega | (dsimp only [headSpec]; omega) | (simp only [headSpec]; omega) | omega), (by first | exact Nat.le_of_ble_eq_true rfl | omega | (dsimp only [headSpec]; omega) | (simp only [headSpec]; omega) | omega)⟩) hS (fun q _ h => hFc q h) hFc (fun u t H locs ht hvm hw hB hz1 hk1 hS => ?_)
  obtain ⟨f3, hf3, hP1, hK1, hD1⟩ := hB
  rw [ht] at hP1
  obtain ⟨hP, hD⟩ := va_join (wr := []) (w1 := [(q_1, .inr (13, [.ref cr, .int (nI n)])), wa cr cI n f3, (h, .inr (13, [.ref ca, .int (nI n)])), wa ca cI L f]) hP hD [2, 3, 0, 1] [] rfl rfl (by decide) (by decide) hk1 hFc hP1 hD1
  have hP : va_P (dC, dI) vwCl [(q_1, .inr (13, [.ref cr, .int (nI n)])), wa cr cI n f3, (h, .inr (13, [.ref ca, .int (nI n)])), wa ca cI L f] H := hP
  have hD : va_D A [(q_1, .inr (13, [.ref cr, .int (nI n)])), wa cr cI n f3, (h, .inr (13, [.ref ca, .int (nI n)])), wa ca cI L f] := hD
  refine lv_aload_n hx hb dX6_copy_17 rfl (lv_at hl 0 rfl) ?_
  have hPe : va_P (dC, dI) vwCl [(h, .inr (13, [.ref ca, .int (nI n)])), wa ca cI L f, (q_1, .inr (13, [.ref cr, .int (nI n)])), wa cr cI n f3] _ := hP.sub [2, 3, 0, 1] rfl
  have hDe : va_D A [(h, .inr (13, [.ref ca, .int (nI n)])), wa ca cI L f, (q_1, .inr (13, [.ref cr, .int (nI n)])), wa cr cI n f3] := hD.sub [2, 3, 0, 1] (by decide) rfl
  refine W.widen (k := 2) (n := 202) (by first | exact Nat.le_of_ble_eq_true rfl | omega | (dsimp only [headSpec]; omega) | (simp only [headSpec]; omega) | omega) (by first | exact Nat.le_of_ble_eq_true rfl | omega | (dsimp only [headSpec]; omega) | (simp only [headSpec]; omega) | omega) ?_
  exact W.aret (v := .ref q_1) hx hb hr (Or.inl ⟨_, rfl⟩) (Or.inr ⟨_, rfl⟩) (fun t ht hW => ⟨⟨(), _, rfl, trivial, _, _, hf3, by rw [ht]; exact hPe, va_K.moved hW.alike hK, hDe⟩, hS.F ht⟩) hS.2.2 dX6_copy_18
end
section
/-! laid by wip/whole: names, words and decode rows from the print of the task; the contracts are told in wip/whole/*.py -/
theorem dJxa1e45_init_da8c8_0 : decode cJxa1e45_init_da8c8 0 = .ok (.aload_n 0, 1) := by decide +kernel
theorem dJxa1e45_init_da8c8_1 : decode cJxa1e45_init_da8c8 1 = .ok (.invokespecial 1, 3) := by decide +kernel
theorem dJxa1e45_init_da8c8_4 : decode cJxa1e45_init_da8c8 4 = .ok (.return_, 1) := by decide +kernel
theorem dJxc12de_init_da8c8_0 : decode cJxc12de_init_da8c8 0 = .ok (.aload_n 0, 1) := by decide +kernel
theorem dJxc12de_init_da8c8_1 : decode cJxc12de_init_da8c8 1 = .ok (.invokespecial 1, 3) := by decide +kernel
theorem dJxc12de_init_da8c8_4 : decode cJxc12de_init_da8c8 4 = .ok (.aload_n 0, 1) := by decide +kernel
theorem dJxc12de_init_da8c8_5 : decode cJxc12de_init_da8c8 5 = .ok (.iconst 0, 1) := by decide +kernel
theorem dJxc12de_init_da8c8_6 : decode cJxc12de_init_da8c8 6 = .ok (.putfield 7, 3) := by decide +kernel
theorem dJxc12de_init_da8c8_9 : decode cJxc12de_init_da8c8 9 = .ok (.return_, 1) := by decide +kernel
theorem dJx4a65c_init_da8c8_0 : decode cJx4a65c_init_da8c8 0 = .ok (.aload_n 0, 1) := by decide +kernel
theorem dJx4a65c_init_da8c8_1 : decode cJx4a65c_init_da8c8 1 = .ok (.invokespecial 1, 3) := by decide +kernel
theorem dJx4a65c_init_da8c8_4 : decode cJx4a65c_init_da8c8 4 = .ok (.aload_n 0, 1) := by decide +kernel
theorem dJx4a65c_init_da8c8_5 : decode cJx4a65c_init_da8c8 5 = .ok (.getstatic 39, 3) := by decide +kernel
theorem dJx4a65c_init_da8c8_8 : decode cJx4a65c_init_da8c8 8 = .ok (.putfield 9, 3) := by decide +kernel
theorem dJx4a65c_init_da8c8_11 : decode cJx4a65c_init_da8c8 11 = .ok (.return_, 1) := by decide +kernel
theorem dJx4a65c_size_8abf5_0 : decode cJx4a65c_size_8abf5 0 = .ok (.aload_n 0, 1) := by decide +kernel
theorem dJx4a65c_size_8abf5_1 : decode cJx4a65c_size_8abf5 1 = .ok (.getfield 48, 3) := by decide +kernel
theorem dJx4a65c_size_8abf5_4 : decode cJx4a65c_size_8abf5 4 = .ok (.ireturn, 1) := by decide +kernel
theorem dJ3_checkIndex_8e157_0 : decode cJ3_checkIndex_8e157 0 = .ok (.iload_n 0, 1) := by decide +kernel
theorem dJ3_checkIndex_8e157_1 : decode cJ3_checkIndex_8e157 1 = .ok (.ifCond .lt 8, 3) := by decide +kernel
theorem dJ3_checkIndex_8e157_4 : decode cJ3_checkIndex_8e157 4 = .ok (.iload_n 0, 1) := by decide +kernel
theorem dJ3_checkIndex_8e157_5 : decode cJ3_checkIndex_8e157 5 = .ok (.iload_n 1, 1) := by decide +kernel
theorem dJ3_checkIndex_8e157_6 : decode cJ3_checkIndex_8e157 6 = .ok (.if_icmp .lt 10, 3) := by decide +kernel
theorem dJ3_checkIndex_8e157_9 : decode cJ3_checkIndex_8e157 9 = .ok (.aload_n 2, 1) := by decide +kernel
theorem dJ3_checkIndex_8e157_10 : decode cJ3_checkIndex_8e157 10 = .ok (.iload_n 0, 1) := by decide +kernel
theorem dJ3_checkIndex_8e157_11 : decode cJ3_checkIndex_8e157 11 = .ok (.iload_n 1, 1) := by decide +kernel
theorem dJ3_checkIndex_8e157_12 : decode cJ3_checkIndex_8e157 12 = .ok (.invokestatic 95, 3) := by decide +kernel
theorem dJ3_checkIndex_8e157_15 : decode cJ3_checkIndex_8e157 15 = .ok (.athrow, 1) := by decide +kernel
theorem dJ3_checkIndex_8e157_16 : decode cJ3_checkIndex_8e157 16 = .ok (.iload_n 0, 1) := by decide +kernel
theorem dJ3_checkIndex_8e157_17 : decode cJ3_checkIndex_8e157 17 = .ok (.ireturn, 1) := by decide +kernel
theorem dJ15_checkIndex_7cf53_0 : decode cJ15_checkIndex_7cf53 0 = .ok (.iload_n 0, 1) := by decide +kernel
theorem dJ15_checkIndex_7cf53_1 : decode cJ15_checkIndex_7cf53 1 = .ok (.iload_n 1, 1) := by decide +kernel
theorem dJ15_checkIndex_7cf53_2 : decode cJ15_checkIndex_7cf53 2 = .ok (.aconst_null, 1) := by decide +kernel
theorem dJ15_checkIndex_7cf53_3 : decode cJ15_checkIndex_7cf53 3 = .ok (.invokestatic 105, 3) := by decide +kernel
theorem dJ15_checkIndex_7cf53_6 : decode cJ15_checkIndex_7cf53 6 = .ok (.ireturn, 1) := by decide +kernel
theorem dJx4a65c_elementData_915e3_0 : decode cJx4a65c_elementData_915e3 0 = .ok (.aload_n 0, 1) := by decide +kernel
theorem dJx4a65c_elementData_915e3_1 : decode cJx4a65c_elementData_915e3 1 = .ok (.getfield 9, 3) := by decide +kernel
theorem dJx4a65c_elementData_915e3_4 : decode cJx4a65c_elementData_915e3 4 = .ok (.iload_n 1, 1) := by decide +kernel
theorem dJx4a65c_elementData_915e3_5 : decode cJx4a65c_elementData_915e3 5 = .ok (.aaload, 1) := by decide +kernel
theorem dJx4a65c_elementData_915e3_6 : decode cJx4a65c_elementData_915e3 6 = .ok (.areturn, 1) := by decide +kernel
theorem dJx4a65c_get_915e3_0 : decode cJx4a65c_get_915e3 0 = .ok (.iload_n 1, 1) := by decide +kernel
theorem dJx4a65c_get_915e3_1 : decode cJx4a65c_get_915e3 1 = .ok (.aload_n 0, 1) := by decide +kernel
theorem dJx4a65c_get_915e3_2 : decode cJx4a65c_get_915e3 2 = .ok (.getfield 48, 3) := by decide +kernel
theorem dJx4a65c_get_915e3_5 : decode cJx4a65c_get_915e3 5 = .ok (.invokestatic 118, 3) := by decide +kernel
theorem dJx4a65c_get_915e3_8 : decode cJx4a65c_get_915e3 8 = .ok (.pop, 1) := by decide +kernel
theorem dJx4a65c_get_915e3_9 : decode cJx4a65c_get_915e3 9 = .ok (.aload_n 0, 1) := by decide +kernel
theorem dJx4a65c_get_915e3_10 : decode cJx4a65c_get_915e3 10 = .ok (.iload_n 1, 1) := by decide +kernel
theorem dJx4a65c_get_915e3_11 : decode cJx4a65c_get_915e3 11 = .ok (.invokevirtual 123, 3) := by decide +kernel
theorem dJx4a65c_get_915e3_14 : decode cJx4a65c_get_915e3 14 = .ok (.areturn, 1) := by decide +kernel
theorem dJx4a65c_grow_92f84_0 : decode cJx4a65c_grow_92f84 0 = .ok (.aload_n 0, 1) := by decide +kernel
theorem dJx4a65c_grow_92f84_1 : decode cJx4a65c_grow_92f84 1 = .ok (.getfield 9, 3) := by decide +kernel
theorem dJx4a65c_grow_92f84_4 : decode cJx4a65c_grow_92f84 4 = .ok (.arraylength, 1) := by decide +kernel
theorem dJx4a65c_grow_92f84_5 : decode cJx4a65c_grow_92f84 5 = .ok (.istore_n 2, 1) := by decide +kernel
theorem dJx4a65c_grow_92f84_6 : decode cJx4a65c_grow_92f84 6 = .ok (.iload_n 2, 1) := by decide +kernel
theorem dJx4a65c_grow_92f84_7 : decode cJx4a65c_grow_92f84 7 = .ok (.ifCond .gt 13, 3) := by decide +kernel
theorem dJx4a65c_grow_92f84_10 : decode cJx4a65c_grow_92f84 10 = .ok (.aload_n 0, 1) := by decide +kernel
theorem dJx4a65c_grow_92f84_11 : decode cJx4a65c_grow_92f84 11 = .ok (.getfield 9, 3) := by decide +kernel
theorem dJx4a65c_grow_92f84_14 : decode cJx4a65c_grow_92f84 14 = .ok (.getstatic 39, 3) := by decide +kernel
theorem dJx4a65c_grow_92f84_17 : decode cJx4a65c_grow_92f84 17 = .ok (.if_acmp .eq 28, 3) := by decide +kernel
theorem dJx4a65c_grow_92f84_20 : decode cJx4a65c_grow_92f84 20 = .ok (.iload_n 2, 1) := by decide +kernel
theorem dJx4a65c_grow_92f84_21 : decode cJx4a65c_grow_92f84 21 = .ok (.iload_n 1, 1) := by decide +kernel
theorem dJx4a65c_grow_92f84_22 : decode cJx4a65c_grow_92f84 22 = .ok (.iload_n 2, 1) := by decide +kernel
theorem dJx4a65c_grow_92f84_23 : decode cJx4a65c_grow_92f84 23 = .ok (.isub, 1) := by decide +kernel
theorem dJx4a65c_grow_92f84_24 : decode cJx4a65c_grow_92f84 24 = .ok (.iload_n 2, 1) := by decide +kernel
theorem dJx4a65c_grow_92f84_25 : decode cJx4a65c_grow_92f84 25 = .ok (.iconst 1, 1) := by decide +kernel
theorem dJx4a65c_grow_92f84_26 : decode cJx4a65c_grow_92f84 26 = .ok (.ishr, 1) := by decide +kernel
theorem dJx4a65c_grow_92f84_27 : decode cJx4a65c_grow_92f84 27 = .ok (.invokestatic 73, 3) := by decide +kernel
theorem dJx4a65c_grow_92f84_30 : decode cJx4a65c_grow_92f84 30 = .ok (.istore_n 3, 1) := by decide +kernel
theorem dJx4a65c_grow_92f84_31 : decode cJx4a65c_grow_92f84 31 = .ok (.aload_n 0, 1) := by decide +kernel
theorem dJx4a65c_grow_92f84_32 : decode cJx4a65c_grow_92f84 32 = .ok (.aload_n 0, 1) := by decide +kernel
theorem dJx4a65c_grow_92f84_33 : decode cJx4a65c_grow_92f84 33 = .ok (.getfield 9, 3) := by decide +kernel
theorem dJx4a65c_grow_92f84_36 : decode cJx4a65c_grow_92f84 36 = .ok (.iload_n 3, 1) := by decide +kernel
theorem dJx4a65c_grow_92f84_37 : decode cJx4a65c_grow_92f84 37 = .ok (.invokestatic 66, 3) := by decide +kernel
theorem dJx4a65c_grow_92f84_40 : decode cJx4a65c_grow_92f84 40 = .ok (.dup_x1, 1) := by decide +kernel
theorem dJx4a65c_grow_92f84_41 : decode cJx4a65c_grow_92f84 41 = .ok (.putfield 9, 3) := by decide +kernel
theorem dJx4a65c_grow_92f84_44 : decode cJx4a65c_grow_92f84 44 = .ok (.areturn, 1) := by decide +kernel
theorem dJx4a65c_grow_92f84_45 : decode cJx4a65c_grow_92f84 45 = .ok (.aload_n 0, 1) := by decide +kernel
theorem dJx4a65c_grow_92f84_46 : decode cJx4a65c_grow_92f84 46 = .ok (.bipush 10, 2) := by decide +kernel
theorem dJx4a65c_grow_92f84_48 : decode cJx4a65c_grow_92f84 48 = .ok (.iload_n 1, 1) := by decide +kernel
theorem dJx4a65c_grow_92f84_49 : decode cJx4a65c_grow_92f84 49 = .ok (.invokestatic 79, 3) := by decide +kernel
theorem dJx4a65c_grow_92f84_52 : decode cJx4a65c_grow_92f84 52 = .ok (.anewarray 7, 3) := by decide +kernel
theorem dJx4a65c_grow_92f84_55 : decode cJx4a65c_grow_92f84 55 = .ok (.dup_x1, 1) := by decide +kernel
theorem dJx4a65c_grow_92f84_56 : decode cJx4a65c_grow_92f84 56 = .ok (.putfield 9, 3) := by decide +kernel
theorem dJx4a65c_grow_92f84_59 : decode cJx4a65c_grow_92f84 59 = .ok (.areturn, 1) := by decide +kernel
theorem dJx4a65c_grow_d5877_0 : decode cJx4a65c_grow_d5877 0 = .ok (.aload_n 0, 1) := by decide +kernel
theorem dJx4a65c_grow_d5877_1 : decode cJx4a65c_grow_d5877 1 = .ok (.aload_n 0, 1) := by decide +kernel
theorem dJx4a65c_grow_d5877_2 : decode cJx4a65c_grow_d5877 2 = .ok (.getfield 48, 3) := by decide +kernel
theorem dJx4a65c_grow_d5877_5 : decode cJx4a65c_grow_d5877 5 = .ok (.iconst 1, 1) := by decide +kernel
theorem dJx4a65c_grow_d5877_6 : decode cJx4a65c_grow_d5877 6 = .ok (.iadd, 1) := by decide +kernel
theorem dJx4a65c_grow_d5877_7 : decode cJx4a65c_grow_d5877 7 = .ok (.invokevirtual 69, 3) := by decide +kernel
theorem dJx4a65c_grow_d5877_10 : decode cJx4a65c_grow_d5877 10 = .ok (.areturn, 1) := by decide +kernel
theorem dJx4a65c_add_72be8_0 : decode cJx4a65c_add_72be8 0 = .ok (.iload_n 3, 1) := by decide +kernel
theorem dJx4a65c_add_72be8_1 : decode cJx4a65c_add_72be8 1 = .ok (.aload_n 2, 1) := by decide +kernel
theorem dJx4a65c_add_72be8_2 : decode cJx4a65c_add_72be8 2 = .ok (.arraylength, 1) := by decide +kernel
theorem dJx4a65c_add_72be8_3 : decode cJx4a65c_add_72be8 3 = .ok (.if_icmp .ne 8, 3) := by decide +kernel
theorem dJx4a65c_add_72be8_6 : decode cJx4a65c_add_72be8 6 = .ok (.aload_n 0, 1) := by decide +kernel
theorem dJx4a65c_add_72be8_7 : decode cJx4a65c_add_72be8 7 = .ok (.invokevirtual 129, 3) := by decide +kernel
theorem dJx4a65c_add_72be8_10 : decode cJx4a65c_add_72be8 10 = .ok (.astore_n 2, 1) := by decide +kernel
theorem dJx4a65c_add_72be8_11 : decode cJx4a65c_add_72be8 11 = .ok (.aload_n 2, 1) := by decide +kernel
theorem dJx4a65c_add_72be8_12 : decode cJx4a65c_add_72be8 12 = .ok (.iload_n 3, 1) := by decide +kernel
theorem dJx4a65c_add_72be8_13 : decode cJx4a65c_add_72be8 13 = .ok (.aload_n 1, 1) := by decide +kernel
theorem dJx4a65c_add_72be8_14 : decode cJx4a65c_add_72be8 14 = .ok (.aastore, 1) := by decide +kernel
theorem dJx4a65c_add_72be8_15 : decode cJx4a65c_add_72be8 15 = .ok (.aload_n 0, 1) := by decide +kernel
theorem dJx4a65c_add_72be8_16 : decode cJx4a65c_add_72be8 16 = .ok (.iload_n 3, 1) := by decide +kernel
theorem dJx4a65c_add_72be8_17 : decode cJx4a65c_add_72be8 17 = .ok (.iconst 1, 1) := by decide +kernel
theorem dJx4a65c_add_72be8_18 : decode cJx4a65c_add_72be8 18 = .ok (.iadd, 1) := by decide +kernel
theorem dJx4a65c_add_72be8_19 : decode cJx4a65c_add_72be8 19 = .ok (.putfield 48, 3) := by decide +kernel
theorem dJx4a65c_add_72be8_22 : decode cJx4a65c_add_72be8 22 = .ok (.return_, 1) := by decide +kernel
theorem dJx4a65c_add_9ea2d_0 : decode cJx4a65c_add_9ea2d 0 = .ok (.aload_n 0, 1) := by decide +kernel
theorem dJx4a65c_add_9ea2d_1 : decode cJx4a65c_add_9ea2d 1 = .ok (.dup, 1) := by decide +kernel
theorem dJx4a65c_add_9ea2d_2 : decode cJx4a65c_add_9ea2d 2 = .ok (.getfield 63, 3) := by decide +kernel
theorem dJx4a65c_add_9ea2d_5 : decode cJx4a65c_add_9ea2d 5 = .ok (.iconst 1, 1) := by decide +kernel
theorem dJx4a65c_add_9ea2d_6 : decode cJx4a65c_add_9ea2d 6 = .ok (.iadd, 1) := by decide +kernel
theorem dJx4a65c_add_9ea2d_7 : decode cJx4a65c_add_9ea2d 7 = .ok (.putfield 63, 3) := by decide +kernel
theorem dJx4a65c_add_9ea2d_10 : decode cJx4a65c_add_9ea2d 10 = .ok (.aload_n 0, 1) := by decide +kernel
theorem dJx4a65c_add_9ea2d_11 : decode cJx4a65c_add_9ea2d 11 = .ok (.aload_n 1, 1) := by decide +kernel
theorem dJx4a65c_add_9ea2d_12 : decode cJx4a65c_add_9ea2d 12 = .ok (.aload_n 0, 1) := by decide +kernel
theorem dJx4a65c_add_9ea2d_13 : decode cJx4a65c_add_9ea2d 13 = .ok (.getfield 9, 3) := by decide +kernel
theorem dJx4a65c_add_9ea2d_16 : decode cJx4a65c_add_9ea2d 16 = .ok (.aload_n 0, 1) := by decide +kernel
theorem dJx4a65c_add_9ea2d_17 : decode cJx4a65c_add_9ea2d 17 = .ok (.getfield 48, 3) := by decide +kernel
theorem dJx4a65c_add_9ea2d_20 : decode cJx4a65c_add_9ea2d 20 = .ok (.invokevirtual 131, 3) := by decide +kernel
theorem dJx4a65c_add_9ea2d_23 : decode cJx4a65c_add_9ea2d 23 = .ok (.iconst 1, 1) := by decide +kernel
theorem dJx4a65c_add_9ea2d_24 : decode cJx4a65c_add_9ea2d 24 = .ok (.ireturn, 1) := by decide +kernel
def usJxa1e45_init_da8c8 : List Cond := .code yJxa1e45_init_da8c8 cJxa1e45_init_da8c8 1 none :: ([.methodLink RJxa1e45 1 objectInit, .instanceMethod objectInit, .code objectInit ⟨#[0xb1]⟩ 1 none])
def usJxc12de_init_da8c8 : List Cond := .code yJxc12de_init_da8c8 cJxc12de_init_da8c8 1 none :: ([.fieldLink RJxc12de 7 "java/util/AbstractList" "modCount" "I", .methodLink RJxc12de 1 yJxa1e45_init_da8c8, .instanceMethod yJxa1e45_init_da8c8, .initialized RJxa1e45, .code yJxa1e45_init_da8c8 cJxa1e45_init_da8c8 1 none, .methodLink RJxa1e45 1 objectInit, .instanceMethod objectInit, .code objectInit ⟨#[0xb1]⟩ 1 none] ++ wsJx4a65c0)
def usJx4a65c_init_da8c8 : List Cond := .code yJx4a65c_init_da8c8 cJx4a65c_init_da8c8 1 none :: ([.fieldLink RJx4a65c 39 "java/util/ArrayList" "DEFAULTCAPACITY_EMPTY_ELEMENTDATA" "[Ljava/lang/Object;", .fieldLink RJx4a65c 9 "java/util/ArrayList" "elementData" "[Ljava/lang/Object;", .methodLink RJx4a65c 1 yJxc12de_init_da8c8, .instanceMethod yJxc12de_init_da8c8, .initialized RJxc12de, .code yJxc12de_init_da8c8 cJxc12de_init_da8c8 1 none, .fieldLink RJxc12de 7 "java/util/AbstractList" "modCount" "I", .methodLink RJxc12de 1 yJxa1e45_init_da8c8, .instanceMethod yJxa1e45_init_da8c8, .initialized RJxa1e45, .code yJxa1e45_init_da8c8 cJxa1e45_init_da8c8 1 none, .methodLink RJxa1e45 1 objectInit, .instanceMethod objectInit, .code objectInit ⟨#[0xb1]⟩ 1 none] ++ wsJx4a65c0)
def usJx4a65c_size_8abf5 : List Cond := .code yJx4a65c_size_8abf5 cJx4a65c_size_8abf5 1 (some .int) :: ([.fieldLink RJx4a65c 48 "java/util/ArrayList" "size" "I"] ++ wsJx4a65c0)
def usJ3_checkIndex_8e157 : List Cond := .code yJ3_checkIndex_8e157 cJ3_checkIndex_8e157 3 (some .int) :: ([])
def usJ15_checkIndex_7cf53 : List Cond := .code yJ15_checkIndex_7cf53 cJ15_checkIndex_7cf53 2 (some .int) :: ([.methodLink RJ15 105 yJ3_checkIndex_8e157, .static yJ3_checkIndex_8e157, .initialized RJ3, .code yJ3_checkIndex_8e157 cJ3_checkIndex_8e157 3 (some .int)])
def usJx4a65c_elementData_915e3 : List Cond := .code yJx4a65c_elementData_915e3 cJx4a65c_elementData_915e3 2 (some (.object "java/lang/Object")) :: ([.fieldLink RJx4a65c 9 "java/util/ArrayList" "elementData" "[Ljava/lang/Object;"] ++ wsJx4a65c0)
def usJx4a65c_get_915e3 : List Cond := .code yJx4a65c_get_915e3 cJx4a65c_get_915e3 2 (some (.object "java/lang/Object")) :: ([.fieldLink RJx4a65c 48 "java/util/ArrayList" "size" "I", .methodLink RJx4a65c 118 yJ15_checkIndex_7cf53, .static yJ15_checkIndex_7cf53, .initialized RJ15, .code yJ15_checkIndex_7cf53 cJ15_checkIndex_7cf53 2 (some .int), .methodLink RJ15 105 yJ3_checkIndex_8e157, .static yJ3_checkIndex_8e157, .initialized RJ3, .code yJ3_checkIndex_8e157 cJ3_checkIndex_8e157 3 (some .int), .methodLink RJx4a65c 123 yJx4a65c_elementData_915e3, .instanceMethod yJx4a65c_elementData_915e3, .selects RJx4a65c yJx4a65c_elementData_915e3 yJx4a65c_elementData_915e3, .initialized RJx4a65c, .code yJx4a65c_elementData_915e3 cJx4a65c_elementData_915e3 2 (some (.object "java/lang/Object")), .fieldLink RJx4a65c 9 "java/util/ArrayList" "elementData" "[Ljava/lang/Object;"] ++ wsJx4a65c0)
def usJx4a65c_grow_92f84_r1 : List Cond := [Cond.fieldLink RJx4a65c 9 "java/util/ArrayList" "elementData" "[Ljava/lang/Object;", Cond.fieldLink RJx4a65c 39 "java/util/ArrayList" "DEFAULTCAPACITY_EMPTY_ELEMENTDATA" "[Ljava/lang/Object;", Cond.methodLink RJx4a65c 79 Lib.Math.max.name, Cond.static Lib.Math.max.name, Cond.initialized "java/lang/Math", Cond.code Lib.Math.max.name Lib.Math.max.code 2 (some .int), Cond.classLink RJx4a65c 7 "java/lang/Object", Cond.methodLink RJx4a65c 73 yJ8_newLength_cabcc, Cond.static yJ8_newLength_cabcc, Cond.initialized RJ8, Cond.code yJ8_newLength_cabcc cJ8_newLength_cabcc 4 (some .int), Cond.methodLink RJ8 194 Lib.Math.max.name, Cond.constant RJ8 200 (2147483639), Cond.methodLink RJ8 201 yJ8_hugeLength_7cf53, Cond.static yJ8_hugeLength_7cf53, Cond.code yJ8_hugeLength_7cf53 cJ8_hugeLength_7cf53 3 (some .int), Cond.methodLink RJx4a65c 66 yJ7_copyOf_1904c, Cond.static yJ7_copyOf_1904c, Cond.initialized RJ7, Cond.code yJ7_copyOf_1904c cJ7_copyOf_1904c 2 (some (.array (.object "java/lang/Object")))]
def usJx4a65c_grow_92f84_r2 : List Cond := [Cond.methodLink RJ7 86 ⟨"java/lang/Object", "getClass", "()Ljava/lang/Class;"⟩, Cond.selects "[Ljava/lang/Object;" ⟨"java/lang/Object", "getClass", "()Ljava/lang/Class;"⟩ ⟨"java/lang/Object", "getClass", "()Ljava/lang/Class;"⟩, Cond.instanceMethod ⟨"java/lang/Object", "getClass", "()Ljava/lang/Class;"⟩, Cond.native ⟨"java/lang/Object", "getClass", "()Ljava/lang/Class;"⟩, Cond.methodLink RJ7 300 yJ7_copyOf_6403c, Cond.static yJ7_copyOf_6403c, Cond.code yJ7_copyOf_6403c cJ7_copyOf_6403c 4 (some (.array (.object "java/lang/Object"))), Cond.classLink RJ7 110 "[Ljava/lang/Object;", Cond.classLink RJ7 2 "java/lang/Object", Cond.methodLink RJ7 304 Lib.Math.min.name, Cond.static Lib.Math.min.name, Cond.code Lib.Math.min.name Lib.Math.min.code 2 (some .int), Cond.methodLink RJ7 150 arraycopyName, Cond.native arraycopyName, Cond.static arraycopyName, Cond.initialized "java/lang/System"]
def usJx4a65c_grow_92f84 : List Cond := .code yJx4a65c_grow_92f84 cJx4a65c_grow_92f84 4 (some (.array (.object "java/lang/Object"))) :: ((usJx4a65c_grow_92f84_r1 ++ (usJx4a65c_grow_92f84_r2)) ++ wsJx4a65c0)
def usJx4a65c_grow_d5877_r1 : List Cond := [Cond.fieldLink RJx4a65c 48 "java/util/ArrayList" "size" "I", Cond.methodLink RJx4a65c 69 yJx4a65c_grow_92f84, Cond.instanceMethod yJx4a65c_grow_92f84, Cond.selects RJx4a65c yJx4a65c_grow_92f84 yJx4a65c_grow_92f84, Cond.initialized RJx4a65c, Cond.code yJx4a65c_grow_92f84 cJx4a65c_grow_92f84 4 (some (.array (.object "java/lang/Object"))), Cond.fieldLink RJx4a65c 9 "java/util/ArrayList" "elementData" "[Ljava/lang/Object;", Cond.fieldLink RJx4a65c 39 "java/util/ArrayList" "DEFAULTCAPACITY_EMPTY_ELEMENTDATA" "[Ljava/lang/Object;", Cond.methodLink RJx4a65c 79 Lib.Math.max.name, Cond.static Lib.Math.max.name, Cond.initialized "java/lang/Math", Cond.code Lib.Math.max.name Lib.Math.max.code 2 (some .int), Cond.classLink RJx4a65c 7 "java/lang/Object", Cond.methodLink RJx4a65c 73 yJ8_newLength_cabcc, Cond.static yJ8_newLength_cabcc, Cond.initialized RJ8, Cond.code yJ8_newLength_cabcc cJ8_newLength_cabcc 4 (some .int), Cond.methodLink RJ8 194 Lib.Math.max.name, Cond.constant RJ8 200 (2147483639), Cond.methodLink RJ8 201 yJ8_hugeLength_7cf53]
def usJx4a65c_grow_d5877_r2 : List Cond := [Cond.static yJ8_hugeLength_7cf53, Cond.code yJ8_hugeLength_7cf53 cJ8_hugeLength_7cf53 3 (some .int), Cond.methodLink RJx4a65c 66 yJ7_copyOf_1904c, Cond.static yJ7_copyOf_1904c, Cond.initialized RJ7, Cond.code yJ7_copyOf_1904c cJ7_copyOf_1904c 2 (some (.array (.object "java/lang/Object"))), Cond.methodLink RJ7 86 ⟨"java/lang/Object", "getClass", "()Ljava/lang/Class;"⟩, Cond.selects "[Ljava/lang/Object;" ⟨"java/lang/Object", "getClass", "()Ljava/lang/Class;"⟩ ⟨"java/lang/Object", "getClass", "()Ljava/lang/Class;"⟩, Cond.instanceMethod ⟨"java/lang/Object", "getClass", "()Ljava/lang/Class;"⟩, Cond.native ⟨"java/lang/Object", "getClass", "()Ljava/lang/Class;"⟩, Cond.methodLink RJ7 300 yJ7_copyOf_6403c, Cond.static yJ7_copyOf_6403c, Cond.code yJ7_copyOf_6403c cJ7_copyOf_6403c 4 (some (.array (.object "java/lang/Object"))), Cond.classLink RJ7 110 "[Ljava/lang/Object;", Cond.classLink RJ7 2 "java/lang/Object", Cond.methodLink RJ7 304 Lib.Math.min.name, Cond.static Lib.Math.min.name, Cond.code Lib.Math.min.name Lib.Math.min.code 2 (some .int), Cond.methodLink RJ7 150 arraycopyName, Cond.native arraycopyName]
def usJx4a65c_grow_d5877_r3 : List Cond := [Cond.static arraycopyName, Cond.initialized "java/lang/System"]
def usJx4a65c_grow_d5877 : List Cond := .code yJx4a65c_grow_d5877 cJx4a65c_grow_d5877 1 (some (.array (.object "java/lang/Object"))) :: ((usJx4a65c_grow_d5877_r1 ++ (usJx4a65c_grow_d5877_r2 ++ (usJx4a65c_grow_d5877_r3))) ++ wsJx4a65c0)
def usJx4a65c_add_72be8_r1 : List Cond := [Cond.fieldLink RJx4a65c 48 "java/util/ArrayList" "size" "I", Cond.methodLink RJx4a65c 129 yJx4a65c_grow_d5877, Cond.instanceMethod yJx4a65c_grow_d5877, Cond.selects RJx4a65c yJx4a65c_grow_d5877 yJx4a65c_grow_d5877, Cond.initialized RJx4a65c, Cond.code yJx4a65c_grow_d5877 cJx4a65c_grow_d5877 1 (some (.array (.object "java/lang/Object"))), Cond.methodLink RJx4a65c 69 yJx4a65c_grow_92f84, Cond.instanceMethod yJx4a65c_grow_92f84, Cond.selects RJx4a65c yJx4a65c_grow_92f84 yJx4a65c_grow_92f84, Cond.code yJx4a65c_grow_92f84 cJx4a65c_grow_92f84 4 (some (.array (.object "java/lang/Object"))), Cond.fieldLink RJx4a65c 9 "java/util/ArrayList" "elementData" "[Ljava/lang/Object;", Cond.fieldLink RJx4a65c 39 "java/util/ArrayList" "DEFAULTCAPACITY_EMPTY_ELEMENTDATA" "[Ljava/lang/Object;", Cond.methodLink RJx4a65c 79 Lib.Math.max.name, Cond.static Lib.Math.max.name, Cond.initialized "java/lang/Math", Cond.code Lib.Math.max.name Lib.Math.max.code 2 (some .int), Cond.classLink RJx4a65c 7 "java/lang/Object", Cond.methodLink RJx4a65c 73 yJ8_newLength_cabcc, Cond.static yJ8_newLength_cabcc, Cond.initialized RJ8]
def usJx4a65c_add_72be8_r2 : List Cond := [Cond.code yJ8_newLength_cabcc cJ8_newLength_cabcc 4 (some .int), Cond.methodLink RJ8 194 Lib.Math.max.name, Cond.constant RJ8 200 (2147483639), Cond.methodLink RJ8 201 yJ8_hugeLength_7cf53, Cond.static yJ8_hugeLength_7cf53, Cond.code yJ8_hugeLength_7cf53 cJ8_hugeLength_7cf53 3 (some .int), Cond.methodLink RJx4a65c 66 yJ7_copyOf_1904c, Cond.static yJ7_copyOf_1904c, Cond.initialized RJ7, Cond.code yJ7_copyOf_1904c cJ7_copyOf_1904c 2 (some (.array (.object "java/lang/Object"))), Cond.methodLink RJ7 86 ⟨"java/lang/Object", "getClass", "()Ljava/lang/Class;"⟩, Cond.selects "[Ljava/lang/Object;" ⟨"java/lang/Object", "getClass", "()Ljava/lang/Class;"⟩ ⟨"java/lang/Object", "getClass", "()Ljava/lang/Class;"⟩, Cond.instanceMethod ⟨"java/lang/Object", "getClass", "()Ljava/lang/Class;"⟩, Cond.native ⟨"java/lang/Object", "getClass", "()Ljava/lang/Class;"⟩, Cond.methodLink RJ7 300 yJ7_copyOf_6403c, Cond.static yJ7_copyOf_6403c, Cond.code yJ7_copyOf_6403c cJ7_copyOf_6403c 4 (some (.array (.object "java/lang/Object"))), Cond.classLink RJ7 110 "[Ljava/lang/Object;", Cond.classLink RJ7 2 "java/lang/Object", Cond.methodLink RJ7 304 Lib.Math.min.name]
def usJx4a65c_add_72be8_r3 : List Cond := [Cond.static Lib.Math.min.name, Cond.code Lib.Math.min.name Lib.Math.min.code 2 (some .int), Cond.methodLink RJ7 150 arraycopyName, Cond.native arraycopyName, Cond.static arraycopyName, Cond.initialized "java/lang/System"]
def usJx4a65c_add_72be8 : List Cond := .code yJx4a65c_add_72be8 cJx4a65c_add_72be8 4 none :: ((usJx4a65c_add_72be8_r1 ++ (usJx4a65c_add_72be8_r2 ++ (usJx4a65c_add_72be8_r3))) ++ wsJx4a65c0)
def usJx4a65c_add_9ea2d_r1 : List Cond := [Cond.fieldLink RJx4a65c 63 "java/util/ArrayList" "modCount" "I", Cond.sameField "java/util/ArrayList" "java/util/AbstractList" "modCount" "I", Cond.fieldLink RJx4a65c 9 "java/util/ArrayList" "elementData" "[Ljava/lang/Object;", Cond.fieldLink RJx4a65c 48 "java/util/ArrayList" "size" "I", Cond.methodLink RJx4a65c 131 yJx4a65c_add_72be8, Cond.instanceMethod yJx4a65c_add_72be8, Cond.selects RJx4a65c yJx4a65c_add_72be8 yJx4a65c_add_72be8, Cond.initialized RJx4a65c, Cond.code yJx4a65c_add_72be8 cJx4a65c_add_72be8 4 none, Cond.methodLink RJx4a65c 129 yJx4a65c_grow_d5877, Cond.instanceMethod yJx4a65c_grow_d5877, Cond.selects RJx4a65c yJx4a65c_grow_d5877 yJx4a65c_grow_d5877, Cond.code yJx4a65c_grow_d5877 cJx4a65c_grow_d5877 1 (some (.array (.object "java/lang/Object"))), Cond.methodLink RJx4a65c 69 yJx4a65c_grow_92f84, Cond.instanceMethod yJx4a65c_grow_92f84, Cond.selects RJx4a65c yJx4a65c_grow_92f84 yJx4a65c_grow_92f84, Cond.code yJx4a65c_grow_92f84 cJx4a65c_grow_92f84 4 (some (.array (.object "java/lang/Object"))), Cond.fieldLink RJx4a65c 39 "java/util/ArrayList" "DEFAULTCAPACITY_EMPTY_ELEMENTDATA" "[Ljava/lang/Object;", Cond.methodLink RJx4a65c 79 Lib.Math.max.name, Cond.static Lib.Math.max.name]
def usJx4a65c_add_9ea2d_r2 : List Cond := [Cond.initialized "java/lang/Math", Cond.code Lib.Math.max.name Lib.Math.max.code 2 (some .int), Cond.classLink RJx4a65c 7 "java/lang/Object", Cond.methodLink RJx4a65c 73 yJ8_newLength_cabcc, Cond.static yJ8_newLength_cabcc, Cond.initialized RJ8, Cond.code yJ8_newLength_cabcc cJ8_newLength_cabcc 4 (some .int), Cond.methodLink RJ8 194 Lib.Math.max.name, Cond.constant RJ8 200 (2147483639), Cond.methodLink RJ8 201 yJ8_hugeLength_7cf53, Cond.static yJ8_hugeLength_7cf53, Cond.code yJ8_hugeLength_7cf53 cJ8_hugeLength_7cf53 3 (some .int), Cond.methodLink RJx4a65c 66 yJ7_copyOf_1904c, Cond.static yJ7_copyOf_1904c, Cond.initialized RJ7, Cond.code yJ7_copyOf_1904c cJ7_copyOf_1904c 2 (some (.array (.object "java/lang/Object"))), Cond.methodLink RJ7 86 ⟨"java/lang/Object", "getClass", "()Ljava/lang/Class;"⟩, Cond.selects "[Ljava/lang/Object;" ⟨"java/lang/Object", "getClass", "()Ljava/lang/Class;"⟩ ⟨"java/lang/Object", "getClass", "()Ljava/lang/Class;"⟩, Cond.instanceMethod ⟨"java/lang/Object", "getClass", "()Ljava/lang/Class;"⟩, Cond.native ⟨"java/lang/Object", "getClass", "()Ljava/lang/Class;"⟩]
def usJx4a65c_add_9ea2d_r3 : List Cond := [Cond.methodLink RJ7 300 yJ7_copyOf_6403c, Cond.static yJ7_copyOf_6403c, Cond.code yJ7_copyOf_6403c cJ7_copyOf_6403c 4 (some (.array (.object "java/lang/Object"))), Cond.classLink RJ7 110 "[Ljava/lang/Object;", Cond.classLink RJ7 2 "java/lang/Object", Cond.methodLink RJ7 304 Lib.Math.min.name, Cond.static Lib.Math.min.name, Cond.code Lib.Math.min.name Lib.Math.min.code 2 (some .int), Cond.methodLink RJ7 150 arraycopyName, Cond.native arraycopyName, Cond.static arraycopyName, Cond.initialized "java/lang/System"]
def usJx4a65c_add_9ea2d : List Cond := .code yJx4a65c_add_9ea2d cJx4a65c_add_9ea2d 2 (some .boolean) :: ((usJx4a65c_add_9ea2d_r1 ++ (usJx4a65c_add_9ea2d_r2 ++ (usJx4a65c_add_9ea2d_r3))) ++ wsJx4a65c0)
theorem inJxc12de_init_da8c8_RJx4a65c : ∀ w ∈ u_ws RJx4a65c TJx4a65c 3, w ∈ usJxc12de_init_da8c8 := by decide +kernel
theorem inJx4a65c_init_da8c8_RJx4a65c : ∀ w ∈ u_ws RJx4a65c TJx4a65c 3, w ∈ usJx4a65c_init_da8c8 := by decide +kernel
theorem inJx4a65c_size_8abf5_RJx4a65c : ∀ w ∈ u_ws RJx4a65c TJx4a65c 3, w ∈ usJx4a65c_size_8abf5 := by decide +kernel
theorem inJx4a65c_elementData_915e3_RJx4a65c : ∀ w ∈ u_ws RJx4a65c TJx4a65c 3, w ∈ usJx4a65c_elementData_915e3 := by decide +kernel
theorem inJx4a65c_get_915e3_RJx4a65c : ∀ w ∈ u_ws RJx4a65c TJx4a65c 3, w ∈ usJx4a65c_get_915e3 := by decide +kernel
theorem inJx4a65c_grow_92f84_RJx4a65c : ∀ w ∈ u_ws RJx4a65c TJx4a65c 3, w ∈ usJx4a65c_grow_92f84 := by decide +kernel
theorem inJx4a65c_grow_d5877_RJx4a65c : ∀ w ∈ u_ws RJx4a65c TJx4a65c 3, w ∈ usJx4a65c_grow_d5877 := by decide +kernel
theorem inJx4a65c_add_72be8_RJx4a65c : ∀ w ∈ u_ws RJx4a65c TJx4a65c 3, w ∈ usJx4a65c_add_72be8 := by decide +kernel
theorem inJx4a65c_add_9ea2d_RJx4a65c : ∀ w ∈ u_ws RJx4a65c TJx4a65c 3, w ∈ usJx4a65c_add_9ea2d := by decide +kernel
set_option maxRecDepth 20000 in
theorem ugJxc12de_init_da8c8_Jxa1e45_init_da8c8 : GoodIn usJxc12de_init_da8c8 (usJxa1e45_init_da8c8) := goodIn_p _ [5, 8] (by decide +kernel) (by decide +kernel)
set_option maxRecDepth 20000 in
theorem ugJx4a65c_init_da8c8_Jxc12de_init_da8c8 : GoodIn usJx4a65c_init_da8c8 (usJxc12de_init_da8c8) := goodIn_p _ [6, 11, 14] (by decide +kernel) (by decide +kernel)
set_option maxRecDepth 20000 in
theorem ugJ15_checkIndex_7cf53_J3_checkIndex_8e157 : GoodIn usJ15_checkIndex_7cf53 (va_wsS RJ15 105 yJ3_checkIndex_8e157 usJ3_checkIndex_8e157) := goodIn_p _ [4] (by decide +kernel) (by decide +kernel)
set_option maxRecDepth 20000 in
theorem ugJx4a65c_get_915e3_J15_checkIndex_7cf53 : GoodIn usJx4a65c_get_915e3 (va_wsS RJx4a65c 118 yJ15_checkIndex_7cf53 usJ15_checkIndex_7cf53) := goodIn_p _ [5, 9] (by decide +kernel) (by decide +kernel)
set_option maxRecDepth 20000 in
theorem ugJx4a65c_get_915e3_Jx4a65c_elementData_915e3 : GoodIn usJx4a65c_get_915e3 (wsV RJx4a65c 123 RJx4a65c yJx4a65c_elementData_915e3 usJx4a65c_elementData_915e3) := goodIn_p _ [14] (by decide +kernel) (by decide +kernel)
set_option maxRecDepth 20000 in
theorem ugJx4a65c_grow_d5877_Jx4a65c_grow_92f84 : GoodIn usJx4a65c_grow_d5877 (wsV RJx4a65c 69 RJx4a65c yJx4a65c_grow_92f84 usJx4a65c_grow_92f84) := goodIn_p _ [6, 12, 17, 22, 26, 33, 38] (by decide +kernel) (by decide +kernel)
set_option maxRecDepth 20000 in
theorem ugJx4a65c_add_72be8_Jx4a65c_grow_d5877 : GoodIn usJx4a65c_add_72be8 (wsV RJx4a65c 129 RJx4a65c yJx4a65c_grow_d5877 usJx4a65c_grow_d5877) := goodIn_p _ [6, 10, 16, 21, 26, 30, 37, 42] (by decide +kernel) (by decide +kernel)
set_option maxRecDepth 20000 in
theorem ugJx4a65c_add_9ea2d_Jx4a65c_add_72be8 : GoodIn usJx4a65c_add_9ea2d (wsV RJx4a65c 131 RJx4a65c yJx4a65c_add_72be8 usJx4a65c_add_72be8) := goodIn_p _ [9, 13, 17, 22, 27, 32, 36, 43, 48] (by decide +kernel) (by decide +kernel)
set_option maxHeartbeats 4000000 in
set_option maxRecDepth 100000 in
theorem p_acinit (l : Launch) (dC : Nat → ClassId) (dI : Nat → Nat → Nat) (cI cO : ClassId) (h : Nat) : Met l yJxa1e45_init_da8c8 usJxa1e45_init_da8c8 ({ frames := 1, cells := 0, slots := 0, locals := 12 }) (va_Pc [.ref h] (fun U => va_P (dC, dI) vwCl [] U.heap ∧ va_K (dC, dI) vwCl (ty0 cI cO) U)) (va_Sv (fun _ => True)) 0 0 (fun _ => False) := by
  refine Met.ofW (cc := cJxa1e45_init_da8c8) (maxL := 1) (ret := none) (by decide) rfl ?_
  intro p e s m args below meth c s₁ B hml hv
  obtain ⟨rfl, hP, hK⟩ := hv
  have hx := B.exec
  have hb := B.bytes
  have hr := B.returns
  have hts := atoms_spec (ws := usJxa1e45_init_da8c8) B.pre
  have hown : s.vm.findClass RJxa1e45 = some m.cls := findClass_of_methodNamed B.named
  have hlocks := B.notSynchronized
  have hin : meth.name = "<init>" := (name_of_methodNamed B.named B.method).1
  have hl := lv_entry ([.ref h]) (n := 1) (Nat.le_of_ble_eq_true rfl)
  rw [lg_entry_eq]
  generalize (lg_sl ([.ref h]) ++ List.replicate (1 - (lg_sl ([.ref h])).length) Slot.unset).toArray = ls at hl ⊢
  have hl : lv_has ls 1 [(0, .ref h)] := hl
  refine lv_aload_n hx hb dJxa1e45_init_da8c8_0 rfl (lv_at hl 0 rfl) ?_
  refine W.objInit hx hb hown (hts (.methodLink RJxa1e45 1 objectInit) (by decide +kernel)) (hts (.instanceMethod objectInit) (by decide +kernel)) (hts _ (List.mem_of_getElem? (i := 3) rfl)) rfl (by rw [hml]; exact hl.1) rfl dJxa1e45_init_da8c8_1 (by first | exact Nat.le_of_ble_eq_true rfl | omega | (dsimp only [headSpec]; omega) | (simp only [headSpec]; omega) | omega) (by first | exact Nat.le_of_ble_eq_true rfl | omega | (dsimp only [headSpec]; omega) | (simp only [headSpec]; omega) | omega) ?_
  refine W.eq (g2 := F0 m 4 ls []) rfl ?_
  exact W.vret hx hb hr (fun t ht hW => ⟨rfl, trivial, ht⟩) (fun q hq => by cases hq) dJxa1e45_init_da8c8_4
set_option maxHeartbeats 4000000 in
set_option maxRecDepth 100000 in
theorem c_abinit (l : Launch) (dC : Nat → ClassId) (dI : Nat → Nat → Nat) (cI cO : ClassId) (sz : Nat) (h : Nat) : Met l yJxc12de_init_da8c8 usJxc12de_init_da8c8 ({ frames := 2, cells := 0, slots := 0, locals := 32 }) (va_Pc [.ref h] (fun U => U.heap.size = sz ∧ va_P (dC, dI) vwCl [(h, .inr (6, [.int (nI 0), .null, .int (nI 0)]))] U.heap ∧ va_K (dC, dI) vwCl (ty0 cI cO) U ∧ va_D (fun _ => True) [(h, .inr (6, [.int (nI 0), .null, .int (nI 0)]))])) (va_Qv (fun _ : Unit => True) (fun _ t => va_P (dC, dI) vwCl [(h, .inr (6, [.int (nI 0), .null, .int (nI 0)]))] t.heap ∧ va_K (dC, dI) vwCl (ty0 cI cO) t ∧ va_D (va_A [(h, .inr (6, [.int (nI 0), .null, .int (nI 0)]))] sz) [(h, .inr (6, [.int (nI 0), .null, .int (nI 0)]))]) (va_A [(h, .inr (6, [.int (nI 0), .null, .int (nI 0)]))] sz)) 0 0 (va_A [(h, .inr (6, [.int (nI 0), .null, .int (nI 0)]))] sz) := by
  refine Met.ofW (cc := cJxc12de_init_da8c8) (maxL := 1) (ret := none) (by decide) rfl ?_
  intro p e s m args below meth c s₁ B hml hv
  obtain ⟨rfl, hsz, hP, hK, hD0⟩ := hv
  have hx := B.exec
  have hb := B.bytes
  have hr := B.returns
  have hts := atoms_spec (ws := usJxc12de_init_da8c8) B.pre
  have hown : s.vm.findClass RJxc12de = some m.cls := findClass_of_methodNamed B.named
  have hlocks := B.notSynchronized
  have hin : meth.name = "<init>" := (name_of_methodNamed B.named B.method).1
  subst hsz
  have hD := hD0.self (sz := s.heap.size)
  generalize hAe : va_A [(h, .inr (6, [.int (nI 0), .null, .int (nI 0)]))] s.heap.size = A at hD ⊢
  have hA : ∀ q : Nat, s.heap.size ≤ q → A q := fun q h => by rw [← hAe]; exact Or.inr h
  have hS : va_S A s.heap s.heap [] := va_S.rf
  have hl := lv_entry ([.ref h]) (n := 1) (Nat.le_of_ble_eq_true rfl)
  rw [lg_entry_eq]
  generalize (lg_sl ([.ref h]) ++ List.replicate (1 - (lg_sl ([.ref h])).length) Slot.unset).toArray = ls at hl ⊢
  have hl : lv_has ls 1 [(0, .ref h)] := hl
  refine lv_aload_n hx hb dJxc12de_init_da8c8_0 rfl (lv_at hl 0 rfl) ?_
  have hPc : va_P (dC, dI) vwCl [] _ := hP.sub [] rfl
  refine uc_v (va_runI (As := []) (rest := []) ⟨hx, hb, hml, hown, hts⟩ (p_acinit l dC dI cI cO h) (cwI 0 hts ugJxc12de_init_da8c8_Jxa1e45_init_da8c8 rfl rfl rfl (hts (.initialized RJxa1e45) (by decide +kernel)) (hts (.methodLink RJxc12de 1 yJxa1e45_init_da8c8) (by decide +kernel)) (hts (.instanceMethod yJxa1e45_init_da8c8) (by decide +kernel)) rfl (by decide +kernel) ⟨(by first | exact Nat.le_of_ble_eq_true rfl | omega | (dsimp only [headSpec]; omega) | (simp only [headSpec]; omega) | omega), (by first | exact Nat.le_of_ble_eq_true rfl | omega | (dsimp only [headSpec]; omega) | (simp only [headSpec]; omega) | omega)⟩) ⟨fun a U g mk q => by obtain ⟨q0, qP, qK⟩ := q; exact ⟨q0, qP, va_K.moved (u := U) (U := U.calling g mk a) (Vm.Alike.refl U.vm) qK⟩, fun U hU hW => ⟨rfl, by rw [hU]; exact hPc, va_K.moved hW.alike hK⟩⟩ rfl rfl hl.1 rfl (lv_room (Nat.le_of_ble_eq_true rfl)) dJxc12de_init_da8c8_1 ⟨(by first | exact Nat.le_of_ble_eq_true rfl | omega | (dsimp only [headSpec]; omega) | (simp only [headSpec]; omega) | omega), (by first | exact Nat.le_of_ble_eq_true rfl | omega | (dsimp only [headSpec]; omega) | (simp only [headSpec]; omega) | omega)⟩) ?_
  refine lv_aload_n hx hb dJxc12de_init_da8c8_4 rfl (lv_at hl 0 rfl) ?_
  refine lv_iconst (v := nI 0) hx hb dJxc12de_init_da8c8_5 (by decide) ?_
  refine va_put (D := (dC, dI)) (ci := 6) (v := .int (nI 0)) (ty := .int) (C := RJx4a65c) (T := TJx4a65c) (N := 3) hx hb hts inJxc12de_init_da8c8_RJx4a65c tyJx4a65c tyJx4a65c_ok nmJx4a65c hown hK hP hD hS 0 rfl rfl 0 (by decide) (hts (.fieldLink RJxc12de 7 "java/util/AbstractList" "modCount" "I") (by decide +kernel)) (fun _ h9 => h9) rfl (by decide +kernel) rfl rfl (Nat.le_of_ble_eq_true rfl) dJxc12de_init_da8c8_6 (fun H locs hP hD hS => ?_)
  have hP : va_P (dC, dI) vwCl [(h, .inr (6, [.int (nI 0), .null, .int (nI 0)]))] H := hP
  have hD : va_D A [(h, .inr (6, [.int (nI 0), .null, .int (nI 0)]))] := hD
  have hPe : va_P (dC, dI) vwCl [(h, .inr (6, [.int (nI 0), .null, .int (nI 0)]))] _ := hP.sub [0] rfl
  have hDe : va_D A [(h, .inr (6, [.int (nI 0), .null, .int (nI 0)]))] := hD.sub [0] (by decide) rfl
  refine W.widen (k := 0) (n := 0) (by first | exact Nat.le_of_ble_eq_true rfl | omega | (dsimp only [headSpec]; omega) | (simp only [headSpec]; omega) | omega) (by first | exact Nat.le_of_ble_eq_true rfl | omega | (dsimp only [headSpec]; omega) | (simp only [headSpec]; omega) | omega) ?_
  exact W.vret hx hb hr (fun t ht hW => ⟨⟨(), rfl, trivial, by rw [ht]; exact hPe, va_K.moved hW.alike hK, hDe⟩, hS.F ht⟩) hS.2.2 dJxc12de_init_da8c8_9
set_option maxHeartbeats 4000000 in
set_option maxRecDepth 100000 in
theorem c_alinit (l : Launch) (dC : Nat → ClassId) (dI : Nat → Nat → Nat) (cI cO : ClassId) (z0 : Nat) (sz : Nat) (h : Nat) : Met l yJx4a65c_init_da8c8 usJx4a65c_init_da8c8 ({ frames := 3, cells := 0, slots := 0, locals := 52 }) (va_Pc [.ref h] (fun U => U.heap.size = sz ∧ va_P (dC, dI) vwCl [(h, .inr (6, [.int (nI 0), .null, .int (nI 0)]))] U.heap ∧ va_K (dC, dI) vwCl (ty0 cI cO) U ∧ va_D (fun _ => True) [(h, .inr (6, [.int (nI 0), .null, .int (nI 0)]))] ∧ uz z0 (va_A [(h, .inr (6, [.int (nI 0), .null, .int (nI 0)]))] sz) U)) (va_Qv (fun _ : Unit => True) (fun _ t => va_P (dC, dI) vwCl [(h, .inr (6, [.int (nI 0), .ref z0, .int (nI 0)]))] t.heap ∧ va_K (dC, dI) vwCl (ty0 cI cO) t ∧ va_D (va_A [(h, .inr (6, [.int (nI 0), .null, .int (nI 0)]))] sz) [(h, .inr (6, [.int (nI 0), .ref z0, .int (nI 0)]))]) (va_A [(h, .inr (6, [.int (nI 0), .null, .int (nI 0)]))] sz)) 0 0 (va_A [(h, .inr (6, [.int (nI 0), .null, .int (nI 0)]))] sz) := by
  refine Met.ofW (cc := cJx4a65c_init_da8c8) (maxL := 1) (ret := none) (by decide) rfl ?_
  intro p e s m args below meth c s₁ B hml hv
  obtain ⟨rfl, hsz, hP, hK, hD0, hZ⟩ := hv
  have hx := B.exec
  have hb := B.bytes
  have hr := B.returns
  have hts := atoms_spec (ws := usJx4a65c_init_da8c8) B.pre
  have hown : s.vm.findClass RJx4a65c = some m.cls := findClass_of_methodNamed B.named
  have hlocks := B.notSynchronized
  have hin : meth.name = "<init>" := (name_of_methodNamed B.named B.method).1
  subst hsz
  have hD := hD0.self (sz := s.heap.size)
  generalize hAe : va_A [(h, .inr (6, [.int (nI 0), .null, .int (nI 0)]))] s.heap.size = A at hD hZ ⊢
  have hA : ∀ q : Nat, s.heap.size ≤ q → A q := fun q h => by rw [← hAe]; exact Or.inr h
  have hS : va_S A s.heap s.heap [] := va_S.rf
  obtain ⟨hZs, ⟨fz, hZt⟩, hZo, hZr, hZi, hZc⟩ := id hZ
  have hl := lv_entry ([.ref h]) (n := 1) (Nat.le_of_ble_eq_true rfl)
  rw [lg_entry_eq]
  generalize (lg_sl ([.ref h]) ++ List.replicate (1 - (lg_sl ([.ref h])).length) Slot.unset).toArray = ls at hl ⊢
  have hl : lv_has ls 1 [(0, .ref h)] := hl
  refine lv_aload_n hx hb dJx4a65c_init_da8c8_0 rfl (lv_at hl 0 rfl) ?_
  have hPc : va_P (dC, dI) vwCl [(h, .inr (6, [.int (nI 0), .null, .int (nI 0)]))] _ := hP.sub [0] rfl
  have hDc : va_D _ [(h, .inr (6, [.int (nI 0), .null, .int (nI 0)]))] := hD.sub [0] (by decide) rfl
  have hFc := va_free (wc := [(h, .inr (6, [.int (nI 0), .null, .int (nI 0)]))]) hD hS hA [0] rfl
  refine va_callv (va_runI (As := []) (rest := []) ⟨hx, hb, hml, hown, hts⟩ (c_abinit l dC dI cI cO s.heap.size h) (cwI 0 hts ugJx4a65c_init_da8c8_Jxc12de_init_da8c8 rfl rfl rfl (hts (.initialized RJxc12de) (by decide +kernel)) (hts (.methodLink RJx4a65c 1 yJxc12de_init_da8c8) (by decide +kernel)) (hts (.instanceMethod yJxc12de_init_da8c8) (by decide +kernel)) rfl (by decide +kernel) ⟨(by first | exact Nat.le_of_ble_eq_true rfl | omega | (dsimp only [headSpec]; omega) | (simp only [headSpec]; omega) | omega), (by first | exact Nat.le_of_ble_eq_true rfl | omega | (dsimp only [headSpec]; omega) | (simp only [headSpec]; omega) | omega)⟩) ⟨fun a U g mk q => by obtain ⟨q0, q1, qP, qK, qD⟩ := q; exact ⟨q0, q1, qP, va_K.moved (u := U) (U := U.calling g mk a) (Vm.Alike.refl U.vm) qK, qD⟩, fun U hU hW => ⟨rfl, by rw [hU], by rw [hU]; exact hPc, va_K.moved hW.alike hK, hDc.weaken (fun _ _ _ _ => trivial)⟩⟩ rfl rfl hl.1 rfl (lv_room (Nat.le_of_ble_eq_true rfl)) dJx4a65c_init_da8c8_1 ⟨(by first | exact Nat.le_of_ble_eq_true rfl | omega | (dsimp only [headSpec]; omega) | (simp only [headSpec]; omega) | omega), (by first | exact Nat.le_of_ble_eq_true rfl | omega | (dsimp only [headSpec]; omega) | (simp only [headSpec]; omega) | omega)⟩) hS (fun q _ h => hFc q h) hFc (fun u t H locs ht hvm hw hB hz1 hk1 hS => ?_)
  obtain ⟨hP1, hK1, hD1⟩ := hB
  rw [ht] at hP1
  obtain ⟨hP, hD⟩ := va_join (wr := []) (w1 := [(h, .inr (6, [.int (nI 0), .null, .int (nI 0)]))]) hP hD [0] [] rfl rfl (by decide) (by decide) hk1 hFc hP1 hD1
  have hP : va_P (dC, dI) vwCl [(h, .inr (6, [.int (nI 0), .null, .int (nI 0)]))] H := hP
  have hD : va_D A [(h, .inr (6, [.int (nI 0), .null, .int (nI 0)]))] := hD
  refine lv_aload_n hx hb dJx4a65c_init_da8c8_4 rfl (lv_at hl 0 rfl) ?_
  refine va_gets hx hb hZs hS hown (hts (.fieldLink RJx4a65c 39 "java/util/ArrayList" "DEFAULTCAPACITY_EMPTY_ELEMENTDATA" "[Ljava/lang/Object;") (by decide +kernel)) (fun _ h9 => h9) dJx4a65c_init_da8c8_5 ?_
  refine va_put (D := (dC, dI)) (ci := 6) (v := .ref z0) (ty := .array (.object "java/lang/Object")) (C := RJx4a65c) (T := TJx4a65c) (N := 3) hx hb hts inJx4a65c_init_da8c8_RJx4a65c tyJx4a65c tyJx4a65c_ok nmJx4a65c hown hK hP hD hS 0 rfl rfl 1 (by decide) (hts (.fieldLink RJx4a65c 9 "java/util/ArrayList" "elementData" "[Ljava/lang/Object;") (by decide +kernel)) (fun _ h9 => h9) rfl (by decide +kernel) rfl rfl (Nat.le_of_ble_eq_true rfl) dJx4a65c_init_da8c8_8 (fun H locs hP hD hS => ?_)
  have hP : va_P (dC, dI) vwCl [(h, .inr (6, [.int (nI 0), .ref z0, .int (nI 0)]))] H := hP
  have hD : va_D A [(h, .inr (6, [.int (nI 0), .ref z0, .int (nI 0)]))] := hD
  have hPe : va_P (dC, dI) vwCl [(h, .inr (6, [.int (nI 0), .ref z0, .int (nI 0)]))] _ := hP.sub [0] rfl
  have hDe : va_D A [(h, .inr (6, [.int (nI 0), .ref z0, .int (nI 0)]))] := hD.sub [0] (by decide) rfl
  refine W.widen (k := 0) (n := 0) (by first | exact Nat.le_of_ble_eq_true rfl | omega | (dsimp only [headSpec]; omega) | (simp only [headSpec]; omega) | omega) (by first | exact Nat.le_of_ble_eq_true rfl | omega | (dsimp only [headSpec]; omega) | (simp only [headSpec]; omega) | omega) ?_
  exact W.vret hx hb hr (fun t ht hW => ⟨⟨(), rfl, trivial, by rw [ht]; exact hPe, va_K.moved hW.alike hK, hDe⟩, hS.F ht⟩) hS.2.2 dJx4a65c_init_da8c8_11
set_option maxHeartbeats 4000000 in
set_option maxRecDepth 100000 in
theorem p_alsize (l : Launch) (dC : Nat → ClassId) (dI : Nat → Nat → Nat) (cI cO : ClassId) (h : Nat) (mc : Int32) (ed : Nat) (n : Nat) : Met l yJx4a65c_size_8abf5 usJx4a65c_size_8abf5 ({ frames := 0, cells := 0, slots := 0, locals := 0 }) (va_Pc [.ref h] (fun U => va_P (dC, dI) vwCl [(h, .inr (6, [.int mc, .ref ed, .int (nI n)]))] U.heap ∧ va_K (dC, dI) vwCl (ty0 cI cO) U)) (vp_Si (fun r => r = nI n)) 0 0 (fun _ => False) := by
  refine Met.ofW (cc := cJx4a65c_size_8abf5) (maxL := 1) (ret := (some .int)) (by decide) rfl ?_
  intro p e s m args below meth c s₁ B hml hv
  obtain ⟨rfl, hP, hK⟩ := hv
  have hx := B.exec
  have hb := B.bytes
  have hr := B.returns
  have hts := atoms_spec (ws := usJx4a65c_size_8abf5) B.pre
  have hown : s.vm.findClass RJx4a65c = some m.cls := findClass_of_methodNamed B.named
  have hlocks := B.notSynchronized
  have hl := lv_entry ([.ref h]) (n := 1) (Nat.le_of_ble_eq_true rfl)
  rw [lg_entry_eq]
  generalize (lg_sl ([.ref h]) ++ List.replicate (1 - (lg_sl ([.ref h])).length) Slot.unset).toArray = ls at hl ⊢
  have hl : lv_has ls 1 [(0, .ref h)] := hl
  refine lv_aload_n hx hb dJx4a65c_size_8abf5_0 rfl (lv_at hl 0 rfl) ?_
  refine va_get (D := (dC, dI)) (ci := 6) (v := .int (nI n)) (C := RJx4a65c) (T := TJx4a65c) (N := 3) hx hb hts inJx4a65c_size_8abf5_RJx4a65c hown hK hP 0 rfl rfl 2 (by decide) (hts (.fieldLink RJx4a65c 48 "java/util/ArrayList" "size" "I") (by decide +kernel)) (fun _ h9 => h9) rfl dJx4a65c_size_8abf5_1 ?_
  exact W.iret (v := nI n) hx hb hr (fun t ht hW => ⟨_, rfl, rfl, ht⟩) (fun q hq => by cases hq) dJx4a65c_size_8abf5_4
set_option maxHeartbeats 4000000 in
set_option maxRecDepth 100000 in
theorem p_check3 (l : Launch) (dC : Nat → ClassId) (dI : Nat → Nat → Nat) (cI cO : ClassId) (i : Nat) (n : Nat) (hi : i < n) (hn : n < 2 ^ 31) : Met l yJ3_checkIndex_8e157 usJ3_checkIndex_8e157 ({ frames := 0, cells := 0, slots := 0, locals := 0 }) (va_Pc [.int (nI i), .int (nI n), .null] (fun U => va_P (dC, dI) vwCl [] U.heap ∧ va_K (dC, dI) vwCl (ty0 cI cO) U)) (vp_Si (fun r => True)) 0 0 (fun _ => False) := by
  refine Met.ofW (cc := cJ3_checkIndex_8e157) (maxL := 3) (ret := (some .int)) (by decide) rfl ?_
  intro p e s m args below meth c s₁ B hml hv
  obtain ⟨rfl, hP, hK⟩ := hv
  have hx := B.exec
  have hb := B.bytes
  have hr := B.returns
  have hts := atoms_spec (ws := usJ3_checkIndex_8e157) B.pre
  have hown : s.vm.findClass RJ3 = some m.cls := findClass_of_methodNamed B.named
  have hlocks := B.notSynchronized
  have hl := lv_entry ([.int (nI i), .int (nI n), .null]) (n := 3) (Nat.le_of_ble_eq_true rfl)
  rw [lg_entry_eq]
  generalize (lg_sl ([.int (nI i), .int (nI n), .null]) ++ List.replicate (3 - (lg_sl ([.int (nI i), .int (nI n), .null])).length) Slot.unset).toArray = ls at hl ⊢
  have hl : lv_has ls 3 [(0, .int (nI i)), (1, .int (nI n)), (2, .null)] := hl
  refine lv_iload_n hx hb dJ3_checkIndex_8e157_0 rfl (lv_at hl 0 rfl) ?_
  refine lv_if_lt (tgt := 9) hx hb dJ3_checkIndex_8e157_1 (by decide) (fun hc1 => absurd hc1 (nI_pos (by omega))) (fun hc1 => ?_)
  refine lv_iload_n hx hb dJ3_checkIndex_8e157_4 rfl (lv_at hl 0 rfl) ?_
  refine lv_iload_n hx hb dJ3_checkIndex_8e157_5 rfl (lv_at hl 1 rfl) ?_
  refine lv_icmp_lt (tgt := 16) hx hb dJ3_checkIndex_8e157_6 (by decide) (fun hc2 => ?_) (fun hc2 => absurd (nI_lt hi hn) hc2)
  refine lv_iload_n hx hb dJ3_checkIndex_8e157_16 rfl (lv_at hl 0 rfl) ?_
  exact W.iret (v := nI i) hx hb hr (fun t ht hW => ⟨_, rfl, trivial, ht⟩) (fun q hq => by cases hq) dJ3_checkIndex_8e157_17
set_option maxHeartbeats 4000000 in
set_option maxRecDepth 100000 in
theorem p_check15 (l : Launch) (dC : Nat → ClassId) (dI : Nat → Nat → Nat) (cI cO : ClassId) (i : Nat) (n : Nat) (hi : i < n) (hn : n < 2 ^ 31) : Met l yJ15_checkIndex_7cf53 usJ15_checkIndex_7cf53 ({ frames := 1, cells := 0, slots := 0, locals := 22 }) (va_Pc [.int (nI i), .int (nI n)] (fun U => va_P (dC, dI) vwCl [] U.heap ∧ va_K (dC, dI) vwCl (ty0 cI cO) U)) (vp_Si (fun r => True)) 0 0 (fun _ => False) := by
  refine Met.ofW (cc := cJ15_checkIndex_7cf53) (maxL := 2) (ret := (some .int)) (by decide) rfl ?_
  intro p e s m args below meth c s₁ B hml hv
  obtain ⟨rfl, hP, hK⟩ := hv
  have hx := B.exec
  have hb := B.bytes
  have hr := B.returns
  have hts := atoms_spec (ws := usJ15_checkIndex_7cf53) B.pre
  have hown : s.vm.findClass RJ15 = some m.cls := findClass_of_methodNamed B.named
  have hlocks := B.notSynchronized
  have hl := lv_entry ([.int (nI i), .int (nI n)]) (n := 2) (Nat.le_of_ble_eq_true rfl)
  rw [lg_entry_eq]
  generalize (lg_sl ([.int (nI i), .int (nI n)]) ++ List.replicate (2 - (lg_sl ([.int (nI i), .int (nI n)])).length) Slot.unset).toArray = ls at hl ⊢
  have hl : lv_has ls 2 [(0, .int (nI i)), (1, .int (nI n))] := hl
  refine lv_iload_n hx hb dJ15_checkIndex_7cf53_0 rfl (lv_at hl 0 rfl) ?_
  refine lv_iload_n hx hb dJ15_checkIndex_7cf53_1 rfl (lv_at hl 1 rfl) ?_
  refine lv_null hx hb dJ15_checkIndex_7cf53_2 ?_
  have hPc : va_P (dC, dI) vwCl [] _ := hP.sub [] rfl
  refine uc_i (va_runS (As := [.int (nI i), .int (nI n), .null]) (rest := []) ⟨hx, hb, hml, hown, hts⟩ (p_check3 l dC dI cI cO i n hi hn) (va_cwS 3 hts ugJ15_checkIndex_7cf53_J3_checkIndex_8e157 rfl rfl rfl (by decide +kernel) ⟨(by first | exact Nat.le_of_ble_eq_true rfl | omega | (dsimp only [headSpec]; omega) | (simp only [headSpec]; omega) | omega), (by first | exact Nat.le_of_ble_eq_true rfl | omega | (dsimp only [headSpec]; omega) | (simp only [headSpec]; omega) | omega)⟩) ⟨fun a U g mk q => by obtain ⟨q0, qP, qK⟩ := q; exact ⟨q0, qP, va_K.moved (u := U) (U := U.calling g mk a) (Vm.Alike.refl U.vm) qK⟩, fun U hU hW => ⟨rfl, by rw [hU]; exact hPc, va_K.moved hW.alike hK⟩⟩ rfl rfl hl.1 rfl (lv_room (Nat.le_of_ble_eq_true rfl)) dJ15_checkIndex_7cf53_3 ⟨(by first | exact Nat.le_of_ble_eq_true rfl | omega | (dsimp only [headSpec]; omega) | (simp only [headSpec]; omega) | omega), (by first | exact Nat.le_of_ble_eq_true rfl | omega | (dsimp only [headSpec]; omega) | (simp only [headSpec]; omega) | omega)⟩) (fun r1 er1 => ?_)
  exact W.iret (v := r1) hx hb hr (fun t ht hW => ⟨_, rfl, trivial, ht⟩) (fun q hq => by cases hq) dJ15_checkIndex_7cf53_6
set_option maxHeartbeats 4000000 in
set_option maxRecDepth 100000 in
theorem p_aled (l : Launch) (dC : Nat → ClassId) (dI : Nat → Nat → Nat) (cI cO : ClassId) (h : Nat) (mc : Int32) (ed : Nat) (n : Nat) (N : Nat) (fq : Nat → Option Nat) (i : Nat) (x : Nat) (hi : i < n) (hn : n ≤ N) (hN : N < 2 ^ 31) (hx0 : fq i = some x) : Met l yJx4a65c_elementData_915e3 usJx4a65c_elementData_915e3 ({ frames := 0, cells := 0, slots := 0, locals := 0 }) (va_Pc [.ref h, .int (nI i)] (fun U => va_P (dC, dI) vwCl [(h, .inr (6, [.int mc, .ref ed, .int (nI n)])), wq ed cO N fq] U.heap ∧ va_K (dC, dI) vwCl (ty0 cI cO) U)) (uS_r (fun r => r = x)) 0 0 (fun _ => False) := by
  refine Met.ofW (cc := cJx4a65c_elementData_915e3) (maxL := 2) (ret := (some (.object "java/lang/Object"))) (by decide) rfl ?_
  intro p e s m args below meth c s₁ B hml hv
  obtain ⟨rfl, hP, hK⟩ := hv
  have hx := B.exec
  have hb := B.bytes
  have hr := B.returns
  have hts := atoms_spec (ws := usJx4a65c_elementData_915e3) B.pre
  have hown : s.vm.findClass RJx4a65c = some m.cls := findClass_of_methodNamed B.named
  have hlocks := B.notSynchronized
  have hl := lv_entry ([.ref h, .int (nI i)]) (n := 2) (Nat.le_of_ble_eq_true rfl)
  rw [lg_entry_eq]
  generalize (lg_sl ([.ref h, .int (nI i)]) ++ List.replicate (2 - (lg_sl ([.ref h, .int (nI i)])).length) Slot.unset).toArray = ls at hl ⊢
  have hl : lv_has ls 2 [(0, .ref h), (1, .int (nI i))] := hl
  refine lv_aload_n hx hb dJx4a65c_elementData_915e3_0 rfl (lv_at hl 0 rfl) ?_
  refine va_get (D := (dC, dI)) (ci := 6) (v := .ref ed) (C := RJx4a65c) (T := TJx4a65c) (N := 3) hx hb hts inJx4a65c_elementData_915e3_RJx4a65c hown hK hP 0 rfl rfl 1 (by decide) (hts (.fieldLink RJx4a65c 9 "java/util/ArrayList" "elementData" "[Ljava/lang/Object;") (by decide +kernel)) (fun _ h9 => h9) rfl dJx4a65c_elementData_915e3_1 ?_
  refine lv_iload_n hx hb dJx4a65c_elementData_915e3_4 rfl (lv_at hl 1 rfl) ?_
  refine va_aldq (D := (dC, dI)) hx hb hK hP 1 1 rfl rfl (vp_in_nI (by omega) hN) dJx4a65c_elementData_915e3_5 ?_
  rw [nI_clamp (by omega), hx0]
  exact W.aret (v := .ref x) hx hb hr (Or.inl ⟨_, rfl⟩) (Or.inr ⟨_, rfl⟩) (fun t ht hW => ⟨_, rfl, rfl, ht⟩) (fun q hq => by cases hq) dJx4a65c_elementData_915e3_6
set_option maxHeartbeats 4000000 in
set_option maxRecDepth 100000 in
theorem p_alget (l : Launch) (dC : Nat → ClassId) (dI : Nat → Nat → Nat) (cI cO : ClassId) (h : Nat) (mc : Int32) (ed : Nat) (n : Nat) (N : Nat) (fq : Nat → Option Nat) (i : Nat) (x : Nat) (hi : i < n) (hn : n ≤ N) (hN : N < 2 ^ 31) (hx0 : fq i = some x) : Met l yJx4a65c_get_915e3 usJx4a65c_get_915e3 ({ frames := 2, cells := 0, slots := 0, locals := 43 }) (va_Pc [.ref h, .int (nI i)] (fun U => va_P (dC, dI) vwCl [(h, .inr (6, [.int mc, .ref ed, .int (nI n)])), wq ed cO N fq] U.heap ∧ va_K (dC, dI) vwCl (ty0 cI cO) U)) (uS_r (fun r => r = x)) 0 0 (fun _ => False) := by
  refine Met.ofW (cc := cJx4a65c_get_915e3) (maxL := 2) (ret := (some (.object "java/lang/Object"))) (by decide) rfl ?_
  intro p e s m args below meth c s₁ B hml hv
  obtain ⟨rfl, hP, hK⟩ := hv
  have hx := B.exec
  have hb := B.bytes
  have hr := B.returns
  have hts := atoms_spec (ws := usJx4a65c_get_915e3) B.pre
  have hown : s.vm.findClass RJx4a65c = some m.cls := findClass_of_methodNamed B.named
  have hlocks := B.notSynchronized
  have hl := lv_entry ([.ref h, .int (nI i)]) (n := 2) (Nat.le_of_ble_eq_true rfl)
  rw [lg_entry_eq]
  generalize (lg_sl ([.ref h, .int (nI i)]) ++ List.replicate (2 - (lg_sl ([.ref h, .int (nI i)])).length) Slot.unset).toArray = ls at hl ⊢
  have hl : lv_has ls 2 [(0, .ref h), (1, .int (nI i))] := hl
  refine lv_iload_n hx hb dJx4a65c_get_915e3_0 rfl (lv_at hl 1 rfl) ?_
  refine lv_aload_n hx hb dJx4a65c_get_915e3_1 rfl (lv_at hl 0 rfl) ?_
  refine va_get (D := (dC, dI)) (ci := 6) (v := .int (nI n)) (C := RJx4a65c) (T := TJx4a65c) (N := 3) hx hb hts inJx4a65c_get_915e3_RJx4a65c hown hK hP 0 rfl rfl 2 (by decide) (hts (.fieldLink RJx4a65c 48 "java/util/ArrayList" "size" "I") (by decide +kernel)) (fun _ h9 => h9) rfl dJx4a65c_get_915e3_2 ?_
  have hPc : va_P (dC, dI) vwCl [] _ := hP.sub [] rfl
  refine uc_i (va_runS (As := [.int (nI i), .int (nI n)]) (rest := []) ⟨hx, hb, hml, hown, hts⟩ (p_check15 l dC dI cI cO i n hi (by omega)) (va_cwS 2 hts ugJx4a65c_get_915e3_J15_checkIndex_7cf53 rfl rfl rfl (by decide +kernel) ⟨(by first | exact Nat.le_of_ble_eq_true rfl | omega | (dsimp only [headSpec]; omega) | (simp only [headSpec]; omega) | omega), (by first | exact Nat.le_of_ble_eq_true rfl | omega | (dsimp only [headSpec]; omega) | (simp only [headSpec]; omega) | omega)⟩) ⟨fun a U g mk q => by obtain ⟨q0, qP, qK⟩ := q; exact ⟨q0, qP, va_K.moved (u := U) (U := U.calling g mk a) (Vm.Alike.refl U.vm) qK⟩, fun U hU hW => ⟨rfl, by rw [hU]; exact hPc, va_K.moved hW.alike hK⟩⟩ rfl rfl hl.1 rfl (lv_room (Nat.le_of_ble_eq_true rfl)) dJx4a65c_get_915e3_5 ⟨(by first | exact Nat.le_of_ble_eq_true rfl | omega | (dsimp only [headSpec]; omega) | (simp only [headSpec]; omega) | omega), (by first | exact Nat.le_of_ble_eq_true rfl | omega | (dsimp only [headSpec]; omega) | (simp only [headSpec]; omega) | omega)⟩) (fun r1 er1 => ?_)
  refine lv_pop hx hb dJx4a65c_get_915e3_8 rfl ?_
  refine lv_aload_n hx hb dJx4a65c_get_915e3_9 rfl (lv_at hl 0 rfl) ?_
  refine lv_iload_n hx hb dJx4a65c_get_915e3_10 rfl (lv_at hl 1 rfl) ?_
  have hPc : va_P (dC, dI) vwCl [(h, .inr (6, [.int mc, .ref ed, .int (nI n)])), wq ed cO N fq] _ := hP.sub [0, 1] rfl
  refine uc_r (va_runV (As := [.int (nI i)]) (rest := []) ⟨hx, hb, hml, hown, hts⟩ (p_aled l dC dI cI cO h mc ed n N fq i x hi hn hN hx0) (cwV 1 hts ugJx4a65c_get_915e3_Jx4a65c_elementData_915e3 rfl rfl rfl (by decide +kernel) ⟨(by first | exact Nat.le_of_ble_eq_true rfl | omega | (dsimp only [headSpec]; omega) | (simp only [headSpec]; omega) | omega), (by first | exact Nat.le_of_ble_eq_true rfl | omega | (dsimp only [headSpec]; omega) | (simp only [headSpec]; omega) | omega)⟩) ⟨fun a U g mk q => by obtain ⟨q0, qP, qK⟩ := q; exact ⟨q0, qP, va_K.moved (u := U) (U := U.calling g mk a) (Vm.Alike.refl U.vm) qK⟩, va_recv hK hPc (ci := 6) (q0 := 0) rfl rfl, fun U hU hW => ⟨rfl, by rw [hU]; exact hPc, va_K.moved hW.alike hK⟩⟩ rfl rfl hl.1 rfl (lv_room (Nat.le_of_ble_eq_true rfl)) dJx4a65c_get_915e3_11 ⟨(by first | exact Nat.le_of_ble_eq_true rfl | omega | (dsimp only [headSpec]; omega) | (simp only [headSpec]; omega) | omega), (by first | exact Nat.le_of_ble_eq_true rfl | omega | (dsimp only [headSpec]; omega) | (simp only [headSpec]; omega) | omega)⟩) (fun r2 er2 => ?_)
  exact W.aret (v := .ref r2) hx hb hr (Or.inl ⟨_, rfl⟩) (Or.inr ⟨_, rfl⟩) (fun t ht hW => ⟨_, rfl, er2, ht⟩) (fun q hq => by cases hq) dJx4a65c_get_915e3_14
set_option maxHeartbeats 4000000 in
set_option maxRecDepth 100000 in
theorem c_algrowI (l : Launch) (dC : Nat → ClassId) (dI : Nat → Nat → Nat) (cI cO : ClassId) (z0 : Nat) (sz : Nat) (h : Nat) (mc : Int32) : Met l yJx4a65c_grow_92f84 usJx4a65c_grow_92f84 ({ frames := 1, cells := 1, slots := 10, locals := 20 }) (va_Pc [.ref h, .int (nI 1)] (fun U => U.heap.size = sz ∧ va_P (dC, dI) vwCl [(h, .inr (6, [.int mc, .ref z0, .int (nI 0)]))] U.heap ∧ va_K (dC, dI) vwCl (ty0 cI cO) U ∧ va_D (fun _ => True) [(h, .inr (6, [.int mc, .ref z0, .int (nI 0)]))] ∧ uz z0 (va_A [(h, .inr (6, [.int mc, .ref z0, .int (nI 0)]))] sz) U)) (va_Qr (fun _ : Unit => True) (fun _ ra t => va_P (dC, dI) vwCl [(h, .inr (6, [.int mc, .ref ra, .int (nI 0)])), wq ra cO 10 (fun _ => none)] t.heap ∧ va_K (dC, dI) vwCl (ty0 cI cO) t ∧ va_D (va_A [(h, .inr (6, [.int mc, .ref z0, .int (nI 0)]))] sz) [(h, .inr (6, [.int mc, .ref ra, .int (nI 0)])), wq ra cO 10 (fun _ => none)]) (va_A [(h, .inr (6, [.int mc, .ref z0, .int (nI 0)]))] sz)) 1 10 (va_A [(h, .inr (6, [.int mc, .ref z0, .int (nI 0)]))] sz) := by
  refine Met.ofW (cc := cJx4a65c_grow_92f84) (maxL := 4) (ret := (some (.array (.object "java/lang/Object")))) (by decide) rfl ?_
  intro p e s m args below meth c s₁ B hml hv
  obtain ⟨rfl, hsz, hP, hK, hD0, hZ⟩ := hv
  have hx := B.exec
  have hb := B.bytes
  have hr := B.returns
  have hts := atoms_spec (ws := usJx4a65c_grow_92f84) B.pre
  have hown : s.vm.findClass RJx4a65c = some m.cls := findClass_of_methodNamed B.named
  have hlocks := B.notSynchronized
  subst hsz
  have hD := hD0.self (sz := s.heap.size)
  generalize hAe : va_A [(h, .inr (6, [.int mc, .ref z0, .int (nI 0)]))] s.heap.size = A at hD hZ ⊢
  have hA : ∀ q : Nat, s.heap.size ≤ q → A q := fun q h => by rw [← hAe]; exact Or.inr h
  have hS : va_S A s.heap s.heap [] := va_S.rf
  obtain ⟨hZs, ⟨fz, hZt⟩, hZo, hZr, hZi, hZc⟩ := id hZ
  have hl := lv_entry ([.ref h, .int (nI 1)]) (n := 4) (Nat.le_of_ble_eq_true rfl)
  rw [lg_entry_eq]
  generalize (lg_sl ([.ref h, .int (nI 1)]) ++ List.replicate (4 - (lg_sl ([.ref h, .int (nI 1)])).length) Slot.unset).toArray = ls at hl ⊢
  have hl : lv_has ls 4 [(0, .ref h), (1, .int (nI 1))] := hl
  refine lv_aload_n hx hb dJx4a65c_grow_92f84_0 rfl (lv_at hl 0 rfl) ?_
  refine va_get (D := (dC, dI)) (ci := 6) (v := .ref z0) (C := RJx4a65c) (T := TJx4a65c) (N := 3) hx hb hts inJx4a65c_grow_92f84_RJx4a65c hown hK hP 0 rfl rfl 1 (by decide) (hts (.fieldLink RJx4a65c 9 "java/util/ArrayList" "elementData" "[Ljava/lang/Object;") (by decide +kernel)) (fun _ h9 => h9) rfl dJx4a65c_grow_92f84_1 ?_
  refine va_tlen hx hb hZt hS rfl dJx4a65c_grow_92f84_4 ?_
  refine lv_istore_n (lv' := [(2, .int (nI 0)), (0, .ref h), (1, .int (nI 1))]) hx hb dJx4a65c_grow_92f84_5 rfl hl (by decide) rfl (fun ls hl => ?_)
  refine lv_iload_n hx hb dJx4a65c_grow_92f84_6 rfl (lv_at hl 0 rfl) ?_
  refine lv_if_gt (tgt := 20) hx hb dJx4a65c_grow_92f84_7 (by decide) (fun hc1 => absurd hc1 (by decide)) (fun hc1 => ?_)
  refine lv_aload_n hx hb dJx4a65c_grow_92f84_10 rfl (lv_at hl 1 rfl) ?_
  refine va_get (D := (dC, dI)) (ci := 6) (v := .ref z0) (C := RJx4a65c) (T := TJx4a65c) (N := 3) hx hb hts inJx4a65c_grow_92f84_RJx4a65c hown hK hP 0 rfl rfl 1 (by decide) (hts (.fieldLink RJx4a65c 9 "java/util/ArrayList" "elementData" "[Ljava/lang/Object;") (by decide +kernel)) (fun _ h9 => h9) rfl dJx4a65c_grow_92f84_11 ?_
  refine va_gets hx hb hZs hS hown (hts (.fieldLink RJx4a65c 39 "java/util/ArrayList" "DEFAULTCAPACITY_EMPTY_ELEMENTDATA" "[Ljava/lang/Object;") (by decide +kernel)) (fun _ h9 => h9) dJx4a65c_grow_92f84_14 ?_
  refine lv_acmp_eq (rx := some z0) (ry := some z0) (tgt := 45) hx hb dJx4a65c_grow_92f84_17 (by decide) (fun _ => ?_) (fun hc => absurd rfl hc)
  refine lv_aload_n hx hb dJx4a65c_grow_92f84_45 rfl (lv_at hl 1 rfl) ?_
  refine lv_bipush (v := nI 10) hx hb dJx4a65c_grow_92f84_46 (by decide) ?_
  refine lv_iload_n hx hb dJx4a65c_grow_92f84_48 rfl (lv_at hl 2 rfl) ?_
  refine va_mmax hx hb (hml.trans hl.1.symm) hown (hts (.methodLink RJx4a65c 79 Lib.Math.max.name) (by decide +kernel)) (hts (.static Lib.Math.max.name) (by decide +kernel)) (hts (.initialized "java/lang/Math") (by decide +kernel)) (hts _ (List.mem_of_getElem? (i := 6) rfl)) (by first | exact Nat.le_of_ble_eq_true rfl | omega | (dsimp only [headSpec]; omega) | (simp only [headSpec]; omega) | omega) (by first | exact Nat.le_of_ble_eq_true rfl | omega | (dsimp only [headSpec]; omega) | (simp only [headSpec]; omega) | omega) (by first | exact Nat.le_of_ble_eq_true rfl | omega | (dsimp only [headSpec]; omega) | (simp only [headSpec]; omega) | omega) (by first | exact Nat.le_of_ble_eq_true rfl | omega | (dsimp only [headSpec]; omega) | (simp only [headSpec]; omega) | omega) dJx4a65c_grow_92f84_49 ?_
  rw [if_neg (nI_nlt (a := 10) (b := 1) (by omega) (by omega))]
  refine va_newq (D := (dC, dI)) (N' := 10) hx hb hown (hts (.classLink RJx4a65c 7 "java/lang/Object") (by decide +kernel)) hZo hK hP hD hS hA (by decide) (by decide) (by decide) (by first | exact Nat.le_of_ble_eq_true rfl | omega | (dsimp only [headSpec]; omega) | (simp only [headSpec]; omega) | omega) (by first | exact Nat.le_of_ble_eq_true rfl | omega | (dsimp only [headSpec]; omega) | (simp only [headSpec]; omega) | omega) dJx4a65c_grow_92f84_52 (fun ra cO2 H hK2 hP hD hS => ?_)
  obtain rfl := uc_eqO hK2 1 2 rfl rfl
  have hP : va_P (dC, dI) vwCl [(h, .inr (6, [.int mc, .ref z0, .int (nI 0)])), wq ra cO 10 (fun _ => none)] H := hP
  have hD : va_D A [(h, .inr (6, [.int mc, .ref z0, .int (nI 0)])), wq ra cO 10 (fun _ => none)] := hD
  refine W.widen (k := 1) (n := 10) (by first | exact Nat.le_of_ble_eq_true rfl | omega | (dsimp only [headSpec]; omega) | (simp only [headSpec]; omega) | omega) (by first | exact Nat.le_of_ble_eq_true rfl | omega | (dsimp only [headSpec]; omega) | (simp only [headSpec]; omega) | omega) ?_
  refine lv_dup_x1 hx hb dJx4a65c_grow_92f84_55 rfl rfl ?_
  refine va_put (D := (dC, dI)) (ci := 6) (v := .ref ra) (ty := .array (.object "java/lang/Object")) (C := RJx4a65c) (T := TJx4a65c) (N := 3) hx hb hts inJx4a65c_grow_92f84_RJx4a65c tyJx4a65c tyJx4a65c_ok nmJx4a65c hown hK hP hD hS 0 rfl rfl 1 (by decide) (hts (.fieldLink RJx4a65c 9 "java/util/ArrayList" "elementData" "[Ljava/lang/Object;") (by decide +kernel)) (fun _ h9 => h9) rfl (by decide +kernel) rfl rfl (Nat.le_of_ble_eq_true rfl) dJx4a65c_grow_92f84_56 (fun H locs hP hD hS => ?_)
  have hP : va_P (dC, dI) vwCl [(h, .inr (6, [.int mc, .ref ra, .int (nI 0)])), wq ra cO 10 (fun _ => none)] H := hP
  have hD : va_D A [(h, .inr (6, [.int mc, .ref ra, .int (nI 0)])), wq ra cO 10 (fun _ => none)] := hD
  have hPe : va_P (dC, dI) vwCl [(h, .inr (6, [.int mc, .ref ra, .int (nI 0)])), wq ra cO 10 (fun _ => none)] _ := hP.sub [0, 1] rfl
  have hDe : va_D A [(h, .inr (6, [.int mc, .ref ra, .int (nI 0)])), wq ra cO 10 (fun _ => none)] := hD.sub [0, 1] (by decide) rfl
  refine W.widen (k := 1) (n := 10) (by first | exact Nat.le_of_ble_eq_true rfl | omega | (dsimp only [headSpec]; omega) | (simp only [headSpec]; omega) | omega) (by first | exact Nat.le_of_ble_eq_true rfl | omega | (dsimp only [headSpec]; omega) | (simp only [headSpec]; omega) | omega) ?_
  exact W.aret (v := .ref ra) hx hb hr (Or.inr ⟨_, rfl⟩) (Or.inr ⟨_, rfl⟩) (fun t ht hW => ⟨⟨(), _, rfl, trivial, by rw [ht]; exact hPe, va_K.moved hW.alike hK, hDe⟩, hS.F ht⟩) hS.2.2 dJx4a65c_grow_92f84_59
set_option maxHeartbeats 4000000 in
set_option maxRecDepth 100000 in
theorem c_algrow (l : Launch) (dC : Nat → ClassId) (dI : Nat → Nat → Nat) (cI cO : ClassId) (z0 : Nat) (sz : Nat) (h : Nat) (mc : Int32) : Met l yJx4a65c_grow_d5877 usJx4a65c_grow_d5877 ({ frames := 2, cells := 1, slots := 10, locals := 43 }) (va_Pc [.ref h] (fun U => U.heap.size = sz ∧ va_P (dC, dI) vwCl [(h, .inr (6, [.int mc, .ref z0, .int (nI 0)]))] U.heap ∧ va_K (dC, dI) vwCl (ty0 cI cO) U ∧ va_D (fun _ => True) [(h, .inr (6, [.int mc, .ref z0, .int (nI 0)]))] ∧ uz z0 (va_A [(h, .inr (6, [.int mc, .ref z0, .int (nI 0)]))] sz) U)) (va_Qr (fun _ : Unit => True) (fun _ ra t => va_P (dC, dI) vwCl [(h, .inr (6, [.int mc, .ref ra, .int (nI 0)])), wq ra cO 10 (fun _ => none)] t.heap ∧ va_K (dC, dI) vwCl (ty0 cI cO) t ∧ va_D (va_A [(h, .inr (6, [.int mc, .ref z0, .int (nI 0)]))] sz) [(h, .inr (6, [.int mc, .ref ra, .int (nI 0)])), wq ra cO 10 (fun _ => none)]) (va_A [(h, .inr (6, [.int mc, .ref z0, .int (nI 0)]))] sz)) 1 10 (va_A [(h, .inr (6, [.int mc, .ref z0, .int (nI 0)]))] sz) := by
  refine Met.ofW (cc := cJx4a65c_grow_d5877) (maxL := 1) (ret := (some (.array (.object "java/lang/Object")))) (by decide) rfl ?_
  intro p e s m args below meth c s₁ B hml hv
  obtain ⟨rfl, hsz, hP, hK, hD0, hZ⟩ := hv
  have hx := B.exec
  have hb := B.bytes
  have hr := B.returns
  have hts := atoms_spec (ws := usJx4a65c_grow_d5877) B.pre
  have hown : s.vm.findClass RJx4a65c = some m.cls := findClass_of_methodNamed B.named
  have hlocks := B.notSynchronized
  subst hsz
  have hD := hD0.self (sz := s.heap.size)
  generalize hAe : va_A [(h, .inr (6, [.int mc, .ref z0, .int (nI 0)]))] s.heap.size = A at hD hZ ⊢
  have hA : ∀ q : Nat, s.heap.size ≤ q → A q := fun q h => by rw [← hAe]; exact Or.inr h
  have hS : va_S A s.heap s.heap [] := va_S.rf
  obtain ⟨hZs, ⟨fz, hZt⟩, hZo, hZr, hZi, hZc⟩ := id hZ
  have hl := lv_entry ([.ref h]) (n := 1) (Nat.le_of_ble_eq_true rfl)
  rw [lg_entry_eq]
  generalize (lg_sl ([.ref h]) ++ List.replicate (1 - (lg_sl ([.ref h])).length) Slot.unset).toArray = ls at hl ⊢
  have hl : lv_has ls 1 [(0, .ref h)] := hl
  refine lv_aload_n hx hb dJx4a65c_grow_d5877_0 rfl (lv_at hl 0 rfl) ?_
  refine lv_aload_n hx hb dJx4a65c_grow_d5877_1 rfl (lv_at hl 0 rfl) ?_
  refine va_get (D := (dC, dI)) (ci := 6) (v := .int (nI 0)) (C := RJx4a65c) (T := TJx4a65c) (N := 3) hx hb hts inJx4a65c_grow_d5877_RJx4a65c hown hK hP 0 rfl rfl 2 (by decide) (hts (.fieldLink RJx4a65c 48 "java/util/ArrayList" "size" "I") (by decide +kernel)) (fun _ h9 => h9) rfl dJx4a65c_grow_d5877_2 ?_
  refine lv_iconst (v := nI 1) hx hb dJx4a65c_grow_d5877_5 (by decide) ?_
  refine lv_iadd hx hb dJx4a65c_grow_d5877_6 ?_
  refine lv_topi (fun y_1 ey_1 => ?_)
  have h_2 : y_1 = nI 1 := ey_1.trans (nI_add 0 1)
  subst h_2
  have hPc : va_P (dC, dI) vwCl [(h, .inr (6, [.int mc, .ref z0, .int (nI 0)]))] _ := hP.sub [0] rfl
  have hDc : va_D _ [(h, .inr (6, [.int mc, .ref z0, .int (nI 0)]))] := hD.sub [0] (by decide) rfl
  have hFc := va_free (wc := [(h, .inr (6, [.int mc, .ref z0, .int (nI 0)]))]) hD hS hA [0] rfl
  refine va_callr (va_runV (As := [.int (nI 1)]) (rest := []) ⟨hx, hb, hml, hown, hts⟩ (c_algrowI l dC dI cI cO z0 s.heap.size h mc) (cwV 1 hts ugJx4a65c_grow_d5877_Jx4a65c_grow_92f84 rfl rfl rfl (by decide +kernel) ⟨(by first | exact Nat.le_of_ble_eq_true rfl | omega | (dsimp only [headSpec]; omega) | (simp only [headSpec]; omega) | omega), (by first | exact Nat.le_of_ble_eq_true rfl | omega | (dsimp only [headSpec]; omega) | (simp only [headSpec]; omega) | omega)⟩) ⟨fun a U g mk q => by obtain ⟨q0, q1, qP, qK, qD, qZ⟩ := q; exact ⟨q0, q1, qP, va_K.moved (u := U) (U := U.calling g mk a) (Vm.Alike.refl U.vm) qK, qD, qZ.moved (Vm.Alike.refl U.vm) rfl⟩, va_recv hK hPc (ci := 6) (q0 := 0) rfl rfl, fun U hU hW => ⟨rfl, by rw [hU], by rw [hU]; exact hPc, va_K.moved hW.alike hK, hDc.weaken (fun _ _ _ _ => trivial), uz_call hZ hS hFc hU hW.alike⟩⟩ rfl rfl hl.1 rfl (lv_room (Nat.le_of_ble_eq_true rfl)) dJx4a65c_grow_d5877_7 ⟨(by first | exact Nat.le_of_ble_eq_true rfl | omega | (dsimp only [headSpec]; omega) | (simp only [headSpec]; omega) | omega), (by first | exact Nat.le_of_ble_eq_true rfl | omega | (dsimp only [headSpec]; omega) | (simp only [headSpec]; omega) | omega)⟩) hS (fun q _ h => hFc q h) hFc (fun u ra t H locs ht hvm hw hB hz1 hk1 hS => ?_)
  obtain ⟨hP1, hK1, hD1⟩ := hB
  rw [ht] at hP1
  obtain ⟨hP, hD⟩ := va_join (wr := []) (w1 := [(h, .inr (6, [.int mc, .ref ra, .int (nI 0)])), wq ra cO 10 (fun _ => none)]) hP hD [0] [] rfl rfl (by decide) (by decide) hk1 hFc hP1 hD1
  have hP : va_P (dC, dI) vwCl [(h, .inr (6, [.int mc, .ref ra, .int (nI 0)])), wq ra cO 10 (fun _ => none)] H := hP
  have hD : va_D A [(h, .inr (6, [.int mc, .ref ra, .int (nI 0)])), wq ra cO 10 (fun _ => none)] := hD
  refine W.widen (k := 1) (n := 10) (by first | exact Nat.le_of_ble_eq_true rfl | omega | (dsimp only [headSpec]; omega) | (simp only [headSpec]; omega) | omega) (by first | exact Nat.le_of_ble_eq_true rfl | omega | (dsimp only [headSpec]; omega) | (simp only [headSpec]; omega) | omega) ?_
  have hPe : va_P (dC, dI) vwCl [(h, .inr (6, [.int mc, .ref ra, .int (nI 0)])), wq ra cO 10 (fun _ => none)] _ := hP.sub [0, 1] rfl
  have hDe : va_D A [(h, .inr (6, [.int mc, .ref ra, .int (nI 0)])), wq ra cO 10 (fun _ => none)] := hD.sub [0, 1] (by decide) rfl
  refine W.widen (k := 1) (n := 10) (by first | exact Nat.le_of_ble_eq_true rfl | omega | (dsimp only [headSpec]; omega) | (simp only [headSpec]; omega) | omega) (by first | exact Nat.le_of_ble_eq_true rfl | omega | (dsimp only [headSpec]; omega) | (simp only [headSpec]; omega) | omega) ?_
  exact W.aret (v := .ref ra) hx hb hr (Or.inr ⟨_, rfl⟩) (Or.inr ⟨_, rfl⟩) (fun t ht hW => ⟨⟨(), _, rfl, trivial, by rw [ht]; exact hPe, va_K.moved hW.alike hK, hDe⟩, hS.F ht⟩) hS.2.2 dJx4a65c_grow_d5877_10
set_option maxHeartbeats 4000000 in
set_option maxRecDepth 100000 in
theorem c_aladd3o (l : Launch) (dC : Nat → ClassId) (dI : Nat → Nat → Nat) (cI cO : ClassId) (z0 : Nat) (sz : Nat) (h : Nat) (mc : Int32) (x : Nat) (xc : Nat) (xn : Int32) : Met l yJx4a65c_add_72be8 usJx4a65c_add_72be8 ({ frames := 3, cells := 1, slots := 10, locals := 63 }) (va_Pc [.ref h, .ref x, .ref z0, .int (nI 0)] (fun U => U.heap.size = sz ∧ va_P (dC, dI) vwCl [(h, .inr (6, [.int mc, .ref z0, .int (nI 0)])), (x, .inr (13, [.ref xc, .int xn]))] U.heap ∧ va_K (dC, dI) vwCl (ty0 cI cO) U ∧ va_D (fun _ => True) [(h, .inr (6, [.int mc, .ref z0, .int (nI 0)])), (x, .inr (13, [.ref xc, .int xn]))] ∧ uz z0 (va_A [(h, .inr (6, [.int mc, .ref z0, .int (nI 0)])), (x, .inr (13, [.ref xc, .int xn]))] sz) U)) (va_Qv (fun _ : Unit => True) (fun _ t => ∃ (ed : Nat), ∃ (fq : Nat → Option Nat), (fq 0 = some x) ∧ va_P (dC, dI) vwCl [(h, .inr (6, [.int mc, .ref ed, .int (nI 1)])), (x, .inr (13, [.ref xc, .int xn])), wq ed cO 10 fq] t.heap ∧ va_K (dC, dI) vwCl (ty0 cI cO) t ∧ va_D (va_A [(h, .inr (6, [.int mc, .ref z0, .int (nI 0)])), (x, .inr (13, [.ref xc, .int xn]))] sz) [(h, .inr (6, [.int mc, .ref ed, .int (nI 1)])), (x, .inr (13, [.ref xc, .int xn])), wq ed cO 10 fq]) (va_A [(h, .inr (6, [.int mc, .ref z0, .int (nI 0)])), (x, .inr (13, [.ref xc, .int xn]))] sz)) 1 10 (va_A [(h, .inr (6, [.int mc, .ref z0, .int (nI 0)])), (x, .inr (13, [.ref xc, .int xn]))] sz) := by
  refine Met.ofW (cc := cJx4a65c_add_72be8) (maxL := 4) (ret := none) (by decide) rfl ?_
  intro p e s m args below meth c s₁ B hml hv
  obtain ⟨rfl, hsz, hP, hK, hD0, hZ⟩ := hv
  have hx := B.exec
  have hb := B.bytes
  have hr := B.returns
  have hts := atoms_spec (ws := usJx4a65c_add_72be8) B.pre
  have hown : s.vm.findClass RJx4a65c = some m.cls := findClass_of_methodNamed B.named
  have hlocks := B.notSynchronized
  subst hsz
  have hD := hD0.self (sz := s.heap.size)
  generalize hAe : va_A [(h, .inr (6, [.int mc, .ref z0, .int (nI 0)])), (x, .inr (13, [.ref xc, .int xn]))] s.heap.size = A at hD hZ ⊢
  have hA : ∀ q : Nat, s.heap.size ≤ q → A q := fun q h => by rw [← hAe]; exact Or.inr h
  have hS : va_S A s.heap s.heap [] := va_S.rf
  obtain ⟨hZs, ⟨fz, hZt⟩, hZo, hZr, hZi, hZc⟩ := id hZ
  have hl := lv_entry ([.ref h, .ref x, .ref z0, .int (nI 0)]) (n := 4) (Nat.le_of_ble_eq_true rfl)
  rw [lg_entry_eq]
  generalize (lg_sl ([.ref h, .ref x, .ref z0, .int (nI 0)]) ++ List.replicate (4 - (lg_sl ([.ref h, .ref x, .ref z0, .int (nI 0)])).length) Slot.unset).toArray = ls at hl ⊢
  have hl : lv_has ls 4 [(0, .ref h), (1, .ref x), (2, .ref z0), (3, .int (nI 0))] := hl
  refine lv_iload_n hx hb dJx4a65c_add_72be8_0 rfl (lv_at hl 3 rfl) ?_
  refine lv_aload_n hx hb dJx4a65c_add_72be8_1 rfl (lv_at hl 2 rfl) ?_
  refine va_tlen hx hb hZt hS rfl dJx4a65c_add_72be8_2 ?_
  refine lv_icmp_ne (tgt := 11) hx hb dJx4a65c_add_72be8_3 (by decide) (fun hc1 => absurd rfl hc1) (fun hc1 => ?_)
  refine lv_aload_n hx hb dJx4a65c_add_72be8_6 rfl (lv_at hl 0 rfl) ?_
  have hPc : va_P (dC, dI) vwCl [(h, .inr (6, [.int mc, .ref z0, .int (nI 0)]))] _ := hP.sub [0] rfl
  have hDc : va_D _ [(h, .inr (6, [.int mc, .ref z0, .int (nI 0)]))] := hD.sub [0] (by decide) rfl
  have hFc := va_free (wc := [(h, .inr (6, [.int mc, .ref z0, .int (nI 0)]))]) hD hS hA [0] rfl
  refine va_callr (va_runV (As := []) (rest := []) ⟨hx, hb, hml, hown, hts⟩ (c_algrow l dC dI cI cO z0 s.heap.size h mc) (cwV 0 hts ugJx4a65c_add_72be8_Jx4a65c_grow_d5877 rfl rfl rfl (by decide +kernel) ⟨(by first | exact Nat.le_of_ble_eq_true rfl | omega | (dsimp only [headSpec]; omega) | (simp only [headSpec]; omega) | omega), (by first | exact Nat.le_of_ble_eq_true rfl | omega | (dsimp only [headSpec]; omega) | (simp only [headSpec]; omega) | omega)⟩) ⟨fun a U g mk q => by obtain ⟨q0, q1, qP, qK, qD, qZ⟩ := q; exact ⟨q0, q1, qP, va_K.moved (u := U) (U := U.calling g mk a) (Vm.Alike.refl U.vm) qK, qD, qZ.moved (Vm.Alike.refl U.vm) rfl⟩, va_recv hK hPc (ci := 6) (q0 := 0) rfl rfl, fun U hU hW => ⟨rfl, by rw [hU], by rw [hU]; exact hPc, va_K.moved hW.alike hK, hDc.weaken (fun _ _ _ _ => trivial), uz_call hZ hS hFc hU hW.alike⟩⟩ rfl rfl hl.1 rfl (lv_room (Nat.le_of_ble_eq_true rfl)) dJx4a65c_add_72be8_7 ⟨(by first | exact Nat.le_of_ble_eq_true rfl | omega | (dsimp only [headSpec]; omega) | (simp only [headSpec]; omega) | omega), (by first | exact Nat.le_of_ble_eq_true rfl | omega | (dsimp only [headSpec]; omega) | (simp only [headSpec]; omega) | omega)⟩) hS (fun q _ h => hFc q h) hFc (fun u ed t H locs ht hvm hw hB hz1 hk1 hS => ?_)
  obtain ⟨hP1, hK1, hD1⟩ := hB
  rw [ht] at hP1
  obtain ⟨hP, hD⟩ := va_join (wr := [(x, .inr (13, [.ref xc, .int xn]))]) (w1 := [(h, .inr (6, [.int mc, .ref ed, .int (nI 0)])), wq ed cO 10 (fun _ => none)]) hP hD [0] [1] rfl rfl (by decide) (by decide) hk1 hFc hP1 hD1
  have hP : va_P (dC, dI) vwCl [(x, .inr (13, [.ref xc, .int xn])), (h, .inr (6, [.int mc, .ref ed, .int (nI 0)])), wq ed cO 10 (fun _ => none)] H := hP
  have hD : va_D A [(x, .inr (13, [.ref xc, .int xn])), (h, .inr (6, [.int mc, .ref ed, .int (nI 0)])), wq ed cO 10 (fun _ => none)] := hD
  refine W.widen (k := 1) (n := 10) (by first | exact Nat.le_of_ble_eq_true rfl | omega | (dsimp only [headSpec]; omega) | (simp only [headSpec]; omega) | omega) (by first | exact Nat.le_of_ble_eq_true rfl | omega | (dsimp only [headSpec]; omega) | (simp only [headSpec]; omega) | omega) ?_
  refine lv_astore_n (lv' := [(2, .ref ed), (0, .ref h), (1, .ref x), (3, .int (nI 0))]) hx hb dJx4a65c_add_72be8_10 rfl hl (by decide) rfl (fun ls hl => ?_)
  refine lv_aload_n hx hb dJx4a65c_add_72be8_11 rfl (lv_at hl 0 rfl) ?_
  refine lv_iload_n hx hb dJx4a65c_add_72be8_12 rfl (lv_at hl 3 rfl) ?_
  refine lv_aload_n hx hb dJx4a65c_add_72be8_13 rfl (lv_at hl 2 rfl) ?_
  refine va_astqM (D := (dC, dI)) hx hb hK hP hD hS 2 1 rfl rfl (va_rAny hK hP (q0 := 0) rfl rfl hZr) (vp_in_nI (by omega) (by omega)) dJx4a65c_add_72be8_14 (fun H locs hP hD hS => ?_)
  have hP : va_P (dC, dI) vwCl [(x, .inr (13, [.ref xc, .int xn])), (h, .inr (6, [.int mc, .ref ed, .int (nI 0)])), wq ed cO 10 (va_up (fun _ => none) (nI 0).toNatClampNeg (some x))] H := hP
  have hD : va_D A [(x, .inr (13, [.ref xc, .int xn])), (h, .inr (6, [.int mc, .ref ed, .int (nI 0)])), wq ed cO 10 (va_up (fun _ => none) (nI 0).toNatClampNeg (some x))] := hD
  refine lv_aload_n hx hb dJx4a65c_add_72be8_15 rfl (lv_at hl 1 rfl) ?_
  refine lv_iload_n hx hb dJx4a65c_add_72be8_16 rfl (lv_at hl 3 rfl) ?_
  refine lv_iconst (v := nI 1) hx hb dJx4a65c_add_72be8_17 (by decide) ?_
  refine lv_iadd hx hb dJx4a65c_add_72be8_18 ?_
  refine lv_topi (fun y_1 ey_1 => ?_)
  have h_2 : y_1 = nI 1 := ey_1.trans (nI_add 0 1)
  subst h_2
  refine va_put (D := (dC, dI)) (ci := 6) (v := .int (nI 1)) (ty := .int) (C := RJx4a65c) (T := TJx4a65c) (N := 3) hx hb hts inJx4a65c_add_72be8_RJx4a65c tyJx4a65c tyJx4a65c_ok nmJx4a65c hown hK hP hD hS 1 rfl rfl 2 (by decide) (hts (.fieldLink RJx4a65c 48 "java/util/ArrayList" "size" "I") (by decide +kernel)) (fun _ h9 => h9) rfl (by decide +kernel) rfl rfl (Nat.le_of_ble_eq_true rfl) dJx4a65c_add_72be8_19 (fun H locs hP hD hS => ?_)
  have hP : va_P (dC, dI) vwCl [(x, .inr (13, [.ref xc, .int xn])), (h, .inr (6, [.int mc, .ref ed, .int (nI 1)])), wq ed cO 10 (va_up (fun _ => none) (nI 0).toNatClampNeg (some x))] H := hP
  have hD : va_D A [(x, .inr (13, [.ref xc, .int xn])), (h, .inr (6, [.int mc, .ref ed, .int (nI 1)])), wq ed cO 10 (va_up (fun _ => none) (nI 0).toNatClampNeg (some x))] := hD
  have hPe : va_P (dC, dI) vwCl [(h, .inr (6, [.int mc, .ref ed, .int (nI 1)])), (x, .inr (13, [.ref xc, .int xn])), wq ed cO 10 (va_up (fun _ => none) (nI 0).toNatClampNeg (some x))] _ := hP.sub [1, 0, 2] rfl
  have hDe : va_D A [(h, .inr (6, [.int mc, .ref ed, .int (nI 1)])), (x, .inr (13, [.ref xc, .int xn])), wq ed cO 10 (va_up (fun _ => none) (nI 0).toNatClampNeg (some x))] := hD.sub [1, 0, 2] (by decide) rfl
  refine W.widen (k := 1) (n := 10) (by first | exact Nat.le_of_ble_eq_true rfl | omega | (dsimp only [headSpec]; omega) | (simp only [headSpec]; omega) | omega) (by first | exact Nat.le_of_ble_eq_true rfl | omega | (dsimp only [headSpec]; omega) | (simp only [headSpec]; omega) | omega) ?_
  exact W.vret hx hb hr (fun t ht hW => ⟨⟨(), rfl, trivial, _, _, va_up_self _ _ _, by rw [ht]; exact hPe, va_K.moved hW.alike hK, hDe⟩, hS.F ht⟩) hS.2.2 dJx4a65c_add_72be8_22
set_option maxHeartbeats 4000000 in
set_option maxRecDepth 100000 in
theorem c_aladdo (l : Launch) (dC : Nat → ClassId) (dI : Nat → Nat → Nat) (cI cO : ClassId) (z0 : Nat) (sz : Nat) (h : Nat) (mc : Int32) (x : Nat) (xc : Nat) (xn : Int32) : Met l yJx4a65c_add_9ea2d usJx4a65c_add_9ea2d ({ frames := 4, cells := 1, slots := 10, locals := 86 }) (va_Pc [.ref h, .ref x] (fun U => U.heap.size = sz ∧ va_P (dC, dI) vwCl [(h, .inr (6, [.int mc, .ref z0, .int (nI 0)])), (x, .inr (13, [.ref xc, .int xn]))] U.heap ∧ va_K (dC, dI) vwCl (ty0 cI cO) U ∧ va_D (fun _ => True) [(h, .inr (6, [.int mc, .ref z0, .int (nI 0)])), (x, .inr (13, [.ref xc, .int xn]))] ∧ uz z0 (va_A [(h, .inr (6, [.int mc, .ref z0, .int (nI 0)])), (x, .inr (13, [.ref xc, .int xn]))] sz) U)) (va_Qi (fun (r : Int32) (_ : Unit) => True) (fun _ t => ∃ (mc2 : Int32), ∃ (ed : Nat), ∃ (fq : Nat → Option Nat), (fq 0 = some x) ∧ va_P (dC, dI) vwCl [(h, .inr (6, [.int mc2, .ref ed, .int (nI 1)])), (x, .inr (13, [.ref xc, .int xn])), wq ed cO 10 fq] t.heap ∧ va_K (dC, dI) vwCl (ty0 cI cO) t ∧ va_D (va_A [(h, .inr (6, [.int mc, .ref z0, .int (nI 0)])), (x, .inr (13, [.ref xc, .int xn]))] sz) [(h, .inr (6, [.int mc2, .ref ed, .int (nI 1)])), (x, .inr (13, [.ref xc, .int xn])), wq ed cO 10 fq]) (va_A [(h, .inr (6, [.int mc, .ref z0, .int (nI 0)])), (x, .inr (13, [.ref xc, .int xn]))] sz)) 1 10 (va_A [(h, .inr (6, [.int mc, .ref z0, .int (nI 0)])), (x, .inr (13, [.ref xc, .int xn]))] sz) := by
  refine Met.ofW (cc := cJx4a65c_add_9ea2d) (maxL := 2) (ret := (some .boolean)) (by decide) rfl ?_
  intro p e s m args below meth c s₁ B hml hv
  obtain ⟨rfl, hsz, hP, hK, hD0, hZ⟩ := hv
  have hx := B.exec
  have hb := B.bytes
  have hr := B.returns
  have hts := atoms_spec (ws := usJx4a65c_add_9ea2d) B.pre
  have hown : s.vm.findClass RJx4a65c = some m.cls := findClass_of_methodNamed B.named
  have hlocks := B.notSynchronized
  subst hsz
  have hD := hD0.self (sz := s.heap.size)
  generalize hAe : va_A [(h, .inr (6, [.int mc, .ref z0, .int (nI 0)])), (x, .inr (13, [.ref xc, .int xn]))] s.heap.size = A at hD hZ ⊢
  have hA : ∀ q : Nat, s.heap.size ≤ q → A q := fun q h => by rw [← hAe]; exact Or.inr h
  have hS : va_S A s.heap s.heap [] := va_S.rf
  obtain ⟨hZs, ⟨fz, hZt⟩, hZo, hZr, hZi, hZc⟩ := id hZ
  have hl := lv_entry ([.ref h, .ref x]) (n := 2) (Nat.le_of_ble_eq_true rfl)
  rw [lg_entry_eq]
  generalize (lg_sl ([.ref h, .ref x]) ++ List.replicate (2 - (lg_sl ([.ref h, .ref x])).length) Slot.unset).toArray = ls at hl ⊢
  have hl : lv_has ls 2 [(0, .ref h), (1, .ref x)] := hl
  refine lv_aload_n hx hb dJx4a65c_add_9ea2d_0 rfl (lv_at hl 0 rfl) ?_
  refine lv_dup hx hb dJx4a65c_add_9ea2d_1 rfl ?_
  refine va_get (D := (dC, dI)) (ci := 6) (v := .int mc) (C := RJx4a65c) (T := TJx4a65c) (N := 3) hx hb hts inJx4a65c_add_9ea2d_RJx4a65c hown hK hP 0 rfl rfl 0 (by decide) (hts (.fieldLink RJx4a65c 63 "java/util/ArrayList" "modCount" "I") (by decide +kernel)) (u_same (hts (.sameField "java/util/ArrayList" "java/util/AbstractList" "modCount" "I") (by decide +kernel))) rfl dJx4a65c_add_9ea2d_2 ?_
  refine lv_iconst (v := nI 1) hx hb dJx4a65c_add_9ea2d_5 (by decide) ?_
  refine lv_iadd hx hb dJx4a65c_add_9ea2d_6 ?_
  refine lv_topi (fun y_1 ey_1 => ?_)
  refine va_put (D := (dC, dI)) (ci := 6) (v := .int y_1) (ty := .int) (C := RJx4a65c) (T := TJx4a65c) (N := 3) hx hb hts inJx4a65c_add_9ea2d_RJx4a65c tyJx4a65c tyJx4a65c_ok nmJx4a65c hown hK hP hD hS 0 rfl rfl 0 (by decide) (hts (.fieldLink RJx4a65c 63 "java/util/ArrayList" "modCount" "I") (by decide +kernel)) (u_same (hts (.sameField "java/util/ArrayList" "java/util/AbstractList" "modCount" "I") (by decide +kernel))) rfl (by decide +kernel) rfl rfl (Nat.le_of_ble_eq_true rfl) dJx4a65c_add_9ea2d_7 (fun H locs hP hD hS => ?_)
  have hP : va_P (dC, dI) vwCl [(h, .inr (6, [.int y_1, .ref z0, .int (nI 0)])), (x, .inr (13, [.ref xc, .int xn]))] H := hP
  have hD : va_D A [(h, .inr (6, [.int y_1, .ref z0, .int (nI 0)])), (x, .inr (13, [.ref xc, .int xn]))] := hD
  refine lv_aload_n hx hb dJx4a65c_add_9ea2d_10 rfl (lv_at hl 0 rfl) ?_
  refine lv_aload_n hx hb dJx4a65c_add_9ea2d_11 rfl (lv_at hl 1 rfl) ?_
  refine lv_aload_n hx hb dJx4a65c_add_9ea2d_12 rfl (lv_at hl 0 rfl) ?_
  refine va_get (D := (dC, dI)) (ci := 6) (v := .ref z0) (C := RJx4a65c) (T := TJx4a65c) (N := 3) hx hb hts inJx4a65c_add_9ea2d_RJx4a65c hown hK hP 0 rfl rfl 1 (by decide) (hts (.fieldLink RJx4a65c 9 "java/util/ArrayList" "elementData" "[Ljava/lang/Object;") (by decide +kernel)) (fun _ h9 => h9) rfl dJx4a65c_add_9ea2d_13 ?_
  refine lv_aload_n hx hb dJx4a65c_add_9ea2d_16 rfl (lv_at hl 0 rfl) ?_
  refine va_get (D := (dC, dI)) (ci := 6) (v := .int (nI 0)) (C := RJx4a65c) (T := TJx4a65c) (N := 3) hx hb hts inJx4a65c_add_9ea2d_RJx4a65c hown hK hP 0 rfl rfl 2 (by decide) (hts (.fieldLink RJx4a65c 48 "java/util/ArrayList" "size" "I") (by decide +kernel)) (fun _ h9 => h9) rfl dJx4a65c_add_9ea2d_17 ?_
  have hPc : va_P (dC, dI) vwCl [(h, .inr (6, [.int y_1, .ref z0, .int (nI 0)])), (x, .inr (13, [.ref xc, .int xn]))] _ := hP.sub [0, 1] rfl
  have hDc : va_D _ [(h, .inr (6, [.int y_1, .ref z0, .int (nI 0)])), (x, .inr (13, [.ref xc, .int xn]))] := hD.sub [0, 1] (by decide) rfl
  have hFc := va_free (wc := [(h, .inr (6, [.int y_1, .ref z0, .int (nI 0)])), (x, .inr (13, [.ref xc, .int xn]))]) hD hS hA [0, 1] rfl
  refine va_callv (va_runV (As := [.ref x, .ref z0, .int (nI 0)]) (rest := []) ⟨hx, hb, hml, hown, hts⟩ (c_aladd3o l dC dI cI cO z0 H.size h y_1 x xc xn) (cwV 3 hts ugJx4a65c_add_9ea2d_Jx4a65c_add_72be8 rfl rfl rfl (by decide +kernel) ⟨(by first | exact Nat.le_of_ble_eq_true rfl | omega | (dsimp only [headSpec]; omega) | (simp only [headSpec]; omega) | omega), (by first | exact Nat.le_of_ble_eq_true rfl | omega | (dsimp only [headSpec]; omega) | (simp only [headSpec]; omega) | omega)⟩) ⟨fun a U g mk q => by obtain ⟨q0, q1, qP, qK, qD, qZ⟩ := q; exact ⟨q0, q1, qP, va_K.moved (u := U) (U := U.calling g mk a) (Vm.Alike.refl U.vm) qK, qD, qZ.moved (Vm.Alike.refl U.vm) rfl⟩, va_recv hK hPc (ci := 6) (q0 := 0) rfl rfl, fun U hU hW => ⟨rfl, by rw [hU], by rw [hU]; exact hPc, va_K.moved hW.alike hK, hDc.weaken (fun _ _ _ _ => trivial), uz_call hZ hS hFc hU hW.alike⟩⟩ rfl rfl hl.1 rfl (lv_room (Nat.le_of_ble_eq_true rfl)) dJx4a65c_add_9ea2d_20 ⟨(by first | exact Nat.le_of_ble_eq_true rfl | omega | (dsimp only [headSpec]; omega) | (simp only [headSpec]; omega) | omega), (by first | exact Nat.le_of_ble_eq_true rfl | omega | (dsimp only [headSpec]; omega) | (simp only [headSpec]; omega) | omega)⟩) hS (fun q _ h => hFc q h) hFc (fun u t H locs ht hvm hw hB hz1 hk1 hS => ?_)
  obtain ⟨ed, fq, hfq, hP1, hK1, hD1⟩ := hB
  rw [ht] at hP1
  obtain ⟨hP, hD⟩ := va_join (wr := []) (w1 := [(h, .inr (6, [.int y_1, .ref ed, .int (nI 1)])), (x, .inr (13, [.ref xc, .int xn])), wq ed cO 10 fq]) hP hD [0, 1] [] rfl rfl (by decide) (by decide) hk1 hFc hP1 hD1
  have hP : va_P (dC, dI) vwCl [(h, .inr (6, [.int y_1, .ref ed, .int (nI 1)])), (x, .inr (13, [.ref xc, .int xn])), wq ed cO 10 fq] H := hP
  have hD : va_D A [(h, .inr (6, [.int y_1, .ref ed, .int (nI 1)])), (x, .inr (13, [.ref xc, .int xn])), wq ed cO 10 fq] := hD
  refine W.widen (k := 1) (n := 10) (by first | exact Nat.le_of_ble_eq_true rfl | omega | (dsimp only [headSpec]; omega) | (simp only [headSpec]; omega) | omega) (by first | exact Nat.le_of_ble_eq_true rfl | omega | (dsimp only [headSpec]; omega) | (simp only [headSpec]; omega) | omega) ?_
  refine lv_iconst (v := nI 1) hx hb dJx4a65c_add_9ea2d_23 (by decide) ?_
  have hPe : va_P (dC, dI) vwCl [(h, .inr (6, [.int y_1, .ref ed, .int (nI 1)])), (x, .inr (13, [.ref xc, .int xn])), wq ed cO 10 fq] _ := hP.sub [0, 1, 2] rfl
  have hDe : va_D A [(h, .inr (6, [.int y_1, .ref ed, .int (nI 1)])), (x, .inr (13, [.ref xc, .int xn])), wq ed cO 10 fq] := hD.sub [0, 1, 2] (by decide) rfl
  refine W.widen (k := 1) (n := 10) (by first | exact Nat.le_of_ble_eq_true rfl | omega | (dsimp only [headSpec]; omega) | (simp only [headSpec]; omega) | omega) (by first | exact Nat.le_of_ble_eq_true rfl | omega | (dsimp only [headSpec]; omega) | (simp only [headSpec]; omega) | omega) ?_
  exact W.zret (v := nI 1) hx hb hr rfl (fun t ht hW => ⟨⟨_, (), rfl, trivial, _, _, _, hfq, by rw [ht]; exact hPe, va_K.moved hW.alike hK, hDe⟩, hS.F ht⟩) hS.2.2 dJx4a65c_add_9ea2d_24
set_option maxHeartbeats 4000000 in
set_option maxRecDepth 100000 in
theorem c_aladd3i (l : Launch) (dC : Nat → ClassId) (dI : Nat → Nat → Nat) (cI cO : ClassId) (z0 : Nat) (sz : Nat) (h : Nat) (mc : Int32) (x : Nat) (xn : Nat) (xf : Nat → Int32) : Met l yJx4a65c_add_72be8 usJx4a65c_add_72be8 ({ frames := 3, cells := 1, slots := 10, locals := 63 }) (va_Pc [.ref h, .ref x, .ref z0, .int (nI 0)] (fun U => U.heap.size = sz ∧ va_P (dC, dI) vwCl [(h, .inr (6, [.int mc, .ref z0, .int (nI 0)])), wa x cI xn xf] U.heap ∧ va_K (dC, dI) vwCl (ty0 cI cO) U ∧ va_D (fun _ => True) [(h, .inr (6, [.int mc, .ref z0, .int (nI 0)])), wa x cI xn xf] ∧ uz z0 (va_A [(h, .inr (6, [.int mc, .ref z0, .int (nI 0)])), wa x cI xn xf] sz) U)) (va_Qv (fun _ : Unit => True) (fun _ t => ∃ (ed : Nat), ∃ (fq : Nat → Option Nat), (fq 0 = some x) ∧ va_P (dC, dI) vwCl [(h, .inr (6, [.int mc, .ref ed, .int (nI 1)])), wa x cI xn xf, wq ed cO 10 fq] t.heap ∧ va_K (dC, dI) vwCl (ty0 cI cO) t ∧ va_D (va_A [(h, .inr (6, [.int mc, .ref z0, .int (nI 0)])), wa x cI xn xf] sz) [(h, .inr (6, [.int mc, .ref ed, .int (nI 1)])), wa x cI xn xf, wq ed cO 10 fq]) (va_A [(h, .inr (6, [.int mc, .ref z0, .int (nI 0)])), wa x cI xn xf] sz)) 1 10 (va_A [(h, .inr (6, [.int mc, .ref z0, .int (nI 0)])), wa x cI xn xf] sz) := by
  refine Met.ofW (cc := cJx4a65c_add_72be8) (maxL := 4) (ret := none) (by decide) rfl ?_
  intro p e s m args below meth c s₁ B hml hv
  obtain ⟨rfl, hsz, hP, hK, hD0, hZ⟩ := hv
  have hx := B.exec
  have hb := B.bytes
  have hr := B.returns
  have hts := atoms_spec (ws := usJx4a65c_add_72be8) B.pre
  have hown : s.vm.findClass RJx4a65c = some m.cls := findClass_of_methodNamed B.named
  have hlocks := B.notSynchronized
  subst hsz
  have hD := hD0.self (sz := s.heap.size)
  generalize hAe : va_A [(h, .inr (6, [.int mc, .ref z0, .int (nI 0)])), wa x cI xn xf] s.heap.size = A at hD hZ ⊢
  have hA : ∀ q : Nat, s.heap.size ≤ q → A q := fun q h => by rw [← hAe]; exact Or.inr h
  have hS : va_S A s.heap s.heap [] := va_S.rf
  obtain ⟨hZs, ⟨fz, hZt⟩, hZo, hZr, hZi, hZc⟩ := id hZ
  have hl := lv_entry ([.ref h, .ref x, .ref z0, .int (nI 0)]) (n := 4) (Nat.le_of_ble_eq_true rfl)
  rw [lg_entry_eq]
  generalize (lg_sl ([.ref h, .ref x, .ref z0, .int (nI 0)]) ++ List.replicate (4 - (lg_sl ([.ref h, .ref x, .ref z0, .int (nI 0)])).length) Slot.unset).toArray = ls at hl ⊢
  have hl : lv_has ls 4 [(0, .ref h), (1, .ref x), (2, .ref z0), (3, .int (nI 0))] := hl
  refine lv_iload_n hx hb dJx4a65c_add_72be8_0 rfl (lv_at hl 3 rfl) ?_
  refine lv_aload_n hx hb dJx4a65c_add_72be8_1 rfl (lv_at hl 2 rfl) ?_
  refine va_tlen hx hb hZt hS rfl dJx4a65c_add_72be8_2 ?_
  refine lv_icmp_ne (tgt := 11) hx hb dJx4a65c_add_72be8_3 (by decide) (fun hc1 => absurd rfl hc1) (fun hc1 => ?_)
  refine lv_aload_n hx hb dJx4a65c_add_72be8_6 rfl (lv_at hl 0 rfl) ?_
  have hPc : va_P (dC, dI) vwCl [(h, .inr (6, [.int mc, .ref z0, .int (nI 0)]))] _ := hP.sub [0] rfl
  have hDc : va_D _ [(h, .inr (6, [.int mc, .ref z0, .int (nI 0)]))] := hD.sub [0] (by decide) rfl
  have hFc := va_free (wc := [(h, .inr (6, [.int mc, .ref z0, .int (nI 0)]))]) hD hS hA [0] rfl
  refine va_callr (va_runV (As := []) (rest := []) ⟨hx, hb, hml, hown, hts⟩ (c_algrow l dC dI cI cO z0 s.heap.size h mc) (cwV 0 hts ugJx4a65c_add_72be8_Jx4a65c_grow_d5877 rfl rfl rfl (by decide +kernel) ⟨(by first | exact Nat.le_of_ble_eq_true rfl | omega | (dsimp only [headSpec]; omega) | (simp only [headSpec]; omega) | omega), (by first | exact Nat.le_of_ble_eq_true rfl | omega | (dsimp only [headSpec]; omega) | (simp only [headSpec]; omega) | omega)⟩) ⟨fun a U g mk q => by obtain ⟨q0, q1, qP, qK, qD, qZ⟩ := q; exact ⟨q0, q1, qP, va_K.moved (u := U) (U := U.calling g mk a) (Vm.Alike.refl U.vm) qK, qD, qZ.moved (Vm.Alike.refl U.vm) rfl⟩, va_recv hK hPc (ci := 6) (q0 := 0) rfl rfl, fun U hU hW => ⟨rfl, by rw [hU], by rw [hU]; exact hPc, va_K.moved hW.alike hK, hDc.weaken (fun _ _ _ _ => trivial), uz_call hZ hS hFc hU hW.alike⟩⟩ rfl rfl hl.1 rfl (lv_room (Nat.le_of_ble_eq_true rfl)) dJx4a65c_add_72be8_7 ⟨(by first | exact Nat.le_of_ble_eq_true rfl | omega | (dsimp only [headSpec]; omega) | (simp only [headSpec]; omega) | omega), (by first | exact Nat.le_of_ble_eq_true rfl | omega | (dsimp only [headSpec]; omega) | (simp only [headSpec]; omega) | omega)⟩) hS (fun q _ h => hFc q h) hFc (fun u ed t H locs ht hvm hw hB hz1 hk1 hS => ?_)
  obtain ⟨hP1, hK1, hD1⟩ := hB
  rw [ht] at hP1
  obtain ⟨hP, hD⟩ := va_join (wr := [wa x cI xn xf]) (w1 := [(h, .inr (6, [.int mc, .ref ed, .int (nI 0)])), wq ed cO 10 (fun _ => none)]) hP hD [0] [1] rfl rfl (by decide) (by decide) hk1 hFc hP1 hD1
  have hP : va_P (dC, dI) vwCl [wa x cI xn xf, (h, .inr (6, [.int mc, .ref ed, .int (nI 0)])), wq ed cO 10 (fun _ => none)] H := hP
  have hD : va_D A [wa x cI xn xf, (h, .inr (6, [.int mc, .ref ed, .int (nI 0)])), wq ed cO 10 (fun _ => none)] := hD
  refine W.widen (k := 1) (n := 10) (by first | exact Nat.le_of_ble_eq_true rfl | omega | (dsimp only [headSpec]; omega) | (simp only [headSpec]; omega) | omega) (by first | exact Nat.le_of_ble_eq_true rfl | omega | (dsimp only [headSpec]; omega) | (simp only [headSpec]; omega) | omega) ?_
  refine lv_astore_n (lv' := [(2, .ref ed), (0, .ref h), (1, .ref x), (3, .int (nI 0))]) hx hb dJx4a65c_add_72be8_10 rfl hl (by decide) rfl (fun ls hl => ?_)
  refine lv_aload_n hx hb dJx4a65c_add_72be8_11 rfl (lv_at hl 0 rfl) ?_
  refine lv_iload_n hx hb dJx4a65c_add_72be8_12 rfl (lv_at hl 3 rfl) ?_
  refine lv_aload_n hx hb dJx4a65c_add_72be8_13 rfl (lv_at hl 2 rfl) ?_
  refine va_astqM (D := (dC, dI)) hx hb hK hP hD hS 2 1 rfl rfl (uA_int (t0 := 0) (q0 := 0) hK hP rfl rfl hZi) (vp_in_nI (by omega) (by omega)) dJx4a65c_add_72be8_14 (fun H locs hP hD hS => ?_)
  have hP : va_P (dC, dI) vwCl [wa x cI xn xf, (h, .inr (6, [.int mc, .ref ed, .int (nI 0)])), wq ed cO 10 (va_up (fun _ => none) (nI 0).toNatClampNeg (some x))] H := hP
  have hD : va_D A [wa x cI xn xf, (h, .inr (6, [.int mc, .ref ed, .int (nI 0)])), wq ed cO 10 (va_up (fun _ => none) (nI 0).toNatClampNeg (some x))] := hD
  refine lv_aload_n hx hb dJx4a65c_add_72be8_15 rfl (lv_at hl 1 rfl) ?_
  refine lv_iload_n hx hb dJx4a65c_add_72be8_16 rfl (lv_at hl 3 rfl) ?_
  refine lv_iconst (v := nI 1) hx hb dJx4a65c_add_72be8_17 (by decide) ?_
  refine lv_iadd hx hb dJx4a65c_add_72be8_18 ?_
  refine lv_topi (fun y_1 ey_1 => ?_)
  have h_2 : y_1 = nI 1 := ey_1.trans (nI_add 0 1)
  subst h_2
  refine va_put (D := (dC, dI)) (ci := 6) (v := .int (nI 1)) (ty := .int) (C := RJx4a65c) (T := TJx4a65c) (N := 3) hx hb hts inJx4a65c_add_72be8_RJx4a65c tyJx4a65c tyJx4a65c_ok nmJx4a65c hown hK hP hD hS 1 rfl rfl 2 (by decide) (hts (.fieldLink RJx4a65c 48 "java/util/ArrayList" "size" "I") (by decide +kernel)) (fun _ h9 => h9) rfl (by decide +kernel) rfl rfl (Nat.le_of_ble_eq_true rfl) dJx4a65c_add_72be8_19 (fun H locs hP hD hS => ?_)
  have hP : va_P (dC, dI) vwCl [wa x cI xn xf, (h, .inr (6, [.int mc, .ref ed, .int (nI 1)])), wq ed cO 10 (va_up (fun _ => none) (nI 0).toNatClampNeg (some x))] H := hP
  have hD : va_D A [wa x cI xn xf, (h, .inr (6, [.int mc, .ref ed, .int (nI 1)])), wq ed cO 10 (va_up (fun _ => none) (nI 0).toNatClampNeg (some x))] := hD
  have hPe : va_P (dC, dI) vwCl [(h, .inr (6, [.int mc, .ref ed, .int (nI 1)])), wa x cI xn xf, wq ed cO 10 (va_up (fun _ => none) (nI 0).toNatClampNeg (some x))] _ := hP.sub [1, 0, 2] rfl
  have hDe : va_D A [(h, .inr (6, [.int mc, .ref ed, .int (nI 1)])), wa x cI xn xf, wq ed cO 10 (va_up (fun _ => none) (nI 0).toNatClampNeg (some x))] := hD.sub [1, 0, 2] (by decide) rfl
  refine W.widen (k := 1) (n := 10) (by first | exact Nat.le_of_ble_eq_true rfl | omega | (dsimp only [headSpec]; omega) | (simp only [headSpec]; omega) | omega) (by first | exact Nat.le_of_ble_eq_true rfl | omega | (dsimp only [headSpec]; omega) | (simp only [headSpec]; omega) | omega) ?_
  exact W.vret hx hb hr (fun t ht hW => ⟨⟨(), rfl, trivial, _, _, va_up_self _ _ _, by rw [ht]; exact hPe, va_K.moved hW.alike hK, hDe⟩, hS.F ht⟩) hS.2.2 dJx4a65c_add_72be8_22
set_option maxHeartbeats 4000000 in
set_option maxRecDepth 100000 in
theorem c_aladdi (l : Launch) (dC : Nat → ClassId) (dI : Nat → Nat → Nat) (cI cO : ClassId) (z0 : Nat) (sz : Nat) (h : Nat) (mc : Int32) (x : Nat) (xn : Nat) (xf : Nat → Int32) : Met l yJx4a65c_add_9ea2d usJx4a65c_add_9ea2d ({ frames := 4, cells := 1, slots := 10, locals := 86 }) (va_Pc [.ref h, .ref x] (fun U => U.heap.size = sz ∧ va_P (dC, dI) vwCl [(h, .inr (6, [.int mc, .ref z0, .int (nI 0)])), wa x cI xn xf] U.heap ∧ va_K (dC, dI) vwCl (ty0 cI cO) U ∧ va_D (fun _ => True) [(h, .inr (6, [.int mc, .ref z0, .int (nI 0)])), wa x cI xn xf] ∧ uz z0 (va_A [(h, .inr (6, [.int mc, .ref z0, .int (nI 0)])), wa x cI xn xf] sz) U)) (va_Qi (fun (r : Int32) (_ : Unit) => True) (fun _ t => ∃ (mc2 : Int32), ∃ (ed : Nat), ∃ (fq : Nat → Option Nat), (fq 0 = some x) ∧ va_P (dC, dI) vwCl [(h, .inr (6, [.int mc2, .ref ed, .int (nI 1)])), wa x cI xn xf, wq ed cO 10 fq] t.heap ∧ va_K (dC, dI) vwCl (ty0 cI cO) t ∧ va_D (va_A [(h, .inr (6, [.int mc, .ref z0, .int (nI 0)])), wa x cI xn xf] sz) [(h, .inr (6, [.int mc2, .ref ed, .int (nI 1)])), wa x cI xn xf, wq ed cO 10 fq]) (va_A [(h, .inr (6, [.int mc, .ref z0, .int (nI 0)])), wa x cI xn xf] sz)) 1 10 (va_A [(h, .inr (6, [.int mc, .ref z0, .int (nI 0)])), wa x cI xn xf] sz) := by
  refine Met.ofW (cc := cJx4a65c_add_9ea2d) (maxL := 2) (ret := (some .boolean)) (by decide) rfl ?_
  intro p e s m args below meth c s₁ B hml hv
  obtain ⟨rfl, hsz, hP, hK, hD0, hZ⟩ := hv
  have hx := B.exec
  have hb := B.bytes
  have hr := B.returns
  have hts := atoms_spec (ws := usJx4a65c_add_9ea2d) B.pre
  have hown : s.vm.findClass RJx4a65c = some m.cls := findClass_of_methodNamed B.named
  have hlocks := B.notSynchronized
  subst hsz
  have hD := hD0.self (sz := s.heap.size)
  generalize hAe : va_A [(h, .inr (6, [.int mc, .ref z0, .int (nI 0)])), wa x cI xn xf] s.heap.size = A at hD hZ ⊢
  have hA : ∀ q : Nat, s.heap.size ≤ q → A q := fun q h => by rw [← hAe]; exact Or.inr h
  have hS : va_S A s.heap s.heap [] := va_S.rf
  obtain ⟨hZs, ⟨fz, hZt⟩, hZo, hZr, hZi, hZc⟩ := id hZ
  have hl := lv_entry ([.ref h, .ref x]) (n := 2) (Nat.le_of_ble_eq_true rfl)
  rw [lg_entry_eq]
  generalize (lg_sl ([.ref h, .ref x]) ++ List.replicate (2 - (lg_sl ([.ref h, .ref x])).length) Slot.unset).toArray = ls at hl ⊢
  have hl : lv_has ls 2 [(0, .ref h), (1, .ref x)] := hl
  refine lv_aload_n hx hb dJx4a65c_add_9ea2d_0 rfl (lv_at hl 0 rfl) ?_
  refine lv_dup hx hb dJx4a65c_add_9ea2d_1 rfl ?_
  refine va_get (D := (dC, dI)) (ci := 6) (v := .int mc) (C := RJx4a65c) (T := TJx4a65c) (N := 3) hx hb hts inJx4a65c_add_9ea2d_RJx4a65c hown hK hP 0 rfl rfl 0 (by decide) (hts (.fieldLink RJx4a65c 63 "java/util/ArrayList" "modCount" "I") (by decide +kernel)) (u_same (hts (.sameField "java/util/ArrayList" "java/util/AbstractList" "modCount" "I") (by decide +kernel))) rfl dJx4a65c_add_9ea2d_2 ?_
  refine lv_iconst (v := nI 1) hx hb dJx4a65c_add_9ea2d_5 (by decide) ?_
  refine lv_iadd hx hb dJx4a65c_add_9ea2d_6 ?_
  refine lv_topi (fun y_1 ey_1 => ?_)
  refine va_put (D := (dC, dI)) (ci := 6) (v := .int y_1) (ty := .int) (C := RJx4a65c) (T := TJx4a65c) (N := 3) hx hb hts inJx4a65c_add_9ea2d_RJx4a65c tyJx4a65c tyJx4a65c_ok nmJx4a65c hown hK hP hD hS 0 rfl rfl 0 (by decide) (hts (.fieldLink RJx4a65c 63 "java/util/ArrayList" "modCount" "I") (by decide +kernel)) (u_same (hts (.sameField "java/util/ArrayList" "java/util/AbstractList" "modCount" "I") (by decide +kernel))) rfl (by decide +kernel) rfl rfl (Nat.le_of_ble_eq_true rfl) dJx4a65c_add_9ea2d_7 (fun H locs hP hD hS => ?_)
  have hP : va_P (dC, dI) vwCl [(h, .inr (6, [.int y_1, .ref z0, .int (nI 0)])), wa x cI xn xf] H := hP
  have hD : va_D A [(h, .inr (6, [.int y_1, .ref z0, .int (nI 0)])), wa x cI xn xf] := hD
  refine lv_aload_n hx hb dJx4a65c_add_9ea2d_10 rfl (lv_at hl 0 rfl) ?_
  refine lv_aload_n hx hb dJx4a65c_add_9ea2d_11 rfl (lv_at hl 1 rfl) ?_
  refine lv_aload_n hx hb dJx4a65c_add_9ea2d_12 rfl (lv_at hl 0 rfl) ?_
  refine va_get (D := (dC, dI)) (ci := 6) (v := .ref z0) (C := RJx4a65c) (T := TJx4a65c) (N := 3) hx hb hts inJx4a65c_add_9ea2d_RJx4a65c hown hK hP 0 rfl rfl 1 (by decide) (hts (.fieldLink RJx4a65c 9 "java/util/ArrayList" "elementData" "[Ljava/lang/Object;") (by decide +kernel)) (fun _ h9 => h9) rfl dJx4a65c_add_9ea2d_13 ?_
  refine lv_aload_n hx hb dJx4a65c_add_9ea2d_16 rfl (lv_at hl 0 rfl) ?_
  refine va_get (D := (dC, dI)) (ci := 6) (v := .int (nI 0)) (C := RJx4a65c) (T := TJx4a65c) (N := 3) hx hb hts inJx4a65c_add_9ea2d_RJx4a65c hown hK hP 0 rfl rfl 2 (by decide) (hts (.fieldLink RJx4a65c 48 "java/util/ArrayList" "size" "I") (by decide +kernel)) (fun _ h9 => h9) rfl dJx4a65c_add_9ea2d_17 ?_
  have hPc : va_P (dC, dI) vwCl [(h, .inr (6, [.int y_1, .ref z0, .int (nI 0)])), wa x cI xn xf] _ := hP.sub [0, 1] rfl
  have hDc : va_D _ [(h, .inr (6, [.int y_1, .ref z0, .int (nI 0)])), wa x cI xn xf] := hD.sub [0, 1] (by decide) rfl
  have hFc := va_free (wc := [(h, .inr (6, [.int y_1, .ref z0, .int (nI 0)])), wa x cI xn xf]) hD hS hA [0, 1] rfl
  refine va_callv (va_runV (As := [.ref x, .ref z0, .int (nI 0)]) (rest := []) ⟨hx, hb, hml, hown, hts⟩ (c_aladd3i l dC dI cI cO z0 H.size h y_1 x xn xf) (cwV 3 hts ugJx4a65c_add_9ea2d_Jx4a65c_add_72be8 rfl rfl rfl (by decide +kernel) ⟨(by first | exact Nat.le_of_ble_eq_true rfl | omega | (dsimp only [headSpec]; omega) | (simp only [headSpec]; omega) | omega), (by first | exact Nat.le_of_ble_eq_true rfl | omega | (dsimp only [headSpec]; omega) | (simp only [headSpec]; omega) | omega)⟩) ⟨fun a U g mk q => by obtain ⟨q0, q1, qP, qK, qD, qZ⟩ := q; exact ⟨q0, q1, qP, va_K.moved (u := U) (U := U.calling g mk a) (Vm.Alike.refl U.vm) qK, qD, qZ.moved (Vm.Alike.refl U.vm) rfl⟩, va_recv hK hPc (ci := 6) (q0 := 0) rfl rfl, fun U hU hW => ⟨rfl, by rw [hU], by rw [hU]; exact hPc, va_K.moved hW.alike hK, hDc.weaken (fun _ _ _ _ => trivial), uz_call hZ hS hFc hU hW.alike⟩⟩ rfl rfl hl.1 rfl (lv_room (Nat.le_of_ble_eq_true rfl)) dJx4a65c_add_9ea2d_20 ⟨(by first | exact Nat.le_of_ble_eq_true rfl | omega | (dsimp only [headSpec]; omega) | (simp only [headSpec]; omega) | omega), (by first | exact Nat.le_of_ble_eq_true rfl | omega | (dsimp only [headSpec]; omega) | (simp only [headSpec]; omega) | omega)⟩) hS (fun q _ h => hFc q h) hFc (fun u t H locs ht hvm hw hB hz1 hk1 hS => ?_)
  obtain ⟨ed, fq, hfq, hP1, hK1, hD1⟩ := hB
  rw [ht] at hP1
  obtain ⟨hP, hD⟩ := va_join (wr := []) (w1 := [(h, .inr (6, [.int y_1, .ref ed, .int (nI 1)])), wa x cI xn xf, wq ed cO 10 fq]) hP hD [0, 1] [] rfl rfl (by decide) (by decide) hk1 hFc hP1 hD1
  have hP : va_P (dC, dI) vwCl [(h, .inr (6, [.int y_1, .ref ed, .int (nI 1)])), wa x cI xn xf, wq ed cO 10 fq] H := hP
  have hD : va_D A [(h, .inr (6, [.int y_1, .ref ed, .int (nI 1)])), wa x cI xn xf, wq ed cO 10 fq] := hD
  refine W.widen (k := 1) (n := 10) (by first | exact Nat.le_of_ble_eq_true rfl | omega | (dsimp only [headSpec]; omega) | (simp only [headSpec]; omega) | omega) (by first | exact Nat.le_of_ble_eq_true rfl | omega | (dsimp only [headSpec]; omega) | (simp only [headSpec]; omega) | omega) ?_
  refine lv_iconst (v := nI 1) hx hb dJx4a65c_add_9ea2d_23 (by decide) ?_
  have hPe : va_P (dC, dI) vwCl [(h, .inr (6, [.int y_1, .ref ed, .int (nI 1)])), wa x cI xn xf, wq ed cO 10 fq] _ := hP.sub [0, 1, 2] rfl
  have hDe : va_D A [(h, .inr (6, [.int y_1, .ref ed, .int (nI 1)])), wa x cI xn xf, wq ed cO 10 fq] := hD.sub [0, 1, 2] (by decide) rfl
  refine W.widen (k := 1) (n := 10) (by first | exact Nat.le_of_ble_eq_true rfl | omega | (dsimp only [headSpec]; omega) | (simp only [headSpec]; omega) | omega) (by first | exact Nat.le_of_ble_eq_true rfl | omega | (dsimp only [headSpec]; omega) | (simp only [headSpec]; omega) | omega) ?_
  exact W.zret (v := nI 1) hx hb hr rfl (fun t ht hW => ⟨⟨_, (), rfl, trivial, _, _, _, hfq, by rw [ht]; exact hPe, va_K.moved hW.alike hK, hDe⟩, hS.F ht⟩) hS.2.2 dJx4a65c_add_9ea2d_24
end
section
/-! laid by wip/whole: names, words and decode rows from the print of the task; the contracts are told in wip/whole/*.py -/
theorem dJ5_init_d00df_0 : decode cJ5_init_d00df 0 = .ok (.aload_n 0, 1) := by decide +kernel
theorem dJ5_init_d00df_1 : decode cJ5_init_d00df 1 = .ok (.invokespecial 3, 3) := by decide +kernel
theorem dJ5_init_d00df_4 : decode cJ5_init_d00df 4 = .ok (.getstatic 18, 3) := by decide +kernel
theorem dJ5_init_d00df_7 : decode cJ5_init_d00df 7 = .ok (.ifCond .eq 18, 3) := by decide +kernel
theorem dJ5_init_d00df_10 : decode cJ5_init_d00df 10 = .ok (.aload_n 0, 1) := by decide +kernel
theorem dJ5_init_d00df_11 : decode cJ5_init_d00df 11 = .ok (.iload_n 1, 1) := by decide +kernel
theorem dJ5_init_d00df_12 : decode cJ5_init_d00df 12 = .ok (.newarray .byte, 2) := by decide +kernel
theorem dJ5_init_d00df_14 : decode cJ5_init_d00df 14 = .ok (.putfield 15, 3) := by decide +kernel
theorem dJ5_init_d00df_17 : decode cJ5_init_d00df 17 = .ok (.aload_n 0, 1) := by decide +kernel
theorem dJ5_init_d00df_18 : decode cJ5_init_d00df 18 = .ok (.iconst 0, 1) := by decide +kernel
theorem dJ5_init_d00df_19 : decode cJ5_init_d00df 19 = .ok (.putfield 22, 3) := by decide +kernel
theorem dJ5_init_d00df_22 : decode cJ5_init_d00df 22 = .ok (.goto 16, 3) := by decide +kernel
theorem dJ5_init_d00df_25 : decode cJ5_init_d00df 25 = .ok (.aload_n 0, 1) := by decide +kernel
theorem dJ5_init_d00df_26 : decode cJ5_init_d00df 26 = .ok (.iload_n 1, 1) := by decide +kernel
theorem dJ5_init_d00df_27 : decode cJ5_init_d00df 27 = .ok (.invokestatic 26, 3) := by decide +kernel
theorem dJ5_init_d00df_30 : decode cJ5_init_d00df 30 = .ok (.putfield 15, 3) := by decide +kernel
theorem dJ5_init_d00df_33 : decode cJ5_init_d00df 33 = .ok (.aload_n 0, 1) := by decide +kernel
theorem dJ5_init_d00df_34 : decode cJ5_init_d00df 34 = .ok (.iconst 1, 1) := by decide +kernel
theorem dJ5_init_d00df_35 : decode cJ5_init_d00df 35 = .ok (.putfield 22, 3) := by decide +kernel
theorem dJ5_init_d00df_38 : decode cJ5_init_d00df 38 = .ok (.return_, 1) := by decide +kernel
theorem dJ4_init_da8c8_0 : decode cJ4_init_da8c8 0 = .ok (.aload_n 0, 1) := by decide +kernel
theorem dJ4_init_da8c8_1 : decode cJ4_init_da8c8 1 = .ok (.bipush 16, 2) := by decide +kernel
theorem dJ4_init_da8c8_3 : decode cJ4_init_da8c8 3 = .ok (.invokespecial 1, 3) := by decide +kernel
theorem dJ4_init_da8c8_6 : decode cJ4_init_da8c8 6 = .ok (.return_, 1) := by decide +kernel
theorem dX7_init_0 : decode cX7_init 0 = .ok (.aload_n 0, 1) := by decide +kernel
theorem dX7_init_1 : decode cX7_init 1 = .ok (.invokespecial 3, 3) := by decide +kernel
theorem dX7_init_4 : decode cX7_init 4 = .ok (.aload_n 0, 1) := by decide +kernel
theorem dX7_init_5 : decode cX7_init 5 = .ok (.new 9, 3) := by decide +kernel
theorem dX7_init_8 : decode cX7_init 8 = .ok (.dup, 1) := by decide +kernel
theorem dX7_init_9 : decode cX7_init 9 = .ok (.sipush 270, 3) := by decide +kernel
theorem dX7_init_12 : decode cX7_init 12 = .ok (.invokespecial 11, 3) := by decide +kernel
theorem dX7_init_15 : decode cX7_init 15 = .ok (.putfield 14, 3) := by decide +kernel
theorem dX7_init_18 : decode cX7_init 18 = .ok (.aload_n 0, 1) := by decide +kernel
theorem dX7_init_19 : decode cX7_init 19 = .ok (.new 9, 3) := by decide +kernel
theorem dX7_init_22 : decode cX7_init 22 = .ok (.dup, 1) := by decide +kernel
theorem dX7_init_23 : decode cX7_init 23 = .ok (.sipush 270, 3) := by decide +kernel
theorem dX7_init_26 : decode cX7_init 26 = .ok (.invokespecial 11, 3) := by decide +kernel
theorem dX7_init_29 : decode cX7_init 29 = .ok (.putfield 20, 3) := by decide +kernel
theorem dX7_init_32 : decode cX7_init 32 = .ok (.return_, 1) := by decide +kernel
theorem dX1_init_0 : decode cX1_init 0 = .ok (.aload_n 0, 1) := by decide +kernel
theorem dX1_init_1 : decode cX1_init 1 = .ok (.invokespecial 1, 3) := by decide +kernel
theorem dX1_init_4 : decode cX1_init 4 = .ok (.aload_n 0, 1) := by decide +kernel
theorem dX1_init_5 : decode cX1_init 5 = .ok (.new 7, 3) := by decide +kernel
theorem dX1_init_8 : decode cX1_init 8 = .ok (.dup, 1) := by decide +kernel
theorem dX1_init_9 : decode cX1_init 9 = .ok (.invokespecial 9, 3) := by decide +kernel
theorem dX1_init_12 : decode cX1_init 12 = .ok (.putfield 10, 3) := by decide +kernel
theorem dX1_init_15 : decode cX1_init 15 = .ok (.aload_n 0, 1) := by decide +kernel
theorem dX1_init_16 : decode cX1_init 16 = .ok (.new 7, 3) := by decide +kernel
theorem dX1_init_19 : decode cX1_init 19 = .ok (.dup, 1) := by decide +kernel
theorem dX1_init_20 : decode cX1_init 20 = .ok (.invokespecial 9, 3) := by decide +kernel
theorem dX1_init_23 : decode cX1_init 23 = .ok (.putfield 16, 3) := by decide +kernel
theorem dX1_init_26 : decode cX1_init 26 = .ok (.return_, 1) := by decide +kernel
theorem dX4_init_0 : decode cX4_init 0 = .ok (.aload_n 0, 1) := by decide +kernel
theorem dX4_init_1 : decode cX4_init 1 = .ok (.invokespecial 3, 3) := by decide +kernel
theorem dX4_init_4 : decode cX4_init 4 = .ok (.aload_n 0, 1) := by decide +kernel
theorem dX4_init_5 : decode cX4_init 5 = .ok (.new 9, 3) := by decide +kernel
theorem dX4_init_8 : decode cX4_init 8 = .ok (.dup, 1) := by decide +kernel
theorem dX4_init_9 : decode cX4_init 9 = .ok (.sipush 200, 3) := by decide +kernel
theorem dX4_init_12 : decode cX4_init 12 = .ok (.invokespecial 11, 3) := by decide +kernel
theorem dX4_init_15 : decode cX4_init 15 = .ok (.putfield 14, 3) := by decide +kernel
theorem dX4_init_18 : decode cX4_init 18 = .ok (.aload_n 0, 1) := by decide +kernel
theorem dX4_init_19 : decode cX4_init 19 = .ok (.new 9, 3) := by decide +kernel
theorem dX4_init_22 : decode cX4_init 22 = .ok (.dup, 1) := by decide +kernel
theorem dX4_init_23 : decode cX4_init 23 = .ok (.sipush 200, 3) := by decide +kernel
theorem dX4_init_26 : decode cX4_init 26 = .ok (.invokespecial 11, 3) := by decide +kernel
theorem dX4_init_29 : decode cX4_init 29 = .ok (.putfield 20, 3) := by decide +kernel
theorem dX4_init_32 : decode cX4_init 32 = .ok (.aload_n 0, 1) := by decide +kernel
theorem dX4_init_33 : decode cX4_init 33 = .ok (.new 9, 3) := by decide +kernel
theorem dX4_init_36 : decode cX4_init 36 = .ok (.dup, 1) := by decide +kernel
theorem dX4_init_37 : decode cX4_init 37 = .ok (.sipush 200, 3) := by decide +kernel
theorem dX4_init_40 : decode cX4_init 40 = .ok (.invokespecial 11, 3) := by decide +kernel
theorem dX4_init_43 : decode cX4_init 43 = .ok (.putfield 23, 3) := by decide +kernel
theorem dX4_init_46 : decode cX4_init 46 = .ok (.aload_n 0, 1) := by decide +kernel
theorem dX4_init_47 : decode cX4_init 47 = .ok (.new 9, 3) := by decide +kernel
theorem dX4_init_50 : decode cX4_init 50 = .ok (.dup, 1) := by decide +kernel
theorem dX4_init_51 : decode cX4_init 51 = .ok (.iconst 0, 1) := by decide +kernel
theorem dX4_init_52 : decode cX4_init 52 = .ok (.invokespecial 11, 3) := by decide +kernel
theorem dX4_init_55 : decode cX4_init 55 = .ok (.putfield 26, 3) := by decide +kernel
theorem dX4_init_58 : decode cX4_init 58 = .ok (.return_, 1) := by decide +kernel
theorem dX3_init_0 : decode cX3_init 0 = .ok (.aload_n 0, 1) := by decide +kernel
theorem dX3_init_1 : decode cX3_init 1 = .ok (.invokespecial 3, 3) := by decide +kernel
theorem dX3_init_4 : decode cX3_init 4 = .ok (.aload_n 0, 1) := by decide +kernel
theorem dX3_init_5 : decode cX3_init 5 = .ok (.new 9, 3) := by decide +kernel
theorem dX3_init_8 : decode cX3_init 8 = .ok (.dup, 1) := by decide +kernel
theorem dX3_init_9 : decode cX3_init 9 = .ok (.sipush 402, 3) := by decide +kernel
theorem dX3_init_12 : decode cX3_init 12 = .ok (.invokespecial 13, 3) := by decide +kernel
theorem dX3_init_15 : decode cX3_init 15 = .ok (.putfield 16, 3) := by decide +kernel
theorem dX3_init_18 : decode cX3_init 18 = .ok (.aload_n 0, 1) := by decide +kernel
theorem dX3_init_19 : decode cX3_init 19 = .ok (.new 9, 3) := by decide +kernel
theorem dX3_init_22 : decode cX3_init 22 = .ok (.dup, 1) := by decide +kernel
theorem dX3_init_23 : decode cX3_init 23 = .ok (.sipush 402, 3) := by decide +kernel
theorem dX3_init_26 : decode cX3_init 26 = .ok (.invokespecial 13, 3) := by decide +kernel
theorem dX3_init_29 : decode cX3_init 29 = .ok (.putfield 20, 3) := by decide +kernel
theorem dX3_init_32 : decode cX3_init 32 = .ok (.aload_n 0, 1) := by decide +kernel
theorem dX3_init_33 : decode cX3_init 33 = .ok (.new 9, 3) := by decide +kernel
theorem dX3_init_36 : decode cX3_init 36 = .ok (.dup, 1) := by decide +kernel
theorem dX3_init_37 : decode cX3_init 37 = .ok (.sipush 402, 3) := by decide +kernel
theorem dX3_init_40 : decode cX3_init 40 = .ok (.invokespecial 13, 3) := by decide +kernel
theorem dX3_init_43 : decode cX3_init 43 = .ok (.putfield 23, 3) := by decide +kernel
theorem dX3_init_46 : decode cX3_init 46 = .ok (.aload_n 0, 1) := by decide +kernel
theorem dX3_init_47 : decode cX3_init 47 = .ok (.new 9, 3) := by decide +kernel
theorem dX3_init_50 : decode cX3_init 50 = .ok (.dup, 1) := by decide +kernel
theorem dX3_init_51 : decode cX3_init 51 = .ok (.sipush 200, 3) := by decide +kernel
theorem dX3_init_54 : decode cX3_init 54 = .ok (.invokespecial 13, 3) := by decide +kernel
theorem dX3_init_57 : decode cX3_init 57 = .ok (.putfield 26, 3) := by decide +kernel
theorem dX3_init_60 : decode cX3_init 60 = .ok (.return_, 1) := by decide +kernel
theorem dX8_init_0 : decode cX8_init 0 = .ok (.aload_n 0, 1) := by decide +kernel
theorem dX8_init_1 : decode cX8_init 1 = .ok (.invokespecial 5, 3) := by decide +kernel
theorem dX8_init_4 : decode cX8_init 4 = .ok (.aload_n 0, 1) := by decide +kernel
theorem dX8_init_5 : decode cX8_init 5 = .ok (.new 11, 3) := by decide +kernel
theorem dX8_init_8 : decode cX8_init 8 = .ok (.dup, 1) := by decide +kernel
theorem dX8_init_9 : decode cX8_init 9 = .ok (.invokespecial 13, 3) := by decide +kernel
theorem dX8_init_12 : decode cX8_init 12 = .ok (.putfield 14, 3) := by decide +kernel
theorem dX8_init_15 : decode cX8_init 15 = .ok (.aload_n 0, 1) := by decide +kernel
theorem dX8_init_16 : decode cX8_init 16 = .ok (.new 11, 3) := by decide +kernel
theorem dX8_init_19 : decode cX8_init 19 = .ok (.dup, 1) := by decide +kernel
theorem dX8_init_20 : decode cX8_init 20 = .ok (.invokespecial 13, 3) := by decide +kernel
theorem dX8_init_23 : decode cX8_init 23 = .ok (.putfield 18, 3) := by decide +kernel
theorem dX8_init_26 : decode cX8_init 26 = .ok (.aload_n 0, 1) := by decide +kernel
theorem dX8_init_27 : decode cX8_init 27 = .ok (.new 21, 3) := by decide +kernel
theorem dX8_init_30 : decode cX8_init 30 = .ok (.dup, 1) := by decide +kernel
theorem dX8_init_31 : decode cX8_init 31 = .ok (.iconst 0, 1) := by decide +kernel
theorem dX8_init_32 : decode cX8_init 32 = .ok (.invokespecial 23, 3) := by decide +kernel
theorem dX8_init_35 : decode cX8_init 35 = .ok (.putfield 26, 3) := by decide +kernel
theorem dX8_init_38 : decode cX8_init 38 = .ok (.aload_n 0, 1) := by decide +kernel
theorem dX8_init_39 : decode cX8_init 39 = .ok (.new 21, 3) := by decide +kernel
theorem dX8_init_42 : decode cX8_init 42 = .ok (.dup, 1) := by decide +kernel
theorem dX8_init_43 : decode cX8_init 43 = .ok (.sipush 1200, 3) := by decide +kernel
theorem dX8_init_46 : decode cX8_init 46 = .ok (.invokespecial 23, 3) := by decide +kernel
theorem dX8_init_49 : decode cX8_init 49 = .ok (.putfield 30, 3) := by decide +kernel
theorem dX8_init_52 : decode cX8_init 52 = .ok (.aload_n 0, 1) := by decide +kernel
theorem dX8_init_53 : decode cX8_init 53 = .ok (.new 21, 3) := by decide +kernel
theorem dX8_init_56 : decode cX8_init 56 = .ok (.dup, 1) := by decide +kernel
theorem dX8_init_57 : decode cX8_init 57 = .ok (.sipush 1200, 3) := by decide +kernel
theorem dX8_init_60 : decode cX8_init 60 = .ok (.invokespecial 23, 3) := by decide +kernel
theorem dX8_init_63 : decode cX8_init 63 = .ok (.putfield 33, 3) := by decide +kernel
theorem dX8_init_66 : decode cX8_init 66 = .ok (.aload_n 0, 1) := by decide +kernel
theorem dX8_init_67 : decode cX8_init 67 = .ok (.new 21, 3) := by decide +kernel
theorem dX8_init_70 : decode cX8_init 70 = .ok (.dup, 1) := by decide +kernel
theorem dX8_init_71 : decode cX8_init 71 = .ok (.sipush 1200, 3) := by decide +kernel
theorem dX8_init_74 : decode cX8_init 74 = .ok (.invokespecial 23, 3) := by decide +kernel
theorem dX8_init_77 : decode cX8_init 77 = .ok (.putfield 36, 3) := by decide +kernel
theorem dX8_init_80 : decode cX8_init 80 = .ok (.aload_n 0, 1) := by decide +kernel
theorem dX8_init_81 : decode cX8_init 81 = .ok (.new 21, 3) := by decide +kernel
theorem dX8_init_84 : decode cX8_init 84 = .ok (.dup, 1) := by decide +kernel
theorem dX8_init_85 : decode cX8_init 85 = .ok (.sipush 1200, 3) := by decide +kernel
theorem dX8_init_88 : decode cX8_init 88 = .ok (.invokespecial 23, 3) := by decide +kernel
theorem dX8_init_91 : decode cX8_init 91 = .ok (.putfield 39, 3) := by decide +kernel
theorem dX8_init_94 : decode cX8_init 94 = .ok (.aload_n 0, 1) := by decide +kernel
theorem dX8_init_95 : decode cX8_init 95 = .ok (.new 21, 3) := by decide +kernel
theorem dX8_init_98 : decode cX8_init 98 = .ok (.dup, 1) := by decide +kernel
theorem dX8_init_99 : decode cX8_init 99 = .ok (.sipush 1200, 3) := by decide +kernel
theorem dX8_init_102 : decode cX8_init 102 = .ok (.invokespecial 23, 3) := by decide +kernel
theorem dX8_init_105 : decode cX8_init 105 = .ok (.putfield 42, 3) := by decide +kernel
theorem dX8_init_108 : decode cX8_init 108 = .ok (.aload_n 0, 1) := by decide +kernel
theorem dX8_init_109 : decode cX8_init 109 = .ok (.new 21, 3) := by decide +kernel
theorem dX8_init_112 : decode cX8_init 112 = .ok (.dup, 1) := by decide +kernel
theorem dX8_init_113 : decode cX8_init 113 = .ok (.sipush 1200, 3) := by decide +kernel
theorem dX8_init_116 : decode cX8_init 116 = .ok (.invokespecial 23, 3) := by decide +kernel
theorem dX8_init_119 : decode cX8_init 119 = .ok (.putfield 45, 3) := by decide +kernel
theorem dX8_init_122 : decode cX8_init 122 = .ok (.aload_n 0, 1) := by decide +kernel
theorem dX8_init_123 : decode cX8_init 123 = .ok (.new 21, 3) := by decide +kernel
theorem dX8_init_126 : decode cX8_init 126 = .ok (.dup, 1) := by decide +kernel
theorem dX8_init_127 : decode cX8_init 127 = .ok (.bipush 24, 2) := by decide +kernel
theorem dX8_init_129 : decode cX8_init 129 = .ok (.invokespecial 23, 3) := by decide +kernel
theorem dX8_init_132 : decode cX8_init 132 = .ok (.putfield 48, 3) := by decide +kernel
theorem dX8_init_135 : decode cX8_init 135 = .ok (.aload_n 0, 1) := by decide +kernel
theorem dX8_init_136 : decode cX8_init 136 = .ok (.new 21, 3) := by decide +kernel
theorem dX8_init_139 : decode cX8_init 139 = .ok (.dup, 1) := by decide +kernel
theorem dX8_init_140 : decode cX8_init 140 = .ok (.bipush 24, 2) := by decide +kernel
theorem dX8_init_142 : decode cX8_init 142 = .ok (.invokespecial 23, 3) := by decide +kernel
theorem dX8_init_145 : decode cX8_init 145 = .ok (.putfield 51, 3) := by decide +kernel
theorem dX8_init_148 : decode cX8_init 148 = .ok (.aload_n 0, 1) := by decide +kernel
theorem dX8_init_149 : decode cX8_init 149 = .ok (.new 21, 3) := by decide +kernel
theorem dX8_init_152 : decode cX8_init 152 = .ok (.dup, 1) := by decide +kernel
theorem dX8_init_153 : decode cX8_init 153 = .ok (.sipush 200, 3) := by decide +kernel
theorem dX8_init_156 : decode cX8_init 156 = .ok (.invokespecial 23, 3) := by decide +kernel
theorem dX8_init_159 : decode cX8_init 159 = .ok (.putfield 54, 3) := by decide +kernel
theorem dX8_init_162 : decode cX8_init 162 = .ok (.aload_n 0, 1) := by decide +kernel
theorem dX8_init_163 : decode cX8_init 163 = .ok (.new 21, 3) := by decide +kernel
theorem dX8_init_166 : decode cX8_init 166 = .ok (.dup, 1) := by decide +kernel
theorem dX8_init_167 : decode cX8_init 167 = .ok (.sipush 1200, 3) := by decide +kernel
theorem dX8_init_170 : decode cX8_init 170 = .ok (.invokespecial 23, 3) := by decide +kernel
theorem dX8_init_173 : decode cX8_init 173 = .ok (.putfield 57, 3) := by decide +kernel
theorem dX8_init_176 : decode cX8_init 176 = .ok (.aload_n 0, 1) := by decide +kernel
theorem dX8_init_177 : decode cX8_init 177 = .ok (.new 21, 3) := by decide +kernel
theorem dX8_init_180 : decode cX8_init 180 = .ok (.dup, 1) := by decide +kernel
theorem dX8_init_181 : decode cX8_init 181 = .ok (.sipush 576, 3) := by decide +kernel
theorem dX8_init_184 : decode cX8_init 184 = .ok (.invokespecial 23, 3) := by decide +kernel
theorem dX8_init_187 : decode cX8_init 187 = .ok (.putfield 60, 3) := by decide +kernel
theorem dX8_init_190 : decode cX8_init 190 = .ok (.return_, 1) := by decide +kernel
theorem dX0_init_0 : decode cX0_init 0 = .ok (.aload_n 0, 1) := by decide +kernel
theorem dX0_init_1 : decode cX0_init 1 = .ok (.invokespecial 3, 3) := by decide +kernel
theorem dX0_init_4 : decode cX0_init 4 = .ok (.aload_n 0, 1) := by decide +kernel
theorem dX0_init_5 : decode cX0_init 5 = .ok (.new 9, 3) := by decide +kernel
theorem dX0_init_8 : decode cX0_init 8 = .ok (.dup, 1) := by decide +kernel
theorem dX0_init_9 : decode cX0_init 9 = .ok (.sipush 200, 3) := by decide +kernel
theorem dX0_init_12 : decode cX0_init 12 = .ok (.invokespecial 11, 3) := by decide +kernel
theorem dX0_init_15 : decode cX0_init 15 = .ok (.putfield 14, 3) := by decide +kernel
theorem dX0_init_18 : decode cX0_init 18 = .ok (.aload_n 0, 1) := by decide +kernel
theorem dX0_init_19 : decode cX0_init 19 = .ok (.new 9, 3) := by decide +kernel
theorem dX0_init_22 : decode cX0_init 22 = .ok (.dup, 1) := by decide +kernel
theorem dX0_init_23 : decode cX0_init 23 = .ok (.sipush 200, 3) := by decide +kernel
theorem dX0_init_26 : decode cX0_init 26 = .ok (.invokespecial 11, 3) := by decide +kernel
theorem dX0_init_29 : decode cX0_init 29 = .ok (.putfield 20, 3) := by decide +kernel
theorem dX0_init_32 : decode cX0_init 32 = .ok (.return_, 1) := by decide +kernel
theorem dX5_init_0 : decode cX5_init 0 = .ok (.aload_n 0, 1) := by decide +kernel
theorem dX5_init_1 : decode cX5_init 1 = .ok (.invokespecial 3, 3) := by decide +kernel
theorem dX5_init_4 : decode cX5_init 4 = .ok (.aload_n 0, 1) := by decide +kernel
theorem dX5_init_5 : decode cX5_init 5 = .ok (.new 9, 3) := by decide +kernel
theorem dX5_init_8 : decode cX5_init 8 = .ok (.dup, 1) := by decide +kernel
theorem dX5_init_9 : decode cX5_init 9 = .ok (.sipush 201, 3) := by decide +kernel
theorem dX5_init_12 : decode cX5_init 12 = .ok (.invokespecial 11, 3) := by decide +kernel
theorem dX5_init_15 : decode cX5_init 15 = .ok (.putfield 14, 3) := by decide +kernel
theorem dX5_init_18 : decode cX5_init 18 = .ok (.aload_n 0, 1) := by decide +kernel
theorem dX5_init_19 : decode cX5_init 19 = .ok (.new 9, 3) := by decide +kernel
theorem dX5_init_22 : decode cX5_init 22 = .ok (.dup, 1) := by decide +kernel
theorem dX5_init_23 : decode cX5_init 23 = .ok (.sipush 201, 3) := by decide +kernel
theorem dX5_init_26 : decode cX5_init 26 = .ok (.invokespecial 11, 3) := by decide +kernel
theorem dX5_init_29 : decode cX5_init 29 = .ok (.putfield 20, 3) := by decide +kernel
theorem dX5_init_32 : decode cX5_init 32 = .ok (.return_, 1) := by decide +kernel
theorem dX2_init_0 : decode cX2_init 0 = .ok (.aload_n 0, 1) := by decide +kernel
theorem dX2_init_1 : decode cX2_init 1 = .ok (.invokespecial 3, 3) := by decide +kernel
theorem dX2_init_4 : decode cX2_init 4 = .ok (.aload_n 0, 1) := by decide +kernel
theorem dX2_init_5 : decode cX2_init 5 = .ok (.new 9, 3) := by decide +kernel
theorem dX2_init_8 : decode cX2_init 8 = .ok (.dup, 1) := by decide +kernel
theorem dX2_init_9 : decode cX2_init 9 = .ok (.sipush 200, 3) := by decide +kernel
theorem dX2_init_12 : decode cX2_init 12 = .ok (.invokespecial 11, 3) := by decide +kernel
theorem dX2_init_15 : decode cX2_init 15 = .ok (.putfield 14, 3) := by decide +kernel
theorem dX2_init_18 : decode cX2_init 18 = .ok (.aload_n 0, 1) := by decide +kernel
theorem dX2_init_19 : decode cX2_init 19 = .ok (.new 9, 3) := by decide +kernel
theorem dX2_init_22 : decode cX2_init 22 = .ok (.dup, 1) := by decide +kernel
theorem dX2_init_23 : decode cX2_init 23 = .ok (.sipush 200, 3) := by decide +kernel
theorem dX2_init_26 : decode cX2_init 26 = .ok (.invokespecial 11, 3) := by decide +kernel
theorem dX2_init_29 : decode cX2_init 29 = .ok (.putfield 20, 3) := by decide +kernel
theorem dX2_init_32 : decode cX2_init 32 = .ok (.aload_n 0, 1) := by decide +kernel
theorem dX2_init_33 : decode cX2_init 33 = .ok (.new 9, 3) := by decide +kernel
theorem dX2_init_36 : decode cX2_init 36 = .ok (.dup, 1) := by decide +kernel
theorem dX2_init_37 : decode cX2_init 37 = .ok (.sipush 200, 3) := by decide +kernel
theorem dX2_init_40 : decode cX2_init 40 = .ok (.invokespecial 11, 3) := by decide +kernel
theorem dX2_init_43 : decode cX2_init 43 = .ok (.putfield 23, 3) := by decide +kernel
theorem dX2_init_46 : decode cX2_init 46 = .ok (.aload_n 0, 1) := by decide +kernel
theorem dX2_init_47 : decode cX2_init 47 = .ok (.new 9, 3) := by decide +kernel
theorem dX2_init_50 : decode cX2_init 50 = .ok (.dup, 1) := by decide +kernel
theorem dX2_init_51 : decode cX2_init 51 = .ok (.bipush 10, 2) := by decide +kernel
theorem dX2_init_53 : decode cX2_init 53 = .ok (.invokespecial 11, 3) := by decide +kernel
theorem dX2_init_56 : decode cX2_init 56 = .ok (.putfield 26, 3) := by decide +kernel
theorem dX2_init_59 : decode cX2_init 59 = .ok (.aload_n 0, 1) := by decide +kernel
theorem dX2_init_60 : decode cX2_init 60 = .ok (.new 9, 3) := by decide +kernel
theorem dX2_init_63 : decode cX2_init 63 = .ok (.dup, 1) := by decide +kernel
theorem dX2_init_64 : decode cX2_init 64 = .ok (.bipush 10, 2) := by decide +kernel
theorem dX2_init_66 : decode cX2_init 66 = .ok (.invokespecial 11, 3) := by decide +kernel
theorem dX2_init_69 : decode cX2_init 69 = .ok (.putfield 29, 3) := by decide +kernel
theorem dX2_init_72 : decode cX2_init 72 = .ok (.aload_n 0, 1) := by decide +kernel
theorem dX2_init_73 : decode cX2_init 73 = .ok (.new 9, 3) := by decide +kernel
theorem dX2_init_76 : decode cX2_init 76 = .ok (.dup, 1) := by decide +kernel
theorem dX2_init_77 : decode cX2_init 77 = .ok (.bipush 10, 2) := by decide +kernel
theorem dX2_init_79 : decode cX2_init 79 = .ok (.invokespecial 11, 3) := by decide +kernel
theorem dX2_init_82 : decode cX2_init 82 = .ok (.putfield 32, 3) := by decide +kernel
theorem dX2_init_85 : decode cX2_init 85 = .ok (.aload_n 0, 1) := by decide +kernel
theorem dX2_init_86 : decode cX2_init 86 = .ok (.new 35, 3) := by decide +kernel
theorem dX2_init_89 : decode cX2_init 89 = .ok (.dup, 1) := by decide +kernel
theorem dX2_init_90 : decode cX2_init 90 = .ok (.invokespecial 37, 3) := by decide +kernel
theorem dX2_init_93 : decode cX2_init 93 = .ok (.putfield 38, 3) := by decide +kernel
theorem dX2_init_96 : decode cX2_init 96 = .ok (.aload_n 0, 1) := by decide +kernel
theorem dX2_init_97 : decode cX2_init 97 = .ok (.iconst (-1), 1) := by decide +kernel
theorem dX2_init_98 : decode cX2_init 98 = .ok (.putfield 42, 3) := by decide +kernel
theorem dX2_init_101 : decode cX2_init 101 = .ok (.return_, 1) := by decide +kernel
theorem dX10_init_0 : decode cX10_init 0 = .ok (.aload_n 0, 1) := by decide +kernel
theorem dX10_init_1 : decode cX10_init 1 = .ok (.invokespecial 3, 3) := by decide +kernel
theorem dX10_init_4 : decode cX10_init 4 = .ok (.aload_n 0, 1) := by decide +kernel
theorem dX10_init_5 : decode cX10_init 5 = .ok (.new 9, 3) := by decide +kernel
theorem dX10_init_8 : decode cX10_init 8 = .ok (.dup, 1) := by decide +kernel
theorem dX10_init_9 : decode cX10_init 9 = .ok (.invokespecial 11, 3) := by decide +kernel
theorem dX10_init_12 : decode cX10_init 12 = .ok (.putfield 12, 3) := by decide +kernel
theorem dX10_init_15 : decode cX10_init 15 = .ok (.aload_n 0, 1) := by decide +kernel
theorem dX10_init_16 : decode cX10_init 16 = .ok (.new 18, 3) := by decide +kernel
theorem dX10_init_19 : decode cX10_init 19 = .ok (.dup, 1) := by decide +kernel
theorem dX10_init_20 : decode cX10_init 20 = .ok (.iconst 0, 1) := by decide +kernel
theorem dX10_init_21 : decode cX10_init 21 = .ok (.invokespecial 20, 3) := by decide +kernel
theorem dX10_init_24 : decode cX10_init 24 = .ok (.putfield 23, 3) := by decide +kernel
theorem dX10_init_27 : decode cX10_init 27 = .ok (.aload_n 0, 1) := by decide +kernel
theorem dX10_init_28 : decode cX10_init 28 = .ok (.new 18, 3) := by decide +kernel
theorem dX10_init_31 : decode cX10_init 31 = .ok (.dup, 1) := by decide +kernel
theorem dX10_init_32 : decode cX10_init 32 = .ok (.bipush 12, 2) := by decide +kernel
theorem dX10_init_34 : decode cX10_init 34 = .ok (.invokespecial 20, 3) := by decide +kernel
theorem dX10_init_37 : decode cX10_init 37 = .ok (.putfield 27, 3) := by decide +kernel
theorem dX10_init_40 : decode cX10_init 40 = .ok (.aload_n 0, 1) := by decide +kernel
theorem dX10_init_41 : decode cX10_init 41 = .ok (.new 18, 3) := by decide +kernel
theorem dX10_init_44 : decode cX10_init 44 = .ok (.dup, 1) := by decide +kernel
theorem dX10_init_45 : decode cX10_init 45 = .ok (.bipush 12, 2) := by decide +kernel
theorem dX10_init_47 : decode cX10_init 47 = .ok (.invokespecial 20, 3) := by decide +kernel
theorem dX10_init_50 : decode cX10_init 50 = .ok (.putfield 30, 3) := by decide +kernel
theorem dX10_init_53 : decode cX10_init 53 = .ok (.aload_n 0, 1) := by decide +kernel
theorem dX10_init_54 : decode cX10_init 54 = .ok (.new 18, 3) := by decide +kernel
theorem dX10_init_57 : decode cX10_init 57 = .ok (.dup, 1) := by decide +kernel
theorem dX10_init_58 : decode cX10_init 58 = .ok (.bipush 12, 2) := by decide +kernel
theorem dX10_init_60 : decode cX10_init 60 = .ok (.invokespecial 20, 3) := by decide +kernel
theorem dX10_init_63 : decode cX10_init 63 = .ok (.putfield 33, 3) := by decide +kernel
theorem dX10_init_66 : decode cX10_init 66 = .ok (.aload_n 0, 1) := by decide +kernel
theorem dX10_init_67 : decode cX10_init 67 = .ok (.new 18, 3) := by decide +kernel
theorem dX10_init_70 : decode cX10_init 70 = .ok (.dup, 1) := by decide +kernel
theorem dX10_init_71 : decode cX10_init 71 = .ok (.sipush 144, 3) := by decide +kernel
theorem dX10_init_74 : decode cX10_init 74 = .ok (.invokespecial 20, 3) := by decide +kernel
theorem dX10_init_77 : decode cX10_init 77 = .ok (.putfield 36, 3) := by decide +kernel
theorem dX10_init_80 : decode cX10_init 80 = .ok (.return_, 1) := by decide +kernel
theorem dX9_init_0 : decode cX9_init 0 = .ok (.aload_n 0, 1) := by decide +kernel
theorem dX9_init_1 : decode cX9_init 1 = .ok (.invokespecial 3, 3) := by decide +kernel
theorem dX9_init_4 : decode cX9_init 4 = .ok (.aload_n 0, 1) := by decide +kernel
theorem dX9_init_5 : decode cX9_init 5 = .ok (.new 9, 3) := by decide +kernel
theorem dX9_init_8 : decode cX9_init 8 = .ok (.dup, 1) := by decide +kernel
theorem dX9_init_9 : decode cX9_init 9 = .ok (.sipush 200, 3) := by decide +kernel
theorem dX9_init_12 : decode cX9_init 12 = .ok (.invokespecial 11, 3) := by decide +kernel
theorem dX9_init_15 : decode cX9_init 15 = .ok (.putfield 14, 3) := by decide +kernel
theorem dX9_init_18 : decode cX9_init 18 = .ok (.return_, 1) := by decide +kernel
def usJ5_init_d00df : List Cond := .code yJ5_init_d00df cJ5_init_d00df 2 none :: ([.methodLink RJ5 3 objectInit, .instanceMethod objectInit, .code objectInit ⟨#[0xb1]⟩ 1 none, .fieldLink RJ5 18 "java/lang/String" "COMPACT_STRINGS" "Z", .arrayClass .byte, .fieldLink RJ5 15 "java/lang/AbstractStringBuilder" "value" "[B", .fieldLink RJ5 22 "java/lang/AbstractStringBuilder" "coder" "B", .methodLink RJ5 26 yJ2_newBytesFor_77867, .static yJ2_newBytesFor_77867, .initialized RJ2, .code yJ2_newBytesFor_77867 cJ2_newBytesFor_77867 1 (some (.array .byte)), .methodLink RJ2 11 yJ2_newBytesLength_0f7a4, .static yJ2_newBytesLength_0f7a4, .code yJ2_newBytesLength_0f7a4 cJ2_newBytesLength_0f7a4 1 (some .int), .constant RJ2 20 (1073741823)] ++ wsJ40)
def usJ4_init_da8c8 : List Cond := .code yJ4_init_da8c8 cJ4_init_da8c8 1 none :: ([.methodLink RJ4 1 yJ5_init_d00df, .instanceMethod yJ5_init_d00df, .initialized RJ5, .code yJ5_init_d00df cJ5_init_d00df 2 none, .methodLink RJ5 3 objectInit, .instanceMethod objectInit, .code objectInit ⟨#[0xb1]⟩ 1 none, .fieldLink RJ5 18 "java/lang/String" "COMPACT_STRINGS" "Z", .arrayClass .byte, .fieldLink RJ5 15 "java/lang/AbstractStringBuilder" "value" "[B", .fieldLink RJ5 22 "java/lang/AbstractStringBuilder" "coder" "B", .methodLink RJ5 26 yJ2_newBytesFor_77867, .static yJ2_newBytesFor_77867, .initialized RJ2, .code yJ2_newBytesFor_77867 cJ2_newBytesFor_77867 1 (some (.array .byte)), .methodLink RJ2 11 yJ2_newBytesLength_0f7a4, .static yJ2_newBytesLength_0f7a4, .code yJ2_newBytesLength_0f7a4 cJ2_newBytesLength_0f7a4 1 (some .int), .constant RJ2 20 (1073741823)] ++ wsJ40)
def usX7_init : List Cond := .code yX7_init cX7_init 1 none :: ([.methodLink RX7 3 objectInit, .instanceMethod objectInit, .code objectInit ⟨#[0xb1]⟩ 1 none, .classLink RX7 9 RX6, .instantiable RX6 2, .initialized RX6, .fieldLink RX7 14 "Patchferry$Runs" "values" "LPatchferry$Row;", .fieldLink RX7 20 "Patchferry$Runs" "ends" "LPatchferry$Row;", .methodLink RX7 11 yX6_init, .instanceMethod yX6_init, .code yX6_init cX6_init 2 none, .methodLink RX6 3 objectInit, .methodLink RX6 9 Lib.Math.max.name, .static Lib.Math.max.name, .initialized "java/lang/Math", .code Lib.Math.max.name Lib.Math.max.code 2 (some .int), .arrayClass .int, .fieldLink RX6 15 "Patchferry$Row" "cells" "[I"] ++ wsX60 ++ wsX70)
def usX1_init_r1 : List Cond := [Cond.methodLink RX1 1 objectInit, Cond.instanceMethod objectInit, Cond.code objectInit ⟨#[0xb1]⟩ 1 none, Cond.classLink RX1 7 RX7, Cond.instantiable RX7 2, Cond.initialized RX7, Cond.fieldLink RX1 10 "Patchferry$Differ" "before" "LPatchferry$Runs;", Cond.fieldLink RX1 16 "Patchferry$Differ" "after" "LPatchferry$Runs;", Cond.methodLink RX1 9 yX7_init, Cond.instanceMethod yX7_init, Cond.code yX7_init cX7_init 1 none, Cond.methodLink RX7 3 objectInit, Cond.classLink RX7 9 RX6, Cond.instantiable RX6 2, Cond.initialized RX6, Cond.fieldLink RX7 14 "Patchferry$Runs" "values" "LPatchferry$Row;", Cond.fieldLink RX7 20 "Patchferry$Runs" "ends" "LPatchferry$Row;", Cond.methodLink RX7 11 yX6_init, Cond.instanceMethod yX6_init, Cond.code yX6_init cX6_init 2 none]
def usX1_init_r2 : List Cond := [Cond.methodLink RX6 3 objectInit, Cond.methodLink RX6 9 Lib.Math.max.name, Cond.static Lib.Math.max.name, Cond.initialized "java/lang/Math", Cond.code Lib.Math.max.name Lib.Math.max.code 2 (some .int), Cond.arrayClass .int, Cond.fieldLink RX6 15 "Patchferry$Row" "cells" "[I"]
def usX1_init : List Cond := .code yX1_init cX1_init 1 none :: ((usX1_init_r1 ++ (usX1_init_r2)) ++ wsX70 ++ wsX10 ++ wsX60)
def usX4_init : List Cond := .code yX4_init cX4_init 1 none :: ([.methodLink RX4 3 objectInit, .instanceMethod objectInit, .code objectInit ⟨#[0xb1]⟩ 1 none, .classLink RX4 9 RX6, .instantiable RX6 2, .initialized RX6, .fieldLink RX4 14 "Patchferry$Patch" "froms" "LPatchferry$Row;", .fieldLink RX4 20 "Patchferry$Patch" "sizes" "LPatchferry$Row;", .fieldLink RX4 23 "Patchferry$Patch" "adds" "LPatchferry$Row;", .fieldLink RX4 26 "Patchferry$Patch" "base" "LPatchferry$Row;", .methodLink RX4 11 yX6_init, .instanceMethod yX6_init, .code yX6_init cX6_init 2 none, .methodLink RX6 3 objectInit, .methodLink RX6 9 Lib.Math.max.name, .static Lib.Math.max.name, .initialized "java/lang/Math", .code Lib.Math.max.name Lib.Math.max.code 2 (some .int), .arrayClass .int, .fieldLink RX6 15 "Patchferry$Row" "cells" "[I"] ++ wsX60 ++ wsX40)
def usX3_init : List Cond := .code yX3_init cX3_init 1 none :: ([.methodLink RX3 3 objectInit, .instanceMethod objectInit, .code objectInit ⟨#[0xb1]⟩ 1 none, .classLink RX3 9 RX6, .instantiable RX6 2, .initialized RX6, .fieldLink RX3 16 "Patchferry$Edits" "froms" "LPatchferry$Row;", .fieldLink RX3 20 "Patchferry$Edits" "tos" "LPatchferry$Row;", .fieldLink RX3 23 "Patchferry$Edits" "begins" "LPatchferry$Row;", .fieldLink RX3 26 "Patchferry$Edits" "values" "LPatchferry$Row;", .methodLink RX3 13 yX6_init, .instanceMethod yX6_init, .code yX6_init cX6_init 2 none, .methodLink RX6 3 objectInit, .methodLink RX6 9 Lib.Math.max.name, .static Lib.Math.max.name, .initialized "java/lang/Math", .code Lib.Math.max.name Lib.Math.max.code 2 (some .int), .arrayClass .int, .fieldLink RX6 15 "Patchferry$Row" "cells" "[I"] ++ wsX60 ++ wsX30)
def usX8_init_r1 : List Cond := [Cond.methodLink RX8 5 objectInit, Cond.instanceMethod objectInit, Cond.code objectInit ⟨#[0xb1]⟩ 1 none, Cond.classLink RX8 11 RJx4a65c, Cond.instantiable RJx4a65c 3, Cond.initialized RJx4a65c, Cond.fieldLink RX8 14 "Patchferry$Store" "texts" "Ljava/util/ArrayList;", Cond.fieldLink RX8 18 "Patchferry$Store" "cuts" "Ljava/util/ArrayList;", Cond.classLink RX8 21 RX6, Cond.instantiable RX6 2, Cond.initialized RX6, Cond.fieldLink RX8 26 "Patchferry$Store" "none" "LPatchferry$Row;", Cond.fieldLink RX8 30 "Patchferry$Store" "homes" "LPatchferry$Row;", Cond.fieldLink RX8 33 "Patchferry$Store" "starts" "LPatchferry$Row;", Cond.fieldLink RX8 36 "Patchferry$Store" "sizes" "LPatchferry$Row;", Cond.fieldLink RX8 39 "Patchferry$Store" "sums" "LPatchferry$Row;", Cond.fieldLink RX8 42 "Patchferry$Store" "uses" "LPatchferry$Row;", Cond.fieldLink RX8 45 "Patchferry$Store" "kept" "LPatchferry$Row;", Cond.fieldLink RX8 48 "Patchferry$Store" "isStored" "LPatchferry$Row;", Cond.fieldLink RX8 51 "Patchferry$Store" "folders" "LPatchferry$Row;"]
def usX8_init_r2 : List Cond := [Cond.fieldLink RX8 54 "Patchferry$Store" "numbers" "LPatchferry$Row;", Cond.fieldLink RX8 57 "Patchferry$Store" "marks" "LPatchferry$Row;", Cond.fieldLink RX8 60 "Patchferry$Store" "grid" "LPatchferry$Row;", Cond.methodLink RX8 13 yJx4a65c_init_da8c8, Cond.instanceMethod yJx4a65c_init_da8c8, Cond.code yJx4a65c_init_da8c8 cJx4a65c_init_da8c8 1 none, Cond.fieldLink RJx4a65c 39 "java/util/ArrayList" "DEFAULTCAPACITY_EMPTY_ELEMENTDATA" "[Ljava/lang/Object;", Cond.fieldLink RJx4a65c 9 "java/util/ArrayList" "elementData" "[Ljava/lang/Object;", Cond.methodLink RJx4a65c 1 yJxc12de_init_da8c8, Cond.instanceMethod yJxc12de_init_da8c8, Cond.initialized RJxc12de, Cond.code yJxc12de_init_da8c8 cJxc12de_init_da8c8 1 none, Cond.fieldLink RJxc12de 7 "java/util/AbstractList" "modCount" "I", Cond.methodLink RJxc12de 1 yJxa1e45_init_da8c8, Cond.instanceMethod yJxa1e45_init_da8c8, Cond.initialized RJxa1e45, Cond.code yJxa1e45_init_da8c8 cJxa1e45_init_da8c8 1 none, Cond.methodLink RJxa1e45 1 objectInit, Cond.methodLink RX8 23 yX6_init, Cond.instanceMethod yX6_init]
def usX8_init_r3 : List Cond := [Cond.code yX6_init cX6_init 2 none, Cond.methodLink RX6 3 objectInit, Cond.methodLink RX6 9 Lib.Math.max.name, Cond.static Lib.Math.max.name, Cond.initialized "java/lang/Math", Cond.code Lib.Math.max.name Lib.Math.max.code 2 (some .int), Cond.arrayClass .int, Cond.fieldLink RX6 15 "Patchferry$Row" "cells" "[I"]
def usX8_init : List Cond := .code yX8_init cX8_init 1 none :: ((usX8_init_r1 ++ (usX8_init_r2 ++ (usX8_init_r3))) ++ wsJx4a65c0 ++ wsX80 ++ wsX60)
def usX0_init : List Cond := .code yX0_init cX0_init 1 none :: ([.methodLink RX0 3 objectInit, .instanceMethod objectInit, .code objectInit ⟨#[0xb1]⟩ 1 none, .classLink RX0 9 RX6, .instantiable RX6 2, .initialized RX6, .fieldLink RX0 14 "Patchferry$Blocks" "weaks" "LPatchferry$Row;", .fieldLink RX0 20 "Patchferry$Blocks" "strongs" "LPatchferry$Row;", .methodLink RX0 11 yX6_init, .instanceMethod yX6_init, .code yX6_init cX6_init 2 none, .methodLink RX6 3 objectInit, .methodLink RX6 9 Lib.Math.max.name, .static Lib.Math.max.name, .initialized "java/lang/Math", .code Lib.Math.max.name Lib.Math.max.code 2 (some .int), .arrayClass .int, .fieldLink RX6 15 "Patchferry$Row" "cells" "[I"] ++ wsX60 ++ wsX00)
def usX5_init : List Cond := .code yX5_init cX5_init 1 none :: ([.methodLink RX5 3 objectInit, .instanceMethod objectInit, .code objectInit ⟨#[0xb1]⟩ 1 none, .classLink RX5 9 RX6, .instantiable RX6 2, .initialized RX6, .fieldLink RX5 14 "Patchferry$Program" "marks" "LPatchferry$Row;", .fieldLink RX5 20 "Patchferry$Program" "places" "LPatchferry$Row;", .methodLink RX5 11 yX6_init, .instanceMethod yX6_init, .code yX6_init cX6_init 2 none, .methodLink RX6 3 objectInit, .methodLink RX6 9 Lib.Math.max.name, .static Lib.Math.max.name, .initialized "java/lang/Math", .code Lib.Math.max.name Lib.Math.max.code 2 (some .int), .arrayClass .int, .fieldLink RX6 15 "Patchferry$Row" "cells" "[I"] ++ wsX60 ++ wsX50)
def usX2_init_r1 : List Cond := [Cond.methodLink RX2 3 objectInit, Cond.instanceMethod objectInit, Cond.code objectInit ⟨#[0xb1]⟩ 1 none, Cond.classLink RX2 9 RX6, Cond.instantiable RX6 2, Cond.initialized RX6, Cond.fieldLink RX2 14 "Patchferry$Disk" "cells" "LPatchferry$Row;", Cond.fieldLink RX2 20 "Patchferry$Disk" "ahead" "LPatchferry$Row;", Cond.fieldLink RX2 23 "Patchferry$Disk" "hand" "LPatchferry$Row;", Cond.fieldLink RX2 26 "Patchferry$Disk" "begins" "LPatchferry$Row;", Cond.fieldLink RX2 29 "Patchferry$Disk" "needs" "LPatchferry$Row;", Cond.fieldLink RX2 32 "Patchferry$Disk" "order" "LPatchferry$Row;", Cond.classLink RX2 35 RX4, Cond.instantiable RX4 4, Cond.initialized RX4, Cond.fieldLink RX2 38 "Patchferry$Disk" "laid" "LPatchferry$Patch;", Cond.fieldLink RX2 42 "Patchferry$Disk" "cut" "I", Cond.methodLink RX2 11 yX6_init, Cond.instanceMethod yX6_init, Cond.code yX6_init cX6_init 2 none]
def usX2_init_r2 : List Cond := [Cond.methodLink RX6 3 objectInit, Cond.methodLink RX6 9 Lib.Math.max.name, Cond.static Lib.Math.max.name, Cond.initialized "java/lang/Math", Cond.code Lib.Math.max.name Lib.Math.max.code 2 (some .int), Cond.arrayClass .int, Cond.fieldLink RX6 15 "Patchferry$Row" "cells" "[I", Cond.methodLink RX2 37 yX4_init, Cond.instanceMethod yX4_init, Cond.code yX4_init cX4_init 1 none, Cond.methodLink RX4 3 objectInit, Cond.classLink RX4 9 RX6, Cond.fieldLink RX4 14 "Patchferry$Patch" "froms" "LPatchferry$Row;", Cond.fieldLink RX4 20 "Patchferry$Patch" "sizes" "LPatchferry$Row;", Cond.fieldLink RX4 23 "Patchferry$Patch" "adds" "LPatchferry$Row;", Cond.fieldLink RX4 26 "Patchferry$Patch" "base" "LPatchferry$Row;", Cond.methodLink RX4 11 yX6_init]
def usX2_init : List Cond := .code yX2_init cX2_init 1 none :: ((usX2_init_r1 ++ (usX2_init_r2)) ++ wsX60 ++ wsX20 ++ wsX40)
def usX10_init_r1 : List Cond := [Cond.methodLink RX10 3 objectInit, Cond.instanceMethod objectInit, Cond.code objectInit ⟨#[0xb1]⟩ 1 none, Cond.classLink RX10 9 RJx4a65c, Cond.instantiable RJx4a65c 3, Cond.initialized RJx4a65c, Cond.fieldLink RX10 12 "Patchferry$Versions" "texts" "Ljava/util/ArrayList;", Cond.classLink RX10 18 RX6, Cond.instantiable RX6 2, Cond.initialized RX6, Cond.fieldLink RX10 23 "Patchferry$Versions" "none" "LPatchferry$Row;", Cond.fieldLink RX10 27 "Patchferry$Versions" "keys" "LPatchferry$Row;", Cond.fieldLink RX10 30 "Patchferry$Versions" "counts" "LPatchferry$Row;", Cond.fieldLink RX10 33 "Patchferry$Versions" "gains" "LPatchferry$Row;", Cond.fieldLink RX10 36 "Patchferry$Versions" "costs" "LPatchferry$Row;", Cond.methodLink RX10 11 yJx4a65c_init_da8c8, Cond.instanceMethod yJx4a65c_init_da8c8, Cond.code yJx4a65c_init_da8c8 cJx4a65c_init_da8c8 1 none, Cond.fieldLink RJx4a65c 39 "java/util/ArrayList" "DEFAULTCAPACITY_EMPTY_ELEMENTDATA" "[Ljava/lang/Object;", Cond.fieldLink RJx4a65c 9 "java/util/ArrayList" "elementData" "[Ljava/lang/Object;"]
def usX10_init_r2 : List Cond := [Cond.methodLink RJx4a65c 1 yJxc12de_init_da8c8, Cond.instanceMethod yJxc12de_init_da8c8, Cond.initialized RJxc12de, Cond.code yJxc12de_init_da8c8 cJxc12de_init_da8c8 1 none, Cond.fieldLink RJxc12de 7 "java/util/AbstractList" "modCount" "I", Cond.methodLink RJxc12de 1 yJxa1e45_init_da8c8, Cond.instanceMethod yJxa1e45_init_da8c8, Cond.initialized RJxa1e45, Cond.code yJxa1e45_init_da8c8 cJxa1e45_init_da8c8 1 none, Cond.methodLink RJxa1e45 1 objectInit, Cond.methodLink RX10 20 yX6_init, Cond.instanceMethod yX6_init, Cond.code yX6_init cX6_init 2 none, Cond.methodLink RX6 3 objectInit, Cond.methodLink RX6 9 Lib.Math.max.name, Cond.static Lib.Math.max.name, Cond.initialized "java/lang/Math", Cond.code Lib.Math.max.name Lib.Math.max.code 2 (some .int), Cond.arrayClass .int, Cond.fieldLink RX6 15 "Patchferry$Row" "cells" "[I"]
def usX10_init : List Cond := .code yX10_init cX10_init 1 none :: ((usX10_init_r1 ++ (usX10_init_r2)) ++ wsJx4a65c0 ++ wsX100 ++ wsX60)
def usX9_init : List Cond := .code yX9_init cX9_init 1 none :: ([.methodLink RX9 3 objectInit, .instanceMethod objectInit, .code objectInit ⟨#[0xb1]⟩ 1 none, .classLink RX9 9 RX6, .instantiable RX6 2, .initialized RX6, .fieldLink RX9 14 "Patchferry$Tree" "sums" "LPatchferry$Row;", .methodLink RX9 11 yX6_init, .instanceMethod yX6_init, .code yX6_init cX6_init 2 none, .methodLink RX6 3 objectInit, .methodLink RX6 9 Lib.Math.max.name, .static Lib.Math.max.name, .initialized "java/lang/Math", .code Lib.Math.max.name Lib.Math.max.code 2 (some .int), .arrayClass .int, .fieldLink RX6 15 "Patchferry$Row" "cells" "[I"] ++ wsX60 ++ wsX90)
theorem inJ5_init_d00df_RJ4 : ∀ w ∈ u_ws RJ4 TJ4 4, w ∈ usJ5_init_d00df := by decide +kernel
theorem inX7_init_RX6 : ∀ w ∈ u_ws RX6 TX6 2, w ∈ usX7_init := by decide +kernel
theorem inX7_init_RX7 : ∀ w ∈ u_ws RX7 TX7 2, w ∈ usX7_init := by decide +kernel
theorem inX1_init_RX1 : ∀ w ∈ u_ws RX1 TX1 10, w ∈ usX1_init := by decide +kernel
theorem inX1_init_RX7 : ∀ w ∈ u_ws RX7 TX7 2, w ∈ usX1_init := by decide +kernel
theorem inX4_init_RX4 : ∀ w ∈ u_ws RX4 TX4 4, w ∈ usX4_init := by decide +kernel
theorem inX4_init_RX6 : ∀ w ∈ u_ws RX6 TX6 2, w ∈ usX4_init := by decide +kernel
theorem inX3_init_RX3 : ∀ w ∈ u_ws RX3 TX3 4, w ∈ usX3_init := by decide +kernel
theorem inX3_init_RX6 : ∀ w ∈ u_ws RX6 TX6 2, w ∈ usX3_init := by decide +kernel
theorem inX8_init_RJx4a65c : ∀ w ∈ u_ws RJx4a65c TJx4a65c 3, w ∈ usX8_init := by decide +kernel
theorem inX8_init_RX6 : ∀ w ∈ u_ws RX6 TX6 2, w ∈ usX8_init := by decide +kernel
theorem inX8_init_RX8 : ∀ w ∈ u_ws RX8 TX8 14, w ∈ usX8_init := by decide +kernel
theorem inX0_init_RX0 : ∀ w ∈ u_ws RX0 TX0 5, w ∈ usX0_init := by decide +kernel
theorem inX0_init_RX6 : ∀ w ∈ u_ws RX6 TX6 2, w ∈ usX0_init := by decide +kernel
theorem inX5_init_RX5 : ∀ w ∈ u_ws RX5 TX5 2, w ∈ usX5_init := by decide +kernel
theorem inX5_init_RX6 : ∀ w ∈ u_ws RX6 TX6 2, w ∈ usX5_init := by decide +kernel
theorem inX2_init_RX2 : ∀ w ∈ u_ws RX2 TX2 12, w ∈ usX2_init := by decide +kernel
theorem inX2_init_RX4 : ∀ w ∈ u_ws RX4 TX4 4, w ∈ usX2_init := by decide +kernel
theorem inX2_init_RX6 : ∀ w ∈ u_ws RX6 TX6 2, w ∈ usX2_init := by decide +kernel
theorem inX10_init_RJx4a65c : ∀ w ∈ u_ws RJx4a65c TJx4a65c 3, w ∈ usX10_init := by decide +kernel
theorem inX10_init_RX10 : ∀ w ∈ u_ws RX10 TX10 6, w ∈ usX10_init := by decide +kernel
theorem inX10_init_RX6 : ∀ w ∈ u_ws RX6 TX6 2, w ∈ usX10_init := by decide +kernel
theorem inX9_init_RX6 : ∀ w ∈ u_ws RX6 TX6 2, w ∈ usX9_init := by decide +kernel
theorem inX9_init_RX9 : ∀ w ∈ u_ws RX9 TX9 1, w ∈ usX9_init := by decide +kernel
set_option maxRecDepth 20000 in
theorem ugJ4_init_da8c8_J5_init_d00df : GoodIn usJ4_init_da8c8 (usJ5_init_d00df) := goodIn_p _ [4, 7, 15, 18] (by decide +kernel) (by decide +kernel)
set_option maxRecDepth 20000 in
theorem ugX7_init_X6_init : GoodIn usX7_init (usX6_init) := goodIn_p _ [11, 3, 16] (by decide +kernel) (by decide +kernel)
set_option maxRecDepth 20000 in
theorem ugX1_init_X7_init : GoodIn usX1_init (usX7_init) := goodIn_p _ [11, 3, 20, 25] (by decide +kernel) (by decide +kernel)
set_option maxRecDepth 20000 in
theorem ugX4_init_X6_init : GoodIn usX4_init (usX6_init) := goodIn_p _ [13, 3, 18] (by decide +kernel) (by decide +kernel)
set_option maxRecDepth 20000 in
theorem ugX3_init_X6_init : GoodIn usX3_init (usX6_init) := goodIn_p _ [13, 3, 18] (by decide +kernel) (by decide +kernel)
set_option maxRecDepth 20000 in
theorem ugX8_init_Jx4a65c_init_da8c8 : GoodIn usX8_init (usJx4a65c_init_da8c8) := goodIn_p _ [26, 32, 37, 3] (by decide +kernel) (by decide +kernel)
set_option maxRecDepth 20000 in
theorem ugX8_init_X6_init : GoodIn usX8_init (usX6_init) := goodIn_p _ [41, 3, 46] (by decide +kernel) (by decide +kernel)
set_option maxRecDepth 20000 in
theorem ugX0_init_X6_init : GoodIn usX0_init (usX6_init) := goodIn_p _ [11, 3, 16] (by decide +kernel) (by decide +kernel)
set_option maxRecDepth 20000 in
theorem ugX5_init_X6_init : GoodIn usX5_init (usX6_init) := goodIn_p _ [11, 3, 16] (by decide +kernel) (by decide +kernel)
set_option maxRecDepth 20000 in
theorem ugX2_init_X6_init : GoodIn usX2_init (usX6_init) := goodIn_p _ [20, 3, 25] (by decide +kernel) (by decide +kernel)
set_option maxRecDepth 20000 in
theorem ugX2_init_X4_init : GoodIn usX2_init (usX4_init) := goodIn_p _ [30, 3, 20, 25] (by decide +kernel) (by decide +kernel)
set_option maxRecDepth 20000 in
theorem ugX10_init_Jx4a65c_init_da8c8 : GoodIn usX10_init (usJx4a65c_init_da8c8) := goodIn_p _ [18, 24, 29, 3] (by decide +kernel) (by decide +kernel)
set_option maxRecDepth 20000 in
theorem ugX10_init_X6_init : GoodIn usX10_init (usX6_init) := goodIn_p _ [33, 3, 38] (by decide +kernel) (by decide +kernel)
set_option maxRecDepth 20000 in
theorem ugX9_init_X6_init : GoodIn usX9_init (usX6_init) := goodIn_p _ [10, 3, 15] (by decide +kernel) (by decide +kernel)
set_option maxHeartbeats 4000000 in
set_option maxRecDepth 100000 in
theorem c_asbinit (l : Launch) (dC : Nat → ClassId) (dI : Nat → Nat → Nat) (cI cO : ClassId) (z0 : Nat) (sz : Nat) (h : Nat) : Met l yJ5_init_d00df usJ5_init_d00df ({ frames := 1, cells := 1, slots := 16, locals := 20 }) (va_Pc [.ref h, .int (nI 16)] (fun U => U.heap.size = sz ∧ va_P (dC, dI) vwCl [(h, .inr (1, [.null, .int (nI 0), .int (nI 0), .int (nI 0)]))] U.heap ∧ va_K (dC, dI) vwCl (ty0 cI cO) U ∧ va_D (fun _ => True) [(h, .inr (1, [.null, .int (nI 0), .int (nI 0), .int (nI 0)]))] ∧ uz z0 (va_A [(h, .inr (1, [.null, .int (nI 0), .int (nI 0), .int (nI 0)]))] sz) U)) (va_Qv (fun _ : Unit => True) (fun _ t => va_P (dC, dI) vwCl [] t.heap ∧ va_K (dC, dI) vwCl (ty0 cI cO) t ∧ va_D (va_A [(h, .inr (1, [.null, .int (nI 0), .int (nI 0), .int (nI 0)]))] sz) []) (va_A [(h, .inr (1, [.null, .int (nI 0), .int (nI 0), .int (nI 0)]))] sz)) 1 16 (va_A [(h, .inr (1, [.null, .int (nI 0), .int (nI 0), .int (nI 0)]))] sz) := by
  refine Met.ofW (cc := cJ5_init_d00df) (maxL := 2) (ret := none) (by decide) rfl ?_
  intro p e s m args below meth c s₁ B hml hv
  obtain ⟨rfl, hsz, hP, hK, hD0, hZ⟩ := hv
  have hx := B.exec
  have hb := B.bytes
  have hr := B.returns
  have hts := atoms_spec (ws := usJ5_init_d00df) B.pre
  have hown : s.vm.findClass RJ5 = some m.cls := findClass_of_methodNamed B.named
  have hlocks := B.notSynchronized
  have hin : meth.name = "<init>" := (name_of_methodNamed B.named B.method).1
  subst hsz
  have hD := hD0.self (sz := s.heap.size)
  generalize hAe : va_A [(h, .inr (1, [.null, .int (nI 0), .int (nI 0), .int (nI 0)]))] s.heap.size = A at hD hZ ⊢
  have hA : ∀ q : Nat, s.heap.size ≤ q → A q := fun q h => by rw [← hAe]; exact Or.inr h
  have hS : va_S A s.heap s.heap [] := va_S.rf
  obtain ⟨hZs, ⟨fz, hZt⟩, hZo, hZr, hZi, hZc⟩ := id hZ
  have hl := lv_entry ([.ref h, .int (nI 16)]) (n := 2) (Nat.le_of_ble_eq_true rfl)
  rw [lg_entry_eq]
  generalize (lg_sl ([.ref h, .int (nI 16)]) ++ List.replicate (2 - (lg_sl ([.ref h, .int (nI 16)])).length) Slot.unset).toArray = ls at hl ⊢
  have hl : lv_has ls 2 [(0, .ref h), (1, .int (nI 16))] := hl
  refine lv_aload_n hx hb dJ5_init_d00df_0 rfl (lv_at hl 0 rfl) ?_
  refine W.objInit hx hb hown (hts (.methodLink RJ5 3 objectInit) (by decide +kernel)) (hts (.instanceMethod objectInit) (by decide +kernel)) (hts _ (List.mem_of_getElem? (i := 3) rfl)) rfl (by rw [hml]; exact hl.1) rfl dJ5_init_d00df_1 (by first | exact Nat.le_of_ble_eq_true rfl | omega | (dsimp only [headSpec]; omega) | (simp only [headSpec]; omega) | omega) (by first | exact Nat.le_of_ble_eq_true rfl | omega | (dsimp only [headSpec]; omega) | (simp only [headSpec]; omega) | omega) ?_
  refine W.eq (g2 := F0 m 4 ls []) rfl ?_
  refine va_gets hx hb hZc hS hown (hts (.fieldLink RJ5 18 "java/lang/String" "COMPACT_STRINGS" "Z") (by decide +kernel)) (fun _ h9 => h9) dJ5_init_d00df_4 ?_
  refine lv_if_eq (tgt := 25) hx hb dJ5_init_d00df_7 (by decide) (fun hc1 => absurd hc1 (by decide)) (fun hc1 => ?_)
  refine lv_aload_n hx hb dJ5_init_d00df_10 rfl (lv_at hl 0 rfl) ?_
  refine lv_iload_n hx hb dJ5_init_d00df_11 rfl (lv_at hl 1 rfl) ?_
  refine va_newa (D := (dC, dI)) (atype := .byte) (N' := 16) (a0 := (16, .inl (fun _ => 0))) hx hb (hts (.arrayClass .byte) (by decide +kernel)) rfl hK hP hD hS hA (fun _ => rfl) (by decide) (by decide) (by decide) (by first | exact Nat.le_of_ble_eq_true rfl | omega | (dsimp only [headSpec]; omega) | (simp only [headSpec]; omega) | omega) (by first | exact Nat.le_of_ble_eq_true rfl | omega | (dsimp only [headSpec]; omega) | (simp only [headSpec]; omega) | omega) dJ5_init_d00df_12 (fun qb cB H hK2 hP hD hS => ?_)
  have hP : va_P (dC, dI) vwCl [(h, .inr (1, [.null, .int (nI 0), .int (nI 0), .int (nI 0)])), wa qb cB 16 (fun _ => 0)] H := hP
  have hD : va_D A [(h, .inr (1, [.null, .int (nI 0), .int (nI 0), .int (nI 0)])), wa qb cB 16 (fun _ => 0)] := hD
  refine W.widen (k := 1) (n := 16) (by first | exact Nat.le_of_ble_eq_true rfl | omega | (dsimp only [headSpec]; omega) | (simp only [headSpec]; omega) | omega) (by first | exact Nat.le_of_ble_eq_true rfl | omega | (dsimp only [headSpec]; omega) | (simp only [headSpec]; omega) | omega) ?_
  refine va_put (D := (dC, dI)) (ci := 1) (v := .ref qb) (ty := .array .byte) (C := RJ4) (T := TJ4) (N := 4) hx hb hts inJ5_init_d00df_RJ4 tyJ4 tyJ4_ok nmJ4 hown hK hP hD hS 0 rfl rfl 0 (by decide) (hts (.fieldLink RJ5 15 "java/lang/AbstractStringBuilder" "value" "[B") (by decide +kernel)) (fun _ h9 => h9) rfl (by decide +kernel) rfl rfl (Nat.le_of_ble_eq_true rfl) dJ5_init_d00df_14 (fun H locs hP hD hS => ?_)
  have hP : va_P (dC, dI) vwCl [(h, .inr (1, [.ref qb, .int (nI 0), .int (nI 0), .int (nI 0)])), wa qb cB 16 (fun _ => 0)] H := hP
  have hD : va_D A [(h, .inr (1, [.ref qb, .int (nI 0), .int (nI 0), .int (nI 0)])), wa qb cB 16 (fun _ => 0)] := hD
  refine lv_aload_n hx hb dJ5_init_d00df_17 rfl (lv_at hl 0 rfl) ?_
  refine lv_iconst (v := nI 0) hx hb dJ5_init_d00df_18 (by decide) ?_
  refine va_put (D := (dC, dI)) (ci := 1) (v := .int (nI 0)) (ty := .byte) (C := RJ4) (T := TJ4) (N := 4) hx hb hts inJ5_init_d00df_RJ4 tyJ4 tyJ4_ok nmJ4 hown hK hP hD hS 0 rfl rfl 1 (by decide) (hts (.fieldLink RJ5 22 "java/lang/AbstractStringBuilder" "coder" "B") (by decide +kernel)) (fun _ h9 => h9) rfl (by decide +kernel) rfl rfl (Nat.le_of_ble_eq_true rfl) dJ5_init_d00df_19 (fun H locs hP hD hS => ?_)
  have hP : va_P (dC, dI) vwCl [(h, .inr (1, [.ref qb, .int (nI 0), .int (nI 0), .int (nI 0)])), wa qb cB 16 (fun _ => 0)] H := hP
  have hD : va_D A [(h, .inr (1, [.ref qb, .int (nI 0), .int (nI 0), .int (nI 0)])), wa qb cB 16 (fun _ => 0)] := hD
  refine lv_goto (tgt := 38) hx hb dJ5_init_d00df_22 (by decide) ?_
  have hPe : va_P (dC, dI) vwCl [] _ := hP.sub [] rfl
  have hDe : va_D A [] := hD.sub [] (by decide) rfl
  refine W.widen (k := 1) (n := 16) (by first | exact Nat.le_of_ble_eq_true rfl | omega | (dsimp only [headSpec]; omega) | (simp only [headSpec]; omega) | omega) (by first | exact Nat.le_of_ble_eq_true rfl | omega | (dsimp only [headSpec]; omega) | (simp only [headSpec]; omega) | omega) ?_
  exact W.vret hx hb hr (fun t ht hW => ⟨⟨(), rfl, trivial, by rw [ht]; exact hPe, va_K.moved hW.alike hK, hDe⟩, hS.F ht⟩) hS.2.2 dJ5_init_d00df_38
set_option maxHeartbeats 4000000 in
set_option maxRecDepth 100000 in
theorem c_sbinit (l : Launch) (dC : Nat → ClassId) (dI : Nat → Nat → Nat) (cI cO : ClassId) (z0 : Nat) (sz : Nat) (h : Nat) : Met l yJ4_init_da8c8 usJ4_init_da8c8 ({ frames := 2, cells := 1, slots := 16, locals := 41 }) (va_Pc [.ref h] (fun U => U.heap.size = sz ∧ va_P (dC, dI) vwCl [(h, .inr (1, [.null, .int (nI 0), .int (nI 0), .int (nI 0)]))] U.heap ∧ va_K (dC, dI) vwCl (ty0 cI cO) U ∧ va_D (fun _ => True) [(h, .inr (1, [.null, .int (nI 0), .int (nI 0), .int (nI 0)]))] ∧ uz z0 (va_A [(h, .inr (1, [.null, .int (nI 0), .int (nI 0), .int (nI 0)]))] sz) U)) (va_Qv (fun _ : Unit => True) (fun _ t => va_P (dC, dI) vwCl [] t.heap ∧ va_K (dC, dI) vwCl (ty0 cI cO) t ∧ va_D (va_A [(h, .inr (1, [.null, .int (nI 0), .int (nI 0), .int (nI 0)]))] sz) []) (va_A [(h, .inr (1, [.null, .int (nI 0), .int (nI 0), .int (nI 0)]))] sz)) 1 16 (va_A [(h, .inr (1, [.null, .int (nI 0), .int (nI 0), .int (nI 0)]))] sz) := by
  refine Met.ofW (cc := cJ4_init_da8c8) (maxL := 1) (ret := none) (by decide) rfl ?_
  intro p e s m args below meth c s₁ B hml hv
  obtain ⟨rfl, hsz, hP, hK, hD0, hZ⟩ := hv
  have hx := B.exec
  have hb := B.bytes
  have hr := B.returns
  have hts := atoms_spec (ws := usJ4_init_da8c8) B.pre
  have hown : s.vm.findClass RJ4 = some m.cls := findClass_of_methodNamed B.named
  have hlocks := B.notSynchronized
  have hin : meth.name = "<init>" := (name_of_methodNamed B.named B.method).1
  subst hsz
  have hD := hD0.self (sz := s.heap.size)
  generalize hAe : va_A [(h, .inr (1, [.null, .int (nI 0), .int (nI 0), .int (nI 0)]))] s.heap.size = A at hD hZ ⊢
  have hA : ∀ q : Nat, s.heap.size ≤ q → A q := fun q h => by rw [← hAe]; exact Or.inr h
  have hS : va_S A s.heap s.heap [] := va_S.rf
  obtain ⟨hZs, ⟨fz, hZt⟩, hZo, hZr, hZi, hZc⟩ := id hZ
  have hl := lv_entry ([.ref h]) (n := 1) (Nat.le_of_ble_eq_true rfl)
  rw [lg_entry_eq]
  generalize (lg_sl ([.ref h]) ++ List.replicate (1 - (lg_sl ([.ref h])).length) Slot.unset).toArray = ls at hl ⊢
  have hl : lv_has ls 1 [(0, .ref h)] := hl
  refine lv_aload_n hx hb dJ4_init_da8c8_0 rfl (lv_at hl 0 rfl) ?_
  refine lv_bipush (v := nI 16) hx hb dJ4_init_da8c8_1 (by decide) ?_
  have hPc : va_P (dC, dI) vwCl [(h, .inr (1, [.null, .int (nI 0), .int (nI 0), .int (nI 0)]))] _ := hP.sub [0] rfl
  have hDc : va_D _ [(h, .inr (1, [.null, .int (nI 0), .int (nI 0), .int (nI 0)]))] := hD.sub [0] (by decide) rfl
  have hFc := va_free (wc := [(h, .inr (1, [.null, .int (nI 0), .int (nI 0), .int (nI 0)]))]) hD hS hA [0] rfl
  refine va_callv (va_runI (As := [.int (nI 16)]) (rest := []) ⟨hx, hb, hml, hown, hts⟩ (c_asbinit l dC dI cI cO z0 s.heap.size h) (cwI 1 hts ugJ4_init_da8c8_J5_init_d00df rfl rfl rfl (hts (.initialized RJ5) (by decide +kernel)) (hts (.methodLink RJ4 1 yJ5_init_d00df) (by decide +kernel)) (hts (.instanceMethod yJ5_init_d00df) (by decide +kernel)) rfl (by decide +kernel) ⟨(by first | exact Nat.le_of_ble_eq_true rfl | omega | (dsimp only [headSpec]; omega) | (simp only [headSpec]; omega) | omega), (by first | exact Nat.le_of_ble_eq_true rfl | omega | (dsimp only [headSpec]; omega) | (simp only [headSpec]; omega) | omega)⟩) ⟨fun a U g mk q => by obtain ⟨q0, q1, qP, qK, qD, qZ⟩ := q; exact ⟨q0, q1, qP, va_K.moved (u := U) (U := U.calling g mk a) (Vm.Alike.refl U.vm) qK, qD, qZ.moved (Vm.Alike.refl U.vm) rfl⟩, fun U hU hW => ⟨rfl, by rw [hU], by rw [hU]; exact hPc, va_K.moved hW.alike hK, hDc.weaken (fun _ _ _ _ => trivial), uz_call hZ hS hFc hU hW.alike⟩⟩ rfl rfl hl.1 rfl (lv_room (Nat.le_of_ble_eq_true rfl)) dJ4_init_da8c8_3 ⟨(by first | exact Nat.le_of_ble_eq_true rfl | omega | (dsimp only [headSpec]; omega) | (simp only [headSpec]; omega) | omega), (by first | exact Nat.le_of_ble_eq_true rfl | omega | (dsimp only [headSpec]; omega) | (simp only [headSpec]; omega) | omega)⟩) hS (fun q _ h => hFc q h) hFc (fun u t H locs ht hvm hw hB hz1 hk1 hS => ?_)
  obtain ⟨hP1, hK1, hD1⟩ := hB
  rw [ht] at hP1
  obtain ⟨hP, hD⟩ := va_join (wr := []) (w1 := []) hP hD [0] [] rfl rfl (by decide) (by decide) hk1 hFc hP1 hD1
  have hP : va_P (dC, dI) vwCl [] H := hP
  have hD : va_D A [] := hD
  refine W.widen (k := 1) (n := 16) (by first | exact Nat.le_of_ble_eq_true rfl | omega | (dsimp only [headSpec]; omega) | (simp only [headSpec]; omega) | omega) (by first | exact Nat.le_of_ble_eq_true rfl | omega | (dsimp only [headSpec]; omega) | (simp only [headSpec]; omega) | omega) ?_
  have hPe : va_P (dC, dI) vwCl [] _ := hP.sub [] rfl
  have hDe : va_D A [] := hD.sub [] (by decide) rfl
  refine W.widen (k := 1) (n := 16) (by first | exact Nat.le_of_ble_eq_true rfl | omega | (dsimp only [headSpec]; omega) | (simp only [headSpec]; omega) | omega) (by first | exact Nat.le_of_ble_eq_true rfl | omega | (dsimp only [headSpec]; omega) | (simp only [headSpec]; omega) | omega) ?_
  exact W.vret hx hb hr (fun t ht hW => ⟨⟨(), rfl, trivial, by rw [ht]; exact hPe, va_K.moved hW.alike hK, hDe⟩, hS.F ht⟩) hS.2.2 dJ4_init_da8c8_6
set_option maxHeartbeats 4000000 in
set_option maxRecDepth 100000 in
theorem c_runsinit (l : Launch) (dC : Nat → ClassId) (dI : Nat → Nat → Nat) (cI cO : ClassId) (sz : Nat) (h : Nat) : Met l yX7_init usX7_init ({ frames := 2, cells := 4, slots := 544, locals := 37 }) (va_Pc [.ref h] (fun U => U.heap.size = sz ∧ va_P (dC, dI) vwCl [(h, .inr (14, [.null, .null]))] U.heap ∧ va_K (dC, dI) vwCl (ty0 cI cO) U ∧ va_D (fun _ => True) [(h, .inr (14, [.null, .null]))])) (va_Qv (fun _ : Unit => True) (fun _ t => ∃ (q_1 : Nat), ∃ (q_3 : Nat), ∃ (a_2 : Nat), ∃ (a_4 : Nat), va_P (dC, dI) vwCl [(h, .inr (14, [.ref q_1, .ref q_3])), (q_1, .inr (13, [.ref a_2, .int (nI 0)])), wa a_2 cI 270 (fun _ => 0), (q_3, .inr (13, [.ref a_4, .int (nI 0)])), wa a_4 cI 270 (fun _ => 0)] t.heap ∧ va_K (dC, dI) vwCl (ty0 cI cO) t ∧ va_D (va_A [(h, .inr (14, [.null, .null]))] sz) [(h, .inr (14, [.ref q_1, .ref q_3])), (q_1, .inr (13, [.ref a_2, .int (nI 0)])), wa a_2 cI 270 (fun _ => 0), (q_3, .inr (13, [.ref a_4, .int (nI 0)])), wa a_4 cI 270 (fun _ => 0)]) (va_A [(h, .inr (14, [.null, .null]))] sz)) 4 544 (va_A [(h, .inr (14, [.null, .null]))] sz) := by
  refine Met.ofW (cc := cX7_init) (maxL := 1) (ret := none) (by decide) rfl ?_
  intro p e s m args below meth c s₁ B hml hv
  obtain ⟨rfl, hsz, hP, hK, hD0⟩ := hv
  have hx := B.exec
  have hb := B.bytes
  have hr := B.returns
  have hts := atoms_spec (ws := usX7_init) B.pre
  have hown : s.vm.findClass RX7 = some m.cls := findClass_of_methodNamed B.named
  have hlocks := B.notSynchronized
  have hin : meth.name = "<init>" := (name_of_methodNamed B.named B.method).1
  subst hsz
  have hD := hD0.self (sz := s.heap.size)
  generalize hAe : va_A [(h, .inr (14, [.null, .null]))] s.heap.size = A at hD ⊢
  have hA : ∀ q : Nat, s.heap.size ≤ q → A q := fun q h => by rw [← hAe]; exact Or.inr h
  have hS : va_S A s.heap s.heap [] := va_S.rf
  have hl := lv_entry ([.ref h]) (n := 1) (Nat.le_of_ble_eq_true rfl)
  rw [lg_entry_eq]
  generalize (lg_sl ([.ref h]) ++ List.replicate (1 - (lg_sl ([.ref h])).length) Slot.unset).toArray = ls at hl ⊢
  have hl : lv_has ls 1 [(0, .ref h)] := hl
  refine lv_aload_n hx hb dX7_init_0 rfl (lv_at hl 0 rfl) ?_
  refine W.objInit hx hb hown (hts (.methodLink RX7 3 objectInit) (by decide +kernel)) (hts (.instanceMethod objectInit) (by decide +kernel)) (hts _ (List.mem_of_getElem? (i := 3) rfl)) rfl (by rw [hml]; exact hl.1) rfl dX7_init_1 (by first | exact Nat.le_of_ble_eq_true rfl | omega | (dsimp only [headSpec]; omega) | (simp only [headSpec]; omega) | omega) (by first | exact Nat.le_of_ble_eq_true rfl | omega | (dsimp only [headSpec]; omega) | (simp only [headSpec]; omega) | omega) ?_
  refine W.eq (g2 := F0 m 4 ls []) rfl ?_
  refine lv_aload_n hx hb dX7_init_4 rfl (lv_at hl 0 rfl) ?_
  refine va_new (ci := 13) (fs := [.null, .int (nI 0)]) (C := RX6) (T := TX6) (N := 2) hx hb hts inX7_init_RX6 tyX6 tyX6_ok hown (hts (.classLink RX7 9 RX6) (by decide +kernel)) (hts (.instantiable RX6 2) (by decide +kernel)) (hts (.initialized RX6) (by decide +kernel)) hK hP hD hS hA rfl (fun j hj => by rcases (show j = 0 ∨ j = 1 by omega) with rfl | rfl <;> rfl) (by first | exact Nat.le_of_ble_eq_true rfl | omega | (dsimp only [headSpec]; omega) | (simp only [headSpec]; omega) | omega) (by first | exact Nat.le_of_ble_eq_true rfl | omega | (dsimp only [headSpec]; omega) | (simp only [headSpec]; omega) | omega) dX7_init_5 (fun q_1 H hP hD hS => ?_)
  have hP : va_P (dC, dI) vwCl [(h, .inr (14, [.null, .null])), (q_1, .inr (13, [.null, .int (nI 0)]))] H := hP
  have hD : va_D A [(h, .inr (14, [.null, .null])), (q_1, .inr (13, [.null, .int (nI 0)]))] := hD
  refine W.widen (k := 1) (n := 2) (by first | exact Nat.le_of_ble_eq_true rfl | omega | (dsimp only [headSpec]; omega) | (simp only [headSpec]; omega) | omega) (by first | exact Nat.le_of_ble_eq_true rfl | omega | (dsimp only [headSpec]; omega) | (simp only [headSpec]; omega) | omega) ?_
  refine lv_dup hx hb dX7_init_8 rfl ?_
  refine lv_sipush (v := nI 270) hx hb dX7_init_9 (by decide) ?_
  have hPc : va_P (dC, dI) vwCl [(q_1, .inr (13, [.null, .int (nI 0)]))] _ := hP.sub [1] rfl
  have hDc : va_D _ [(q_1, .inr (13, [.null, .int (nI 0)]))] := hD.sub [1] (by decide) rfl
  have hFc := va_free (wc := [(q_1, .inr (13, [.null, .int (nI 0)]))]) hD hS hA [1] rfl
  refine va_callv (va_runI (As := [.int (nI 270)]) (rest := [.ref q_1, .ref h]) ⟨hx, hb, hml, hown, hts⟩ (c_rowinit l dC dI cI cO H.size q_1 270 (by omega)) (cwI 1 hts ugX7_init_X6_init rfl rfl rfl (hts (.initialized RX6) (by decide +kernel)) (hts (.methodLink RX7 11 yX6_init) (by decide +kernel)) (hts (.instanceMethod yX6_init) (by decide +kernel)) rfl (by decide +kernel) ⟨(by first | exact Nat.le_of_ble_eq_true rfl | omega | (dsimp only [headSpec]; omega) | (simp only [headSpec]; omega) | omega), (by first | exact Nat.le_of_ble_eq_true rfl | omega | (dsimp only [headSpec]; omega) | (simp only [headSpec]; omega) | omega)⟩) ⟨fun a U g mk q => by obtain ⟨q0, q1, qP, qK, qD⟩ := q; exact ⟨q0, q1, qP, va_K.moved (u := U) (U := U.calling g mk a) (Vm.Alike.refl U.vm) qK, qD⟩, fun U hU hW => ⟨rfl, by rw [hU], by rw [hU]; exact hPc, va_K.moved hW.alike hK, hDc.weaken (fun _ _ _ _ => trivial)⟩⟩ rfl rfl hl.1 rfl (lv_room (Nat.le_of_ble_eq_true rfl)) dX7_init_12 ⟨(by first | exact Nat.le_of_ble_eq_true rfl | omega | (dsimp only [headSpec]; omega) | (simp only [headSpec]; omega) | omega), (by first | exact Nat.le_of_ble_eq_true rfl | omega | (dsimp only [headSpec]; omega) | (simp only [headSpec]; omega) | omega)⟩) hS (fun q _ h => hFc q h) hFc (fun u t H locs ht hvm hw hB hz1 hk1 hS => ?_)
  obtain ⟨a_2, hP1, hK1, hD1⟩ := hB
  rw [ht] at hP1
  obtain ⟨hP, hD⟩ := va_join (wr := [(h, .inr (14, [.null, .null]))]) (w1 := [(q_1, .inr (13, [.ref a_2, .int (nI 0)])), wa a_2 cI 270 (fun _ => 0)]) hP hD [1] [0] rfl rfl (by decide) (by decide) hk1 hFc hP1 hD1
  have hP : va_P (dC, dI) vwCl [(h, .inr (14, [.null, .null])), (q_1, .inr (13, [.ref a_2, .int (nI 0)])), wa a_2 cI 270 (fun _ => 0)] H := hP
  have hD : va_D A [(h, .inr (14, [.null, .null])), (q_1, .inr (13, [.ref a_2, .int (nI 0)])), wa a_2 cI 270 (fun _ => 0)] := hD
  refine W.widen (k := 2) (n := 272) (by first | exact Nat.le_of_ble_eq_true rfl | omega | (dsimp only [headSpec]; omega) | (simp only [headSpec]; omega) | omega) (by first | exact Nat.le_of_ble_eq_true rfl | omega | (dsimp only [headSpec]; omega) | (simp only [headSpec]; omega) | omega) ?_
  refine va_putF (D := (dC, dI)) (ci := 14) (v := .ref q_1) (ty := .object "Patchferry$Row") (C := RX7) (T := TX7) (N := 2) hx hb hts inX7_init_RX7 tyX7 tyX7_ok nmX7 hown hK hP hD hS 0 rfl rfl 0 (by decide) (hts (.fieldLink RX7 14 "Patchferry$Runs" "values" "LPatchferry$Row;") (by decide +kernel)) (fun _ h9 => h9) rfl hin rfl (by decide +kernel) rfl rfl (Nat.le_of_ble_eq_true rfl) dX7_init_15 (fun H locs hP hD hS => ?_)
  have hP : va_P (dC, dI) vwCl [(h, .inr (14, [.ref q_1, .null])), (q_1, .inr (13, [.ref a_2, .int (nI 0)])), wa a_2 cI 270 (fun _ => 0)] H := hP
  have hD : va_D A [(h, .inr (14, [.ref q_1, .null])), (q_1, .inr (13, [.ref a_2, .int (nI 0)])), wa a_2 cI 270 (fun _ => 0)] := hD
  refine lv_aload_n hx hb dX7_init_18 rfl (lv_at hl 0 rfl) ?_
  refine va_new (ci := 13) (fs := [.null, .int (nI 0)]) (C := RX6) (T := TX6) (N := 2) hx hb hts inX7_init_RX6 tyX6 tyX6_ok hown (hts (.classLink RX7 9 RX6) (by decide +kernel)) (hts (.instantiable RX6 2) (by decide +kernel)) (hts (.initialized RX6) (by decide +kernel)) hK hP hD hS hA rfl (fun j hj => by rcases (show j = 0 ∨ j = 1 by omega) with rfl | rfl <;> rfl) (by first | exact Nat.le_of_ble_eq_true rfl | omega | (dsimp only [headSpec]; omega) | (simp only [headSpec]; omega) | omega) (by first | exact Nat.le_of_ble_eq_true rfl | omega | (dsimp only [headSpec]; omega) | (simp only [headSpec]; omega) | omega) dX7_init_19 (fun q_3 H hP hD hS => ?_)
  have hP : va_P (dC, dI) vwCl [(h, .inr (14, [.ref q_1, .null])), (q_1, .inr (13, [.ref a_2, .int (nI 0)])), wa a_2 cI 270 (fun _ => 0), (q_3, .inr (13, [.null, .int (nI 0)]))] H := hP
  have hD : va_D A [(h, .inr (14, [.ref q_1, .null])), (q_1, .inr (13, [.ref a_2, .int (nI 0)])), wa a_2 cI 270 (fun _ => 0), (q_3, .inr (13, [.null, .int (nI 0)]))] := hD
  refine W.widen (k := 3) (n := 274) (by first | exact Nat.le_of_ble_eq_true rfl | omega | (dsimp only [headSpec]; omega) | (simp only [headSpec]; omega) | omega) (by first | exact Nat.le_of_ble_eq_true rfl | omega | (dsimp only [headSpec]; omega) | (simp only [headSpec]; omega) | omega) ?_
  refine lv_dup hx hb dX7_init_22 rfl ?_
  refine lv_sipush (v := nI 270) hx hb dX7_init_23 (by decide) ?_
  have hPc : va_P (dC, dI) vwCl [(q_3, .inr (13, [.null, .int (nI 0)]))] _ := hP.sub [3] rfl
  have hDc : va_D _ [(q_3, .inr (13, [.null, .int (nI 0)]))] := hD.sub [3] (by decide) rfl
  have hFc := va_free (wc := [(q_3, .inr (13, [.null, .int (nI 0)]))]) hD hS hA [3] rfl
  refine va_callv (va_runI (As := [.int (nI 270)]) (rest := [.ref q_3, .ref h]) ⟨hx, hb, hml, hown, hts⟩ (c_rowinit l dC dI cI cO H.size q_3 270 (by omega)) (cwI 1 hts ugX7_init_X6_init rfl rfl rfl (hts (.initialized RX6) (by decide +kernel)) (hts (.methodLink RX7 11 yX6_init) (by decide +kernel)) (hts (.instanceMethod yX6_init) (by decide +kernel)) rfl (by decide +kernel) ⟨(by first | exact Nat.le_of_ble_eq_true rfl | omega | (dsimp only [headSpec]; omega) | (simp only [headSpec]; omega) | omega), (by first | exact Nat.le_of_ble_eq_true rfl | omega | (dsimp only [headSpec]; omega) | (simp only [headSpec]; omega) | omega)⟩) ⟨fun a U g mk q => by obtain ⟨q0, q1, qP, qK, qD⟩ := q; exact ⟨q0, q1, qP, va_K.moved (u := U) (U := U.calling g mk a) (Vm.Alike.refl U.vm) qK, qD⟩, fun U hU hW => ⟨rfl, by rw [hU], by rw [hU]; exact hPc, va_K.moved hW.alike hK, hDc.weaken (fun _ _ _ _ => trivial)⟩⟩ rfl rfl hl.1 rfl (lv_room (Nat.le_of_ble_eq_true rfl)) dX7_init_26 ⟨(by first | exact Nat.le_of_ble_eq_true rfl | omega | (dsimp only [headSpec]; omega) | (simp only [headSpec]; omega) | omega), (by first | exact Nat.le_of_ble_eq_true rfl | omega | (dsimp only [headSpec]; omega) | (simp only [headSpec]; omega) | omega)⟩) hS (fun q _ h => hFc q h) hFc (fun u t H locs ht hvm hw hB hz1 hk1 hS => ?_)
  obtain ⟨a_4, hP1, hK1, hD1⟩ := hB
  rw [ht] at hP1
  obtain ⟨hP, hD⟩ := va_join (wr := [(h, .inr (14, [.ref q_1, .null])), (q_1, .inr (13, [.ref a_2, .int (nI 0)])), wa a_2 cI 270 (fun _ => 0)]) (w1 := [(q_3, .inr (13, [.ref a_4, .int (nI 0)])), wa a_4 cI 270 (fun _ => 0)]) hP hD [3] [0, 1, 2] rfl rfl (by decide) (by decide) hk1 hFc hP1 hD1
  have hP : va_P (dC, dI) vwCl [(h, .inr (14, [.ref q_1, .null])), (q_1, .inr (13, [.ref a_2, .int (nI 0)])), wa a_2 cI 270 (fun _ => 0), (q_3, .inr (13, [.ref a_4, .int (nI 0)])), wa a_4 cI 270 (fun _ => 0)] H := hP
  have hD : va_D A [(h, .inr (14, [.ref q_1, .null])), (q_1, .inr (13, [.ref a_2, .int (nI 0)])), wa a_2 cI 270 (fun _ => 0), (q_3, .inr (13, [.ref a_4, .int (nI 0)])), wa a_4 cI 270 (fun _ => 0)] := hD
  refine W.widen (k := 4) (n := 544) (by first | exact Nat.le_of_ble_eq_true rfl | omega | (dsimp only [headSpec]; omega) | (simp only [headSpec]; omega) | omega) (by first | exact Nat.le_of_ble_eq_true rfl | omega | (dsimp only [headSpec]; omega) | (simp only [headSpec]; omega) | omega) ?_
  refine va_putF (D := (dC, dI)) (ci := 14) (v := .ref q_3) (ty := .object "Patchferry$Row") (C := RX7) (T := TX7) (N := 2) hx hb hts inX7_init_RX7 tyX7 tyX7_ok nmX7 hown hK hP hD hS 0 rfl rfl 1 (by decide) (hts (.fieldLink RX7 20 "Patchferry$Runs" "ends" "LPatchferry$Row;") (by decide +kernel)) (fun _ h9 => h9) rfl hin rfl (by decide +kernel) rfl rfl (Nat.le_of_ble_eq_true rfl) dX7_init_29 (fun H locs hP hD hS => ?_)
  have hP : va_P (dC, dI) vwCl [(h, .inr (14, [.ref q_1, .ref q_3])), (q_1, .inr (13, [.ref a_2, .int (nI 0)])), wa a_2 cI 270 (fun _ => 0), (q_3, .inr (13, [.ref a_4, .int (nI 0)])), wa a_4 cI 270 (fun _ => 0)] H := hP
  have hD : va_D A [(h, .inr (14, [.ref q_1, .ref q_3])), (q_1, .inr (13, [.ref a_2, .int (nI 0)])), wa a_2 cI 270 (fun _ => 0), (q_3, .inr (13, [.ref a_4, .int (nI 0)])), wa a_4 cI 270 (fun _ => 0)] := hD
  have hPe : va_P (dC, dI) vwCl [(h, .inr (14, [.ref q_1, .ref q_3])), (q_1, .inr (13, [.ref a_2, .int (nI 0)])), wa a_2 cI 270 (fun _ => 0), (q_3, .inr (13, [.ref a_4, .int (nI 0)])), wa a_4 cI 270 (fun _ => 0)] _ := hP.sub [0, 1, 2, 3, 4] rfl
  have hDe : va_D A [(h, .inr (14, [.ref q_1, .ref q_3])), (q_1, .inr (13, [.ref a_2, .int (nI 0)])), wa a_2 cI 270 (fun _ => 0), (q_3, .inr (13, [.ref a_4, .int (nI 0)])), wa a_4 cI 270 (fun _ => 0)] := hD.sub [0, 1, 2, 3, 4] (by decide) rfl
  refine W.widen (k := 4) (n := 544) (by first | exact Nat.le_of_ble_eq_true rfl | omega | (dsimp only [headSpec]; omega) | (simp only [headSpec]; omega) | omega) (by first | exact Nat.le_of_ble_eq_true rfl | omega | (dsimp only [headSpec]; omega) | (simp only [headSpec]; omega) | omega) ?_
  exact W.vret hx hb hr (fun t ht hW => ⟨⟨(), rfl, trivial, _, _, _, _, by rw [ht]; exact hPe, va_K.moved hW.alike hK, hDe⟩, hS.F ht⟩) hS.2.2 dX7_init_32
set_option maxHeartbeats 4000000 in
set_option maxRecDepth 100000 in
theorem c_differinit (l : Launch) (dC : Nat → ClassId) (dI : Nat → Nat → Nat) (cI cO : ClassId) (sz : Nat) (h : Nat) : Met l yX1_init usX1_init ({ frames := 3, cells := 10, slots := 1092, locals := 57 }) (va_Pc [.ref h] (fun U => U.heap.size = sz ∧ va_P (dC, dI) vwCl [(h, .inr (8, [.null, .null, .int (nI 0), .int (nI 0), .int (nI 0), .int (nI 0), .int (nI 0), .int (nI 0), .int (nI 0), .int (nI 0)]))] U.heap ∧ va_K (dC, dI) vwCl (ty0 cI cO) U ∧ va_D (fun _ => True) [(h, .inr (8, [.null, .null, .int (nI 0), .int (nI 0), .int (nI 0), .int (nI 0), .int (nI 0), .int (nI 0), .int (nI 0), .int (nI 0)]))])) (va_Qv (fun _ : Unit => True) (fun _ t => va_P (dC, dI) vwCl [] t.heap ∧ va_K (dC, dI) vwCl (ty0 cI cO) t ∧ va_D (va_A [(h, .inr (8, [.null, .null, .int (nI 0), .int (nI 0), .int (nI 0), .int (nI 0), .int (nI 0), .int (nI 0), .int (nI 0), .int (nI 0)]))] sz) []) (va_A [(h, .inr (8, [.null, .null, .int (nI 0), .int (nI 0), .int (nI 0), .int (nI 0), .int (nI 0), .int (nI 0), .int (nI 0), .int (nI 0)]))] sz)) 10 1092 (va_A [(h, .inr (8, [.null, .null, .int (nI 0), .int (nI 0), .int (nI 0), .int (nI 0), .int (nI 0), .int (nI 0), .int (nI 0), .int (nI 0)]))] sz) := by
  refine Met.ofW (cc := cX1_init) (maxL := 1) (ret := none) (by decide) rfl ?_
  intro p e s m args below meth c s₁ B hml hv
  obtain ⟨rfl, hsz, hP, hK, hD0⟩ := hv
  have hx := B.exec
  have hb := B.bytes
  have hr := B.returns
  have hts := atoms_spec (ws := usX1_init) B.pre
  have hown : s.vm.findClass RX1 = some m.cls := findClass_of_methodNamed B.named
  have hlocks := B.notSynchronized
  have hin : meth.name = "<init>" := (name_of_methodNamed B.named B.method).1
  subst hsz
  have hD := hD0.self (sz := s.heap.size)
  generalize hAe : va_A [(h, .inr (8, [.null, .null, .int (nI 0), .int (nI 0), .int (nI 0), .int (nI 0), .int (nI 0), .int (nI 0), .int (nI 0), .int (nI 0)]))] s.heap.size = A at hD ⊢
  have hA : ∀ q : Nat, s.heap.size ≤ q → A q := fun q h => by rw [← hAe]; exact Or.inr h
  have hS : va_S A s.heap s.heap [] := va_S.rf
  have hl := lv_entry ([.ref h]) (n := 1) (Nat.le_of_ble_eq_true rfl)
  rw [lg_entry_eq]
  generalize (lg_sl ([.ref h]) ++ List.replicate (1 - (lg_sl ([.ref h])).length) Slot.unset).toArray = ls at hl ⊢
  have hl : lv_has ls 1 [(0, .ref h)] := hl
  refine lv_aload_n hx hb dX1_init_0 rfl (lv_at hl 0 rfl) ?_
  refine W.objInit hx hb hown (hts (.methodLink RX1 1 objectInit) (by decide +kernel)) (hts (.instanceMethod objectInit) (by decide +kernel)) (hts _ (List.mem_of_getElem? (i := 3) rfl)) rfl (by rw [hml]; exact hl.1) rfl dX1_init_1 (by first | exact Nat.le_of_ble_eq_true rfl | omega | (dsimp only [headSpec]; omega) | (simp only [headSpec]; omega) | omega) (by first | exact Nat.le_of_ble_eq_true rfl | omega | (dsimp only [headSpec]; omega) | (simp only [headSpec]; omega) | omega) ?_
  refine W.eq (g2 := F0 m 4 ls []) rfl ?_
  refine lv_aload_n hx hb dX1_init_4 rfl (lv_at hl 0 rfl) ?_
  refine va_new (ci := 14) (fs := [.null, .null]) (C := RX7) (T := TX7) (N := 2) hx hb hts inX1_init_RX7 tyX7 tyX7_ok hown (hts (.classLink RX1 7 RX7) (by decide +kernel)) (hts (.instantiable RX7 2) (by decide +kernel)) (hts (.initialized RX7) (by decide +kernel)) hK hP hD hS hA rfl (fun j hj => by rcases (show j = 0 ∨ j = 1 by omega) with rfl | rfl <;> rfl) (by first | exact Nat.le_of_ble_eq_true rfl | omega | (dsimp only [headSpec]; omega) | (simp only [headSpec]; omega) | omega) (by first | exact Nat.le_of_ble_eq_true rfl | omega | (dsimp only [headSpec]; omega) | (simp only [headSpec]; omega) | omega) dX1_init_5 (fun q_1 H hP hD hS => ?_)
  have hP : va_P (dC, dI) vwCl [(h, .inr (8, [.null, .null, .int (nI 0), .int (nI 0), .int (nI 0), .int (nI 0), .int (nI 0), .int (nI 0), .int (nI 0), .int (nI 0)])), (q_1, .inr (14, [.null, .null]))] H := hP
  have hD : va_D A [(h, .inr (8, [.null, .null, .int (nI 0), .int (nI 0), .int (nI 0), .int (nI 0), .int (nI 0), .int (nI 0), .int (nI 0), .int (nI 0)])), (q_1, .inr (14, [.null, .null]))] := hD
  refine W.widen (k := 1) (n := 2) (by first | exact Nat.le_of_ble_eq_true rfl | omega | (dsimp only [headSpec]; omega) | (simp only [headSpec]; omega) | omega) (by first | exact Nat.le_of_ble_eq_true rfl | omega | (dsimp only [headSpec]; omega) | (simp only [headSpec]; omega) | omega) ?_
  refine lv_dup hx hb dX1_init_8 rfl ?_
  have hPc : va_P (dC, dI) vwCl [(q_1, .inr (14, [.null, .null]))] _ := hP.sub [1] rfl
  have hDc : va_D _ [(q_1, .inr (14, [.null, .null]))] := hD.sub [1] (by decide) rfl
  have hFc := va_free (wc := [(q_1, .inr (14, [.null, .null]))]) hD hS hA [1] rfl
  refine va_callv (va_runI (As := []) (rest := [.ref q_1, .ref h]) ⟨hx, hb, hml, hown, hts⟩ (c_runsinit l dC dI cI cO H.size q_1) (cwI 0 hts ugX1_init_X7_init rfl rfl rfl (hts (.initialized RX7) (by decide +kernel)) (hts (.methodLink RX1 9 yX7_init) (by decide +kernel)) (hts (.instanceMethod yX7_init) (by decide +kernel)) rfl (by decide +kernel) ⟨(by first | exact Nat.le_of_ble_eq_true rfl | omega | (dsimp only [headSpec]; omega) | (simp only [headSpec]; omega) | omega), (by first | exact Nat.le_of_ble_eq_true rfl | omega | (dsimp only [headSpec]; omega) | (simp only [headSpec]; omega) | omega)⟩) ⟨fun a U g mk q => by obtain ⟨q0, q1, qP, qK, qD⟩ := q; exact ⟨q0, q1, qP, va_K.moved (u := U) (U := U.calling g mk a) (Vm.Alike.refl U.vm) qK, qD⟩, fun U hU hW => ⟨rfl, by rw [hU], by rw [hU]; exact hPc, va_K.moved hW.alike hK, hDc.weaken (fun _ _ _ _ => trivial)⟩⟩ rfl rfl hl.1 rfl (lv_room (Nat.le_of_ble_eq_true rfl)) dX1_init_9 ⟨(by first | exact Nat.le_of_ble_eq_true rfl | omega | (dsimp only [headSpec]; omega) | (simp only [headSpec]; omega) | omega), (by first | exact Nat.le_of_ble_eq_true rfl | omega | (dsimp only [headSpec]; omega) | (simp only [headSpec]; omega) | omega)⟩) hS (fun q _ h => hFc q h) hFc (fun u t H locs ht hvm hw hB hz1 hk1 hS => ?_)
  obtain ⟨a_2, a_3, a_4, a_5, hP1, hK1, hD1⟩ := hB
  rw [ht] at hP1
  obtain ⟨hP, hD⟩ := va_join (wr := [(h, .inr (8, [.null, .null, .int (nI 0), .int (nI 0), .int (nI 0), .int (nI 0), .int (nI 0), .int (nI 0), .int (nI 0), .int (nI 0)]))]) (w1 := [(q_1, .inr (14, [.ref a_2, .ref a_3])), (a_2, .inr (13, [.ref a_4, .int (nI 0)])), wa a_4 cI 270 (fun _ => 0), (a_3, .inr (13, [.ref a_5, .int (nI 0)])), wa a_5 cI 270 (fun _ => 0)]) hP hD [1] [0] rfl rfl (by decide) (by decide) hk1 hFc hP1 hD1
  have hP : va_P (dC, dI) vwCl [(h, .inr (8, [.null, .null, .int (nI 0), .int (nI 0), .int (nI 0), .int (nI 0), .int (nI 0), .int (nI 0), .int (nI 0), .int (nI 0)])), (q_1, .inr (14, [.ref a_2, .ref a_3])), (a_2, .inr (13, [.ref a_4, .int (nI 0)])), wa a_4 cI 270 (fun _ => 0), (a_3, .inr (13, [.ref a_5, .int (nI 0)])), wa a_5 cI 270 (fun _ => 0)] H := hP
  have hD : va_D A [(h, .inr (8, [.null, .null, .int (nI 0), .int (nI 0), .int (nI 0), .int (nI 0), .int (nI 0), .int (nI 0), .int (nI 0), .int (nI 0)])), (q_1, .inr (14, [.ref a_2, .ref a_3])), (a_2, .inr (13, [.ref a_4, .int (nI 0)])), wa a_4 cI 270 (fun _ => 0), (a_3, .inr (13, [.ref a_5, .int (nI 0)])), wa a_5 cI 270 (fun _ => 0)] := hD
  refine W.widen (k := 5) (n := 546) (by first | exact Nat.le_of_ble_eq_true rfl | omega | (dsimp only [headSpec]; omega) | (simp only [headSpec]; omega) | omega) (by first | exact Nat.le_of_ble_eq_true rfl | omega | (dsimp only [headSpec]; omega) | (simp only [headSpec]; omega) | omega) ?_
  have hP : va_P (dC, dI) vwCl [(h, .inr (8, [.null, .null, .int (nI 0), .int (nI 0), .int (nI 0), .int (nI 0), .int (nI 0), .int (nI 0), .int (nI 0), .int (nI 0)]))] H := hP.sub [0] rfl
  have hD : va_D A [(h, .inr (8, [.null, .null, .int (nI 0), .int (nI 0), .int (nI 0), .int (nI 0), .int (nI 0), .int (nI 0), .int (nI 0), .int (nI 0)]))] := hD.sub [0] (by decide) rfl
  refine va_putF (D := (dC, dI)) (ci := 8) (v := .ref q_1) (ty := .object "Patchferry$Runs") (C := RX1) (T := TX1) (N := 10) hx hb hts inX1_init_RX1 tyX1 tyX1_ok nmX1 hown hK hP hD hS 0 rfl rfl 0 (by decide) (hts (.fieldLink RX1 10 "Patchferry$Differ" "before" "LPatchferry$Runs;") (by decide +kernel)) (fun _ h9 => h9) rfl hin rfl (by decide +kernel) rfl rfl (Nat.le_of_ble_eq_true rfl) dX1_init_12 (fun H locs hP hD hS => ?_)
  have hP : va_P (dC, dI) vwCl [(h, .inr (8, [.ref q_1, .null, .int (nI 0), .int (nI 0), .int (nI 0), .int (nI 0), .int (nI 0), .int (nI 0), .int (nI 0), .int (nI 0)]))] H := hP
  have hD : va_D A [(h, .inr (8, [.ref q_1, .null, .int (nI 0), .int (nI 0), .int (nI 0), .int (nI 0), .int (nI 0), .int (nI 0), .int (nI 0), .int (nI 0)]))] := hD
  refine lv_aload_n hx hb dX1_init_15 rfl (lv_at hl 0 rfl) ?_
  refine va_new (ci := 14) (fs := [.null, .null]) (C := RX7) (T := TX7) (N := 2) hx hb hts inX1_init_RX7 tyX7 tyX7_ok hown (hts (.classLink RX1 7 RX7) (by decide +kernel)) (hts (.instantiable RX7 2) (by decide +kernel)) (hts (.initialized RX7) (by decide +kernel)) hK hP hD hS hA rfl (fun j hj => by rcases (show j = 0 ∨ j = 1 by omega) with rfl | rfl <;> rfl) (by first | exact Nat.le_of_ble_eq_true rfl | omega | (dsimp only [headSpec]; omega) | (simp only [headSpec]; omega) | omega) (by first | exact Nat.le_of_ble_eq_true rfl | omega | (dsimp only [headSpec]; omega) | (simp only [headSpec]; omega) | omega) dX1_init_16 (fun q_6 H hP hD hS => ?_)
  have hP : va_P (dC, dI) vwCl [(h, .inr (8, [.ref q_1, .null, .int (nI 0), .int (nI 0), .int (nI 0), .int (nI 0), .int (nI 0), .int (nI 0), .int (nI 0), .int (nI 0)])), (q_6, .inr (14, [.null, .null]))] H := hP
  have hD : va_D A [(h, .inr (8, [.ref q_1, .null, .int (nI 0), .int (nI 0), .int (nI 0), .int (nI 0), .int (nI 0), .int (nI 0), .int (nI 0), .int (nI 0)])), (q_6, .inr (14, [.null, .null]))] := hD
  refine W.widen (k := 6) (n := 548) (by first | exact Nat.le_of_ble_eq_true rfl | omega | (dsimp only [headSpec]; omega) | (simp only [headSpec]; omega) | omega) (by first | exact Nat.le_of_ble_eq_true rfl | omega | (dsimp only [headSpec]; omega) | (simp only [headSpec]; omega) | omega) ?_
  refine lv_dup hx hb dX1_init_19 rfl ?_
  have hPc : va_P (dC, dI) vwCl [(q_6, .inr (14, [.null, .null]))] _ := hP.sub [1] rfl
  have hDc : va_D _ [(q_6, .inr (14, [.null, .null]))] := hD.sub [1] (by decide) rfl
  have hFc := va_free (wc := [(q_6, .inr (14, [.null, .null]))]) hD hS hA [1] rfl
  refine va_callv (va_runI (As := []) (rest := [.ref q_6, .ref h]) ⟨hx, hb, hml, hown, hts⟩ (c_runsinit l dC dI cI cO H.size q_6) (cwI 0 hts ugX1_init_X7_init rfl rfl rfl (hts (.initialized RX7) (by decide +kernel)) (hts (.methodLink RX1 9 yX7_init) (by decide +kernel)) (hts (.instanceMethod yX7_init) (by decide +kernel)) rfl (by decide +kernel) ⟨(by first | exact Nat.le_of_ble_eq_true rfl | omega | (dsimp only [headSpec]; omega) | (simp only [headSpec]; omega) | omega), (by first | exact Nat.le_of_ble_eq_true rfl | omega | (dsimp only [headSpec]; omega) | (simp only [headSpec]; omega) | omega)⟩) ⟨fun a U g mk q => by obtain ⟨q0, q1, qP, qK, qD⟩ := q; exact ⟨q0, q1, qP, va_K.moved (u := U) (U := U.calling g mk a) (Vm.Alike.refl U.vm) qK, qD⟩, fun U hU hW => ⟨rfl, by rw [hU], by rw [hU]; exact hPc, va_K.moved hW.alike hK, hDc.weaken (fun _ _ _ _ => trivial)⟩⟩ rfl rfl hl.1 rfl (lv_room (Nat.le_of_ble_eq_true rfl)) dX1_init_20 ⟨(by first | exact Nat.le_of_ble_eq_true rfl | omega | (dsimp only [headSpec]; omega) | (simp only [headSpec]; omega) | omega), (by first | exact Nat.le_of_ble_eq_true rfl | omega | (dsimp only [headSpec]; omega) | (simp only [headSpec]; omega) | omega)⟩) hS (fun q _ h => hFc q h) hFc (fun u t H locs ht hvm hw hB hz1 hk1 hS => ?_)
  obtain ⟨a_7, a_8, a_9, a_10, hP1, hK1, hD1⟩ := hB
  rw [ht] at hP1
  obtain ⟨hP, hD⟩ := va_join (wr := [(h, .inr (8, [.ref q_1, .null, .int (nI 0), .int (nI 0), .int (nI 0), .int (nI 0), .int (nI 0), .int (nI 0), .int (nI 0), .int (nI 0)]))]) (w1 := [(q_6, .inr (14, [.ref a_7, .ref a_8])), (a_7, .inr (13, [.ref a_9, .int (nI 0)])), wa a_9 cI 270 (fun _ => 0), (a_8, .inr (13, [.ref a_10, .int (nI 0)])), wa a_10 cI 270 (fun _ => 0)]) hP hD [1] [0] rfl rfl (by decide) (by decide) hk1 hFc hP1 hD1
  have hP : va_P (dC, dI) vwCl [(h, .inr (8, [.ref q_1, .null, .int (nI 0), .int (nI 0), .int (nI 0), .int (nI 0), .int (nI 0), .int (nI 0), .int (nI 0), .int (nI 0)])), (q_6, .inr (14, [.ref a_7, .ref a_8])), (a_7, .inr (13, [.ref a_9, .int (nI 0)])), wa a_9 cI 270 (fun _ => 0), (a_8, .inr (13, [.ref a_10, .int (nI 0)])), wa a_10 cI 270 (fun _ => 0)] H := hP
  have hD : va_D A [(h, .inr (8, [.ref q_1, .null, .int (nI 0), .int (nI 0), .int (nI 0), .int (nI 0), .int (nI 0), .int (nI 0), .int (nI 0), .int (nI 0)])), (q_6, .inr (14, [.ref a_7, .ref a_8])), (a_7, .inr (13, [.ref a_9, .int (nI 0)])), wa a_9 cI 270 (fun _ => 0), (a_8, .inr (13, [.ref a_10, .int (nI 0)])), wa a_10 cI 270 (fun _ => 0)] := hD
  refine W.widen (k := 10) (n := 1092) (by first | exact Nat.le_of_ble_eq_true rfl | omega | (dsimp only [headSpec]; omega) | (simp only [headSpec]; omega) | omega) (by first | exact Nat.le_of_ble_eq_true rfl | omega | (dsimp only [headSpec]; omega) | (simp only [headSpec]; omega) | omega) ?_
  have hP : va_P (dC, dI) vwCl [(h, .inr (8, [.ref q_1, .null, .int (nI 0), .int (nI 0), .int (nI 0), .int (nI 0), .int (nI 0), .int (nI 0), .int (nI 0), .int (nI 0)]))] H := hP.sub [0] rfl
  have hD : va_D A [(h, .inr (8, [.ref q_1, .null, .int (nI 0), .int (nI 0), .int (nI 0), .int (nI 0), .int (nI 0), .int (nI 0), .int (nI 0), .int (nI 0)]))] := hD.sub [0] (by decide) rfl
  refine va_putF (D := (dC, dI)) (ci := 8) (v := .ref q_6) (ty := .object "Patchferry$Runs") (C := RX1) (T := TX1) (N := 10) hx hb hts inX1_init_RX1 tyX1 tyX1_ok nmX1 hown hK hP hD hS 0 rfl rfl 1 (by decide) (hts (.fieldLink RX1 16 "Patchferry$Differ" "after" "LPatchferry$Runs;") (by decide +kernel)) (fun _ h9 => h9) rfl hin rfl (by decide +kernel) rfl rfl (Nat.le_of_ble_eq_true rfl) dX1_init_23 (fun H locs hP hD hS => ?_)
  have hP : va_P (dC, dI) vwCl [(h, .inr (8, [.ref q_1, .ref q_6, .int (nI 0), .int (nI 0), .int (nI 0), .int (nI 0), .int (nI 0), .int (nI 0), .int (nI 0), .int (nI 0)]))] H := hP
  have hD : va_D A [(h, .inr (8, [.ref q_1, .ref q_6, .int (nI 0), .int (nI 0), .int (nI 0), .int (nI 0), .int (nI 0), .int (nI 0), .int (nI 0), .int (nI 0)]))] := hD
  have hPe : va_P (dC, dI) vwCl [] _ := hP.sub [] rfl
  have hDe : va_D A [] := hD.sub [] (by decide) rfl
  refine W.widen (k := 10) (n := 1092) (by first | exact Nat.le_of_ble_eq_true rfl | omega | (dsimp only [headSpec]; omega) | (simp only [headSpec]; omega) | omega) (by first | exact Nat.le_of_ble_eq_true rfl | omega | (dsimp only [headSpec]; omega) | (simp only [headSpec]; omega) | omega) ?_
  exact W.vret hx hb hr (fun t ht hW => ⟨⟨(), rfl, trivial, by rw [ht]; exact hPe, va_K.moved hW.alike hK, hDe⟩, hS.F ht⟩) hS.2.2 dX1_init_26
set_option maxHeartbeats 4000000 in
set_option maxRecDepth 100000 in
theorem c_patchinit (l : Launch) (dC : Nat → ClassId) (dI : Nat → Nat → Nat) (cI cO : ClassId) (sz : Nat) (h : Nat) : Met l yX4_init usX4_init ({ frames := 2, cells := 8, slots := 608, locals := 37 }) (va_Pc [.ref h] (fun U => U.heap.size = sz ∧ va_P (dC, dI) vwCl [(h, .inr (11, [.null, .null, .null, .null]))] U.heap ∧ va_K (dC, dI) vwCl (ty0 cI cO) U ∧ va_D (fun _ => True) [(h, .inr (11, [.null, .null, .null, .null]))])) (va_Qv (fun _ : Unit => True) (fun _ t => va_P (dC, dI) vwCl [] t.heap ∧ va_K (dC, dI) vwCl (ty0 cI cO) t ∧ va_D (va_A [(h, .inr (11, [.null, .null, .null, .null]))] sz) []) (va_A [(h, .inr (11, [.null, .null, .null, .null]))] sz)) 8 608 (va_A [(h, .inr (11, [.null, .null, .null, .null]))] sz) := by
  refine Met.ofW (cc := cX4_init) (maxL := 1) (ret := none) (by decide) rfl ?_
  intro p e s m args below meth c s₁ B hml hv
  obtain ⟨rfl, hsz, hP, hK, hD0⟩ := hv
  have hx := B.exec
  have hb := B.bytes
  have hr := B.returns
  have hts := atoms_spec (ws := usX4_init) B.pre
  have hown : s.vm.findClass RX4 = some m.cls := findClass_of_methodNamed B.named
  have hlocks := B.notSynchronized
  have hin : meth.name = "<init>" := (name_of_methodNamed B.named B.method).1
  subst hsz
  have hD := hD0.self (sz := s.heap.size)
  generalize hAe : va_A [(h, .inr (11, [.null, .null, .null, .null]))] s.heap.size = A at hD ⊢
  have hA : ∀ q : Nat, s.heap.size ≤ q → A q := fun q h => by rw [← hAe]; exact Or.inr h
  have hS : va_S A s.heap s.heap [] := va_S.rf
  have hl := lv_entry ([.ref h]) (n := 1) (Nat.le_of_ble_eq_true rfl)
  rw [lg_entry_eq]
  generalize (lg_sl ([.ref h]) ++ List.replicate (1 - (lg_sl ([.ref h])).length) Slot.unset).toArray = ls at hl ⊢
  have hl : lv_has ls 1 [(0, .ref h)] := hl
  refine lv_aload_n hx hb dX4_init_0 rfl (lv_at hl 0 rfl) ?_
  refine W.objInit hx hb hown (hts (.methodLink RX4 3 objectInit) (by decide +kernel)) (hts (.instanceMethod objectInit) (by decide +kernel)) (hts _ (List.mem_of_getElem? (i := 3) rfl)) rfl (by rw [hml]; exact hl.1) rfl dX4_init_1 (by first | exact Nat.le_of_ble_eq_true rfl | omega | (dsimp only [headSpec]; omega) | (simp only [headSpec]; omega) | omega) (by first | exact Nat.le_of_ble_eq_true rfl | omega | (dsimp only [headSpec]; omega) | (simp only [headSpec]; omega) | omega) ?_
  refine W.eq (g2 := F0 m 4 ls []) rfl ?_
  refine lv_aload_n hx hb dX4_init_4 rfl (lv_at hl 0 rfl) ?_
  refine va_new (ci := 13) (fs := [.null, .int (nI 0)]) (C := RX6) (T := TX6) (N := 2) hx hb hts inX4_init_RX6 tyX6 tyX6_ok hown (hts (.classLink RX4 9 RX6) (by decide +kernel)) (hts (.instantiable RX6 2) (by decide +kernel)) (hts (.initialized RX6) (by decide +kernel)) hK hP hD hS hA rfl (fun j hj => by rcases (show j = 0 ∨ j = 1 by omega) with rfl | rfl <;> rfl) (by first | exact Nat.le_of_ble_eq_true rfl | omega | (dsimp only [headSpec]; omega) | (simp only [headSpec]; omega) | omega) (by first | exact Nat.le_of_ble_eq_true rfl | omega | (dsimp only [headSpec]; omega) | (simp only [headSpec]; omega) | omega) dX4_init_5 (fun q_1 H hP hD hS => ?_)
  have hP : va_P (dC, dI) vwCl [(h, .inr (11, [.null, .null, .null, .null])), (q_1, .inr (13, [.null, .int (nI 0)]))] H := hP
  have hD : va_D A [(h, .inr (11, [.null, .null, .null, .null])), (q_1, .inr (13, [.null, .int (nI 0)]))] := hD
  refine W.widen (k := 1) (n := 2) (by first | exact Nat.le_of_ble_eq_true rfl | omega | (dsimp only [headSpec]; omega) | (simp only [headSpec]; omega) | omega) (by first | exact Nat.le_of_ble_eq_true rfl | omega | (dsimp only [headSpec]; omega) | (simp only [headSpec]; omega) | omega) ?_
  refine lv_dup hx hb dX4_init_8 rfl ?_
  refine lv_sipush (v := nI 200) hx hb dX4_init_9 (by decide) ?_
  have hPc : va_P (dC, dI) vwCl [(q_1, .inr (13, [.null, .int (nI 0)]))] _ := hP.sub [1] rfl
  have hDc : va_D _ [(q_1, .inr (13, [.null, .int (nI 0)]))] := hD.sub [1] (by decide) rfl
  have hFc := va_free (wc := [(q_1, .inr (13, [.null, .int (nI 0)]))]) hD hS hA [1] rfl
  refine va_callv (va_runI (As := [.int (nI 200)]) (rest := [.ref q_1, .ref h]) ⟨hx, hb, hml, hown, hts⟩ (c_rowinit l dC dI cI cO H.size q_1 200 (by omega)) (cwI 1 hts ugX4_init_X6_init rfl rfl rfl (hts (.initialized RX6) (by decide +kernel)) (hts (.methodLink RX4 11 yX6_init) (by decide +kernel)) (hts (.instanceMethod yX6_init) (by decide +kernel)) rfl (by decide +kernel) ⟨(by first | exact Nat.le_of_ble_eq_true rfl | omega | (dsimp only [headSpec]; omega) | (simp only [headSpec]; omega) | omega), (by first | exact Nat.le_of_ble_eq_true rfl | omega | (dsimp only [headSpec]; omega) | (simp only [headSpec]; omega) | omega)⟩) ⟨fun a U g mk q => by obtain ⟨q0, q1, qP, qK, qD⟩ := q; exact ⟨q0, q1, qP, va_K.moved (u := U) (U := U.calling g mk a) (Vm.Alike.refl U.vm) qK, qD⟩, fun U hU hW => ⟨rfl, by rw [hU], by rw [hU]; exact hPc, va_K.moved hW.alike hK, hDc.weaken (fun _ _ _ _ => trivial)⟩⟩ rfl rfl hl.1 rfl (lv_room (Nat.le_of_ble_eq_true rfl)) dX4_init_12 ⟨(by first | exact Nat.le_of_ble_eq_true rfl | omega | (dsimp only [headSpec]; omega) | (simp only [headSpec]; omega) | omega), (by first | exact Nat.le_of_ble_eq_true rfl | omega | (dsimp only [headSpec]; omega) | (simp only [headSpec]; omega) | omega)⟩) hS (fun q _ h => hFc q h) hFc (fun u t H locs ht hvm hw hB hz1 hk1 hS => ?_)
  obtain ⟨a_2, hP1, hK1, hD1⟩ := hB
  rw [ht] at hP1
  obtain ⟨hP, hD⟩ := va_join (wr := [(h, .inr (11, [.null, .null, .null, .null]))]) (w1 := [(q_1, .inr (13, [.ref a_2, .int (nI 0)])), wa a_2 cI 200 (fun _ => 0)]) hP hD [1] [0] rfl rfl (by decide) (by decide) hk1 hFc hP1 hD1
  have hP : va_P (dC, dI) vwCl [(h, .inr (11, [.null, .null, .null, .null])), (q_1, .inr (13, [.ref a_2, .int (nI 0)])), wa a_2 cI 200 (fun _ => 0)] H := hP
  have hD : va_D A [(h, .inr (11, [.null, .null, .null, .null])), (q_1, .inr (13, [.ref a_2, .int (nI 0)])), wa a_2 cI 200 (fun _ => 0)] := hD
  refine W.widen (k := 2) (n := 202) (by first | exact Nat.le_of_ble_eq_true rfl | omega | (dsimp only [headSpec]; omega) | (simp only [headSpec]; omega) | omega) (by first | exact Nat.le_of_ble_eq_true rfl | omega | (dsimp only [headSpec]; omega) | (simp only [headSpec]; omega) | omega) ?_
  have hP : va_P (dC, dI) vwCl [(h, .inr (11, [.null, .null, .null, .null]))] H := hP.sub [0] rfl
  have hD : va_D A [(h, .inr (11, [.null, .null, .null, .null]))] := hD.sub [0] (by decide) rfl
  refine va_putF (D := (dC, dI)) (ci := 11) (v := .ref q_1) (ty := .object "Patchferry$Row") (C := RX4) (T := TX4) (N := 4) hx hb hts inX4_init_RX4 tyX4 tyX4_ok nmX4 hown hK hP hD hS 0 rfl rfl 0 (by decide) (hts (.fieldLink RX4 14 "Patchferry$Patch" "froms" "LPatchferry$Row;") (by decide +kernel)) (fun _ h9 => h9) rfl hin rfl (by decide +kernel) rfl rfl (Nat.le_of_ble_eq_true rfl) dX4_init_15 (fun H locs hP hD hS => ?_)
  have hP : va_P (dC, dI) vwCl [(h, .inr (11, [.ref q_1, .null, .null, .null]))] H := hP
  have hD : va_D A [(h, .inr (11, [.ref q_1, .null, .null, .null]))] := hD
  refine lv_aload_n hx hb dX4_init_18 rfl (lv_at hl 0 rfl) ?_
  refine va_new (ci := 13) (fs := [.null, .int (nI 0)]) (C := RX6) (T := TX6) (N := 2) hx hb hts inX4_init_RX6 tyX6 tyX6_ok hown (hts (.classLink RX4 9 RX6) (by decide +kernel)) (hts (.instantiable RX6 2) (by decide +kernel)) (hts (.initialized RX6) (by decide +kernel)) hK hP hD hS hA rfl (fun j hj => by rcases (show j = 0 ∨ j = 1 by omega) with rfl | rfl <;> rfl) (by first | exact Nat.le_of_ble_eq_true rfl | omega | (dsimp only [headSpec]; omega) | (simp only [headSpec]; omega) | omega) (by first | exact Nat.le_of_ble_eq_true rfl | omega | (dsimp only [headSpec]; omega) | (simp only [headSpec]; omega) | omega) dX4_init_19 (fun q_3 H hP hD hS => ?_)
  have hP : va_P (dC, dI) vwCl [(h, .inr (11, [.ref q_1, .null, .null, .null])), (q_3, .inr (13, [.null, .int (nI 0)]))] H := hP
  have hD : va_D A [(h, .inr (11, [.ref q_1, .null, .null, .null])), (q_3, .inr (13, [.null, .int (nI 0)]))] := hD
  refine W.widen (k := 3) (n := 204) (by first | exact Nat.le_of_ble_eq_true rfl | omega | (dsimp only [headSpec]; omega) | (simp only [headSpec]; omega) | omega) (by first | exact Nat.le_of_ble_eq_true rfl | omega | (dsimp only [headSpec]; omega) | (simp only [headSpec]; omega) | omega) ?_
  refine lv_dup hx hb dX4_init_22 rfl ?_
  refine lv_sipush (v := nI 200) hx hb dX4_init_23 (by decide) ?_
  have hPc : va_P (dC, dI) vwCl [(q_3, .inr (13, [.null, .int (nI 0)]))] _ := hP.sub [1] rfl
  have hDc : va_D _ [(q_3, .inr (13, [.null, .int (nI 0)]))] := hD.sub [1] (by decide) rfl
  have hFc := va_free (wc := [(q_3, .inr (13, [.null, .int (nI 0)]))]) hD hS hA [1] rfl
  refine va_callv (va_runI (As := [.int (nI 200)]) (rest := [.ref q_3, .ref h]) ⟨hx, hb, hml, hown, hts⟩ (c_rowinit l dC dI cI cO H.size q_3 200 (by omega)) (cwI 1 hts ugX4_init_X6_init rfl rfl rfl (hts (.initialized RX6) (by decide +kernel)) (hts (.methodLink RX4 11 yX6_init) (by decide +kernel)) (hts (.instanceMethod yX6_init) (by decide +kernel)) rfl (by decide +kernel) ⟨(by first | exact Nat.le_of_ble_eq_true rfl | omega | (dsimp only [headSpec]; omega) | (simp only [headSpec]; omega) | omega), (by first | exact Nat.le_of_ble_eq_true rfl | omega | (dsimp only [headSpec]; omega) | (simp only [headSpec]; omega) | omega)⟩) ⟨fun a U g mk q => by obtain ⟨q0, q1, qP, qK, qD⟩ := q; exact ⟨q0, q1, qP, va_K.moved (u := U) (U := U.calling g mk a) (Vm.Alike.refl U.vm) qK, qD⟩, fun U hU hW => ⟨rfl, by rw [hU], by rw [hU]; exact hPc, va_K.moved hW.alike hK, hDc.weaken (fun _ _ _ _ => trivial)⟩⟩ rfl rfl hl.1 rfl (lv_room (Nat.le_of_ble_eq_true rfl)) dX4_init_26 ⟨(by first | exact Nat.le_of_ble_eq_true rfl | omega | (dsimp only [headSpec]; omega) | (simp only [headSpec]; omega) | omega), (by first | exact Nat.le_of_ble_eq_true rfl | omega | (dsimp only [headSpec]; omega) | (simp only [headSpec]; omega) | omega)⟩) hS (fun q _ h => hFc q h) hFc (fun u t H locs ht hvm hw hB hz1 hk1 hS => ?_)
  obtain ⟨a_4, hP1, hK1, hD1⟩ := hB
  rw [ht] at hP1
  obtain ⟨hP, hD⟩ := va_join (wr := [(h, .inr (11, [.ref q_1, .null, .null, .null]))]) (w1 := [(q_3, .inr (13, [.ref a_4, .int (nI 0)])), wa a_4 cI 200 (fun _ => 0)]) hP hD [1] [0] rfl rfl (by decide) (by decide) hk1 hFc hP1 hD1
  have hP : va_P (dC, dI) vwCl [(h, .inr (11, [.ref q_1, .null, .null, .null])), (q_3, .inr (13, [.ref a_4, .int (nI 0)])), wa a_4 cI 200 (fun _ => 0)] H := hP
  have hD : va_D A [(h, .inr (11, [.ref q_1, .null, .null, .null])), (q_3, .inr (13, [.ref a_4, .int (nI 0)])), wa a_4 cI 200 (fun _ => 0)] := hD
  refine W.widen (k := 4) (n := 404) (by first | exact Nat.le_of_ble_eq_true rfl | omega | (dsimp only [headSpec]; omega) | (simp only [headSpec]; omega) | omega) (by first | exact Nat.le_of_ble_eq_true rfl | omega | (dsimp only [headSpec]; omega) | (simp only [headSpec]; omega) | omega) ?_
  have hP : va_P (dC, dI) vwCl [(h, .inr (11, [.ref q_1, .null, .null, .null]))] H := hP.sub [0] rfl
  have hD : va_D A [(h, .inr (11, [.ref q_1, .null, .null, .null]))] := hD.sub [0] (by decide) rfl
  refine va_putF (D := (dC, dI)) (ci := 11) (v := .ref q_3) (ty := .object "Patchferry$Row") (C := RX4) (T := TX4) (N := 4) hx hb hts inX4_init_RX4 tyX4 tyX4_ok nmX4 hown hK hP hD hS 0 rfl rfl 1 (by decide) (hts (.fieldLink RX4 20 "Patchferry$Patch" "sizes" "LPatchferry$Row;") (by decide +kernel)) (fun _ h9 => h9) rfl hin rfl (by decide +kernel) rfl rfl (Nat.le_of_ble_eq_true rfl) dX4_init_29 (fun H locs hP hD hS => ?_)
  have hP : va_P (dC, dI) vwCl [(h, .inr (11, [.ref q_1, .ref q_3, .null, .null]))] H := hP
  have hD : va_D A [(h, .inr (11, [.ref q_1, .ref q_3, .null, .null]))] := hD
  refine lv_aload_n hx hb dX4_init_32 rfl (lv_at hl 0 rfl) ?_
  refine va_new (ci := 13) (fs := [.null, .int (nI 0)]) (C := RX6) (T := TX6) (N := 2) hx hb hts inX4_init_RX6 tyX6 tyX6_ok hown (hts (.classLink RX4 9 RX6) (by decide +kernel)) (hts (.instantiable RX6 2) (by decide +kernel)) (hts (.initialized RX6) (by decide +kernel)) hK hP hD hS hA rfl (fun j hj => by rcases (show j = 0 ∨ j = 1 by omega) with rfl | rfl <;> rfl) (by first | exact Nat.le_of_ble_eq_true rfl | omega | (dsimp only [headSpec]; omega) | (simp only [headSpec]; omega) | omega) (by first | exact Nat.le_of_ble_eq_true rfl | omega | (dsimp only [headSpec]; omega) | (simp only [headSpec]; omega) | omega) dX4_init_33 (fun q_5 H hP hD hS => ?_)
  have hP : va_P (dC, dI) vwCl [(h, .inr (11, [.ref q_1, .ref q_3, .null, .null])), (q_5, .inr (13, [.null, .int (nI 0)]))] H := hP
  have hD : va_D A [(h, .inr (11, [.ref q_1, .ref q_3, .null, .null])), (q_5, .inr (13, [.null, .int (nI 0)]))] := hD
  refine W.widen (k := 5) (n := 406) (by first | exact Nat.le_of_ble_eq_true rfl | omega | (dsimp only [headSpec]; omega) | (simp only [headSpec]; omega) | omega) (by first | exact Nat.le_of_ble_eq_true rfl | omega | (dsimp only [headSpec]; omega) | (simp only [headSpec]; omega) | omega) ?_
  refine lv_dup hx hb dX4_init_36 rfl ?_
  refine lv_sipush (v := nI 200) hx hb dX4_init_37 (by decide) ?_
  have hPc : va_P (dC, dI) vwCl [(q_5, .inr (13, [.null, .int (nI 0)]))] _ := hP.sub [1] rfl
  have hDc : va_D _ [(q_5, .inr (13, [.null, .int (nI 0)]))] := hD.sub [1] (by decide) rfl
  have hFc := va_free (wc := [(q_5, .inr (13, [.null, .int (nI 0)]))]) hD hS hA [1] rfl
  refine va_callv (va_runI (As := [.int (nI 200)]) (rest := [.ref q_5, .ref h]) ⟨hx, hb, hml, hown, hts⟩ (c_rowinit l dC dI cI cO H.size q_5 200 (by omega)) (cwI 1 hts ugX4_init_X6_init rfl rfl rfl (hts (.initialized RX6) (by decide +kernel)) (hts (.methodLink RX4 11 yX6_init) (by decide +kernel)) (hts (.instanceMethod yX6_init) (by decide +kernel)) rfl (by decide +kernel) ⟨(by first | exact Nat.le_of_ble_eq_true rfl | omega | (dsimp only [headSpec]; omega) | (simp only [headSpec]; omega) | omega), (by first | exact Nat.le_of_ble_eq_true rfl | omega | (dsimp only [headSpec]; omega) | (simp only [headSpec]; omega) | omega)⟩) ⟨fun a U g mk q => by obtain ⟨q0, q1, qP, qK, qD⟩ := q; exact ⟨q0, q1, qP, va_K.moved (u := U) (U := U.calling g mk a) (Vm.Alike.refl U.vm) qK, qD⟩, fun U hU hW => ⟨rfl, by rw [hU], by rw [hU]; exact hPc, va_K.moved hW.alike hK, hDc.weaken (fun _ _ _ _ => trivial)⟩⟩ rfl rfl hl.1 rfl (lv_room (Nat.le_of_ble_eq_true rfl)) dX4_init_40 ⟨(by first | exact Nat.le_of_ble_eq_true rfl | omega | (dsimp only [headSpec]; omega) | (simp only [headSpec]; omega) | omega), (by first | exact Nat.le_of_ble_eq_true rfl | omega | (dsimp only [headSpec]; omega) | (simp only [headSpec]; omega) | omega)⟩) hS (fun q _ h => hFc q h) hFc (fun u t H locs ht hvm hw hB hz1 hk1 hS => ?_)
  obtain ⟨a_6, hP1, hK1, hD1⟩ := hB
  rw [ht] at hP1
  obtain ⟨hP, hD⟩ := va_join (wr := [(h, .inr (11, [.ref q_1, .ref q_3, .null, .null]))]) (w1 := [(q_5, .inr (13, [.ref a_6, .int (nI 0)])), wa a_6 cI 200 (fun _ => 0)]) hP hD [1] [0] rfl rfl (by decide) (by decide) hk1 hFc hP1 hD1
  have hP : va_P (dC, dI) vwCl [(h, .inr (11, [.ref q_1, .ref q_3, .null, .null])), (q_5, .inr (13, [.ref a_6, .int (nI 0)])), wa a_6 cI 200 (fun _ => 0)] H := hP
  have hD : va_D A [(h, .inr (11, [.ref q_1, .ref q_3, .null, .null])), (q_5, .inr (13, [.ref a_6, .int (nI 0)])), wa a_6 cI 200 (fun _ => 0)] := hD
  refine W.widen (k := 6) (n := 606) (by first | exact Nat.le_of_ble_eq_true rfl | omega | (dsimp only [headSpec]; omega) | (simp only [headSpec]; omega) | omega) (by first | exact Nat.le_of_ble_eq_true rfl | omega | (dsimp only [headSpec]; omega) | (simp only [headSpec]; omega) | omega) ?_
  have hP : va_P (dC, dI) vwCl [(h, .inr (11, [.ref q_1, .ref q_3, .null, .null]))] H := hP.sub [0] rfl
  have hD : va_D A [(h, .inr (11, [.ref q_1, .ref q_3, .null, .null]))] := hD.sub [0] (by decide) rfl
  refine va_putF (D := (dC, dI)) (ci := 11) (v := .ref q_5) (ty := .object "Patchferry$Row") (C := RX4) (T := TX4) (N := 4) hx hb hts inX4_init_RX4 tyX4 tyX4_ok nmX4 hown hK hP hD hS 0 rfl rfl 2 (by decide) (hts (.fieldLink RX4 23 "Patchferry$Patch" "adds" "LPatchferry$Row;") (by decide +kernel)) (fun _ h9 => h9) rfl hin rfl (by decide +kernel) rfl rfl (Nat.le_of_ble_eq_true rfl) dX4_init_43 (fun H locs hP hD hS => ?_)
  have hP : va_P (dC, dI) vwCl [(h, .inr (11, [.ref q_1, .ref q_3, .ref q_5, .null]))] H := hP
  have hD : va_D A [(h, .inr (11, [.ref q_1, .ref q_3, .ref q_5, .null]))] := hD
  refine lv_aload_n hx hb dX4_init_46 rfl (lv_at hl 0 rfl) ?_
  refine va_new (ci := 13) (fs := [.null, .int (nI 0)]) (C := RX6) (T := TX6) (N := 2) hx hb hts inX4_init_RX6 tyX6 tyX6_ok hown (hts (.classLink RX4 9 RX6) (by decide +kernel)) (hts (.instantiable RX6 2) (by decide +kernel)) (hts (.initialized RX6) (by decide +kernel)) hK hP hD hS hA rfl (fun j hj => by rcases (show j = 0 ∨ j = 1 by omega) with rfl | rfl <;> rfl) (by first | exact Nat.le_of_ble_eq_true rfl | omega | (dsimp only [headSpec]; omega) | (simp only [headSpec]; omega) | omega) (by first | exact Nat.le_of_ble_eq_true rfl | omega | (dsimp only [headSpec]; omega) | (simp only [headSpec]; omega) | omega) dX4_init_47 (fun q_7 H hP hD hS => ?_)
  have hP : va_P (dC, dI) vwCl [(h, .inr (11, [.ref q_1, .ref q_3, .ref q_5, .null])), (q_7, .inr (13, [.null, .int (nI 0)]))] H := hP
  have hD : va_D A [(h, .inr (11, [.ref q_1, .ref q_3, .ref q_5, .null])), (q_7, .inr (13, [.null, .int (nI 0)]))] := hD
  refine W.widen (k := 7) (n := 608) (by first | exact Nat.le_of_ble_eq_true rfl | omega | (dsimp only [headSpec]; omega) | (simp only [headSpec]; omega) | omega) (by first | exact Nat.le_of_ble_eq_true rfl | omega | (dsimp only [headSpec]; omega) | (simp only [headSpec]; omega) | omega) ?_
  refine lv_dup hx hb dX4_init_50 rfl ?_
  refine lv_iconst (v := nI 0) hx hb dX4_init_51 (by decide) ?_
  have hPc : va_P (dC, dI) vwCl [(q_7, .inr (13, [.null, .int (nI 0)]))] _ := hP.sub [1] rfl
  have hDc : va_D _ [(q_7, .inr (13, [.null, .int (nI 0)]))] := hD.sub [1] (by decide) rfl
  have hFc := va_free (wc := [(q_7, .inr (13, [.null, .int (nI 0)]))]) hD hS hA [1] rfl
  refine va_callv (va_runI (As := [.int (nI 0)]) (rest := [.ref q_7, .ref h]) ⟨hx, hb, hml, hown, hts⟩ (c_rowinit l dC dI cI cO H.size q_7 0 (by omega)) (cwI 1 hts ugX4_init_X6_init rfl rfl rfl (hts (.initialized RX6) (by decide +kernel)) (hts (.methodLink RX4 11 yX6_init) (by decide +kernel)) (hts (.instanceMethod yX6_init) (by decide +kernel)) rfl (by decide +kernel) ⟨(by first | exact Nat.le_of_ble_eq_true rfl | omega | (dsimp only [headSpec]; omega) | (simp only [headSpec]; omega) | omega), (by first | exact Nat.le_of_ble_eq_true rfl | omega | (dsimp only [headSpec]; omega) | (simp only [headSpec]; omega) | omega)⟩) ⟨fun a U g mk q => by obtain ⟨q0, q1, qP, qK, qD⟩ := q; exact ⟨q0, q1, qP, va_K.moved (u := U) (U := U.calling g mk a) (Vm.Alike.refl U.vm) qK, qD⟩, fun U hU hW => ⟨rfl, by rw [hU], by rw [hU]; exact hPc, va_K.moved hW.alike hK, hDc.weaken (fun _ _ _ _ => trivial)⟩⟩ rfl rfl hl.1 rfl (lv_room (Nat.le_of_ble_eq_true rfl)) dX4_init_52 ⟨(by first | exact Nat.le_of_ble_eq_true rfl | omega | (dsimp only [headSpec]; omega) | (simp only [headSpec]; omega) | omega), (by first | exact Nat.le_of_ble_eq_true rfl | omega | (dsimp only [headSpec]; omega) | (simp only [headSpec]; omega) | omega)⟩) hS (fun q _ h => hFc q h) hFc (fun u t H locs ht hvm hw hB hz1 hk1 hS => ?_)
  obtain ⟨a_8, hP1, hK1, hD1⟩ := hB
  rw [ht] at hP1
  obtain ⟨hP, hD⟩ := va_join (wr := [(h, .inr (11, [.ref q_1, .ref q_3, .ref q_5, .null]))]) (w1 := [(q_7, .inr (13, [.ref a_8, .int (nI 0)])), wa a_8 cI 0 (fun _ => 0)]) hP hD [1] [0] rfl rfl (by decide) (by decide) hk1 hFc hP1 hD1
  have hP : va_P (dC, dI) vwCl [(h, .inr (11, [.ref q_1, .ref q_3, .ref q_5, .null])), (q_7, .inr (13, [.ref a_8, .int (nI 0)])), wa a_8 cI 0 (fun _ => 0)] H := hP
  have hD : va_D A [(h, .inr (11, [.ref q_1, .ref q_3, .ref q_5, .null])), (q_7, .inr (13, [.ref a_8, .int (nI 0)])), wa a_8 cI 0 (fun _ => 0)] := hD
  refine W.widen (k := 8) (n := 608) (by first | exact Nat.le_of_ble_eq_true rfl | omega | (dsimp only [headSpec]; omega) | (simp only [headSpec]; omega) | omega) (by first | exact Nat.le_of_ble_eq_true rfl | omega | (dsimp only [headSpec]; omega) | (simp only [headSpec]; omega) | omega) ?_
  have hP : va_P (dC, dI) vwCl [(h, .inr (11, [.ref q_1, .ref q_3, .ref q_5, .null]))] H := hP.sub [0] rfl
  have hD : va_D A [(h, .inr (11, [.ref q_1, .ref q_3, .ref q_5, .null]))] := hD.sub [0] (by decide) rfl
  refine va_put (D := (dC, dI)) (ci := 11) (v := .ref q_7) (ty := .object "Patchferry$Row") (C := RX4) (T := TX4) (N := 4) hx hb hts inX4_init_RX4 tyX4 tyX4_ok nmX4 hown hK hP hD hS 0 rfl rfl 3 (by decide) (hts (.fieldLink RX4 26 "Patchferry$Patch" "base" "LPatchferry$Row;") (by decide +kernel)) (fun _ h9 => h9) rfl (by decide +kernel) rfl rfl (Nat.le_of_ble_eq_true rfl) dX4_init_55 (fun H locs hP hD hS => ?_)
  have hP : va_P (dC, dI) vwCl [(h, .inr (11, [.ref q_1, .ref q_3, .ref q_5, .ref q_7]))] H := hP
  have hD : va_D A [(h, .inr (11, [.ref q_1, .ref q_3, .ref q_5, .ref q_7]))] := hD
  have hPe : va_P (dC, dI) vwCl [] _ := hP.sub [] rfl
  have hDe : va_D A [] := hD.sub [] (by decide) rfl
  refine W.widen (k := 8) (n := 608) (by first | exact Nat.le_of_ble_eq_true rfl | omega | (dsimp only [headSpec]; omega) | (simp only [headSpec]; omega) | omega) (by first | exact Nat.le_of_ble_eq_true rfl | omega | (dsimp only [headSpec]; omega) | (simp only [headSpec]; omega) | omega) ?_
  exact W.vret hx hb hr (fun t ht hW => ⟨⟨(), rfl, trivial, by rw [ht]; exact hPe, va_K.moved hW.alike hK, hDe⟩, hS.F ht⟩) hS.2.2 dX4_init_58
set_option maxHeartbeats 4000000 in
set_option maxRecDepth 100000 in
theorem c_editsinit (l : Launch) (dC : Nat → ClassId) (dI : Nat → Nat → Nat) (cI cO : ClassId) (sz : Nat) (h : Nat) : Met l yX3_init usX3_init ({ frames := 2, cells := 8, slots := 1414, locals := 37 }) (va_Pc [.ref h] (fun U => U.heap.size = sz ∧ va_P (dC, dI) vwCl [(h, .inr (10, [.null, .null, .null, .null]))] U.heap ∧ va_K (dC, dI) vwCl (ty0 cI cO) U ∧ va_D (fun _ => True) [(h, .inr (10, [.null, .null, .null, .null]))])) (va_Qv (fun _ : Unit => True) (fun _ t => va_P (dC, dI) vwCl [] t.heap ∧ va_K (dC, dI) vwCl (ty0 cI cO) t ∧ va_D (va_A [(h, .inr (10, [.null, .null, .null, .null]))] sz) []) (va_A [(h, .inr (10, [.null, .null, .null, .null]))] sz)) 8 1414 (va_A [(h, .inr (10, [.null, .null, .null, .null]))] sz) := by
  refine Met.ofW (cc := cX3_init) (maxL := 1) (ret := none) (by decide) rfl ?_
  intro p e s m args below meth c s₁ B hml hv
  obtain ⟨rfl, hsz, hP, hK, hD0⟩ := hv
  have hx := B.exec
  have hb := B.bytes
  have hr := B.returns
  have hts := atoms_spec (ws := usX3_init) B.pre
  have hown : s.vm.findClass RX3 = some m.cls := findClass_of_methodNamed B.named
  have hlocks := B.notSynchronized
  have hin : meth.name = "<init>" := (name_of_methodNamed B.named B.method).1
  subst hsz
  have hD := hD0.self (sz := s.heap.size)
  generalize hAe : va_A [(h, .inr (10, [.null, .null, .null, .null]))] s.heap.size = A at hD ⊢
  have hA : ∀ q : Nat, s.heap.size ≤ q → A q := fun q h => by rw [← hAe]; exact Or.inr h
  have hS : va_S A s.heap s.heap [] := va_S.rf
  have hl := lv_entry ([.ref h]) (n := 1) (Nat.le_of_ble_eq_true rfl)
  rw [lg_entry_eq]
  generalize (lg_sl ([.ref h]) ++ List.replicate (1 - (lg_sl ([.ref h])).length) Slot.unset).toArray = ls at hl ⊢
  have hl : lv_has ls 1 [(0, .ref h)] := hl
  refine lv_aload_n hx hb dX3_init_0 rfl (lv_at hl 0 rfl) ?_
  refine W.objInit hx hb hown (hts (.methodLink RX3 3 objectInit) (by decide +kernel)) (hts (.instanceMethod objectInit) (by decide +kernel)) (hts _ (List.mem_of_getElem? (i := 3) rfl)) rfl (by rw [hml]; exact hl.1) rfl dX3_init_1 (by first | exact Nat.le_of_ble_eq_true rfl | omega | (dsimp only [headSpec]; omega) | (simp only [headSpec]; omega) | omega) (by first | exact Nat.le_of_ble_eq_true rfl | omega | (dsimp only [headSpec]; omega) | (simp only [headSpec]; omega) | omega) ?_
  refine W.eq (g2 := F0 m 4 ls []) rfl ?_
  refine lv_aload_n hx hb dX3_init_4 rfl (lv_at hl 0 rfl) ?_
  refine va_new (ci := 13) (fs := [.null, .int (nI 0)]) (C := RX6) (T := TX6) (N := 2) hx hb hts inX3_init_RX6 tyX6 tyX6_ok hown (hts (.classLink RX3 9 RX6) (by decide +kernel)) (hts (.instantiable RX6 2) (by decide +kernel)) (hts (.initialized RX6) (by decide +kernel)) hK hP hD hS hA rfl (fun j hj => by rcases (show j = 0 ∨ j = 1 by omega) with rfl | rfl <;> rfl) (by first | exact Nat.le_of_ble_eq_true rfl | omega | (dsimp only [headSpec]; omega) | (simp only [headSpec]; omega) | omega) (by first | exact Nat.le_of_ble_eq_true rfl | omega | (dsimp only [headSpec]; omega) | (simp only [headSpec]; omega) | omega) dX3_init_5 (fun q_1 H hP hD hS => ?_)
  have hP : va_P (dC, dI) vwCl [(h, .inr (10, [.null, .null, .null, .null])), (q_1, .inr (13, [.null, .int (nI 0)]))] H := hP
  have hD : va_D A [(h, .inr (10, [.null, .null, .null, .null])), (q_1, .inr (13, [.null, .int (nI 0)]))] := hD
  refine W.widen (k := 1) (n := 2) (by first | exact Nat.le_of_ble_eq_true rfl | omega | (dsimp only [headSpec]; omega) | (simp only [headSpec]; omega) | omega) (by first | exact Nat.le_of_ble_eq_true rfl | omega | (dsimp only [headSpec]; omega) | (simp only [headSpec]; omega) | omega) ?_
  refine lv_dup hx hb dX3_init_8 rfl ?_
  refine lv_sipush (v := nI 402) hx hb dX3_init_9 (by decide) ?_
  have hPc : va_P (dC, dI) vwCl [(q_1, .inr (13, [.null, .int (nI 0)]))] _ := hP.sub [1] rfl
  have hDc : va_D _ [(q_1, .inr (13, [.null, .int (nI 0)]))] := hD.sub [1] (by decide) rfl
  have hFc := va_free (wc := [(q_1, .inr (13, [.null, .int (nI 0)]))]) hD hS hA [1] rfl
  refine va_callv (va_runI (As := [.int (nI 402)]) (rest := [.ref q_1, .ref h]) ⟨hx, hb, hml, hown, hts⟩ (c_rowinit l dC dI cI cO H.size q_1 402 (by omega)) (cwI 1 hts ugX3_init_X6_init rfl rfl rfl (hts (.initialized RX6) (by decide +kernel)) (hts (.methodLink RX3 13 yX6_init) (by decide +kernel)) (hts (.instanceMethod yX6_init) (by decide +kernel)) rfl (by decide +kernel) ⟨(by first | exact Nat.le_of_ble_eq_true rfl | omega | (dsimp only [headSpec]; omega) | (simp only [headSpec]; omega) | omega), (by first | exact Nat.le_of_ble_eq_true rfl | omega | (dsimp only [headSpec]; omega) | (simp only [headSpec]; omega) | omega)⟩) ⟨fun a U g mk q => by obtain ⟨q0, q1, qP, qK, qD⟩ := q; exact ⟨q0, q1, qP, va_K.moved (u := U) (U := U.calling g mk a) (Vm.Alike.refl U.vm) qK, qD⟩, fun U hU hW => ⟨rfl, by rw [hU], by rw [hU]; exact hPc, va_K.moved hW.alike hK, hDc.weaken (fun _ _ _ _ => trivial)⟩⟩ rfl rfl hl.1 rfl (lv_room (Nat.le_of_ble_eq_true rfl)) dX3_init_12 ⟨(by first | exact Nat.le_of_ble_eq_true rfl | omega | (dsimp only [headSpec]; omega) | (simp only [headSpec]; omega) | omega), (by first | exact Nat.le_of_ble_eq_true rfl | omega | (dsimp only [headSpec]; omega) | (simp only [headSpec]; omega) | omega)⟩) hS (fun q _ h => hFc q h) hFc (fun u t H locs ht hvm hw hB hz1 hk1 hS => ?_)
  obtain ⟨a_2, hP1, hK1, hD1⟩ := hB
  rw [ht] at hP1
  obtain ⟨hP, hD⟩ := va_join (wr := [(h, .inr (10, [.null, .null, .null, .null]))]) (w1 := [(q_1, .inr (13, [.ref a_2, .int (nI 0)])), wa a_2 cI 402 (fun _ => 0)]) hP hD [1] [0] rfl rfl (by decide) (by decide) hk1 hFc hP1 hD1
  have hP : va_P (dC, dI) vwCl [(h, .inr (10, [.null, .null, .null, .null])), (q_1, .inr (13, [.ref a_2, .int (nI 0)])), wa a_2 cI 402 (fun _ => 0)] H := hP
  have hD : va_D A [(h, .inr (10, [.null, .null, .null, .null])), (q_1, .inr (13, [.ref a_2, .int (nI 0)])), wa a_2 cI 402 (fun _ => 0)] := hD
  refine W.widen (k := 2) (n := 404) (by first | exact Nat.le_of_ble_eq_true rfl | omega | (dsimp only [headSpec]; omega) | (simp only [headSpec]; omega) | omega) (by first | exact Nat.le_of_ble_eq_true rfl | omega | (dsimp only [headSpec]; omega) | (simp only [headSpec]; omega) | omega) ?_
  have hP : va_P (dC, dI) vwCl [(h, .inr (10, [.null, .null, .null, .null]))] H := hP.sub [0] rfl
  have hD : va_D A [(h, .inr (10, [.null, .null, .null, .null]))] := hD.sub [0] (by decide) rfl
  refine va_putF (D := (dC, dI)) (ci := 10) (v := .ref q_1) (ty := .object "Patchferry$Row") (C := RX3) (T := TX3) (N := 4) hx hb hts inX3_init_RX3 tyX3 tyX3_ok nmX3 hown hK hP hD hS 0 rfl rfl 0 (by decide) (hts (.fieldLink RX3 16 "Patchferry$Edits" "froms" "LPatchferry$Row;") (by decide +kernel)) (fun _ h9 => h9) rfl hin rfl (by decide +kernel) rfl rfl (Nat.le_of_ble_eq_true rfl) dX3_init_15 (fun H locs hP hD hS => ?_)
  have hP : va_P (dC, dI) vwCl [(h, .inr (10, [.ref q_1, .null, .null, .null]))] H := hP
  have hD : va_D A [(h, .inr (10, [.ref q_1, .null, .null, .null]))] := hD
  refine lv_aload_n hx hb dX3_init_18 rfl (lv_at hl 0 rfl) ?_
  refine va_new (ci := 13) (fs := [.null, .int (nI 0)]) (C := RX6) (T := TX6) (N := 2) hx hb hts inX3_init_RX6 tyX6 tyX6_ok hown (hts (.classLink RX3 9 RX6) (by decide +kernel)) (hts (.instantiable RX6 2) (by decide +kernel)) (hts (.initialized RX6) (by decide +kernel)) hK hP hD hS hA rfl (fun j hj => by rcases (show j = 0 ∨ j = 1 by omega) with rfl | rfl <;> rfl) (by first | exact Nat.le_of_ble_eq_true rfl | omega | (dsimp only [headSpec]; omega) | (simp only [headSpec]; omega) | omega) (by first | exact Nat.le_of_ble_eq_true rfl | omega | (dsimp only [headSpec]; omega) | (simp only [headSpec]; omega) | omega) dX3_init_19 (fun q_3 H hP hD hS => ?_)
  have hP : va_P (dC, dI) vwCl [(h, .inr (10, [.ref q_1, .null, .null, .null])), (q_3, .inr (13, [.null, .int (nI 0)]))] H := hP
  have hD : va_D A [(h, .inr (10, [.ref q_1, .null, .null, .null])), (q_3, .inr (13, [.null, .int (nI 0)]))] := hD
  refine W.widen (k := 3) (n := 406) (by first | exact Nat.le_of_ble_eq_true rfl | omega | (dsimp only [headSpec]; omega) | (simp only [headSpec]; omega) | omega) (by first | exact Nat.le_of_ble_eq_true rfl | omega | (dsimp only [headSpec]; omega) | (simp only [headSpec]; omega) | omega) ?_
  refine lv_dup hx hb dX3_init_22 rfl ?_
  refine lv_sipush (v := nI 402) hx hb dX3_init_23 (by decide) ?_
  have hPc : va_P (dC, dI) vwCl [(q_3, .inr (13, [.null, .int (nI 0)]))] _ := hP.sub [1] rfl
  have hDc : va_D _ [(q_3, .inr (13, [.null, .int (nI 0)]))] := hD.sub [1] (by decide) rfl
  have hFc := va_free (wc := [(q_3, .inr (13, [.null, .int (nI 0)]))]) hD hS hA [1] rfl
  refine va_callv (va_runI (As := [.int (nI 402)]) (rest := [.ref q_3, .ref h]) ⟨hx, hb, hml, hown, hts⟩ (c_rowinit l dC dI cI cO H.size q_3 402 (by omega)) (cwI 1 hts ugX3_init_X6_init rfl rfl rfl (hts (.initialized RX6) (by decide +kernel)) (hts (.methodLink RX3 13 yX6_init) (by decide +kernel)) (hts (.instanceMethod yX6_init) (by decide +kernel)) rfl (by decide +kernel) ⟨(by first | exact Nat.le_of_ble_eq_true rfl | omega | (dsimp only [headSpec]; omega) | (simp only [headSpec]; omega) | omega), (by first | exact Nat.le_of_ble_eq_true rfl | omega | (dsimp only [headSpec]; omega) | (simp only [headSpec]; omega) | omega)⟩) ⟨fun a U g mk q => by obtain ⟨q0, q1, qP, qK, qD⟩ := q; exact ⟨q0, q1, qP, va_K.moved (u := U) (U := U.calling g mk a) (Vm.Alike.refl U.vm) qK, qD⟩, fun U hU hW => ⟨rfl, by rw [hU], by rw [hU]; exact hPc, va_K.moved hW.alike hK, hDc.weaken (fun _ _ _ _ => trivial)⟩⟩ rfl rfl hl.1 rfl (lv_room (Nat.le_of_ble_eq_true rfl)) dX3_init_26 ⟨(by first | exact Nat.le_of_ble_eq_true rfl | omega | (dsimp only [headSpec]; omega) | (simp only [headSpec]; omega) | omega), (by first | exact Nat.le_of_ble_eq_true rfl | omega | (dsimp only [headSpec]; omega) | (simp only [headSpec]; omega) | omega)⟩) hS (fun q _ h => hFc q h) hFc (fun u t H locs ht hvm hw hB hz1 hk1 hS => ?_)
  obtain ⟨a_4, hP1, hK1, hD1⟩ := hB
  rw [ht] at hP1
  obtain ⟨hP, hD⟩ := va_join (wr := [(h, .inr (10, [.ref q_1, .null, .null, .null]))]) (w1 := [(q_3, .inr (13, [.ref a_4, .int (nI 0)])), wa a_4 cI 402 (fun _ => 0)]) hP hD [1] [0] rfl rfl (by decide) (by decide) hk1 hFc hP1 hD1
  have hP : va_P (dC, dI) vwCl [(h, .inr (10, [.ref q_1, .null, .null, .null])), (q_3, .inr (13, [.ref a_4, .int (nI 0)])), wa a_4 cI 402 (fun _ => 0)] H := hP
  have hD : va_D A [(h, .inr (10, [.ref q_1, .null, .null, .null])), (q_3, .inr (13, [.ref a_4, .int (nI 0)])), wa a_4 cI 402 (fun _ => 0)] := hD
  refine W.widen (k := 4) (n := 808) (by first | exact Nat.le_of_ble_eq_true rfl | omega | (dsimp only [headSpec]; omega) | (simp only [headSpec]; omega) | omega) (by first | exact Nat.le_of_ble_eq_true rfl | omega | (dsimp only [headSpec]; omega) | (simp only [headSpec]; omega) | omega) ?_
  have hP : va_P (dC, dI) vwCl [(h, .inr (10, [.ref q_1, .null, .null, .null]))] H := hP.sub [0] rfl
  have hD : va_D A [(h, .inr (10, [.ref q_1, .null, .null, .null]))] := hD.sub [0] (by decide) rfl
  refine va_putF (D := (dC, dI)) (ci := 10) (v := .ref q_3) (ty := .object "Patchferry$Row") (C := RX3) (T := TX3) (N := 4) hx hb hts inX3_init_RX3 tyX3 tyX3_ok nmX3 hown hK hP hD hS 0 rfl rfl 1 (by decide) (hts (.fieldLink RX3 20 "Patchferry$Edits" "tos" "LPatchferry$Row;") (by decide +kernel)) (fun _ h9 => h9) rfl hin rfl (by decide +kernel) rfl rfl (Nat.le_of_ble_eq_true rfl) dX3_init_29 (fun H locs hP hD hS => ?_)
  have hP : va_P (dC, dI) vwCl [(h, .inr (10, [.ref q_1, .ref q_3, .null, .null]))] H := hP
  have hD : va_D A [(h, .inr (10, [.ref q_1, .ref q_3, .null, .null]))] := hD
  refine lv_aload_n hx hb dX3_init_32 rfl (lv_at hl 0 rfl) ?_
  refine va_new (ci := 13) (fs := [.null, .int (nI 0)]) (C := RX6) (T := TX6) (N := 2) hx hb hts inX3_init_RX6 tyX6 tyX6_ok hown (hts (.classLink RX3 9 RX6) (by decide +kernel)) (hts (.instantiable RX6 2) (by decide +kernel)) (hts (.initialized RX6) (by decide +kernel)) hK hP hD hS hA rfl (fun j hj => by rcases (show j = 0 ∨ j = 1 by omega) with rfl | rfl <;> rfl) (by first | exact Nat.le_of_ble_eq_true rfl | omega | (dsimp only [headSpec]; omega) | (simp only [headSpec]; omega) | omega) (by first | exact Nat.le_of_ble_eq_true rfl | omega | (dsimp only [headSpec]; omega) | (simp only [headSpec]; omega) | omega) dX3_init_33 (fun q_5 H hP hD hS => ?_)
  have hP : va_P (dC, dI) vwCl [(h, .inr (10, [.ref q_1, .ref q_3, .null, .null])), (q_5, .inr (13, [.null, .int (nI 0)]))] H := hP
  have hD : va_D A [(h, .inr (10, [.ref q_1, .ref q_3, .null, .null])), (q_5, .inr (13, [.null, .int (nI 0)]))] := hD
  refine W.widen (k := 5) (n := 810) (by first | exact Nat.le_of_ble_eq_true rfl | omega | (dsimp only [headSpec]; omega) | (simp only [headSpec]; omega) | omega) (by first | exact Nat.le_of_ble_eq_true rfl | omega | (dsimp only [headSpec]; omega) | (simp only [headSpec]; omega) | omega) ?_
  refine lv_dup hx hb dX3_init_36 rfl ?_
  refine lv_sipush (v := nI 402) hx hb dX3_init_37 (by decide) ?_
  have hPc : va_P (dC, dI) vwCl [(q_5, .inr (13, [.null, .int (nI 0)]))] _ := hP.sub [1] rfl
  have hDc : va_D _ [(q_5, .inr (13, [.null, .int (nI 0)]))] := hD.sub [1] (by decide) rfl
  have hFc := va_free (wc := [(q_5, .inr (13, [.null, .int (nI 0)]))]) hD hS hA [1] rfl
  refine va_callv (va_runI (As := [.int (nI 402)]) (rest := [.ref q_5, .ref h]) ⟨hx, hb, hml, hown, hts⟩ (c_rowinit l dC dI cI cO H.size q_5 402 (by omega)) (cwI 1 hts ugX3_init_X6_init rfl rfl rfl (hts (.initialized RX6) (by decide +kernel)) (hts (.methodLink RX3 13 yX6_init) (by decide +kernel)) (hts (.instanceMethod yX6_init) (by decide +kernel)) rfl (by decide +kernel) ⟨(by first | exact Nat.le_of_ble_eq_true rfl | omega | (dsimp only [headSpec]; omega) | (simp only [headSpec]; omega) | omega), (by first | exact Nat.le_of_ble_eq_true rfl | omega | (dsimp only [headSpec]; omega) | (simp only [headSpec]; omega) | omega)⟩) ⟨fun a U g mk q => by obtain ⟨q0, q1, qP, qK, qD⟩ := q; exact ⟨q0, q1, qP, va_K.moved (u := U) (U := U.calling g mk a) (Vm.Alike.refl U.vm) qK, qD⟩, fun U hU hW => ⟨rfl, by rw [hU], by rw [hU]; exact hPc, va_K.moved hW.alike hK, hDc.weaken (fun _ _ _ _ => trivial)⟩⟩ rfl rfl hl.1 rfl (lv_room (Nat.le_of_ble_eq_true rfl)) dX3_init_40 ⟨(by first | exact Nat.le_of_ble_eq_true rfl | omega | (dsimp only [headSpec]; omega) | (simp only [headSpec]; omega) | omega), (by first | exact Nat.le_of_ble_eq_true rfl | omega | (dsimp only [headSpec]; omega) | (simp only [headSpec]; omega) | omega)⟩) hS (fun q _ h => hFc q h) hFc (fun u t H locs ht hvm hw hB hz1 hk1 hS => ?_)
  obtain ⟨a_6, hP1, hK1, hD1⟩ := hB
  rw [ht] at hP1
  obtain ⟨hP, hD⟩ := va_join (wr := [(h, .inr (10, [.ref q_1, .ref q_3, .null, .null]))]) (w1 := [(q_5, .inr (13, [.ref a_6, .int (nI 0)])), wa a_6 cI 402 (fun _ => 0)]) hP hD [1] [0] rfl rfl (by decide) (by decide) hk1 hFc hP1 hD1
  have hP : va_P (dC, dI) vwCl [(h, .inr (10, [.ref q_1, .ref q_3, .null, .null])), (q_5, .inr (13, [.ref a_6, .int (nI 0)])), wa a_6 cI 402 (fun _ => 0)] H := hP
  have hD : va_D A [(h, .inr (10, [.ref q_1, .ref q_3, .null, .null])), (q_5, .inr (13, [.ref a_6, .int (nI 0)])), wa a_6 cI 402 (fun _ => 0)] := hD
  refine W.widen (k := 6) (n := 1212) (by first | exact Nat.le_of_ble_eq_true rfl | omega | (dsimp only [headSpec]; omega) | (simp only [headSpec]; omega) | omega) (by first | exact Nat.le_of_ble_eq_true rfl | omega | (dsimp only [headSpec]; omega) | (simp only [headSpec]; omega) | omega) ?_
  have hP : va_P (dC, dI) vwCl [(h, .inr (10, [.ref q_1, .ref q_3, .null, .null]))] H := hP.sub [0] rfl
  have hD : va_D A [(h, .inr (10, [.ref q_1, .ref q_3, .null, .null]))] := hD.sub [0] (by decide) rfl
  refine va_putF (D := (dC, dI)) (ci := 10) (v := .ref q_5) (ty := .object "Patchferry$Row") (C := RX3) (T := TX3) (N := 4) hx hb hts inX3_init_RX3 tyX3 tyX3_ok nmX3 hown hK hP hD hS 0 rfl rfl 2 (by decide) (hts (.fieldLink RX3 23 "Patchferry$Edits" "begins" "LPatchferry$Row;") (by decide +kernel)) (fun _ h9 => h9) rfl hin rfl (by decide +kernel) rfl rfl (Nat.le_of_ble_eq_true rfl) dX3_init_43 (fun H locs hP hD hS => ?_)
  have hP : va_P (dC, dI) vwCl [(h, .inr (10, [.ref q_1, .ref q_3, .ref q_5, .null]))] H := hP
  have hD : va_D A [(h, .inr (10, [.ref q_1, .ref q_3, .ref q_5, .null]))] := hD
  refine lv_aload_n hx hb dX3_init_46 rfl (lv_at hl 0 rfl) ?_
  refine va_new (ci := 13) (fs := [.null, .int (nI 0)]) (C := RX6) (T := TX6) (N := 2) hx hb hts inX3_init_RX6 tyX6 tyX6_ok hown (hts (.classLink RX3 9 RX6) (by decide +kernel)) (hts (.instantiable RX6 2) (by decide +kernel)) (hts (.initialized RX6) (by decide +kernel)) hK hP hD hS hA rfl (fun j hj => by rcases (show j = 0 ∨ j = 1 by omega) with rfl | rfl <;> rfl) (by first | exact Nat.le_of_ble_eq_true rfl | omega | (dsimp only [headSpec]; omega) | (simp only [headSpec]; omega) | omega) (by first | exact Nat.le_of_ble_eq_true rfl | omega | (dsimp only [headSpec]; omega) | (simp only [headSpec]; omega) | omega) dX3_init_47 (fun q_7 H hP hD hS => ?_)
  have hP : va_P (dC, dI) vwCl [(h, .inr (10, [.ref q_1, .ref q_3, .ref q_5, .null])), (q_7, .inr (13, [.null, .int (nI 0)]))] H := hP
  have hD : va_D A [(h, .inr (10, [.ref q_1, .ref q_3, .ref q_5, .null])), (q_7, .inr (13, [.null, .int (nI 0)]))] := hD
  refine W.widen (k := 7) (n := 1214) (by first | exact Nat.le_of_ble_eq_true rfl | omega | (dsimp only [headSpec]; omega) | (simp only [headSpec]; omega) | omega) (by first | exact Nat.le_of_ble_eq_true rfl | omega | (dsimp only [headSpec]; omega) | (simp only [headSpec]; omega) | omega) ?_
  refine lv_dup hx hb dX3_init_50 rfl ?_
  refine lv_sipush (v := nI 200) hx hb dX3_init_51 (by decide) ?_
  have hPc : va_P (dC, dI) vwCl [(q_7, .inr (13, [.null, .int (nI 0)]))] _ := hP.sub [1] rfl
  have hDc : va_D _ [(q_7, .inr (13, [.null, .int (nI 0)]))] := hD.sub [1] (by decide) rfl
  have hFc := va_free (wc := [(q_7, .inr (13, [.null, .int (nI 0)]))]) hD hS hA [1] rfl
  refine va_callv (va_runI (As := [.int (nI 200)]) (rest := [.ref q_7, .ref h]) ⟨hx, hb, hml, hown, hts⟩ (c_rowinit l dC dI cI cO H.size q_7 200 (by omega)) (cwI 1 hts ugX3_init_X6_init rfl rfl rfl (hts (.initialized RX6) (by decide +kernel)) (hts (.methodLink RX3 13 yX6_init) (by decide +kernel)) (hts (.instanceMethod yX6_init) (by decide +kernel)) rfl (by decide +kernel) ⟨(by first | exact Nat.le_of_ble_eq_true rfl | omega | (dsimp only [headSpec]; omega) | (simp only [headSpec]; omega) | omega), (by first | exact Nat.le_of_ble_eq_true rfl | omega | (dsimp only [headSpec]; omega) | (simp only [headSpec]; omega) | omega)⟩) ⟨fun a U g mk q => by obtain ⟨q0, q1, qP, qK, qD⟩ := q; exact ⟨q0, q1, qP, va_K.moved (u := U) (U := U.calling g mk a) (Vm.Alike.refl U.vm) qK, qD⟩, fun U hU hW => ⟨rfl, by rw [hU], by rw [hU]; exact hPc, va_K.moved hW.alike hK, hDc.weaken (fun _ _ _ _ => trivial)⟩⟩ rfl rfl hl.1 rfl (lv_room (Nat.le_of_ble_eq_true rfl)) dX3_init_54 ⟨(by first | exact Nat.le_of_ble_eq_true rfl | omega | (dsimp only [headSpec]; omega) | (simp only [headSpec]; omega) | omega), (by first | exact Nat.le_of_ble_eq_true rfl | omega | (dsimp only [headSpec]; omega) | (simp only [headSpec]; omega) | omega)⟩) hS (fun q _ h => hFc q h) hFc (fun u t H locs ht hvm hw hB hz1 hk1 hS => ?_)
  obtain ⟨a_8, hP1, hK1, hD1⟩ := hB
  rw [ht] at hP1
  obtain ⟨hP, hD⟩ := va_join (wr := [(h, .inr (10, [.ref q_1, .ref q_3, .ref q_5, .null]))]) (w1 := [(q_7, .inr (13, [.ref a_8, .int (nI 0)])), wa a_8 cI 200 (fun _ => 0)]) hP hD [1] [0] rfl rfl (by decide) (by decide) hk1 hFc hP1 hD1
  have hP : va_P (dC, dI) vwCl [(h, .inr (10, [.ref q_1, .ref q_3, .ref q_5, .null])), (q_7, .inr (13, [.ref a_8, .int (nI 0)])), wa a_8 cI 200 (fun _ => 0)] H := hP
  have hD : va_D A [(h, .inr (10, [.ref q_1, .ref q_3, .ref q_5, .null])), (q_7, .inr (13, [.ref a_8, .int (nI 0)])), wa a_8 cI 200 (fun _ => 0)] := hD
  refine W.widen (k := 8) (n := 1414) (by first | exact Nat.le_of_ble_eq_true rfl | omega | (dsimp only [headSpec]; omega) | (simp only [headSpec]; omega) | omega) (by first | exact Nat.le_of_ble_eq_true rfl | omega | (dsimp only [headSpec]; omega) | (simp only [headSpec]; omega) | omega) ?_
  have hP : va_P (dC, dI) vwCl [(h, .inr (10, [.ref q_1, .ref q_3, .ref q_5, .null]))] H := hP.sub [0] rfl
  have hD : va_D A [(h, .inr (10, [.ref q_1, .ref q_3, .ref q_5, .null]))] := hD.sub [0] (by decide) rfl
  refine va_putF (D := (dC, dI)) (ci := 10) (v := .ref q_7) (ty := .object "Patchferry$Row") (C := RX3) (T := TX3) (N := 4) hx hb hts inX3_init_RX3 tyX3 tyX3_ok nmX3 hown hK hP hD hS 0 rfl rfl 3 (by decide) (hts (.fieldLink RX3 26 "Patchferry$Edits" "values" "LPatchferry$Row;") (by decide +kernel)) (fun _ h9 => h9) rfl hin rfl (by decide +kernel) rfl rfl (Nat.le_of_ble_eq_true rfl) dX3_init_57 (fun H locs hP hD hS => ?_)
  have hP : va_P (dC, dI) vwCl [(h, .inr (10, [.ref q_1, .ref q_3, .ref q_5, .ref q_7]))] H := hP
  have hD : va_D A [(h, .inr (10, [.ref q_1, .ref q_3, .ref q_5, .ref q_7]))] := hD
  have hPe : va_P (dC, dI) vwCl [] _ := hP.sub [] rfl
  have hDe : va_D A [] := hD.sub [] (by decide) rfl
  refine W.widen (k := 8) (n := 1414) (by first | exact Nat.le_of_ble_eq_true rfl | omega | (dsimp only [headSpec]; omega) | (simp only [headSpec]; omega) | omega) (by first | exact Nat.le_of_ble_eq_true rfl | omega | (dsimp only [headSpec]; omega) | (simp only [headSpec]; omega) | omega) ?_
  exact W.vret hx hb hr (fun t ht hW => ⟨⟨(), rfl, trivial, by rw [ht]; exact hPe, va_K.moved hW.alike hK, hDe⟩, hS.F ht⟩) hS.2.2 dX3_init_60
set_option maxHeartbeats 4000000 in
set_option maxRecDepth 100000 in
theorem c_storeinit (l : Launch) (dC : Nat → ClassId) (dI : Nat → Nat → Nat) (cI cO : ClassId) (z0 : Nat) (sz : Nat) (h : Nat) : Met l yX8_init usX8_init ({ frames := 4, cells := 26, slots := 9254, locals := 72 }) (va_Pc [.ref h] (fun U => U.heap.size = sz ∧ va_P (dC, dI) vwCl [(h, .inr (15, [.null, .null, .null, .null, .null, .null, .null, .null, .null, .null, .null, .null, .null, .null]))] U.heap ∧ va_K (dC, dI) vwCl (ty0 cI cO) U ∧ va_D (fun _ => True) [(h, .inr (15, [.null, .null, .null, .null, .null, .null, .null, .null, .null, .null, .null, .null, .null, .null]))] ∧ uz z0 (va_A [(h, .inr (15, [.null, .null, .null, .null, .null, .null, .null, .null, .null, .null, .null, .null, .null, .null]))] sz) U)) (va_Qv (fun _ : Unit => True) (fun _ t => ∃ (q_1 : Nat), ∃ (q_2 : Nat), ∃ (q_3 : Nat), ∃ (q_5 : Nat), ∃ (q_7 : Nat), ∃ (q_9 : Nat), ∃ (q_11 : Nat), ∃ (q_13 : Nat), ∃ (q_15 : Nat), ∃ (q_17 : Nat), ∃ (q_19 : Nat), ∃ (q_21 : Nat), ∃ (q_23 : Nat), ∃ (q_25 : Nat), ∃ (a_4 : Nat), ∃ (a_6 : Nat), ∃ (a_8 : Nat), ∃ (a_10 : Nat), ∃ (a_12 : Nat), ∃ (a_14 : Nat), ∃ (a_16 : Nat), ∃ (a_18 : Nat), ∃ (a_20 : Nat), ∃ (a_22 : Nat), ∃ (a_24 : Nat), va_P (dC, dI) vwCl [(h, .inr (15, [.ref q_1, .ref q_2, .ref q_3, .ref q_5, .ref q_7, .ref q_9, .ref q_11, .ref q_13, .ref q_15, .ref q_17, .ref q_19, .ref q_21, .ref q_23, .ref q_25])), (q_1, .inr (6, [.int (nI 0), .ref z0, .int (nI 0)])), (q_2, .inr (6, [.int (nI 0), .ref z0, .int (nI 0)])), (q_3, .inr (13, [.ref a_4, .int (nI 0)])), wa a_4 cI 0 (fun _ => 0), (q_5, .inr (13, [.ref a_6, .int (nI 0)])), wa a_6 cI 1200 (fun _ => 0), (q_7, .inr (13, [.ref a_8, .int (nI 0)])), wa a_8 cI 1200 (fun _ => 0), (q_9, .inr (13, [.ref a_10, .int (nI 0)])), wa a_10 cI 1200 (fun _ => 0), (q_11, .inr (13, [.ref a_12, .int (nI 0)])), wa a_12 cI 1200 (fun _ => 0), (q_13, .inr (13, [.ref a_14, .int (nI 0)])), wa a_14 cI 1200 (fun _ => 0), (q_15, .inr (13, [.ref a_16, .int (nI 0)])), wa a_16 cI 1200 (fun _ => 0), (q_17, .inr (13, [.ref a_18, .int (nI 0)])), wa a_18 cI 24 (fun _ => 0), (q_19, .inr (13, [.ref a_20, .int (nI 0)])), wa a_20 cI 24 (fun _ => 0), (q_21, .inr (13, [.ref a_22, .int (nI 0)])), wa a_22 cI 200 (fun _ => 0), (q_23, .inr (13, [.ref a_24, .int (nI 0)])), wa a_24 cI 1200 (fun _ => 0)] t.heap ∧ va_K (dC, dI) vwCl (ty0 cI cO) t ∧ va_D (va_A [(h, .inr (15, [.null, .null, .null, .null, .null, .null, .null, .null, .null, .null, .null, .null, .null, .null]))] sz) [(h, .inr (15, [.ref q_1, .ref q_2, .ref q_3, .ref q_5, .ref q_7, .ref q_9, .ref q_11, .ref q_13, .ref q_15, .ref q_17, .ref q_19, .ref q_21, .ref q_23, .ref q_25])), (q_1, .inr (6, [.int (nI 0), .ref z0, .int (nI 0)])), (q_2, .inr (6, [.int (nI 0), .ref z0, .int (nI 0)])), (q_3, .inr (13, [.ref a_4, .int (nI 0)])), wa a_4 cI 0 (fun _ => 0), (q_5, .inr (13, [.ref a_6, .int (nI 0)])), wa a_6 cI 1200 (fun _ => 0), (q_7, .inr (13, [.ref a_8, .int (nI 0)])), wa a_8 cI 1200 (fun _ => 0), (q_9, .inr (13, [.ref a_10, .int (nI 0)])), wa a_10 cI 1200 (fun _ => 0), (q_11, .inr (13, [.ref a_12, .int (nI 0)])), wa a_12 cI 1200 (fun _ => 0), (q_13, .inr (13, [.ref a_14, .int (nI 0)])), wa a_14 cI 1200 (fun _ => 0), (q_15, .inr (13, [.ref a_16, .int (nI 0)])), wa a_16 cI 1200 (fun _ => 0), (q_17, .inr (13, [.ref a_18, .int (nI 0)])), wa a_18 cI 24 (fun _ => 0), (q_19, .inr (13, [.ref a_20, .int (nI 0)])), wa a_20 cI 24 (fun _ => 0), (q_21, .inr (13, [.ref a_22, .int (nI 0)])), wa a_22 cI 200 (fun _ => 0), (q_23, .inr (13, [.ref a_24, .int (nI 0)])), wa a_24 cI 1200 (fun _ => 0)]) (va_A [(h, .inr (15, [.null, .null, .null, .null, .null, .null, .null, .null, .null, .null, .null, .null, .null, .null]))] sz)) 26 9254 (va_A [(h, .inr (15, [.null, .null, .null, .null, .null, .null, .null, .null, .null, .null, .null, .null, .null, .null]))] sz) := by
  refine Met.ofW (cc := cX8_init) (maxL := 1) (ret := none) (by decide) rfl ?_
  intro p e s m args below meth c s₁ B hml hv
  obtain ⟨rfl, hsz, hP, hK, hD0, hZ⟩ := hv
  have hx := B.exec
  have hb := B.bytes
  have hr := B.returns
  have hts := atoms_spec (ws := usX8_init) B.pre
  have hown : s.vm.findClass RX8 = some m.cls := findClass_of_methodNamed B.named
  have hlocks := B.notSynchronized
  have hin : meth.name = "<init>" := (name_of_methodNamed B.named B.method).1
  subst hsz
  have hD := hD0.self (sz := s.heap.size)
  generalize hAe : va_A [(h, .inr (15, [.null, .null, .null, .null, .null, .null, .null, .null, .null, .null, .null, .null, .null, .null]))] s.heap.size = A at hD hZ ⊢
  have hA : ∀ q : Nat, s.heap.size ≤ q → A q := fun q h => by rw [← hAe]; exact Or.inr h
  have hS : va_S A s.heap s.heap [] := va_S.rf
  obtain ⟨hZs, ⟨fz, hZt⟩, hZo, hZr, hZi, hZc⟩ := id hZ
  have hl := lv_entry ([.ref h]) (n := 1) (Nat.le_of_ble_eq_true rfl)
  rw [lg_entry_eq]
  generalize (lg_sl ([.ref h]) ++ List.replicate (1 - (lg_sl ([.ref h])).length) Slot.unset).toArray = ls at hl ⊢
  have hl : lv_has ls 1 [(0, .ref h)] := hl
  refine lv_aload_n hx hb dX8_init_0 rfl (lv_at hl 0 rfl) ?_
  refine W.objInit hx hb hown (hts (.methodLink RX8 5 objectInit) (by decide +kernel)) (hts (.instanceMethod objectInit) (by decide +kernel)) (hts _ (List.mem_of_getElem? (i := 3) rfl)) rfl (by rw [hml]; exact hl.1) rfl dX8_init_1 (by first | exact Nat.le_of_ble_eq_true rfl | omega | (dsimp only [headSpec]; omega) | (simp only [headSpec]; omega) | omega) (by first | exact Nat.le_of_ble_eq_true rfl | omega | (dsimp only [headSpec]; omega) | (simp only [headSpec]; omega) | omega) ?_
  refine W.eq (g2 := F0 m 4 ls []) rfl ?_
  refine lv_aload_n hx hb dX8_init_4 rfl (lv_at hl 0 rfl) ?_
  refine va_new (ci := 6) (fs := [.int (nI 0), .null, .int (nI 0)]) (C := RJx4a65c) (T := TJx4a65c) (N := 3) hx hb hts inX8_init_RJx4a65c tyJx4a65c tyJx4a65c_ok hown (hts (.classLink RX8 11 RJx4a65c) (by decide +kernel)) (hts (.instantiable RJx4a65c 3) (by decide +kernel)) (hts (.initialized RJx4a65c) (by decide +kernel)) hK hP hD hS hA rfl (fun j hj => by rcases (show j = 0 ∨ j = 1 ∨ j = 2 by omega) with rfl | rfl | rfl <;> rfl) (by first | exact Nat.le_of_ble_eq_true rfl | omega | (dsimp only [headSpec]; omega) | (simp only [headSpec]; omega) | omega) (by first | exact Nat.le_of_ble_eq_true rfl | omega | (dsimp only [headSpec]; omega) | (simp only [headSpec]; omega) | omega) dX8_init_5 (fun q_1 H hP hD hS => ?_)
  have hP : va_P (dC, dI) vwCl [(h, .inr (15, [.null, .null, .null, .null, .null, .null, .null, .null, .null, .null, .null, .null, .null, .null])), (q_1, .inr (6, [.int (nI 0), .null, .int (nI 0)]))] H := hP
  have hD : va_D A [(h, .inr (15, [.null, .null, .null, .null, .null, .null, .null, .null, .null, .null, .null, .null, .null, .null])), (q_1, .inr (6, [.int (nI 0), .null, .int (nI 0)]))] := hD
  refine W.widen (k := 1) (n := 3) (by first | exact Nat.le_of_ble_eq_true rfl | omega | (dsimp only [headSpec]; omega) | (simp only [headSpec]; omega) | omega) (by first | exact Nat.le_of_ble_eq_true rfl | omega | (dsimp only [headSpec]; omega) | (simp only [headSpec]; omega) | omega) ?_
  refine lv_dup hx hb dX8_init_8 rfl ?_
  have hPc : va_P (dC, dI) vwCl [(q_1, .inr (6, [.int (nI 0), .null, .int (nI 0)]))] _ := hP.sub [1] rfl
  have hDc : va_D _ [(q_1, .inr (6, [.int (nI 0), .null, .int (nI 0)]))] := hD.sub [1] (by decide) rfl
  have hFc := va_free (wc := [(q_1, .inr (6, [.int (nI 0), .null, .int (nI 0)]))]) hD hS hA [1] rfl
  refine va_callv (va_runI (As := []) (rest := [.ref q_1, .ref h]) ⟨hx, hb, hml, hown, hts⟩ (c_alinit l dC dI cI cO z0 H.size q_1) (cwI 0 hts ugX8_init_Jx4a65c_init_da8c8 rfl rfl rfl (hts (.initialized RJx4a65c) (by decide +kernel)) (hts (.methodLink RX8 13 yJx4a65c_init_da8c8) (by decide +kernel)) (hts (.instanceMethod yJx4a65c_init_da8c8) (by decide +kernel)) rfl (by decide +kernel) ⟨(by first | exact Nat.le_of_ble_eq_true rfl | omega | (dsimp only [headSpec]; omega) | (simp only [headSpec]; omega) | omega), (by first | exact Nat.le_of_ble_eq_true rfl | omega | (dsimp only [headSpec]; omega) | (simp only [headSpec]; omega) | omega)⟩) ⟨fun a U g mk q => by obtain ⟨q0, q1, qP, qK, qD, qZ⟩ := q; exact ⟨q0, q1, qP, va_K.moved (u := U) (U := U.calling g mk a) (Vm.Alike.refl U.vm) qK, qD, qZ.moved (Vm.Alike.refl U.vm) rfl⟩, fun U hU hW => ⟨rfl, by rw [hU], by rw [hU]; exact hPc, va_K.moved hW.alike hK, hDc.weaken (fun _ _ _ _ => trivial), uz_call hZ hS hFc hU hW.alike⟩⟩ rfl rfl hl.1 rfl (lv_room (Nat.le_of_ble_eq_true rfl)) dX8_init_9 ⟨(by first | exact Nat.le_of_ble_eq_true rfl | omega | (dsimp only [headSpec]; omega) | (simp only [headSpec]; omega) | omega), (by first | exact Nat.le_of_ble_eq_true rfl | omega | (dsimp only [headSpec]; omega) | (simp only [headSpec]; omega) | omega)⟩) hS (fun q _ h => hFc q h) hFc (fun u t H locs ht hvm hw hB hz1 hk1 hS => ?_)
  obtain ⟨hP1, hK1, hD1⟩ := hB
  rw [ht] at hP1
  obtain ⟨hP, hD⟩ := va_join (wr := [(h, .inr (15, [.null, .null, .null, .null, .null, .null, .null, .null, .null, .null, .null, .null, .null, .null]))]) (w1 := [(q_1, .inr (6, [.int (nI 0), .ref z0, .int (nI 0)]))]) hP hD [1] [0] rfl rfl (by decide) (by decide) hk1 hFc hP1 hD1
  have hP : va_P (dC, dI) vwCl [(h, .inr (15, [.null, .null, .null, .null, .null, .null, .null, .null, .null, .null, .null, .null, .null, .null])), (q_1, .inr (6, [.int (nI 0), .ref z0, .int (nI 0)]))] H := hP
  have hD : va_D A [(h, .inr (15, [.null, .null, .null, .null, .null, .null, .null, .null, .null, .null, .null, .null, .null, .null])), (q_1, .inr (6, [.int (nI 0), .ref z0, .int (nI 0)]))] := hD
  refine va_putF (D := (dC, dI)) (ci := 15) (v := .ref q_1) (ty := .object "java/util/ArrayList") (C := RX8) (T := TX8) (N := 14) hx hb hts inX8_init_RX8 tyX8 tyX8_ok nmX8 hown hK hP hD hS 0 rfl rfl 0 (by decide) (hts (.fieldLink RX8 14 "Patchferry$Store" "texts" "Ljava/util/ArrayList;") (by decide +kernel)) (fun _ h9 => h9) rfl hin rfl (by decide +kernel) rfl rfl (Nat.le_of_ble_eq_true rfl) dX8_init_12 (fun H locs hP hD hS => ?_)
  have hP : va_P (dC, dI) vwCl [(h, .inr (15, [.ref q_1, .null, .null, .null, .null, .null, .null, .null, .null, .null, .null, .null, .null, .null])), (q_1, .inr (6, [.int (nI 0), .ref z0, .int (nI 0)]))] H := hP
  have hD : va_D A [(h, .inr (15, [.ref q_1, .null, .null, .null, .null, .null, .null, .null, .null, .null, .null, .null, .null, .null])), (q_1, .inr (6, [.int (nI 0), .ref z0, .int (nI 0)]))] := hD
  refine lv_aload_n hx hb dX8_init_15 rfl (lv_at hl 0 rfl) ?_
  refine va_new (ci := 6) (fs := [.int (nI 0), .null, .int (nI 0)]) (C := RJx4a65c) (T := TJx4a65c) (N := 3) hx hb hts inX8_init_RJx4a65c tyJx4a65c tyJx4a65c_ok hown (hts (.classLink RX8 11 RJx4a65c) (by decide +kernel)) (hts (.instantiable RJx4a65c 3) (by decide +kernel)) (hts (.initialized RJx4a65c) (by decide +kernel)) hK hP hD hS hA rfl (fun j hj => by rcases (show j = 0 ∨ j = 1 ∨ j = 2 by omega) with rfl | rfl | rfl <;> rfl) (by first | exact Nat.le_of_ble_eq_true rfl | omega | (dsimp only [headSpec]; omega) | (simp only [headSpec]; omega) | omega) (by first | exact Nat.le_of_ble_eq_true rfl | omega | (dsimp only [headSpec]; omega) | (simp only [headSpec]; omega) | omega) dX8_init_16 (fun q_2 H hP hD hS => ?_)
  have hP : va_P (dC, dI) vwCl [(h, .inr (15, [.ref q_1, .null, .null, .null, .null, .null, .null, .null, .null, .null, .null, .null, .null, .null])), (q_1, .inr (6, [.int (nI 0), .ref z0, .int (nI 0)])), (q_2, .inr (6, [.int (nI 0), .null, .int (nI 0)]))] H := hP
  have hD : va_D A [(h, .inr (15, [.ref q_1, .null, .null, .null, .null, .null, .null, .null, .null, .null, .null, .null, .null, .null])), (q_1, .inr (6, [.int (nI 0), .ref z0, .int (nI 0)])), (q_2, .inr (6, [.int (nI 0), .null, .int (nI 0)]))] := hD
  refine W.widen (k := 2) (n := 6) (by first | exact Nat.le_of_ble_eq_true rfl | omega | (dsimp only [headSpec]; omega) | (simp only [headSpec]; omega) | omega) (by first | exact Nat.le_of_ble_eq_true rfl | omega | (dsimp only [headSpec]; omega) | (simp only [headSpec]; omega) | omega) ?_
  refine lv_dup hx hb dX8_init_19 rfl ?_
  have hPc : va_P (dC, dI) vwCl [(q_2, .inr (6, [.int (nI 0), .null, .int (nI 0)]))] _ := hP.sub [2] rfl
  have hDc : va_D _ [(q_2, .inr (6, [.int (nI 0), .null, .int (nI 0)]))] := hD.sub [2] (by decide) rfl
  have hFc := va_free (wc := [(q_2, .inr (6, [.int (nI 0), .null, .int (nI 0)]))]) hD hS hA [2] rfl
  refine va_callv (va_runI (As := []) (rest := [.ref q_2, .ref h]) ⟨hx, hb, hml, hown, hts⟩ (c_alinit l dC dI cI cO z0 H.size q_2) (cwI 0 hts ugX8_init_Jx4a65c_init_da8c8 rfl rfl rfl (hts (.initialized RJx4a65c) (by decide +kernel)) (hts (.methodLink RX8 13 yJx4a65c_init_da8c8) (by decide +kernel)) (hts (.instanceMethod yJx4a65c_init_da8c8) (by decide +kernel)) rfl (by decide +kernel) ⟨(by first | exact Nat.le_of_ble_eq_true rfl | omega | (dsimp only [headSpec]; omega) | (simp only [headSpec]; omega) | omega), (by first | exact Nat.le_of_ble_eq_true rfl | omega | (dsimp only [headSpec]; omega) | (simp only [headSpec]; omega) | omega)⟩) ⟨fun a U g mk q => by obtain ⟨q0, q1, qP, qK, qD, qZ⟩ := q; exact ⟨q0, q1, qP, va_K.moved (u := U) (U := U.calling g mk a) (Vm.Alike.refl U.vm) qK, qD, qZ.moved (Vm.Alike.refl U.vm) rfl⟩, fun U hU hW => ⟨rfl, by rw [hU], by rw [hU]; exact hPc, va_K.moved hW.alike hK, hDc.weaken (fun _ _ _ _ => trivial), uz_call hZ hS hFc hU hW.alike⟩⟩ rfl rfl hl.1 rfl (lv_room (Nat.le_of_ble_eq_true rfl)) dX8_init_20 ⟨(by first | exact Nat.le_of_ble_eq_true rfl | omega | (dsimp only [headSpec]; omega) | (simp only [headSpec]; omega) | omega), (by first | exact Nat.le_of_ble_eq_true rfl | omega | (dsimp only [headSpec]; omega) | (simp only [headSpec]; omega) | omega)⟩) hS (fun q _ h => hFc q h) hFc (fun u t H locs ht hvm hw hB hz1 hk1 hS => ?_)
  obtain ⟨hP1, hK1, hD1⟩ := hB
  rw [ht] at hP1
  obtain ⟨hP, hD⟩ := va_join (wr := [(h, .inr (15, [.ref q_1, .null, .null, .null, .null, .null, .null, .null, .null, .null, .null, .null, .null, .null])), (q_1, .inr (6, [.int (nI 0), .ref z0, .int (nI 0)]))]) (w1 := [(q_2, .inr (6, [.int (nI 0), .ref z0, .int (nI 0)]))]) hP hD [2] [0, 1] rfl rfl (by decide) (by decide) hk1 hFc hP1 hD1
  have hP : va_P (dC, dI) vwCl [(h, .inr (15, [.ref q_1, .null, .null, .null, .null, .null, .null, .null, .null, .null, .null, .null, .null, .null])), (q_1, .inr (6, [.int (nI 0), .ref z0, .int (nI 0)])), (q_2, .inr (6, [.int (nI 0), .ref z0, .int (nI 0)]))] H := hP
  have hD : va_D A [(h, .inr (15, [.ref q_1, .null, .null, .null, .null, .null, .null, .null, .null, .null, .null, .null, .null, .null])), (q_1, .inr (6, [.int (nI 0), .ref z0, .int (nI 0)])), (q_2, .inr (6, [.int (nI 0), .ref z0, .int (nI 0)]))] := hD
  refine va_putF (D := (dC, dI)) (ci := 15) (v := .ref q_2) (ty := .object "java/util/ArrayList") (C := RX8) (T := TX8) (N := 14) hx hb hts inX8_init_RX8 tyX8 tyX8_ok nmX8 hown hK hP hD hS 0 rfl rfl 1 (by decide) (hts (.fieldLink RX8 18 "Patchferry$Store" "cuts" "Ljava/util/ArrayList;") (by decide +kernel)) (fun _ h9 => h9) rfl hin rfl (by decide +kernel) rfl rfl (Nat.le_of_ble_eq_true rfl) dX8_init_23 (fun H locs hP hD hS => ?_)
  have hP : va_P (dC, dI) vwCl [(h, .inr (15, [.ref q_1, .ref q_2, .null, .null, .null, .null, .null, .null, .null, .null, .null, .null, .null, .null])), (q_1, .inr (6, [.int (nI 0), .ref z0, .int (nI 0)])), (q_2, .inr (6, [.int (nI 0), .ref z0, .int (nI 0)]))] H := hP
  have hD : va_D A [(h, .inr (15, [.ref q_1, .ref q_2, .null, .null, .null, .null, .null, .null, .null, .null, .null, .null, .null, .null])), (q_1, .inr (6, [.int (nI 0), .ref z0, .int (nI 0)])), (q_2, .inr (6, [.int (nI 0), .ref z0, .int (nI 0)]))] := hD
  refine lv_aload_n hx hb dX8_init_26 rfl (lv_at hl 0 rfl) ?_
  refine va_new (ci := 13) (fs := [.null, .int (nI 0)]) (C := RX6) (T := TX6) (N := 2) hx hb hts inX8_init_RX6 tyX6 tyX6_ok hown (hts (.classLink RX8 21 RX6) (by decide +kernel)) (hts (.instantiable RX6 2) (by decide +kernel)) (hts (.initialized RX6) (by decide +kernel)) hK hP hD hS hA rfl (fun j hj => by rcases (show j = 0 ∨ j = 1 by omega) with rfl | rfl <;> rfl) (by first | exact Nat.le_of_ble_eq_true rfl | omega | (dsimp only [headSpec]; omega) | (simp only [headSpec]; omega) | omega) (by first | exact Nat.le_of_ble_eq_true rfl | omega | (dsimp only [headSpec]; omega) | (simp only [headSpec]; omega) | omega) dX8_init_27 (fun q_3 H hP hD hS => ?_)
  have hP : va_P (dC, dI) vwCl [(h, .inr (15, [.ref q_1, .ref q_2, .null, .null, .null, .null, .null, .null, .null, .null, .null, .null, .null, .null])), (q_1, .inr (6, [.int (nI 0), .ref z0, .int (nI 0)])), (q_2, .inr (6, [.int (nI 0), .ref z0, .int (nI 0)])), (q_3, .inr (13, [.null, .int (nI 0)]))] H := hP
  have hD : va_D A [(h, .inr (15, [.ref q_1, .ref q_2, .null, .null, .null, .null, .null, .null, .null, .null, .null, .null, .null, .null])), (q_1, .inr (6, [.int (nI 0), .ref z0, .int (nI 0)])), (q_2, .inr (6, [.int (nI 0), .ref z0, .int (nI 0)])), (q_3, .inr (13, [.null, .int (nI 0)]))] := hD
  refine W.widen (k := 3) (n := 8) (by first | exact Nat.le_of_ble_eq_true rfl | omega | (dsimp only [headSpec]; omega) | (simp only [headSpec]; omega) | omega) (by first | exact Nat.le_of_ble_eq_true rfl | omega | (dsimp only [headSpec]; omega) | (simp only [headSpec]; omega) | omega) ?_
  refine lv_dup hx hb dX8_init_30 rfl ?_
  refine lv_iconst (v := nI 0) hx hb dX8_init_31 (by decide) ?_
  have hPc : va_P (dC, dI) vwCl [(q_3, .inr (13, [.null, .int (nI 0)]))] _ := hP.sub [3] rfl
  have hDc : va_D _ [(q_3, .inr (13, [.null, .int (nI 0)]))] := hD.sub [3] (by decide) rfl
  have hFc := va_free (wc := [(q_3, .inr (13, [.null, .int (nI 0)]))]) hD hS hA [3] rfl
  refine va_callv (va_runI (As := [.int (nI 0)]) (rest := [.ref q_3, .ref h]) ⟨hx, hb, hml, hown, hts⟩ (c_rowinit l dC dI cI cO H.size q_3 0 (by omega)) (cwI 1 hts ugX8_init_X6_init rfl rfl rfl (hts (.initialized RX6) (by decide +kernel)) (hts (.methodLink RX8 23 yX6_init) (by decide +kernel)) (hts (.instanceMethod yX6_init) (by decide +kernel)) rfl (by decide +kernel) ⟨(by first | exact Nat.le_of_ble_eq_true rfl | omega | (dsimp only [headSpec]; omega) | (simp only [headSpec]; omega) | omega), (by first | exact Nat.le_of_ble_eq_true rfl | omega | (dsimp only [headSpec]; omega) | (simp only [headSpec]; omega) | omega)⟩) ⟨fun a U g mk q => by obtain ⟨q0, q1, qP, qK, qD⟩ := q; exact ⟨q0, q1, qP, va_K.moved (u := U) (U := U.calling g mk a) (Vm.Alike.refl U.vm) qK, qD⟩, fun U hU hW => ⟨rfl, by rw [hU], by rw [hU]; exact hPc, va_K.moved hW.alike hK, hDc.weaken (fun _ _ _ _ => trivial)⟩⟩ rfl rfl hl.1 rfl (lv_room (Nat.le_of_ble_eq_true rfl)) dX8_init_32 ⟨(by first | exact Nat.le_of_ble_eq_true rfl | omega | (dsimp only [headSpec]; omega) | (simp only [headSpec]; omega) | omega), (by first | exact Nat.le_of_ble_eq_true rfl | omega | (dsimp only [headSpec]; omega) | (simp only [headSpec]; omega) | omega)⟩) hS (fun q _ h => hFc q h) hFc (fun u t H locs ht hvm hw hB hz1 hk1 hS => ?_)
  obtain ⟨a_4, hP1, hK1, hD1⟩ := hB
  rw [ht] at hP1
  obtain ⟨hP, hD⟩ := va_join (wr := [(h, .inr (15, [.ref q_1, .ref q_2, .null, .null, .null, .null, .null, .null, .null, .null, .null, .null, .null, .null])), (q_1, .inr (6, [.int (nI 0), .ref z0, .int (nI 0)])), (q_2, .inr (6, [.int (nI 0), .ref z0, .int (nI 0)]))]) (w1 := [(q_3, .inr (13, [.ref a_4, .int (nI 0)])), wa a_4 cI 0 (fun _ => 0)]) hP hD [3] [0, 1, 2] rfl rfl (by decide) (by decide) hk1 hFc hP1 hD1
  have hP : va_P (dC, dI) vwCl [(h, .inr (15, [.ref q_1, .ref q_2, .null, .null, .null, .null, .null, .null, .null, .null, .null, .null, .null, .null])), (q_1, .inr (6, [.int (nI 0), .ref z0, .int (nI 0)])), (q_2, .inr (6, [.int (nI 0), .ref z0, .int (nI 0)])), (q_3, .inr (13, [.ref a_4, .int (nI 0)])), wa a_4 cI 0 (fun _ => 0)] H := hP
  have hD : va_D A [(h, .inr (15, [.ref q_1, .ref q_2, .null, .null, .null, .null, .null, .null, .null, .null, .null, .null, .null, .null])), (q_1, .inr (6, [.int (nI 0), .ref z0, .int (nI 0)])), (q_2, .inr (6, [.int (nI 0), .ref z0, .int (nI 0)])), (q_3, .inr (13, [.ref a_4, .int (nI 0)])), wa a_4 cI 0 (fun _ => 0)] := hD
  refine W.widen (k := 4) (n := 8) (by first | exact Nat.le_of_ble_eq_true rfl | omega | (dsimp only [headSpec]; omega) | (simp only [headSpec]; omega) | omega) (by first | exact Nat.le_of_ble_eq_true rfl | omega | (dsimp only [headSpec]; omega) | (simp only [headSpec]; omega) | omega) ?_
  refine va_putF (D := (dC, dI)) (ci := 15) (v := .ref q_3) (ty := .object "Patchferry$Row") (C := RX8) (T := TX8) (N := 14) hx hb hts inX8_init_RX8 tyX8 tyX8_ok nmX8 hown hK hP hD hS 0 rfl rfl 2 (by decide) (hts (.fieldLink RX8 26 "Patchferry$Store" "none" "LPatchferry$Row;") (by decide +kernel)) (fun _ h9 => h9) rfl hin rfl (by decide +kernel) rfl rfl (Nat.le_of_ble_eq_true rfl) dX8_init_35 (fun H locs hP hD hS => ?_)
  have hP : va_P (dC, dI) vwCl [(h, .inr (15, [.ref q_1, .ref q_2, .ref q_3, .null, .null, .null, .null, .null, .null, .null, .null, .null, .null, .null])), (q_1, .inr (6, [.int (nI 0), .ref z0, .int (nI 0)])), (q_2, .inr (6, [.int (nI 0), .ref z0, .int (nI 0)])), (q_3, .inr (13, [.ref a_4, .int (nI 0)])), wa a_4 cI 0 (fun _ => 0)] H := hP
  have hD : va_D A [(h, .inr (15, [.ref q_1, .ref q_2, .ref q_3, .null, .null, .null, .null, .null, .null, .null, .null, .null, .null, .null])), (q_1, .inr (6, [.int (nI 0), .ref z0, .int (nI 0)])), (q_2, .inr (6, [.int (nI 0), .ref z0, .int (nI 0)])), (q_3, .inr (13, [.ref a_4, .int (nI 0)])), wa a_4 cI 0 (fun _ => 0)] := hD
  refine lv_aload_n hx hb dX8_init_38 rfl (lv_at hl 0 rfl) ?_
  refine va_new (ci := 13) (fs := [.null, .int (nI 0)]) (C := RX6) (T := TX6) (N := 2) hx hb hts inX8_init_RX6 tyX6 tyX6_ok hown (hts (.classLink RX8 21 RX6) (by decide +kernel)) (hts (.instantiable RX6 2) (by decide +kernel)) (hts (.initialized RX6) (by decide +kernel)) hK hP hD hS hA rfl (fun j hj => by rcases (show j = 0 ∨ j = 1 by omega) with rfl | rfl <;> rfl) (by first | exact Nat.le_of_ble_eq_true rfl | omega | (dsimp only [headSpec]; omega) | (simp only [headSpec]; omega) | omega) (by first | exact Nat.le_of_ble_eq_true rfl | omega | (dsimp only [headSpec]; omega) | (simp only [headSpec]; omega) | omega) dX8_init_39 (fun q_5 H hP hD hS => ?_)
  have hP : va_P (dC, dI) vwCl [(h, .inr (15, [.ref q_1, .ref q_2, .ref q_3, .null, .null, .null, .null, .null, .null, .null, .null, .null, .null, .null])), (q_1, .inr (6, [.int (nI 0), .ref z0, .int (nI 0)])), (q_2, .inr (6, [.int (nI 0), .ref z0, .int (nI 0)])), (q_3, .inr (13, [.ref a_4, .int (nI 0)])), wa a_4 cI 0 (fun _ => 0), (q_5, .inr (13, [.null, .int (nI 0)]))] H := hP
  have hD : va_D A [(h, .inr (15, [.ref q_1, .ref q_2, .ref q_3, .null, .null, .null, .null, .null, .null, .null, .null, .null, .null, .null])), (q_1, .inr (6, [.int (nI 0), .ref z0, .int (nI 0)])), (q_2, .inr (6, [.int (nI 0), .ref z0, .int (nI 0)])), (q_3, .inr (13, [.ref a_4, .int (nI 0)])), wa a_4 cI 0 (fun _ => 0), (q_5, .inr (13, [.null, .int (nI 0)]))] := hD
  refine W.widen (k := 5) (n := 10) (by first | exact Nat.le_of_ble_eq_true rfl | omega | (dsimp only [headSpec]; omega) | (simp only [headSpec]; omega) | omega) (by first | exact Nat.le_of_ble_eq_true rfl | omega | (dsimp only [headSpec]; omega) | (simp only [headSpec]; omega) | omega) ?_
  refine lv_dup hx hb dX8_init_42 rfl ?_
  refine lv_sipush (v := nI 1200) hx hb dX8_init_43 (by decide) ?_
  have hPc : va_P (dC, dI) vwCl [(q_5, .inr (13, [.null, .int (nI 0)]))] _ := hP.sub [5] rfl
  have hDc : va_D _ [(q_5, .inr (13, [.null, .int (nI 0)]))] := hD.sub [5] (by decide) rfl
  have hFc := va_free (wc := [(q_5, .inr (13, [.null, .int (nI 0)]))]) hD hS hA [5] rfl
  refine va_callv (va_runI (As := [.int (nI 1200)]) (rest := [.ref q_5, .ref h]) ⟨hx, hb, hml, hown, hts⟩ (c_rowinit l dC dI cI cO H.size q_5 1200 (by omega)) (cwI 1 hts ugX8_init_X6_init rfl rfl rfl (hts (.initialized RX6) (by decide +kernel)) (hts (.methodLink RX8 23 yX6_init) (by decide +kernel)) (hts (.instanceMethod yX6_init) (by decide +kernel)) rfl (by decide +kernel) ⟨(by first | exact Nat.le_of_ble_eq_true rfl | omega | (dsimp only [headSpec]; omega) | (simp only [headSpec]; omega) | omega), (by first | exact Nat.le_of_ble_eq_true rfl | omega | (dsimp only [headSpec]; omega) | (simp only [headSpec]; omega) | omega)⟩) ⟨fun a U g mk q => by obtain ⟨q0, q1, qP, qK, qD⟩ := q; exact ⟨q0, q1, qP, va_K.moved (u := U) (U := U.calling g mk a) (Vm.Alike.refl U.vm) qK, qD⟩, fun U hU hW => ⟨rfl, by rw [hU], by rw [hU]; exact hPc, va_K.moved hW.alike hK, hDc.weaken (fun _ _ _ _ => trivial)⟩⟩ rfl rfl hl.1 rfl (lv_room (Nat.le_of_ble_eq_true rfl)) dX8_init_46 ⟨(by first | exact Nat.le_of_ble_eq_true rfl | omega | (dsimp only [headSpec]; omega) | (simp only [headSpec]; omega) | omega), (by first | exact Nat.le_of_ble_eq_true rfl | omega | (dsimp only [headSpec]; omega) | (simp only [headSpec]; omega) | omega)⟩) hS (fun q _ h => hFc q h) hFc (fun u t H locs ht hvm hw hB hz1 hk1 hS => ?_)
  obtain ⟨a_6, hP1, hK1, hD1⟩ := hB
  rw [ht] at hP1
  obtain ⟨hP, hD⟩ := va_join (wr := [(h, .inr (15, [.ref q_1, .ref q_2, .ref q_3, .null, .null, .null, .null, .null, .null, .null, .null, .null, .null, .null])), (q_1, .inr (6, [.int (nI 0), .ref z0, .int (nI 0)])), (q_2, .inr (6, [.int (nI 0), .ref z0, .int (nI 0)])), (q_3, .inr (13, [.ref a_4, .int (nI 0)])), wa a_4 cI 0 (fun _ => 0)]) (w1 := [(q_5, .inr (13, [.ref a_6, .int (nI 0)])), wa a_6 cI 1200 (fun _ => 0)]) hP hD [5] [0, 1, 2, 3, 4] rfl rfl (by decide) (by decide) hk1 hFc hP1 hD1
  have hP : va_P (dC, dI) vwCl [(h, .inr (15, [.ref q_1, .ref q_2, .ref q_3, .null, .null, .null, .null, .null, .null, .null, .null, .null, .null, .null])), (q_1, .inr (6, [.int (nI 0), .ref z0, .int (nI 0)])), (q_2, .inr (6, [.int (nI 0), .ref z0, .int (nI 0)])), (q_3, .inr (13, [.ref a_4, .int (nI 0)])), wa a_4 cI 0 (fun _ => 0), (q_5, .inr (13, [.ref a_6, .int (nI 0)])), wa a_6 cI 1200 (fun _ => 0)] H := hP
  have hD : va_D A [(h, .inr (15, [.ref q_1, .ref q_2, .ref q_3, .null, .null, .null, .null, .null, .null, .null, .null, .null, .null, .null])), (q_1, .inr (6, [.int (nI 0), .ref z0, .int (nI 0)])), (q_2, .inr (6, [.int (nI 0), .ref z0, .int (nI 0)])), (q_3, .inr (13, [.ref a_4, .int (nI 0)])), wa a_4 cI 0 (fun _ => 0), (q_5, .inr (13, [.ref a_6, .int (nI 0)])), wa a_6 cI 1200 (fun _ => 0)] := hD
  refine W.widen (k := 6) (n := 1210) (by first | exact Nat.le_of_ble_eq_true rfl | omega | (dsimp only [headSpec]; omega) | (simp only [headSpec]; omega) | omega) (by first | exact Nat.le_of_ble_eq_true rfl | omega | (dsimp only [headSpec]; omega) | (simp only [headSpec]; omega) | omega) ?_
  refine va_putF (D := (dC, dI)) (ci := 15) (v := .ref q_5) (ty := .object "Patchferry$Row") (C := RX8) (T := TX8) (N := 14) hx hb hts inX8_init_RX8 tyX8 tyX8_ok nmX8 hown hK hP hD hS 0 rfl rfl 3 (by decide) (hts (.fieldLink RX8 30 "Patchferry$Store" "homes" "LPatchferry$Row;") (by decide +kernel)) (fun _ h9 => h9) rfl hin rfl (by decide +kernel) rfl rfl (Nat.le_of_ble_eq_true rfl) dX8_init_49 (fun H locs hP hD hS => ?_)
  have hP : va_P (dC, dI) vwCl [(h, .inr (15, [.ref q_1, .ref q_2, .ref q_3, .ref q_5, .null, .null, .null, .null, .null, .null, .null, .null, .null, .null])), (q_1, .inr (6, [.int (nI 0), .ref z0, .int (nI 0)])), (q_2, .inr (6, [.int (nI 0), .ref z0, .int (nI 0)])), (q_3, .inr (13, [.ref a_4, .int (nI 0)])), wa a_4 cI 0 (fun _ => 0), (q_5, .inr (13, [.ref a_6, .int (nI 0)])), wa a_6 cI 1200 (fun _ => 0)] H := hP
  have hD : va_D A [(h, .inr (15, [.ref q_1, .ref q_2, .ref q_3, .ref q_5, .null, .null, .null, .null, .null, .null, .null, .null, .null, .null])), (q_1, .inr (6, [.int (nI 0), .ref z0, .int (nI 0)])), (q_2, .inr (6, [.int (nI 0), .ref z0, .int (nI 0)])), (q_3, .inr (13, [.ref a_4, .int (nI 0)])), wa a_4 cI 0 (fun _ => 0), (q_5, .inr (13, [.ref a_6, .int (nI 0)])), wa a_6 cI 1200 (fun _ => 0)] := hD
  refine lv_aload_n hx hb dX8_init_52 rfl (lv_at hl 0 rfl) ?_
  refine va_new (ci := 13) (fs := [.null, .int (nI 0)]) (C := RX6) (T := TX6) (N := 2) hx hb hts inX8_init_RX6 tyX6 tyX6_ok hown (hts (.classLink RX8 21 RX6) (by decide +kernel)) (hts (.instantiable RX6 2) (by decide +kernel)) (hts (.initialized RX6) (by decide +kernel)) hK hP hD hS hA rfl (fun j hj => by rcases (show j = 0 ∨ j = 1 by omega) with rfl | rfl <;> rfl) (by first | exact Nat.le_of_ble_eq_true rfl | omega | (dsimp only [headSpec]; omega) | (simp only [headSpec]; omega) | omega) (by first | exact Nat.le_of_ble_eq_true rfl | omega | (dsimp only [headSpec]; omega) | (simp only [headSpec]; omega) | omega) dX8_init_53 (fun q_7 H hP hD hS => ?_)
  have hP : va_P (dC, dI) vwCl [(h, .inr (15, [.ref q_1, .ref q_2, .ref q_3, .ref q_5, .null, .null, .null, .null, .null, .null, .null, .null, .null, .null])), (q_1, .inr (6, [.int (nI 0), .ref z0, .int (nI 0)])), (q_2, .inr (6, [.int (nI 0), .ref z0, .int (nI 0)])), (q_3, .inr (13, [.ref a_4, .int (nI 0)])), wa a_4 cI 0 (fun _ => 0), (q_5, .inr (13, [.ref a_6, .int (nI 0)])), wa a_6 cI 1200 (fun _ => 0), (q_7, .inr (13, [.null, .int (nI 0)]))] H := hP
  have hD : va_D A [(h, .inr (15, [.ref q_1, .ref q_2, .ref q_3, .ref q_5, .null, .null, .null, .null, .null, .null, .null, .null, .null, .null])), (q_1, .inr (6, [.int (nI 0), .ref z0, .int (nI 0)])), (q_2, .inr (6, [.int (nI 0), .ref z0, .int (nI 0)])), (q_3, .inr (13, [.ref a_4, .int (nI 0)])), wa a_4 cI 0 (fun _ => 0), (q_5, .inr (13, [.ref a_6, .int (nI 0)])), wa a_6 cI 1200 (fun _ => 0), (q_7, .inr (13, [.null, .int (nI 0)]))] := hD
  refine W.widen (k := 7) (n := 1212) (by first | exact Nat.le_of_ble_eq_true rfl | omega | (dsimp only [headSpec]; omega) | (simp only [headSpec]; omega) | omega) (by first | exact Nat.le_of_ble_eq_true rfl | omega | (dsimp only [headSpec]; omega) | (simp only [headSpec]; omega) | omega) ?_
  refine lv_dup hx hb dX8_init_56 rfl ?_
  refine lv_sipush (v := nI 1200) hx hb dX8_init_57 (by decide) ?_
  have hPc : va_P (dC, dI) vwCl [(q_7, .inr (13, [.null, .int (nI 0)]))] _ := hP.sub [7] rfl
  have hDc : va_D _ [(q_7, .inr (13, [.null, .int (nI 0)]))] := hD.sub [7] (by decide) rfl
  have hFc := va_free (wc := [(q_7, .inr (13, [.null, .int (nI 0)]))]) hD hS hA [7] rfl
  refine va_callv (va_runI (As := [.int (nI 1200)]) (rest := [.ref q_7, .ref h]) ⟨hx, hb, hml, hown, hts⟩ (c_rowinit l dC dI cI cO H.size q_7 1200 (by omega)) (cwI 1 hts ugX8_init_X6_init rfl rfl rfl (hts (.initialized RX6) (by decide +kernel)) (hts (.methodLink RX8 23 yX6_init) (by decide +kernel)) (hts (.instanceMethod yX6_init) (by decide +kernel)) rfl (by decide +kernel) ⟨(by first | exact Nat.le_of_ble_eq_true rfl | omega | (dsimp only [headSpec]; omega) | (simp only [headSpec]; omega) | omega), (by first | exact Nat.le_of_ble_eq_true rfl | omega | (dsimp only [headSpec]; omega) | (simp only [headSpec]; omega) | omega)⟩) ⟨fun a U g mk q => by obtain ⟨q0, q1, qP, qK, qD⟩ := q; exact ⟨q0, q1, qP, va_K.moved (u := U) (U := U.calling g mk a) (Vm.Alike.refl U.vm) qK, qD⟩, fun U hU hW => ⟨rfl, by rw [hU], by rw [hU]; exact hPc, va_K.moved hW.alike hK, hDc.weaken (fun _ _ _ _ => trivial)⟩⟩ rfl rfl hl.1 rfl (lv_room (Nat.le_of_ble_eq_true rfl)) dX8_init_60 ⟨(by first | exact Nat.le_of_ble_eq_true rfl | omega | (dsimp only [headSpec]; omega) | (simp only [headSpec]; omega) | omega), (by first | exact Nat.le_of_ble_eq_true rfl | omega | (dsimp only [headSpec]; omega) | (simp only [headSpec]; omega) | omega)⟩) hS (fun q _ h => hFc q h) hFc (fun u t H locs ht hvm hw hB hz1 hk1 hS => ?_)
  obtain ⟨a_8, hP1, hK1, hD1⟩ := hB
  rw [ht] at hP1
  obtain ⟨hP, hD⟩ := va_join (wr := [(h, .inr (15, [.ref q_1, .ref q_2, .ref q_3, .ref q_5, .null, .null, .null, .null, .null, .null, .null, .null, .null, .null])), (q_1, .inr (6, [.int (nI 0), .ref z0, .int (nI 0)])), (q_2, .inr (6, [.int (nI 0), .ref z0, .int (nI 0)])), (q_3, .inr (13, [.ref a_4, .int (nI 0)])), wa a_4 cI 0 (fun _ => 0), (q_5, .inr (13, [.ref a_6, .int (nI 0)])), wa a_6 cI 1200 (fun _ => 0)]) (w1 := [(q_7, .inr (13, [.ref a_8, .int (nI 0)])), wa a_8 cI 1200 (fun _ => 0)]) hP hD [7] [0, 1, 2, 3, 4, 5, 6] rfl rfl (by decide) (by decide) hk1 hFc hP1 hD1
  have hP : va_P (dC, dI) vwCl [(h, .inr (15, [.ref q_1, .ref q_2, .ref q_3, .ref q_5, .null, .null, .null, .null, .null, .null, .null, .null, .null, .null])), (q_1, .inr (6, [.int (nI 0), .ref z0, .int (nI 0)])), (q_2, .inr (6, [.int (nI 0), .ref z0, .int (nI 0)])), (q_3, .inr (13, [.ref a_4, .int (nI 0)])), wa a_4 cI 0 (fun _ => 0), (q_5, .inr (13, [.ref a_6, .int (nI 0)])), wa a_6 cI 1200 (fun _ => 0), (q_7, .inr (13, [.ref a_8, .int (nI 0)])), wa a_8 cI 1200 (fun _ => 0)] H := hP
  have hD : va_D A [(h, .inr (15, [.ref q_1, .ref q_2, .ref q_3, .ref q_5, .null, .null, .null, .null, .null, .null, .null, .null, .null, .null])), (q_1, .inr (6, [.int (nI 0), .ref z0, .int (nI 0)])), (q_2, .inr (6, [.int (nI 0), .ref z0, .int (nI 0)])), (q_3, .inr (13, [.ref a_4, .int (nI 0)])), wa a_4 cI 0 (fun _ => 0), (q_5, .inr (13, [.ref a_6, .int (nI 0)])), wa a_6 cI 1200 (fun _ => 0), (q_7, .inr (13, [.ref a_8, .int (nI 0)])), wa a_8 cI 1200 (fun _ => 0)] := hD
  refine W.widen (k := 8) (n := 2412) (by first | exact Nat.le_of_ble_eq_true rfl | omega | (dsimp only [headSpec]; omega) | (simp only [headSpec]; omega) | omega) (by first | exact Nat.le_of_ble_eq_true rfl | omega | (dsimp only [headSpec]; omega) | (simp only [headSpec]; omega) | omega) ?_
  refine va_putF (D := (dC, dI)) (ci := 15) (v := .ref q_7) (ty := .object "Patchferry$Row") (C := RX8) (T := TX8) (N := 14) hx hb hts inX8_init_RX8 tyX8 tyX8_ok nmX8 hown hK hP hD hS 0 rfl rfl 4 (by decide) (hts (.fieldLink RX8 33 "Patchferry$Store" "starts" "LPatchferry$Row;") (by decide +kernel)) (fun _ h9 => h9) rfl hin rfl (by decide +kernel) rfl rfl (Nat.le_of_ble_eq_true rfl) dX8_init_63 (fun H locs hP hD hS => ?_)
  have hP : va_P (dC, dI) vwCl [(h, .inr (15, [.ref q_1, .ref q_2, .ref q_3, .ref q_5, .ref q_7, .null, .null, .null, .null, .null, .null, .null, .null, .null])), (q_1, .inr (6, [.int (nI 0), .ref z0, .int (nI 0)])), (q_2, .inr (6, [.int (nI 0), .ref z0, .int (nI 0)])), (q_3, .inr (13, [.ref a_4, .int (nI 0)])), wa a_4 cI 0 (fun _ => 0), (q_5, .inr (13, [.ref a_6, .int (nI 0)])), wa a_6 cI 1200 (fun _ => 0), (q_7, .inr (13, [.ref a_8, .int (nI 0)])), wa a_8 cI 1200 (fun _ => 0)] H := hP
  have hD : va_D A [(h, .inr (15, [.ref q_1, .ref q_2, .ref q_3, .ref q_5, .ref q_7, .null, .null, .null, .null, .null, .null, .null, .null, .null])), (q_1, .inr (6, [.int (nI 0), .ref z0, .int (nI 0)])), (q_2, .inr (6, [.int (nI 0), .ref z0, .int (nI 0)])), (q_3, .inr (13, [.ref a_4, .int (nI 0)])), wa a_4 cI 0 (fun _ => 0), (q_5, .inr (13, [.ref a_6, .int (nI 0)])), wa a_6 cI 1200 (fun _ => 0), (q_7, .inr (13, [.ref a_8, .int (nI 0)])), wa a_8 cI 1200 (fun _ => 0)] := hD
  refine lv_aload_n hx hb dX8_init_66 rfl (lv_at hl 0 rfl) ?_
  refine va_new (ci := 13) (fs := [.null, .int (nI 0)]) (C := RX6) (T := TX6) (N := 2) hx hb hts inX8_init_RX6 tyX6 tyX6_ok hown (hts (.classLink RX8 21 RX6) (by decide +kernel)) (hts (.instantiable RX6 2) (by decide +kernel)) (hts (.initialized RX6) (by decide +kernel)) hK hP hD hS hA rfl (fun j hj => by rcases (show j = 0 ∨ j = 1 by omega) with rfl | rfl <;> rfl) (by first | exact Nat.le_of_ble_eq_true rfl | omega | (dsimp only [headSpec]; omega) | (simp only [headSpec]; omega) | omega) (by first | exact Nat.le_of_ble_eq_true rfl | omega | (dsimp only [headSpec]; omega) | (simp only [headSpec]; omega) | omega) dX8_init_67 (fun q_9 H hP hD hS => ?_)
  have hP : va_P (dC, dI) vwCl [(h, .inr (15, [.ref q_1, .ref q_2, .ref q_3, .ref q_5, .ref q_7, .null, .null, .null, .null, .null, .null, .null, .null, .null])), (q_1, .inr (6, [.int (nI 0), .ref z0, .int (nI 0)])), (q_2, .inr (6, [.int (nI 0), .ref z0, .int (nI 0)])), (q_3, .inr (13, [.ref a_4, .int (nI 0)])), wa a_4 cI 0 (fun _ => 0), (q_5, .inr (13, [.ref a_6, .int (nI 0)])), wa a_6 cI 1200 (fun _ => 0), (q_7, .inr (13, [.ref a_8, .int (nI 0)])), wa a_8 cI 1200 (fun _ => 0), (q_9, .inr (13, [.null, .int (nI 0)]))] H := hP
  have hD : va_D A [(h, .inr (15, [.ref q_1, .ref q_2, .ref q_3, .ref q_5, .ref q_7, .null, .null, .null, .null, .null, .null, .null, .null, .null])), (q_1, .inr (6, [.int (nI 0), .ref z0, .int (nI 0)])), (q_2, .inr (6, [.int (nI 0), .ref z0, .int (nI 0)])), (q_3, .inr (13, [.ref a_4, .int (nI 0)])), wa a_4 cI 0 (fun _ => 0), (q_5, .inr (13, [.ref a_6, .int (nI 0)])), wa a_6 cI 1200 (fun _ => 0), (q_7, .inr (13, [.ref a_8, .int (nI 0)])), wa a_8 cI 1200 (fun _ => 0), (q_9, .inr (13, [.null, .int (nI 0)]))] := hD
  refine W.widen (k := 9) (n := 2414) (by first | exact Nat.le_of_ble_eq_true rfl | omega | (dsimp only [headSpec]; omega) | (simp only [headSpec]; omega) | omega) (by first | exact Nat.le_of_ble_eq_true rfl | omega | (dsimp only [headSpec]; omega) | (simp only [headSpec]; omega) | omega) ?_
  refine lv_dup hx hb dX8_init_70 rfl ?_
  refine lv_sipush (v := nI 1200) hx hb dX8_init_71 (by decide) ?_
  have hPc : va_P (dC, dI) vwCl [(q_9, .inr (13, [.null, .int (nI 0)]))] _ := hP.sub [9] rfl
  have hDc : va_D _ [(q_9, .inr (13, [.null, .int (nI 0)]))] := hD.sub [9] (by decide) rfl
  have hFc := va_free (wc := [(q_9, .inr (13, [.null, .int (nI 0)]))]) hD hS hA [9] rfl
  refine va_callv (va_runI (As := [.int (nI 1200)]) (rest := [.ref q_9, .ref h]) ⟨hx, hb, hml, hown, hts⟩ (c_rowinit l dC dI cI cO H.size q_9 1200 (by omega)) (cwI 1 hts ugX8_init_X6_init rfl rfl rfl (hts (.initialized RX6) (by decide +kernel)) (hts (.methodLink RX8 23 yX6_init) (by decide +kernel)) (hts (.instanceMethod yX6_init) (by decide +kernel)) rfl (by decide +kernel) ⟨(by first | exact Nat.le_of_ble_eq_true rfl | omega | (dsimp only [headSpec]; omega) | (simp only [headSpec]; omega) | omega), (by first | exact Nat.le_of_ble_eq_true rfl | omega | (dsimp only [headSpec]; omega) | (simp only [headSpec]; omega) | omega)⟩) ⟨fun a U g mk q => by obtain ⟨q0, q1, qP, qK, qD⟩ := q; exact ⟨q0, q1, qP, va_K.moved (u := U) (U := U.calling g mk a) (Vm.Alike.refl U.vm) qK, qD⟩, fun U hU hW => ⟨rfl, by rw [hU], by rw [hU]; exact hPc, va_K.moved hW.alike hK, hDc.weaken (fun _ _ _ _ => trivial)⟩⟩ rfl rfl hl.1 rfl (lv_room (Nat.le_of_ble_eq_true rfl)) dX8_init_74 ⟨(by first | exact Nat.le_of_ble_eq_true rfl | omega | (dsimp only [headSpec]; omega) | (simp only [headSpec]; omega) | omega), (by first | exact Nat.le_of_ble_eq_true rfl | omega | (dsimp only [headSpec]; omega) | (simp only [headSpec]; omega) | omega)⟩) hS (fun q _ h => hFc q h) hFc (fun u t H locs ht hvm hw hB hz1 hk1 hS => ?_)
  obtain ⟨a_10, hP1, hK1, hD1⟩ := hB
  rw [ht] at hP1
  obtain ⟨hP, hD⟩ := va_join (wr := [(h, .inr (15, [.ref q_1, .ref q_2, .ref q_3, .ref q_5, .ref q_7, .null, .null, .null, .null, .null, .null, .null, .null, .null])), (q_1, .inr (6, [.int (nI 0), .ref z0, .int (nI 0)])), (q_2, .inr (6, [.int (nI 0), .ref z0, .int (nI 0)])), (q_3, .inr (13, [.ref a_4, .int (nI 0)])), wa a_4 cI 0 (fun _ => 0), (q_5, .inr (13, [.ref a_6, .int (nI 0)])), wa a_6 cI 1200 (fun _ => 0), (q_7, .inr (13, [.ref a_8, .int (nI 0)])), wa a_8 cI 1200 (fun _ => 0)]) (w1 := [(q_9, .inr (13, [.ref a_10, .int (nI 0)])), wa a_10 cI 1200 (fun _ => 0)]) hP hD [9] [0, 1, 2, 3, 4, 5, 6, 7, 8] rfl rfl (by decide) (by decide) hk1 hFc hP1 hD1
  have hP : va_P (dC, dI) vwCl [(h, .inr (15, [.ref q_1, .ref q_2, .ref q_3, .ref q_5, .ref q_7, .null, .null, .null, .null, .null, .null, .null, .null, .null])), (q_1, .inr (6, [.int (nI 0), .ref z0, .int (nI 0)])), (q_2, .inr (6, [.int (nI 0), .ref z0, .int (nI 0)])), (q_3, .inr (13, [.ref a_4, .int (nI 0)])), wa a_4 cI 0 (fun _ => 0), (q_5, .inr (13, [.ref a_6, .int (nI 0)])), wa a_6 cI 1200 (fun _ => 0), (q_7, .inr (13, [.ref a_8, .int (nI 0)])), wa a_8 cI 1200 (fun _ => 0), (q_9, .inr (13, [.ref a_10, .int (nI 0)])), wa a_10 cI 1200 (fun _ => 0)] H := hP
  have hD : va_D A [(h, .inr (15, [.ref q_1, .ref q_2, .ref q_3, .ref q_5, .ref q_7, .null, .null, .null, .null, .null, .null, .null, .null, .null])), (q_1, .inr (6, [.int (nI 0), .ref z0, .int (nI 0)])), (q_2, .inr (6, [.int (nI 0), .ref z0, .int (nI 0)])), (q_3, .inr (13, [.ref a_4, .int (nI 0)])), wa a_4 cI 0 (fun _ => 0), (q_5, .inr (13, [.ref a_6, .int (nI 0)])), wa a_6 cI 1200 (fun _ => 0), (q_7, .inr (13, [.ref a_8, .int (nI 0)])), wa a_8 cI 1200 (fun _ => 0), (q_9, .inr (13, [.ref a_10, .int (nI 0)])), wa a_10 cI 1200 (fun _ => 0)] := hD
  refine W.widen (k := 10) (n := 3614) (by first | exact Nat.le_of_ble_eq_true rfl | omega | (dsimp only [headSpec]; omega) | (simp only [headSpec]; omega) | omega) (by first | exact Nat.le_of_ble_eq_true rfl | omega | (dsimp only [headSpec]; omega) | (simp only [headSpec]; omega) | omega) ?_
  refine va_putF (D := (dC, dI)) (ci := 15) (v := .ref q_9) (ty := .object "Patchferry$Row") (C := RX8) (T := TX8) (N := 14) hx hb hts inX8_init_RX8 tyX8 tyX8_ok nmX8 hown hK hP hD hS 0 rfl rfl 5 (by decide) (hts (.fieldLink RX8 36 "Patchferry$Store" "sizes" "LPatchferry$Row;") (by decide +kernel)) (fun _ h9 => h9) rfl hin rfl (by decide +kernel) rfl rfl (Nat.le_of_ble_eq_true rfl) dX8_init_77 (fun H locs hP hD hS => ?_)
  have hP : va_P (dC, dI) vwCl [(h, .inr (15, [.ref q_1, .ref q_2, .ref q_3, .ref q_5, .ref q_7, .ref q_9, .null, .null, .null, .null, .null, .null, .null, .null])), (q_1, .inr (6, [.int (nI 0), .ref z0, .int (nI 0)])), (q_2, .inr (6, [.int (nI 0), .ref z0, .int (nI 0)])), (q_3, .inr (13, [.ref a_4, .int (nI 0)])), wa a_4 cI 0 (fun _ => 0), (q_5, .inr (13, [.ref a_6, .int (nI 0)])), wa a_6 cI 1200 (fun _ => 0), (q_7, .inr (13, [.ref a_8, .int (nI 0)])), wa a_8 cI 1200 (fun _ => 0), (q_9, .inr (13, [.ref a_10, .int (nI 0)])), wa a_10 cI 1200 (fun _ => 0)] H := hP
  have hD : va_D A [(h, .inr (15, [.ref q_1, .ref q_2, .ref q_3, .ref q_5, .ref q_7, .ref q_9, .null, .null, .null, .null, .null, .null, .null, .null])), (q_1, .inr (6, [.int (nI 0), .ref z0, .int (nI 0)])), (q_2, .inr (6, [.int (nI 0), .ref z0, .int (nI 0)])), (q_3, .inr (13, [.ref a_4, .int (nI 0)])), wa a_4 cI 0 (fun _ => 0), (q_5, .inr (13, [.ref a_6, .int (nI 0)])), wa a_6 cI 1200 (fun _ => 0), (q_7, .inr (13, [.ref a_8, .int (nI 0)])), wa a_8 cI 1200 (fun _ => 0), (q_9, .inr (13, [.ref a_10, .int (nI 0)])), wa a_10 cI 1200 (fun _ => 0)] := hD
  refine lv_aload_n hx hb dX8_init_80 rfl (lv_at hl 0 rfl) ?_
  refine va_new (ci := 13) (fs := [.null, .int (nI 0)]) (C := RX6) (T := TX6) (N := 2) hx hb hts inX8_init_RX6 tyX6 tyX6_ok hown (hts (.classLink RX8 21 RX6) (by decide +kernel)) (hts (.instantiable RX6 2) (by decide +kernel)) (hts (.initialized RX6) (by decide +kernel)) hK hP hD hS hA rfl (fun j hj => by rcases (show j = 0 ∨ j = 1 by omega) with rfl | rfl <;> rfl) (by first | exact Nat.le_of_ble_eq_true rfl | omega | (dsimp only [headSpec]; omega) | (simp only [headSpec]; omega) | omega) (by first | exact Nat.le_of_ble_eq_true rfl | omega | (dsimp only [headSpec]; omega) | (simp only [headSpec]; omega) | omega) dX8_init_81 (fun q_11 H hP hD hS => ?_)
  have hP : va_P (dC, dI) vwCl [(h, .inr (15, [.ref q_1, .ref q_2, .ref q_3, .ref q_5, .ref q_7, .ref q_9, .null, .null, .null, .null, .null, .null, .null, .null])), (q_1, .inr (6, [.int (nI 0), .ref z0, .int (nI 0)])), (q_2, .inr (6, [.int (nI 0), .ref z0, .int (nI 0)])), (q_3, .inr (13, [.ref a_4, .int (nI 0)])), wa a_4 cI 0 (fun _ => 0), (q_5, .inr (13, [.ref a_6, .int (nI 0)])), wa a_6 cI 1200 (fun _ => 0), (q_7, .inr (13, [.ref a_8, .int (nI 0)])), wa a_8 cI 1200 (fun _ => 0), (q_9, .inr (13, [.ref a_10, .int (nI 0)])), wa a_10 cI 1200 (fun _ => 0), (q_11, .inr (13, [.null, .int (nI 0)]))] H := hP
  have hD : va_D A [(h, .inr (15, [.ref q_1, .ref q_2, .ref q_3, .ref q_5, .ref q_7, .ref q_9, .null, .null, .null, .null, .null, .null, .null, .null])), (q_1, .inr (6, [.int (nI 0), .ref z0, .int (nI 0)])), (q_2, .inr (6, [.int (nI 0), .ref z0, .int (nI 0)])), (q_3, .inr (13, [.ref a_4, .int (nI 0)])), wa a_4 cI 0 (fun _ => 0), (q_5, .inr (13, [.ref a_6, .int (nI 0)])), wa a_6 cI 1200 (fun _ => 0), (q_7, .inr (13, [.ref a_8, .int (nI 0)])), wa a_8 cI 1200 (fun _ => 0), (q_9, .inr (13, [.ref a_10, .int (nI 0)])), wa a_10 cI 1200 (fun _ => 0), (q_11, .inr (13, [.null, .int (nI 0)]))] := hD
  refine W.widen (k := 11) (n := 3616) (by first | exact Nat.le_of_ble_eq_true rfl | omega | (dsimp only [headSpec]; omega) | (simp only [headSpec]; omega) | omega) (by first | exact Nat.le_of_ble_eq_true rfl | omega | (dsimp only [headSpec]; omega) | (simp only [headSpec]; omega) | omega) ?_
  refine lv_dup hx hb dX8_init_84 rfl ?_
  refine lv_sipush (v := nI 1200) hx hb dX8_init_85 (by decide) ?_
  have hPc : va_P (dC, dI) vwCl [(q_11, .inr (13, [.null, .int (nI 0)]))] _ := hP.sub [11] rfl
  have hDc : va_D _ [(q_11, .inr (13, [.null, .int (nI 0)]))] := hD.sub [11] (by decide) rfl
  have hFc := va_free (wc := [(q_11, .inr (13, [.null, .int (nI 0)]))]) hD hS hA [11] rfl
  refine va_callv (va_runI (As := [.int (nI 1200)]) (rest := [.ref q_11, .ref h]) ⟨hx, hb, hml, hown, hts⟩ (c_rowinit l dC dI cI cO H.size q_11 1200 (by omega)) (cwI 1 hts ugX8_init_X6_init rfl rfl rfl (hts (.initialized RX6) (by decide +kernel)) (hts (.methodLink RX8 23 yX6_init) (by decide +kernel)) (hts (.instanceMethod yX6_init) (by decide +kernel)) rfl (by decide +kernel) ⟨(by first | exact Nat.le_of_ble_eq_true rfl | omega | (dsimp only [headSpec]; omega) | (simp only [headSpec]; omega) | omega), (by first | exact Nat.le_of_ble_eq_true rfl | omega | (dsimp only [headSpec]; omega) | (simp only [headSpec]; omega) | omega)⟩) ⟨fun a U g mk q => by obtain ⟨q0, q1, qP, qK, qD⟩ := q; exact ⟨q0, q1, qP, va_K.moved (u := U) (U := U.calling g mk a) (Vm.Alike.refl U.vm) qK, qD⟩, fun U hU hW => ⟨rfl, by rw [hU], by rw [hU]; exact hPc, va_K.moved hW.alike hK, hDc.weaken (fun _ _ _ _ => trivial)⟩⟩ rfl rfl hl.1 rfl (lv_room (Nat.le_of_ble_eq_true rfl)) dX8_init_88 ⟨(by first | exact Nat.le_of_ble_eq_true rfl | omega | (dsimp only [headSpec]; omega) | (simp only [headSpec]; omega) | omega), (by first | exact Nat.le_of_ble_eq_true rfl | omega | (dsimp only [headSpec]; omega) | (simp only [headSpec]; omega) | omega)⟩) hS (fun q _ h => hFc q h) hFc (fun u t H locs ht hvm hw hB hz1 hk1 hS => ?_)
  obtain ⟨a_12, hP1, hK1, hD1⟩ := hB
  rw [ht] at hP1
  obtain ⟨hP, hD⟩ := va_join (wr := [(h, .inr (15, [.ref q_1, .ref q_2, .ref q_3, .ref q_5, .ref q_7, .ref q_9, .null, .null, .null, .null, .null, .null, .null, .null])), (q_1, .inr (6, [.int (nI 0), .ref z0, .int (nI 0)])), (q_2, .inr (6, [.int (nI 0), .ref z0, .int (nI 0)])), (q_3, .inr (13, [.ref a_4, .int (nI 0)])), wa a_4 cI 0 (fun _ => 0), (q_5, .inr (13, [.ref a_6, .int (nI 0)])), wa a_6 cI 1200 (fun _ => 0), (q_7, .inr (13, [.ref a_8, .int (nI 0)])), wa a_8 cI 1200 (fun _ => 0), (q_9, .inr (13, [.ref a_10, .int (nI 0)])), wa a_10 cI 1200 (fun _ => 0)]) (w1 := [(q_11, .inr (13, [.ref a_12, .int (nI 0)])), wa a_12 cI 1200 (fun _ => 0)]) hP hD [11] [0, 1, 2, 3, 4, 5, 6, 7, 8, 9, 10] rfl rfl (by decide) (by decide) hk1 hFc hP1 hD1
  have hP : va_P (dC, dI) vwCl [(h, .inr (15, [.ref q_1, .ref q_2, .ref q_3, .ref q_5, .ref q_7, .ref q_9, .null, .null, .null, .null, .null, .null, .null, .null])), (q_1, .inr (6, [.int (nI 0), .ref z0, .int (nI 0)])), (q_2, .inr (6, [.int (nI 0), .ref z0, .int (nI 0)])), (q_3, .inr (13, [.ref a_4, .int (nI 0)])), wa a_4 cI 0 (fun _ => 0), (q_5, .inr (13, [.ref a_6, .int (nI 0)])), wa a_6 cI 1200 (fun _ => 0), (q_7, .inr (13, [.ref a_8, .int (nI 0)])), wa a_8 cI 1200 (fun _ => 0), (q_9, .inr (13, [.ref a_10, .int (nI 0)])), wa a_10 cI 1200 (fun _ => 0), (q_11, .inr (13, [.ref a_12, .int (nI 0)])), wa a_12 cI 1200 (fun _ => 0)] H := hP
  have hD : va_D A [(h, .inr (15, [.ref q_1, .ref q_2, .ref q_3, .ref q_5, .ref q_7, .ref q_9, .null, .null, .null, .null, .null, .null, .null, .null])), (q_1, .inr (6, [.int (nI 0), .ref z0, .int (nI 0)])), (q_2, .inr (6, [.int (nI 0), .ref z0, .int (nI 0)])), (q_3, .inr (13, [.ref a_4, .int (nI 0)])), wa a_4 cI 0 (fun _ => 0), (q_5, .inr (13, [.ref a_6, .int (nI 0)])), wa a_6 cI 1200 (fun _ => 0), (q_7, .inr (13, [.ref a_8, .int (nI 0)])), wa a_8 cI 1200 (fun _ => 0), (q_9, .inr (13, [.ref a_10, .int (nI 0)])), wa a_10 cI 1200 (fun _ => 0), (q_11, .inr (13, [.ref a_12, .int (nI 0)])), wa a_12 cI 1200 (fun _ => 0)] := hD
  refine W.widen (k := 12) (n := 4816) (by first | exact Nat.le_of_ble_eq_true rfl | omega | (dsimp only [headSpec]; omega) | (simp only [headSpec]; omega) | omega) (by first | exact Nat.le_of_ble_eq_true rfl | omega | (dsimp only [headSpec]; omega) | (simp only [headSpec]; omega) | omega) ?_
  refine va_putF (D := (dC, dI)) (ci := 15) (v := .ref q_11) (ty := .object "Patchferry$Row") (C := RX8) (T := TX8) (N := 14) hx hb hts inX8_init_RX8 tyX8 tyX8_ok nmX8 hown hK hP hD hS 0 rfl rfl 6 (by decide) (hts (.fieldLink RX8 39 "Patchferry$Store" "sums" "LPatchferry$Row;") (by decide +kernel)) (fun _ h9 => h9) rfl hin rfl (by decide +kernel) rfl rfl (Nat.le_of_ble_eq_true rfl) dX8_init_91 (fun H locs hP hD hS => ?_)
  have hP : va_P (dC, dI) vwCl [(h, .inr (15, [.ref q_1, .ref q_2, .ref q_3, .ref q_5, .ref q_7, .ref q_9, .ref q_11, .null, .null, .null, .null, .null, .null, .null])), (q_1, .inr (6, [.int (nI 0), .ref z0, .int (nI 0)])), (q_2, .inr (6, [.int (nI 0), .ref z0, .int (nI 0)])), (q_3, .inr (13, [.ref a_4, .int (nI 0)])), wa a_4 cI 0 (fun _ => 0), (q_5, .inr (13, [.ref a_6, .int (nI 0)])), wa a_6 cI 1200 (fun _ => 0), (q_7, .inr (13, [.ref a_8, .int (nI 0)])), wa a_8 cI 1200 (fun _ => 0), (q_9, .inr (13, [.ref a_10, .int (nI 0)])), wa a_10 cI 1200 (fun _ => 0), (q_11, .inr (13, [.ref a_12, .int (nI 0)])), wa a_12 cI 1200 (fun _ => 0)] H := hP
  have hD : va_D A [(h, .inr (15, [.ref q_1, .ref q_2, .ref q_3, .ref q_5, .ref q_7, .ref q_9, .ref q_11, .null, .null, .null, .null, .null, .null, .null])), (q_1, .inr (6, [.int (nI 0), .ref z0, .int (nI 0)])), (q_2, .inr (6, [.int (nI 0), .ref z0, .int (nI 0)])), (q_3, .inr (13, [.ref a_4, .int (nI 0)])), wa a_4 cI 0 (fun _ => 0), (q_5, .inr (13, [.ref a_6, .int (nI 0)])), wa a_6 cI 1200 (fun _ => 0), (q_7, .inr (13, [.ref a_8, .int (nI 0)])), wa a_8 cI 1200 (fun _ => 0), (q_9, .inr (13, [.ref a_10, .int (nI 0)])), wa a_10 cI 1200 (fun _ => 0), (q_11, .inr (13, [.ref a_12, .int (nI 0)])), wa a_12 cI 1200 (fun _ => 0)] := hD
  refine lv_aload_n hx hb dX8_init_94 rfl (lv_at hl 0 rfl) ?_
  refine va_new (ci := 13) (fs := [.null, .int (nI 0)]) (C := RX6) (T := TX6) (N := 2) hx hb hts inX8_init_RX6 tyX6 tyX6_ok hown (hts (.classLink RX8 21 RX6) (by decide +kernel)) (hts (.instantiable RX6 2) (by decide +kernel)) (hts (.initialized RX6) (by decide +kernel)) hK hP hD hS hA rfl (fun j hj => by rcases (show j = 0 ∨ j = 1 by omega) with rfl | rfl <;> rfl) (by first | exact Nat.le_of_ble_eq_true rfl | omega | (dsimp only [headSpec]; omega) | (simp only [headSpec]; omega) | omega) (by first | exact Nat.le_of_ble_eq_true rfl | omega | (dsimp only [headSpec]; omega) | (simp only [headSpec]; omega) | omega) dX8_init_95 (fun q_13 H hP hD hS => ?_)
  have hP : va_P (dC, dI) vwCl [(h, .inr (15, [.ref q_1, .ref q_2, .ref q_3, .ref q_5, .ref q_7, .ref q_9, .ref q_11, .null, .null, .null, .null, .null, .null, .null])), (q_1, .inr (6, [.int (nI 0), .ref z0, .int (nI 0)])), (q_2, .inr (6, [.int (nI 0), .ref z0, .int (nI 0)])), (q_3, .inr (13, [.ref a_4, .int (nI 0)])), wa a_4 cI 0 (fun _ => 0), (q_5, .inr (13, [.ref a_6, .int (nI 0)])), wa a_6 cI 1200 (fun _ => 0), (q_7, .inr (13, [.ref a_8, .int (nI 0)])), wa a_8 cI 1200 (fun _ => 0), (q_9, .inr (13, [.ref a_10, .int (nI 0)])), wa a_10 cI 1200 (fun _ => 0), (q_11, .inr (13, [.ref a_12, .int (nI 0)])), wa a_12 cI 1200 (fun _ => 0), (q_13, .inr (13, [.null, .int (nI 0)]))] H := hP
  have hD : va_D A [(h, .inr (15, [.ref q_1, .ref q_2, .ref q_3, .ref q_5, .ref q_7, .ref q_9, .ref q_11, .null, .null, .null, .null, .null, .null, .null])), (q_1, .inr (6, [.int (nI 0), .ref z0, .int (nI 0)])), (q_2, .inr (6, [.int (nI 0), .ref z0, .int (nI 0)])), (q_3, .inr (13, [.ref a_4, .int (nI 0)])), wa a_4 cI 0 (fun _ => 0), (q_5, .inr (13, [.ref a_6, .int (nI 0)])), wa a_6 cI 1200 (fun _ => 0), (q_7, .inr (13, [.ref a_8, .int (nI 0)])), wa a_8 cI 1200 (fun _ => 0), (q_9, .inr (13, [.ref a_10, .int (nI 0)])), wa a_10 cI 1200 (fun _ => 0), (q_11, .inr (13, [.ref a_12, .int (nI 0)])), wa a_12 cI 1200 (fun _ => 0), (q_13, .inr (13, [.null, .int (nI 0)]))] := hD
  refine W.widen (k := 13) (n := 4818) (by first | exact Nat.le_of_ble_eq_true rfl | omega | (dsimp only [headSpec]; omega) | (simp only [headSpec]; omega) | omega) (by first | exact Nat.le_of_ble_eq_true rfl | omega | (dsimp only [headSpec]; omega) | (simp only [headSpec]; omega) | omega) ?_
  refine lv_dup hx hb dX8_init_98 rfl ?_
  refine lv_sipush (v := nI 1200) hx hb dX8_init_99 (by decide) ?_
  have hPc : va_P (dC, dI) vwCl [(q_13, .inr (13, [.null, .int (nI 0)]))] _ := hP.sub [13] rfl
  have hDc : va_D _ [(q_13, .inr (13, [.null, .int (nI 0)]))] := hD.sub [13] (by decide) rfl
  have hFc := va_free (wc := [(q_13, .inr (13, [.null, .int (nI 0)]))]) hD hS hA [13] rfl
  refine va_callv (va_runI (As := [.int (nI 1200)]) (rest := [.ref q_13, .ref h]) ⟨hx, hb, hml, hown, hts⟩ (c_rowinit l dC dI cI cO H.size q_13 1200 (by omega)) (cwI 1 hts ugX8_init_X6_init rfl rfl rfl (hts (.initialized RX6) (by decide +kernel)) (hts (.methodLink RX8 23 yX6_init) (by decide +kernel)) (hts (.instanceMethod yX6_init) (by decide +kernel)) rfl (by decide +kernel) ⟨(by first | exact Nat.le_of_ble_eq_true rfl | omega | (dsimp only [headSpec]; omega) | (simp only [headSpec]; omega) | omega), (by first | exact Nat.le_of_ble_eq_true rfl | omega | (dsimp only [headSpec]; omega) | (simp only [headSpec]; omega) | omega)⟩) ⟨fun a U g mk q => by obtain ⟨q0, q1, qP, qK, qD⟩ := q; exact ⟨q0, q1, qP, va_K.moved (u := U) (U := U.calling g mk a) (Vm.Alike.refl U.vm) qK, qD⟩, fun U hU hW => ⟨rfl, by rw [hU], by rw [hU]; exact hPc, va_K.moved hW.alike hK, hDc.weaken (fun _ _ _ _ => trivial)⟩⟩ rfl rfl hl.1 rfl (lv_room (Nat.le_of_ble_eq_true rfl)) dX8_init_102 ⟨(by first | exact Nat.le_of_ble_eq_true rfl | omega | (dsimp only [headSpec]; omega) | (simp only [headSpec]; omega) | omega), (by first | exact Nat.le_of_ble_eq_true rfl | omega | (dsimp only [headSpec]; omega) | (simp only [headSpec]; omega) | omega)⟩) hS (fun q _ h => hFc q h) hFc (fun u t H locs ht hvm hw hB hz1 hk1 hS => ?_)
  obtain ⟨a_14, hP1, hK1, hD1⟩ := hB
  rw [ht] at hP1
  obtain ⟨hP, hD⟩ := va_join (wr := [(h, .inr (15, [.ref q_1, .ref q_2, .ref q_3, .ref q_5, .ref q_7, .ref q_9, .ref q_11, .null, .null, .null, .null, .null, .null, .null])), (q_1, .inr (6, [.int (nI 0), .ref z0, .int (nI 0)])), (q_2, .inr (6, [.int (nI 0), .ref z0, .int (nI 0)])), (q_3, .inr (13, [.ref a_4, .int (nI 0)])), wa a_4 cI 0 (fun _ => 0), (q_5, .inr (13, [.ref a_6, .int (nI 0)])), wa a_6 cI 1200 (fun _ => 0), (q_7, .inr (13, [.ref a_8, .int (nI 0)])), wa a_8 cI 1200 (fun _ => 0), (q_9, .inr (13, [.ref a_10, .int (nI 0)])), wa a_10 cI 1200 (fun _ => 0), (q_11, .inr (13, [.ref a_12, .int (nI 0)])), wa a_12 cI 1200 (fun _ => 0)]) (w1 := [(q_13, .inr (13, [.ref a_14, .int (nI 0)])), wa a_14 cI 1200 (fun _ => 0)]) hP hD [13] [0, 1, 2, 3, 4, 5, 6, 7, 8, 9, 10, 11, 12] rfl rfl (by decide) (by decide) hk1 hFc hP1 hD1
  have hP : va_P (dC, dI) vwCl [(h, .inr (15, [.ref q_1, .ref q_2, .ref q_3, .ref q_5, .ref q_7, .ref q_9, .ref q_11, .null, .null, .null, .null, .null, .null, .null])), (q_1, .inr (6, [.int (nI 0), .ref z0, .int (nI 0)])), (q_2, .inr (6, [.int (nI 0), .ref z0, .int (nI 0)])), (q_3, .inr (13, [.ref a_4, .int (nI 0)])), wa a_4 cI 0 (fun _ => 0), (q_5, .inr (13, [.ref a_6, .int (nI 0)])), wa a_6 cI 1200 (fun _ => 0), (q_7, .inr (13, [.ref a_8, .int (nI 0)])), wa a_8 cI 1200 (fun _ => 0), (q_9, .inr (13, [.ref a_10, .int (nI 0)])), wa a_10 cI 1200 (fun _ => 0), (q_11, .inr (13, [.ref a_12, .int (nI 0)])), wa a_12 cI 1200 (fun _ => 0), (q_13, .inr (13, [.ref a_14, .int (nI 0)])), wa a_14 cI 1200 (fun _ => 0)] H := hP
  have hD : va_D A [(h, .inr (15, [.ref q_1, .ref q_2, .ref q_3, .ref q_5, .ref q_7, .ref q_9, .ref q_11, .null, .null, .null, .null, .null, .null, .null])), (q_1, .inr (6, [.int (nI 0), .ref z0, .int (nI 0)])), (q_2, .inr (6, [.int (nI 0), .ref z0, .int (nI 0)])), (q_3, .inr (13, [.ref a_4, .int (nI 0)])), wa a_4 cI 0 (fun _ => 0), (q_5, .inr (13, [.ref a_6, .int (nI 0)])), wa a_6 cI 1200 (fun _ => 0), (q_7, .inr (13, [.ref a_8, .int (nI 0)])), wa a_8 cI 1200 (fun _ => 0), (q_9, .inr (13, [.ref a_10, .int (nI 0)])), wa a_10 cI 1200 (fun _ => 0), (q_11, .inr (13, [.ref a_12, .int (nI 0)])), wa a_12 cI 1200 (fun _ => 0), (q_13, .inr (13, [.ref a_14, .int (nI 0)])), wa a_14 cI 1200 (fun _ => 0)] := hD
  refine W.widen (k := 14) (n := 6018) (by first | exact Nat.le_of_ble_eq_true rfl | omega | (dsimp only [headSpec]; omega) | (simp only [headSpec]; omega) | omega) (by first | exact Nat.le_of_ble_eq_true rfl | omega | (dsimp only [headSpec]; omega) | (simp only [headSpec]; omega) | omega) ?_
  refine va_putF (D := (dC, dI)) (ci := 15) (v := .ref q_13) (ty := .object "Patchferry$Row") (C := RX8) (T := TX8) (N := 14) hx hb hts inX8_init_RX8 tyX8 tyX8_ok nmX8 hown hK hP hD hS 0 rfl rfl 7 (by decide) (hts (.fieldLink RX8 42 "Patchferry$Store" "uses" "LPatchferry$Row;") (by decide +kernel)) (fun _ h9 => h9) rfl hin rfl (by decide +kernel) rfl rfl (Nat.le_of_ble_eq_true rfl) dX8_init_105 (fun H locs hP hD hS => ?_)
  have hP : va_P (dC, dI) vwCl [(h, .inr (15, [.ref q_1, .ref q_2, .ref q_3, .ref q_5, .ref q_7, .ref q_9, .ref q_11, .ref q_13, .null, .null, .null, .null, .null, .null])), (q_1, .inr (6, [.int (nI 0), .ref z0, .int (nI 0)])), (q_2, .inr (6, [.int (nI 0), .ref z0, .int (nI 0)])), (q_3, .inr (13, [.ref a_4, .int (nI 0)])), wa a_4 cI 0 (fun _ => 0), (q_5, .inr (13, [.ref a_6, .int (nI 0)])), wa a_6 cI 1200 (fun _ => 0), (q_7, .inr (13, [.ref a_8, .int (nI 0)])), wa a_8 cI 1200 (fun _ => 0), (q_9, .inr (13, [.ref a_10, .int (nI 0)])), wa a_10 cI 1200 (fun _ => 0), (q_11, .inr (13, [.ref a_12, .int (nI 0)])), wa a_12 cI 1200 (fun _ => 0), (q_13, .inr (13, [.ref a_14, .int (nI 0)])), wa a_14 cI 1200 (fun _ => 0)] H := hP
  have hD : va_D A [(h, .inr (15, [.ref q_1, .ref q_2, .ref q_3, .ref q_5, .ref q_7, .ref q_9, .ref q_11, .ref q_13, .null, .null, .null, .null, .null, .null])), (q_1, .inr (6, [.int (nI 0), .ref z0, .int (nI 0)])), (q_2, .inr (6, [.int (nI 0), .ref z0, .int (nI 0)])), (q_3, .inr (13, [.ref a_4, .int (nI 0)])), wa a_4 cI 0 (fun _ => 0), (q_5, .inr (13, [.ref a_6, .int (nI 0)])), wa a_6 cI 1200 (fun _ => 0), (q_7, .inr (13, [.ref a_8, .int (nI 0)])), wa a_8 cI 1200 (fun _ => 0), (q_9, .inr (13, [.ref a_10, .int (nI 0)])), wa a_10 cI 1200 (fun _ => 0), (q_11, .inr (13, [.ref a_12, .int (nI 0)])), wa a_12 cI 1200 (fun _ => 0), (q_13, .inr (13, [.ref a_14, .int (nI 0)])), wa a_14 cI 1200 (fun _ => 0)] := hD
  refine lv_aload_n hx hb dX8_init_108 rfl (lv_at hl 0 rfl) ?_
  refine va_new (ci := 13) (fs := [.null, .int (nI 0)]) (C := RX6) (T := TX6) (N := 2) hx hb hts inX8_init_RX6 tyX6 tyX6_ok hown (hts (.classLink RX8 21 RX6) (by decide +kernel)) (hts (.instantiable RX6 2) (by decide +kernel)) (hts (.initialized RX6) (by decide +kernel)) hK hP hD hS hA rfl (fun j hj => by rcases (show j = 0 ∨ j = 1 by omega) with rfl | rfl <;> rfl) (by first | exact Nat.le_of_ble_eq_true rfl | omega | (dsimp only [headSpec]; omega) | (simp only [headSpec]; omega) | omega) (by first | exact Nat.le_of_ble_eq_true rfl | omega | (dsimp only [headSpec]; omega) | (simp only [headSpec]; omega) | omega) dX8_init_109 (fun q_15 H hP hD hS => ?_)
  have hP : va_P (dC, dI) vwCl [(h, .inr (15, [.ref q_1, .ref q_2, .ref q_3, .ref q_5, .ref q_7, .ref q_9, .ref q_11, .ref q_13, .null, .null, .null, .null, .null, .null])), (q_1, .inr (6, [.int (nI 0), .ref z0, .int (nI 0)])), (q_2, .inr (6, [.int (nI 0), .ref z0, .int (nI 0)])), (q_3, .inr (13, [.ref a_4, .int (nI 0)])), wa a_4 cI 0 (fun _ => 0), (q_5, .inr (13, [.ref a_6, .int (nI 0)])), wa a_6 cI 1200 (fun _ => 0), (q_7, .inr (13, [.ref a_8, .int (nI 0)])), wa a_8 cI 1200 (fun _ => 0), (q_9, .inr (13, [.ref a_10, .int (nI 0)])), wa a_10 cI 1200 (fun _ => 0), (q_11, .inr (13, [.ref a_12, .int (nI 0)])), wa a_12 cI 1200 (fun _ => 0), (q_13, .inr (13, [.ref a_14, .int (nI 0)])), wa a_14 cI 1200 (fun _ => 0), (q_15, .inr (13, [.null, .int (nI 0)]))] H := hP
  have hD : va_D A [(h, .inr (15, [.ref q_1, .ref q_2, .ref q_3, .ref q_5, .ref q_7, .ref q_9, .ref q_11, .ref q_13, .null, .null, .null, .null, .null, .null])), (q_1, .inr (6, [.int (nI 0), .ref z0, .int (nI 0)])), (q_2, .inr (6, [.int (nI 0), .ref z0, .int (nI 0)])), (q_3, .inr (13, [.ref a_4, .int (nI 0)])), wa a_4 cI 0 (fun _ => 0), (q_5, .inr (13, [.ref a_6, .int (nI 0)])), wa a_6 cI 1200 (fun _ => 0), (q_7, .inr (13, [.ref a_8, .int (nI 0)])), wa a_8 cI 1200 (fun _ => 0), (q_9, .inr (13, [.ref a_10, .int (nI 0)])), wa a_10 cI 1200 (fun _ => 0), (q_11, .inr (13, [.ref a_12, .int (nI 0)])), wa a_12 cI 1200 (fun _ => 0), (q_13, .inr (13, [.ref a_14, .int (nI 0)])), wa a_14 cI 1200 (fun _ => 0), (q_15, .inr (13, [.null, .int (nI 0)]))] := hD
  refine W.widen (k := 15) (n := 6020) (by first | exact Nat.le_of_ble_eq_true rfl | omega | (dsimp only [headSpec]; omega) | (simp only [headSpec]; omega) | omega) (by first | exact Nat.le_of_ble_eq_true rfl | omega | (dsimp only [headSpec]; omega) | (simp only [headSpec]; omega) | omega) ?_
  refine lv_dup hx hb dX8_init_112 rfl ?_
  refine lv_sipush (v := nI 1200) hx hb dX8_init_113 (by decide) ?_
  have hPc : va_P (dC, dI) vwCl [(q_15, .inr (13, [.null, .int (nI 0)]))] _ := hP.sub [15] rfl
  have hDc : va_D _ [(q_15, .inr (13, [.null, .int (nI 0)]))] := hD.sub [15] (by decide) rfl
  have hFc := va_free (wc := [(q_15, .inr (13, [.null, .int (nI 0)]))]) hD hS hA [15] rfl
  refine va_callv (va_runI (As := [.int (nI 1200)]) (rest := [.ref q_15, .ref h]) ⟨hx, hb, hml, hown, hts⟩ (c_rowinit l dC dI cI cO H.size q_15 1200 (by omega)) (cwI 1 hts ugX8_init_X6_init rfl rfl rfl (hts (.initialized RX6) (by decide +kernel)) (hts (.methodLink RX8 23 yX6_init) (by decide +kernel)) (hts (.instanceMethod yX6_init) (by decide +kernel)) rfl (by decide +kernel) ⟨(by first | exact Nat.le_of_ble_eq_true rfl | omega | (dsimp only [headSpec]; omega) | (simp only [headSpec]; omega) | omega), (by first | exact Nat.le_of_ble_eq_true rfl | omega | (dsimp only [headSpec]; omega) | (simp only [headSpec]; omega) | omega)⟩) ⟨fun a U g mk q => by obtain ⟨q0, q1, qP, qK, qD⟩ := q; exact ⟨q0, q1, qP, va_K.moved (u := U) (U := U.calling g mk a) (Vm.Alike.refl U.vm) qK, qD⟩, fun U hU hW => ⟨rfl, by rw [hU], by rw [hU]; exact hPc, va_K.moved hW.alike hK, hDc.weaken (fun _ _ _ _ => trivial)⟩⟩ rfl rfl hl.1 rfl (lv_room (Nat.le_of_ble_eq_true rfl)) dX8_init_116 ⟨(by first | exact Nat.le_of_ble_eq_true rfl | omega | (dsimp only [headSpec]; omega) | (simp only [headSpec]; omega) | omega), (by first | exact Nat.le_of_ble_eq_true rfl | omega | (dsimp only [headSpec]; omega) | (simp only [headSpec]; omega) | omega)⟩) hS (fun q _ h => hFc q h) hFc (fun u t H locs ht hvm hw hB hz1 hk1 hS => ?_)
  obtain ⟨a_16, hP1, hK1, hD1⟩ := hB
  rw [ht] at hP1
  obtain ⟨hP, hD⟩ := va_join (wr := [(h, .inr (15, [.ref q_1, .ref q_2, .ref q_3, .ref q_5, .ref q_7, .ref q_9, .ref q_11, .ref q_13, .null, .null, .null, .null, .null, .null])), (q_1, .inr (6, [.int (nI 0), .ref z0, .int (nI 0)])), (q_2, .inr (6, [.int (nI 0), .ref z0, .int (nI 0)])), (q_3, .inr (13, [.ref a_4, .int (nI 0)])), wa a_4 cI 0 (fun _ => 0), (q_5, .inr (13, [.ref a_6, .int (nI 0)])), wa a_6 cI 1200 (fun _ => 0), (q_7, .inr (13, [.ref a_8, .int (nI 0)])), wa a_8 cI 1200 (fun _ => 0), (q_9, .inr (13, [.ref a_10, .int (nI 0)])), wa a_10 cI 1200 (fun _ => 0), (q_11, .inr (13, [.ref a_12, .int (nI 0)])), wa a_12 cI 1200 (fun _ => 0), (q_13, .inr (13, [.ref a_14, .int (nI 0)])), wa a_14 cI 1200 (fun _ => 0)]) (w1 := [(q_15, .inr (13, [.ref a_16, .int (nI 0)])), wa a_16 cI 1200 (fun _ => 0)]) hP hD [15] [0, 1, 2, 3, 4, 5, 6, 7, 8, 9, 10, 11, 12, 13, 14] rfl rfl (by decide) (by decide) hk1 hFc hP1 hD1
  have hP : va_P (dC, dI) vwCl [(h, .inr (15, [.ref q_1, .ref q_2, .ref q_3, .ref q_5, .ref q_7, .ref q_9, .ref q_11, .ref q_13, .null, .null, .null, .null, .null, .null])), (q_1, .inr (6, [.int (nI 0), .ref z0, .int (nI 0)])), (q_2, .inr (6, [.int (nI 0), .ref z0, .int (nI 0)])), (q_3, .inr (13, [.ref a_4, .int (nI 0)])), wa a_4 cI 0 (fun _ => 0), (q_5, .inr (13, [.ref a_6, .int (nI 0)])), wa a_6 cI 1200 (fun _ => 0), (q_7, .inr (13, [.ref a_8, .int (nI 0)])), wa a_8 cI 1200 (fun _ => 0), (q_9, .inr (13, [.ref a_10, .int (nI 0)])), wa a_10 cI 1200 (fun _ => 0), (q_11, .inr (13, [.ref a_12, .int (nI 0)])), wa a_12 cI 1200 (fun _ => 0), (q_13, .inr (13, [.ref a_14, .int (nI 0)])), wa a_14 cI 1200 (fun _ => 0), (q_15, .inr (13, [.ref a_16, .int (nI 0)])), wa a_16 cI 1200 (fun _ => 0)] H := hP
  have hD : va_D A [(h, .inr (15, [.ref q_1, .ref q_2, .ref q_3, .ref q_5, .ref q_7, .ref q_9, .ref q_11, .ref q_13, .null, .null, .null, .null, .null, .null])), (q_1, .inr (6, [.int (nI 0), .ref z0, .int (nI 0)])), (q_2, .inr (6, [.int (nI 0), .ref z0, .int (nI 0)])), (q_3, .inr (13, [.ref a_4, .int (nI 0)])), wa a_4 cI 0 (fun _ => 0), (q_5, .inr (13, [.ref a_6, .int (nI 0)])), wa a_6 cI 1200 (fun _ => 0), (q_7, .inr (13, [.ref a_8, .int (nI 0)])), wa a_8 cI 1200 (fun _ => 0), (q_9, .inr (13, [.ref a_10, .int (nI 0)])), wa a_10 cI 1200 (fun _ => 0), (q_11, .inr (13, [.ref a_12, .int (nI 0)])), wa a_12 cI 1200 (fun _ => 0), (q_13, .inr (13, [.ref a_14, .int (nI 0)])), wa a_14 cI 1200 (fun _ => 0), (q_15, .inr (13, [.ref a_16, .int (nI 0)])), wa a_16 cI 1200 (fun _ => 0)] := hD
  refine W.widen (k := 16) (n := 7220) (by first | exact Nat.le_of_ble_eq_true rfl | omega | (dsimp only [headSpec]; omega) | (simp only [headSpec]; omega) | omega) (by first | exact Nat.le_of_ble_eq_true rfl | omega | (dsimp only [headSpec]; omega) | (simp only [headSpec]; omega) | omega) ?_
  refine va_putF (D := (dC, dI)) (ci := 15) (v := .ref q_15) (ty := .object "Patchferry$Row") (C := RX8) (T := TX8) (N := 14) hx hb hts inX8_init_RX8 tyX8 tyX8_ok nmX8 hown hK hP hD hS 0 rfl rfl 8 (by decide) (hts (.fieldLink RX8 45 "Patchferry$Store" "kept" "LPatchferry$Row;") (by decide +kernel)) (fun _ h9 => h9) rfl hin rfl (by decide +kernel) rfl rfl (Nat.le_of_ble_eq_true rfl) dX8_init_119 (fun H locs hP hD hS => ?_)
  have hP : va_P (dC, dI) vwCl [(h, .inr (15, [.ref q_1, .ref q_2, .ref q_3, .ref q_5, .ref q_7, .ref q_9, .ref q_11, .ref q_13, .ref q_15, .null, .null, .null, .null, .null])), (q_1, .inr (6, [.int (nI 0), .ref z0, .int (nI 0)])), (q_2, .inr (6, [.int (nI 0), .ref z0, .int (nI 0)])), (q_3, .inr (13, [.ref a_4, .int (nI 0)])), wa a_4 cI 0 (fun _ => 0), (q_5, .inr (13, [.ref a_6, .int (nI 0)])), wa a_6 cI 1200 (fun _ => 0), (q_7, .inr (13, [.ref a_8, .int (nI 0)])), wa a_8 cI 1200 (fun _ => 0), (q_9, .inr (13, [.ref a_10, .int (nI 0)])), wa a_10 cI 1200 (fun _ => 0), (q_11, .inr (13, [.ref a_12, .int (nI 0)])), wa a_12 cI 1200 (fun _ => 0), (q_13, .inr (13, [.ref a_14, .int (nI 0)])), wa a_14 cI 1200 (fun _ => 0), (q_15, .inr (13, [.ref a_16, .int (nI 0)])), wa a_16 cI 1200 (fun _ => 0)] H := hP
  have hD : va_D A [(h, .inr (15, [.ref q_1, .ref q_2, .ref q_3, .ref q_5, .ref q_7, .ref q_9, .ref q_11, .ref q_13, .ref q_15, .null, .null, .null, .null, .null])), (q_1, .inr (6, [.int (nI 0), .ref z0, .int (nI 0)])), (q_2, .inr (6, [.int (nI 0), .ref z0, .int (nI 0)])), (q_3, .inr (13, [.ref a_4, .int (nI 0)])), wa a_4 cI 0 (fun _ => 0), (q_5, .inr (13, [.ref a_6, .int (nI 0)])), wa a_6 cI 1200 (fun _ => 0), (q_7, .inr (13, [.ref a_8, .int (nI 0)])), wa a_8 cI 1200 (fun _ => 0), (q_9, .inr (13, [.ref a_10, .int (nI 0)])), wa a_10 cI 1200 (fun _ => 0), (q_11, .inr (13, [.ref a_12, .int (nI 0)])), wa a_12 cI 1200 (fun _ => 0), (q_13, .inr (13, [.ref a_14, .int (nI 0)])), wa a_14 cI 1200 (fun _ => 0), (q_15, .inr (13, [.ref a_16, .int (nI 0)])), wa a_16 cI 1200 (fun _ => 0)] := hD
  refine lv_aload_n hx hb dX8_init_122 rfl (lv_at hl 0 rfl) ?_
  refine va_new (ci := 13) (fs := [.null, .int (nI 0)]) (C := RX6) (T := TX6) (N := 2) hx hb hts inX8_init_RX6 tyX6 tyX6_ok hown (hts (.classLink RX8 21 RX6) (by decide +kernel)) (hts (.instantiable RX6 2) (by decide +kernel)) (hts (.initialized RX6) (by decide +kernel)) hK hP hD hS hA rfl (fun j hj => by rcases (show j = 0 ∨ j = 1 by omega) with rfl | rfl <;> rfl) (by first | exact Nat.le_of_ble_eq_true rfl | omega | (dsimp only [headSpec]; omega) | (simp only [headSpec]; omega) | omega) (by first | exact Nat.le_of_ble_eq_true rfl | omega | (dsimp only [headSpec]; omega) | (simp only [headSpec]; omega) | omega) dX8_init_123 (fun q_17 H hP hD hS => ?_)
  have hP : va_P (dC, dI) vwCl [(h, .inr (15, [.ref q_1, .ref q_2, .ref q_3, .ref q_5, .ref q_7, .ref q_9, .ref q_11, .ref q_13, .ref q_15, .null, .null, .null, .null, .null])), (q_1, .inr (6, [.int (nI 0), .ref z0, .int (nI 0)])), (q_2, .inr (6, [.int (nI 0), .ref z0, .int (nI 0)])), (q_3, .inr (13, [.ref a_4, .int (nI 0)])), wa a_4 cI 0 (fun _ => 0), (q_5, .inr (13, [.ref a_6, .int (nI 0)])), wa a_6 cI 1200 (fun _ => 0), (q_7, .inr (13, [.ref a_8, .int (nI 0)])), wa a_8 cI 1200 (fun _ => 0), (q_9, .inr (13, [.ref a_10, .int (nI 0)])), wa a_10 cI 1200 (fun _ => 0), (q_11, .inr (13, [.ref a_12, .int (nI 0)])), wa a_12 cI 1200 (fun _ => 0), (q_13, .inr (13, [.ref a_14, .int (nI 0)])), wa a_14 cI 1200 (fun _ => 0), (q_15, .inr (13, [.ref a_16, .int (nI 0)])), wa a_16 cI 1200 (fun _ => 0), (q_17, .inr (13, [.null, .int (nI 0)]))] H := hP
  have hD : va_D A [(h, .inr (15, [.ref q_1, .ref q_2, .ref q_3, .ref q_5, .ref q_7, .ref q_9, .ref q_11, .ref q_13, .ref q_15, .null, .null, .null, .null, .null])), (q_1, .inr (6, [.int (nI 0), .ref z0, .int (nI 0)])), (q_2, .inr (6, [.int (nI 0), .ref z0, .int (nI 0)])), (q_3, .inr (13, [.ref a_4, .int (nI 0)])), wa a_4 cI 0 (fun _ => 0), (q_5, .inr (13, [.ref a_6, .int (nI 0)])), wa a_6 cI 1200 (fun _ => 0), (q_7, .inr (13, [.ref a_8, .int (nI 0)])), wa a_8 cI 1200 (fun _ => 0), (q_9, .inr (13, [.ref a_10, .int (nI 0)])), wa a_10 cI 1200 (fun _ => 0), (q_11, .inr (13, [.ref a_12, .int (nI 0)])), wa a_12 cI 1200 (fun _ => 0), (q_13, .inr (13, [.ref a_14, .int (nI 0)])), wa a_14 cI 1200 (fun _ => 0), (q_15, .inr (13, [.ref a_16, .int (nI 0)])), wa a_16 cI 1200 (fun _ => 0), (q_17, .inr (13, [.null, .int (nI 0)]))] := hD
  refine W.widen (k := 17) (n := 7222) (by first | exact Nat.le_of_ble_eq_true rfl | omega | (dsimp only [headSpec]; omega) | (simp only [headSpec]; omega) | omega) (by first | exact Nat.le_of_ble_eq_true rfl | omega | (dsimp only [headSpec]; omega) | (simp only [headSpec]; omega) | omega) ?_
  refine lv_dup hx hb dX8_init_126 rfl ?_
  refine lv_bipush (v := nI 24) hx hb dX8_init_127 (by decide) ?_
  have hPc : va_P (dC, dI) vwCl [(q_17, .inr (13, [.null, .int (nI 0)]))] _ := hP.sub [17] rfl
  have hDc : va_D _ [(q_17, .inr (13, [.null, .int (nI 0)]))] := hD.sub [17] (by decide) rfl
  have hFc := va_free (wc := [(q_17, .inr (13, [.null, .int (nI 0)]))]) hD hS hA [17] rfl
  refine va_callv (va_runI (As := [.int (nI 24)]) (rest := [.ref q_17, .ref h]) ⟨hx, hb, hml, hown, hts⟩ (c_rowinit l dC dI cI cO H.size q_17 24 (by omega)) (cwI 1 hts ugX8_init_X6_init rfl rfl rfl (hts (.initialized RX6) (by decide +kernel)) (hts (.methodLink RX8 23 yX6_init) (by decide +kernel)) (hts (.instanceMethod yX6_init) (by decide +kernel)) rfl (by decide +kernel) ⟨(by first | exact Nat.le_of_ble_eq_true rfl | omega | (dsimp only [headSpec]; omega) | (simp only [headSpec]; omega) | omega), (by first | exact Nat.le_of_ble_eq_true rfl | omega | (dsimp only [headSpec]; omega) | (simp only [headSpec]; omega) | omega)⟩) ⟨fun a U g mk q => by obtain ⟨q0, q1, qP, qK, qD⟩ := q; exact ⟨q0, q1, qP, va_K.moved (u := U) (U := U.calling g mk a) (Vm.Alike.refl U.vm) qK, qD⟩, fun U hU hW => ⟨rfl, by rw [hU], by rw [hU]; exact hPc, va_K.moved hW.alike hK, hDc.weaken (fun _ _ _ _ => trivial)⟩⟩ rfl rfl hl.1 rfl (lv_room (Nat.le_of_ble_eq_true rfl)) dX8_init_129 ⟨(by first | exact Nat.le_of_ble_eq_true rfl | omega | (dsimp only [headSpec]; omega) | (simp only [headSpec]; omega) | omega), (by first | exact Nat.le_of_ble_eq_true rfl | omega | (dsimp only [headSpec]; omega) | (simp only [headSpec]; omega) | omega)⟩) hS (fun q _ h => hFc q h) hFc (fun u t H locs ht hvm hw hB hz1 hk1 hS => ?_)
  obtain ⟨a_18, hP1, hK1, hD1⟩ := hB
  rw [ht] at hP1
  obtain ⟨hP, hD⟩ := va_join (wr := [(h, .inr (15, [.ref q_1, .ref q_2, .ref q_3, .ref q_5, .ref q_7, .ref q_9, .ref q_11, .ref q_13, .ref q_15, .null, .null, .null, .null, .null])), (q_1, .inr (6, [.int (nI 0), .ref z0, .int (nI 0)])), (q_2, .inr (6, [.int (nI 0), .ref z0, .int (nI 0)])), (q_3, .inr (13, [.ref a_4, .int (nI 0)])), wa a_4 cI 0 (fun _ => 0), (q_5, .inr (13, [.ref a_6, .int (nI 0)])), wa a_6 cI 1200 (fun _ => 0), (q_7, .inr (13, [.ref a_8, .int (nI 0)])), wa a_8 cI 1200 (fun _ => 0), (q_9, .inr (13, [.ref a_10, .int (nI 0)])), wa a_10 cI 1200 (fun _ => 0), (q_11, .inr (13, [.ref a_12, .int (nI 0)])), wa a_12 cI 1200 (fun _ => 0), (q_13, .inr (13, [.ref a_14, .int (nI 0)])), wa a_14 cI 1200 (fun _ => 0), (q_15, .inr (13, [.ref a_16, .int (nI 0)])), wa a_16 cI 1200 (fun _ => 0)]) (w1 := [(q_17, .inr (13, [.ref a_18, .int (nI 0)])), wa a_18 cI 24 (fun _ => 0)]) hP hD [17] [0, 1, 2, 3, 4, 5, 6, 7, 8, 9, 10, 11, 12, 13, 14, 15, 16] rfl rfl (by decide) (by decide) hk1 hFc hP1 hD1
  have hP : va_P (dC, dI) vwCl [(h, .inr (15, [.ref q_1, .ref q_2, .ref q_3, .ref q_5, .ref q_7, .ref q_9, .ref q_11, .ref q_13, .ref q_15, .null, .null, .null, .null, .null])), (q_1, .inr (6, [.int (nI 0), .ref z0, .int (nI 0)])), (q_2, .inr (6, [.int (nI 0), .ref z0, .int (nI 0)])), (q_3, .inr (13, [.ref a_4, .int (nI 0)])), wa a_4 cI 0 (fun _ => 0), (q_5, .inr (13, [.ref a_6, .int (nI 0)])), wa a_6 cI 1200 (fun _ => 0), (q_7, .inr (13, [.ref a_8, .int (nI 0)])), wa a_8 cI 1200 (fun _ => 0), (q_9, .inr (13, [.ref a_10, .int (nI 0)])), wa a_10 cI 1200 (fun _ => 0), (q_11, .inr (13, [.ref a_12, .int (nI 0)])), wa a_12 cI 1200 (fun _ => 0), (q_13, .inr (13, [.ref a_14, .int (nI 0)])), wa a_14 cI 1200 (fun _ => 0), (q_15, .inr (13, [.ref a_16, .int (nI 0)])), wa a_16 cI 1200 (fun _ => 0), (q_17, .inr (13, [.ref a_18, .int (nI 0)])), wa a_18 cI 24 (fun _ => 0)] H := hP
  have hD : va_D A [(h, .inr (15, [.ref q_1, .ref q_2, .ref q_3, .ref q_5, .ref q_7, .ref q_9, .ref q_11, .ref q_13, .ref q_15, .null, .null, .null, .null, .null])), (q_1, .inr (6, [.int (nI 0), .ref z0, .int (nI 0)])), (q_2, .inr (6, [.int (nI 0), .ref z0, .int (nI 0)])), (q_3, .inr (13, [.ref a_4, .int (nI 0)])), wa a_4 cI 0 (fun _ => 0), (q_5, .inr (13, [.ref a_6, .int (nI 0)])), wa a_6 cI 1200 (fun _ => 0), (q_7, .inr (13, [.ref a_8, .int (nI 0)])), wa a_8 cI 1200 (fun _ => 0), (q_9, .inr (13, [.ref a_10, .int (nI 0)])), wa a_10 cI 1200 (fun _ => 0), (q_11, .inr (13, [.ref a_12, .int (nI 0)])), wa a_12 cI 1200 (fun _ => 0), (q_13, .inr (13, [.ref a_14, .int (nI 0)])), wa a_14 cI 1200 (fun _ => 0), (q_15, .inr (13, [.ref a_16, .int (nI 0)])), wa a_16 cI 1200 (fun _ => 0), (q_17, .inr (13, [.ref a_18, .int (nI 0)])), wa a_18 cI 24 (fun _ => 0)] := hD
  refine W.widen (k := 18) (n := 7246) (by first | exact Nat.le_of_ble_eq_true rfl | omega | (dsimp only [headSpec]; omega) | (simp only [headSpec]; omega) | omega) (by first | exact Nat.le_of_ble_eq_true rfl | omega | (dsimp only [headSpec]; omega) | (simp only [headSpec]; omega) | omega) ?_
  refine va_putF (D := (dC, dI)) (ci := 15) (v := .ref q_17) (ty := .object "Patchferry$Row") (C := RX8) (T := TX8) (N := 14) hx hb hts inX8_init_RX8 tyX8 tyX8_ok nmX8 hown hK hP hD hS 0 rfl rfl 9 (by decide) (hts (.fieldLink RX8 48 "Patchferry$Store" "isStored" "LPatchferry$Row;") (by decide +kernel)) (fun _ h9 => h9) rfl hin rfl (by decide +kernel) rfl rfl (Nat.le_of_ble_eq_true rfl) dX8_init_132 (fun H locs hP hD hS => ?_)
  have hP : va_P (dC, dI) vwCl [(h, .inr (15, [.ref q_1, .ref q_2, .ref q_3, .ref q_5, .ref q_7, .ref q_9, .ref q_11, .ref q_13, .ref q_15, .ref q_17, .null, .null, .null, .null])), (q_1, .inr (6, [.int (nI 0), .ref z0, .int (nI 0)])), (q_2, .inr (6, [.int (nI 0), .ref z0, .int (nI 0)])), (q_3, .inr (13, [.ref a_4, .int (nI 0)])), wa a_4 cI 0 (fun _ => 0), (q_5, .inr (13, [.ref a_6, .int (nI 0)])), wa a_6 cI 1200 (fun _ => 0), (q_7, .inr (13, [.ref a_8, .int (nI 0)])), wa a_8 cI 1200 (fun _ => 0), (q_9, .inr (13, [.ref a_10, .int (nI 0)])), wa a_10 cI 1200 (fun _ => 0), (q_11, .inr (13, [.ref a_12, .int (nI 0)])), wa a_12 cI 1200 (fun _ => 0), (q_13, .inr (13, [.ref a_14, .int (nI 0)])), wa a_14 cI 1200 (fun _ => 0), (q_15, .inr (13, [.ref a_16, .int (nI 0)])), wa a_16 cI 1200 (fun _ => 0), (q_17, .inr (13, [.ref a_18, .int (nI 0)])), wa a_18 cI 24 (fun _ => 0)] H := hP
  have hD : va_D A [(h, .inr (15, [.ref q_1, .ref q_2, .ref q_3, .ref q_5, .ref q_7, .ref q_9, .ref q_11, .ref q_13, .ref q_15, .ref q_17, .null, .null, .null, .null])), (q_1, .inr (6, [.int (nI 0), .ref z0, .int (nI 0)])), (q_2, .inr (6, [.int (nI 0), .ref z0, .int (nI 0)])), (q_3, .inr (13, [.ref a_4, .int (nI 0)])), wa a_4 cI 0 (fun _ => 0), (q_5, .inr (13, [.ref a_6, .int (nI 0)])), wa a_6 cI 1200 (fun _ => 0), (q_7, .inr (13, [.ref a_8, .int (nI 0)])), wa a_8 cI 1200 (fun _ => 0), (q_9, .inr (13, [.ref a_10, .int (nI 0)])), wa a_10 cI 1200 (fun _ => 0), (q_11, .inr (13, [.ref a_12, .int (nI 0)])), wa a_12 cI 1200 (fun _ => 0), (q_13, .inr (13, [.ref a_14, .int (nI 0)])), wa a_14 cI 1200 (fun _ => 0), (q_15, .inr (13, [.ref a_16, .int (nI 0)])), wa a_16 cI 1200 (fun _ => 0), (q_17, .inr (13, [.ref a_18, .int (nI 0)])), wa a_18 cI 24 (fun _ => 0)] := hD
  refine lv_aload_n hx hb dX8_init_135 rfl (lv_at hl 0 rfl) ?_
  refine va_new (ci := 13) (fs := [.null, .int (nI 0)]) (C := RX6) (T := TX6) (N := 2) hx hb hts inX8_init_RX6 tyX6 tyX6_ok hown (hts (.classLink RX8 21 RX6) (by decide +kernel)) (hts (.instantiable RX6 2) (by decide +kernel)) (hts (.initialized RX6) (by decide +kernel)) hK hP hD hS hA rfl (fun j hj => by rcases (show j = 0 ∨ j = 1 by omega) with rfl | rfl <;> rfl) (by first | exact Nat.le_of_ble_eq_true rfl | omega | (dsimp only [headSpec]; omega) | (simp only [headSpec]; omega) | omega) (by first | exact Nat.le_of_ble_eq_true rfl | omega | (dsimp only [headSpec]; omega) | (simp only [headSpec]; omega) | omega) dX8_init_136 (fun q_19 H hP hD hS => ?_)
  have hP : va_P (dC, dI) vwCl [(h, .inr (15, [.ref q_1, .ref q_2, .ref q_3, .ref q_5, .ref q_7, .ref q_9, .ref q_11, .ref q_13, .ref q_15, .ref q_17, .null, .null, .null, .null])), (q_1, .inr (6, [.int (nI 0), .ref z0, .int (nI 0)])), (q_2, .inr (6, [.int (nI 0), .ref z0, .int (nI 0)])), (q_3, .inr (13, [.ref a_4, .int (nI 0)])), wa a_4 cI 0 (fun _ => 0), (q_5, .inr (13, [.ref a_6, .int (nI 0)])), wa a_6 cI 1200 (fun _ => 0), (q_7, .inr (13, [.ref a_8, .int (nI 0)])), wa a_8 cI 1200 (fun _ => 0), (q_9, .inr (13, [.ref a_10, .int (nI 0)])), wa a_10 cI 1200 (fun _ => 0), (q_11, .inr (13, [.ref a_12, .int (nI 0)])), wa a_12 cI 1200 (fun _ => 0), (q_13, .inr (13, [.ref a_14, .int (nI 0)])), wa a_14 cI 1200 (fun _ => 0), (q_15, .inr (13, [.ref a_16, .int (nI 0)])), wa a_16 cI 1200 (fun _ => 0), (q_17, .inr (13, [.ref a_18, .int (nI 0)])), wa a_18 cI 24 (fun _ => 0), (q_19, .inr (13, [.null, .int (nI 0)]))] H := hP
  have hD : va_D A [(h, .inr (15, [.ref q_1, .ref q_2, .ref q_3, .ref q_5, .ref q_7, .ref q_9, .ref q_11, .ref q_13, .ref q_15, .ref q_17, .null, .null, .null, .null])), (q_1, .inr (6, [.int (nI 0), .ref z0, .int (nI 0)])), (q_2, .inr (6, [.int (nI 0), .ref z0, .int (nI 0)])), (q_3, .inr (13, [.ref a_4, .int (nI 0)])), wa a_4 cI 0 (fun _ => 0), (q_5, .inr (13, [.ref a_6, .int (nI 0)])), wa a_6 cI 1200 (fun _ => 0), (q_7, .inr (13, [.ref a_8, .int (nI 0)])), wa a_8 cI 1200 (fun _ => 0), (q_9, .inr (13, [.ref a_10, .int (nI 0)])), wa a_10 cI 1200 (fun _ => 0), (q_11, .inr (13, [.ref a_12, .int (nI 0)])), wa a_12 cI 1200 (fun _ => 0), (q_13, .inr (13, [.ref a_14, .int (nI 0)])), wa a_14 cI 1200 (fun _ => 0), (q_15, .inr (13, [.ref a_16, .int (nI 0)])), wa a_16 cI 1200 (fun _ => 0), (q_17, .inr (13, [.ref a_18, .int (nI 0)])), wa a_18 cI 24 (fun _ => 0), (q_19, .inr (13, [.null, .int (nI 0)]))] := hD
  refine W.widen (k := 19) (n := 7248) (by first | exact Nat.le_of_ble_eq_true rfl | omega | (dsimp only [headSpec]; omega) | (simp only [headSpec]; omega) | omega) (by first | exact Nat.le_of_ble_eq_true rfl | omega | (dsimp only [headSpec]; omega) | (simp only [headSpec]; omega) | omega) ?_
  refine lv_dup hx hb dX8_init_139 rfl ?_
  refine lv_bipush (v := nI 24) hx hb dX8_init_140 (by decide) ?_
  have hPc : va_P (dC, dI) vwCl [(q_19, .inr (13, [.null, .int (nI 0)]))] _ := hP.sub [19] rfl
  have hDc : va_D _ [(q_19, .inr (13, [.null, .int (nI 0)]))] := hD.sub [19] (by decide) rfl
  have hFc := va_free (wc := [(q_19, .inr (13, [.null, .int (nI 0)]))]) hD hS hA [19] rfl
  refine va_callv (va_runI (As := [.int (nI 24)]) (rest := [.ref q_19, .ref h]) ⟨hx, hb, hml, hown, hts⟩ (c_rowinit l dC dI cI cO H.size q_19 24 (by omega)) (cwI 1 hts ugX8_init_X6_init rfl rfl rfl (hts (.initialized RX6) (by decide +kernel)) (hts (.methodLink RX8 23 yX6_init) (by decide +kernel)) (hts (.instanceMethod yX6_init) (by decide +kernel)) rfl (by decide +kernel) ⟨(by first | exact Nat.le_of_ble_eq_true rfl | omega | (dsimp only [headSpec]; omega) | (simp only [headSpec]; omega) | omega), (by first | exact Nat.le_of_ble_eq_true rfl | omega | (dsimp only [headSpec]; omega) | (simp only [headSpec]; omega) | omega)⟩) ⟨fun a U g mk q => by obtain ⟨q0, q1, qP, qK, qD⟩ := q; exact ⟨q0, q1, qP, va_K.moved (u := U) (U := U.calling g mk a) (Vm.Alike.refl U.vm) qK, qD⟩, fun U hU hW => ⟨rfl, by rw [hU], by rw [hU]; exact hPc, va_K.moved hW.alike hK, hDc.weaken (fun _ _ _ _ => trivial)⟩⟩ rfl rfl hl.1 rfl (lv_room (Nat.le_of_ble_eq_true rfl)) dX8_init_142 ⟨(by first | exact Nat.le_of_ble_eq_true rfl | omega | (dsimp only [headSpec]; omega) | (simp only [headSpec]; omega) | omega), (by first | exact Nat.le_of_ble_eq_true rfl | omega | (dsimp only [headSpec]; omega) | (simp only [headSpec]; omega) | omega)⟩) hS (fun q _ h => hFc q h) hFc (fun u t H locs ht hvm hw hB hz1 hk1 hS => ?_)
  obtain ⟨a_20, hP1, hK1, hD1⟩ := hB
  rw [ht] at hP1
  obtain ⟨hP, hD⟩ := va_join (wr := [(h, .inr (15, [.ref q_1, .ref q_2, .ref q_3, .ref q_5, .ref q_7, .ref q_9, .ref q_11, .ref q_13, .ref q_15, .ref q_17, .null, .null, .null, .null])), (q_1, .inr (6, [.int (nI 0), .ref z0, .int (nI 0)])), (q_2, .inr (6, [.int (nI 0), .ref z0, .int (nI 0)])), (q_3, .inr (13, [.ref a_4, .int (nI 0)])), wa a_4 cI 0 (fun _ => 0), (q_5, .inr (13, [.ref a_6, .int (nI 0)])), wa a_6 cI 1200 (fun _ => 0), (q_7, .inr (13, [.ref a_8, .int (nI 0)])), wa a_8 cI 1200 (fun _ => 0), (q_9, .inr (13, [.ref a_10, .int (nI 0)])), wa a_10 cI 1200 (fun _ => 0), (q_11, .inr (13, [.ref a_12, .int (nI 0)])), wa a_12 cI 1200 (fun _ => 0), (q_13, .inr (13, [.ref a_14, .int (nI 0)])), wa a_14 cI 1200 (fun _ => 0), (q_15, .inr (13, [.ref a_16, .int (nI 0)])), wa a_16 cI 1200 (fun _ => 0), (q_17, .inr (13, [.ref a_18, .int (nI 0)])), wa a_18 cI 24 (fun _ => 0)]) (w1 := [(q_19, .inr (13, [.ref a_20, .int (nI 0)])), wa a_20 cI 24 (fun _ => 0)]) hP hD [19] [0, 1, 2, 3, 4, 5, 6, 7, 8, 9, 10, 11, 12, 13, 14, 15, 16, 17, 18] rfl rfl (by decide) (by decide) hk1 hFc hP1 hD1
  have hP : va_P (dC, dI) vwCl [(h, .inr (15, [.ref q_1, .ref q_2, .ref q_3, .ref q_5, .ref q_7, .ref q_9, .ref q_11, .ref q_13, .ref q_15, .ref q_17, .null, .null, .null, .null])), (q_1, .inr (6, [.int (nI 0), .ref z0, .int (nI 0)])), (q_2, .inr (6, [.int (nI 0), .ref z0, .int (nI 0)])), (q_3, .inr (13, [.ref a_4, .int (nI 0)])), wa a_4 cI 0 (fun _ => 0), (q_5, .inr (13, [.ref a_6, .int (nI 0)])), wa a_6 cI 1200 (fun _ => 0), (q_7, .inr (13, [.ref a_8, .int (nI 0)])), wa a_8 cI 1200 (fun _ => 0), (q_9, .inr (13, [.ref a_10, .int (nI 0)])), wa a_10 cI 1200 (fun _ => 0), (q_11, .inr (13, [.ref a_12, .int (nI 0)])), wa a_12 cI 1200 (fun _ => 0), (q_13, .inr (13, [.ref a_14, .int (nI 0)])), wa a_14 cI 1200 (fun _ => 0), (q_15, .inr (13, [.ref a_16, .int (nI 0)])), wa a_16 cI 1200 (fun _ => 0), (q_17, .inr (13, [.ref a_18, .int (nI 0)])), wa a_18 cI 24 (fun _ => 0), (q_19, .inr (13, [.ref a_20, .int (nI 0)])), wa a_20 cI 24 (fun _ => 0)] H := hP
  have hD : va_D A [(h, .inr (15, [.ref q_1, .ref q_2, .ref q_3, .ref q_5, .ref q_7, .ref q_9, .ref q_11, .ref q_13, .ref q_15, .ref q_17, .null, .null, .null, .null])), (q_1, .inr (6, [.int (nI 0), .ref z0, .int (nI 0)])), (q_2, .inr (6, [.int (nI 0), .ref z0, .int (nI 0)])), (q_3, .inr (13, [.ref a_4, .int (nI 0)])), wa a_4 cI 0 (fun _ => 0), (q_5, .inr (13, [.ref a_6, .int (nI 0)])), wa a_6 cI 1200 (fun _ => 0), (q_7, .inr (13, [.ref a_8, .int (nI 0)])), wa a_8 cI 1200 (fun _ => 0), (q_9, .inr (13, [.ref a_10, .int (nI 0)])), wa a_10 cI 1200 (fun _ => 0), (q_11, .inr (13, [.ref a_12, .int (nI 0)])), wa a_12 cI 1200 (fun _ => 0), (q_13, .inr (13, [.ref a_14, .int (nI 0)])), wa a_14 cI 1200 (fun _ => 0), (q_15, .inr (13, [.ref a_16, .int (nI 0)])), wa a_16 cI 1200 (fun _ => 0), (q_17, .inr (13, [.ref a_18, .int (nI 0)])), wa a_18 cI 24 (fun _ => 0), (q_19, .inr (13, [.ref a_20, .int (nI 0)])), wa a_20 cI 24 (fun _ => 0)] := hD
  refine W.widen (k := 20) (n := 7272) (by first | exact Nat.le_of_ble_eq_true rfl | omega | (dsimp only [headSpec]; omega) | (simp only [headSpec]; omega) | omega) (by first | exact Nat.le_of_ble_eq_true rfl | omega | (dsimp only [headSpec]; omega) | (simp only [headSpec]; omega) | omega) ?_
  refine va_putF (D := (dC, dI)) (ci := 15) (v := .ref q_19) (ty := .object "Patchferry$Row") (C := RX8) (T := TX8) (N := 14) hx hb hts inX8_init_RX8 tyX8 tyX8_ok nmX8 hown hK hP hD hS 0 rfl rfl 10 (by decide) (hts (.fieldLink RX8 51 "Patchferry$Store" "folders" "LPatchferry$Row;") (by decide +kernel)) (fun _ h9 => h9) rfl hin rfl (by decide +kernel) rfl rfl (Nat.le_of_ble_eq_true rfl) dX8_init_145 (fun H locs hP hD hS => ?_)
  have hP : va_P (dC, dI) vwCl [(h, .inr (15, [.ref q_1, .ref q_2, .ref q_3, .ref q_5, .ref q_7, .ref q_9, .ref q_11, .ref q_13, .ref q_15, .ref q_17, .ref q_19, .null, .null, .null])), (q_1, .inr (6, [.int (nI 0), .ref z0, .int (nI 0)])), (q_2, .inr (6, [.int (nI 0), .ref z0, .int (nI 0)])), (q_3, .inr (13, [.ref a_4, .int (nI 0)])), wa a_4 cI 0 (fun _ => 0), (q_5, .inr (13, [.ref a_6, .int (nI 0)])), wa a_6 cI 1200 (fun _ => 0), (q_7, .inr (13, [.ref a_8, .int (nI 0)])), wa a_8 cI 1200 (fun _ => 0), (q_9, .inr (13, [.ref a_10, .int (nI 0)])), wa a_10 cI 1200 (fun _ => 0), (q_11, .inr (13, [.ref a_12, .int (nI 0)])), wa a_12 cI 1200 (fun _ => 0), (q_13, .inr (13, [.ref a_14, .int (nI 0)])), wa a_14 cI 1200 (fun _ => 0), (q_15, .inr (13, [.ref a_16, .int (nI 0)])), wa a_16 cI 1200 (fun _ => 0), (q_17, .inr (13, [.ref a_18, .int (nI 0)])), wa a_18 cI 24 (fun _ => 0), (q_19, .inr (13, [.ref a_20, .int (nI 0)])), wa a_20 cI 24 (fun _ => 0)] H := hP
  have hD : va_D A [(h, .inr (15, [.ref q_1, .ref q_2, .ref q_3, .ref q_5, .ref q_7, .ref q_9, .ref q_11, .ref q_13, .ref q_15, .ref q_17, .ref q_19, .null, .null, .null])), (q_1, .inr (6, [.int (nI 0), .ref z0, .int (nI 0)])), (q_2, .inr (6, [.int (nI 0), .ref z0, .int (nI 0)])), (q_3, .inr (13, [.ref a_4, .int (nI 0)])), wa a_4 cI 0 (fun _ => 0), (q_5, .inr (13, [.ref a_6, .int (nI 0)])), wa a_6 cI 1200 (fun _ => 0), (q_7, .inr (13, [.ref a_8, .int (nI 0)])), wa a_8 cI 1200 (fun _ => 0), (q_9, .inr (13, [.ref a_10, .int (nI 0)])), wa a_10 cI 1200 (fun _ => 0), (q_11, .inr (13, [.ref a_12, .int (nI 0)])), wa a_12 cI 1200 (fun _ => 0), (q_13, .inr (13, [.ref a_14, .int (nI 0)])), wa a_14 cI 1200 (fun _ => 0), (q_15, .inr (13, [.ref a_16, .int (nI 0)])), wa a_16 cI 1200 (fun _ => 0), (q_17, .inr (13, [.ref a_18, .int (nI 0)])), wa a_18 cI 24 (fun _ => 0), (q_19, .inr (13, [.ref a_20, .int (nI 0)])), wa a_20 cI 24 (fun _ => 0)] := hD
  refine lv_aload_n hx hb dX8_init_148 rfl (lv_at hl 0 rfl) ?_
  refine va_new (ci := 13) (fs := [.null, .int (nI 0)]) (C := RX6) (T := TX6) (N := 2) hx hb hts inX8_init_RX6 tyX6 tyX6_ok hown (hts (.classLink RX8 21 RX6) (by decide +kernel)) (hts (.instantiable RX6 2) (by decide +kernel)) (hts (.initialized RX6) (by decide +kernel)) hK hP hD hS hA rfl (fun j hj => by rcases (show j = 0 ∨ j = 1 by omega) with rfl | rfl <;> rfl) (by first | exact Nat.le_of_ble_eq_true rfl | omega | (dsimp only [headSpec]; omega) | (simp only [headSpec]; omega) | omega) (by first | exact Nat.le_of_ble_eq_true rfl | omega | (dsimp only [headSpec]; omega) | (simp only [headSpec]; omega) | omega) dX8_init_149 (fun q_21 H hP hD hS => ?_)
  have hP : va_P (dC, dI) vwCl [(h, .inr (15, [.ref q_1, .ref q_2, .ref q_3, .ref q_5, .ref q_7, .ref q_9, .ref q_11, .ref q_13, .ref q_15, .ref q_17, .ref q_19, .null, .null, .null])), (q_1, .inr (6, [.int (nI 0), .ref z0, .int (nI 0)])), (q_2, .inr (6, [.int (nI 0), .ref z0, .int (nI 0)])), (q_3, .inr (13, [.ref a_4, .int (nI 0)])), wa a_4 cI 0 (fun _ => 0), (q_5, .inr (13, [.ref a_6, .int (nI 0)])), wa a_6 cI 1200 (fun _ => 0), (q_7, .inr (13, [.ref a_8, .int (nI 0)])), wa a_8 cI 1200 (fun _ => 0), (q_9, .inr (13, [.ref a_10, .int (nI 0)])), wa a_10 cI 1200 (fun _ => 0), (q_11, .inr (13, [.ref a_12, .int (nI 0)])), wa a_12 cI 1200 (fun _ => 0), (q_13, .inr (13, [.ref a_14, .int (nI 0)])), wa a_14 cI 1200 (fun _ => 0), (q_15, .inr (13, [.ref a_16, .int (nI 0)])), wa a_16 cI 1200 (fun _ => 0), (q_17, .inr (13, [.ref a_18, .int (nI 0)])), wa a_18 cI 24 (fun _ => 0), (q_19, .inr (13, [.ref a_20, .int (nI 0)])), wa a_20 cI 24 (fun _ => 0), (q_21, .inr (13, [.null, .int (nI 0)]))] H := hP
  have hD : va_D A [(h, .inr (15, [.ref q_1, .ref q_2, .ref q_3, .ref q_5, .ref q_7, .ref q_9, .ref q_11, .ref q_13, .ref q_15, .ref q_17, .ref q_19, .null, .null, .null])), (q_1, .inr (6, [.int (nI 0), .ref z0, .int (nI 0)])), (q_2, .inr (6, [.int (nI 0), .ref z0, .int (nI 0)])), (q_3, .inr (13, [.ref a_4, .int (nI 0)])), wa a_4 cI 0 (fun _ => 0), (q_5, .inr (13, [.ref a_6, .int (nI 0)])), wa a_6 cI 1200 (fun _ => 0), (q_7, .inr (13, [.ref a_8, .int (nI 0)])), wa a_8 cI 1200 (fun _ => 0), (q_9, .inr (13, [.ref a_10, .int (nI 0)])), wa a_10 cI 1200 (fun _ => 0), (q_11, .inr (13, [.ref a_12, .int (nI 0)])), wa a_12 cI 1200 (fun _ => 0), (q_13, .inr (13, [.ref a_14, .int (nI 0)])), wa a_14 cI 1200 (fun _ => 0), (q_15, .inr (13, [.ref a_16, .int (nI 0)])), wa a_16 cI 1200 (fun _ => 0), (q_17, .inr (13, [.ref a_18, .int (nI 0)])), wa a_18 cI 24 (fun _ => 0), (q_19, .inr (13, [.ref a_20, .int (nI 0)])), wa a_20 cI 24 (fun _ => 0), (q_21, .inr (13, [.null, .int (nI 0)]))] := hD
  refine W.widen (k := 21) (n := 7274) (by first | exact Nat.le_of_ble_eq_true rfl | omega | (dsimp only [headSpec]; omega) | (simp only [headSpec]; omega) | omega) (by first | exact Nat.le_of_ble_eq_true rfl | omega | (dsimp only [headSpec]; omega) | (simp only [headSpec]; omega) | omega) ?_
  refine lv_dup hx hb dX8_init_152 rfl ?_
  refine lv_sipush (v := nI 200) hx hb dX8_init_153 (by decide) ?_
  have hPc : va_P (dC, dI) vwCl [(q_21, .inr (13, [.null, .int (nI 0)]))] _ := hP.sub [21] rfl
  have hDc : va_D _ [(q_21, .inr (13, [.null, .int (nI 0)]))] := hD.sub [21] (by decide) rfl
  have hFc := va_free (wc := [(q_21, .inr (13, [.null, .int (nI 0)]))]) hD hS hA [21] rfl
  refine va_callv (va_runI (As := [.int (nI 200)]) (rest := [.ref q_21, .ref h]) ⟨hx, hb, hml, hown, hts⟩ (c_rowinit l dC dI cI cO H.size q_21 200 (by omega)) (cwI 1 hts ugX8_init_X6_init rfl rfl rfl (hts (.initialized RX6) (by decide +kernel)) (hts (.methodLink RX8 23 yX6_init) (by decide +kernel)) (hts (.instanceMethod yX6_init) (by decide +kernel)) rfl (by decide +kernel) ⟨(by first | exact Nat.le_of_ble_eq_true rfl | omega | (dsimp only [headSpec]; omega) | (simp only [headSpec]; omega) | omega), (by first | exact Nat.le_of_ble_eq_true rfl | omega | (dsimp only [headSpec]; omega) | (simp only [headSpec]; omega) | omega)⟩) ⟨fun a U g mk q => by obtain ⟨q0, q1, qP, qK, qD⟩ := q; exact ⟨q0, q1, qP, va_K.moved (u := U) (U := U.calling g mk a) (Vm.Alike.refl U.vm) qK, qD⟩, fun U hU hW => ⟨rfl, by rw [hU], by rw [hU]; exact hPc, va_K.moved hW.alike hK, hDc.weaken (fun _ _ _ _ => trivial)⟩⟩ rfl rfl hl.1 rfl (lv_room (Nat.le_of_ble_eq_true rfl)) dX8_init_156 ⟨(by first | exact Nat.le_of_ble_eq_true rfl | omega | (dsimp only [headSpec]; omega) | (simp only [headSpec]; omega) | omega), (by first | exact Nat.le_of_ble_eq_true rfl | omega | (dsimp only [headSpec]; omega) | (simp only [headSpec]; omega) | omega)⟩) hS (fun q _ h => hFc q h) hFc (fun u t H locs ht hvm hw hB hz1 hk1 hS => ?_)
  obtain ⟨a_22, hP1, hK1, hD1⟩ := hB
  rw [ht] at hP1
  obtain ⟨hP, hD⟩ := va_join (wr := [(h, .inr (15, [.ref q_1, .ref q_2, .ref q_3, .ref q_5, .ref q_7, .ref q_9, .ref q_11, .ref q_13, .ref q_15, .ref q_17, .ref q_19, .null, .null, .null])), (q_1, .inr (6, [.int (nI 0), .ref z0, .int (nI 0)])), (q_2, .inr (6, [.int (nI 0), .ref z0, .int (nI 0)])), (q_3, .inr (13, [.ref a_4, .int (nI 0)])), wa a_4 cI 0 (fun _ => 0), (q_5, .inr (13, [.ref a_6, .int (nI 0)])), wa a_6 cI 1200 (fun _ => 0), (q_7, .inr (13, [.ref a_8, .int (nI 0)])), wa a_8 cI 1200 (fun _ => 0), (q_9, .inr (13, [.ref a_10, .int (nI 0)])), wa a_10 cI 1200 (fun _ => 0), (q_11, .inr (13, [.ref a_12, .int (nI 0)])), wa a_12 cI 1200 (fun _ => 0), (q_13, .inr (13, [.ref a_14, .int (nI 0)])), wa a_14 cI 1200 (fun _ => 0), (q_15, .inr (13, [.ref a_16, .int (nI 0)])), wa a_16 cI 1200 (fun _ => 0), (q_17, .inr (13, [.ref a_18, .int (nI 0)])), wa a_18 cI 24 (fun _ => 0), (q_19, .inr (13, [.ref a_20, .int (nI 0)])), wa a_20 cI 24 (fun _ => 0)]) (w1 := [(q_21, .inr (13, [.ref a_22, .int (nI 0)])), wa a_22 cI 200 (fun _ => 0)]) hP hD [21] [0, 1, 2, 3, 4, 5, 6, 7, 8, 9, 10, 11, 12, 13, 14, 15, 16, 17, 18, 19, 20] rfl rfl (by decide) (by decide) hk1 hFc hP1 hD1
  have hP : va_P (dC, dI) vwCl [(h, .inr (15, [.ref q_1, .ref q_2, .ref q_3, .ref q_5, .ref q_7, .ref q_9, .ref q_11, .ref q_13, .ref q_15, .ref q_17, .ref q_19, .null, .null, .null])), (q_1, .inr (6, [.int (nI 0), .ref z0, .int (nI 0)])), (q_2, .inr (6, [.int (nI 0), .ref z0, .int (nI 0)])), (q_3, .inr (13, [.ref a_4, .int (nI 0)])), wa a_4 cI 0 (fun _ => 0), (q_5, .inr (13, [.ref a_6, .int (nI 0)])), wa a_6 cI 1200 (fun _ => 0), (q_7, .inr (13, [.ref a_8, .int (nI 0)])), wa a_8 cI 1200 (fun _ => 0), (q_9, .inr (13, [.ref a_10, .int (nI 0)])), wa a_10 cI 1200 (fun _ => 0), (q_11, .inr (13, [.ref a_12, .int (nI 0)])), wa a_12 cI 1200 (fun _ => 0), (q_13, .inr (13, [.ref a_14, .int (nI 0)])), wa a_14 cI 1200 (fun _ => 0), (q_15, .inr (13, [.ref a_16, .int (nI 0)])), wa a_16 cI 1200 (fun _ => 0), (q_17, .inr (13, [.ref a_18, .int (nI 0)])), wa a_18 cI 24 (fun _ => 0), (q_19, .inr (13, [.ref a_20, .int (nI 0)])), wa a_20 cI 24 (fun _ => 0), (q_21, .inr (13, [.ref a_22, .int (nI 0)])), wa a_22 cI 200 (fun _ => 0)] H := hP
  have hD : va_D A [(h, .inr (15, [.ref q_1, .ref q_2, .ref q_3, .ref q_5, .ref q_7, .ref q_9, .ref q_11, .ref q_13, .ref q_15, .ref q_17, .ref q_19, .null, .null, .null])), (q_1, .inr (6, [.int (nI 0), .ref z0, .int (nI 0)])), (q_2, .inr (6, [.int (nI 0), .ref z0, .int (nI 0)])), (q_3, .inr (13, [.ref a_4, .int (nI 0)])), wa a_4 cI 0 (fun _ => 0), (q_5, .inr (13, [.ref a_6, .int (nI 0)])), wa a_6 cI 1200 (fun _ => 0), (q_7, .inr (13, [.ref a_8, .int (nI 0)])), wa a_8 cI 1200 (fun _ => 0), (q_9, .inr (13, [.ref a_10, .int (nI 0)])), wa a_10 cI 1200 (fun _ => 0), (q_11, .inr (13, [.ref a_12, .int (nI 0)])), wa a_12 cI 1200 (fun _ => 0), (q_13, .inr (13, [.ref a_14, .int (nI 0)])), wa a_14 cI 1200 (fun _ => 0), (q_15, .inr (13, [.ref a_16, .int (nI 0)])), wa a_16 cI 1200 (fun _ => 0), (q_17, .inr (13, [.ref a_18, .int (nI 0)])), wa a_18 cI 24 (fun _ => 0), (q_19, .inr (13, [.ref a_20, .int (nI 0)])), wa a_20 cI 24 (fun _ => 0), (q_21, .inr (13, [.ref a_22, .int (nI 0)])), wa a_22 cI 200 (fun _ => 0)] := hD
  refine W.widen (k := 22) (n := 7474) (by first | exact Nat.le_of_ble_eq_true rfl | omega | (dsimp only [headSpec]; omega) | (simp only [headSpec]; omega) | omega) (by first | exact Nat.le_of_ble_eq_true rfl | omega | (dsimp only [headSpec]; omega) | (simp only [headSpec]; omega) | omega) ?_
  refine va_putF (D := (dC, dI)) (ci := 15) (v := .ref q_21) (ty := .object "Patchferry$Row") (C := RX8) (T := TX8) (N := 14) hx hb hts inX8_init_RX8 tyX8 tyX8_ok nmX8 hown hK hP hD hS 0 rfl rfl 11 (by decide) (hts (.fieldLink RX8 54 "Patchferry$Store" "numbers" "LPatchferry$Row;") (by decide +kernel)) (fun _ h9 => h9) rfl hin rfl (by decide +kernel) rfl rfl (Nat.le_of_ble_eq_true rfl) dX8_init_159 (fun H locs hP hD hS => ?_)
  have hP : va_P (dC, dI) vwCl [(h, .inr (15, [.ref q_1, .ref q_2, .ref q_3, .ref q_5, .ref q_7, .ref q_9, .ref q_11, .ref q_13, .ref q_15, .ref q_17, .ref q_19, .ref q_21, .null, .null])), (q_1, .inr (6, [.int (nI 0), .ref z0, .int (nI 0)])), (q_2, .inr (6, [.int (nI 0), .ref z0, .int (nI 0)])), (q_3, .inr (13, [.ref a_4, .int (nI 0)])), wa a_4 cI 0 (fun _ => 0), (q_5, .inr (13, [.ref a_6, .int (nI 0)])), wa a_6 cI 1200 (fun _ => 0), (q_7, .inr (13, [.ref a_8, .int (nI 0)])), wa a_8 cI 1200 (fun _ => 0), (q_9, .inr (13, [.ref a_10, .int (nI 0)])), wa a_10 cI 1200 (fun _ => 0), (q_11, .inr (13, [.ref a_12, .int (nI 0)])), wa a_12 cI 1200 (fun _ => 0), (q_13, .inr (13, [.ref a_14, .int (nI 0)])), wa a_14 cI 1200 (fun _ => 0), (q_15, .inr (13, [.ref a_16, .int (nI 0)])), wa a_16 cI 1200 (fun _ => 0), (q_17, .inr (13, [.ref a_18, .int (nI 0)])), wa a_18 cI 24 (fun _ => 0), (q_19, .inr (13, [.ref a_20, .int (nI 0)])), wa a_20 cI 24 (fun _ => 0), (q_21, .inr (13, [.ref a_22, .int (nI 0)])), wa a_22 cI 200 (fun _ => 0)] H := hP
  have hD : va_D A [(h, .inr (15, [.ref q_1, .ref q_2, .ref q_3, .ref q_5, .ref q_7, .ref q_9, .ref q_11, .ref q_13, .ref q_15, .ref q_17, .ref q_19, .ref q_21, .null, .null])), (q_1, .inr (6, [.int (nI 0), .ref z0, .int (nI 0)])), (q_2, .inr (6, [.int (nI 0), .ref z0, .int (nI 0)])), (q_3, .inr (13, [.ref a_4, .int (nI 0)])), wa a_4 cI 0 (fun _ => 0), (q_5, .inr (13, [.ref a_6, .int (nI 0)])), wa a_6 cI 1200 (fun _ => 0), (q_7, .inr (13, [.ref a_8, .int (nI 0)])), wa a_8 cI 1200 (fun _ => 0), (q_9, .inr (13, [.ref a_10, .int (nI 0)])), wa a_10 cI 1200 (fun _ => 0), (q_11, .inr (13, [.ref a_12, .int (nI 0)])), wa a_12 cI 1200 (fun _ => 0), (q_13, .inr (13, [.ref a_14, .int (nI 0)])), wa a_14 cI 1200 (fun _ => 0), (q_15, .inr (13, [.ref a_16, .int (nI 0)])), wa a_16 cI 1200 (fun _ => 0), (q_17, .inr (13, [.ref a_18, .int (nI 0)])), wa a_18 cI 24 (fun _ => 0), (q_19, .inr (13, [.ref a_20, .int (nI 0)])), wa a_20 cI 24 (fun _ => 0), (q_21, .inr (13, [.ref a_22, .int (nI 0)])), wa a_22 cI 200 (fun _ => 0)] := hD
  refine lv_aload_n hx hb dX8_init_162 rfl (lv_at hl 0 rfl) ?_
  refine va_new (ci := 13) (fs := [.null, .int (nI 0)]) (C := RX6) (T := TX6) (N := 2) hx hb hts inX8_init_RX6 tyX6 tyX6_ok hown (hts (.classLink RX8 21 RX6) (by decide +kernel)) (hts (.instantiable RX6 2) (by decide +kernel)) (hts (.initialized RX6) (by decide +kernel)) hK hP hD hS hA rfl (fun j hj => by rcases (show j = 0 ∨ j = 1 by omega) with rfl | rfl <;> rfl) (by first | exact Nat.le_of_ble_eq_true rfl | omega | (dsimp only [headSpec]; omega) | (simp only [headSpec]; omega) | omega) (by first | exact Nat.le_of_ble_eq_true rfl | omega | (dsimp only [headSpec]; omega) | (simp only [headSpec]; omega) | omega) dX8_init_163 (fun q_23 H hP hD hS => ?_)
  have hP : va_P (dC, dI) vwCl [(h, .inr (15, [.ref q_1, .ref q_2, .ref q_3, .ref q_5, .ref q_7, .ref q_9, .ref q_11, .ref q_13, .ref q_15, .ref q_17, .ref q_19, .ref q_21, .null, .null])), (q_1, .inr (6, [.int (nI 0), .ref z0, .int (nI 0)])), (q_2, .inr (6, [.int (nI 0), .ref z0, .int (nI 0)])), (q_3, .inr (13, [.ref a_4, .int (nI 0)])), wa a_4 cI 0 (fun _ => 0), (q_5, .inr (13, [.ref a_6, .int (nI 0)])), wa a_6 cI 1200 (fun _ => 0), (q_7, .inr (13, [.ref a_8, .int (nI 0)])), wa a_8 cI 1200 (fun _ => 0), (q_9, .inr (13, [.ref a_10, .int (nI 0)])), wa a_10 cI 1200 (fun _ => 0), (q_11, .inr (13, [.ref a_12, .int (nI 0)])), wa a_12 cI 1200 (fun _ => 0), (q_13, .inr (13, [.ref a_14, .int (nI 0)])), wa a_14 cI 1200 (fun _ => 0), (q_15, .inr (13, [.ref a_16, .int (nI 0)])), wa a_16 cI 1200 (fun _ => 0), (q_17, .inr (13, [.ref a_18, .int (nI 0)])), wa a_18 cI 24 (fun _ => 0), (q_19, .inr (13, [.ref a_20, .int (nI 0)])), wa a_20 cI 24 (fun _ => 0), (q_21, .inr (13, [.ref a_22, .int (nI 0)])), wa a_22 cI 200 (fun _ => 0), (q_23, .inr (13, [.null, .int (nI 0)]))] H := hP
  have hD : va_D A [(h, .inr (15, [.ref q_1, .ref q_2, .ref q_3, .ref q_5, .ref q_7, .ref q_9, .ref q_11, .ref q_13, .ref q_15, .ref q_17, .ref q_19, .ref q_21, .null, .null])), (q_1, .inr (6, [.int (nI 0), .ref z0, .int (nI 0)])), (q_2, .inr (6, [.int (nI 0), .ref z0, .int (nI 0)])), (q_3, .inr (13, [.ref a_4, .int (nI 0)])), wa a_4 cI 0 (fun _ => 0), (q_5, .inr (13, [.ref a_6, .int (nI 0)])), wa a_6 cI 1200 (fun _ => 0), (q_7, .inr (13, [.ref a_8, .int (nI 0)])), wa a_8 cI 1200 (fun _ => 0), (q_9, .inr (13, [.ref a_10, .int (nI 0)])), wa a_10 cI 1200 (fun _ => 0), (q_11, .inr (13, [.ref a_12, .int (nI 0)])), wa a_12 cI 1200 (fun _ => 0), (q_13, .inr (13, [.ref a_14, .int (nI 0)])), wa a_14 cI 1200 (fun _ => 0), (q_15, .inr (13, [.ref a_16, .int (nI 0)])), wa a_16 cI 1200 (fun _ => 0), (q_17, .inr (13, [.ref a_18, .int (nI 0)])), wa a_18 cI 24 (fun _ => 0), (q_19, .inr (13, [.ref a_20, .int (nI 0)])), wa a_20 cI 24 (fun _ => 0), (q_21, .inr (13, [.ref a_22, .int (nI 0)])), wa a_22 cI 200 (fun _ => 0), (q_23, .inr (13, [.null, .int (nI 0)]))] := hD
  refine W.widen (k := 23) (n := 7476) (by first | exact Nat.le_of_ble_eq_true rfl | omega | (dsimp only [headSpec]; omega) | (simp only [headSpec]; omega) | omega) (by first | exact Nat.le_of_ble_eq_true rfl | omega | (dsimp only [headSpec]; omega) | (simp only [headSpec]; omega) | omega) ?_
  refine lv_dup hx hb dX8_init_166 rfl ?_
  refine lv_sipush (v := nI 1200) hx hb dX8_init_167 (by decide) ?_
  have hPc : va_P (dC, dI) vwCl [(q_23, .inr (13, [.null, .int (nI 0)]))] _ := hP.sub [23] rfl
  have hDc : va_D _ [(q_23, .inr (13, [.null, .int (nI 0)]))] := hD.sub [23] (by decide) rfl
  have hFc := va_free (wc := [(q_23, .inr (13, [.null, .int (nI 0)]))]) hD hS hA [23] rfl
  refine va_callv (va_runI (As := [.int (nI 1200)]) (rest := [.ref q_23, .ref h]) ⟨hx, hb, hml, hown, hts⟩ (c_rowinit l dC dI cI cO H.size q_23 1200 (by omega)) (cwI 1 hts ugX8_init_X6_init rfl rfl rfl (hts (.initialized RX6) (by decide +kernel)) (hts (.methodLink RX8 23 yX6_init) (by decide +kernel)) (hts (.instanceMethod yX6_init) (by decide +kernel)) rfl (by decide +kernel) ⟨(by first | exact Nat.le_of_ble_eq_true rfl | omega | (dsimp only [headSpec]; omega) | (simp only [headSpec]; omega) | omega), (by first | exact Nat.le_of_ble_eq_true rfl | omega | (dsimp only [headSpec]; omega) | (simp only [headSpec]; omega) | omega)⟩) ⟨fun a U g mk q => by obtain ⟨q0, q1, qP, qK, qD⟩ := q; exact ⟨q0, q1, qP, va_K.moved (u := U) (U := U.calling g mk a) (Vm.Alike.refl U.vm) qK, qD⟩, fun U hU hW => ⟨rfl, by rw [hU], by rw [hU]; exact hPc, va_K.moved hW.alike hK, hDc.weaken (fun _ _ _ _ => trivial)⟩⟩ rfl rfl hl.1 rfl (lv_room (Nat.le_of_ble_eq_true rfl)) dX8_init_170 ⟨(by first | exact Nat.le_of_ble_eq_true rfl | omega | (dsimp only [headSpec]; omega) | (simp only [headSpec]; omega) | omega), (by first | exact Nat.le_of_ble_eq_true rfl | omega | (dsimp only [headSpec]; omega) | (simp only [headSpec]; omega) | omega)⟩) hS (fun q _ h => hFc q h) hFc (fun u t H locs ht hvm hw hB hz1 hk1 hS => ?_)
  obtain ⟨a_24, hP1, hK1, hD1⟩ := hB
  rw [ht] at hP1
  obtain ⟨hP, hD⟩ := va_join (wr := [(h, .inr (15, [.ref q_1, .ref q_2, .ref q_3, .ref q_5, .ref q_7, .ref q_9, .ref q_11, .ref q_13, .ref q_15, .ref q_17, .ref q_19, .ref q_21, .null, .null])), (q_1, .inr (6, [.int (nI 0), .ref z0, .int (nI 0)])), (q_2, .inr (6, [.int (nI 0), .ref z0, .int (nI 0)])), (q_3, .inr (13, [.ref a_4, .int (nI 0)])), wa a_4 cI 0 (fun _ => 0), (q_5, .inr (13, [.ref a_6, .int (nI 0)])), wa a_6 cI 1200 (fun _ => 0), (q_7, .inr (13, [.ref a_8, .int (nI 0)])), wa a_8 cI 1200 (fun _ => 0), (q_9, .inr (13, [.ref a_10, .int (nI 0)])), wa a_10 cI 1200 (fun _ => 0), (q_11, .inr (13, [.ref a_12, .int (nI 0)])), wa a_12 cI 1200 (fun _ => 0), (q_13, .inr (13, [.ref a_14, .int (nI 0)])), wa a_14 cI 1200 (fun _ => 0), (q_15, .inr (13, [.ref a_16, .int (nI 0)])), wa a_16 cI 1200 (fun _ => 0), (q_17, .inr (13, [.ref a_18, .int (nI 0)])), wa a_18 cI 24 (fun _ => 0), (q_19, .inr (13, [.ref a_20, .int (nI 0)])), wa a_20 cI 24 (fun _ => 0), (q_21, .inr (13, [.ref a_22, .int (nI 0)])), wa a_22 cI 200 (fun _ => 0)]) (w1 := [(q_23, .inr (13, [.ref a_24, .int (nI 0)])), wa a_24 cI 1200 (fun _ => 0)]) hP hD [23] [0, 1, 2, 3, 4, 5, 6, 7, 8, 9, 10, 11, 12, 13, 14, 15, 16, 17, 18, 19, 20, 21, 22] rfl rfl (by decide) (by decide) hk1 hFc hP1 hD1
  have hP : va_P (dC, dI) vwCl [(h, .inr (15, [.ref q_1, .ref q_2, .ref q_3, .ref q_5, .ref q_7, .ref q_9, .ref q_11, .ref q_13, .ref q_15, .ref q_17, .ref q_19, .ref q_21, .null, .null])), (q_1, .inr (6, [.int (nI 0), .ref z0, .int (nI 0)])), (q_2, .inr (6, [.int (nI 0), .ref z0, .int (nI 0)])), (q_3, .inr (13, [.ref a_4, .int (nI 0)])), wa a_4 cI 0 (fun _ => 0), (q_5, .inr (13, [.ref a_6, .int (nI 0)])), wa a_6 cI 1200 (fun _ => 0), (q_7, .inr (13, [.ref a_8, .int (nI 0)])), wa a_8 cI 1200 (fun _ => 0), (q_9, .inr (13, [.ref a_10, .int (nI 0)])), wa a_10 cI 1200 (fun _ => 0), (q_11, .inr (13, [.ref a_12, .int (nI 0)])), wa a_12 cI 1200 (fun _ => 0), (q_13, .inr (13, [.ref a_14, .int (nI 0)])), wa a_14 cI 1200 (fun _ => 0), (q_15, .inr (13, [.ref a_16, .int (nI 0)])), wa a_16 cI 1200 (fun _ => 0), (q_17, .inr (13, [.ref a_18, .int (nI 0)])), wa a_18 cI 24 (fun _ => 0), (q_19, .inr (13, [.ref a_20, .int (nI 0)])), wa a_20 cI 24 (fun _ => 0), (q_21, .inr (13, [.ref a_22, .int (nI 0)])), wa a_22 cI 200 (fun _ => 0), (q_23, .inr (13, [.ref a_24, .int (nI 0)])), wa a_24 cI 1200 (fun _ => 0)] H := hP
  have hD : va_D A [(h, .inr (15, [.ref q_1, .ref q_2, .ref q_3, .ref q_5, .ref q_7, .ref q_9, .ref q_11, .ref q_13, .ref q_15, .ref q_17, .ref q_19, .ref q_21, .null, .null])), (q_1, .inr (6, [.int (nI 0), .ref z0, .int (nI 0)])), (q_2, .inr (6, [.int (nI 0), .ref z0, .int (nI 0)])), (q_3, .inr (13, [.ref a_4, .int (nI 0)])), wa a_4 cI 0 (fun _ => 0), (q_5, .inr (13, [.ref a_6, .int (nI 0)])), wa a_6 cI 1200 (fun _ => 0), (q_7, .inr (13, [.ref a_8, .int (nI 0)])), wa a_8 cI 1200 (fun _ => 0), (q_9, .inr (13, [.ref a_10, .int (nI 0)])), wa a_10 cI 1200 (fun _ => 0), (q_11, .inr (13, [.ref a_12, .int (nI 0)])), wa a_12 cI 1200 (fun _ => 0), (q_13, .inr (13, [.ref a_14, .int (nI 0)])), wa a_14 cI 1200 (fun _ => 0), (q_15, .inr (13, [.ref a_16, .int (nI 0)])), wa a_16 cI 1200 (fun _ => 0), (q_17, .inr (13, [.ref a_18, .int (nI 0)])), wa a_18 cI 24 (fun _ => 0), (q_19, .inr (13, [.ref a_20, .int (nI 0)])), wa a_20 cI 24 (fun _ => 0), (q_21, .inr (13, [.ref a_22, .int (nI 0)])), wa a_22 cI 200 (fun _ => 0), (q_23, .inr (13, [.ref a_24, .int (nI 0)])), wa a_24 cI 1200 (fun _ => 0)] := hD
  refine W.widen (k := 24) (n := 8676) (by first | exact Nat.le_of_ble_eq_true rfl | omega | (dsimp only [headSpec]; omega) | (simp only [headSpec]; omega) | omega) (by first | exact Nat.le_of_ble_eq_true rfl | omega | (dsimp only [headSpec]; omega) | (simp only [headSpec]; omega) | omega) ?_
  refine va_putF (D := (dC, dI)) (ci := 15) (v := .ref q_23) (ty := .object "Patchferry$Row") (C := RX8) (T := TX8) (N := 14) hx hb hts inX8_init_RX8 tyX8 tyX8_ok nmX8 hown hK hP hD hS 0 rfl rfl 12 (by decide) (hts (.fieldLink RX8 57 "Patchferry$Store" "marks" "LPatchferry$Row;") (by decide +kernel)) (fun _ h9 => h9) rfl hin rfl (by decide +kernel) rfl rfl (Nat.le_of_ble_eq_true rfl) dX8_init_173 (fun H locs hP hD hS => ?_)
  have hP : va_P (dC, dI) vwCl [(h, .inr (15, [.ref q_1, .ref q_2, .ref q_3, .ref q_5, .ref q_7, .ref q_9, .ref q_11, .ref q_13, .ref q_15, .ref q_17, .ref q_19, .ref q_21, .ref q_23, .null])), (q_1, .inr (6, [.int (nI 0), .ref z0, .int (nI 0)])), (q_2, .inr (6, [.int (nI 0), .ref z0, .int (nI 0)])), (q_3, .inr (13, [.ref a_4, .int (nI 0)])), wa a_4 cI 0 (fun _ => 0), (q_5, .inr (13, [.ref a_6, .int (nI 0)])), wa a_6 cI 1200 (fun _ => 0), (q_7, .inr (13, [.ref a_8, .int (nI 0)])), wa a_8 cI 1200 (fun _ => 0), (q_9, .inr (13, [.ref a_10, .int (nI 0)])), wa a_10 cI 1200 (fun _ => 0), (q_11, .inr (13, [.ref a_12, .int (nI 0)])), wa a_12 cI 1200 (fun _ => 0), (q_13, .inr (13, [.ref a_14, .int (nI 0)])), wa a_14 cI 1200 (fun _ => 0), (q_15, .inr (13, [.ref a_16, .int (nI 0)])), wa a_16 cI 1200 (fun _ => 0), (q_17, .inr (13, [.ref a_18, .int (nI 0)])), wa a_18 cI 24 (fun _ => 0), (q_19, .inr (13, [.ref a_20, .int (nI 0)])), wa a_20 cI 24 (fun _ => 0), (q_21, .inr (13, [.ref a_22, .int (nI 0)])), wa a_22 cI 200 (fun _ => 0), (q_23, .inr (13, [.ref a_24, .int (nI 0)])), wa a_24 cI 1200 (fun _ => 0)] H := hP
  have hD : va_D A [(h, .inr (15, [.ref q_1, .ref q_2, .ref q_3, .ref q_5, .ref q_7, .ref q_9, .ref q_11, .ref q_13, .ref q_15, .ref q_17, .ref q_19, .ref q_21, .ref q_23, .null])), (q_1, .inr (6, [.int (nI 0), .ref z0, .int (nI 0)])), (q_2, .inr (6, [.int (nI 0), .ref z0, .int (nI 0)])), (q_3, .inr (13, [.ref a_4, .int (nI 0)])), wa a_4 cI 0 (fun _ => 0), (q_5, .inr (13, [.ref a_6, .int (nI 0)])), wa a_6 cI 1200 (fun _ => 0), (q_7, .inr (13, [.ref a_8, .int (nI 0)])), wa a_8 cI 1200 (fun _ => 0), (q_9, .inr (13, [.ref a_10, .int (nI 0)])), wa a_10 cI 1200 (fun _ => 0), (q_11, .inr (13, [.ref a_12, .int (nI 0)])), wa a_12 cI 1200 (fun _ => 0), (q_13, .inr (13, [.ref a_14, .int (nI 0)])), wa a_14 cI 1200 (fun _ => 0), (q_15, .inr (13, [.ref a_16, .int (nI 0)])), wa a_16 cI 1200 (fun _ => 0), (q_17, .inr (13, [.ref a_18, .int (nI 0)])), wa a_18 cI 24 (fun _ => 0), (q_19, .inr (13, [.ref a_20, .int (nI 0)])), wa a_20 cI 24 (fun _ => 0), (q_21, .inr (13, [.ref a_22, .int (nI 0)])), wa a_22 cI 200 (fun _ => 0), (q_23, .inr (13, [.ref a_24, .int (nI 0)])), wa a_24 cI 1200 (fun _ => 0)] := hD
  refine lv_aload_n hx hb dX8_init_176 rfl (lv_at hl 0 rfl) ?_
  refine va_new (ci := 13) (fs := [.null, .int (nI 0)]) (C := RX6) (T := TX6) (N := 2) hx hb hts inX8_init_RX6 tyX6 tyX6_ok hown (hts (.classLink RX8 21 RX6) (by decide +kernel)) (hts (.instantiable RX6 2) (by decide +kernel)) (hts (.initialized RX6) (by decide +kernel)) hK hP hD hS hA rfl (fun j hj => by rcases (show j = 0 ∨ j = 1 by omega) with rfl | rfl <;> rfl) (by first | exact Nat.le_of_ble_eq_true rfl | omega | (dsimp only [headSpec]; omega) | (simp only [headSpec]; omega) | omega) (by first | exact Nat.le_of_ble_eq_true rfl | omega | (dsimp only [headSpec]; omega) | (simp only [headSpec]; omega) | omega) dX8_init_177 (fun q_25 H hP hD hS => ?_)
  have hP : va_P (dC, dI) vwCl [(h, .inr (15, [.ref q_1, .ref q_2, .ref q_3, .ref q_5, .ref q_7, .ref q_9, .ref q_11, .ref q_13, .ref q_15, .ref q_17, .ref q_19, .ref q_21, .ref q_23, .null])), (q_1, .inr (6, [.int (nI 0), .ref z0, .int (nI 0)])), (q_2, .inr (6, [.int (nI 0), .ref z0, .int (nI 0)])), (q_3, .inr (13, [.ref a_4, .int (nI 0)])), wa a_4 cI 0 (fun _ => 0), (q_5, .inr (13, [.ref a_6, .int (nI 0)])), wa a_6 cI 1200 (fun _ => 0), (q_7, .inr (13, [.ref a_8, .int (nI 0)])), wa a_8 cI 1200 (fun _ => 0), (q_9, .inr (13, [.ref a_10, .int (nI 0)])), wa a_10 cI 1200 (fun _ => 0), (q_11, .inr (13, [.ref a_12, .int (nI 0)])), wa a_12 cI 1200 (fun _ => 0), (q_13, .inr (13, [.ref a_14, .int (nI 0)])), wa a_14 cI 1200 (fun _ => 0), (q_15, .inr (13, [.ref a_16, .int (nI 0)])), wa a_16 cI 1200 (fun _ => 0), (q_17, .inr (13, [.ref a_18, .int (nI 0)])), wa a_18 cI 24 (fun _ => 0), (q_19, .inr (13, [.ref a_20, .int (nI 0)])), wa a_20 cI 24 (fun _ => 0), (q_21, .inr (13, [.ref a_22, .int (nI 0)])), wa a_22 cI 200 (fun _ => 0), (q_23, .inr (13, [.ref a_24, .int (nI 0)])), wa a_24 cI 1200 (fun _ => 0), (q_25, .inr (13, [.null, .int (nI 0)]))] H := hP
  have hD : va_D A [(h, .inr (15, [.ref q_1, .ref q_2, .ref q_3, .ref q_5, .ref q_7, .ref q_9, .ref q_11, .ref q_13, .ref q_15, .ref q_17, .ref q_19, .ref q_21, .ref q_23, .null])), (q_1, .inr (6, [.int (nI 0), .ref z0, .int (nI 0)])), (q_2, .inr (6, [.int (nI 0), .ref z0, .int (nI 0)])), (q_3, .inr (13, [.ref a_4, .int (nI 0)])), wa a_4 cI 0 (fun _ => 0), (q_5, .inr (13, [.ref a_6, .int (nI 0)])), wa a_6 cI 1200 (fun _ => 0), (q_7, .inr (13, [.ref a_8, .int (nI 0)])), wa a_8 cI 1200 (fun _ => 0), (q_9, .inr (13, [.ref a_10, .int (nI 0)])), wa a_10 cI 1200 (fun _ => 0), (q_11, .inr (13, [.ref a_12, .int (nI 0)])), wa a_12 cI 1200 (fun _ => 0), (q_13, .inr (13, [.ref a_14, .int (nI 0)])), wa a_14 cI 1200 (fun _ => 0), (q_15, .inr (13, [.ref a_16, .int (nI 0)])), wa a_16 cI 1200 (fun _ => 0), (q_17, .inr (13, [.ref a_18, .int (nI 0)])), wa a_18 cI 24 (fun _ => 0), (q_19, .inr (13, [.ref a_20, .int (nI 0)])), wa a_20 cI 24 (fun _ => 0), (q_21, .inr (13, [.ref a_22, .int (nI 0)])), wa a_22 cI 200 (fun _ => 0), (q_23, .inr (13, [.ref a_24, .int (nI 0)])), wa a_24 cI 1200 (fun _ => 0), (q_25, .inr (13, [.null, .int (nI 0)]))] := hD
  refine W.widen (k := 25) (n := 8678) (by first | exact Nat.le_of_ble_eq_true rfl | omega | (dsimp only [headSpec]; omega) | (simp only [headSpec]; omega) | omega) (by first | exact Nat.le_of_ble_eq_true rfl | omega | (dsimp only [headSpec]; omega) | (simp only [headSpec]; omega) | omega) ?_
  refine lv_dup hx hb dX8_init_180 rfl ?_
  refine lv_sipush (v := nI 576) hx hb dX8_init_181 (by decide) ?_
  have hPc : va_P (dC, dI) vwCl [(q_25, .inr (13, [.null, .int (nI 0)]))] _ := hP.sub [25] rfl
  have hDc : va_D _ [(q_25, .inr (13, [.null, .int (nI 0)]))] := hD.sub [25] (by decide) rfl
  have hFc := va_free (wc := [(q_25, .inr (13, [.null, .int (nI 0)]))]) hD hS hA [25] rfl
  refine va_callv (va_runI (As := [.int (nI 576)]) (rest := [.ref q_25, .ref h]) ⟨hx, hb, hml, hown, hts⟩ (c_rowinit l dC dI cI cO H.size q_25 576 (by omega)) (cwI 1 hts ugX8_init_X6_init rfl rfl rfl (hts (.initialized RX6) (by decide +kernel)) (hts (.methodLink RX8 23 yX6_init) (by decide +kernel)) (hts (.instanceMethod yX6_init) (by decide +kernel)) rfl (by decide +kernel) ⟨(by first | exact Nat.le_of_ble_eq_true rfl | omega | (dsimp only [headSpec]; omega) | (simp only [headSpec]; omega) | omega), (by first | exact Nat.le_of_ble_eq_true rfl | omega | (dsimp only [headSpec]; omega) | (simp only [headSpec]; omega) | omega)⟩) ⟨fun a U g mk q => by obtain ⟨q0, q1, qP, qK, qD⟩ := q; exact ⟨q0, q1, qP, va_K.moved (u := U) (U := U.calling g mk a) (Vm.Alike.refl U.vm) qK, qD⟩, fun U hU hW => ⟨rfl, by rw [hU], by rw [hU]; exact hPc, va_K.moved hW.alike hK, hDc.weaken (fun _ _ _ _ => trivial)⟩⟩ rfl rfl hl.1 rfl (lv_room (Nat.le_of_ble_eq_true rfl)) dX8_init_184 ⟨(by first | exact Nat.le_of_ble_eq_true rfl | omega | (dsimp only [headSpec]; omega) | (simp only [headSpec]; omega) | omega), (by first | exact Nat.le_of_ble_eq_true rfl | omega | (dsimp only [headSpec]; omega) | (simp only [headSpec]; omega) | omega)⟩) hS (fun q _ h => hFc q h) hFc (fun u t H locs ht hvm hw hB hz1 hk1 hS => ?_)
  obtain ⟨a_26, hP1, hK1, hD1⟩ := hB
  rw [ht] at hP1
  obtain ⟨hP, hD⟩ := va_join (wr := [(h, .inr (15, [.ref q_1, .ref q_2, .ref q_3, .ref q_5, .ref q_7, .ref q_9, .ref q_11, .ref q_13, .ref q_15, .ref q_17, .ref q_19, .ref q_21, .ref q_23, .null])), (q_1, .inr (6, [.int (nI 0), .ref z0, .int (nI 0)])), (q_2, .inr (6, [.int (nI 0), .ref z0, .int (nI 0)])), (q_3, .inr (13, [.ref a_4, .int (nI 0)])), wa a_4 cI 0 (fun _ => 0), (q_5, .inr (13, [.ref a_6, .int (nI 0)])), wa a_6 cI 1200 (fun _ => 0), (q_7, .inr (13, [.ref a_8, .int (nI 0)])), wa a_8 cI 1200 (fun _ => 0), (q_9, .inr (13, [.ref a_10, .int (nI 0)])), wa a_10 cI 1200 (fun _ => 0), (q_11, .inr (13, [.ref a_12, .int (nI 0)])), wa a_12 cI 1200 (fun _ => 0), (q_13, .inr (13, [.ref a_14, .int (nI 0)])), wa a_14 cI 1200 (fun _ => 0), (q_15, .inr (13, [.ref a_16, .int (nI 0)])), wa a_16 cI 1200 (fun _ => 0), (q_17, .inr (13, [.ref a_18, .int (nI 0)])), wa a_18 cI 24 (fun _ => 0), (q_19, .inr (13, [.ref a_20, .int (nI 0)])), wa a_20 cI 24 (fun _ => 0), (q_21, .inr (13, [.ref a_22, .int (nI 0)])), wa a_22 cI 200 (fun _ => 0), (q_23, .inr (13, [.ref a_24, .int (nI 0)])), wa a_24 cI 1200 (fun _ => 0)]) (w1 := [(q_25, .inr (13, [.ref a_26, .int (nI 0)])), wa a_26 cI 576 (fun _ => 0)]) hP hD [25] [0, 1, 2, 3, 4, 5, 6, 7, 8, 9, 10, 11, 12, 13, 14, 15, 16, 17, 18, 19, 20, 21, 22, 23, 24] rfl rfl (by decide) (by decide) hk1 hFc hP1 hD1
  have hP : va_P (dC, dI) vwCl [(h, .inr (15, [.ref q_1, .ref q_2, .ref q_3, .ref q_5, .ref q_7, .ref q_9, .ref q_11, .ref q_13, .ref q_15, .ref q_17, .ref q_19, .ref q_21, .ref q_23, .null])), (q_1, .inr (6, [.int (nI 0), .ref z0, .int (nI 0)])), (q_2, .inr (6, [.int (nI 0), .ref z0, .int (nI 0)])), (q_3, .inr (13, [.ref a_4, .int (nI 0)])), wa a_4 cI 0 (fun _ => 0), (q_5, .inr (13, [.ref a_6, .int (nI 0)])), wa a_6 cI 1200 (fun _ => 0), (q_7, .inr (13, [.ref a_8, .int (nI 0)])), wa a_8 cI 1200 (fun _ => 0), (q_9, .inr (13, [.ref a_10, .int (nI 0)])), wa a_10 cI 1200 (fun _ => 0), (q_11, .inr (13, [.ref a_12, .int (nI 0)])), wa a_12 cI 1200 (fun _ => 0), (q_13, .inr (13, [.ref a_14, .int (nI 0)])), wa a_14 cI 1200 (fun _ => 0), (q_15, .inr (13, [.ref a_16, .int (nI 0)])), wa a_16 cI 1200 (fun _ => 0), (q_17, .inr (13, [.ref a_18, .int (nI 0)])), wa a_18 cI 24 (fun _ => 0), (q_19, .inr (13, [.ref a_20, .int (nI 0)])), wa a_20 cI 24 (fun _ => 0), (q_21, .inr (13, [.ref a_22, .int (nI 0)])), wa a_22 cI 200 (fun _ => 0), (q_23, .inr (13, [.ref a_24, .int (nI 0)])), wa a_24 cI 1200 (fun _ => 0), (q_25, .inr (13, [.ref a_26, .int (nI 0)])), wa a_26 cI 576 (fun _ => 0)] H := hP
  have hD : va_D A [(h, .inr (15, [.ref q_1, .ref q_2, .ref q_3, .ref q_5, .ref q_7, .ref q_9, .ref q_11, .ref q_13, .ref q_15, .ref q_17, .ref q_19, .ref q_21, .ref q_23, .null])), (q_1, .inr (6, [.int (nI 0), .ref z0, .int (nI 0)])), (q_2, .inr (6, [.int (nI 0), .ref z0, .int (nI 0)])), (q_3, .inr (13, [.ref a_4, .int (nI 0)])), wa a_4 cI 0 (fun _ => 0), (q_5, .inr (13, [.ref a_6, .int (nI 0)])), wa a_6 cI 1200 (fun _ => 0), (q_7, .inr (13, [.ref a_8, .int (nI 0)])), wa a_8 cI 1200 (fun _ => 0), (q_9, .inr (13, [.ref a_10, .int (nI 0)])), wa a_10 cI 1200 (fun _ => 0), (q_11, .inr (13, [.ref a_12, .int (nI 0)])), wa a_12 cI 1200 (fun _ => 0), (q_13, .inr (13, [.ref a_14, .int (nI 0)])), wa a_14 cI 1200 (fun _ => 0), (q_15, .inr (13, [.ref a_16, .int (nI 0)])), wa a_16 cI 1200 (fun _ => 0), (q_17, .inr (13, [.ref a_18, .int (nI 0)])), wa a_18 cI 24 (fun _ => 0), (q_19, .inr (13, [.ref a_20, .int (nI 0)])), wa a_20 cI 24 (fun _ => 0), (q_21, .inr (13, [.ref a_22, .int (nI 0)])), wa a_22 cI 200 (fun _ => 0), (q_23, .inr (13, [.ref a_24, .int (nI 0)])), wa a_24 cI 1200 (fun _ => 0), (q_25, .inr (13, [.ref a_26, .int (nI 0)])), wa a_26 cI 576 (fun _ => 0)] := hD
  refine W.widen (k := 26) (n := 9254) (by first | exact Nat.le_of_ble_eq_true rfl | omega | (dsimp only [headSpec]; omega) | (simp only [headSpec]; omega) | omega) (by first | exact Nat.le_of_ble_eq_true rfl | omega | (dsimp only [headSpec]; omega) | (simp only [headSpec]; omega) | omega) ?_
  have hP : va_P (dC, dI) vwCl [(h, .inr (15, [.ref q_1, .ref q_2, .ref q_3, .ref q_5, .ref q_7, .ref q_9, .ref q_11, .ref q_13, .ref q_15, .ref q_17, .ref q_19, .ref q_21, .ref q_23, .null])), (q_1, .inr (6, [.int (nI 0), .ref z0, .int (nI 0)])), (q_2, .inr (6, [.int (nI 0), .ref z0, .int (nI 0)])), (q_3, .inr (13, [.ref a_4, .int (nI 0)])), wa a_4 cI 0 (fun _ => 0), (q_5, .inr (13, [.ref a_6, .int (nI 0)])), wa a_6 cI 1200 (fun _ => 0), (q_7, .inr (13, [.ref a_8, .int (nI 0)])), wa a_8 cI 1200 (fun _ => 0), (q_9, .inr (13, [.ref a_10, .int (nI 0)])), wa a_10 cI 1200 (fun _ => 0), (q_11, .inr (13, [.ref a_12, .int (nI 0)])), wa a_12 cI 1200 (fun _ => 0), (q_13, .inr (13, [.ref a_14, .int (nI 0)])), wa a_14 cI 1200 (fun _ => 0), (q_15, .inr (13, [.ref a_16, .int (nI 0)])), wa a_16 cI 1200 (fun _ => 0), (q_17, .inr (13, [.ref a_18, .int (nI 0)])), wa a_18 cI 24 (fun _ => 0), (q_19, .inr (13, [.ref a_20, .int (nI 0)])), wa a_20 cI 24 (fun _ => 0), (q_21, .inr (13, [.ref a_22, .int (nI 0)])), wa a_22 cI 200 (fun _ => 0), (q_23, .inr (13, [.ref a_24, .int (nI 0)])), wa a_24 cI 1200 (fun _ => 0)] H := hP.sub [0, 1, 2, 3, 4, 5, 6, 7, 8, 9, 10, 11, 12, 13, 14, 15, 16, 17, 18, 19, 20, 21, 22, 23, 24] rfl
  have hD : va_D A [(h, .inr (15, [.ref q_1, .ref q_2, .ref q_3, .ref q_5, .ref q_7, .ref q_9, .ref q_11, .ref q_13, .ref q_15, .ref q_17, .ref q_19, .ref q_21, .ref q_23, .null])), (q_1, .inr (6, [.int (nI 0), .ref z0, .int (nI 0)])), (q_2, .inr (6, [.int (nI 0), .ref z0, .int (nI 0)])), (q_3, .inr (13, [.ref a_4, .int (nI 0)])), wa a_4 cI 0 (fun _ => 0), (q_5, .inr (13, [.ref a_6, .int (nI 0)])), wa a_6 cI 1200 (fun _ => 0), (q_7, .inr (13, [.ref a_8, .int (nI 0)])), wa a_8 cI 1200 (fun _ => 0), (q_9, .inr (13, [.ref a_10, .int (nI 0)])), wa a_10 cI 1200 (fun _ => 0), (q_11, .inr (13, [.ref a_12, .int (nI 0)])), wa a_12 cI 1200 (fun _ => 0), (q_13, .inr (13, [.ref a_14, .int (nI 0)])), wa a_14 cI 1200 (fun _ => 0), (q_15, .inr (13, [.ref a_16, .int (nI 0)])), wa a_16 cI 1200 (fun _ => 0), (q_17, .inr (13, [.ref a_18, .int (nI 0)])), wa a_18 cI 24 (fun _ => 0), (q_19, .inr (13, [.ref a_20, .int (nI 0)])), wa a_20 cI 24 (fun _ => 0), (q_21, .inr (13, [.ref a_22, .int (nI 0)])), wa a_22 cI 200 (fun _ => 0), (q_23, .inr (13, [.ref a_24, .int (nI 0)])), wa a_24 cI 1200 (fun _ => 0)] := hD.sub [0, 1, 2, 3, 4, 5, 6, 7, 8, 9, 10, 11, 12, 13, 14, 15, 16, 17, 18, 19, 20, 21, 22, 23, 24] (by decide) rfl
  refine va_putF (D := (dC, dI)) (ci := 15) (v := .ref q_25) (ty := .object "Patchferry$Row") (C := RX8) (T := TX8) (N := 14) hx hb hts inX8_init_RX8 tyX8 tyX8_ok nmX8 hown hK hP hD hS 0 rfl rfl 13 (by decide) (hts (.fieldLink RX8 60 "Patchferry$Store" "grid" "LPatchferry$Row;") (by decide +kernel)) (fun _ h9 => h9) rfl hin rfl (by decide +kernel) rfl rfl (Nat.le_of_ble_eq_true rfl) dX8_init_187 (fun H locs hP hD hS => ?_)
  have hP : va_P (dC, dI) vwCl [(h, .inr (15, [.ref q_1, .ref q_2, .ref q_3, .ref q_5, .ref q_7, .ref q_9, .ref q_11, .ref q_13, .ref q_15, .ref q_17, .ref q_19, .ref q_21, .ref q_23, .ref q_25])), (q_1, .inr (6, [.int (nI 0), .ref z0, .int (nI 0)])), (q_2, .inr (6, [.int (nI 0), .ref z0, .int (nI 0)])), (q_3, .inr (13, [.ref a_4, .int (nI 0)])), wa a_4 cI 0 (fun _ => 0), (q_5, .inr (13, [.ref a_6, .int (nI 0)])), wa a_6 cI 1200 (fun _ => 0), (q_7, .inr (13, [.ref a_8, .int (nI 0)])), wa a_8 cI 1200 (fun _ => 0), (q_9, .inr (13, [.ref a_10, .int (nI 0)])), wa a_10 cI 1200 (fun _ => 0), (q_11, .inr (13, [.ref a_12, .int (nI 0)])), wa a_12 cI 1200 (fun _ => 0), (q_13, .inr (13, [.ref a_14, .int (nI 0)])), wa a_14 cI 1200 (fun _ => 0), (q_15, .inr (13, [.ref a_16, .int (nI 0)])), wa a_16 cI 1200 (fun _ => 0), (q_17, .inr (13, [.ref a_18, .int (nI 0)])), wa a_18 cI 24 (fun _ => 0), (q_19, .inr (13, [.ref a_20, .int (nI 0)])), wa a_20 cI 24 (fun _ => 0), (q_21, .inr (13, [.ref a_22, .int (nI 0)])), wa a_22 cI 200 (fun _ => 0), (q_23, .inr (13, [.ref a_24, .int (nI 0)])), wa a_24 cI 1200 (fun _ => 0)] H := hP
  have hD : va_D A [(h, .inr (15, [.ref q_1, .ref q_2, .ref q_3, .ref q_5, .ref q_7, .ref q_9, .ref q_11, .ref q_13, .ref q_15, .ref q_17, .ref q_19, .ref q_21, .ref q_23, .ref q_25])), (q_1, .inr (6, [.int (nI 0), .ref z0, .int (nI 0)])), (q_2, .inr (6, [.int (nI 0), .ref z0, .int (nI 0)])), (q_3, .inr (13, [.ref a_4, .int (nI 0)])), wa a_4 cI 0 (fun _ => 0), (q_5, .inr (13, [.ref a_6, .int (nI 0)])), wa a_6 cI 1200 (fun _ => 0), (q_7, .inr (13, [.ref a_8, .int (nI 0)])), wa a_8 cI 1200 (fun _ => 0), (q_9, .inr (13, [.ref a_10, .int (nI 0)])), wa a_10 cI 1200 (fun _ => 0), (q_11, .inr (13, [.ref a_12, .int (nI 0)])), wa a_12 cI 1200 (fun _ => 0), (q_13, .inr (13, [.ref a_14, .int (nI 0)])), wa a_14 cI 1200 (fun _ => 0), (q_15, .inr (13, [.ref a_16, .int (nI 0)])), wa a_16 cI 1200 (fun _ => 0), (q_17, .inr (13, [.ref a_18, .int (nI 0)])), wa a_18 cI 24 (fun _ => 0), (q_19, .inr (13, [.ref a_20, .int (nI 0)])), wa a_20 cI 24 (fun _ => 0), (q_21, .inr (13, [.ref a_22, .int (nI 0)])), wa a_22 cI 200 (fun _ => 0), (q_23, .inr (13, [.ref a_24, .int (nI 0)])), wa a_24 cI 1200 (fun _ => 0)] := hD
  have hPe : va_P (dC, dI) vwCl [(h, .inr (15, [.ref q_1, .ref q_2, .ref q_3, .ref q_5, .ref q_7, .ref q_9, .ref q_11, .ref q_13, .ref q_15, .ref q_17, .ref q_19, .ref q_21, .ref q_23, .ref q_25])), (q_1, .inr (6, [.int (nI 0), .ref z0, .int (nI 0)])), (q_2, .inr (6, [.int (nI 0), .ref z0, .int (nI 0)])), (q_3, .inr (13, [.ref a_4, .int (nI 0)])), wa a_4 cI 0 (fun _ => 0), (q_5, .inr (13, [.ref a_6, .int (nI 0)])), wa a_6 cI 1200 (fun _ => 0), (q_7, .inr (13, [.ref a_8, .int (nI 0)])), wa a_8 cI 1200 (fun _ => 0), (q_9, .inr (13, [.ref a_10, .int (nI 0)])), wa a_10 cI 1200 (fun _ => 0), (q_11, .inr (13, [.ref a_12, .int (nI 0)])), wa a_12 cI 1200 (fun _ => 0), (q_13, .inr (13, [.ref a_14, .int (nI 0)])), wa a_14 cI 1200 (fun _ => 0), (q_15, .inr (13, [.ref a_16, .int (nI 0)])), wa a_16 cI 1200 (fun _ => 0), (q_17, .inr (13, [.ref a_18, .int (nI 0)])), wa a_18 cI 24 (fun _ => 0), (q_19, .inr (13, [.ref a_20, .int (nI 0)])), wa a_20 cI 24 (fun _ => 0), (q_21, .inr (13, [.ref a_22, .int (nI 0)])), wa a_22 cI 200 (fun _ => 0), (q_23, .inr (13, [.ref a_24, .int (nI 0)])), wa a_24 cI 1200 (fun _ => 0)] _ := hP.sub [0, 1, 2, 3, 4, 5, 6, 7, 8, 9, 10, 11, 12, 13, 14, 15, 16, 17, 18, 19, 20, 21, 22, 23, 24] rfl
  have hDe : va_D A [(h, .inr (15, [.ref q_1, .ref q_2, .ref q_3, .ref q_5, .ref q_7, .ref q_9, .ref q_11, .ref q_13, .ref q_15, .ref q_17, .ref q_19, .ref q_21, .ref q_23, .ref q_25])), (q_1, .inr (6, [.int (nI 0), .ref z0, .int (nI 0)])), (q_2, .inr (6, [.int (nI 0), .ref z0, .int (nI 0)])), (q_3, .inr (13, [.ref a_4, .int (nI 0)])), wa a_4 cI 0 (fun _ => 0), (q_5, .inr (13, [.ref a_6, .int (nI 0)])), wa a_6 cI 1200 (fun _ => 0), (q_7, .inr (13, [.ref a_8, .int (nI 0)])), wa a_8 cI 1200 (fun _ => 0), (q_9, .inr (13, [.ref a_10, .int (nI 0)])), wa a_10 cI 1200 (fun _ => 0), (q_11, .inr (13, [.ref a_12, .int (nI 0)])), wa a_12 cI 1200 (fun _ => 0), (q_13, .inr (13, [.ref a_14, .int (nI 0)])), wa a_14 cI 1200 (fun _ => 0), (q_15, .inr (13, [.ref a_16, .int (nI 0)])), wa a_16 cI 1200 (fun _ => 0), (q_17, .inr (13, [.ref a_18, .int (nI 0)])), wa a_18 cI 24 (fun _ => 0), (q_19, .inr (13, [.ref a_20, .int (nI 0)])), wa a_20 cI 24 (fun _ => 0), (q_21, .inr (13, [.ref a_22, .int (nI 0)])), wa a_22 cI 200 (fun _ => 0), (q_23, .inr (13, [.ref a_24, .int (nI 0)])), wa a_24 cI 1200 (fun _ => 0)] := hD.sub [0, 1, 2, 3, 4, 5, 6, 7, 8, 9, 10, 11, 12, 13, 14, 15, 16, 17, 18, 19, 20, 21, 22, 23, 24] (by decide) rfl
  refine W.widen (k := 26) (n := 9254) (by first | exact Nat.le_of_ble_eq_true rfl | omega | (dsimp only [headSpec]; omega) | (simp only [headSpec]; omega) | omega) (by first | exact Nat.le_of_ble_eq_true rfl | omega | (dsimp only [headSpec]; omega) | (simp only [headSpec]; omega) | omega) ?_
  exact W.vret hx hb hr (fun t ht hW => ⟨⟨(), rfl, trivial, _, _, _, _, _, _, _, _, _, _, _, _, _, _, _, _, _, _, _, _, _, _, _, _, _, by rw [ht]; exact hPe, va_K.moved hW.alike hK, hDe⟩, hS.F ht⟩) hS.2.2 dX8_init_190
set_option maxHeartbeats 4000000 in
set_option maxRecDepth 100000 in
theorem c_blocksinit (l : Launch) (dC : Nat → ClassId) (dI : Nat → Nat → Nat) (cI cO : ClassId) (sz : Nat) (h : Nat) : Met l yX0_init usX0_init ({ frames := 2, cells := 4, slots := 404, locals := 37 }) (va_Pc [.ref h] (fun U => U.heap.size = sz ∧ va_P (dC, dI) vwCl [(h, .inr (7, [.null, .null, .int (nI 0), .int (nI 0), .int (nI 0)]))] U.heap ∧ va_K (dC, dI) vwCl (ty0 cI cO) U ∧ va_D (fun _ => True) [(h, .inr (7, [.null, .null, .int (nI 0), .int (nI 0), .int (nI 0)]))])) (va_Qv (fun _ : Unit => True) (fun _ t => va_P (dC, dI) vwCl [] t.heap ∧ va_K (dC, dI) vwCl (ty0 cI cO) t ∧ va_D (va_A [(h, .inr (7, [.null, .null, .int (nI 0), .int (nI 0), .int (nI 0)]))] sz) []) (va_A [(h, .inr (7, [.null, .null, .int (nI 0), .int (nI 0), .int (nI 0)]))] sz)) 4 404 (va_A [(h, .inr (7, [.null, .null, .int (nI 0), .int (nI 0), .int (nI 0)]))] sz) := by
  refine Met.ofW (cc := cX0_init) (maxL := 1) (ret := none) (by decide) rfl ?_
  intro p e s m args below meth c s₁ B hml hv
  obtain ⟨rfl, hsz, hP, hK, hD0⟩ := hv
  have hx := B.exec
  have hb := B.bytes
  have hr := B.returns
  have hts := atoms_spec (ws := usX0_init) B.pre
  have hown : s.vm.findClass RX0 = some m.cls := findClass_of_methodNamed B.named
  have hlocks := B.notSynchronized
  have hin : meth.name = "<init>" := (name_of_methodNamed B.named B.method).1
  subst hsz
  have hD := hD0.self (sz := s.heap.size)
  generalize hAe : va_A [(h, .inr (7, [.null, .null, .int (nI 0), .int (nI 0), .int (nI 0)]))] s.heap.size = A at hD ⊢
  have hA : ∀ q : Nat, s.heap.size ≤ q → A q := fun q h => by rw [← hAe]; exact Or.inr h
  have hS : va_S A s.heap s.heap [] := va_S.rf
  have hl := lv_entry ([.ref h]) (n := 1) (Nat.le_of_ble_eq_true rfl)
  rw [lg_entry_eq]
  generalize (lg_sl ([.ref h]) ++ List.replicate (1 - (lg_sl ([.ref h])).length) Slot.unset).toArray = ls at hl ⊢
  have hl : lv_has ls 1 [(0, .ref h)] := hl
  refine lv_aload_n hx hb dX0_init_0 rfl (lv_at hl 0 rfl) ?_
  refine W.objInit hx hb hown (hts (.methodLink RX0 3 objectInit) (by decide +kernel)) (hts (.instanceMethod objectInit) (by decide +kernel)) (hts _ (List.mem_of_getElem? (i := 3) rfl)) rfl (by rw [hml]; exact hl.1) rfl dX0_init_1 (by first | exact Nat.le_of_ble_eq_true rfl | omega | (dsimp only [headSpec]; omega) | (simp only [headSpec]; omega) | omega) (by first | exact Nat.le_of_ble_eq_true rfl | omega | (dsimp only [headSpec]; omega) | (simp only [headSpec]; omega) | omega) ?_
  refine W.eq (g2 := F0 m 4 ls []) rfl ?_
  refine lv_aload_n hx hb dX0_init_4 rfl (lv_at hl 0 rfl) ?_
  refine va_new (ci := 13) (fs := [.null, .int (nI 0)]) (C := RX6) (T := TX6) (N := 2) hx hb hts inX0_init_RX6 tyX6 tyX6_ok hown (hts (.classLink RX0 9 RX6) (by decide +kernel)) (hts (.instantiable RX6 2) (by decide +kernel)) (hts (.initialized RX6) (by decide +kernel)) hK hP hD hS hA rfl (fun j hj => by rcases (show j = 0 ∨ j = 1 by omega) with rfl | rfl <;> rfl) (by first | exact Nat.le_of_ble_eq_true rfl | omega | (dsimp only [headSpec]; omega) | (simp only [headSpec]; omega) | omega) (by first | exact Nat.le_of_ble_eq_true rfl | omega | (dsimp only [headSpec]; omega) | (simp only [headSpec]; omega) | omega) dX0_init_5 (fun q_1 H hP hD hS => ?_)
  have hP : va_P (dC, dI) vwCl [(h, .inr (7, [.null, .null, .int (nI 0), .int (nI 0), .int (nI 0)])), (q_1, .inr (13, [.null, .int (nI 0)]))] H := hP
  have hD : va_D A [(h, .inr (7, [.null, .null, .int (nI 0), .int (nI 0), .int (nI 0)])), (q_1, .inr (13, [.null, .int (nI 0)]))] := hD
  refine W.widen (k := 1) (n := 2) (by first | exact Nat.le_of_ble_eq_true rfl | omega | (dsimp only [headSpec]; omega) | (simp only [headSpec]; omega) | omega) (by first | exact Nat.le_of_ble_eq_true rfl | omega | (dsimp only [headSpec]; omega) | (simp only [headSpec]; omega) | omega) ?_
  refine lv_dup hx hb dX0_init_8 rfl ?_
  refine lv_sipush (v := nI 200) hx hb dX0_init_9 (by decide) ?_
  have hPc : va_P (dC, dI) vwCl [(q_1, .inr (13, [.null, .int (nI 0)]))] _ := hP.sub [1] rfl
  have hDc : va_D _ [(q_1, .inr (13, [.null, .int (nI 0)]))] := hD.sub [1] (by decide) rfl
  have hFc := va_free (wc := [(q_1, .inr (13, [.null, .int (nI 0)]))]) hD hS hA [1] rfl
  refine va_callv (va_runI (As := [.int (nI 200)]) (rest := [.ref q_1, .ref h]) ⟨hx, hb, hml, hown, hts⟩ (c_rowinit l dC dI cI cO H.size q_1 200 (by omega)) (cwI 1 hts ugX0_init_X6_init rfl rfl rfl (hts (.initialized RX6) (by decide +kernel)) (hts (.methodLink RX0 11 yX6_init) (by decide +kernel)) (hts (.instanceMethod yX6_init) (by decide +kernel)) rfl (by decide +kernel) ⟨(by first | exact Nat.le_of_ble_eq_true rfl | omega | (dsimp only [headSpec]; omega) | (simp only [headSpec]; omega) | omega), (by first | exact Nat.le_of_ble_eq_true rfl | omega | (dsimp only [headSpec]; omega) | (simp only [headSpec]; omega) | omega)⟩) ⟨fun a U g mk q => by obtain ⟨q0, q1, qP, qK, qD⟩ := q; exact ⟨q0, q1, qP, va_K.moved (u := U) (U := U.calling g mk a) (Vm.Alike.refl U.vm) qK, qD⟩, fun U hU hW => ⟨rfl, by rw [hU], by rw [hU]; exact hPc, va_K.moved hW.alike hK, hDc.weaken (fun _ _ _ _ => trivial)⟩⟩ rfl rfl hl.1 rfl (lv_room (Nat.le_of_ble_eq_true rfl)) dX0_init_12 ⟨(by first | exact Nat.le_of_ble_eq_true rfl | omega | (dsimp only [headSpec]; omega) | (simp only [headSpec]; omega) | omega), (by first | exact Nat.le_of_ble_eq_true rfl | omega | (dsimp only [headSpec]; omega) | (simp only [headSpec]; omega) | omega)⟩) hS (fun q _ h => hFc q h) hFc (fun u t H locs ht hvm hw hB hz1 hk1 hS => ?_)
  obtain ⟨a_2, hP1, hK1, hD1⟩ := hB
  rw [ht] at hP1
  obtain ⟨hP, hD⟩ := va_join (wr := [(h, .inr (7, [.null, .null, .int (nI 0), .int (nI 0), .int (nI 0)]))]) (w1 := [(q_1, .inr (13, [.ref a_2, .int (nI 0)])), wa a_2 cI 200 (fun _ => 0)]) hP hD [1] [0] rfl rfl (by decide) (by decide) hk1 hFc hP1 hD1
  have hP : va_P (dC, dI) vwCl [(h, .inr (7, [.null, .null, .int (nI 0), .int (nI 0), .int (nI 0)])), (q_1, .inr (13, [.ref a_2, .int (nI 0)])), wa a_2 cI 200 (fun _ => 0)] H := hP
  have hD : va_D A [(h, .inr (7, [.null, .null, .int (nI 0), .int (nI 0), .int (nI 0)])), (q_1, .inr (13, [.ref a_2, .int (nI 0)])), wa a_2 cI 200 (fun _ => 0)] := hD
  refine W.widen (k := 2) (n := 202) (by first | exact Nat.le_of_ble_eq_true rfl | omega | (dsimp only [headSpec]; omega) | (simp only [headSpec]; omega) | omega) (by first | exact Nat.le_of_ble_eq_true rfl | omega | (dsimp only [headSpec]; omega) | (simp only [headSpec]; omega) | omega) ?_
  have hP : va_P (dC, dI) vwCl [(h, .inr (7, [.null, .null, .int (nI 0), .int (nI 0), .int (nI 0)]))] H := hP.sub [0] rfl
  have hD : va_D A [(h, .inr (7, [.null, .null, .int (nI 0), .int (nI 0), .int (nI 0)]))] := hD.sub [0] (by decide) rfl
  refine va_putF (D := (dC, dI)) (ci := 7) (v := .ref q_1) (ty := .object "Patchferry$Row") (C := RX0) (T := TX0) (N := 5) hx hb hts inX0_init_RX0 tyX0 tyX0_ok nmX0 hown hK hP hD hS 0 rfl rfl 0 (by decide) (hts (.fieldLink RX0 14 "Patchferry$Blocks" "weaks" "LPatchferry$Row;") (by decide +kernel)) (fun _ h9 => h9) rfl hin rfl (by decide +kernel) rfl rfl (Nat.le_of_ble_eq_true rfl) dX0_init_15 (fun H locs hP hD hS => ?_)
  have hP : va_P (dC, dI) vwCl [(h, .inr (7, [.ref q_1, .null, .int (nI 0), .int (nI 0), .int (nI 0)]))] H := hP
  have hD : va_D A [(h, .inr (7, [.ref q_1, .null, .int (nI 0), .int (nI 0), .int (nI 0)]))] := hD
  refine lv_aload_n hx hb dX0_init_18 rfl (lv_at hl 0 rfl) ?_
  refine va_new (ci := 13) (fs := [.null, .int (nI 0)]) (C := RX6) (T := TX6) (N := 2) hx hb hts inX0_init_RX6 tyX6 tyX6_ok hown (hts (.classLink RX0 9 RX6) (by decide +kernel)) (hts (.instantiable RX6 2) (by decide +kernel)) (hts (.initialized RX6) (by decide +kernel)) hK hP hD hS hA rfl (fun j hj => by rcases (show j = 0 ∨ j = 1 by omega) with rfl | rfl <;> rfl) (by first | exact Nat.le_of_ble_eq_true rfl | omega | (dsimp only [headSpec]; omega) | (simp only [headSpec]; omega) | omega) (by first | exact Nat.le_of_ble_eq_true rfl | omega | (dsimp only [headSpec]; omega) | (simp only [headSpec]; omega) | omega) dX0_init_19 (fun q_3 H hP hD hS => ?_)
  have hP : va_P (dC, dI) vwCl [(h, .inr (7, [.ref q_1, .null, .int (nI 0), .int (nI 0), .int (nI 0)])), (q_3, .inr (13, [.null, .int (nI 0)]))] H := hP
  have hD : va_D A [(h, .inr (7, [.ref q_1, .null, .int (nI 0), .int (nI 0), .int (nI 0)])), (q_3, .inr (13, [.null, .int (nI 0)]))] := hD
  refine W.widen (k := 3) (n := 204) (by first | exact Nat.le_of_ble_eq_true rfl | omega | (dsimp only [headSpec]; omega) | (simp only [headSpec]; omega) | omega) (by first | exact Nat.le_of_ble_eq_true rfl | omega | (dsimp only [headSpec]; omega) | (simp only [headSpec]; omega) | omega) ?_
  refine lv_dup hx hb dX0_init_22 rfl ?_
  refine lv_sipush (v := nI 200) hx hb dX0_init_23 (by decide) ?_
  have hPc : va_P (dC, dI) vwCl [(q_3, .inr (13, [.null, .int (nI 0)]))] _ := hP.sub [1] rfl
  have hDc : va_D _ [(q_3, .inr (13, [.null, .int (nI 0)]))] := hD.sub [1] (by decide) rfl
  have hFc := va_free (wc := [(q_3, .inr (13, [.null, .int (nI 0)]))]) hD hS hA [1] rfl
  refine va_callv (va_runI (As := [.int (nI 200)]) (rest := [.ref q_3, .ref h]) ⟨hx, hb, hml, hown, hts⟩ (c_rowinit l dC dI cI cO H.size q_3 200 (by omega)) (cwI 1 hts ugX0_init_X6_init rfl rfl rfl (hts (.initialized RX6) (by decide +kernel)) (hts (.methodLink RX0 11 yX6_init) (by decide +kernel)) (hts (.instanceMethod yX6_init) (by decide +kernel)) rfl (by decide +kernel) ⟨(by first | exact Nat.le_of_ble_eq_true rfl | omega | (dsimp only [headSpec]; omega) | (simp only [headSpec]; omega) | omega), (by first | exact Nat.le_of_ble_eq_true rfl | omega | (dsimp only [headSpec]; omega) | (simp only [headSpec]; omega) | omega)⟩) ⟨fun a U g mk q => by obtain ⟨q0, q1, qP, qK, qD⟩ := q; exact ⟨q0, q1, qP, va_K.moved (u := U) (U := U.calling g mk a) (Vm.Alike.refl U.vm) qK, qD⟩, fun U hU hW => ⟨rfl, by rw [hU], by rw [hU]; exact hPc, va_K.moved hW.alike hK, hDc.weaken (fun _ _ _ _ => trivial)⟩⟩ rfl rfl hl.1 rfl (lv_room (Nat.le_of_ble_eq_true rfl)) dX0_init_26 ⟨(by first | exact Nat.le_of_ble_eq_true rfl | omega | (dsimp only [headSpec]; omega) | (simp only [headSpec]; omega) | omega), (by first | exact Nat.le_of_ble_eq_true rfl | omega | (dsimp only [headSpec]; omega) | (simp only [headSpec]; omega) | omega)⟩) hS (fun q _ h => hFc q h) hFc (fun u t H locs ht hvm hw hB hz1 hk1 hS => ?_)
  obtain ⟨a_4, hP1, hK1, hD1⟩ := hB
  rw [ht] at hP1
  obtain ⟨hP, hD⟩ := va_join (wr := [(h, .inr (7, [.ref q_1, .null, .int (nI 0), .int (nI 0), .int (nI 0)]))]) (w1 := [(q_3, .inr (13, [.ref a_4, .int (nI 0)])), wa a_4 cI 200 (fun _ => 0)]) hP hD [1] [0] rfl rfl (by decide) (by decide) hk1 hFc hP1 hD1
  have hP : va_P (dC, dI) vwCl [(h, .inr (7, [.ref q_1, .null, .int (nI 0), .int (nI 0), .int (nI 0)])), (q_3, .inr (13, [.ref a_4, .int (nI 0)])), wa a_4 cI 200 (fun _ => 0)] H := hP
  have hD : va_D A [(h, .inr (7, [.ref q_1, .null, .int (nI 0), .int (nI 0), .int (nI 0)])), (q_3, .inr (13, [.ref a_4, .int (nI 0)])), wa a_4 cI 200 (fun _ => 0)] := hD
  refine W.widen (k := 4) (n := 404) (by first | exact Nat.le_of_ble_eq_true rfl | omega | (dsimp only [headSpec]; omega) | (simp only [headSpec]; omega) | omega) (by first | exact Nat.le_of_ble_eq_true rfl | omega | (dsimp only [headSpec]; omega) | (simp only [headSpec]; omega) | omega) ?_
  have hP : va_P (dC, dI) vwCl [(h, .inr (7, [.ref q_1, .null, .int (nI 0), .int (nI 0), .int (nI 0)]))] H := hP.sub [0] rfl
  have hD : va_D A [(h, .inr (7, [.ref q_1, .null, .int (nI 0), .int (nI 0), .int (nI 0)]))] := hD.sub [0] (by decide) rfl
  refine va_putF (D := (dC, dI)) (ci := 7) (v := .ref q_3) (ty := .object "Patchferry$Row") (C := RX0) (T := TX0) (N := 5) hx hb hts inX0_init_RX0 tyX0 tyX0_ok nmX0 hown hK hP hD hS 0 rfl rfl 1 (by decide) (hts (.fieldLink RX0 20 "Patchferry$Blocks" "strongs" "LPatchferry$Row;") (by decide +kernel)) (fun _ h9 => h9) rfl hin rfl (by decide +kernel) rfl rfl (Nat.le_of_ble_eq_true rfl) dX0_init_29 (fun H locs hP hD hS => ?_)
  have hP : va_P (dC, dI) vwCl [(h, .inr (7, [.ref q_1, .ref q_3, .int (nI 0), .int (nI 0), .int (nI 0)]))] H := hP
  have hD : va_D A [(h, .inr (7, [.ref q_1, .ref q_3, .int (nI 0), .int (nI 0), .int (nI 0)]))] := hD
  have hPe : va_P (dC, dI) vwCl [] _ := hP.sub [] rfl
  have hDe : va_D A [] := hD.sub [] (by decide) rfl
  refine W.widen (k := 4) (n := 404) (by first | exact Nat.le_of_ble_eq_true rfl | omega | (dsimp only [headSpec]; omega) | (simp only [headSpec]; omega) | omega) (by first | exact Nat.le_of_ble_eq_true rfl | omega | (dsimp only [headSpec]; omega) | (simp only [headSpec]; omega) | omega) ?_
  exact W.vret hx hb hr (fun t ht hW => ⟨⟨(), rfl, trivial, by rw [ht]; exact hPe, va_K.moved hW.alike hK, hDe⟩, hS.F ht⟩) hS.2.2 dX0_init_32
set_option maxHeartbeats 4000000 in
set_option maxRecDepth 100000 in
theorem c_programinit (l : Launch) (dC : Nat → ClassId) (dI : Nat → Nat → Nat) (cI cO : ClassId) (sz : Nat) (h : Nat) : Met l yX5_init usX5_init ({ frames := 2, cells := 4, slots := 406, locals := 37 }) (va_Pc [.ref h] (fun U => U.heap.size = sz ∧ va_P (dC, dI) vwCl [(h, .inr (12, [.null, .null]))] U.heap ∧ va_K (dC, dI) vwCl (ty0 cI cO) U ∧ va_D (fun _ => True) [(h, .inr (12, [.null, .null]))])) (va_Qv (fun _ : Unit => True) (fun _ t => va_P (dC, dI) vwCl [] t.heap ∧ va_K (dC, dI) vwCl (ty0 cI cO) t ∧ va_D (va_A [(h, .inr (12, [.null, .null]))] sz) []) (va_A [(h, .inr (12, [.null, .null]))] sz)) 4 406 (va_A [(h, .inr (12, [.null, .null]))] sz) := by
  refine Met.ofW (cc := cX5_init) (maxL := 1) (ret := none) (by decide) rfl ?_
  intro p e s m args below meth c s₁ B hml hv
  obtain ⟨rfl, hsz, hP, hK, hD0⟩ := hv
  have hx := B.exec
  have hb := B.bytes
  have hr := B.returns
  have hts := atoms_spec (ws := usX5_init) B.pre
  have hown : s.vm.findClass RX5 = some m.cls := findClass_of_methodNamed B.named
  have hlocks := B.notSynchronized
  have hin : meth.name = "<init>" := (name_of_methodNamed B.named B.method).1
  subst hsz
  have hD := hD0.self (sz := s.heap.size)
  generalize hAe : va_A [(h, .inr (12, [.null, .null]))] s.heap.size = A at hD ⊢
  have hA : ∀ q : Nat, s.heap.size ≤ q → A q := fun q h => by rw [← hAe]; exact Or.inr h
  have hS : va_S A s.heap s.heap [] := va_S.rf
  have hl := lv_entry ([.ref h]) (n := 1) (Nat.le_of_ble_eq_true rfl)
  rw [lg_entry_eq]
  generalize (lg_sl ([.ref h]) ++ List.replicate (1 - (lg_sl ([.ref h])).length) Slot.unset).toArray = ls at hl ⊢
  have hl : lv_has ls 1 [(0, .ref h)] := hl
  refine lv_aload_n hx hb dX5_init_0 rfl (lv_at hl 0 rfl) ?_
  refine W.objInit hx hb hown (hts (.methodLink RX5 3 objectInit) (by decide +kernel)) (hts (.instanceMethod objectInit) (by decide +kernel)) (hts _ (List.mem_of_getElem? (i := 3) rfl)) rfl (by rw [hml]; exact hl.1) rfl dX5_init_1 (by first | exact Nat.le_of_ble_eq_true rfl | omega | (dsimp only [headSpec]; omega) | (simp only [headSpec]; omega) | omega) (by first | exact Nat.le_of_ble_eq_true rfl | omega | (dsimp only [headSpec]; omega) | (simp only [headSpec]; omega) | omega) ?_
  refine W.eq (g2 := F0 m 4 ls []) rfl ?_
  refine lv_aload_n hx hb dX5_init_4 rfl (lv_at hl 0 rfl) ?_
  refine va_new (ci := 13) (fs := [.null, .int (nI 0)]) (C := RX6) (T := TX6) (N := 2) hx hb hts inX5_init_RX6 tyX6 tyX6_ok hown (hts (.classLink RX5 9 RX6) (by decide +kernel)) (hts (.instantiable RX6 2) (by decide +kernel)) (hts (.initialized RX6) (by decide +kernel)) hK hP hD hS hA rfl (fun j hj => by rcases (show j = 0 ∨ j = 1 by omega) with rfl | rfl <;> rfl) (by first | exact Nat.le_of_ble_eq_true rfl | omega | (dsimp only [headSpec]; omega) | (simp only [headSpec]; omega) | omega) (by first | exact Nat.le_of_ble_eq_true rfl | omega | (dsimp only [headSpec]; omega) | (simp only [headSpec]; omega) | omega) dX5_init_5 (fun q_1 H hP hD hS => ?_)
  have hP : va_P (dC, dI) vwCl [(h, .inr (12, [.null, .null])), (q_1, .inr (13, [.null, .int (nI 0)]))] H := hP
  have hD : va_D A [(h, .inr (12, [.null, .null])), (q_1, .inr (13, [.null, .int (nI 0)]))] := hD
  refine W.widen (k := 1) (n := 2) (by first | exact Nat.le_of_ble_eq_true rfl | omega | (dsimp only [headSpec]; omega) | (simp only [headSpec]; omega) | omega) (by first | exact Nat.le_of_ble_eq_true rfl | omega | (dsimp only [headSpec]; omega) | (simp only [headSpec]; omega) | omega) ?_
  refine lv_dup hx hb dX5_init_8 rfl ?_
  refine lv_sipush (v := nI 201) hx hb dX5_init_9 (by decide) ?_
  have hPc : va_P (dC, dI) vwCl [(q_1, .inr (13, [.null, .int (nI 0)]))] _ := hP.sub [1] rfl
  have hDc : va_D _ [(q_1, .inr (13, [.null, .int (nI 0)]))] := hD.sub [1] (by decide) rfl
  have hFc := va_free (wc := [(q_1, .inr (13, [.null, .int (nI 0)]))]) hD hS hA [1] rfl
  refine va_callv (va_runI (As := [.int (nI 201)]) (rest := [.ref q_1, .ref h]) ⟨hx, hb, hml, hown, hts⟩ (c_rowinit l dC dI cI cO H.size q_1 201 (by omega)) (cwI 1 hts ugX5_init_X6_init rfl rfl rfl (hts (.initialized RX6) (by decide +kernel)) (hts (.methodLink RX5 11 yX6_init) (by decide +kernel)) (hts (.instanceMethod yX6_init) (by decide +kernel)) rfl (by decide +kernel) ⟨(by first | exact Nat.le_of_ble_eq_true rfl | omega | (dsimp only [headSpec]; omega) | (simp only [headSpec]; omega) | omega), (by first | exact Nat.le_of_ble_eq_true rfl | omega | (dsimp only [headSpec]; omega) | (simp only [headSpec]; omega) | omega)⟩) ⟨fun a U g mk q => by obtain ⟨q0, q1, qP, qK, qD⟩ := q; exact ⟨q0, q1, qP, va_K.moved (u := U) (U := U.calling g mk a) (Vm.Alike.refl U.vm) qK, qD⟩, fun U hU hW => ⟨rfl, by rw [hU], by rw [hU]; exact hPc, va_K.moved hW.alike hK, hDc.weaken (fun _ _ _ _ => trivial)⟩⟩ rfl rfl hl.1 rfl (lv_room (Nat.le_of_ble_eq_true rfl)) dX5_init_12 ⟨(by first | exact Nat.le_of_ble_eq_true rfl | omega | (dsimp only [headSpec]; omega) | (simp only [headSpec]; omega) | omega), (by first | exact Nat.le_of_ble_eq_true rfl | omega | (dsimp only [headSpec]; omega) | (simp only [headSpec]; omega) | omega)⟩) hS (fun q _ h => hFc q h) hFc (fun u t H locs ht hvm hw hB hz1 hk1 hS => ?_)
  obtain ⟨a_2, hP1, hK1, hD1⟩ := hB
  rw [ht] at hP1
  obtain ⟨hP, hD⟩ := va_join (wr := [(h, .inr (12, [.null, .null]))]) (w1 := [(q_1, .inr (13, [.ref a_2, .int (nI 0)])), wa a_2 cI 201 (fun _ => 0)]) hP hD [1] [0] rfl rfl (by decide) (by decide) hk1 hFc hP1 hD1
  have hP : va_P (dC, dI) vwCl [(h, .inr (12, [.null, .null])), (q_1, .inr (13, [.ref a_2, .int (nI 0)])), wa a_2 cI 201 (fun _ => 0)] H := hP
  have hD : va_D A [(h, .inr (12, [.null, .null])), (q_1, .inr (13, [.ref a_2, .int (nI 0)])), wa a_2 cI 201 (fun _ => 0)] := hD
  refine W.widen (k := 2) (n := 203) (by first | exact Nat.le_of_ble_eq_true rfl | omega | (dsimp only [headSpec]; omega) | (simp only [headSpec]; omega) | omega) (by first | exact Nat.le_of_ble_eq_true rfl | omega | (dsimp only [headSpec]; omega) | (simp only [headSpec]; omega) | omega) ?_
  have hP : va_P (dC, dI) vwCl [(h, .inr (12, [.null, .null]))] H := hP.sub [0] rfl
  have hD : va_D A [(h, .inr (12, [.null, .null]))] := hD.sub [0] (by decide) rfl
  refine va_putF (D := (dC, dI)) (ci := 12) (v := .ref q_1) (ty := .object "Patchferry$Row") (C := RX5) (T := TX5) (N := 2) hx hb hts inX5_init_RX5 tyX5 tyX5_ok nmX5 hown hK hP hD hS 0 rfl rfl 0 (by decide) (hts (.fieldLink RX5 14 "Patchferry$Program" "marks" "LPatchferry$Row;") (by decide +kernel)) (fun _ h9 => h9) rfl hin rfl (by decide +kernel) rfl rfl (Nat.le_of_ble_eq_true rfl) dX5_init_15 (fun H locs hP hD hS => ?_)
  have hP : va_P (dC, dI) vwCl [(h, .inr (12, [.ref q_1, .null]))] H := hP
  have hD : va_D A [(h, .inr (12, [.ref q_1, .null]))] := hD
  refine lv_aload_n hx hb dX5_init_18 rfl (lv_at hl 0 rfl) ?_
  refine va_new (ci := 13) (fs := [.null, .int (nI 0)]) (C := RX6) (T := TX6) (N := 2) hx hb hts inX5_init_RX6 tyX6 tyX6_ok hown (hts (.classLink RX5 9 RX6) (by decide +kernel)) (hts (.instantiable RX6 2) (by decide +kernel)) (hts (.initialized RX6) (by decide +kernel)) hK hP hD hS hA rfl (fun j hj => by rcases (show j = 0 ∨ j = 1 by omega) with rfl | rfl <;> rfl) (by first | exact Nat.le_of_ble_eq_true rfl | omega | (dsimp only [headSpec]; omega) | (simp only [headSpec]; omega) | omega) (by first | exact Nat.le_of_ble_eq_true rfl | omega | (dsimp only [headSpec]; omega) | (simp only [headSpec]; omega) | omega) dX5_init_19 (fun q_3 H hP hD hS => ?_)
  have hP : va_P (dC, dI) vwCl [(h, .inr (12, [.ref q_1, .null])), (q_3, .inr (13, [.null, .int (nI 0)]))] H := hP
  have hD : va_D A [(h, .inr (12, [.ref q_1, .null])), (q_3, .inr (13, [.null, .int (nI 0)]))] := hD
  refine W.widen (k := 3) (n := 205) (by first | exact Nat.le_of_ble_eq_true rfl | omega | (dsimp only [headSpec]; omega) | (simp only [headSpec]; omega) | omega) (by first | exact Nat.le_of_ble_eq_true rfl | omega | (dsimp only [headSpec]; omega) | (simp only [headSpec]; omega) | omega) ?_
  refine lv_dup hx hb dX5_init_22 rfl ?_
  refine lv_sipush (v := nI 201) hx hb dX5_init_23 (by decide) ?_
  have hPc : va_P (dC, dI) vwCl [(q_3, .inr (13, [.null, .int (nI 0)]))] _ := hP.sub [1] rfl
  have hDc : va_D _ [(q_3, .inr (13, [.null, .int (nI 0)]))] := hD.sub [1] (by decide) rfl
  have hFc := va_free (wc := [(q_3, .inr (13, [.null, .int (nI 0)]))]) hD hS hA [1] rfl
  refine va_callv (va_runI (As := [.int (nI 201)]) (rest := [.ref q_3, .ref h]) ⟨hx, hb, hml, hown, hts⟩ (c_rowinit l dC dI cI cO H.size q_3 201 (by omega)) (cwI 1 hts ugX5_init_X6_init rfl rfl rfl (hts (.initialized RX6) (by decide +kernel)) (hts (.methodLink RX5 11 yX6_init) (by decide +kernel)) (hts (.instanceMethod yX6_init) (by decide +kernel)) rfl (by decide +kernel) ⟨(by first | exact Nat.le_of_ble_eq_true rfl | omega | (dsimp only [headSpec]; omega) | (simp only [headSpec]; omega) | omega), (by first | exact Nat.le_of_ble_eq_true rfl | omega | (dsimp only [headSpec]; omega) | (simp only [headSpec]; omega) | omega)⟩) ⟨fun a U g mk q => by obtain ⟨q0, q1, qP, qK, qD⟩ := q; exact ⟨q0, q1, qP, va_K.moved (u := U) (U := U.calling g mk a) (Vm.Alike.refl U.vm) qK, qD⟩, fun U hU hW => ⟨rfl, by rw [hU], by rw [hU]; exact hPc, va_K.moved hW.alike hK, hDc.weaken (fun _ _ _ _ => trivial)⟩⟩ rfl rfl hl.1 rfl (lv_room (Nat.le_of_ble_eq_true rfl)) dX5_init_26 ⟨(by first | exact Nat.le_of_ble_eq_true rfl | omega | (dsimp only [headSpec]; omega) | (simp only [headSpec]; omega) | omega), (by first | exact Nat.le_of_ble_eq_true rfl | omega | (dsimp only [headSpec]; omega) | (simp only [headSpec]; omega) | omega)⟩) hS (fun q _ h => hFc q h) hFc (fun u t H locs ht hvm hw hB hz1 hk1 hS => ?_)
  obtain ⟨a_4, hP1, hK1, hD1⟩ := hB
  rw [ht] at hP1
  obtain ⟨hP, hD⟩ := va_join (wr := [(h, .inr (12, [.ref q_1, .null]))]) (w1 := [(q_3, .inr (13, [.ref a_4, .int (nI 0)])), wa a_4 cI 201 (fun _ => 0)]) hP hD [1] [0] rfl rfl (by decide) (by decide) hk1 hFc hP1 hD1
  have hP : va_P (dC, dI) vwCl [(h, .inr (12, [.ref q_1, .null])), (q_3, .inr (13, [.ref a_4, .int (nI 0)])), wa a_4 cI 201 (fun _ => 0)] H := hP
  have hD : va_D A [(h, .inr (12, [.ref q_1, .null])), (q_3, .inr (13, [.ref a_4, .int (nI 0)])), wa a_4 cI 201 (fun _ => 0)] := hD
  refine W.widen (k := 4) (n := 406) (by first | exact Nat.le_of_ble_eq_true rfl | omega | (dsimp only [headSpec]; omega) | (simp only [headSpec]; omega) | omega) (by first | exact Nat.le_of_ble_eq_true rfl | omega | (dsimp only [headSpec]; omega) | (simp only [headSpec]; omega) | omega) ?_
  have hP : va_P (dC, dI) vwCl [(h, .inr (12, [.ref q_1, .null]))] H := hP.sub [0] rfl
  have hD : va_D A [(h, .inr (12, [.ref q_1, .null]))] := hD.sub [0] (by decide) rfl
  refine va_putF (D := (dC, dI)) (ci := 12) (v := .ref q_3) (ty := .object "Patchferry$Row") (C := RX5) (T := TX5) (N := 2) hx hb hts inX5_init_RX5 tyX5 tyX5_ok nmX5 hown hK hP hD hS 0 rfl rfl 1 (by decide) (hts (.fieldLink RX5 20 "Patchferry$Program" "places" "LPatchferry$Row;") (by decide +kernel)) (fun _ h9 => h9) rfl hin rfl (by decide +kernel) rfl rfl (Nat.le_of_ble_eq_true rfl) dX5_init_29 (fun H locs hP hD hS => ?_)
  have hP : va_P (dC, dI) vwCl [(h, .inr (12, [.ref q_1, .ref q_3]))] H := hP
  have hD : va_D A [(h, .inr (12, [.ref q_1, .ref q_3]))] := hD
  have hPe : va_P (dC, dI) vwCl [] _ := hP.sub [] rfl
  have hDe : va_D A [] := hD.sub [] (by decide) rfl
  refine W.widen (k := 4) (n := 406) (by first | exact Nat.le_of_ble_eq_true rfl | omega | (dsimp only [headSpec]; omega) | (simp only [headSpec]; omega) | omega) (by first | exact Nat.le_of_ble_eq_true rfl | omega | (dsimp only [headSpec]; omega) | (simp only [headSpec]; omega) | omega) ?_
  exact W.vret hx hb hr (fun t ht hW => ⟨⟨(), rfl, trivial, by rw [ht]; exact hPe, va_K.moved hW.alike hK, hDe⟩, hS.F ht⟩) hS.2.2 dX5_init_32
set_option maxHeartbeats 4000000 in
set_option maxRecDepth 100000 in
theorem c_diskinit (l : Launch) (dC : Nat → ClassId) (dI : Nat → Nat → Nat) (cI cO : ClassId) (sz : Nat) (h : Nat) : Met l yX2_init usX2_init ({ frames := 3, cells := 21, slots := 1254, locals := 57 }) (va_Pc [.ref h] (fun U => U.heap.size = sz ∧ va_P (dC, dI) vwCl [(h, .inr (9, [.null, .null, .null, .null, .null, .null, .null, .int (nI 0), .int (nI 0), .int (nI 0), .int (nI 0), .int (nI 0)]))] U.heap ∧ va_K (dC, dI) vwCl (ty0 cI cO) U ∧ va_D (fun _ => True) [(h, .inr (9, [.null, .null, .null, .null, .null, .null, .null, .int (nI 0), .int (nI 0), .int (nI 0), .int (nI 0), .int (nI 0)]))])) (va_Qv (fun _ : Unit => True) (fun _ t => va_P (dC, dI) vwCl [] t.heap ∧ va_K (dC, dI) vwCl (ty0 cI cO) t ∧ va_D (va_A [(h, .inr (9, [.null, .null, .null, .null, .null, .null, .null, .int (nI 0), .int (nI 0), .int (nI 0), .int (nI 0), .int (nI 0)]))] sz) []) (va_A [(h, .inr (9, [.null, .null, .null, .null, .null, .null, .null, .int (nI 0), .int (nI 0), .int (nI 0), .int (nI 0), .int (nI 0)]))] sz)) 21 1254 (va_A [(h, .inr (9, [.null, .null, .null, .null, .null, .null, .null, .int (nI 0), .int (nI 0), .int (nI 0), .int (nI 0), .int (nI 0)]))] sz) := by
  refine Met.ofW (cc := cX2_init) (maxL := 1) (ret := none) (by decide) rfl ?_
  intro p e s m args below meth c s₁ B hml hv
  obtain ⟨rfl, hsz, hP, hK, hD0⟩ := hv
  have hx := B.exec
  have hb := B.bytes
  have hr := B.returns
  have hts := atoms_spec (ws := usX2_init) B.pre
  have hown : s.vm.findClass RX2 = some m.cls := findClass_of_methodNamed B.named
  have hlocks := B.notSynchronized
  have hin : meth.name = "<init>" := (name_of_methodNamed B.named B.method).1
  subst hsz
  have hD := hD0.self (sz := s.heap.size)
  generalize hAe : va_A [(h, .inr (9, [.null, .null, .null, .null, .null, .null, .null, .int (nI 0), .int (nI 0), .int (nI 0), .int (nI 0), .int (nI 0)]))] s.heap.size = A at hD ⊢
  have hA : ∀ q : Nat, s.heap.size ≤ q → A q := fun q h => by rw [← hAe]; exact Or.inr h
  have hS : va_S A s.heap s.heap [] := va_S.rf
  have hl := lv_entry ([.ref h]) (n := 1) (Nat.le_of_ble_eq_true rfl)
  rw [lg_entry_eq]
  generalize (lg_sl ([.ref h]) ++ List.replicate (1 - (lg_sl ([.ref h])).length) Slot.unset).toArray = ls at hl ⊢
  have hl : lv_has ls 1 [(0, .ref h)] := hl
  refine lv_aload_n hx hb dX2_init_0 rfl (lv_at hl 0 rfl) ?_
  refine W.objInit hx hb hown (hts (.methodLink RX2 3 objectInit) (by decide +kernel)) (hts (.instanceMethod objectInit) (by decide +kernel)) (hts _ (List.mem_of_getElem? (i := 3) rfl)) rfl (by rw [hml]; exact hl.1) rfl dX2_init_1 (by first | exact Nat.le_of_ble_eq_true rfl | omega | (dsimp only [headSpec]; omega) | (simp only [headSpec]; omega) | omega) (by first | exact Nat.le_of_ble_eq_true rfl | omega | (dsimp only [headSpec]; omega) | (simp only [headSpec]; omega) | omega) ?_
  refine W.eq (g2 := F0 m 4 ls []) rfl ?_
  refine lv_aload_n hx hb dX2_init_4 rfl (lv_at hl 0 rfl) ?_
  refine va_new (ci := 13) (fs := [.null, .int (nI 0)]) (C := RX6) (T := TX6) (N := 2) hx hb hts inX2_init_RX6 tyX6 tyX6_ok hown (hts (.classLink RX2 9 RX6) (by decide +kernel)) (hts (.instantiable RX6 2) (by decide +kernel)) (hts (.initialized RX6) (by decide +kernel)) hK hP hD hS hA rfl (fun j hj => by rcases (show j = 0 ∨ j = 1 by omega) with rfl | rfl <;> rfl) (by first | exact Nat.le_of_ble_eq_true rfl | omega | (dsimp only [headSpec]; omega) | (simp only [headSpec]; omega) | omega) (by first | exact Nat.le_of_ble_eq_true rfl | omega | (dsimp only [headSpec]; omega) | (simp only [headSpec]; omega) | omega) dX2_init_5 (fun q_1 H hP hD hS => ?_)
  have hP : va_P (dC, dI) vwCl [(h, .inr (9, [.null, .null, .null, .null, .null, .null, .null, .int (nI 0), .int (nI 0), .int (nI 0), .int (nI 0), .int (nI 0)])), (q_1, .inr (13, [.null, .int (nI 0)]))] H := hP
  have hD : va_D A [(h, .inr (9, [.null, .null, .null, .null, .null, .null, .null, .int (nI 0), .int (nI 0), .int (nI 0), .int (nI 0), .int (nI 0)])), (q_1, .inr (13, [.null, .int (nI 0)]))] := hD
  refine W.widen (k := 1) (n := 2) (by first | exact Nat.le_of_ble_eq_true rfl | omega | (dsimp only [headSpec]; omega) | (simp only [headSpec]; omega) | omega) (by first | exact Nat.le_of_ble_eq_true rfl | omega | (dsimp only [headSpec]; omega) | (simp only [headSpec]; omega) | omega) ?_
  refine lv_dup hx hb dX2_init_8 rfl ?_
  refine lv_sipush (v := nI 200) hx hb dX2_init_9 (by decide) ?_
  have hPc : va_P (dC, dI) vwCl [(q_1, .inr (13, [.null, .int (nI 0)]))] _ := hP.sub [1] rfl
  have hDc : va_D _ [(q_1, .inr (13, [.null, .int (nI 0)]))] := hD.sub [1] (by decide) rfl
  have hFc := va_free (wc := [(q_1, .inr (13, [.null, .int (nI 0)]))]) hD hS hA [1] rfl
  refine va_callv (va_runI (As := [.int (nI 200)]) (rest := [.ref q_1, .ref h]) ⟨hx, hb, hml, hown, hts⟩ (c_rowinit l dC dI cI cO H.size q_1 200 (by omega)) (cwI 1 hts ugX2_init_X6_init rfl rfl rfl (hts (.initialized RX6) (by decide +kernel)) (hts (.methodLink RX2 11 yX6_init) (by decide +kernel)) (hts (.instanceMethod yX6_init) (by decide +kernel)) rfl (by decide +kernel) ⟨(by first | exact Nat.le_of_ble_eq_true rfl | omega | (dsimp only [headSpec]; omega) | (simp only [headSpec]; omega) | omega), (by first | exact Nat.le_of_ble_eq_true rfl | omega | (dsimp only [headSpec]; omega) | (simp only [headSpec]; omega) | omega)⟩) ⟨fun a U g mk q => by obtain ⟨q0, q1, qP, qK, qD⟩ := q; exact ⟨q0, q1, qP, va_K.moved (u := U) (U := U.calling g mk a) (Vm.Alike.refl U.vm) qK, qD⟩, fun U hU hW => ⟨rfl, by rw [hU], by rw [hU]; exact hPc, va_K.moved hW.alike hK, hDc.weaken (fun _ _ _ _ => trivial)⟩⟩ rfl rfl hl.1 rfl (lv_room (Nat.le_of_ble_eq_true rfl)) dX2_init_12 ⟨(by first | exact Nat.le_of_ble_eq_true rfl | omega | (dsimp only [headSpec]; omega) | (simp only [headSpec]; omega) | omega), (by first | exact Nat.le_of_ble_eq_true rfl | omega | (dsimp only [headSpec]; omega) | (simp only [headSpec]; omega) | omega)⟩) hS (fun q _ h => hFc q h) hFc (fun u t H locs ht hvm hw hB hz1 hk1 hS => ?_)
  obtain ⟨a_2, hP1, hK1, hD1⟩ := hB
  rw [ht] at hP1
  obtain ⟨hP, hD⟩ := va_join (wr := [(h, .inr (9, [.null, .null, .null, .null, .null, .null, .null, .int (nI 0), .int (nI 0), .int (nI 0), .int (nI 0), .int (nI 0)]))]) (w1 := [(q_1, .inr (13, [.ref a_2, .int (nI 0)])), wa a_2 cI 200 (fun _ => 0)]) hP hD [1] [0] rfl rfl (by decide) (by decide) hk1 hFc hP1 hD1
  have hP : va_P (dC, dI) vwCl [(h, .inr (9, [.null, .null, .null, .null, .null, .null, .null, .int (nI 0), .int (nI 0), .int (nI 0), .int (nI 0), .int (nI 0)])), (q_1, .inr (13, [.ref a_2, .int (nI 0)])), wa a_2 cI 200 (fun _ => 0)] H := hP
  have hD : va_D A [(h, .inr (9, [.null, .null, .null, .null, .null, .null, .null, .int (nI 0), .int (nI 0), .int (nI 0), .int (nI 0), .int (nI 0)])), (q_1, .inr (13, [.ref a_2, .int (nI 0)])), wa a_2 cI 200 (fun _ => 0)] := hD
  refine W.widen (k := 2) (n := 202) (by first | exact Nat.le_of_ble_eq_true rfl | omega | (dsimp only [headSpec]; omega) | (simp only [headSpec]; omega) | omega) (by first | exact Nat.le_of_ble_eq_true rfl | omega | (dsimp only [headSpec]; omega) | (simp only [headSpec]; omega) | omega) ?_
  have hP : va_P (dC, dI) vwCl [(h, .inr (9, [.null, .null, .null, .null, .null, .null, .null, .int (nI 0), .int (nI 0), .int (nI 0), .int (nI 0), .int (nI 0)]))] H := hP.sub [0] rfl
  have hD : va_D A [(h, .inr (9, [.null, .null, .null, .null, .null, .null, .null, .int (nI 0), .int (nI 0), .int (nI 0), .int (nI 0), .int (nI 0)]))] := hD.sub [0] (by decide) rfl
  refine va_putF (D := (dC, dI)) (ci := 9) (v := .ref q_1) (ty := .object "Patchferry$Row") (C := RX2) (T := TX2) (N := 12) hx hb hts inX2_init_RX2 tyX2 tyX2_ok nmX2 hown hK hP hD hS 0 rfl rfl 0 (by decide) (hts (.fieldLink RX2 14 "Patchferry$Disk" "cells" "LPatchferry$Row;") (by decide +kernel)) (fun _ h9 => h9) rfl hin rfl (by decide +kernel) rfl rfl (Nat.le_of_ble_eq_true rfl) dX2_init_15 (fun H locs hP hD hS => ?_)
  have hP : va_P (dC, dI) vwCl [(h, .inr (9, [.ref q_1, .null, .null, .null, .null, .null, .null, .int (nI 0), .int (nI 0), .int (nI 0), .int (nI 0), .int (nI 0)]))] H := hP
  have hD : va_D A [(h, .inr (9, [.ref q_1, .null, .null, .null, .null, .null, .null, .int (nI 0), .int (nI 0), .int (nI 0), .int (nI 0), .int (nI 0)]))] := hD
  refine lv_aload_n hx hb dX2_init_18 rfl (lv_at hl 0 rfl) ?_
  refine va_new (ci := 13) (fs := [.null, .int (nI 0)]) (C := RX6) (T := TX6) (N := 2) hx hb hts inX2_init_RX6 tyX6 tyX6_ok hown (hts (.classLink RX2 9 RX6) (by decide +kernel)) (hts (.instantiable RX6 2) (by decide +kernel)) (hts (.initialized RX6) (by decide +kernel)) hK hP hD hS hA rfl (fun j hj => by rcases (show j = 0 ∨ j = 1 by omega) with rfl | rfl <;> rfl) (by first | exact Nat.le_of_ble_eq_true rfl | omega | (dsimp only [headSpec]; omega) | (simp only [headSpec]; omega) | omega) (by first | exact Nat.le_of_ble_eq_true rfl | omega | (dsimp only [headSpec]; omega) | (simp only [headSpec]; omega) | omega) dX2_init_19 (fun q_3 H hP hD hS => ?_)
  have hP : va_P (dC, dI) vwCl [(h, .inr (9, [.ref q_1, .null, .null, .null, .null, .null, .null, .int (nI 0), .int (nI 0), .int (nI 0), .int (nI 0), .int (nI 0)])), (q_3, .inr (13, [.null, .int (nI 0)]))] H := hP
  have hD : va_D A [(h, .inr (9, [.ref q_1, .null, .null, .null, .null, .null, .null, .int (nI 0), .int (nI 0), .int (nI 0), .int (nI 0), .int (nI 0)])), (q_3, .inr (13, [.null, .int (nI 0)]))] := hD
  refine W.widen (k := 3) (n := 204) (by first | exact Nat.le_of_ble_eq_true rfl | omega | (dsimp only [headSpec]; omega) | (simp only [headSpec]; omega) | omega) (by first | exact Nat.le_of_ble_eq_true rfl | omega | (dsimp only [headSpec]; omega) | (simp only [headSpec]; omega) | omega) ?_
  refine lv_dup hx hb dX2_init_22 rfl ?_
  refine lv_sipush (v := nI 200) hx hb dX2_init_23 (by decide) ?_
  have hPc : va_P (dC, dI) vwCl [(q_3, .inr (13, [.null, .int (nI 0)]))] _ := hP.sub [1] rfl
  have hDc : va_D _ [(q_3, .inr (13, [.null, .int (nI 0)]))] := hD.sub [1] (by decide) rfl
  have hFc := va_free (wc := [(q_3, .inr (13, [.null, .int (nI 0)]))]) hD hS hA [1] rfl
  refine va_callv (va_runI (As := [.int (nI 200)]) (rest := [.ref q_3, .ref h]) ⟨hx, hb, hml, hown, hts⟩ (c_rowinit l dC dI cI cO H.size q_3 200 (by omega)) (cwI 1 hts ugX2_init_X6_init rfl rfl rfl (hts (.initialized RX6) (by decide +kernel)) (hts (.methodLink RX2 11 yX6_init) (by decide +kernel)) (hts (.instanceMethod yX6_init) (by decide +kernel)) rfl (by decide +kernel) ⟨(by first | exact Nat.le_of_ble_eq_true rfl | omega | (dsimp only [headSpec]; omega) | (simp only [headSpec]; omega) | omega), (by first | exact Nat.le_of_ble_eq_true rfl | omega | (dsimp only [headSpec]; omega) | (simp only [headSpec]; omega) | omega)⟩) ⟨fun a U g mk q => by obtain ⟨q0, q1, qP, qK, qD⟩ := q; exact ⟨q0, q1, qP, va_K.moved (u := U) (U := U.calling g mk a) (Vm.Alike.refl U.vm) qK, qD⟩, fun U hU hW => ⟨rfl, by rw [hU], by rw [hU]; exact hPc, va_K.moved hW.alike hK, hDc.weaken (fun _ _ _ _ => trivial)⟩⟩ rfl rfl hl.1 rfl (lv_room (Nat.le_of_ble_eq_true rfl)) dX2_init_26 ⟨(by first | exact Nat.le_of_ble_eq_true rfl | omega | (dsimp only [headSpec]; omega) | (simp only [headSpec]; omega) | omega), (by first | exact Nat.le_of_ble_eq_true rfl | omega | (dsimp only [headSpec]; omega) | (simp only [headSpec]; omega) | omega)⟩) hS (fun q _ h => hFc q h) hFc (fun u t H locs ht hvm hw hB hz1 hk1 hS => ?_)
  obtain ⟨a_4, hP1, hK1, hD1⟩ := hB
  rw [ht] at hP1
  obtain ⟨hP, hD⟩ := va_join (wr := [(h, .inr (9, [.ref q_1, .null, .null, .null, .null, .null, .null, .int (nI 0), .int (nI 0), .int (nI 0), .int (nI 0), .int (nI 0)]))]) (w1 := [(q_3, .inr (13, [.ref a_4, .int (nI 0)])), wa a_4 cI 200 (fun _ => 0)]) hP hD [1] [0] rfl rfl (by decide) (by decide) hk1 hFc hP1 hD1
  have hP : va_P (dC, dI) vwCl [(h, .inr (9, [.ref q_1, .null, .null, .null, .null, .null, .null, .int (nI 0), .int (nI 0), .int (nI 0), .int (nI 0), .int (nI 0)])), (q_3, .inr (13, [.ref a_4, .int (nI 0)])), wa a_4 cI 200 (fun _ => 0)] H := hP
  have hD : va_D A [(h, .inr (9, [.ref q_1, .null, .null, .null, .null, .null, .null, .int (nI 0), .int (nI 0), .int (nI 0), .int (nI 0), .int (nI 0)])), (q_3, .inr (13, [.ref a_4, .int (nI 0)])), wa a_4 cI 200 (fun _ => 0)] := hD
  refine W.widen (k := 4) (n := 404) (by first | exact Nat.le_of_ble_eq_true rfl | omega | (dsimp only [headSpec]; omega) | (simp only [headSpec]; omega) | omega) (by first | exact Nat.le_of_ble_eq_true rfl | omega | (dsimp only [headSpec]; omega) | (simp only [headSpec]; omega) | omega) ?_
  have hP : va_P (dC, dI) vwCl [(h, .inr (9, [.ref q_1, .null, .null, .null, .null, .null, .null, .int (nI 0), .int (nI 0), .int (nI 0), .int (nI 0), .int (nI 0)]))] H := hP.sub [0] rfl
  have hD : va_D A [(h, .inr (9, [.ref q_1, .null, .null, .null, .null, .null, .null, .int (nI 0), .int (nI 0), .int (nI 0), .int (nI 0), .int (nI 0)]))] := hD.sub [0] (by decide) rfl
  refine va_putF (D := (dC, dI)) (ci := 9) (v := .ref q_3) (ty := .object "Patchferry$Row") (C := RX2) (T := TX2) (N := 12) hx hb hts inX2_init_RX2 tyX2 tyX2_ok nmX2 hown hK hP hD hS 0 rfl rfl 1 (by decide) (hts (.fieldLink RX2 20 "Patchferry$Disk" "ahead" "LPatchferry$Row;") (by decide +kernel)) (fun _ h9 => h9) rfl hin rfl (by decide +kernel) rfl rfl (Nat.le_of_ble_eq_true rfl) dX2_init_29 (fun H locs hP hD hS => ?_)
  have hP : va_P (dC, dI) vwCl [(h, .inr (9, [.ref q_1, .ref q_3, .null, .null, .null, .null, .null, .int (nI 0), .int (nI 0), .int (nI 0), .int (nI 0), .int (nI 0)]))] H := hP
  have hD : va_D A [(h, .inr (9, [.ref q_1, .ref q_3, .null, .null, .null, .null, .null, .int (nI 0), .int (nI 0), .int (nI 0), .int (nI 0), .int (nI 0)]))] := hD
  refine lv_aload_n hx hb dX2_init_32 rfl (lv_at hl 0 rfl) ?_
  refine va_new (ci := 13) (fs := [.null, .int (nI 0)]) (C := RX6) (T := TX6) (N := 2) hx hb hts inX2_init_RX6 tyX6 tyX6_ok hown (hts (.classLink RX2 9 RX6) (by decide +kernel)) (hts (.instantiable RX6 2) (by decide +kernel)) (hts (.initialized RX6) (by decide +kernel)) hK hP hD hS hA rfl (fun j hj => by rcases (show j = 0 ∨ j = 1 by omega) with rfl | rfl <;> rfl) (by first | exact Nat.le_of_ble_eq_true rfl | omega | (dsimp only [headSpec]; omega) | (simp only [headSpec]; omega) | omega) (by first | exact Nat.le_of_ble_eq_true rfl | omega | (dsimp only [headSpec]; omega) | (simp only [headSpec]; omega) | omega) dX2_init_33 (fun q_5 H hP hD hS => ?_)
  have hP : va_P (dC, dI) vwCl [(h, .inr (9, [.ref q_1, .ref q_3, .null, .null, .null, .null, .null, .int (nI 0), .int (nI 0), .int (nI 0), .int (nI 0), .int (nI 0)])), (q_5, .inr (13, [.null, .int (nI 0)]))] H := hP
  have hD : va_D A [(h, .inr (9, [.ref q_1, .ref q_3, .null, .null, .null, .null, .null, .int (nI 0), .int (nI 0), .int (nI 0), .int (nI 0), .int (nI 0)])), (q_5, .inr (13, [.null, .int (nI 0)]))] := hD
  refine W.widen (k := 5) (n := 406) (by first | exact Nat.le_of_ble_eq_true rfl | omega | (dsimp only [headSpec]; omega) | (simp only [headSpec]; omega) | omega) (by first | exact Nat.le_of_ble_eq_true rfl | omega | (dsimp only [headSpec]; omega) | (simp only [headSpec]; omega) | omega) ?_
  refine lv_dup hx hb dX2_init_36 rfl ?_
  refine lv_sipush (v := nI 200) hx hb dX2_init_37 (by decide) ?_
  have hPc : va_P (dC, dI) vwCl [(q_5, .inr (13, [.null, .int (nI 0)]))] _ := hP.sub [1] rfl
  have hDc : va_D _ [(q_5, .inr (13, [.null, .int (nI 0)]))] := hD.sub [1] (by decide) rfl
  have hFc := va_free (wc := [(q_5, .inr (13, [.null, .int (nI 0)]))]) hD hS hA [1] rfl
  refine va_callv (va_runI (As := [.int (nI 200)]) (rest := [.ref q_5, .ref h]) ⟨hx, hb, hml, hown, hts⟩ (c_rowinit l dC dI cI cO H.size q_5 200 (by omega)) (cwI 1 hts ugX2_init_X6_init rfl rfl rfl (hts (.initialized RX6) (by decide +kernel)) (hts (.methodLink RX2 11 yX6_init) (by decide +kernel)) (hts (.instanceMethod yX6_init) (by decide +kernel)) rfl (by decide +kernel) ⟨(by first | exact Nat.le_of_ble_eq_true rfl | omega | (dsimp only [headSpec]; omega) | (simp only [headSpec]; omega) | omega), (by first | exact Nat.le_of_ble_eq_true rfl | omega | (dsimp only [headSpec]; omega) | (simp only [headSpec]; omega) | omega)⟩) ⟨fun a U g mk q => by obtain ⟨q0, q1, qP, qK, qD⟩ := q; exact ⟨q0, q1, qP, va_K.moved (u := U) (U := U.calling g mk a) (Vm.Alike.refl U.vm) qK, qD⟩, fun U hU hW => ⟨rfl, by rw [hU], by rw [hU]; exact hPc, va_K.moved hW.alike hK, hDc.weaken (fun _ _ _ _ => trivial)⟩⟩ rfl rfl hl.1 rfl (lv_room (Nat.le_of_ble_eq_true rfl)) dX2_init_40 ⟨(by first | exact Nat.le_of_ble_eq_true rfl | omega | (dsimp only [headSpec]; omega) | (simp only [headSpec]; omega) | omega), (by first | exact Nat.le_of_ble_eq_true rfl | omega | (dsimp only [headSpec]; omega) | (simp only [headSpec]; omega) | omega)⟩) hS (fun q _ h => hFc q h) hFc (fun u t H locs ht hvm hw hB hz1 hk1 hS => ?_)
  obtain ⟨a_6, hP1, hK1, hD1⟩ := hB
  rw [ht] at hP1
  obtain ⟨hP, hD⟩ := va_join (wr := [(h, .inr (9, [.ref q_1, .ref q_3, .null, .null, .null, .null, .null, .int (nI 0), .int (nI 0), .int (nI 0), .int (nI 0), .int (nI 0)]))]) (w1 := [(q_5, .inr (13, [.ref a_6, .int (nI 0)])), wa a_6 cI 200 (fun _ => 0)]) hP hD [1] [0] rfl rfl (by decide) (by decide) hk1 hFc hP1 hD1
  have hP : va_P (dC, dI) vwCl [(h, .inr (9, [.ref q_1, .ref q_3, .null, .null, .null, .null, .null, .int (nI 0), .int (nI 0), .int (nI 0), .int (nI 0), .int (nI 0)])), (q_5, .inr (13, [.ref a_6, .int (nI 0)])), wa a_6 cI 200 (fun _ => 0)] H := hP
  have hD : va_D A [(h, .inr (9, [.ref q_1, .ref q_3, .null, .null, .null, .null, .null, .int (nI 0), .int (nI 0), .int (nI 0), .int (nI 0), .int (nI 0)])), (q_5, .inr (13, [.ref a_6, .int (nI 0)])), wa a_6 cI 200 (fun _ => 0)] := hD
  refine W.widen (k := 6) (n := 606) (by first | exact Nat.le_of_ble_eq_true rfl | omega | (dsimp only [headSpec]; omega) | (simp only [headSpec]; omega) | omega) (by first | exact Nat.le_of_ble_eq_true rfl | omega | (dsimp only [headSpec]; omega) | (simp only [headSpec]; omega) | omega) ?_
  have hP : va_P (dC, dI) vwCl [(h, .inr (9, [.ref q_1, .ref q_3, .null, .null, .null, .null, .null, .int (nI 0), .int (nI 0), .int (nI 0), .int (nI 0), .int (nI 0)]))] H := hP.sub [0] rfl
  have hD : va_D A [(h, .inr (9, [.ref q_1, .ref q_3, .null, .null, .null, .null, .null, .int (nI 0), .int (nI 0), .int (nI 0), .int (nI 0), .int (nI 0)]))] := hD.sub [0] (by decide) rfl
  refine va_putF (D := (dC, dI)) (ci := 9) (v := .ref q_5) (ty := .object "Patchferry$Row") (C := RX2) (T := TX2) (N := 12) hx hb hts inX2_init_RX2 tyX2 tyX2_ok nmX2 hown hK hP hD hS 0 rfl rfl 2 (by decide) (hts (.fieldLink RX2 23 "Patchferry$Disk" "hand" "LPatchferry$Row;") (by decide +kernel)) (fun _ h9 => h9) rfl hin rfl (by decide +kernel) rfl rfl (Nat.le_of_ble_eq_true rfl) dX2_init_43 (fun H locs hP hD hS => ?_)
  have hP : va_P (dC, dI) vwCl [(h, .inr (9, [.ref q_1, .ref q_3, .ref q_5, .null, .null, .null, .null, .int (nI 0), .int (nI 0), .int (nI 0), .int (nI 0), .int (nI 0)]))] H := hP
  have hD : va_D A [(h, .inr (9, [.ref q_1, .ref q_3, .ref q_5, .null, .null, .null, .null, .int (nI 0), .int (nI 0), .int (nI 0), .int (nI 0), .int (nI 0)]))] := hD
  refine lv_aload_n hx hb dX2_init_46 rfl (lv_at hl 0 rfl) ?_
  refine va_new (ci := 13) (fs := [.null, .int (nI 0)]) (C := RX6) (T := TX6) (N := 2) hx hb hts inX2_init_RX6 tyX6 tyX6_ok hown (hts (.classLink RX2 9 RX6) (by decide +kernel)) (hts (.instantiable RX6 2) (by decide +kernel)) (hts (.initialized RX6) (by decide +kernel)) hK hP hD hS hA rfl (fun j hj => by rcases (show j = 0 ∨ j = 1 by omega) with rfl | rfl <;> rfl) (by first | exact Nat.le_of_ble_eq_true rfl | omega | (dsimp only [headSpec]; omega) | (simp only [headSpec]; omega) | omega) (by first | exact Nat.le_of_ble_eq_true rfl | omega | (dsimp only [headSpec]; omega) | (simp only [headSpec]; omega) | omega) dX2_init_47 (fun q_7 H hP hD hS => ?_)
  have hP : va_P (dC, dI) vwCl [(h, .inr (9, [.ref q_1, .ref q_3, .ref q_5, .null, .null, .null, .null, .int (nI 0), .int (nI 0), .int (nI 0), .int (nI 0), .int (nI 0)])), (q_7, .inr (13, [.null, .int (nI 0)]))] H := hP
  have hD : va_D A [(h, .inr (9, [.ref q_1, .ref q_3, .ref q_5, .null, .null, .null, .null, .int (nI 0), .int (nI 0), .int (nI 0), .int (nI 0), .int (nI 0)])), (q_7, .inr (13, [.null, .int (nI 0)]))] := hD
  refine W.widen (k := 7) (n := 608) (by first | exact Nat.le_of_ble_eq_true rfl | omega | (dsimp only [headSpec]; omega) | (simp only [headSpec]; omega) | omega) (by first | exact Nat.le_of_ble_eq_true rfl | omega | (dsimp only [headSpec]; omega) | (simp only [headSpec]; omega) | omega) ?_
  refine lv_dup hx hb dX2_init_50 rfl ?_
  refine lv_bipush (v := nI 10) hx hb dX2_init_51 (by decide) ?_
  have hPc : va_P (dC, dI) vwCl [(q_7, .inr (13, [.null, .int (nI 0)]))] _ := hP.sub [1] rfl
  have hDc : va_D _ [(q_7, .inr (13, [.null, .int (nI 0)]))] := hD.sub [1] (by decide) rfl
  have hFc := va_free (wc := [(q_7, .inr (13, [.null, .int (nI 0)]))]) hD hS hA [1] rfl
  refine va_callv (va_runI (As := [.int (nI 10)]) (rest := [.ref q_7, .ref h]) ⟨hx, hb, hml, hown, hts⟩ (c_rowinit l dC dI cI cO H.size q_7 10 (by omega)) (cwI 1 hts ugX2_init_X6_init rfl rfl rfl (hts (.initialized RX6) (by decide +kernel)) (hts (.methodLink RX2 11 yX6_init) (by decide +kernel)) (hts (.instanceMethod yX6_init) (by decide +kernel)) rfl (by decide +kernel) ⟨(by first | exact Nat.le_of_ble_eq_true rfl | omega | (dsimp only [headSpec]; omega) | (simp only [headSpec]; omega) | omega), (by first | exact Nat.le_of_ble_eq_true rfl | omega | (dsimp only [headSpec]; omega) | (simp only [headSpec]; omega) | omega)⟩) ⟨fun a U g mk q => by obtain ⟨q0, q1, qP, qK, qD⟩ := q; exact ⟨q0, q1, qP, va_K.moved (u := U) (U := U.calling g mk a) (Vm.Alike.refl U.vm) qK, qD⟩, fun U hU hW => ⟨rfl, by rw [hU], by rw [hU]; exact hPc, va_K.moved hW.alike hK, hDc.weaken (fun _ _ _ _ => trivial)⟩⟩ rfl rfl hl.1 rfl (lv_room (Nat.le_of_ble_eq_true rfl)) dX2_init_53 ⟨(by first | exact Nat.le_of_ble_eq_true rfl | omega | (dsimp only [headSpec]; omega) | (simp only [headSpec]; omega) | omega), (by first | exact Nat.le_of_ble_eq_true rfl | omega | (dsimp only [headSpec]; omega) | (simp only [headSpec]; omega) | omega)⟩) hS (fun q _ h => hFc q h) hFc (fun u t H locs ht hvm hw hB hz1 hk1 hS => ?_)
  obtain ⟨a_8, hP1, hK1, hD1⟩ := hB
  rw [ht] at hP1
  obtain ⟨hP, hD⟩ := va_join (wr := [(h, .inr (9, [.ref q_1, .ref q_3, .ref q_5, .null, .null, .null, .null, .int (nI 0), .int (nI 0), .int (nI 0), .int (nI 0), .int (nI 0)]))]) (w1 := [(q_7, .inr (13, [.ref a_8, .int (nI 0)])), wa a_8 cI 10 (fun _ => 0)]) hP hD [1] [0] rfl rfl (by decide) (by decide) hk1 hFc hP1 hD1
  have hP : va_P (dC, dI) vwCl [(h, .inr (9, [.ref q_1, .ref q_3, .ref q_5, .null, .null, .null, .null, .int (nI 0), .int (nI 0), .int (nI 0), .int (nI 0), .int (nI 0)])), (q_7, .inr (13, [.ref a_8, .int (nI 0)])), wa a_8 cI 10 (fun _ => 0)] H := hP
  have hD : va_D A [(h, .inr (9, [.ref q_1, .ref q_3, .ref q_5, .null, .null, .null, .null, .int (nI 0), .int (nI 0), .int (nI 0), .int (nI 0), .int (nI 0)])), (q_7, .inr (13, [.ref a_8, .int (nI 0)])), wa a_8 cI 10 (fun _ => 0)] := hD
  refine W.widen (k := 8) (n := 618) (by first | exact Nat.le_of_ble_eq_true rfl | omega | (dsimp only [headSpec]; omega) | (simp only [headSpec]; omega) | omega) (by first | exact Nat.le_of_ble_eq_true rfl | omega | (dsimp only [headSpec]; omega) | (simp only [headSpec]; omega) | omega) ?_
  have hP : va_P (dC, dI) vwCl [(h, .inr (9, [.ref q_1, .ref q_3, .ref q_5, .null, .null, .null, .null, .int (nI 0), .int (nI 0), .int (nI 0), .int (nI 0), .int (nI 0)]))] H := hP.sub [0] rfl
  have hD : va_D A [(h, .inr (9, [.ref q_1, .ref q_3, .ref q_5, .null, .null, .null, .null, .int (nI 0), .int (nI 0), .int (nI 0), .int (nI 0), .int (nI 0)]))] := hD.sub [0] (by decide) rfl
  refine va_putF (D := (dC, dI)) (ci := 9) (v := .ref q_7) (ty := .object "Patchferry$Row") (C := RX2) (T := TX2) (N := 12) hx hb hts inX2_init_RX2 tyX2 tyX2_ok nmX2 hown hK hP hD hS 0 rfl rfl 3 (by decide) (hts (.fieldLink RX2 26 "Patchferry$Disk" "begins" "LPatchferry$Row;") (by decide +kernel)) (fun _ h9 => h9) rfl hin rfl (by decide +kernel) rfl rfl (Nat.le_of_ble_eq_true rfl) dX2_init_56 (fun H locs hP hD hS => ?_)
  have hP : va_P (dC, dI) vwCl [(h, .inr (9, [.ref q_1, .ref q_3, .ref q_5, .ref q_7, .null, .null, .null, .int (nI 0), .int (nI 0), .int (nI 0), .int (nI 0), .int (nI 0)]))] H := hP
  have hD : va_D A [(h, .inr (9, [.ref q_1, .ref q_3, .ref q_5, .ref q_7, .null, .null, .null, .int (nI 0), .int (nI 0), .int (nI 0), .int (nI 0), .int (nI 0)]))] := hD
  refine lv_aload_n hx hb dX2_init_59 rfl (lv_at hl 0 rfl) ?_
  refine va_new (ci := 13) (fs := [.null, .int (nI 0)]) (C := RX6) (T := TX6) (N := 2) hx hb hts inX2_init_RX6 tyX6 tyX6_ok hown (hts (.classLink RX2 9 RX6) (by decide +kernel)) (hts (.instantiable RX6 2) (by decide +kernel)) (hts (.initialized RX6) (by decide +kernel)) hK hP hD hS hA rfl (fun j hj => by rcases (show j = 0 ∨ j = 1 by omega) with rfl | rfl <;> rfl) (by first | exact Nat.le_of_ble_eq_true rfl | omega | (dsimp only [headSpec]; omega) | (simp only [headSpec]; omega) | omega) (by first | exact Nat.le_of_ble_eq_true rfl | omega | (dsimp only [headSpec]; omega) | (simp only [headSpec]; omega) | omega) dX2_init_60 (fun q_9 H hP hD hS => ?_)
  have hP : va_P (dC, dI) vwCl [(h, .inr (9, [.ref q_1, .ref q_3, .ref q_5, .ref q_7, .null, .null, .null, .int (nI 0), .int (nI 0), .int (nI 0), .int (nI 0), .int (nI 0)])), (q_9, .inr (13, [.null, .int (nI 0)]))] H := hP
  have hD : va_D A [(h, .inr (9, [.ref q_1, .ref q_3, .ref q_5, .ref q_7, .null, .null, .null, .int (nI 0), .int (nI 0), .int (nI 0), .int (nI 0), .int (nI 0)])), (q_9, .inr (13, [.null, .int (nI 0)]))] := hD
  refine W.widen (k := 9) (n := 620) (by first | exact Nat.le_of_ble_eq_true rfl | omega | (dsimp only [headSpec]; omega) | (simp only [headSpec]; omega) | omega) (by first | exact Nat.le_of_ble_eq_true rfl | omega | (dsimp only [headSpec]; omega) | (simp only [headSpec]; omega) | omega) ?_
  refine lv_dup hx hb dX2_init_63 rfl ?_
  refine lv_bipush (v := nI 10) hx hb dX2_init_64 (by decide) ?_
  have hPc : va_P (dC, dI) vwCl [(q_9, .inr (13, [.null, .int (nI 0)]))] _ := hP.sub [1] rfl
  have hDc : va_D _ [(q_9, .inr (13, [.null, .int (nI 0)]))] := hD.sub [1] (by decide) rfl
  have hFc := va_free (wc := [(q_9, .inr (13, [.null, .int (nI 0)]))]) hD hS hA [1] rfl
  refine va_callv (va_runI (As := [.int (nI 10)]) (rest := [.ref q_9, .ref h]) ⟨hx, hb, hml, hown, hts⟩ (c_rowinit l dC dI cI cO H.size q_9 10 (by omega)) (cwI 1 hts ugX2_init_X6_init rfl rfl rfl (hts (.initialized RX6) (by decide +kernel)) (hts (.methodLink RX2 11 yX6_init) (by decide +kernel)) (hts (.instanceMethod yX6_init) (by decide +kernel)) rfl (by decide +kernel) ⟨(by first | exact Nat.le_of_ble_eq_true rfl | omega | (dsimp only [headSpec]; omega) | (simp only [headSpec]; omega) | omega), (by first | exact Nat.le_of_ble_eq_true rfl | omega | (dsimp only [headSpec]; omega) | (simp only [headSpec]; omega) | omega)⟩) ⟨fun a U g mk q => by obtain ⟨q0, q1, qP, qK, qD⟩ := q; exact ⟨q0, q1, qP, va_K.moved (u := U) (U := U.calling g mk a) (Vm.Alike.refl U.vm) qK, qD⟩, fun U hU hW => ⟨rfl, by rw [hU], by rw [hU]; exact hPc, va_K.moved hW.alike hK, hDc.weaken (fun _ _ _ _ => trivial)⟩⟩ rfl rfl hl.1 rfl (lv_room (Nat.le_of_ble_eq_true rfl)) dX2_init_66 ⟨(by first | exact Nat.le_of_ble_eq_true rfl | omega | (dsimp only [headSpec]; omega) | (simp only [headSpec]; omega) | omega), (by first | exact Nat.le_of_ble_eq_true rfl | omega | (dsimp only [headSpec]; omega) | (simp only [headSpec]; omega) | omega)⟩) hS (fun q _ h => hFc q h) hFc (fun u t H locs ht hvm hw hB hz1 hk1 hS => ?_)
  obtain ⟨a_10, hP1, hK1, hD1⟩ := hB
  rw [ht] at hP1
  obtain ⟨hP, hD⟩ := va_join (wr := [(h, .inr (9, [.ref q_1, .ref q_3, .ref q_5, .ref q_7, .null, .null, .null, .int (nI 0), .int (nI 0), .int (nI 0), .int (nI 0), .int (nI 0)]))]) (w1 := [(q_9, .inr (13, [.ref a_10, .int (nI 0)])), wa a_10 cI 10 (fun _ => 0)]) hP hD [1] [0] rfl rfl (by decide) (by decide) hk1 hFc hP1 hD1
  have hP : va_P (dC, dI) vwCl [(h, .inr (9, [.ref q_1, .ref q_3, .ref q_5, .ref q_7, .null, .null, .null, .int (nI 0), .int (nI 0), .int (nI 0), .int (nI 0), .int (nI 0)])), (q_9, .inr (13, [.ref a_10, .int (nI 0)])), wa a_10 cI 10 (fun _ => 0)] H := hP
  have hD : va_D A [(h, .inr (9, [.ref q_1, .ref q_3, .ref q_5, .ref q_7, .null, .null, .null, .int (nI 0), .int (nI 0), .int (nI 0), .int (nI 0), .int (nI 0)])), (q_9, .inr (13, [.ref a_10, .int (nI 0)])), wa a_10 cI 10 (fun _ => 0)] := hD
  refine W.widen (k := 10) (n := 630) (by first | exact Nat.le_of_ble_eq_true rfl | omega | (dsimp only [headSpec]; omega) | (simp only [headSpec]; omega) | omega) (by first | exact Nat.le_of_ble_eq_true rfl | omega | (dsimp only [headSpec]; omega) | (simp only [headSpec]; omega) | omega) ?_
  have hP : va_P (dC, dI) vwCl [(h, .inr (9, [.ref q_1, .ref q_3, .ref q_5, .ref q_7, .null, .null, .null, .int (nI 0), .int (nI 0), .int (nI 0), .int (nI 0), .int (nI 0)]))] H := hP.sub [0] rfl
  have hD : va_D A [(h, .inr (9, [.ref q_1, .ref q_3, .ref q_5, .ref q_7, .null, .null, .null, .int (nI 0), .int (nI 0), .int (nI 0), .int (nI 0), .int (nI 0)]))] := hD.sub [0] (by decide) rfl
  refine va_putF (D := (dC, dI)) (ci := 9) (v := .ref q_9) (ty := .object "Patchferry$Row") (C := RX2) (T := TX2) (N := 12) hx hb hts inX2_init_RX2 tyX2 tyX2_ok nmX2 hown hK hP hD hS 0 rfl rfl 4 (by decide) (hts (.fieldLink RX2 29 "Patchferry$Disk" "needs" "LPatchferry$Row;") (by decide +kernel)) (fun _ h9 => h9) rfl hin rfl (by decide +kernel) rfl rfl (Nat.le_of_ble_eq_true rfl) dX2_init_69 (fun H locs hP hD hS => ?_)
  have hP : va_P (dC, dI) vwCl [(h, .inr (9, [.ref q_1, .ref q_3, .ref q_5, .ref q_7, .ref q_9, .null, .null, .int (nI 0), .int (nI 0), .int (nI 0), .int (nI 0), .int (nI 0)]))] H := hP
  have hD : va_D A [(h, .inr (9, [.ref q_1, .ref q_3, .ref q_5, .ref q_7, .ref q_9, .null, .null, .int (nI 0), .int (nI 0), .int (nI 0), .int (nI 0), .int (nI 0)]))] := hD
  refine lv_aload_n hx hb dX2_init_72 rfl (lv_at hl 0 rfl) ?_
  refine va_new (ci := 13) (fs := [.null, .int (nI 0)]) (C := RX6) (T := TX6) (N := 2) hx hb hts inX2_init_RX6 tyX6 tyX6_ok hown (hts (.classLink RX2 9 RX6) (by decide +kernel)) (hts (.instantiable RX6 2) (by decide +kernel)) (hts (.initialized RX6) (by decide +kernel)) hK hP hD hS hA rfl (fun j hj => by rcases (show j = 0 ∨ j = 1 by omega) with rfl | rfl <;> rfl) (by first | exact Nat.le_of_ble_eq_true rfl | omega | (dsimp only [headSpec]; omega) | (simp only [headSpec]; omega) | omega) (by first | exact Nat.le_of_ble_eq_true rfl | omega | (dsimp only [headSpec]; omega) | (simp only [headSpec]; omega) | omega) dX2_init_73 (fun q_11 H hP hD hS => ?_)
  have hP : va_P (dC, dI) vwCl [(h, .inr (9, [.ref q_1, .ref q_3, .ref q_5, .ref q_7, .ref q_9, .null, .null, .int (nI 0), .int (nI 0), .int (nI 0), .int (nI 0), .int (nI 0)])), (q_11, .inr (13, [.null, .int (nI 0)]))] H := hP
  have hD : va_D A [(h, .inr (9, [.ref q_1, .ref q_3, .ref q_5, .ref q_7, .ref q_9, .null, .null, .int (nI 0), .int (nI 0), .int (nI 0), .int (nI 0), .int (nI 0)])), (q_11, .inr (13, [.null, .int (nI 0)]))] := hD
  refine W.widen (k := 11) (n := 632) (by first | exact Nat.le_of_ble_eq_true rfl | omega | (dsimp only [headSpec]; omega) | (simp only [headSpec]; omega) | omega) (by first | exact Nat.le_of_ble_eq_true rfl | omega | (dsimp only [headSpec]; omega) | (simp only [headSpec]; omega) | omega) ?_
  refine lv_dup hx hb dX2_init_76 rfl ?_
  refine lv_bipush (v := nI 10) hx hb dX2_init_77 (by decide) ?_
  have hPc : va_P (dC, dI) vwCl [(q_11, .inr (13, [.null, .int (nI 0)]))] _ := hP.sub [1] rfl
  have hDc : va_D _ [(q_11, .inr (13, [.null, .int (nI 0)]))] := hD.sub [1] (by decide) rfl
  have hFc := va_free (wc := [(q_11, .inr (13, [.null, .int (nI 0)]))]) hD hS hA [1] rfl
  refine va_callv (va_runI (As := [.int (nI 10)]) (rest := [.ref q_11, .ref h]) ⟨hx, hb, hml, hown, hts⟩ (c_rowinit l dC dI cI cO H.size q_11 10 (by omega)) (cwI 1 hts ugX2_init_X6_init rfl rfl rfl (hts (.initialized RX6) (by decide +kernel)) (hts (.methodLink RX2 11 yX6_init) (by decide +kernel)) (hts (.instanceMethod yX6_init) (by decide +kernel)) rfl (by decide +kernel) ⟨(by first | exact Nat.le_of_ble_eq_true rfl | omega | (dsimp only [headSpec]; omega) | (simp only [headSpec]; omega) | omega), (by first | exact Nat.le_of_ble_eq_true rfl | omega | (dsimp only [headSpec]; omega) | (simp only [headSpec]; omega) | omega)⟩) ⟨fun a U g mk q => by obtain ⟨q0, q1, qP, qK, qD⟩ := q; exact ⟨q0, q1, qP, va_K.moved (u := U) (U := U.calling g mk a) (Vm.Alike.refl U.vm) qK, qD⟩, fun U hU hW => ⟨rfl, by rw [hU], by rw [hU]; exact hPc, va_K.moved hW.alike hK, hDc.weaken (fun _ _ _ _ => trivial)⟩⟩ rfl rfl hl.1 rfl (lv_room (Nat.le_of_ble_eq_true rfl)) dX2_init_79 ⟨(by first | exact Nat.le_of_ble_eq_true rfl | omega | (dsimp only [headSpec]; omega) | (simp only [headSpec]; omega) | omega), (by first | exact Nat.le_of_ble_eq_true rfl | omega | (dsimp only [headSpec]; omega) | (simp only [headSpec]; omega) | omega)⟩) hS (fun q _ h => hFc q h) hFc (fun u t H locs ht hvm hw hB hz1 hk1 hS => ?_)
  obtain ⟨a_12, hP1, hK1, hD1⟩ := hB
  rw [ht] at hP1
  obtain ⟨hP, hD⟩ := va_join (wr := [(h, .inr (9, [.ref q_1, .ref q_3, .ref q_5, .ref q_7, .ref q_9, .null, .null, .int (nI 0), .int (nI 0), .int (nI 0), .int (nI 0), .int (nI 0)]))]) (w1 := [(q_11, .inr (13, [.ref a_12, .int (nI 0)])), wa a_12 cI 10 (fun _ => 0)]) hP hD [1] [0] rfl rfl (by decide) (by decide) hk1 hFc hP1 hD1
  have hP : va_P (dC, dI) vwCl [(h, .inr (9, [.ref q_1, .ref q_3, .ref q_5, .ref q_7, .ref q_9, .null, .null, .int (nI 0), .int (nI 0), .int (nI 0), .int (nI 0), .int (nI 0)])), (q_11, .inr (13, [.ref a_12, .int (nI 0)])), wa a_12 cI 10 (fun _ => 0)] H := hP
  have hD : va_D A [(h, .inr (9, [.ref q_1, .ref q_3, .ref q_5, .ref q_7, .ref q_9, .null, .null, .int (nI 0), .int (nI 0), .int (nI 0), .int (nI 0), .int (nI 0)])), (q_11, .inr (13, [.ref a_12, .int (nI 0)])), wa a_12 cI 10 (fun _ => 0)] := hD
  refine W.widen (k := 12) (n := 642) (by first | exact Nat.le_of_ble_eq_true rfl | omega | (dsimp only [headSpec]; omega) | (simp only [headSpec]; omega) | omega) (by first | exact Nat.le_of_ble_eq_true rfl | omega | (dsimp only [headSpec]; omega) | (simp only [headSpec]; omega) | omega) ?_
  have hP : va_P (dC, dI) vwCl [(h, .inr (9, [.ref q_1, .ref q_3, .ref q_5, .ref q_7, .ref q_9, .null, .null, .int (nI 0), .int (nI 0), .int (nI 0), .int (nI 0), .int (nI 0)]))] H := hP.sub [0] rfl
  have hD : va_D A [(h, .inr (9, [.ref q_1, .ref q_3, .ref q_5, .ref q_7, .ref q_9, .null, .null, .int (nI 0), .int (nI 0), .int (nI 0), .int (nI 0), .int (nI 0)]))] := hD.sub [0] (by decide) rfl
  refine va_putF (D := (dC, dI)) (ci := 9) (v := .ref q_11) (ty := .object "Patchferry$Row") (C := RX2) (T := TX2) (N := 12) hx hb hts inX2_init_RX2 tyX2 tyX2_ok nmX2 hown hK hP hD hS 0 rfl rfl 5 (by decide) (hts (.fieldLink RX2 32 "Patchferry$Disk" "order" "LPatchferry$Row;") (by decide +kernel)) (fun _ h9 => h9) rfl hin rfl (by decide +kernel) rfl rfl (Nat.le_of_ble_eq_true rfl) dX2_init_82 (fun H locs hP hD hS => ?_)
  have hP : va_P (dC, dI) vwCl [(h, .inr (9, [.ref q_1, .ref q_3, .ref q_5, .ref q_7, .ref q_9, .ref q_11, .null, .int (nI 0), .int (nI 0), .int (nI 0), .int (nI 0), .int (nI 0)]))] H := hP
  have hD : va_D A [(h, .inr (9, [.ref q_1, .ref q_3, .ref q_5, .ref q_7, .ref q_9, .ref q_11, .null, .int (nI 0), .int (nI 0), .int (nI 0), .int (nI 0), .int (nI 0)]))] := hD
  refine lv_aload_n hx hb dX2_init_85 rfl (lv_at hl 0 rfl) ?_
  refine va_new (ci := 11) (fs := [.null, .null, .null, .null]) (C := RX4) (T := TX4) (N := 4) hx hb hts inX2_init_RX4 tyX4 tyX4_ok hown (hts (.classLink RX2 35 RX4) (by decide +kernel)) (hts (.instantiable RX4 4) (by decide +kernel)) (hts (.initialized RX4) (by decide +kernel)) hK hP hD hS hA rfl (fun j hj => by rcases (show j = 0 ∨ j = 1 ∨ j = 2 ∨ j = 3 by omega) with rfl | rfl | rfl | rfl <;> rfl) (by first | exact Nat.le_of_ble_eq_true rfl | omega | (dsimp only [headSpec]; omega) | (simp only [headSpec]; omega) | omega) (by first | exact Nat.le_of_ble_eq_true rfl | omega | (dsimp only [headSpec]; omega) | (simp only [headSpec]; omega) | omega) dX2_init_86 (fun q_13 H hP hD hS => ?_)
  have hP : va_P (dC, dI) vwCl [(h, .inr (9, [.ref q_1, .ref q_3, .ref q_5, .ref q_7, .ref q_9, .ref q_11, .null, .int (nI 0), .int (nI 0), .int (nI 0), .int (nI 0), .int (nI 0)])), (q_13, .inr (11, [.null, .null, .null, .null]))] H := hP
  have hD : va_D A [(h, .inr (9, [.ref q_1, .ref q_3, .ref q_5, .ref q_7, .ref q_9, .ref q_11, .null, .int (nI 0), .int (nI 0), .int (nI 0), .int (nI 0), .int (nI 0)])), (q_13, .inr (11, [.null, .null, .null, .null]))] := hD
  refine W.widen (k := 13) (n := 646) (by first | exact Nat.le_of_ble_eq_true rfl | omega | (dsimp only [headSpec]; omega) | (simp only [headSpec]; omega) | omega) (by first | exact Nat.le_of_ble_eq_true rfl | omega | (dsimp only [headSpec]; omega) | (simp only [headSpec]; omega) | omega) ?_
  refine lv_dup hx hb dX2_init_89 rfl ?_
  have hPc : va_P (dC, dI) vwCl [(q_13, .inr (11, [.null, .null, .null, .null]))] _ := hP.sub [1] rfl
  have hDc : va_D _ [(q_13, .inr (11, [.null, .null, .null, .null]))] := hD.sub [1] (by decide) rfl
  have hFc := va_free (wc := [(q_13, .inr (11, [.null, .null, .null, .null]))]) hD hS hA [1] rfl
  refine va_callv (va_runI (As := []) (rest := [.ref q_13, .ref h]) ⟨hx, hb, hml, hown, hts⟩ (c_patchinit l dC dI cI cO H.size q_13) (cwI 0 hts ugX2_init_X4_init rfl rfl rfl (hts (.initialized RX4) (by decide +kernel)) (hts (.methodLink RX2 37 yX4_init) (by decide +kernel)) (hts (.instanceMethod yX4_init) (by decide +kernel)) rfl (by decide +kernel) ⟨(by first | exact Nat.le_of_ble_eq_true rfl | omega | (dsimp only [headSpec]; omega) | (simp only [headSpec]; omega) | omega), (by first | exact Nat.le_of_ble_eq_true rfl | omega | (dsimp only [headSpec]; omega) | (simp only [headSpec]; omega) | omega)⟩) ⟨fun a U g mk q => by obtain ⟨q0, q1, qP, qK, qD⟩ := q; exact ⟨q0, q1, qP, va_K.moved (u := U) (U := U.calling g mk a) (Vm.Alike.refl U.vm) qK, qD⟩, fun U hU hW => ⟨rfl, by rw [hU], by rw [hU]; exact hPc, va_K.moved hW.alike hK, hDc.weaken (fun _ _ _ _ => trivial)⟩⟩ rfl rfl hl.1 rfl (lv_room (Nat.le_of_ble_eq_true rfl)) dX2_init_90 ⟨(by first | exact Nat.le_of_ble_eq_true rfl | omega | (dsimp only [headSpec]; omega) | (simp only [headSpec]; omega) | omega), (by first | exact Nat.le_of_ble_eq_true rfl | omega | (dsimp only [headSpec]; omega) | (simp only [headSpec]; omega) | omega)⟩) hS (fun q _ h => hFc q h) hFc (fun u t H locs ht hvm hw hB hz1 hk1 hS => ?_)
  obtain ⟨hP1, hK1, hD1⟩ := hB
  rw [ht] at hP1
  obtain ⟨hP, hD⟩ := va_join (wr := [(h, .inr (9, [.ref q_1, .ref q_3, .ref q_5, .ref q_7, .ref q_9, .ref q_11, .null, .int (nI 0), .int (nI 0), .int (nI 0), .int (nI 0), .int (nI 0)]))]) (w1 := []) hP hD [1] [0] rfl rfl (by decide) (by decide) hk1 hFc hP1 hD1
  have hP : va_P (dC, dI) vwCl [(h, .inr (9, [.ref q_1, .ref q_3, .ref q_5, .ref q_7, .ref q_9, .ref q_11, .null, .int (nI 0), .int (nI 0), .int (nI 0), .int (nI 0), .int (nI 0)]))] H := hP
  have hD : va_D A [(h, .inr (9, [.ref q_1, .ref q_3, .ref q_5, .ref q_7, .ref q_9, .ref q_11, .null, .int (nI 0), .int (nI 0), .int (nI 0), .int (nI 0), .int (nI 0)]))] := hD
  refine W.widen (k := 21) (n := 1254) (by first | exact Nat.le_of_ble_eq_true rfl | omega | (dsimp only [headSpec]; omega) | (simp only [headSpec]; omega) | omega) (by first | exact Nat.le_of_ble_eq_true rfl | omega | (dsimp only [headSpec]; omega) | (simp only [headSpec]; omega) | omega) ?_
  have hP : va_P (dC, dI) vwCl [(h, .inr (9, [.ref q_1, .ref q_3, .ref q_5, .ref q_7, .ref q_9, .ref q_11, .null, .int (nI 0), .int (nI 0), .int (nI 0), .int (nI 0), .int (nI 0)]))] H := hP.sub [0] rfl
  have hD : va_D A [(h, .inr (9, [.ref q_1, .ref q_3, .ref q_5, .ref q_7, .ref q_9, .ref q_11, .null, .int (nI 0), .int (nI 0), .int (nI 0), .int (nI 0), .int (nI 0)]))] := hD.sub [0] (by decide) rfl
  refine va_put (D := (dC, dI)) (ci := 9) (v := .ref q_13) (ty := .object "Patchferry$Patch") (C := RX2) (T := TX2) (N := 12) hx hb hts inX2_init_RX2 tyX2 tyX2_ok nmX2 hown hK hP hD hS 0 rfl rfl 6 (by decide) (hts (.fieldLink RX2 38 "Patchferry$Disk" "laid" "LPatchferry$Patch;") (by decide +kernel)) (fun _ h9 => h9) rfl (by decide +kernel) rfl rfl (Nat.le_of_ble_eq_true rfl) dX2_init_93 (fun H locs hP hD hS => ?_)
  have hP : va_P (dC, dI) vwCl [(h, .inr (9, [.ref q_1, .ref q_3, .ref q_5, .ref q_7, .ref q_9, .ref q_11, .ref q_13, .int (nI 0), .int (nI 0), .int (nI 0), .int (nI 0), .int (nI 0)]))] H := hP
  have hD : va_D A [(h, .inr (9, [.ref q_1, .ref q_3, .ref q_5, .ref q_7, .ref q_9, .ref q_11, .ref q_13, .int (nI 0), .int (nI 0), .int (nI 0), .int (nI 0), .int (nI 0)]))] := hD
  refine lv_aload_n hx hb dX2_init_96 rfl (lv_at hl 0 rfl) ?_
  refine lv_iconst (v := (-1)) hx hb dX2_init_97 (by decide) ?_
  refine va_put (D := (dC, dI)) (ci := 9) (v := .int (-1)) (ty := .int) (C := RX2) (T := TX2) (N := 12) hx hb hts inX2_init_RX2 tyX2 tyX2_ok nmX2 hown hK hP hD hS 0 rfl rfl 11 (by decide) (hts (.fieldLink RX2 42 "Patchferry$Disk" "cut" "I") (by decide +kernel)) (fun _ h9 => h9) rfl (by decide +kernel) rfl rfl (Nat.le_of_ble_eq_true rfl) dX2_init_98 (fun H locs hP hD hS => ?_)
  have hP : va_P (dC, dI) vwCl [(h, .inr (9, [.ref q_1, .ref q_3, .ref q_5, .ref q_7, .ref q_9, .ref q_11, .ref q_13, .int (nI 0), .int (nI 0), .int (nI 0), .int (nI 0), .int (-1)]))] H := hP
  have hD : va_D A [(h, .inr (9, [.ref q_1, .ref q_3, .ref q_5, .ref q_7, .ref q_9, .ref q_11, .ref q_13, .int (nI 0), .int (nI 0), .int (nI 0), .int (nI 0), .int (-1)]))] := hD
  have hPe : va_P (dC, dI) vwCl [] _ := hP.sub [] rfl
  have hDe : va_D A [] := hD.sub [] (by decide) rfl
  refine W.widen (k := 21) (n := 1254) (by first | exact Nat.le_of_ble_eq_true rfl | omega | (dsimp only [headSpec]; omega) | (simp only [headSpec]; omega) | omega) (by first | exact Nat.le_of_ble_eq_true rfl | omega | (dsimp only [headSpec]; omega) | (simp only [headSpec]; omega) | omega) ?_
  exact W.vret hx hb hr (fun t ht hW => ⟨⟨(), rfl, trivial, by rw [ht]; exact hPe, va_K.moved hW.alike hK, hDe⟩, hS.F ht⟩) hS.2.2 dX2_init_101
set_option maxHeartbeats 4000000 in
set_option maxRecDepth 100000 in
theorem c_versionsinit (l : Launch) (dC : Nat → ClassId) (dI : Nat → Nat → Nat) (cI cO : ClassId) (z0 : Nat) (sz : Nat) (h : Nat) : Met l yX10_init usX10_init ({ frames := 4, cells := 11, slots := 193, locals := 72 }) (va_Pc [.ref h] (fun U => U.heap.size = sz ∧ va_P (dC, dI) vwCl [(h, .inr (17, [.null, .null, .null, .null, .null, .null]))] U.heap ∧ va_K (dC, dI) vwCl (ty0 cI cO) U ∧ va_D (fun _ => True) [(h, .inr (17, [.null, .null, .null, .null, .null, .null]))] ∧ uz z0 (va_A [(h, .inr (17, [.null, .null, .null, .null, .null, .null]))] sz) U)) (va_Qv (fun _ : Unit => True) (fun _ t => va_P (dC, dI) vwCl [] t.heap ∧ va_K (dC, dI) vwCl (ty0 cI cO) t ∧ va_D (va_A [(h, .inr (17, [.null, .null, .null, .null, .null, .null]))] sz) []) (va_A [(h, .inr (17, [.null, .null, .null, .null, .null, .null]))] sz)) 11 193 (va_A [(h, .inr (17, [.null, .null, .null, .null, .null, .null]))] sz) := by
  refine Met.ofW (cc := cX10_init) (maxL := 1) (ret := none) (by decide) rfl ?_
  intro p e s m args below meth c s₁ B hml hv
  obtain ⟨rfl, hsz, hP, hK, hD0, hZ⟩ := hv
  have hx := B.exec
  have hb := B.bytes
  have hr := B.returns
  have hts := atoms_spec (ws := usX10_init) B.pre
  have hown : s.vm.findClass RX10 = some m.cls := findClass_of_methodNamed B.named
  have hlocks := B.notSynchronized
  have hin : meth.name = "<init>" := (name_of_methodNamed B.named B.method).1
  subst hsz
  have hD := hD0.self (sz := s.heap.size)
  generalize hAe : va_A [(h, .inr (17, [.null, .null, .null, .null, .null, .null]))] s.heap.size = A at hD hZ ⊢
  have hA : ∀ q : Nat, s.heap.size ≤ q → A q := fun q h => by rw [← hAe]; exact Or.inr h
  have hS : va_S A s.heap s.heap [] := va_S.rf
  obtain ⟨hZs, ⟨fz, hZt⟩, hZo, hZr, hZi, hZc⟩ := id hZ
  have hl := lv_entry ([.ref h]) (n := 1) (Nat.le_of_ble_eq_true rfl)
  rw [lg_entry_eq]
  generalize (lg_sl ([.ref h]) ++ List.replicate (1 - (lg_sl ([.ref h])).length) Slot.unset).toArray = ls at hl ⊢
  have hl : lv_has ls 1 [(0, .ref h)] := hl
  refine lv_aload_n hx hb dX10_init_0 rfl (lv_at hl 0 rfl) ?_
  refine W.objInit hx hb hown (hts (.methodLink RX10 3 objectInit) (by decide +kernel)) (hts (.instanceMethod objectInit) (by decide +kernel)) (hts _ (List.mem_of_getElem? (i := 3) rfl)) rfl (by rw [hml]; exact hl.1) rfl dX10_init_1 (by first | exact Nat.le_of_ble_eq_true rfl | omega | (dsimp only [headSpec]; omega) | (simp only [headSpec]; omega) | omega) (by first | exact Nat.le_of_ble_eq_true rfl | omega | (dsimp only [headSpec]; omega) | (simp only [headSpec]; omega) | omega) ?_
  refine W.eq (g2 := F0 m 4 ls []) rfl ?_
  refine lv_aload_n hx hb dX10_init_4 rfl (lv_at hl 0 rfl) ?_
  refine va_new (ci := 6) (fs := [.int (nI 0), .null, .int (nI 0)]) (C := RJx4a65c) (T := TJx4a65c) (N := 3) hx hb hts inX10_init_RJx4a65c tyJx4a65c tyJx4a65c_ok hown (hts (.classLink RX10 9 RJx4a65c) (by decide +kernel)) (hts (.instantiable RJx4a65c 3) (by decide +kernel)) (hts (.initialized RJx4a65c) (by decide +kernel)) hK hP hD hS hA rfl (fun j hj => by rcases (show j = 0 ∨ j = 1 ∨ j = 2 by omega) with rfl | rfl | rfl <;> rfl) (by first | exact Nat.le_of_ble_eq_true rfl | omega | (dsimp only [headSpec]; omega) | (simp only [headSpec]; omega) | omega) (by first | exact Nat.le_of_ble_eq_true rfl | omega | (dsimp only [headSpec]; omega) | (simp only [headSpec]; omega) | omega) dX10_init_5 (fun q_1 H hP hD hS => ?_)
  have hP : va_P (dC, dI) vwCl [(h, .inr (17, [.null, .null, .null, .null, .null, .null])), (q_1, .inr (6, [.int (nI 0), .null, .int (nI 0)]))] H := hP
  have hD : va_D A [(h, .inr (17, [.null, .null, .null, .null, .null, .null])), (q_1, .inr (6, [.int (nI 0), .null, .int (nI 0)]))] := hD
  refine W.widen (k := 1) (n := 3) (by first | exact Nat.le_of_ble_eq_true rfl | omega | (dsimp only [headSpec]; omega) | (simp only [headSpec]; omega) | omega) (by first | exact Nat.le_of_ble_eq_true rfl | omega | (dsimp only [headSpec]; omega) | (simp only [headSpec]; omega) | omega) ?_
  refine lv_dup hx hb dX10_init_8 rfl ?_
  have hPc : va_P (dC, dI) vwCl [(q_1, .inr (6, [.int (nI 0), .null, .int (nI 0)]))] _ := hP.sub [1] rfl
  have hDc : va_D _ [(q_1, .inr (6, [.int (nI 0), .null, .int (nI 0)]))] := hD.sub [1] (by decide) rfl
  have hFc := va_free (wc := [(q_1, .inr (6, [.int (nI 0), .null, .int (nI 0)]))]) hD hS hA [1] rfl
  refine va_callv (va_runI (As := []) (rest := [.ref q_1, .ref h]) ⟨hx, hb, hml, hown, hts⟩ (c_alinit l dC dI cI cO z0 H.size q_1) (cwI 0 hts ugX10_init_Jx4a65c_init_da8c8 rfl rfl rfl (hts (.initialized RJx4a65c) (by decide +kernel)) (hts (.methodLink RX10 11 yJx4a65c_init_da8c8) (by decide +kernel)) (hts (.instanceMethod yJx4a65c_init_da8c8) (by decide +kernel)) rfl (by decide +kernel) ⟨(by first | exact Nat.le_of_ble_eq_true rfl | omega | (dsimp only [headSpec]; omega) | (simp only [headSpec]; omega) | omega), (by first | exact Nat.le_of_ble_eq_true rfl | omega | (dsimp only [headSpec]; omega) | (simp only [headSpec]; omega) | omega)⟩) ⟨fun a U g mk q => by obtain ⟨q0, q1, qP, qK, qD, qZ⟩ := q; exact ⟨q0, q1, qP, va_K.moved (u := U) (U := U.calling g mk a) (Vm.Alike.refl U.vm) qK, qD, qZ.moved (Vm.Alike.refl U.vm) rfl⟩, fun U hU hW => ⟨rfl, by rw [hU], by rw [hU]; exact hPc, va_K.moved hW.alike hK, hDc.weaken (fun _ _ _ _ => trivial), uz_call hZ hS hFc hU hW.alike⟩⟩ rfl rfl hl.1 rfl (lv_room (Nat.le_of_ble_eq_true rfl)) dX10_init_9 ⟨(by first | exact Nat.le_of_ble_eq_true rfl | omega | (dsimp only [headSpec]; omega) | (simp only [headSpec]; omega) | omega), (by first | exact Nat.le_of_ble_eq_true rfl | omega | (dsimp only [headSpec]; omega) | (simp only [headSpec]; omega) | omega)⟩) hS (fun q _ h => hFc q h) hFc (fun u t H locs ht hvm hw hB hz1 hk1 hS => ?_)
  obtain ⟨hP1, hK1, hD1⟩ := hB
  rw [ht] at hP1
  obtain ⟨hP, hD⟩ := va_join (wr := [(h, .inr (17, [.null, .null, .null, .null, .null, .null]))]) (w1 := [(q_1, .inr (6, [.int (nI 0), .ref z0, .int (nI 0)]))]) hP hD [1] [0] rfl rfl (by decide) (by decide) hk1 hFc hP1 hD1
  have hP : va_P (dC, dI) vwCl [(h, .inr (17, [.null, .null, .null, .null, .null, .null])), (q_1, .inr (6, [.int (nI 0), .ref z0, .int (nI 0)]))] H := hP
  have hD : va_D A [(h, .inr (17, [.null, .null, .null, .null, .null, .null])), (q_1, .inr (6, [.int (nI 0), .ref z0, .int (nI 0)]))] := hD
  have hP : va_P (dC, dI) vwCl [(h, .inr (17, [.null, .null, .null, .null, .null, .null]))] H := hP.sub [0] rfl
  have hD : va_D A [(h, .inr (17, [.null, .null, .null, .null, .null, .null]))] := hD.sub [0] (by decide) rfl
  refine va_putF (D := (dC, dI)) (ci := 17) (v := .ref q_1) (ty := .object "java/util/ArrayList") (C := RX10) (T := TX10) (N := 6) hx hb hts inX10_init_RX10 tyX10 tyX10_ok nmX10 hown hK hP hD hS 0 rfl rfl 0 (by decide) (hts (.fieldLink RX10 12 "Patchferry$Versions" "texts" "Ljava/util/ArrayList;") (by decide +kernel)) (fun _ h9 => h9) rfl hin rfl (by decide +kernel) rfl rfl (Nat.le_of_ble_eq_true rfl) dX10_init_12 (fun H locs hP hD hS => ?_)
  have hP : va_P (dC, dI) vwCl [(h, .inr (17, [.ref q_1, .null, .null, .null, .null, .null]))] H := hP
  have hD : va_D A [(h, .inr (17, [.ref q_1, .null, .null, .null, .null, .null]))] := hD
  refine lv_aload_n hx hb dX10_init_15 rfl (lv_at hl 0 rfl) ?_
  refine va_new (ci := 13) (fs := [.null, .int (nI 0)]) (C := RX6) (T := TX6) (N := 2) hx hb hts inX10_init_RX6 tyX6 tyX6_ok hown (hts (.classLink RX10 18 RX6) (by decide +kernel)) (hts (.instantiable RX6 2) (by decide +kernel)) (hts (.initialized RX6) (by decide +kernel)) hK hP hD hS hA rfl (fun j hj => by rcases (show j = 0 ∨ j = 1 by omega) with rfl | rfl <;> rfl) (by first | exact Nat.le_of_ble_eq_true rfl | omega | (dsimp only [headSpec]; omega) | (simp only [headSpec]; omega) | omega) (by first | exact Nat.le_of_ble_eq_true rfl | omega | (dsimp only [headSpec]; omega) | (simp only [headSpec]; omega) | omega) dX10_init_16 (fun q_2 H hP hD hS => ?_)
  have hP : va_P (dC, dI) vwCl [(h, .inr (17, [.ref q_1, .null, .null, .null, .null, .null])), (q_2, .inr (13, [.null, .int (nI 0)]))] H := hP
  have hD : va_D A [(h, .inr (17, [.ref q_1, .null, .null, .null, .null, .null])), (q_2, .inr (13, [.null, .int (nI 0)]))] := hD
  refine W.widen (k := 2) (n := 5) (by first | exact Nat.le_of_ble_eq_true rfl | omega | (dsimp only [headSpec]; omega) | (simp only [headSpec]; omega) | omega) (by first | exact Nat.le_of_ble_eq_true rfl | omega | (dsimp only [headSpec]; omega) | (simp only [headSpec]; omega) | omega) ?_
  refine lv_dup hx hb dX10_init_19 rfl ?_
  refine lv_iconst (v := nI 0) hx hb dX10_init_20 (by decide) ?_
  have hPc : va_P (dC, dI) vwCl [(q_2, .inr (13, [.null, .int (nI 0)]))] _ := hP.sub [1] rfl
  have hDc : va_D _ [(q_2, .inr (13, [.null, .int (nI 0)]))] := hD.sub [1] (by decide) rfl
  have hFc := va_free (wc := [(q_2, .inr (13, [.null, .int (nI 0)]))]) hD hS hA [1] rfl
  refine va_callv (va_runI (As := [.int (nI 0)]) (rest := [.ref q_2, .ref h]) ⟨hx, hb, hml, hown, hts⟩ (c_rowinit l dC dI cI cO H.size q_2 0 (by omega)) (cwI 1 hts ugX10_init_X6_init rfl rfl rfl (hts (.initialized RX6) (by decide +kernel)) (hts (.methodLink RX10 20 yX6_init) (by decide +kernel)) (hts (.instanceMethod yX6_init) (by decide +kernel)) rfl (by decide +kernel) ⟨(by first | exact Nat.le_of_ble_eq_true rfl | omega | (dsimp only [headSpec]; omega) | (simp only [headSpec]; omega) | omega), (by first | exact Nat.le_of_ble_eq_true rfl | omega | (dsimp only [headSpec]; omega) | (simp only [headSpec]; omega) | omega)⟩) ⟨fun a U g mk q => by obtain ⟨q0, q1, qP, qK, qD⟩ := q; exact ⟨q0, q1, qP, va_K.moved (u := U) (U := U.calling g mk a) (Vm.Alike.refl U.vm) qK, qD⟩, fun U hU hW => ⟨rfl, by rw [hU], by rw [hU]; exact hPc, va_K.moved hW.alike hK, hDc.weaken (fun _ _ _ _ => trivial)⟩⟩ rfl rfl hl.1 rfl (lv_room (Nat.le_of_ble_eq_true rfl)) dX10_init_21 ⟨(by first | exact Nat.le_of_ble_eq_true rfl | omega | (dsimp only [headSpec]; omega) | (simp only [headSpec]; omega) | omega), (by first | exact Nat.le_of_ble_eq_true rfl | omega | (dsimp only [headSpec]; omega) | (simp only [headSpec]; omega) | omega)⟩) hS (fun q _ h => hFc q h) hFc (fun u t H locs ht hvm hw hB hz1 hk1 hS => ?_)
  obtain ⟨a_3, hP1, hK1, hD1⟩ := hB
  rw [ht] at hP1
  obtain ⟨hP, hD⟩ := va_join (wr := [(h, .inr (17, [.ref q_1, .null, .null, .null, .null, .null]))]) (w1 := [(q_2, .inr (13, [.ref a_3, .int (nI 0)])), wa a_3 cI 0 (fun _ => 0)]) hP hD [1] [0] rfl rfl (by decide) (by decide) hk1 hFc hP1 hD1
  have hP : va_P (dC, dI) vwCl [(h, .inr (17, [.ref q_1, .null, .null, .null, .null, .null])), (q_2, .inr (13, [.ref a_3, .int (nI 0)])), wa a_3 cI 0 (fun _ => 0)] H := hP
  have hD : va_D A [(h, .inr (17, [.ref q_1, .null, .null, .null, .null, .null])), (q_2, .inr (13, [.ref a_3, .int (nI 0)])), wa a_3 cI 0 (fun _ => 0)] := hD
  refine W.widen (k := 3) (n := 5) (by first | exact Nat.le_of_ble_eq_true rfl | omega | (dsimp only [headSpec]; omega) | (simp only [headSpec]; omega) | omega) (by first | exact Nat.le_of_ble_eq_true rfl | omega | (dsimp only [headSpec]; omega) | (simp only [headSpec]; omega) | omega) ?_
  have hP : va_P (dC, dI) vwCl [(h, .inr (17, [.ref q_1, .null, .null, .null, .null, .null]))] H := hP.sub [0] rfl
  have hD : va_D A [(h, .inr (17, [.ref q_1, .null, .null, .null, .null, .null]))] := hD.sub [0] (by decide) rfl
  refine va_putF (D := (dC, dI)) (ci := 17) (v := .ref q_2) (ty := .object "Patchferry$Row") (C := RX10) (T := TX10) (N := 6) hx hb hts inX10_init_RX10 tyX10 tyX10_ok nmX10 hown hK hP hD hS 0 rfl rfl 1 (by decide) (hts (.fieldLink RX10 23 "Patchferry$Versions" "none" "LPatchferry$Row;") (by decide +kernel)) (fun _ h9 => h9) rfl hin rfl (by decide +kernel) rfl rfl (Nat.le_of_ble_eq_true rfl) dX10_init_24 (fun H locs hP hD hS => ?_)
  have hP : va_P (dC, dI) vwCl [(h, .inr (17, [.ref q_1, .ref q_2, .null, .null, .null, .null]))] H := hP
  have hD : va_D A [(h, .inr (17, [.ref q_1, .ref q_2, .null, .null, .null, .null]))] := hD
  refine lv_aload_n hx hb dX10_init_27 rfl (lv_at hl 0 rfl) ?_
  refine va_new (ci := 13) (fs := [.null, .int (nI 0)]) (C := RX6) (T := TX6) (N := 2) hx hb hts inX10_init_RX6 tyX6 tyX6_ok hown (hts (.classLink RX10 18 RX6) (by decide +kernel)) (hts (.instantiable RX6 2) (by decide +kernel)) (hts (.initialized RX6) (by decide +kernel)) hK hP hD hS hA rfl (fun j hj => by rcases (show j = 0 ∨ j = 1 by omega) with rfl | rfl <;> rfl) (by first | exact Nat.le_of_ble_eq_true rfl | omega | (dsimp only [headSpec]; omega) | (simp only [headSpec]; omega) | omega) (by first | exact Nat.le_of_ble_eq_true rfl | omega | (dsimp only [headSpec]; omega) | (simp only [headSpec]; omega) | omega) dX10_init_28 (fun q_4 H hP hD hS => ?_)
  have hP : va_P (dC, dI) vwCl [(h, .inr (17, [.ref q_1, .ref q_2, .null, .null, .null, .null])), (q_4, .inr (13, [.null, .int (nI 0)]))] H := hP
  have hD : va_D A [(h, .inr (17, [.ref q_1, .ref q_2, .null, .null, .null, .null])), (q_4, .inr (13, [.null, .int (nI 0)]))] := hD
  refine W.widen (k := 4) (n := 7) (by first | exact Nat.le_of_ble_eq_true rfl | omega | (dsimp only [headSpec]; omega) | (simp only [headSpec]; omega) | omega) (by first | exact Nat.le_of_ble_eq_true rfl | omega | (dsimp only [headSpec]; omega) | (simp only [headSpec]; omega) | omega) ?_
  refine lv_dup hx hb dX10_init_31 rfl ?_
  refine lv_bipush (v := nI 12) hx hb dX10_init_32 (by decide) ?_
  have hPc : va_P (dC, dI) vwCl [(q_4, .inr (13, [.null, .int (nI 0)]))] _ := hP.sub [1] rfl
  have hDc : va_D _ [(q_4, .inr (13, [.null, .int (nI 0)]))] := hD.sub [1] (by decide) rfl
  have hFc := va_free (wc := [(q_4, .inr (13, [.null, .int (nI 0)]))]) hD hS hA [1] rfl
  refine va_callv (va_runI (As := [.int (nI 12)]) (rest := [.ref q_4, .ref h]) ⟨hx, hb, hml, hown, hts⟩ (c_rowinit l dC dI cI cO H.size q_4 12 (by omega)) (cwI 1 hts ugX10_init_X6_init rfl rfl rfl (hts (.initialized RX6) (by decide +kernel)) (hts (.methodLink RX10 20 yX6_init) (by decide +kernel)) (hts (.instanceMethod yX6_init) (by decide +kernel)) rfl (by decide +kernel) ⟨(by first | exact Nat.le_of_ble_eq_true rfl | omega | (dsimp only [headSpec]; omega) | (simp only [headSpec]; omega) | omega), (by first | exact Nat.le_of_ble_eq_true rfl | omega | (dsimp only [headSpec]; omega) | (simp only [headSpec]; omega) | omega)⟩) ⟨fun a U g mk q => by obtain ⟨q0, q1, qP, qK, qD⟩ := q; exact ⟨q0, q1, qP, va_K.moved (u := U) (U := U.calling g mk a) (Vm.Alike.refl U.vm) qK, qD⟩, fun U hU hW => ⟨rfl, by rw [hU], by rw [hU]; exact hPc, va_K.moved hW.alike hK, hDc.weaken (fun _ _ _ _ => trivial)⟩⟩ rfl rfl hl.1 rfl (lv_room (Nat.le_of_ble_eq_true rfl)) dX10_init_34 ⟨(by first | exact Nat.le_of_ble_eq_true rfl | omega | (dsimp only [headSpec]; omega) | (simp only [headSpec]; omega) | omega), (by first | exact Nat.le_of_ble_eq_true rfl | omega | (dsimp only [headSpec]; omega) | (simp only [headSpec]; omega) | omega)⟩) hS (fun q _ h => hFc q h) hFc (fun u t H locs ht hvm hw hB hz1 hk1 hS => ?_)
  obtain ⟨a_5, hP1, hK1, hD1⟩ := hB
  rw [ht] at hP1
  obtain ⟨hP, hD⟩ := va_join (wr := [(h, .inr (17, [.ref q_1, .ref q_2, .null, .null, .null, .null]))]) (w1 := [(q_4, .inr (13, [.ref a_5, .int (nI 0)])), wa a_5 cI 12 (fun _ => 0)]) hP hD [1] [0] rfl rfl (by decide) (by decide) hk1 hFc hP1 hD1
  have hP : va_P (dC, dI) vwCl [(h, .inr (17, [.ref q_1, .ref q_2, .null, .null, .null, .null])), (q_4, .inr (13, [.ref a_5, .int (nI 0)])), wa a_5 cI 12 (fun _ => 0)] H := hP
  have hD : va_D A [(h, .inr (17, [.ref q_1, .ref q_2, .null, .null, .null, .null])), (q_4, .inr (13, [.ref a_5, .int (nI 0)])), wa a_5 cI 12 (fun _ => 0)] := hD
  refine W.widen (k := 5) (n := 19) (by first | exact Nat.le_of_ble_eq_true rfl | omega | (dsimp only [headSpec]; omega) | (simp only [headSpec]; omega) | omega) (by first | exact Nat.le_of_ble_eq_true rfl | omega | (dsimp only [headSpec]; omega) | (simp only [headSpec]; omega) | omega) ?_
  have hP : va_P (dC, dI) vwCl [(h, .inr (17, [.ref q_1, .ref q_2, .null, .null, .null, .null]))] H := hP.sub [0] rfl
  have hD : va_D A [(h, .inr (17, [.ref q_1, .ref q_2, .null, .null, .null, .null]))] := hD.sub [0] (by decide) rfl
  refine va_putF (D := (dC, dI)) (ci := 17) (v := .ref q_4) (ty := .object "Patchferry$Row") (C := RX10) (T := TX10) (N := 6) hx hb hts inX10_init_RX10 tyX10 tyX10_ok nmX10 hown hK hP hD hS 0 rfl rfl 2 (by decide) (hts (.fieldLink RX10 27 "Patchferry$Versions" "keys" "LPatchferry$Row;") (by decide +kernel)) (fun _ h9 => h9) rfl hin rfl (by decide +kernel) rfl rfl (Nat.le_of_ble_eq_true rfl) dX10_init_37 (fun H locs hP hD hS => ?_)
  have hP : va_P (dC, dI) vwCl [(h, .inr (17, [.ref q_1, .ref q_2, .ref q_4, .null, .null, .null]))] H := hP
  have hD : va_D A [(h, .inr (17, [.ref q_1, .ref q_2, .ref q_4, .null, .null, .null]))] := hD
  refine lv_aload_n hx hb dX10_init_40 rfl (lv_at hl 0 rfl) ?_
  refine va_new (ci := 13) (fs := [.null, .int (nI 0)]) (C := RX6) (T := TX6) (N := 2) hx hb hts inX10_init_RX6 tyX6 tyX6_ok hown (hts (.classLink RX10 18 RX6) (by decide +kernel)) (hts (.instantiable RX6 2) (by decide +kernel)) (hts (.initialized RX6) (by decide +kernel)) hK hP hD hS hA rfl (fun j hj => by rcases (show j = 0 ∨ j = 1 by omega) with rfl | rfl <;> rfl) (by first | exact Nat.le_of_ble_eq_true rfl | omega | (dsimp only [headSpec]; omega) | (simp only [headSpec]; omega) | omega) (by first | exact Nat.le_of_ble_eq_true rfl | omega | (dsimp only [headSpec]; omega) | (simp only [headSpec]; omega) | omega) dX10_init_41 (fun q_6 H hP hD hS => ?_)
  have hP : va_P (dC, dI) vwCl [(h, .inr (17, [.ref q_1, .ref q_2, .ref q_4, .null, .null, .null])), (q_6, .inr (13, [.null, .int (nI 0)]))] H := hP
  have hD : va_D A [(h, .inr (17, [.ref q_1, .ref q_2, .ref q_4, .null, .null, .null])), (q_6, .inr (13, [.null, .int (nI 0)]))] := hD
  refine W.widen (k := 6) (n := 21) (by first | exact Nat.le_of_ble_eq_true rfl | omega | (dsimp only [headSpec]; omega) | (simp only [headSpec]; omega) | omega) (by first | exact Nat.le_of_ble_eq_true rfl | omega | (dsimp only [headSpec]; omega) | (simp only [headSpec]; omega) | omega) ?_
  refine lv_dup hx hb dX10_init_44 rfl ?_
  refine lv_bipush (v := nI 12) hx hb dX10_init_45 (by decide) ?_
  have hPc : va_P (dC, dI) vwCl [(q_6, .inr (13, [.null, .int (nI 0)]))] _ := hP.sub [1] rfl
  have hDc : va_D _ [(q_6, .inr (13, [.null, .int (nI 0)]))] := hD.sub [1] (by decide) rfl
  have hFc := va_free (wc := [(q_6, .inr (13, [.null, .int (nI 0)]))]) hD hS hA [1] rfl
  refine va_callv (va_runI (As := [.int (nI 12)]) (rest := [.ref q_6, .ref h]) ⟨hx, hb, hml, hown, hts⟩ (c_rowinit l dC dI cI cO H.size q_6 12 (by omega)) (cwI 1 hts ugX10_init_X6_init rfl rfl rfl (hts (.initialized RX6) (by decide +kernel)) (hts (.methodLink RX10 20 yX6_init) (by decide +kernel)) (hts (.instanceMethod yX6_init) (by decide +kernel)) rfl (by decide +kernel) ⟨(by first | exact Nat.le_of_ble_eq_true rfl | omega | (dsimp only [headSpec]; omega) | (simp only [headSpec]; omega) | omega), (by first | exact Nat.le_of_ble_eq_true rfl | omega | (dsimp only [headSpec]; omega) | (simp only [headSpec]; omega) | omega)⟩) ⟨fun a U g mk q => by obtain ⟨q0, q1, qP, qK, qD⟩ := q; exact ⟨q0, q1, qP, va_K.moved (u := U) (U := U.calling g mk a) (Vm.Alike.refl U.vm) qK, qD⟩, fun U hU hW => ⟨rfl, by rw [hU], by rw [hU]; exact hPc, va_K.moved hW.alike hK, hDc.weaken (fun _ _ _ _ => trivial)⟩⟩ rfl rfl hl.1 rfl (lv_room (Nat.le_of_ble_eq_true rfl)) dX10_init_47 ⟨(by first | exact Nat.le_of_ble_eq_true rfl | omega | (dsimp only [headSpec]; omega) | (simp only [headSpec]; omega) | omega), (by first | exact Nat.le_of_ble_eq_true rfl | omega | (dsimp only [headSpec]; omega) | (simp only [headSpec]; omega) | omega)⟩) hS (fun q _ h => hFc q h) hFc (fun u t H locs ht hvm hw hB hz1 hk1 hS => ?_)
  obtain ⟨a_7, hP1, hK1, hD1⟩ := hB
  rw [ht] at hP1
  obtain ⟨hP, hD⟩ := va_join (wr := [(h, .inr (17, [.ref q_1, .ref q_2, .ref q_4, .null, .null, .null]))]) (w1 := [(q_6, .inr (13, [.ref a_7, .int (nI 0)])), wa a_7 cI 12 (fun _ => 0)]) hP hD [1] [0] rfl rfl (by decide) (by decide) hk1 hFc hP1 hD1
  have hP : va_P (dC, dI) vwCl [(h, .inr (17, [.ref q_1, .ref q_2, .ref q_4, .null, .null, .null])), (q_6, .inr (13, [.ref a_7, .int (nI 0)])), wa a_7 cI 12 (fun _ => 0)] H := hP
  have hD : va_D A [(h, .inr (17, [.ref q_1, .ref q_2, .ref q_4, .null, .null, .null])), (q_6, .inr (13, [.ref a_7, .int (nI 0)])), wa a_7 cI 12 (fun _ => 0)] := hD
  refine W.widen (k := 7) (n := 33) (by first | exact Nat.le_of_ble_eq_true rfl | omega | (dsimp only [headSpec]; omega) | (simp only [headSpec]; omega) | omega) (by first | exact Nat.le_of_ble_eq_true rfl | omega | (dsimp only [headSpec]; omega) | (simp only [headSpec]; omega) | omega) ?_
  have hP : va_P (dC, dI) vwCl [(h, .inr (17, [.ref q_1, .ref q_2, .ref q_4, .null, .null, .null]))] H := hP.sub [0] rfl
  have hD : va_D A [(h, .inr (17, [.ref q_1, .ref q_2, .ref q_4, .null, .null, .null]))] := hD.sub [0] (by decide) rfl
  refine va_putF (D := (dC, dI)) (ci := 17) (v := .ref q_6) (ty := .object "Patchferry$Row") (C := RX10) (T := TX10) (N := 6) hx hb hts inX10_init_RX10 tyX10 tyX10_ok nmX10 hown hK hP hD hS 0 rfl rfl 3 (by decide) (hts (.fieldLink RX10 30 "Patchferry$Versions" "counts" "LPatchferry$Row;") (by decide +kernel)) (fun _ h9 => h9) rfl hin rfl (by decide +kernel) rfl rfl (Nat.le_of_ble_eq_true rfl) dX10_init_50 (fun H locs hP hD hS => ?_)
  have hP : va_P (dC, dI) vwCl [(h, .inr (17, [.ref q_1, .ref q_2, .ref q_4, .ref q_6, .null, .null]))] H := hP
  have hD : va_D A [(h, .inr (17, [.ref q_1, .ref q_2, .ref q_4, .ref q_6, .null, .null]))] := hD
  refine lv_aload_n hx hb dX10_init_53 rfl (lv_at hl 0 rfl) ?_
  refine va_new (ci := 13) (fs := [.null, .int (nI 0)]) (C := RX6) (T := TX6) (N := 2) hx hb hts inX10_init_RX6 tyX6 tyX6_ok hown (hts (.classLink RX10 18 RX6) (by decide +kernel)) (hts (.instantiable RX6 2) (by decide +kernel)) (hts (.initialized RX6) (by decide +kernel)) hK hP hD hS hA rfl (fun j hj => by rcases (show j = 0 ∨ j = 1 by omega) with rfl | rfl <;> rfl) (by first | exact Nat.le_of_ble_eq_true rfl | omega | (dsimp only [headSpec]; omega) | (simp only [headSpec]; omega) | omega) (by first | exact Nat.le_of_ble_eq_true rfl | omega | (dsimp only [headSpec]; omega) | (simp only [headSpec]; omega) | omega) dX10_init_54 (fun q_8 H hP hD hS => ?_)
  have hP : va_P (dC, dI) vwCl [(h, .inr (17, [.ref q_1, .ref q_2, .ref q_4, .ref q_6, .null, .null])), (q_8, .inr (13, [.null, .int (nI 0)]))] H := hP
  have hD : va_D A [(h, .inr (17, [.ref q_1, .ref q_2, .ref q_4, .ref q_6, .null, .null])), (q_8, .inr (13, [.null, .int (nI 0)]))] := hD
  refine W.widen (k := 8) (n := 35) (by first | exact Nat.le_of_ble_eq_true rfl | omega | (dsimp only [headSpec]; omega) | (simp only [headSpec]; omega) | omega) (by first | exact Nat.le_of_ble_eq_true rfl | omega | (dsimp only [headSpec]; omega) | (simp only [headSpec]; omega) | omega) ?_
  refine lv_dup hx hb dX10_init_57 rfl ?_
  refine lv_bipush (v := nI 12) hx hb dX10_init_58 (by decide) ?_
  have hPc : va_P (dC, dI) vwCl [(q_8, .inr (13, [.null, .int (nI 0)]))] _ := hP.sub [1] rfl
  have hDc : va_D _ [(q_8, .inr (13, [.null, .int (nI 0)]))] := hD.sub [1] (by decide) rfl
  have hFc := va_free (wc := [(q_8, .inr (13, [.null, .int (nI 0)]))]) hD hS hA [1] rfl
  refine va_callv (va_runI (As := [.int (nI 12)]) (rest := [.ref q_8, .ref h]) ⟨hx, hb, hml, hown, hts⟩ (c_rowinit l dC dI cI cO H.size q_8 12 (by omega)) (cwI 1 hts ugX10_init_X6_init rfl rfl rfl (hts (.initialized RX6) (by decide +kernel)) (hts (.methodLink RX10 20 yX6_init) (by decide +kernel)) (hts (.instanceMethod yX6_init) (by decide +kernel)) rfl (by decide +kernel) ⟨(by first | exact Nat.le_of_ble_eq_true rfl | omega | (dsimp only [headSpec]; omega) | (simp only [headSpec]; omega) | omega), (by first | exact Nat.le_of_ble_eq_true rfl | omega | (dsimp only [headSpec]; omega) | (simp only [headSpec]; omega) | omega)⟩) ⟨fun a U g mk q => by obtain ⟨q0, q1, qP, qK, qD⟩ := q; exact ⟨q0, q1, qP, va_K.moved (u := U) (U := U.calling g mk a) (Vm.Alike.refl U.vm) qK, qD⟩, fun U hU hW => ⟨rfl, by rw [hU], by rw [hU]; exact hPc, va_K.moved hW.alike hK, hDc.weaken (fun _ _ _ _ => trivial)⟩⟩ rfl rfl hl.1 rfl (lv_room (Nat.le_of_ble_eq_true rfl)) dX10_init_60 ⟨(by first | exact Nat.le_of_ble_eq_true rfl | omega | (dsimp only [headSpec]; omega) | (simp only [headSpec]; omega) | omega), (by first | exact Nat.le_of_ble_eq_true rfl | omega | (dsimp only [headSpec]; omega) | (simp only [headSpec]; omega) | omega)⟩) hS (fun q _ h => hFc q h) hFc (fun u t H locs ht hvm hw hB hz1 hk1 hS => ?_)
  obtain ⟨a_9, hP1, hK1, hD1⟩ := hB
  rw [ht] at hP1
  obtain ⟨hP, hD⟩ := va_join (wr := [(h, .inr (17, [.ref q_1, .ref q_2, .ref q_4, .ref q_6, .null, .null]))]) (w1 := [(q_8, .inr (13, [.ref a_9, .int (nI 0)])), wa a_9 cI 12 (fun _ => 0)]) hP hD [1] [0] rfl rfl (by decide) (by decide) hk1 hFc hP1 hD1
  have hP : va_P (dC, dI) vwCl [(h, .inr (17, [.ref q_1, .ref q_2, .ref q_4, .ref q_6, .null, .null])), (q_8, .inr (13, [.ref a_9, .int (nI 0)])), wa a_9 cI 12 (fun _ => 0)] H := hP
  have hD : va_D A [(h, .inr (17, [.ref q_1, .ref q_2, .ref q_4, .ref q_6, .null, .null])), (q_8, .inr (13, [.ref a_9, .int (nI 0)])), wa a_9 cI 12 (fun _ => 0)] := hD
  refine W.widen (k := 9) (n := 47) (by first | exact Nat.le_of_ble_eq_true rfl | omega | (dsimp only [headSpec]; omega) | (simp only [headSpec]; omega) | omega) (by first | exact Nat.le_of_ble_eq_true rfl | omega | (dsimp only [headSpec]; omega) | (simp only [headSpec]; omega) | omega) ?_
  have hP : va_P (dC, dI) vwCl [(h, .inr (17, [.ref q_1, .ref q_2, .ref q_4, .ref q_6, .null, .null]))] H := hP.sub [0] rfl
  have hD : va_D A [(h, .inr (17, [.ref q_1, .ref q_2, .ref q_4, .ref q_6, .null, .null]))] := hD.sub [0] (by decide) rfl
  refine va_putF (D := (dC, dI)) (ci := 17) (v := .ref q_8) (ty := .object "Patchferry$Row") (C := RX10) (T := TX10) (N := 6) hx hb hts inX10_init_RX10 tyX10 tyX10_ok nmX10 hown hK hP hD hS 0 rfl rfl 4 (by decide) (hts (.fieldLink RX10 33 "Patchferry$Versions" "gains" "LPatchferry$Row;") (by decide +kernel)) (fun _ h9 => h9) rfl hin rfl (by decide +kernel) rfl rfl (Nat.le_of_ble_eq_true rfl) dX10_init_63 (fun H locs hP hD hS => ?_)
  have hP : va_P (dC, dI) vwCl [(h, .inr (17, [.ref q_1, .ref q_2, .ref q_4, .ref q_6, .ref q_8, .null]))] H := hP
  have hD : va_D A [(h, .inr (17, [.ref q_1, .ref q_2, .ref q_4, .ref q_6, .ref q_8, .null]))] := hD
  refine lv_aload_n hx hb dX10_init_66 rfl (lv_at hl 0 rfl) ?_
  refine va_new (ci := 13) (fs := [.null, .int (nI 0)]) (C := RX6) (T := TX6) (N := 2) hx hb hts inX10_init_RX6 tyX6 tyX6_ok hown (hts (.classLink RX10 18 RX6) (by decide +kernel)) (hts (.instantiable RX6 2) (by decide +kernel)) (hts (.initialized RX6) (by decide +kernel)) hK hP hD hS hA rfl (fun j hj => by rcases (show j = 0 ∨ j = 1 by omega) with rfl | rfl <;> rfl) (by first | exact Nat.le_of_ble_eq_true rfl | omega | (dsimp only [headSpec]; omega) | (simp only [headSpec]; omega) | omega) (by first | exact Nat.le_of_ble_eq_true rfl | omega | (dsimp only [headSpec]; omega) | (simp only [headSpec]; omega) | omega) dX10_init_67 (fun q_10 H hP hD hS => ?_)
  have hP : va_P (dC, dI) vwCl [(h, .inr (17, [.ref q_1, .ref q_2, .ref q_4, .ref q_6, .ref q_8, .null])), (q_10, .inr (13, [.null, .int (nI 0)]))] H := hP
  have hD : va_D A [(h, .inr (17, [.ref q_1, .ref q_2, .ref q_4, .ref q_6, .ref q_8, .null])), (q_10, .inr (13, [.null, .int (nI 0)]))] := hD
  refine W.widen (k := 10) (n := 49) (by first | exact Nat.le_of_ble_eq_true rfl | omega | (dsimp only [headSpec]; omega) | (simp only [headSpec]; omega) | omega) (by first | exact Nat.le_of_ble_eq_true rfl | omega | (dsimp only [headSpec]; omega) | (simp only [headSpec]; omega) | omega) ?_
  refine lv_dup hx hb dX10_init_70 rfl ?_
  refine lv_sipush (v := nI 144) hx hb dX10_init_71 (by decide) ?_
  have hPc : va_P (dC, dI) vwCl [(q_10, .inr (13, [.null, .int (nI 0)]))] _ := hP.sub [1] rfl
  have hDc : va_D _ [(q_10, .inr (13, [.null, .int (nI 0)]))] := hD.sub [1] (by decide) rfl
  have hFc := va_free (wc := [(q_10, .inr (13, [.null, .int (nI 0)]))]) hD hS hA [1] rfl
  refine va_callv (va_runI (As := [.int (nI 144)]) (rest := [.ref q_10, .ref h]) ⟨hx, hb, hml, hown, hts⟩ (c_rowinit l dC dI cI cO H.size q_10 144 (by omega)) (cwI 1 hts ugX10_init_X6_init rfl rfl rfl (hts (.initialized RX6) (by decide +kernel)) (hts (.methodLink RX10 20 yX6_init) (by decide +kernel)) (hts (.instanceMethod yX6_init) (by decide +kernel)) rfl (by decide +kernel) ⟨(by first | exact Nat.le_of_ble_eq_true rfl | omega | (dsimp only [headSpec]; omega) | (simp only [headSpec]; omega) | omega), (by first | exact Nat.le_of_ble_eq_true rfl | omega | (dsimp only [headSpec]; omega) | (simp only [headSpec]; omega) | omega)⟩) ⟨fun a U g mk q => by obtain ⟨q0, q1, qP, qK, qD⟩ := q; exact ⟨q0, q1, qP, va_K.moved (u := U) (U := U.calling g mk a) (Vm.Alike.refl U.vm) qK, qD⟩, fun U hU hW => ⟨rfl, by rw [hU], by rw [hU]; exact hPc, va_K.moved hW.alike hK, hDc.weaken (fun _ _ _ _ => trivial)⟩⟩ rfl rfl hl.1 rfl (lv_room (Nat.le_of_ble_eq_true rfl)) dX10_init_74 ⟨(by first | exact Nat.le_of_ble_eq_true rfl | omega | (dsimp only [headSpec]; omega) | (simp only [headSpec]; omega) | omega), (by first | exact Nat.le_of_ble_eq_true rfl | omega | (dsimp only [headSpec]; omega) | (simp only [headSpec]; omega) | omega)⟩) hS (fun q _ h => hFc q h) hFc (fun u t H locs ht hvm hw hB hz1 hk1 hS => ?_)
  obtain ⟨a_11, hP1, hK1, hD1⟩ := hB
  rw [ht] at hP1
  obtain ⟨hP, hD⟩ := va_join (wr := [(h, .inr (17, [.ref q_1, .ref q_2, .ref q_4, .ref q_6, .ref q_8, .null]))]) (w1 := [(q_10, .inr (13, [.ref a_11, .int (nI 0)])), wa a_11 cI 144 (fun _ => 0)]) hP hD [1] [0] rfl rfl (by decide) (by decide) hk1 hFc hP1 hD1
  have hP : va_P (dC, dI) vwCl [(h, .inr (17, [.ref q_1, .ref q_2, .ref q_4, .ref q_6, .ref q_8, .null])), (q_10, .inr (13, [.ref a_11, .int (nI 0)])), wa a_11 cI 144 (fun _ => 0)] H := hP
  have hD : va_D A [(h, .inr (17, [.ref q_1, .ref q_2, .ref q_4, .ref q_6, .ref q_8, .null])), (q_10, .inr (13, [.ref a_11, .int (nI 0)])), wa a_11 cI 144 (fun _ => 0)] := hD
  refine W.widen (k := 11) (n := 193) (by first | exact Nat.le_of_ble_eq_true rfl | omega | (dsimp only [headSpec]; omega) | (simp only [headSpec]; omega) | omega) (by first | exact Nat.le_of_ble_eq_true rfl | omega | (dsimp only [headSpec]; omega) | (simp only [headSpec]; omega) | omega) ?_
  have hP : va_P (dC, dI) vwCl [(h, .inr (17, [.ref q_1, .ref q_2, .ref q_4, .ref q_6, .ref q_8, .null]))] H := hP.sub [0] rfl
  have hD : va_D A [(h, .inr (17, [.ref q_1, .ref q_2, .ref q_4, .ref q_6, .ref q_8, .null]))] := hD.sub [0] (by decide) rfl
  refine va_putF (D := (dC, dI)) (ci := 17) (v := .ref q_10) (ty := .object "Patchferry$Row") (C := RX10) (T := TX10) (N := 6) hx hb hts inX10_init_RX10 tyX10 tyX10_ok nmX10 hown hK hP hD hS 0 rfl rfl 5 (by decide) (hts (.fieldLink RX10 36 "Patchferry$Versions" "costs" "LPatchferry$Row;") (by decide +kernel)) (fun _ h9 => h9) rfl hin rfl (by decide +kernel) rfl rfl (Nat.le_of_ble_eq_true rfl) dX10_init_77 (fun H locs hP hD hS => ?_)
  have hP : va_P (dC, dI) vwCl [(h, .inr (17, [.ref q_1, .ref q_2, .ref q_4, .ref q_6, .ref q_8, .ref q_10]))] H := hP
  have hD : va_D A [(h, .inr (17, [.ref q_1, .ref q_2, .ref q_4, .ref q_6, .ref q_8, .ref q_10]))] := hD
  have hPe : va_P (dC, dI) vwCl [] _ := hP.sub [] rfl
  have hDe : va_D A [] := hD.sub [] (by decide) rfl
  refine W.widen (k := 11) (n := 193) (by first | exact Nat.le_of_ble_eq_true rfl | omega | (dsimp only [headSpec]; omega) | (simp only [headSpec]; omega) | omega) (by first | exact Nat.le_of_ble_eq_true rfl | omega | (dsimp only [headSpec]; omega) | (simp only [headSpec]; omega) | omega) ?_
  exact W.vret hx hb hr (fun t ht hW => ⟨⟨(), rfl, trivial, by rw [ht]; exact hPe, va_K.moved hW.alike hK, hDe⟩, hS.F ht⟩) hS.2.2 dX10_init_80
set_option maxHeartbeats 4000000 in
set_option maxRecDepth 100000 in
theorem c_treeinit (l : Launch) (dC : Nat → ClassId) (dI : Nat → Nat → Nat) (cI cO : ClassId) (sz : Nat) (h : Nat) : Met l yX9_init usX9_init ({ frames := 2, cells := 2, slots := 202, locals := 37 }) (va_Pc [.ref h] (fun U => U.heap.size = sz ∧ va_P (dC, dI) vwCl [(h, .inr (16, [.null]))] U.heap ∧ va_K (dC, dI) vwCl (ty0 cI cO) U ∧ va_D (fun _ => True) [(h, .inr (16, [.null]))])) (va_Qv (fun _ : Unit => True) (fun _ t => va_P (dC, dI) vwCl [] t.heap ∧ va_K (dC, dI) vwCl (ty0 cI cO) t ∧ va_D (va_A [(h, .inr (16, [.null]))] sz) []) (va_A [(h, .inr (16, [.null]))] sz)) 2 202 (va_A [(h, .inr (16, [.null]))] sz) := by
  refine Met.ofW (cc := cX9_init) (maxL := 1) (ret := none) (by decide) rfl ?_
  intro p e s m args below meth c s₁ B hml hv
  obtain ⟨rfl, hsz, hP, hK, hD0⟩ := hv
  have hx := B.exec
  have hb := B.bytes
  have hr := B.returns
  have hts := atoms_spec (ws := usX9_init) B.pre
  have hown : s.vm.findClass RX9 = some m.cls := findClass_of_methodNamed B.named
  have hlocks := B.notSynchronized
  have hin : meth.name = "<init>" := (name_of_methodNamed B.named B.method).1
  subst hsz
  have hD := hD0.self (sz := s.heap.size)
  generalize hAe : va_A [(h, .inr (16, [.null]))] s.heap.size = A at hD ⊢
  have hA : ∀ q : Nat, s.heap.size ≤ q → A q := fun q h => by rw [← hAe]; exact Or.inr h
  have hS : va_S A s.heap s.heap [] := va_S.rf
  have hl := lv_entry ([.ref h]) (n := 1) (Nat.le_of_ble_eq_true rfl)
  rw [lg_entry_eq]
  generalize (lg_sl ([.ref h]) ++ List.replicate (1 - (lg_sl ([.ref h])).length) Slot.unset).toArray = ls at hl ⊢
  have hl : lv_has ls 1 [(0, .ref h)] := hl
  refine lv_aload_n hx hb dX9_init_0 rfl (lv_at hl 0 rfl) ?_
  refine W.objInit hx hb hown (hts (.methodLink RX9 3 objectInit) (by decide +kernel)) (hts (.instanceMethod objectInit) (by decide +kernel)) (hts _ (List.mem_of_getElem? (i := 3) rfl)) rfl (by rw [hml]; exact hl.1) rfl dX9_init_1 (by first | exact Nat.le_of_ble_eq_true rfl | omega | (dsimp only [headSpec]; omega) | (simp only [headSpec]; omega) | omega) (by first | exact Nat.le_of_ble_eq_true rfl | omega | (dsimp only [headSpec]; omega) | (simp only [headSpec]; omega) | omega) ?_
  refine W.eq (g2 := F0 m 4 ls []) rfl ?_
  refine lv_aload_n hx hb dX9_init_4 rfl (lv_at hl 0 rfl) ?_
  refine va_new (ci := 13) (fs := [.null, .int (nI 0)]) (C := RX6) (T := TX6) (N := 2) hx hb hts inX9_init_RX6 tyX6 tyX6_ok hown (hts (.classLink RX9 9 RX6) (by decide +kernel)) (hts (.instantiable RX6 2) (by decide +kernel)) (hts (.initialized RX6) (by decide +kernel)) hK hP hD hS hA rfl (fun j hj => by rcases (show j = 0 ∨ j = 1 by omega) with rfl | rfl <;> rfl) (by first | exact Nat.le_of_ble_eq_true rfl | omega | (dsimp only [headSpec]; omega) | (simp only [headSpec]; omega) | omega) (by first | exact Nat.le_of_ble_eq_true rfl | omega | (dsimp only [headSpec]; omega) | (simp only [headSpec]; omega) | omega) dX9_init_5 (fun q_1 H hP hD hS => ?_)
  have hP : va_P (dC, dI) vwCl [(h, .inr (16, [.null])), (q_1, .inr (13, [.null, .int (nI 0)]))] H := hP
  have hD : va_D A [(h, .inr (16, [.null])), (q_1, .inr (13, [.null, .int (nI 0)]))] := hD
  refine W.widen (k := 1) (n := 2) (by first | exact Nat.le_of_ble_eq_true rfl | omega | (dsimp only [headSpec]; omega) | (simp only [headSpec]; omega) | omega) (by first | exact Nat.le_of_ble_eq_true rfl | omega | (dsimp only [headSpec]; omega) | (simp only [headSpec]; omega) | omega) ?_
  refine lv_dup hx hb dX9_init_8 rfl ?_
  refine lv_sipush (v := nI 200) hx hb dX9_init_9 (by decide) ?_
  have hPc : va_P (dC, dI) vwCl [(q_1, .inr (13, [.null, .int (nI 0)]))] _ := hP.sub [1] rfl
  have hDc : va_D _ [(q_1, .inr (13, [.null, .int (nI 0)]))] := hD.sub [1] (by decide) rfl
  have hFc := va_free (wc := [(q_1, .inr (13, [.null, .int (nI 0)]))]) hD hS hA [1] rfl
  refine va_callv (va_runI (As := [.int (nI 200)]) (rest := [.ref q_1, .ref h]) ⟨hx, hb, hml, hown, hts⟩ (c_rowinit l dC dI cI cO H.size q_1 200 (by omega)) (cwI 1 hts ugX9_init_X6_init rfl rfl rfl (hts (.initialized RX6) (by decide +kernel)) (hts (.methodLink RX9 11 yX6_init) (by decide +kernel)) (hts (.instanceMethod yX6_init) (by decide +kernel)) rfl (by decide +kernel) ⟨(by first | exact Nat.le_of_ble_eq_true rfl | omega | (dsimp only [headSpec]; omega) | (simp only [headSpec]; omega) | omega), (by first | exact Nat.le_of_ble_eq_true rfl | omega | (dsimp only [headSpec]; omega) | (simp only [headSpec]; omega) | omega)⟩) ⟨fun a U g mk q => by obtain ⟨q0, q1, qP, qK, qD⟩ := q; exact ⟨q0, q1, qP, va_K.moved (u := U) (U := U.calling g mk a) (Vm.Alike.refl U.vm) qK, qD⟩, fun U hU hW => ⟨rfl, by rw [hU], by rw [hU]; exact hPc, va_K.moved hW.alike hK, hDc.weaken (fun _ _ _ _ => trivial)⟩⟩ rfl rfl hl.1 rfl (lv_room (Nat.le_of_ble_eq_true rfl)) dX9_init_12 ⟨(by first | exact Nat.le_of_ble_eq_true rfl | omega | (dsimp only [headSpec]; omega) | (simp only [headSpec]; omega) | omega), (by first | exact Nat.le_of_ble_eq_true rfl | omega | (dsimp only [headSpec]; omega) | (simp only [headSpec]; omega) | omega)⟩) hS (fun q _ h => hFc q h) hFc (fun u t H locs ht hvm hw hB hz1 hk1 hS => ?_)
  obtain ⟨a_2, hP1, hK1, hD1⟩ := hB
  rw [ht] at hP1
  obtain ⟨hP, hD⟩ := va_join (wr := [(h, .inr (16, [.null]))]) (w1 := [(q_1, .inr (13, [.ref a_2, .int (nI 0)])), wa a_2 cI 200 (fun _ => 0)]) hP hD [1] [0] rfl rfl (by decide) (by decide) hk1 hFc hP1 hD1
  have hP : va_P (dC, dI) vwCl [(h, .inr (16, [.null])), (q_1, .inr (13, [.ref a_2, .int (nI 0)])), wa a_2 cI 200 (fun _ => 0)] H := hP
  have hD : va_D A [(h, .inr (16, [.null])), (q_1, .inr (13, [.ref a_2, .int (nI 0)])), wa a_2 cI 200 (fun _ => 0)] := hD
  refine W.widen (k := 2) (n := 202) (by first | exact Nat.le_of_ble_eq_true rfl | omega | (dsimp only [headSpec]; omega) | (simp only [headSpec]; omega) | omega) (by first | exact Nat.le_of_ble_eq_true rfl | omega | (dsimp only [headSpec]; omega) | (simp only [headSpec]; omega) | omega) ?_
  have hP : va_P (dC, dI) vwCl [(h, .inr (16, [.null]))] H := hP.sub [0] rfl
  have hD : va_D A [(h, .inr (16, [.null]))] := hD.sub [0] (by decide) rfl
  refine va_putF (D := (dC, dI)) (ci := 16) (v := .ref q_1) (ty := .object "Patchferry$Row") (C := RX9) (T := TX9) (N := 1) hx hb hts inX9_init_RX9 tyX9 tyX9_ok nmX9 hown hK hP hD hS 0 rfl rfl 0 (by decide) (hts (.fieldLink RX9 14 "Patchferry$Tree" "sums" "LPatchferry$Row;") (by decide +kernel)) (fun _ h9 => h9) rfl hin rfl (by decide +kernel) rfl rfl (Nat.le_of_ble_eq_true rfl) dX9_init_15 (fun H locs hP hD hS => ?_)
  have hP : va_P (dC, dI) vwCl [(h, .inr (16, [.ref q_1]))] H := hP
  have hD : va_D A [(h, .inr (16, [.ref q_1]))] := hD
  have hPe : va_P (dC, dI) vwCl [] _ := hP.sub [] rfl
  have hDe : va_D A [] := hD.sub [] (by decide) rfl
  refine W.widen (k := 2) (n := 202) (by first | exact Nat.le_of_ble_eq_true rfl | omega | (dsimp only [headSpec]; omega) | (simp only [headSpec]; omega) | omega) (by first | exact Nat.le_of_ble_eq_true rfl | omega | (dsimp only [headSpec]; omega) | (simp only [headSpec]; omega) | omega) ?_
  exact W.vret hx hb hr (fun t ht hW => ⟨⟨(), rfl, trivial, by rw [ht]; exact hPe, va_K.moved hW.alike hK, hDe⟩, hS.F ht⟩) hS.2.2 dX9_init_18
end
section
/-! laid by wip/whole: names, words and decode rows from the print of the task; the contracts are told in wip/whole/*.py -/
theorem dX11_init_0 : decode cX11_init 0 = .ok (.aload_n 0, 1) := by decide +kernel
theorem dX11_init_1 : decode cX11_init 1 = .ok (.invokespecial 1, 3) := by decide +kernel
theorem dX11_init_4 : decode cX11_init 4 = .ok (.aload_n 0, 1) := by decide +kernel
theorem dX11_init_5 : decode cX11_init 5 = .ok (.new 7, 3) := by decide +kernel
theorem dX11_init_8 : decode cX11_init 8 = .ok (.dup, 1) := by decide +kernel
theorem dX11_init_9 : decode cX11_init 9 = .ok (.invokespecial 9, 3) := by decide +kernel
theorem dX11_init_12 : decode cX11_init 12 = .ok (.putfield 10, 3) := by decide +kernel
theorem dX11_init_15 : decode cX11_init 15 = .ok (.aload_n 0, 1) := by decide +kernel
theorem dX11_init_16 : decode cX11_init 16 = .ok (.new 7, 3) := by decide +kernel
theorem dX11_init_19 : decode cX11_init 19 = .ok (.dup, 1) := by decide +kernel
theorem dX11_init_20 : decode cX11_init 20 = .ok (.invokespecial 9, 3) := by decide +kernel
theorem dX11_init_23 : decode cX11_init 23 = .ok (.putfield 16, 3) := by decide +kernel
theorem dX11_init_26 : decode cX11_init 26 = .ok (.aload_n 0, 1) := by decide +kernel
theorem dX11_init_27 : decode cX11_init 27 = .ok (.new 19, 3) := by decide +kernel
theorem dX11_init_30 : decode cX11_init 30 = .ok (.dup, 1) := by decide +kernel
theorem dX11_init_31 : decode cX11_init 31 = .ok (.sipush 200, 3) := by decide +kernel
theorem dX11_init_34 : decode cX11_init 34 = .ok (.invokespecial 21, 3) := by decide +kernel
theorem dX11_init_37 : decode cX11_init 37 = .ok (.putfield 24, 3) := by decide +kernel
theorem dX11_init_40 : decode cX11_init 40 = .ok (.aload_n 0, 1) := by decide +kernel
theorem dX11_init_41 : decode cX11_init 41 = .ok (.new 28, 3) := by decide +kernel
theorem dX11_init_44 : decode cX11_init 44 = .ok (.dup, 1) := by decide +kernel
theorem dX11_init_45 : decode cX11_init 45 = .ok (.invokespecial 30, 3) := by decide +kernel
theorem dX11_init_48 : decode cX11_init 48 = .ok (.putfield 31, 3) := by decide +kernel
theorem dX11_init_51 : decode cX11_init 51 = .ok (.aload_n 0, 1) := by decide +kernel
theorem dX11_init_52 : decode cX11_init 52 = .ok (.new 19, 3) := by decide +kernel
theorem dX11_init_55 : decode cX11_init 55 = .ok (.dup, 1) := by decide +kernel
theorem dX11_init_56 : decode cX11_init 56 = .ok (.sipush 600, 3) := by decide +kernel
theorem dX11_init_59 : decode cX11_init 59 = .ok (.invokespecial 21, 3) := by decide +kernel
theorem dX11_init_62 : decode cX11_init 62 = .ok (.putfield 35, 3) := by decide +kernel
theorem dX11_init_65 : decode cX11_init 65 = .ok (.aload_n 0, 1) := by decide +kernel
theorem dX11_init_66 : decode cX11_init 66 = .ok (.new 19, 3) := by decide +kernel
theorem dX11_init_69 : decode cX11_init 69 = .ok (.dup, 1) := by decide +kernel
theorem dX11_init_70 : decode cX11_init 70 = .ok (.sipush 600, 3) := by decide +kernel
theorem dX11_init_73 : decode cX11_init 73 = .ok (.invokespecial 21, 3) := by decide +kernel
theorem dX11_init_76 : decode cX11_init 76 = .ok (.putfield 38, 3) := by decide +kernel
theorem dX11_init_79 : decode cX11_init 79 = .ok (.aload_n 0, 1) := by decide +kernel
theorem dX11_init_80 : decode cX11_init 80 = .ok (.new 19, 3) := by decide +kernel
theorem dX11_init_83 : decode cX11_init 83 = .ok (.dup, 1) := by decide +kernel
theorem dX11_init_84 : decode cX11_init 84 = .ok (.sipush 2600, 3) := by decide +kernel
theorem dX11_init_87 : decode cX11_init 87 = .ok (.invokespecial 21, 3) := by decide +kernel
theorem dX11_init_90 : decode cX11_init 90 = .ok (.putfield 41, 3) := by decide +kernel
theorem dX11_init_93 : decode cX11_init 93 = .ok (.aload_n 0, 1) := by decide +kernel
theorem dX11_init_94 : decode cX11_init 94 = .ok (.new 44, 3) := by decide +kernel
theorem dX11_init_97 : decode cX11_init 97 = .ok (.dup, 1) := by decide +kernel
theorem dX11_init_98 : decode cX11_init 98 = .ok (.invokespecial 46, 3) := by decide +kernel
theorem dX11_init_101 : decode cX11_init 101 = .ok (.putfield 47, 3) := by decide +kernel
theorem dX11_init_104 : decode cX11_init 104 = .ok (.aload_n 0, 1) := by decide +kernel
theorem dX11_init_105 : decode cX11_init 105 = .ok (.new 51, 3) := by decide +kernel
theorem dX11_init_108 : decode cX11_init 108 = .ok (.dup, 1) := by decide +kernel
theorem dX11_init_109 : decode cX11_init 109 = .ok (.invokespecial 53, 3) := by decide +kernel
theorem dX11_init_112 : decode cX11_init 112 = .ok (.putfield 54, 3) := by decide +kernel
theorem dX11_init_115 : decode cX11_init 115 = .ok (.aload_n 0, 1) := by decide +kernel
theorem dX11_init_116 : decode cX11_init 116 = .ok (.new 58, 3) := by decide +kernel
theorem dX11_init_119 : decode cX11_init 119 = .ok (.dup, 1) := by decide +kernel
theorem dX11_init_120 : decode cX11_init 120 = .ok (.invokespecial 60, 3) := by decide +kernel
theorem dX11_init_123 : decode cX11_init 123 = .ok (.putfield 61, 3) := by decide +kernel
theorem dX11_init_126 : decode cX11_init 126 = .ok (.aload_n 0, 1) := by decide +kernel
theorem dX11_init_127 : decode cX11_init 127 = .ok (.new 65, 3) := by decide +kernel
theorem dX11_init_130 : decode cX11_init 130 = .ok (.dup, 1) := by decide +kernel
theorem dX11_init_131 : decode cX11_init 131 = .ok (.invokespecial 67, 3) := by decide +kernel
theorem dX11_init_134 : decode cX11_init 134 = .ok (.putfield 68, 3) := by decide +kernel
theorem dX11_init_137 : decode cX11_init 137 = .ok (.aload_n 0, 1) := by decide +kernel
theorem dX11_init_138 : decode cX11_init 138 = .ok (.new 65, 3) := by decide +kernel
theorem dX11_init_141 : decode cX11_init 141 = .ok (.dup, 1) := by decide +kernel
theorem dX11_init_142 : decode cX11_init 142 = .ok (.invokespecial 67, 3) := by decide +kernel
theorem dX11_init_145 : decode cX11_init 145 = .ok (.putfield 72, 3) := by decide +kernel
theorem dX11_init_148 : decode cX11_init 148 = .ok (.aload_n 0, 1) := by decide +kernel
theorem dX11_init_149 : decode cX11_init 149 = .ok (.new 75, 3) := by decide +kernel
theorem dX11_init_152 : decode cX11_init 152 = .ok (.dup, 1) := by decide +kernel
theorem dX11_init_153 : decode cX11_init 153 = .ok (.invokespecial 77, 3) := by decide +kernel
theorem dX11_init_156 : decode cX11_init 156 = .ok (.putfield 78, 3) := by decide +kernel
theorem dX11_init_159 : decode cX11_init 159 = .ok (.aload_n 0, 1) := by decide +kernel
theorem dX11_init_160 : decode cX11_init 160 = .ok (.new 82, 3) := by decide +kernel
theorem dX11_init_163 : decode cX11_init 163 = .ok (.dup, 1) := by decide +kernel
theorem dX11_init_164 : decode cX11_init 164 = .ok (.invokespecial 84, 3) := by decide +kernel
theorem dX11_init_167 : decode cX11_init 167 = .ok (.putfield 85, 3) := by decide +kernel
theorem dX11_init_170 : decode cX11_init 170 = .ok (.aload_n 0, 1) := by decide +kernel
theorem dX11_init_171 : decode cX11_init 171 = .ok (.new 89, 3) := by decide +kernel
theorem dX11_init_174 : decode cX11_init 174 = .ok (.dup, 1) := by decide +kernel
theorem dX11_init_175 : decode cX11_init 175 = .ok (.invokespecial 91, 3) := by decide +kernel
theorem dX11_init_178 : decode cX11_init 178 = .ok (.putfield 92, 3) := by decide +kernel
theorem dX11_init_181 : decode cX11_init 181 = .ok (.aload_n 0, 1) := by decide +kernel
theorem dX11_init_182 : decode cX11_init 182 = .ok (.new 96, 3) := by decide +kernel
theorem dX11_init_185 : decode cX11_init 185 = .ok (.dup, 1) := by decide +kernel
theorem dX11_init_186 : decode cX11_init 186 = .ok (.invokespecial 98, 3) := by decide +kernel
theorem dX11_init_189 : decode cX11_init 189 = .ok (.putfield 99, 3) := by decide +kernel
theorem dX11_init_192 : decode cX11_init 192 = .ok (.aload_n 0, 1) := by decide +kernel
theorem dX11_init_193 : decode cX11_init 193 = .ok (.new 103, 3) := by decide +kernel
theorem dX11_init_196 : decode cX11_init 196 = .ok (.dup, 1) := by decide +kernel
theorem dX11_init_197 : decode cX11_init 197 = .ok (.invokespecial 105, 3) := by decide +kernel
theorem dX11_init_200 : decode cX11_init 200 = .ok (.putfield 106, 3) := by decide +kernel
theorem dX11_init_203 : decode cX11_init 203 = .ok (.aload_n 0, 1) := by decide +kernel
theorem dX11_init_204 : decode cX11_init 204 = .ok (.new 110, 3) := by decide +kernel
theorem dX11_init_207 : decode cX11_init 207 = .ok (.dup, 1) := by decide +kernel
theorem dX11_init_208 : decode cX11_init 208 = .ok (.invokespecial 112, 3) := by decide +kernel
theorem dX11_init_211 : decode cX11_init 211 = .ok (.putfield 113, 3) := by decide +kernel
theorem dX11_init_214 : decode cX11_init 214 = .ok (.aload_n 0, 1) := by decide +kernel
theorem dX11_init_215 : decode cX11_init 215 = .ok (.iconst (-1), 1) := by decide +kernel
theorem dX11_init_216 : decode cX11_init 216 = .ok (.putfield 117, 3) := by decide +kernel
theorem dX11_init_219 : decode cX11_init 219 = .ok (.return_, 1) := by decide +kernel
def usX11_init_r1 : List Cond := [Cond.methodLink RX11 1 objectInit, Cond.instanceMethod objectInit, Cond.code objectInit ⟨#[0xb1]⟩ 1 none, Cond.classLink RX11 7 RJx4a65c, Cond.instantiable RJx4a65c 3, Cond.initialized RJx4a65c, Cond.fieldLink RX11 10 "Patchferry" "texts" "Ljava/util/ArrayList;", Cond.fieldLink RX11 16 "Patchferry" "patches" "Ljava/util/ArrayList;", Cond.classLink RX11 19 RX6, Cond.instantiable RX6 2, Cond.initialized RX6, Cond.fieldLink RX11 24 "Patchferry" "buffer" "LPatchferry$Row;", Cond.classLink RX11 28 RJ4, Cond.instantiable RJ4 4, Cond.initialized RJ4, Cond.fieldLink RX11 31 "Patchferry" "word" "Ljava/lang/StringBuilder;", Cond.fieldLink RX11 35 "Patchferry" "work" "LPatchferry$Row;", Cond.fieldLink RX11 38 "Patchferry" "spare" "LPatchferry$Row;", Cond.fieldLink RX11 41 "Patchferry" "signs" "LPatchferry$Row;", Cond.classLink RX11 44 RX7]
def usX11_init_r2 : List Cond := [Cond.instantiable RX7 2, Cond.initialized RX7, Cond.fieldLink RX11 47 "Patchferry" "runs" "LPatchferry$Runs;", Cond.classLink RX11 51 RX1, Cond.instantiable RX1 10, Cond.initialized RX1, Cond.fieldLink RX11 54 "Patchferry" "differ" "LPatchferry$Differ;", Cond.classLink RX11 58 RX4, Cond.instantiable RX4 4, Cond.initialized RX4, Cond.fieldLink RX11 61 "Patchferry" "link" "LPatchferry$Patch;", Cond.classLink RX11 65 RX3, Cond.instantiable RX3 4, Cond.initialized RX3, Cond.fieldLink RX11 68 "Patchferry" "mine" "LPatchferry$Edits;", Cond.fieldLink RX11 72 "Patchferry" "theirs" "LPatchferry$Edits;", Cond.classLink RX11 75 RX8, Cond.instantiable RX8 14, Cond.initialized RX8, Cond.fieldLink RX11 78 "Patchferry" "shelf" "LPatchferry$Store;"]
def usX11_init_r3 : List Cond := [Cond.classLink RX11 82 RX0, Cond.instantiable RX0 5, Cond.initialized RX0, Cond.fieldLink RX11 85 "Patchferry" "blocks" "LPatchferry$Blocks;", Cond.classLink RX11 89 RX5, Cond.instantiable RX5 2, Cond.initialized RX5, Cond.fieldLink RX11 92 "Patchferry" "program" "LPatchferry$Program;", Cond.classLink RX11 96 RX2, Cond.instantiable RX2 12, Cond.initialized RX2, Cond.fieldLink RX11 99 "Patchferry" "disk" "LPatchferry$Disk;", Cond.classLink RX11 103 RX10, Cond.instantiable RX10 6, Cond.initialized RX10, Cond.fieldLink RX11 106 "Patchferry" "versions" "LPatchferry$Versions;", Cond.classLink RX11 110 RX9, Cond.instantiable RX9 1, Cond.initialized RX9, Cond.fieldLink RX11 113 "Patchferry" "tree" "LPatchferry$Tree;"]
def usX11_init_r4 : List Cond := [Cond.fieldLink RX11 117 "Patchferry" "lastClash" "I", Cond.methodLink RX11 9 yJx4a65c_init_da8c8, Cond.instanceMethod yJx4a65c_init_da8c8, Cond.code yJx4a65c_init_da8c8 cJx4a65c_init_da8c8 1 none, Cond.fieldLink RJx4a65c 39 "java/util/ArrayList" "DEFAULTCAPACITY_EMPTY_ELEMENTDATA" "[Ljava/lang/Object;", Cond.fieldLink RJx4a65c 9 "java/util/ArrayList" "elementData" "[Ljava/lang/Object;", Cond.methodLink RJx4a65c 1 yJxc12de_init_da8c8, Cond.instanceMethod yJxc12de_init_da8c8, Cond.initialized RJxc12de, Cond.code yJxc12de_init_da8c8 cJxc12de_init_da8c8 1 none, Cond.fieldLink RJxc12de 7 "java/util/AbstractList" "modCount" "I", Cond.methodLink RJxc12de 1 yJxa1e45_init_da8c8, Cond.instanceMethod yJxa1e45_init_da8c8, Cond.initialized RJxa1e45, Cond.code yJxa1e45_init_da8c8 cJxa1e45_init_da8c8 1 none, Cond.methodLink RJxa1e45 1 objectInit, Cond.methodLink RX11 21 yX6_init, Cond.instanceMethod yX6_init, Cond.code yX6_init cX6_init 2 none, Cond.methodLink RX6 3 objectInit]
def usX11_init_r5 : List Cond := [Cond.methodLink RX6 9 Lib.Math.max.name, Cond.static Lib.Math.max.name, Cond.initialized "java/lang/Math", Cond.code Lib.Math.max.name Lib.Math.max.code 2 (some .int), Cond.arrayClass .int, Cond.fieldLink RX6 15 "Patchferry$Row" "cells" "[I", Cond.methodLink RX11 30 yJ4_init_da8c8, Cond.instanceMethod yJ4_init_da8c8, Cond.code yJ4_init_da8c8 cJ4_init_da8c8 1 none, Cond.methodLink RJ4 1 yJ5_init_d00df, Cond.instanceMethod yJ5_init_d00df, Cond.initialized RJ5, Cond.code yJ5_init_d00df cJ5_init_d00df 2 none, Cond.methodLink RJ5 3 objectInit, Cond.fieldLink RJ5 18 "java/lang/String" "COMPACT_STRINGS" "Z", Cond.arrayClass .byte, Cond.fieldLink RJ5 15 "java/lang/AbstractStringBuilder" "value" "[B", Cond.fieldLink RJ5 22 "java/lang/AbstractStringBuilder" "coder" "B", Cond.methodLink RJ5 26 yJ2_newBytesFor_77867, Cond.static yJ2_newBytesFor_77867]
def usX11_init_r6 : List Cond := [Cond.initialized RJ2, Cond.code yJ2_newBytesFor_77867 cJ2_newBytesFor_77867 1 (some (.array .byte)), Cond.methodLink RJ2 11 yJ2_newBytesLength_0f7a4, Cond.static yJ2_newBytesLength_0f7a4, Cond.code yJ2_newBytesLength_0f7a4 cJ2_newBytesLength_0f7a4 1 (some .int), Cond.constant RJ2 20 (1073741823), Cond.methodLink RX11 46 yX7_init, Cond.instanceMethod yX7_init, Cond.code yX7_init cX7_init 1 none, Cond.methodLink RX7 3 objectInit, Cond.classLink RX7 9 RX6, Cond.fieldLink RX7 14 "Patchferry$Runs" "values" "LPatchferry$Row;", Cond.fieldLink RX7 20 "Patchferry$Runs" "ends" "LPatchferry$Row;", Cond.methodLink RX7 11 yX6_init, Cond.methodLink RX11 53 yX1_init, Cond.instanceMethod yX1_init, Cond.code yX1_init cX1_init 1 none, Cond.methodLink RX1 1 objectInit, Cond.classLink RX1 7 RX7, Cond.fieldLink RX1 10 "Patchferry$Differ" "before" "LPatchferry$Runs;"]
def usX11_init_r7 : List Cond := [Cond.fieldLink RX1 16 "Patchferry$Differ" "after" "LPatchferry$Runs;", Cond.methodLink RX1 9 yX7_init, Cond.methodLink RX11 60 yX4_init, Cond.instanceMethod yX4_init, Cond.code yX4_init cX4_init 1 none, Cond.methodLink RX4 3 objectInit, Cond.classLink RX4 9 RX6, Cond.fieldLink RX4 14 "Patchferry$Patch" "froms" "LPatchferry$Row;", Cond.fieldLink RX4 20 "Patchferry$Patch" "sizes" "LPatchferry$Row;", Cond.fieldLink RX4 23 "Patchferry$Patch" "adds" "LPatchferry$Row;", Cond.fieldLink RX4 26 "Patchferry$Patch" "base" "LPatchferry$Row;", Cond.methodLink RX4 11 yX6_init, Cond.methodLink RX11 67 yX3_init, Cond.instanceMethod yX3_init, Cond.code yX3_init cX3_init 1 none, Cond.methodLink RX3 3 objectInit, Cond.classLink RX3 9 RX6, Cond.fieldLink RX3 16 "Patchferry$Edits" "froms" "LPatchferry$Row;", Cond.fieldLink RX3 20 "Patchferry$Edits" "tos" "LPatchferry$Row;", Cond.fieldLink RX3 23 "Patchferry$Edits" "begins" "LPatchferry$Row;"]
def usX11_init_r8 : List Cond := [Cond.fieldLink RX3 26 "Patchferry$Edits" "values" "LPatchferry$Row;", Cond.methodLink RX3 13 yX6_init, Cond.methodLink RX11 77 yX8_init, Cond.instanceMethod yX8_init, Cond.code yX8_init cX8_init 1 none, Cond.methodLink RX8 5 objectInit, Cond.classLink RX8 11 RJx4a65c, Cond.fieldLink RX8 14 "Patchferry$Store" "texts" "Ljava/util/ArrayList;", Cond.fieldLink RX8 18 "Patchferry$Store" "cuts" "Ljava/util/ArrayList;", Cond.classLink RX8 21 RX6, Cond.fieldLink RX8 26 "Patchferry$Store" "none" "LPatchferry$Row;", Cond.fieldLink RX8 30 "Patchferry$Store" "homes" "LPatchferry$Row;", Cond.fieldLink RX8 33 "Patchferry$Store" "starts" "LPatchferry$Row;", Cond.fieldLink RX8 36 "Patchferry$Store" "sizes" "LPatchferry$Row;", Cond.fieldLink RX8 39 "Patchferry$Store" "sums" "LPatchferry$Row;", Cond.fieldLink RX8 42 "Patchferry$Store" "uses" "LPatchferry$Row;", Cond.fieldLink RX8 45 "Patchferry$Store" "kept" "LPatchferry$Row;", Cond.fieldLink RX8 48 "Patchferry$Store" "isStored" "LPatchferry$Row;", Cond.fieldLink RX8 51 "Patchferry$Store" "folders" "LPatchferry$Row;", Cond.fieldLink RX8 54 "Patchferry$Store" "numbers" "LPatchferry$Row;"]
def usX11_init_r9 : List Cond := [Cond.fieldLink RX8 57 "Patchferry$Store" "marks" "LPatchferry$Row;", Cond.fieldLink RX8 60 "Patchferry$Store" "grid" "LPatchferry$Row;", Cond.methodLink RX8 13 yJx4a65c_init_da8c8, Cond.methodLink RX8 23 yX6_init, Cond.methodLink RX11 84 yX0_init, Cond.instanceMethod yX0_init, Cond.code yX0_init cX0_init 1 none, Cond.methodLink RX0 3 objectInit, Cond.classLink RX0 9 RX6, Cond.fieldLink RX0 14 "Patchferry$Blocks" "weaks" "LPatchferry$Row;", Cond.fieldLink RX0 20 "Patchferry$Blocks" "strongs" "LPatchferry$Row;", Cond.methodLink RX0 11 yX6_init, Cond.methodLink RX11 91 yX5_init, Cond.instanceMethod yX5_init, Cond.code yX5_init cX5_init 1 none, Cond.methodLink RX5 3 objectInit, Cond.classLink RX5 9 RX6, Cond.fieldLink RX5 14 "Patchferry$Program" "marks" "LPatchferry$Row;", Cond.fieldLink RX5 20 "Patchferry$Program" "places" "LPatchferry$Row;", Cond.methodLink RX5 11 yX6_init]
def usX11_init_r10 : List Cond := [Cond.methodLink RX11 98 yX2_init, Cond.instanceMethod yX2_init, Cond.code yX2_init cX2_init 1 none, Cond.methodLink RX2 3 objectInit, Cond.classLink RX2 9 RX6, Cond.fieldLink RX2 14 "Patchferry$Disk" "cells" "LPatchferry$Row;", Cond.fieldLink RX2 20 "Patchferry$Disk" "ahead" "LPatchferry$Row;", Cond.fieldLink RX2 23 "Patchferry$Disk" "hand" "LPatchferry$Row;", Cond.fieldLink RX2 26 "Patchferry$Disk" "begins" "LPatchferry$Row;", Cond.fieldLink RX2 29 "Patchferry$Disk" "needs" "LPatchferry$Row;", Cond.fieldLink RX2 32 "Patchferry$Disk" "order" "LPatchferry$Row;", Cond.classLink RX2 35 RX4, Cond.fieldLink RX2 38 "Patchferry$Disk" "laid" "LPatchferry$Patch;", Cond.fieldLink RX2 42 "Patchferry$Disk" "cut" "I", Cond.methodLink RX2 11 yX6_init, Cond.methodLink RX2 37 yX4_init, Cond.methodLink RX11 105 yX10_init, Cond.instanceMethod yX10_init, Cond.code yX10_init cX10_init 1 none, Cond.methodLink RX10 3 objectInit]
def usX11_init_r11 : List Cond := [Cond.classLink RX10 9 RJx4a65c, Cond.fieldLink RX10 12 "Patchferry$Versions" "texts" "Ljava/util/ArrayList;", Cond.classLink RX10 18 RX6, Cond.fieldLink RX10 23 "Patchferry$Versions" "none" "LPatchferry$Row;", Cond.fieldLink RX10 27 "Patchferry$Versions" "keys" "LPatchferry$Row;", Cond.fieldLink RX10 30 "Patchferry$Versions" "counts" "LPatchferry$Row;", Cond.fieldLink RX10 33 "Patchferry$Versions" "gains" "LPatchferry$Row;", Cond.fieldLink RX10 36 "Patchferry$Versions" "costs" "LPatchferry$Row;", Cond.methodLink RX10 11 yJx4a65c_init_da8c8, Cond.methodLink RX10 20 yX6_init, Cond.methodLink RX11 112 yX9_init, Cond.instanceMethod yX9_init, Cond.code yX9_init cX9_init 1 none, Cond.methodLink RX9 3 objectInit, Cond.classLink RX9 9 RX6, Cond.fieldLink RX9 14 "Patchferry$Tree" "sums" "LPatchferry$Row;", Cond.methodLink RX9 11 yX6_init]
def usX11_init : List Cond := .code yX11_init cX11_init 1 none :: ((usX11_init_r1 ++ (usX11_init_r2 ++ (usX11_init_r3 ++ (usX11_init_r4 ++ (usX11_init_r5 ++ (usX11_init_r6 ++ (usX11_init_r7 ++ (usX11_init_r8 ++ (usX11_init_r9 ++ (usX11_init_r10 ++ (usX11_init_r11))))))))))) ++ wsJx4a65c0 ++ wsX110 ++ wsX60 ++ wsJ40 ++ wsX70 ++ wsX10 ++ wsX40 ++ wsX30 ++ wsX80 ++ wsX00 ++ wsX50 ++ wsX20 ++ wsX100 ++ wsX90)
theorem inX11_init_RJ4 : ∀ w ∈ u_ws RJ4 TJ4 4, w ∈ usX11_init := by decide +kernel
theorem inX11_init_RJx4a65c : ∀ w ∈ u_ws RJx4a65c TJx4a65c 3, w ∈ usX11_init := by decide +kernel
theorem inX11_init_RX0 : ∀ w ∈ u_ws RX0 TX0 5, w ∈ usX11_init := by decide +kernel
theorem inX11_init_RX1 : ∀ w ∈ u_ws RX1 TX1 10, w ∈ usX11_init := by decide +kernel
theorem inX11_init_RX10 : ∀ w ∈ u_ws RX10 TX10 6, w ∈ usX11_init := by decide +kernel
theorem inX11_init_RX11 : ∀ w ∈ u_ws RX11 TX11 19, w ∈ usX11_init := by decide +kernel
theorem inX11_init_RX2 : ∀ w ∈ u_ws RX2 TX2 12, w ∈ usX11_init := by decide +kernel
theorem inX11_init_RX3 : ∀ w ∈ u_ws RX3 TX3 4, w ∈ usX11_init := by decide +kernel
theorem inX11_init_RX4 : ∀ w ∈ u_ws RX4 TX4 4, w ∈ usX11_init := by decide +kernel
theorem inX11_init_RX5 : ∀ w ∈ u_ws RX5 TX5 2, w ∈ usX11_init := by decide +kernel
theorem inX11_init_RX6 : ∀ w ∈ u_ws RX6 TX6 2, w ∈ usX11_init := by decide +kernel
theorem inX11_init_RX7 : ∀ w ∈ u_ws RX7 TX7 2, w ∈ usX11_init := by decide +kernel
theorem inX11_init_RX8 : ∀ w ∈ u_ws RX8 TX8 14, w ∈ usX11_init := by decide +kernel
theorem inX11_init_RX9 : ∀ w ∈ u_ws RX9 TX9 1, w ∈ usX11_init := by decide +kernel
set_option maxRecDepth 20000 in
theorem ugX11_init_Jx4a65c_init_da8c8 : GoodIn usX11_init (usJx4a65c_init_da8c8) := goodIn_p _ [64, 70, 75, 3] (by decide +kernel) (by decide +kernel)
set_option maxRecDepth 20000 in
theorem ugX11_init_X6_init : GoodIn usX11_init (usX6_init) := goodIn_p _ [79, 3, 84] (by decide +kernel) (by decide +kernel)
set_option maxRecDepth 20000 in
theorem ugX11_init_J4_init_da8c8 : GoodIn usX11_init (usJ4_init_da8c8) := goodIn_p _ [89, 93, 3, 102, 105] (by decide +kernel) (by decide +kernel)
set_option maxRecDepth 20000 in
theorem ugX11_init_X7_init : GoodIn usX11_init (usX7_init) := goodIn_p _ [109, 3, 79, 84] (by decide +kernel) (by decide +kernel)
set_option maxRecDepth 20000 in
theorem ugX11_init_X1_init : GoodIn usX11_init (usX1_init) := goodIn_p _ [117, 3, 109, 79, 84] (by decide +kernel) (by decide +kernel)
set_option maxRecDepth 20000 in
theorem ugX11_init_X4_init : GoodIn usX11_init (usX4_init) := goodIn_p _ [125, 3, 79, 84] (by decide +kernel) (by decide +kernel)
set_option maxRecDepth 20000 in
theorem ugX11_init_X3_init : GoodIn usX11_init (usX3_init) := goodIn_p _ [135, 3, 79, 84] (by decide +kernel) (by decide +kernel)
set_option maxRecDepth 20000 in
theorem ugX11_init_X8_init : GoodIn usX11_init (usX8_init) := goodIn_p _ [145, 3, 64, 70, 75, 79, 84] (by decide +kernel) (by decide +kernel)
set_option maxRecDepth 20000 in
theorem ugX11_init_X0_init : GoodIn usX11_init (usX0_init) := goodIn_p _ [167, 3, 79, 84] (by decide +kernel) (by decide +kernel)
set_option maxRecDepth 20000 in
theorem ugX11_init_X5_init : GoodIn usX11_init (usX5_init) := goodIn_p _ [175, 3, 79, 84] (by decide +kernel) (by decide +kernel)
set_option maxRecDepth 20000 in
theorem ugX11_init_X2_init : GoodIn usX11_init (usX2_init) := goodIn_p _ [183, 3, 79, 84, 125] (by decide +kernel) (by decide +kernel)
set_option maxRecDepth 20000 in
theorem ugX11_init_X10_init : GoodIn usX11_init (usX10_init) := goodIn_p _ [199, 3, 64, 70, 75, 79, 84] (by decide +kernel) (by decide +kernel)
set_option maxRecDepth 20000 in
theorem ugX11_init_X9_init : GoodIn usX11_init (usX9_init) := goodIn_p _ [213, 3, 79, 84] (by decide +kernel) (by decide +kernel)
set_option maxHeartbeats 4000000 in
set_option maxRecDepth 100000 in
theorem c_ferryinit (l : Launch) (dC : Nat → ClassId) (dI : Nat → Nat → Nat) (cI cO : ClassId) (z0 : Nat) (sz : Nat) (h : Nat) : Met l yX11_init usX11_init ({ frames := 5, cells := 129, slots := 20883, locals := 92 }) (va_Pc [.ref h] (fun U => U.heap.size = sz ∧ va_P (dC, dI) vwCl [(h, .inr (18, [.null, .null, .null, .null, .null, .null, .null, .null, .null, .null, .null, .null, .null, .null, .null, .null, .null, .null, .int (nI 0)]))] U.heap ∧ va_K (dC, dI) vwCl (ty0 cI cO) U ∧ va_D (fun _ => True) [(h, .inr (18, [.null, .null, .null, .null, .null, .null, .null, .null, .null, .null, .null, .null, .null, .null, .null, .null, .null, .null, .int (nI 0)]))] ∧ uz z0 (va_A [(h, .inr (18, [.null, .null, .null, .null, .null, .null, .null, .null, .null, .null, .null, .null, .null, .null, .null, .null, .null, .null, .int (nI 0)]))] sz) U)) (va_Qv (fun _ : Unit => True) (fun _ t => ∃ (q_1 : Nat), ∃ (q_2 : Nat), ∃ (q_3 : Nat), ∃ (q_5 : Nat), ∃ (q_6 : Nat), ∃ (q_8 : Nat), ∃ (q_10 : Nat), ∃ (q_12 : Nat), ∃ (q_17 : Nat), ∃ (q_18 : Nat), ∃ (q_19 : Nat), ∃ (q_20 : Nat), ∃ (q_21 : Nat), ∃ (q_47 : Nat), ∃ (q_48 : Nat), ∃ (q_49 : Nat), ∃ (q_50 : Nat), ∃ (q_51 : Nat), ∃ (a_4 : Nat), ∃ (a_13 : Nat), ∃ (a_14 : Nat), ∃ (a_15 : Nat), ∃ (a_16 : Nat), ∃ (a_22 : Nat), ∃ (a_23 : Nat), ∃ (a_24 : Nat), ∃ (a_25 : Nat), ∃ (a_26 : Nat), ∃ (a_27 : Nat), ∃ (a_28 : Nat), ∃ (a_29 : Nat), ∃ (a_30 : Nat), ∃ (a_31 : Nat), ∃ (a_32 : Nat), ∃ (a_33 : Nat), ∃ (a_34 : Nat), ∃ (a_35 : Nat), ∃ (a_36 : Nat), ∃ (a_37 : Nat), ∃ (a_38 : Nat), ∃ (a_39 : Nat), ∃ (a_40 : Nat), ∃ (a_41 : Nat), ∃ (a_42 : Nat), ∃ (a_43 : Nat), ∃ (a_44 : Nat), ∃ (a_45 : Nat), ∃ (a_46 : Nat), va_P (dC, dI) vwCl [(h, .inr (18, [.ref q_1, .ref q_2, .ref q_3, .ref q_5, .ref q_6, .ref q_8, .ref q_10, .ref q_12, .ref q_17, .ref q_18, .ref q_19, .ref q_20, .ref q_21, .ref q_47, .ref q_48, .ref q_49, .ref q_50, .ref q_51, .int (-1)])), (q_1, .inr (6, [.int (nI 0), .ref z0, .int (nI 0)])), (q_3, .inr (13, [.ref a_4, .int (nI 0)])), wa a_4 cI 200 (fun _ => 0), (q_12, .inr (14, [.ref a_13, .ref a_14])), (a_13, .inr (13, [.ref a_15, .int (nI 0)])), wa a_15 cI 270 (fun _ => 0), (a_14, .inr (13, [.ref a_16, .int (nI 0)])), wa a_16 cI 270 (fun _ => 0), (q_21, .inr (15, [.ref a_22, .ref a_23, .ref a_24, .ref a_25, .ref a_26, .ref a_27, .ref a_28, .ref a_29, .ref a_30, .ref a_31, .ref a_32, .ref a_33, .ref a_34, .ref a_35])), (a_22, .inr (6, [.int (nI 0), .ref z0, .int (nI 0)])), (a_23, .inr (6, [.int (nI 0), .ref z0, .int (nI 0)])), (a_24, .inr (13, [.ref a_36, .int (nI 0)])), wa a_36 cI 0 (fun _ => 0), (a_25, .inr (13, [.ref a_37, .int (nI 0)])), wa a_37 cI 1200 (fun _ => 0), (a_26, .inr (13, [.ref a_38, .int (nI 0)])), wa a_38 cI 1200 (fun _ => 0), (a_27, .inr (13, [.ref a_39, .int (nI 0)])), wa a_39 cI 1200 (fun _ => 0), (a_28, .inr (13, [.ref a_40, .int (nI 0)])), wa a_40 cI 1200 (fun _ => 0), (a_29, .inr (13, [.ref a_41, .int (nI 0)])), wa a_41 cI 1200 (fun _ => 0), (a_30, .inr (13, [.ref a_42, .int (nI 0)])), wa a_42 cI 1200 (fun _ => 0), (a_31, .inr (13, [.ref a_43, .int (nI 0)])), wa a_43 cI 24 (fun _ => 0), (a_32, .inr (13, [.ref a_44, .int (nI 0)])), wa a_44 cI 24 (fun _ => 0), (a_33, .inr (13, [.ref a_45, .int (nI 0)])), wa a_45 cI 200 (fun _ => 0), (a_34, .inr (13, [.ref a_46, .int (nI 0)])), wa a_46 cI 1200 (fun _ => 0)] t.heap ∧ va_K (dC, dI) vwCl (ty0 cI cO) t ∧ va_D (va_A [(h, .inr (18, [.null, .null, .null, .null, .null, .null, .null, .null, .null, .null, .null, .null, .null, .null, .null, .null, .null, .null, .int (nI 0)]))] sz) [(h, .inr (18, [.ref q_1, .ref q_2, .ref q_3, .ref q_5, .ref q_6, .ref q_8, .ref q_10, .ref q_12, .ref q_17, .ref q_18, .ref q_19, .ref q_20, .ref q_21, .ref q_47, .ref q_48, .ref q_49, .ref q_50, .ref q_51, .int (-1)])), (q_1, .inr (6, [.int (nI 0), .ref z0, .int (nI 0)])), (q_3, .inr (13, [.ref a_4, .int (nI 0)])), wa a_4 cI 200 (fun _ => 0), (q_12, .inr (14, [.ref a_13, .ref a_14])), (a_13, .inr (13, [.ref a_15, .int (nI 0)])), wa a_15 cI 270 (fun _ => 0), (a_14, .inr (13, [.ref a_16, .int (nI 0)])), wa a_16 cI 270 (fun _ => 0), (q_21, .inr (15, [.ref a_22, .ref a_23, .ref a_24, .ref a_25, .ref a_26, .ref a_27, .ref a_28, .ref a_29, .ref a_30, .ref a_31, .ref a_32, .ref a_33, .ref a_34, .ref a_35])), (a_22, .inr (6, [.int (nI 0), .ref z0, .int (nI 0)])), (a_23, .inr (6, [.int (nI 0), .ref z0, .int (nI 0)])), (a_24, .inr (13, [.ref a_36, .int (nI 0)])), wa a_36 cI 0 (fun _ => 0), (a_25, .inr (13, [.ref a_37, .int (nI 0)])), wa a_37 cI 1200 (fun _ => 0), (a_26, .inr (13, [.ref a_38, .int (nI 0)])), wa a_38 cI 1200 (fun _ => 0), (a_27, .inr (13, [.ref a_39, .int (nI 0)])), wa a_39 cI 1200 (fun _ => 0), (a_28, .inr (13, [.ref a_40, .int (nI 0)])), wa a_40 cI 1200 (fun _ => 0), (a_29, .inr (13, [.ref a_41, .int (nI 0)])), wa a_41 cI 1200 (fun _ => 0), (a_30, .inr (13, [.ref a_42, .int (nI 0)])), wa a_42 cI 1200 (fun _ => 0), (a_31, .inr (13, [.ref a_43, .int (nI 0)])), wa a_43 cI 24 (fun _ => 0), (a_32, .inr (13, [.ref a_44, .int (nI 0)])), wa a_44 cI 24 (fun _ => 0), (a_33, .inr (13, [.ref a_45, .int (nI 0)])), wa a_45 cI 200 (fun _ => 0), (a_34, .inr (13, [.ref a_46, .int (nI 0)])), wa a_46 cI 1200 (fun _ => 0)]) (va_A [(h, .inr (18, [.null, .null, .null, .null, .null, .null, .null, .null, .null, .null, .null, .null, .null, .null, .null, .null, .null, .null, .int (nI 0)]))] sz)) 129 20883 (va_A [(h, .inr (18, [.null, .null, .null, .null, .null, .null, .null, .null, .null, .null, .null, .null, .null, .null, .null, .null, .null, .null, .int (nI 0)]))] sz) := by
  refine Met.ofW (cc := cX11_init) (maxL := 1) (ret := none) (by decide) rfl ?_
  intro p e s m args below meth c s₁ B hml hv
  obtain ⟨rfl, hsz, hP, hK, hD0, hZ⟩ := hv
  have hx := B.exec
  have hb := B.bytes
  have hr := B.returns
  have hts := atoms_spec (ws := usX11_init) B.pre
  have hown : s.vm.findClass RX11 = some m.cls := findClass_of_methodNamed B.named
  have hlocks := B.notSynchronized
  have hin : meth.name = "<init>" := (name_of_methodNamed B.named B.method).1
  subst hsz
  have hD := hD0.self (sz := s.heap.size)
  generalize hAe : va_A [(h, .inr (18, [.null, .null, .null, .null, .null, .null, .null, .null, .null, .null, .null, .null, .null, .null, .null, .null, .null, .null, .int (nI 0)]))] s.heap.size = A at hD hZ ⊢
  have hA : ∀ q : Nat, s.heap.size ≤ q → A q := fun q h => by rw [← hAe]; exact Or.inr h
  have hS : va_S A s.heap s.heap [] := va_S.rf
  obtain ⟨hZs, ⟨fz, hZt⟩, hZo, hZr, hZi, hZc⟩ := id hZ
  have hl := lv_entry ([.ref h]) (n := 1) (Nat.le_of_ble_eq_true rfl)
  rw [lg_entry_eq]
  generalize (lg_sl ([.ref h]) ++ List.replicate (1 - (lg_sl ([.ref h])).length) Slot.unset).toArray = ls at hl ⊢
  have hl : lv_has ls 1 [(0, .ref h)] := hl
  refine lv_aload_n hx hb dX11_init_0 rfl (lv_at hl 0 rfl) ?_
  refine W.objInit hx hb hown (hts (.methodLink RX11 1 objectInit) (by decide +kernel)) (hts (.instanceMethod objectInit) (by decide +kernel)) (hts _ (List.mem_of_getElem? (i := 3) rfl)) rfl (by rw [hml]; exact hl.1) rfl dX11_init_1 (by first | exact Nat.le_of_ble_eq_true rfl | omega | (dsimp only [headSpec]; omega) | (simp only [headSpec]; omega) | omega) (by first | exact Nat.le_of_ble_eq_true rfl | omega | (dsimp only [headSpec]; omega) | (simp only [headSpec]; omega) | omega) ?_
  refine W.eq (g2 := F0 m 4 ls []) rfl ?_
  refine lv_aload_n hx hb dX11_init_4 rfl (lv_at hl 0 rfl) ?_
  refine va_new (ci := 6) (fs := [.int (nI 0), .null, .int (nI 0)]) (C := RJx4a65c) (T := TJx4a65c) (N := 3) hx hb hts inX11_init_RJx4a65c tyJx4a65c tyJx4a65c_ok hown (hts (.classLink RX11 7 RJx4a65c) (by decide +kernel)) (hts (.instantiable RJx4a65c 3) (by decide +kernel)) (hts (.initialized RJx4a65c) (by decide +kernel)) hK hP hD hS hA rfl (fun j hj => by rcases (show j = 0 ∨ j = 1 ∨ j = 2 by omega) with rfl | rfl | rfl <;> rfl) (by first | exact Nat.le_of_ble_eq_true rfl | omega | (dsimp only [headSpec]; omega) | (simp only [headSpec]; omega) | omega) (by first | exact Nat.le_of_ble_eq_true rfl | omega | (dsimp only [headSpec]; omega) | (simp only [headSpec]; omega) | omega) dX11_init_5 (fun q_1 H hP hD hS => ?_)
  have hP : va_P (dC, dI) vwCl [(h, .inr (18, [.null, .null, .null, .null, .null, .null, .null, .null, .null, .null, .null, .null, .null, .null, .null, .null, .null, .null, .int (nI 0)])), (q_1, .inr (6, [.int (nI 0), .null, .int (nI 0)]))] H := hP
  have hD : va_D A [(h, .inr (18, [.null, .null, .null, .null, .null, .null, .null, .null, .null, .null, .null, .null, .null, .null, .null, .null, .null, .null, .int (nI 0)])), (q_1, .inr (6, [.int (nI 0), .null, .int (nI 0)]))] := hD
  refine W.widen (k := 1) (n := 3) (by first | exact Nat.le_of_ble_eq_true rfl | omega | (dsimp only [headSpec]; omega) | (simp only [headSpec]; omega) | omega) (by first | exact Nat.le_of_ble_eq_true rfl | omega | (dsimp only [headSpec]; omega) | (simp only [headSpec]; omega) | omega) ?_
  refine lv_dup hx hb dX11_init_8 rfl ?_
  have hPc : va_P (dC, dI) vwCl [(q_1, .inr (6, [.int (nI 0), .null, .int (nI 0)]))] _ := hP.sub [1] rfl
  have hDc : va_D _ [(q_1, .inr (6, [.int (nI 0), .null, .int (nI 0)]))] := hD.sub [1] (by decide) rfl
  have hFc := va_free (wc := [(q_1, .inr (6, [.int (nI 0), .null, .int (nI 0)]))]) hD hS hA [1] rfl
  refine va_callv (va_runI (As := []) (rest := [.ref q_1, .ref h]) ⟨hx, hb, hml, hown, hts⟩ (c_alinit l dC dI cI cO z0 H.size q_1) (cwI 0 hts ugX11_init_Jx4a65c_init_da8c8 rfl rfl rfl (hts (.initialized RJx4a65c) (by decide +kernel)) (hts (.methodLink RX11 9 yJx4a65c_init_da8c8) (by decide +kernel)) (hts (.instanceMethod yJx4a65c_init_da8c8) (by decide +kernel)) rfl (by decide +kernel) ⟨(by first | exact Nat.le_of_ble_eq_true rfl | omega | (dsimp only [headSpec]; omega) | (simp only [headSpec]; omega) | omega), (by first | exact Nat.le_of_ble_eq_true rfl | omega | (dsimp only [headSpec]; omega) | (simp only [headSpec]; omega) | omega)⟩) ⟨fun a U g mk q => by obtain ⟨q0, q1, qP, qK, qD, qZ⟩ := q; exact ⟨q0, q1, qP, va_K.moved (u := U) (U := U.calling g mk a) (Vm.Alike.refl U.vm) qK, qD, qZ.moved (Vm.Alike.refl U.vm) rfl⟩, fun U hU hW => ⟨rfl, by rw [hU], by rw [hU]; exact hPc, va_K.moved hW.alike hK, hDc.weaken (fun _ _ _ _ => trivial), uz_call hZ hS hFc hU hW.alike⟩⟩ rfl rfl hl.1 rfl (lv_room (Nat.le_of_ble_eq_true rfl)) dX11_init_9 ⟨(by first | exact Nat.le_of_ble_eq_true rfl | omega | (dsimp only [headSpec]; omega) | (simp only [headSpec]; omega) | omega), (by first | exact Nat.le_of_ble_eq_true rfl | omega | (dsimp only [headSpec]; omega) | (simp only [headSpec]; omega) | omega)⟩) hS (fun q _ h => hFc q h) hFc (fun u t H locs ht hvm hw hB hz1 hk1 hS => ?_)
  obtain ⟨hP1, hK1, hD1⟩ := hB
  rw [ht] at hP1
  obtain ⟨hP, hD⟩ := va_join (wr := [(h, .inr (18, [.null, .null, .null, .null, .null, .null, .null, .null, .null, .null, .null, .null, .null, .null, .null, .null, .null, .null, .int (nI 0)]))]) (w1 := [(q_1, .inr (6, [.int (nI 0), .ref z0, .int (nI 0)]))]) hP hD [1] [0] rfl rfl (by decide) (by decide) hk1 hFc hP1 hD1
  have hP : va_P (dC, dI) vwCl [(h, .inr (18, [.null, .null, .null, .null, .null, .null, .null, .null, .null, .null, .null, .null, .null, .null, .null, .null, .null, .null, .int (nI 0)])), (q_1, .inr (6, [.int (nI 0), .ref z0, .int (nI 0)]))] H := hP
  have hD : va_D A [(h, .inr (18, [.null, .null, .null, .null, .null, .null, .null, .null, .null, .null, .null, .null, .null, .null, .null, .null, .null, .null, .int (nI 0)])), (q_1, .inr (6, [.int (nI 0), .ref z0, .int (nI 0)]))] := hD
  refine va_putF (D := (dC, dI)) (ci := 18) (v := .ref q_1) (ty := .object "java/util/ArrayList") (C := RX11) (T := TX11) (N := 19) hx hb hts inX11_init_RX11 tyX11 tyX11_ok nmX11 hown hK hP hD hS 0 rfl rfl 0 (by decide) (hts (.fieldLink RX11 10 "Patchferry" "texts" "Ljava/util/ArrayList;") (by decide +kernel)) (fun _ h9 => h9) rfl hin rfl (by decide +kernel) rfl rfl (Nat.le_of_ble_eq_true rfl) dX11_init_12 (fun H locs hP hD hS => ?_)
  have hP : va_P (dC, dI) vwCl [(h, .inr (18, [.ref q_1, .null, .null, .null, .null, .null, .null, .null, .null, .null, .null, .null, .null, .null, .null, .null, .null, .null, .int (nI 0)])), (q_1, .inr (6, [.int (nI 0), .ref z0, .int (nI 0)]))] H := hP
  have hD : va_D A [(h, .inr (18, [.ref q_1, .null, .null, .null, .null, .null, .null, .null, .null, .null, .null, .null, .null, .null, .null, .null, .null, .null, .int (nI 0)])), (q_1, .inr (6, [.int (nI 0), .ref z0, .int (nI 0)]))] := hD
  refine lv_aload_n hx hb dX11_init_15 rfl (lv_at hl 0 rfl) ?_
  refine va_new (ci := 6) (fs := [.int (nI 0), .null, .int (nI 0)]) (C := RJx4a65c) (T := TJx4a65c) (N := 3) hx hb hts inX11_init_RJx4a65c tyJx4a65c tyJx4a65c_ok hown (hts (.classLink RX11 7 RJx4a65c) (by decide +kernel)) (hts (.instantiable RJx4a65c 3) (by decide +kernel)) (hts (.initialized RJx4a65c) (by decide +kernel)) hK hP hD hS hA rfl (fun j hj => by rcases (show j = 0 ∨ j = 1 ∨ j = 2 by omega) with rfl | rfl | rfl <;> rfl) (by first | exact Nat.le_of_ble_eq_true rfl | omega | (dsimp only [headSpec]; omega) | (simp only [headSpec]; omega) | omega) (by first | exact Nat.le_of_ble_eq_true rfl | omega | (dsimp only [headSpec]; omega) | (simp only [headSpec]; omega) | omega) dX11_init_16 (fun q_2 H hP hD hS => ?_)
  have hP : va_P (dC, dI) vwCl [(h, .inr (18, [.ref q_1, .null, .null, .null, .null, .null, .null, .null, .null, .null, .null, .null, .null, .null, .null, .null, .null, .null, .int (nI 0)])), (q_1, .inr (6, [.int (nI 0), .ref z0, .int (nI 0)])), (q_2, .inr (6, [.int (nI 0), .null, .int (nI 0)]))] H := hP
  have hD : va_D A [(h, .inr (18, [.ref q_1, .null, .null, .null, .null, .null, .null, .null, .null, .null, .null, .null, .null, .null, .null, .null, .null, .null, .int (nI 0)])), (q_1, .inr (6, [.int (nI 0), .ref z0, .int (nI 0)])), (q_2, .inr (6, [.int (nI 0), .null, .int (nI 0)]))] := hD
  refine W.widen (k := 2) (n := 6) (by first | exact Nat.le_of_ble_eq_true rfl | omega | (dsimp only [headSpec]; omega) | (simp only [headSpec]; omega) | omega) (by first | exact Nat.le_of_ble_eq_true rfl | omega | (dsimp only [headSpec]; omega) | (simp only [headSpec]; omega) | omega) ?_
  refine lv_dup hx hb dX11_init_19 rfl ?_
  have hPc : va_P (dC, dI) vwCl [(q_2, .inr (6, [.int (nI 0), .null, .int (nI 0)]))] _ := hP.sub [2] rfl
  have hDc : va_D _ [(q_2, .inr (6, [.int (nI 0), .null, .int (nI 0)]))] := hD.sub [2] (by decide) rfl
  have hFc := va_free (wc := [(q_2, .inr (6, [.int (nI 0), .null, .int (nI 0)]))]) hD hS hA [2] rfl
  refine va_callv (va_runI (As := []) (rest := [.ref q_2, .ref h]) ⟨hx, hb, hml, hown, hts⟩ (c_alinit l dC dI cI cO z0 H.size q_2) (cwI 0 hts ugX11_init_Jx4a65c_init_da8c8 rfl rfl rfl (hts (.initialized RJx4a65c) (by decide +kernel)) (hts (.methodLink RX11 9 yJx4a65c_init_da8c8) (by decide +kernel)) (hts (.instanceMethod yJx4a65c_init_da8c8) (by decide +kernel)) rfl (by decide +kernel) ⟨(by first | exact Nat.le_of_ble_eq_true rfl | omega | (dsimp only [headSpec]; omega) | (simp only [headSpec]; omega) | omega), (by first | exact Nat.le_of_ble_eq_true rfl | omega | (dsimp only [headSpec]; omega) | (simp only [headSpec]; omega) | omega)⟩) ⟨fun a U g mk q => by obtain ⟨q0, q1, qP, qK, qD, qZ⟩ := q; exact ⟨q0, q1, qP, va_K.moved (u := U) (U := U.calling g mk a) (Vm.Alike.refl U.vm) qK, qD, qZ.moved (Vm.Alike.refl U.vm) rfl⟩, fun U hU hW => ⟨rfl, by rw [hU], by rw [hU]; exact hPc, va_K.moved hW.alike hK, hDc.weaken (fun _ _ _ _ => trivial), uz_call hZ hS hFc hU hW.alike⟩⟩ rfl rfl hl.1 rfl (lv_room (Nat.le_of_ble_eq_true rfl)) dX11_init_20 ⟨(by first | exact Nat.le_of_ble_eq_true rfl | omega | (dsimp only [headSpec]; omega) | (simp only [headSpec]; omega) | omega), (by first | exact Nat.le_of_ble_eq_true rfl | omega | (dsimp only [headSpec]; omega) | (simp only [headSpec]; omega) | omega)⟩) hS (fun q _ h => hFc q h) hFc (fun u t H locs ht hvm hw hB hz1 hk1 hS => ?_)
  obtain ⟨hP1, hK1, hD1⟩ := hB
  rw [ht] at hP1
  obtain ⟨hP, hD⟩ := va_join (wr := [(h, .inr (18, [.ref q_1, .null, .null, .null, .null, .null, .null, .null, .null, .null, .null, .null, .null, .null, .null, .null, .null, .null, .int (nI 0)])), (q_1, .inr (6, [.int (nI 0), .ref z0, .int (nI 0)]))]) (w1 := [(q_2, .inr (6, [.int (nI 0), .ref z0, .int (nI 0)]))]) hP hD [2] [0, 1] rfl rfl (by decide) (by decide) hk1 hFc hP1 hD1
  have hP : va_P (dC, dI) vwCl [(h, .inr (18, [.ref q_1, .null, .null, .null, .null, .null, .null, .null, .null, .null, .null, .null, .null, .null, .null, .null, .null, .null, .int (nI 0)])), (q_1, .inr (6, [.int (nI 0), .ref z0, .int (nI 0)])), (q_2, .inr (6, [.int (nI 0), .ref z0, .int (nI 0)]))] H := hP
  have hD : va_D A [(h, .inr (18, [.ref q_1, .null, .null, .null, .null, .null, .null, .null, .null, .null, .null, .null, .null, .null, .null, .null, .null, .null, .int (nI 0)])), (q_1, .inr (6, [.int (nI 0), .ref z0, .int (nI 0)])), (q_2, .inr (6, [.int (nI 0), .ref z0, .int (nI 0)]))] := hD
  have hP : va_P (dC, dI) vwCl [(h, .inr (18, [.ref q_1, .null, .null, .null, .null, .null, .null, .null, .null, .null, .null, .null, .null, .null, .null, .null, .null, .null, .int (nI 0)])), (q_1, .inr (6, [.int (nI 0), .ref z0, .int (nI 0)]))] H := hP.sub [0, 1] rfl
  have hD : va_D A [(h, .inr (18, [.ref q_1, .null, .null, .null, .null, .null, .null, .null, .null, .null, .null, .null, .null, .null, .null, .null, .null, .null, .int (nI 0)])), (q_1, .inr (6, [.int (nI 0), .ref z0, .int (nI 0)]))] := hD.sub [0, 1] (by decide) rfl
  refine va_putF (D := (dC, dI)) (ci := 18) (v := .ref q_2) (ty := .object "java/util/ArrayList") (C := RX11) (T := TX11) (N := 19) hx hb hts inX11_init_RX11 tyX11 tyX11_ok nmX11 hown hK hP hD hS 0 rfl rfl 1 (by decide) (hts (.fieldLink RX11 16 "Patchferry" "patches" "Ljava/util/ArrayList;") (by decide +kernel)) (fun _ h9 => h9) rfl hin rfl (by decide +kernel) rfl rfl (Nat.le_of_ble_eq_true rfl) dX11_init_23 (fun H locs hP hD hS => ?_)
  have hP : va_P (dC, dI) vwCl [(h, .inr (18, [.ref q_1, .ref q_2, .null, .null, .null, .null, .null, .null, .null, .null, .null, .null, .null, .null, .null, .null, .null, .null, .int (nI 0)])), (q_1, .inr (6, [.int (nI 0), .ref z0, .int (nI 0)]))] H := hP
  have hD : va_D A [(h, .inr (18, [.ref q_1, .ref q_2, .null, .null, .null, .null, .null, .null, .null, .null, .null, .null, .null, .null, .null, .null, .null, .null, .int (nI 0)])), (q_1, .inr (6, [.int (nI 0), .ref z0, .int (nI 0)]))] := hD
  refine lv_aload_n hx hb dX11_init_26 rfl (lv_at hl 0 rfl) ?_
  refine va_new (ci := 13) (fs := [.null, .int (nI 0)]) (C := RX6) (T := TX6) (N := 2) hx hb hts inX11_init_RX6 tyX6 tyX6_ok hown (hts (.classLink RX11 19 RX6) (by decide +kernel)) (hts (.instantiable RX6 2) (by decide +kernel)) (hts (.initialized RX6) (by decide +kernel)) hK hP hD hS hA rfl (fun j hj => by rcases (show j = 0 ∨ j = 1 by omega) with rfl | rfl <;> rfl) (by first | exact Nat.le_of_ble_eq_true rfl | omega | (dsimp only [headSpec]; omega) | (simp only [headSpec]; omega) | omega) (by first | exact Nat.le_of_ble_eq_true rfl | omega | (dsimp only [headSpec]; omega) | (simp only [headSpec]; omega) | omega) dX11_init_27 (fun q_3 H hP hD hS => ?_)
  have hP : va_P (dC, dI) vwCl [(h, .inr (18, [.ref q_1, .ref q_2, .null, .null, .null, .null, .null, .null, .null, .null, .null, .null, .null, .null, .null, .null, .null, .null, .int (nI 0)])), (q_1, .inr (6, [.int (nI 0), .ref z0, .int (nI 0)])), (q_3, .inr (13, [.null, .int (nI 0)]))] H := hP
  have hD : va_D A [(h, .inr (18, [.ref q_1, .ref q_2, .null, .null, .null, .null, .null, .null, .null, .null, .null, .null, .null, .null, .null, .null, .null, .null, .int (nI 0)])), (q_1, .inr (6, [.int (nI 0), .ref z0, .int (nI 0)])), (q_3, .inr (13, [.null, .int (nI 0)]))] := hD
  refine W.widen (k := 3) (n := 8) (by first | exact Nat.le_of_ble_eq_true rfl | omega | (dsimp only [headSpec]; omega) | (simp only [headSpec]; omega) | omega) (by first | exact Nat.le_of_ble_eq_true rfl | omega | (dsimp only [headSpec]; omega) | (simp only [headSpec]; omega) | omega) ?_
  refine lv_dup hx hb dX11_init_30 rfl ?_
  refine lv_sipush (v := nI 200) hx hb dX11_init_31 (by decide) ?_
  have hPc : va_P (dC, dI) vwCl [(q_3, .inr (13, [.null, .int (nI 0)]))] _ := hP.sub [2] rfl
  have hDc : va_D _ [(q_3, .inr (13, [.null, .int (nI 0)]))] := hD.sub [2] (by decide) rfl
  have hFc := va_free (wc := [(q_3, .inr (13, [.null, .int (nI 0)]))]) hD hS hA [2] rfl
  refine va_callv (va_runI (As := [.int (nI 200)]) (rest := [.ref q_3, .ref h]) ⟨hx, hb, hml, hown, hts⟩ (c_rowinit l dC dI cI cO H.size q_3 200 (by omega)) (cwI 1 hts ugX11_init_X6_init rfl rfl rfl (hts (.initialized RX6) (by decide +kernel)) (hts (.methodLink RX11 21 yX6_init) (by decide +kernel)) (hts (.instanceMethod yX6_init) (by decide +kernel)) rfl (by decide +kernel) ⟨(by first | exact Nat.le_of_ble_eq_true rfl | omega | (dsimp only [headSpec]; omega) | (simp only [headSpec]; omega) | omega), (by first | exact Nat.le_of_ble_eq_true rfl | omega | (dsimp only [headSpec]; omega) | (simp only [headSpec]; omega) | omega)⟩) ⟨fun a U g mk q => by obtain ⟨q0, q1, qP, qK, qD⟩ := q; exact ⟨q0, q1, qP, va_K.moved (u := U) (U := U.calling g mk a) (Vm.Alike.refl U.vm) qK, qD⟩, fun U hU hW => ⟨rfl, by rw [hU], by rw [hU]; exact hPc, va_K.moved hW.alike hK, hDc.weaken (fun _ _ _ _ => trivial)⟩⟩ rfl rfl hl.1 rfl (lv_room (Nat.le_of_ble_eq_true rfl)) dX11_init_34 ⟨(by first | exact Nat.le_of_ble_eq_true rfl | omega | (dsimp only [headSpec]; omega) | (simp only [headSpec]; omega) | omega), (by first | exact Nat.le_of_ble_eq_true rfl | omega | (dsimp only [headSpec]; omega) | (simp only [headSpec]; omega) | omega)⟩) hS (fun q _ h => hFc q h) hFc (fun u t H locs ht hvm hw hB hz1 hk1 hS => ?_)
  obtain ⟨a_4, hP1, hK1, hD1⟩ := hB
  rw [ht] at hP1
  obtain ⟨hP, hD⟩ := va_join (wr := [(h, .inr (18, [.ref q_1, .ref q_2, .null, .null, .null, .null, .null, .null, .null, .null, .null, .null, .null, .null, .null, .null, .null, .null, .int (nI 0)])), (q_1, .inr (6, [.int (nI 0), .ref z0, .int (nI 0)]))]) (w1 := [(q_3, .inr (13, [.ref a_4, .int (nI 0)])), wa a_4 cI 200 (fun _ => 0)]) hP hD [2] [0, 1] rfl rfl (by decide) (by decide) hk1 hFc hP1 hD1
  have hP : va_P (dC, dI) vwCl [(h, .inr (18, [.ref q_1, .ref q_2, .null, .null, .null, .null, .null, .null, .null, .null, .null, .null, .null, .null, .null, .null, .null, .null, .int (nI 0)])), (q_1, .inr (6, [.int (nI 0), .ref z0, .int (nI 0)])), (q_3, .inr (13, [.ref a_4, .int (nI 0)])), wa a_4 cI 200 (fun _ => 0)] H := hP
  have hD : va_D A [(h, .inr (18, [.ref q_1, .ref q_2, .null, .null, .null, .null, .null, .null, .null, .null, .null, .null, .null, .null, .null, .null, .null, .null, .int (nI 0)])), (q_1, .inr (6, [.int (nI 0), .ref z0, .int (nI 0)])), (q_3, .inr (13, [.ref a_4, .int (nI 0)])), wa a_4 cI 200 (fun _ => 0)] := hD
  refine W.widen (k := 4) (n := 208) (by first | exact Nat.le_of_ble_eq_true rfl | omega | (dsimp only [headSpec]; omega) | (simp only [headSpec]; omega) | omega) (by first | exact Nat.le_of_ble_eq_true rfl | omega | (dsimp only [headSpec]; omega) | (simp only [headSpec]; omega) | omega) ?_
  refine va_putF (D := (dC, dI)) (ci := 18) (v := .ref q_3) (ty := .object "Patchferry$Row") (C := RX11) (T := TX11) (N := 19) hx hb hts inX11_init_RX11 tyX11 tyX11_ok nmX11 hown hK hP hD hS 0 rfl rfl 2 (by decide) (hts (.fieldLink RX11 24 "Patchferry" "buffer" "LPatchferry$Row;") (by decide +kernel)) (fun _ h9 => h9) rfl hin rfl (by decide +kernel) rfl rfl (Nat.le_of_ble_eq_true rfl) dX11_init_37 (fun H locs hP hD hS => ?_)
  have hP : va_P (dC, dI) vwCl [(h, .inr (18, [.ref q_1, .ref q_2, .ref q_3, .null, .null, .null, .null, .null, .null, .null, .null, .null, .null, .null, .null, .null, .null, .null, .int (nI 0)])), (q_1, .inr (6, [.int (nI 0), .ref z0, .int (nI 0)])), (q_3, .inr (13, [.ref a_4, .int (nI 0)])), wa a_4 cI 200 (fun _ => 0)] H := hP
  have hD : va_D A [(h, .inr (18, [.ref q_1, .ref q_2, .ref q_3, .null, .null, .null, .null, .null, .null, .null, .null, .null, .null, .null, .null, .null, .null, .null, .int (nI 0)])), (q_1, .inr (6, [.int (nI 0), .ref z0, .int (nI 0)])), (q_3, .inr (13, [.ref a_4, .int (nI 0)])), wa a_4 cI 200 (fun _ => 0)] := hD
  refine lv_aload_n hx hb dX11_init_40 rfl (lv_at hl 0 rfl) ?_
  refine va_new (ci := 1) (fs := [.null, .int (nI 0), .int (nI 0), .int (nI 0)]) (C := RJ4) (T := TJ4) (N := 4) hx hb hts inX11_init_RJ4 tyJ4 tyJ4_ok hown (hts (.classLink RX11 28 RJ4) (by decide +kernel)) (hts (.instantiable RJ4 4) (by decide +kernel)) (hts (.initialized RJ4) (by decide +kernel)) hK hP hD hS hA rfl (fun j hj => by rcases (show j = 0 ∨ j = 1 ∨ j = 2 ∨ j = 3 by omega) with rfl | rfl | rfl | rfl <;> rfl) (by first | exact Nat.le_of_ble_eq_true rfl | omega | (dsimp only [headSpec]; omega) | (simp only [headSpec]; omega) | omega) (by first | exact Nat.le_of_ble_eq_true rfl | omega | (dsimp only [headSpec]; omega) | (simp only [headSpec]; omega) | omega) dX11_init_41 (fun q_5 H hP hD hS => ?_)
  have hP : va_P (dC, dI) vwCl [(h, .inr (18, [.ref q_1, .ref q_2, .ref q_3, .null, .null, .null, .null, .null, .null, .null, .null, .null, .null, .null, .null, .null, .null, .null, .int (nI 0)])), (q_1, .inr (6, [.int (nI 0), .ref z0, .int (nI 0)])), (q_3, .inr (13, [.ref a_4, .int (nI 0)])), wa a_4 cI 200 (fun _ => 0), (q_5, .inr (1, [.null, .int (nI 0), .int (nI 0), .int (nI 0)]))] H := hP
  have hD : va_D A [(h, .inr (18, [.ref q_1, .ref q_2, .ref q_3, .null, .null, .null, .null, .null, .null, .null, .null, .null, .null, .null, .null, .null, .null, .null, .int (nI 0)])), (q_1, .inr (6, [.int (nI 0), .ref z0, .int (nI 0)])), (q_3, .inr (13, [.ref a_4, .int (nI 0)])), wa a_4 cI 200 (fun _ => 0), (q_5, .inr (1, [.null, .int (nI 0), .int (nI 0), .int (nI 0)]))] := hD
  refine W.widen (k := 5) (n := 212) (by first | exact Nat.le_of_ble_eq_true rfl | omega | (dsimp only [headSpec]; omega) | (simp only [headSpec]; omega) | omega) (by first | exact Nat.le_of_ble_eq_true rfl | omega | (dsimp only [headSpec]; omega) | (simp only [headSpec]; omega) | omega) ?_
  refine lv_dup hx hb dX11_init_44 rfl ?_
  have hPc : va_P (dC, dI) vwCl [(q_5, .inr (1, [.null, .int (nI 0), .int (nI 0), .int (nI 0)]))] _ := hP.sub [4] rfl
  have hDc : va_D _ [(q_5, .inr (1, [.null, .int (nI 0), .int (nI 0), .int (nI 0)]))] := hD.sub [4] (by decide) rfl
  have hFc := va_free (wc := [(q_5, .inr (1, [.null, .int (nI 0), .int (nI 0), .int (nI 0)]))]) hD hS hA [4] rfl
  refine va_callv (va_runI (As := []) (rest := [.ref q_5, .ref h]) ⟨hx, hb, hml, hown, hts⟩ (c_sbinit l dC dI cI cO z0 H.size q_5) (cwI 0 hts ugX11_init_J4_init_da8c8 rfl rfl rfl (hts (.initialized RJ4) (by decide +kernel)) (hts (.methodLink RX11 30 yJ4_init_da8c8) (by decide +kernel)) (hts (.instanceMethod yJ4_init_da8c8) (by decide +kernel)) rfl (by decide +kernel) ⟨(by first | exact Nat.le_of_ble_eq_true rfl | omega | (dsimp only [headSpec]; omega) | (simp only [headSpec]; omega) | omega), (by first | exact Nat.le_of_ble_eq_true rfl | omega | (dsimp only [headSpec]; omega) | (simp only [headSpec]; omega) | omega)⟩) ⟨fun a U g mk q => by obtain ⟨q0, q1, qP, qK, qD, qZ⟩ := q; exact ⟨q0, q1, qP, va_K.moved (u := U) (U := U.calling g mk a) (Vm.Alike.refl U.vm) qK, qD, qZ.moved (Vm.Alike.refl U.vm) rfl⟩, fun U hU hW => ⟨rfl, by rw [hU], by rw [hU]; exact hPc, va_K.moved hW.alike hK, hDc.weaken (fun _ _ _ _ => trivial), uz_call hZ hS hFc hU hW.alike⟩⟩ rfl rfl hl.1 rfl (lv_room (Nat.le_of_ble_eq_true rfl)) dX11_init_45 ⟨(by first | exact Nat.le_of_ble_eq_true rfl | omega | (dsimp only [headSpec]; omega) | (simp only [headSpec]; omega) | omega), (by first | exact Nat.le_of_ble_eq_true rfl | omega | (dsimp only [headSpec]; omega) | (simp only [headSpec]; omega) | omega)⟩) hS (fun q _ h => hFc q h) hFc (fun u t H locs ht hvm hw hB hz1 hk1 hS => ?_)
  obtain ⟨hP1, hK1, hD1⟩ := hB
  rw [ht] at hP1
  obtain ⟨hP, hD⟩ := va_join (wr := [(h, .inr (18, [.ref q_1, .ref q_2, .ref q_3, .null, .null, .null, .null, .null, .null, .null, .null, .null, .null, .null, .null, .null, .null, .null, .int (nI 0)])), (q_1, .inr (6, [.int (nI 0), .ref z0, .int (nI 0)])), (q_3, .inr (13, [.ref a_4, .int (nI 0)])), wa a_4 cI 200 (fun _ => 0)]) (w1 := []) hP hD [4] [0, 1, 2, 3] rfl rfl (by decide) (by decide) hk1 hFc hP1 hD1
  have hP : va_P (dC, dI) vwCl [(h, .inr (18, [.ref q_1, .ref q_2, .ref q_3, .null, .null, .null, .null, .null, .null, .null, .null, .null, .null, .null, .null, .null, .null, .null, .int (nI 0)])), (q_1, .inr (6, [.int (nI 0), .ref z0, .int (nI 0)])), (q_3, .inr (13, [.ref a_4, .int (nI 0)])), wa a_4 cI 200 (fun _ => 0)] H := hP
  have hD : va_D A [(h, .inr (18, [.ref q_1, .ref q_2, .ref q_3, .null, .null, .null, .null, .null, .null, .null, .null, .null, .null, .null, .null, .null, .null, .null, .int (nI 0)])), (q_1, .inr (6, [.int (nI 0), .ref z0, .int (nI 0)])), (q_3, .inr (13, [.ref a_4, .int (nI 0)])), wa a_4 cI 200 (fun _ => 0)] := hD
  refine W.widen (k := 6) (n := 228) (by first | exact Nat.le_of_ble_eq_true rfl | omega | (dsimp only [headSpec]; omega) | (simp only [headSpec]; omega) | omega) (by first | exact Nat.le_of_ble_eq_true rfl | omega | (dsimp only [headSpec]; omega) | (simp only [headSpec]; omega) | omega) ?_
  have hP : va_P (dC, dI) vwCl [(h, .inr (18, [.ref q_1, .ref q_2, .ref q_3, .null, .null, .null, .null, .null, .null, .null, .null, .null, .null, .null, .null, .null, .null, .null, .int (nI 0)])), (q_1, .inr (6, [.int (nI 0), .ref z0, .int (nI 0)])), (q_3, .inr (13, [.ref a_4, .int (nI 0)])), wa a_4 cI 200 (fun _ => 0)] H := hP.sub [0, 1, 2, 3] rfl
  have hD : va_D A [(h, .inr (18, [.ref q_1, .ref q_2, .ref q_3, .null, .null, .null, .null, .null, .null, .null, .null, .null, .null, .null, .null, .null, .null, .null, .int (nI 0)])), (q_1, .inr (6, [.int (nI 0), .ref z0, .int (nI 0)])), (q_3, .inr (13, [.ref a_4, .int (nI 0)])), wa a_4 cI 200 (fun _ => 0)] := hD.sub [0, 1, 2, 3] (by decide) rfl
  refine va_putF (D := (dC, dI)) (ci := 18) (v := .ref q_5) (ty := .object "java/lang/StringBuilder") (C := RX11) (T := TX11) (N := 19) hx hb hts inX11_init_RX11 tyX11 tyX11_ok nmX11 hown hK hP hD hS 0 rfl rfl 3 (by decide) (hts (.fieldLink RX11 31 "Patchferry" "word" "Ljava/lang/StringBuilder;") (by decide +kernel)) (fun _ h9 => h9) rfl hin rfl (by decide +kernel) rfl rfl (Nat.le_of_ble_eq_true rfl) dX11_init_48 (fun H locs hP hD hS => ?_)
  have hP : va_P (dC, dI) vwCl [(h, .inr (18, [.ref q_1, .ref q_2, .ref q_3, .ref q_5, .null, .null, .null, .null, .null, .null, .null, .null, .null, .null, .null, .null, .null, .null, .int (nI 0)])), (q_1, .inr (6, [.int (nI 0), .ref z0, .int (nI 0)])), (q_3, .inr (13, [.ref a_4, .int (nI 0)])), wa a_4 cI 200 (fun _ => 0)] H := hP
  have hD : va_D A [(h, .inr (18, [.ref q_1, .ref q_2, .ref q_3, .ref q_5, .null, .null, .null, .null, .null, .null, .null, .null, .null, .null, .null, .null, .null, .null, .int (nI 0)])), (q_1, .inr (6, [.int (nI 0), .ref z0, .int (nI 0)])), (q_3, .inr (13, [.ref a_4, .int (nI 0)])), wa a_4 cI 200 (fun _ => 0)] := hD
  refine lv_aload_n hx hb dX11_init_51 rfl (lv_at hl 0 rfl) ?_
  refine va_new (ci := 13) (fs := [.null, .int (nI 0)]) (C := RX6) (T := TX6) (N := 2) hx hb hts inX11_init_RX6 tyX6 tyX6_ok hown (hts (.classLink RX11 19 RX6) (by decide +kernel)) (hts (.instantiable RX6 2) (by decide +kernel)) (hts (.initialized RX6) (by decide +kernel)) hK hP hD hS hA rfl (fun j hj => by rcases (show j = 0 ∨ j = 1 by omega) with rfl | rfl <;> rfl) (by first | exact Nat.le_of_ble_eq_true rfl | omega | (dsimp only [headSpec]; omega) | (simp only [headSpec]; omega) | omega) (by first | exact Nat.le_of_ble_eq_true rfl | omega | (dsimp only [headSpec]; omega) | (simp only [headSpec]; omega) | omega) dX11_init_52 (fun q_6 H hP hD hS => ?_)
  have hP : va_P (dC, dI) vwCl [(h, .inr (18, [.ref q_1, .ref q_2, .ref q_3, .ref q_5, .null, .null, .null, .null, .null, .null, .null, .null, .null, .null, .null, .null, .null, .null, .int (nI 0)])), (q_1, .inr (6, [.int (nI 0), .ref z0, .int (nI 0)])), (q_3, .inr (13, [.ref a_4, .int (nI 0)])), wa a_4 cI 200 (fun _ => 0), (q_6, .inr (13, [.null, .int (nI 0)]))] H := hP
  have hD : va_D A [(h, .inr (18, [.ref q_1, .ref q_2, .ref q_3, .ref q_5, .null, .null, .null, .null, .null, .null, .null, .null, .null, .null, .null, .null, .null, .null, .int (nI 0)])), (q_1, .inr (6, [.int (nI 0), .ref z0, .int (nI 0)])), (q_3, .inr (13, [.ref a_4, .int (nI 0)])), wa a_4 cI 200 (fun _ => 0), (q_6, .inr (13, [.null, .int (nI 0)]))] := hD
  refine W.widen (k := 7) (n := 230) (by first | exact Nat.le_of_ble_eq_true rfl | omega | (dsimp only [headSpec]; omega) | (simp only [headSpec]; omega) | omega) (by first | exact Nat.le_of_ble_eq_true rfl | omega | (dsimp only [headSpec]; omega) | (simp only [headSpec]; omega) | omega) ?_
  refine lv_dup hx hb dX11_init_55 rfl ?_
  refine lv_sipush (v := nI 600) hx hb dX11_init_56 (by decide) ?_
  have hPc : va_P (dC, dI) vwCl [(q_6, .inr (13, [.null, .int (nI 0)]))] _ := hP.sub [4] rfl
  have hDc : va_D _ [(q_6, .inr (13, [.null, .int (nI 0)]))] := hD.sub [4] (by decide) rfl
  have hFc := va_free (wc := [(q_6, .inr (13, [.null, .int (nI 0)]))]) hD hS hA [4] rfl
  refine va_callv (va_runI (As := [.int (nI 600)]) (rest := [.ref q_6, .ref h]) ⟨hx, hb, hml, hown, hts⟩ (c_rowinit l dC dI cI cO H.size q_6 600 (by omega)) (cwI 1 hts ugX11_init_X6_init rfl rfl rfl (hts (.initialized RX6) (by decide +kernel)) (hts (.methodLink RX11 21 yX6_init) (by decide +kernel)) (hts (.instanceMethod yX6_init) (by decide +kernel)) rfl (by decide +kernel) ⟨(by first | exact Nat.le_of_ble_eq_true rfl | omega | (dsimp only [headSpec]; omega) | (simp only [headSpec]; omega) | omega), (by first | exact Nat.le_of_ble_eq_true rfl | omega | (dsimp only [headSpec]; omega) | (simp only [headSpec]; omega) | omega)⟩) ⟨fun a U g mk q => by obtain ⟨q0, q1, qP, qK, qD⟩ := q; exact ⟨q0, q1, qP, va_K.moved (u := U) (U := U.calling g mk a) (Vm.Alike.refl U.vm) qK, qD⟩, fun U hU hW => ⟨rfl, by rw [hU], by rw [hU]; exact hPc, va_K.moved hW.alike hK, hDc.weaken (fun _ _ _ _ => trivial)⟩⟩ rfl rfl hl.1 rfl (lv_room (Nat.le_of_ble_eq_true rfl)) dX11_init_59 ⟨(by first | exact Nat.le_of_ble_eq_true rfl | omega | (dsimp only [headSpec]; omega) | (simp only [headSpec]; omega) | omega), (by first | exact Nat.le_of_ble_eq_true rfl | omega | (dsimp only [headSpec]; omega) | (simp only [headSpec]; omega) | omega)⟩) hS (fun q _ h => hFc q h) hFc (fun u t H locs ht hvm hw hB hz1 hk1 hS => ?_)
  obtain ⟨a_7, hP1, hK1, hD1⟩ := hB
  rw [ht] at hP1
  obtain ⟨hP, hD⟩ := va_join (wr := [(h, .inr (18, [.ref q_1, .ref q_2, .ref q_3, .ref q_5, .null, .null, .null, .null, .null, .null, .null, .null, .null, .null, .null, .null, .null, .null, .int (nI 0)])), (q_1, .inr (6, [.int (nI 0), .ref z0, .int (nI 0)])), (q_3, .inr (13, [.ref a_4, .int (nI 0)])), wa a_4 cI 200 (fun _ => 0)]) (w1 := [(q_6, .inr (13, [.ref a_7, .int (nI 0)])), wa a_7 cI 600 (fun _ => 0)]) hP hD [4] [0, 1, 2, 3] rfl rfl (by decide) (by decide) hk1 hFc hP1 hD1
  have hP : va_P (dC, dI) vwCl [(h, .inr (18, [.ref q_1, .ref q_2, .ref q_3, .ref q_5, .null, .null, .null, .null, .null, .null, .null, .null, .null, .null, .null, .null, .null, .null, .int (nI 0)])), (q_1, .inr (6, [.int (nI 0), .ref z0, .int (nI 0)])), (q_3, .inr (13, [.ref a_4, .int (nI 0)])), wa a_4 cI 200 (fun _ => 0), (q_6, .inr (13, [.ref a_7, .int (nI 0)])), wa a_7 cI 600 (fun _ => 0)] H := hP
  have hD : va_D A [(h, .inr (18, [.ref q_1, .ref q_2, .ref q_3, .ref q_5, .null, .null, .null, .null, .null, .null, .null, .null, .null, .null, .null, .null, .null, .null, .int (nI 0)])), (q_1, .inr (6, [.int (nI 0), .ref z0, .int (nI 0)])), (q_3, .inr (13, [.ref a_4, .int (nI 0)])), wa a_4 cI 200 (fun _ => 0), (q_6, .inr (13, [.ref a_7, .int (nI 0)])), wa a_7 cI 600 (fun _ => 0)] := hD
  refine W.widen (k := 8) (n := 830) (by first | exact Nat.le_of_ble_eq_true rfl | omega | (dsimp only [headSpec]; omega) | (simp only [headSpec]; omega) | omega) (by first | exact Nat.le_of_ble_eq_true rfl | omega | (dsimp only [headSpec]; omega) | (simp only [headSpec]; omega) | omega) ?_
  have hP : va_P (dC, dI) vwCl [(h, .inr (18, [.ref q_1, .ref q_2, .ref q_3, .ref q_5, .null, .null, .null, .null, .null, .null, .null, .null, .null, .null, .null, .null, .null, .null, .int (nI 0)])), (q_1, .inr (6, [.int (nI 0), .ref z0, .int (nI 0)])), (q_3, .inr (13, [.ref a_4, .int (nI 0)])), wa a_4 cI 200 (fun _ => 0)] H := hP.sub [0, 1, 2, 3] rfl
  have hD : va_D A [(h, .inr (18, [.ref q_1, .ref q_2, .ref q_3, .ref q_5, .null, .null, .null, .null, .null, .null, .null, .null, .null, .null, .null, .null, .null, .null, .int (nI 0)])), (q_1, .inr (6, [.int (nI 0), .ref z0, .int (nI 0)])), (q_3, .inr (13, [.ref a_4, .int (nI 0)])), wa a_4 cI 200 (fun _ => 0)] := hD.sub [0, 1, 2, 3] (by decide) rfl
  refine va_putF (D := (dC, dI)) (ci := 18) (v := .ref q_6) (ty := .object "Patchferry$Row") (C := RX11) (T := TX11) (N := 19) hx hb hts inX11_init_RX11 tyX11 tyX11_ok nmX11 hown hK hP hD hS 0 rfl rfl 4 (by decide) (hts (.fieldLink RX11 35 "Patchferry" "work" "LPatchferry$Row;") (by decide +kernel)) (fun _ h9 => h9) rfl hin rfl (by decide +kernel) rfl rfl (Nat.le_of_ble_eq_true rfl) dX11_init_62 (fun H locs hP hD hS => ?_)
  have hP : va_P (dC, dI) vwCl [(h, .inr (18, [.ref q_1, .ref q_2, .ref q_3, .ref q_5, .ref q_6, .null, .null, .null, .null, .null, .null, .null, .null, .null, .null, .null, .null, .null, .int (nI 0)])), (q_1, .inr (6, [.int (nI 0), .ref z0, .int (nI 0)])), (q_3, .inr (13, [.ref a_4, .int (nI 0)])), wa a_4 cI 200 (fun _ => 0)] H := hP
  have hD : va_D A [(h, .inr (18, [.ref q_1, .ref q_2, .ref q_3, .ref q_5, .ref q_6, .null, .null, .null, .null, .null, .null, .null, .null, .null, .null, .null, .null, .null, .int (nI 0)])), (q_1, .inr (6, [.int (nI 0), .ref z0, .int (nI 0)])), (q_3, .inr (13, [.ref a_4, .int (nI 0)])), wa a_4 cI 200 (fun _ => 0)] := hD
  refine lv_aload_n hx hb dX11_init_65 rfl (lv_at hl 0 rfl) ?_
  refine va_new (ci := 13) (fs := [.null, .int (nI 0)]) (C := RX6) (T := TX6) (N := 2) hx hb hts inX11_init_RX6 tyX6 tyX6_ok hown (hts (.classLink RX11 19 RX6) (by decide +kernel)) (hts (.instantiable RX6 2) (by decide +kernel)) (hts (.initialized RX6) (by decide +kernel)) hK hP hD hS hA rfl (fun j hj => by rcases (show j = 0 ∨ j = 1 by omega) with rfl | rfl <;> rfl) (by first | exact Nat.le_of_ble_eq_true rfl | omega | (dsimp only [headSpec]; omega) | (simp only [headSpec]; omega) | omega) (by first | exact Nat.le_of_ble_eq_true rfl | omega | (dsimp only [headSpec]; omega) | (simp only [headSpec]; omega) | omega) dX11_init_66 (fun q_8 H hP hD hS => ?_)
  have hP : va_P (dC, dI) vwCl [(h, .inr (18, [.ref q_1, .ref q_2, .ref q_3, .ref q_5, .ref q_6, .null, .null, .null, .null, .null, .null, .null, .null, .null, .null, .null, .null, .null, .int (nI 0)])), (q_1, .inr (6, [.int (nI 0), .ref z0, .int (nI 0)])), (q_3, .inr (13, [.ref a_4, .int (nI 0)])), wa a_4 cI 200 (fun _ => 0), (q_8, .inr (13, [.null, .int (nI 0)]))] H := hP
  have hD : va_D A [(h, .inr (18, [.ref q_1, .ref q_2, .ref q_3, .ref q_5, .ref q_6, .null, .null, .null, .null, .null, .null, .null, .null, .null, .null, .null, .null, .null, .int (nI 0)])), (q_1, .inr (6, [.int (nI 0), .ref z0, .int (nI 0)])), (q_3, .inr (13, [.ref a_4, .int (nI 0)])), wa a_4 cI 200 (fun _ => 0), (q_8, .inr (13, [.null, .int (nI 0)]))] := hD
  refine W.widen (k := 9) (n := 832) (by first | exact Nat.le_of_ble_eq_true rfl | omega | (dsimp only [headSpec]; omega) | (simp only [headSpec]; omega) | omega) (by first | exact Nat.le_of_ble_eq_true rfl | omega | (dsimp only [headSpec]; omega) | (simp only [headSpec]; omega) | omega) ?_
  refine lv_dup hx hb dX11_init_69 rfl ?_
  refine lv_sipush (v := nI 600) hx hb dX11_init_70 (by decide) ?_
  have hPc : va_P (dC, dI) vwCl [(q_8, .inr (13, [.null, .int (nI 0)]))] _ := hP.sub [4] rfl
  have hDc : va_D _ [(q_8, .inr (13, [.null, .int (nI 0)]))] := hD.sub [4] (by decide) rfl
  have hFc := va_free (wc := [(q_8, .inr (13, [.null, .int (nI 0)]))]) hD hS hA [4] rfl
  refine va_callv (va_runI (As := [.int (nI 600)]) (rest := [.ref q_8, .ref h]) ⟨hx, hb, hml, hown, hts⟩ (c_rowinit l dC dI cI cO H.size q_8 600 (by omega)) (cwI 1 hts ugX11_init_X6_init rfl rfl rfl (hts (.initialized RX6) (by decide +kernel)) (hts (.methodLink RX11 21 yX6_init) (by decide +kernel)) (hts (.instanceMethod yX6_init) (by decide +kernel)) rfl (by decide +kernel) ⟨(by first | exact Nat.le_of_ble_eq_true rfl | omega | (dsimp only [headSpec]; omega) | (simp only [headSpec]; omega) | omega), (by first | exact Nat.le_of_ble_eq_true rfl | omega | (dsimp only [headSpec]; omega) | (simp only [headSpec]; omega) | omega)⟩) ⟨fun a U g mk q => by obtain ⟨q0, q1, qP, qK, qD⟩ := q; exact ⟨q0, q1, qP, va_K.moved (u := U) (U := U.calling g mk a) (Vm.Alike.refl U.vm) qK, qD⟩, fun U hU hW => ⟨rfl, by rw [hU], by rw [hU]; exact hPc, va_K.moved hW.alike hK, hDc.weaken (fun _ _ _ _ => trivial)⟩⟩ rfl rfl hl.1 rfl (lv_room (Nat.le_of_ble_eq_true rfl)) dX11_init_73 ⟨(by first | exact Nat.le_of_ble_eq_true rfl | omega | (dsimp only [headSpec]; omega) | (simp only [headSpec]; omega) | omega), (by first | exact Nat.le_of_ble_eq_true rfl | omega | (dsimp only [headSpec]; omega) | (simp only [headSpec]; omega) | omega)⟩) hS (fun q _ h => hFc q h) hFc (fun u t H locs ht hvm hw hB hz1 hk1 hS => ?_)
  obtain ⟨a_9, hP1, hK1, hD1⟩ := hB
  rw [ht] at hP1
  obtain ⟨hP, hD⟩ := va_join (wr := [(h, .inr (18, [.ref q_1, .ref q_2, .ref q_3, .ref q_5, .ref q_6, .null, .null, .null, .null, .null, .null, .null, .null, .null, .null, .null, .null, .null, .int (nI 0)])), (q_1, .inr (6, [.int (nI 0), .ref z0, .int (nI 0)])), (q_3, .inr (13, [.ref a_4, .int (nI 0)])), wa a_4 cI 200 (fun _ => 0)]) (w1 := [(q_8, .inr (13, [.ref a_9, .int (nI 0)])), wa a_9 cI 600 (fun _ => 0)]) hP hD [4] [0, 1, 2, 3] rfl rfl (by decide) (by decide) hk1 hFc hP1 hD1
  have hP : va_P (dC, dI) vwCl [(h, .inr (18, [.ref q_1, .ref q_2, .ref q_3, .ref q_5, .ref q_6, .null, .null, .null, .null, .null, .null, .null, .null, .null, .null, .null, .null, .null, .int (nI 0)])), (q_1, .inr (6, [.int (nI 0), .ref z0, .int (nI 0)])), (q_3, .inr (13, [.ref a_4, .int (nI 0)])), wa a_4 cI 200 (fun _ => 0), (q_8, .inr (13, [.ref a_9, .int (nI 0)])), wa a_9 cI 600 (fun _ => 0)] H := hP
  have hD : va_D A [(h, .inr (18, [.ref q_1, .ref q_2, .ref q_3, .ref q_5, .ref q_6, .null, .null, .null, .null, .null, .null, .null, .null, .null, .null, .null, .null, .null, .int (nI 0)])), (q_1, .inr (6, [.int (nI 0), .ref z0, .int (nI 0)])), (q_3, .inr (13, [.ref a_4, .int (nI 0)])), wa a_4 cI 200 (fun _ => 0), (q_8, .inr (13, [.ref a_9, .int (nI 0)])), wa a_9 cI 600 (fun _ => 0)] := hD
  refine W.widen (k := 10) (n := 1432) (by first | exact Nat.le_of_ble_eq_true rfl | omega | (dsimp only [headSpec]; omega) | (simp only [headSpec]; omega) | omega) (by first | exact Nat.le_of_ble_eq_true rfl | omega | (dsimp only [headSpec]; omega) | (simp only [headSpec]; omega) | omega) ?_
  have hP : va_P (dC, dI) vwCl [(h, .inr (18, [.ref q_1, .ref q_2, .ref q_3, .ref q_5, .ref q_6, .null, .null, .null, .null, .null, .null, .null, .null, .null, .null, .null, .null, .null, .int (nI 0)])), (q_1, .inr (6, [.int (nI 0), .ref z0, .int (nI 0)])), (q_3, .inr (13, [.ref a_4, .int (nI 0)])), wa a_4 cI 200 (fun _ => 0)] H := hP.sub [0, 1, 2, 3] rfl
  have hD : va_D A [(h, .inr (18, [.ref q_1, .ref q_2, .ref q_3, .ref q_5, .ref q_6, .null, .null, .null, .null, .null, .null, .null, .null, .null, .null, .null, .null, .null, .int (nI 0)])), (q_1, .inr (6, [.int (nI 0), .ref z0, .int (nI 0)])), (q_3, .inr (13, [.ref a_4, .int (nI 0)])), wa a_4 cI 200 (fun _ => 0)] := hD.sub [0, 1, 2, 3] (by decide) rfl
  refine va_putF (D := (dC, dI)) (ci := 18) (v := .ref q_8) (ty := .object "Patchferry$Row") (C := RX11) (T := TX11) (N := 19) hx hb hts inX11_init_RX11 tyX11 tyX11_ok nmX11 hown hK hP hD hS 0 rfl rfl 5 (by decide) (hts (.fieldLink RX11 38 "Patchferry" "spare" "LPatchferry$Row;") (by decide +kernel)) (fun _ h9 => h9) rfl hin rfl (by decide +kernel) rfl rfl (Nat.le_of_ble_eq_true rfl) dX11_init_76 (fun H locs hP hD hS => ?_)
  have hP : va_P (dC, dI) vwCl [(h, .inr (18, [.ref q_1, .ref q_2, .ref q_3, .ref q_5, .ref q_6, .ref q_8, .null, .null, .null, .null, .null, .null, .null, .null, .null, .null, .null, .null, .int (nI 0)])), (q_1, .inr (6, [.int (nI 0), .ref z0, .int (nI 0)])), (q_3, .inr (13, [.ref a_4, .int (nI 0)])), wa a_4 cI 200 (fun _ => 0)] H := hP
  have hD : va_D A [(h, .inr (18, [.ref q_1, .ref q_2, .ref q_3, .ref q_5, .ref q_6, .ref q_8, .null, .null, .null, .null, .null, .null, .null, .null, .null, .null, .null, .null, .int (nI 0)])), (q_1, .inr (6, [.int (nI 0), .ref z0, .int (nI 0)])), (q_3, .inr (13, [.ref a_4, .int (nI 0)])), wa a_4 cI 200 (fun _ => 0)] := hD
  refine lv_aload_n hx hb dX11_init_79 rfl (lv_at hl 0 rfl) ?_
  refine va_new (ci := 13) (fs := [.null, .int (nI 0)]) (C := RX6) (T := TX6) (N := 2) hx hb hts inX11_init_RX6 tyX6 tyX6_ok hown (hts (.classLink RX11 19 RX6) (by decide +kernel)) (hts (.instantiable RX6 2) (by decide +kernel)) (hts (.initialized RX6) (by decide +kernel)) hK hP hD hS hA rfl (fun j hj => by rcases (show j = 0 ∨ j = 1 by omega) with rfl | rfl <;> rfl) (by first | exact Nat.le_of_ble_eq_true rfl | omega | (dsimp only [headSpec]; omega) | (simp only [headSpec]; omega) | omega) (by first | exact Nat.le_of_ble_eq_true rfl | omega | (dsimp only [headSpec]; omega) | (simp only [headSpec]; omega) | omega) dX11_init_80 (fun q_10 H hP hD hS => ?_)
  have hP : va_P (dC, dI) vwCl [(h, .inr (18, [.ref q_1, .ref q_2, .ref q_3, .ref q_5, .ref q_6, .ref q_8, .null, .null, .null, .null, .null, .null, .null, .null, .null, .null, .null, .null, .int (nI 0)])), (q_1, .inr (6, [.int (nI 0), .ref z0, .int (nI 0)])), (q_3, .inr (13, [.ref a_4, .int (nI 0)])), wa a_4 cI 200 (fun _ => 0), (q_10, .inr (13, [.null, .int (nI 0)]))] H := hP
  have hD : va_D A [(h, .inr (18, [.ref q_1, .ref q_2, .ref q_3, .ref q_5, .ref q_6, .ref q_8, .null, .null, .null, .null, .null, .null, .null, .null, .null, .null, .null, .null, .int (nI 0)])), (q_1, .inr (6, [.int (nI 0), .ref z0, .int (nI 0)])), (q_3, .inr (13, [.ref a_4, .int (nI 0)])), wa a_4 cI 200 (fun _ => 0), (q_10, .inr (13, [.null, .int (nI 0)]))] := hD
  refine W.widen (k := 11) (n := 1434) (by first | exact Nat.le_of_ble_eq_true rfl | omega | (dsimp only [headSpec]; omega) | (simp only [headSpec]; omega) | omega) (by first | exact Nat.le_of_ble_eq_true rfl | omega | (dsimp only [headSpec]; omega) | (simp only [headSpec]; omega) | omega) ?_
  refine lv_dup hx hb dX11_init_83 rfl ?_
  refine lv_sipush (v := nI 2600) hx hb dX11_init_84 (by decide) ?_
  have hPc : va_P (dC, dI) vwCl [(q_10, .inr (13, [.null, .int (nI 0)]))] _ := hP.sub [4] rfl
  have hDc : va_D _ [(q_10, .inr (13, [.null, .int (nI 0)]))] := hD.sub [4] (by decide) rfl
  have hFc := va_free (wc := [(q_10, .inr (13, [.null, .int (nI 0)]))]) hD hS hA [4] rfl
  refine va_callv (va_runI (As := [.int (nI 2600)]) (rest := [.ref q_10, .ref h]) ⟨hx, hb, hml, hown, hts⟩ (c_rowinit l dC dI cI cO H.size q_10 2600 (by omega)) (cwI 1 hts ugX11_init_X6_init rfl rfl rfl (hts (.initialized RX6) (by decide +kernel)) (hts (.methodLink RX11 21 yX6_init) (by decide +kernel)) (hts (.instanceMethod yX6_init) (by decide +kernel)) rfl (by decide +kernel) ⟨(by first | exact Nat.le_of_ble_eq_true rfl | omega | (dsimp only [headSpec]; omega) | (simp only [headSpec]; omega) | omega), (by first | exact Nat.le_of_ble_eq_true rfl | omega | (dsimp only [headSpec]; omega) | (simp only [headSpec]; omega) | omega)⟩) ⟨fun a U g mk q => by obtain ⟨q0, q1, qP, qK, qD⟩ := q; exact ⟨q0, q1, qP, va_K.moved (u := U) (U := U.calling g mk a) (Vm.Alike.refl U.vm) qK, qD⟩, fun U hU hW => ⟨rfl, by rw [hU], by rw [hU]; exact hPc, va_K.moved hW.alike hK, hDc.weaken (fun _ _ _ _ => trivial)⟩⟩ rfl rfl hl.1 rfl (lv_room (Nat.le_of_ble_eq_true rfl)) dX11_init_87 ⟨(by first | exact Nat.le_of_ble_eq_true rfl | omega | (dsimp only [headSpec]; omega) | (simp only [headSpec]; omega) | omega), (by first | exact Nat.le_of_ble_eq_true rfl | omega | (dsimp only [headSpec]; omega) | (simp only [headSpec]; omega) | omega)⟩) hS (fun q _ h => hFc q h) hFc (fun u t H locs ht hvm hw hB hz1 hk1 hS => ?_)
  obtain ⟨a_11, hP1, hK1, hD1⟩ := hB
  rw [ht] at hP1
  obtain ⟨hP, hD⟩ := va_join (wr := [(h, .inr (18, [.ref q_1, .ref q_2, .ref q_3, .ref q_5, .ref q_6, .ref q_8, .null, .null, .null, .null, .null, .null, .null, .null, .null, .null, .null, .null, .int (nI 0)])), (q_1, .inr (6, [.int (nI 0), .ref z0, .int (nI 0)])), (q_3, .inr (13, [.ref a_4, .int (nI 0)])), wa a_4 cI 200 (fun _ => 0)]) (w1 := [(q_10, .inr (13, [.ref a_11, .int (nI 0)])), wa a_11 cI 2600 (fun _ => 0)]) hP hD [4] [0, 1, 2, 3] rfl rfl (by decide) (by decide) hk1 hFc hP1 hD1
  have hP : va_P (dC, dI) vwCl [(h, .inr (18, [.ref q_1, .ref q_2, .ref q_3, .ref q_5, .ref q_6, .ref q_8, .null, .null, .null, .null, .null, .null, .null, .null, .null, .null, .null, .null, .int (nI 0)])), (q_1, .inr (6, [.int (nI 0), .ref z0, .int (nI 0)])), (q_3, .inr (13, [.ref a_4, .int (nI 0)])), wa a_4 cI 200 (fun _ => 0), (q_10, .inr (13, [.ref a_11, .int (nI 0)])), wa a_11 cI 2600 (fun _ => 0)] H := hP
  have hD : va_D A [(h, .inr (18, [.ref q_1, .ref q_2, .ref q_3, .ref q_5, .ref q_6, .ref q_8, .null, .null, .null, .null, .null, .null, .null, .null, .null, .null, .null, .null, .int (nI 0)])), (q_1, .inr (6, [.int (nI 0), .ref z0, .int (nI 0)])), (q_3, .inr (13, [.ref a_4, .int (nI 0)])), wa a_4 cI 200 (fun _ => 0), (q_10, .inr (13, [.ref a_11, .int (nI 0)])), wa a_11 cI 2600 (fun _ => 0)] := hD
  refine W.widen (k := 12) (n := 4034) (by first | exact Nat.le_of_ble_eq_true rfl | omega | (dsimp only [headSpec]; omega) | (simp only [headSpec]; omega) | omega) (by first | exact Nat.le_of_ble_eq_true rfl | omega | (dsimp only [headSpec]; omega) | (simp only [headSpec]; omega) | omega) ?_
  have hP : va_P (dC, dI) vwCl [(h, .inr (18, [.ref q_1, .ref q_2, .ref q_3, .ref q_5, .ref q_6, .ref q_8, .null, .null, .null, .null, .null, .null, .null, .null, .null, .null, .null, .null, .int (nI 0)])), (q_1, .inr (6, [.int (nI 0), .ref z0, .int (nI 0)])), (q_3, .inr (13, [.ref a_4, .int (nI 0)])), wa a_4 cI 200 (fun _ => 0)] H := hP.sub [0, 1, 2, 3] rfl
  have hD : va_D A [(h, .inr (18, [.ref q_1, .ref q_2, .ref q_3, .ref q_5, .ref q_6, .ref q_8, .null, .null, .null, .null, .null, .null, .null, .null, .null, .null, .null, .null, .int (nI 0)])), (q_1, .inr (6, [.int (nI 0), .ref z0, .int (nI 0)])), (q_3, .inr (13, [.ref a_4, .int (nI 0)])), wa a_4 cI 200 (fun _ => 0)] := hD.sub [0, 1, 2, 3] (by decide) rfl
  refine va_putF (D := (dC, dI)) (ci := 18) (v := .ref q_10) (ty := .object "Patchferry$Row") (C := RX11) (T := TX11) (N := 19) hx hb hts inX11_init_RX11 tyX11 tyX11_ok nmX11 hown hK hP hD hS 0 rfl rfl 6 (by decide) (hts (.fieldLink RX11 41 "Patchferry" "signs" "LPatchferry$Row;") (by decide +kernel)) (fun _ h9 => h9) rfl hin rfl (by decide +kernel) rfl rfl (Nat.le_of_ble_eq_true rfl) dX11_init_90 (fun H locs hP hD hS => ?_)
  have hP : va_P (dC, dI) vwCl [(h, .inr (18, [.ref q_1, .ref q_2, .ref q_3, .ref q_5, .ref q_6, .ref q_8, .ref q_10, .null, .null, .null, .null, .null, .null, .null, .null, .null, .null, .null, .int (nI 0)])), (q_1, .inr (6, [.int (nI 0), .ref z0, .int (nI 0)])), (q_3, .inr (13, [.ref a_4, .int (nI 0)])), wa a_4 cI 200 (fun _ => 0)] H := hP
  have hD : va_D A [(h, .inr (18, [.ref q_1, .ref q_2, .ref q_3, .ref q_5, .ref q_6, .ref q_8, .ref q_10, .null, .null, .null, .null, .null, .null, .null, .null, .null, .null, .null, .int (nI 0)])), (q_1, .inr (6, [.int (nI 0), .ref z0, .int (nI 0)])), (q_3, .inr (13, [.ref a_4, .int (nI 0)])), wa a_4 cI 200 (fun _ => 0)] := hD
  refine lv_aload_n hx hb dX11_init_93 rfl (lv_at hl 0 rfl) ?_
  refine va_new (ci := 14) (fs := [.null, .null]) (C := RX7) (T := TX7) (N := 2) hx hb hts inX11_init_RX7 tyX7 tyX7_ok hown (hts (.classLink RX11 44 RX7) (by decide +kernel)) (hts (.instantiable RX7 2) (by decide +kernel)) (hts (.initialized RX7) (by decide +kernel)) hK hP hD hS hA rfl (fun j hj => by rcases (show j = 0 ∨ j = 1 by omega) with rfl | rfl <;> rfl) (by first | exact Nat.le_of_ble_eq_true rfl | omega | (dsimp only [headSpec]; omega) | (simp only [headSpec]; omega) | omega) (by first | exact Nat.le_of_ble_eq_true rfl | omega | (dsimp only [headSpec]; omega) | (simp only [headSpec]; omega) | omega) dX11_init_94 (fun q_12 H hP hD hS => ?_)
  have hP : va_P (dC, dI) vwCl [(h, .inr (18, [.ref q_1, .ref q_2, .ref q_3, .ref q_5, .ref q_6, .ref q_8, .ref q_10, .null, .null, .null, .null, .null, .null, .null, .null, .null, .null, .null, .int (nI 0)])), (q_1, .inr (6, [.int (nI 0), .ref z0, .int (nI 0)])), (q_3, .inr (13, [.ref a_4, .int (nI 0)])), wa a_4 cI 200 (fun _ => 0), (q_12, .inr (14, [.null, .null]))] H := hP
  have hD : va_D A [(h, .inr (18, [.ref q_1, .ref q_2, .ref q_3, .ref q_5, .ref q_6, .ref q_8, .ref q_10, .null, .null, .null, .null, .null, .null, .null, .null, .null, .null, .null, .int (nI 0)])), (q_1, .inr (6, [.int (nI 0), .ref z0, .int (nI 0)])), (q_3, .inr (13, [.ref a_4, .int (nI 0)])), wa a_4 cI 200 (fun _ => 0), (q_12, .inr (14, [.null, .null]))] := hD
  refine W.widen (k := 13) (n := 4036) (by first | exact Nat.le_of_ble_eq_true rfl | omega | (dsimp only [headSpec]; omega) | (simp only [headSpec]; omega) | omega) (by first | exact Nat.le_of_ble_eq_true rfl | omega | (dsimp only [headSpec]; omega) | (simp only [headSpec]; omega) | omega) ?_
  refine lv_dup hx hb dX11_init_97 rfl ?_
  have hPc : va_P (dC, dI) vwCl [(q_12, .inr (14, [.null, .null]))] _ := hP.sub [4] rfl
  have hDc : va_D _ [(q_12, .inr (14, [.null, .null]))] := hD.sub [4] (by decide) rfl
  have hFc := va_free (wc := [(q_12, .inr (14, [.null, .null]))]) hD hS hA [4] rfl
  refine va_callv (va_runI (As := []) (rest := [.ref q_12, .ref h]) ⟨hx, hb, hml, hown, hts⟩ (c_runsinit l dC dI cI cO H.size q_12) (cwI 0 hts ugX11_init_X7_init rfl rfl rfl (hts (.initialized RX7) (by decide +kernel)) (hts (.methodLink RX11 46 yX7_init) (by decide +kernel)) (hts (.instanceMethod yX7_init) (by decide +kernel)) rfl (by decide +kernel) ⟨(by first | exact Nat.le_of_ble_eq_true rfl | omega | (dsimp only [headSpec]; omega) | (simp only [headSpec]; omega) | omega), (by first | exact Nat.le_of_ble_eq_true rfl | omega | (dsimp only [headSpec]; omega) | (simp only [headSpec]; omega) | omega)⟩) ⟨fun a U g mk q => by obtain ⟨q0, q1, qP, qK, qD⟩ := q; exact ⟨q0, q1, qP, va_K.moved (u := U) (U := U.calling g mk a) (Vm.Alike.refl U.vm) qK, qD⟩, fun U hU hW => ⟨rfl, by rw [hU], by rw [hU]; exact hPc, va_K.moved hW.alike hK, hDc.weaken (fun _ _ _ _ => trivial)⟩⟩ rfl rfl hl.1 rfl (lv_room (Nat.le_of_ble_eq_true rfl)) dX11_init_98 ⟨(by first | exact Nat.le_of_ble_eq_true rfl | omega | (dsimp only [headSpec]; omega) | (simp only [headSpec]; omega) | omega), (by first | exact Nat.le_of_ble_eq_true rfl | omega | (dsimp only [headSpec]; omega) | (simp only [headSpec]; omega) | omega)⟩) hS (fun q _ h => hFc q h) hFc (fun u t H locs ht hvm hw hB hz1 hk1 hS => ?_)
  obtain ⟨a_13, a_14, a_15, a_16, hP1, hK1, hD1⟩ := hB
  rw [ht] at hP1
  obtain ⟨hP, hD⟩ := va_join (wr := [(h, .inr (18, [.ref q_1, .ref q_2, .ref q_3, .ref q_5, .ref q_6, .ref q_8, .ref q_10, .null, .null, .null, .null, .null, .null, .null, .null, .null, .null, .null, .int (nI 0)])), (q_1, .inr (6, [.int (nI 0), .ref z0, .int (nI 0)])), (q_3, .inr (13, [.ref a_4, .int (nI 0)])), wa a_4 cI 200 (fun _ => 0)]) (w1 := [(q_12, .inr (14, [.ref a_13, .ref a_14])), (a_13, .inr (13, [.ref a_15, .int (nI 0)])), wa a_15 cI 270 (fun _ => 0), (a_14, .inr (13, [.ref a_16, .int (nI 0)])), wa a_16 cI 270 (fun _ => 0)]) hP hD [4] [0, 1, 2, 3] rfl rfl (by decide) (by decide) hk1 hFc hP1 hD1
  have hP : va_P (dC, dI) vwCl [(h, .inr (18, [.ref q_1, .ref q_2, .ref q_3, .ref q_5, .ref q_6, .ref q_8, .ref q_10, .null, .null, .null, .null, .null, .null, .null, .null, .null, .null, .null, .int (nI 0)])), (q_1, .inr (6, [.int (nI 0), .ref z0, .int (nI 0)])), (q_3, .inr (13, [.ref a_4, .int (nI 0)])), wa a_4 cI 200 (fun _ => 0), (q_12, .inr (14, [.ref a_13, .ref a_14])), (a_13, .inr (13, [.ref a_15, .int (nI 0)])), wa a_15 cI 270 (fun _ => 0), (a_14, .inr (13, [.ref a_16, .int (nI 0)])), wa a_16 cI 270 (fun _ => 0)] H := hP
  have hD : va_D A [(h, .inr (18, [.ref q_1, .ref q_2, .ref q_3, .ref q_5, .ref q_6, .ref q_8, .ref q_10, .null, .null, .null, .null, .null, .null, .null, .null, .null, .null, .null, .int (nI 0)])), (q_1, .inr (6, [.int (nI 0), .ref z0, .int (nI 0)])), (q_3, .inr (13, [.ref a_4, .int (nI 0)])), wa a_4 cI 200 (fun _ => 0), (q_12, .inr (14, [.ref a_13, .ref a_14])), (a_13, .inr (13, [.ref a_15, .int (nI 0)])), wa a_15 cI 270 (fun _ => 0), (a_14, .inr (13, [.ref a_16, .int (nI 0)])), wa a_16 cI 270 (fun _ => 0)] := hD
  refine W.widen (k := 17) (n := 4580) (by first | exact Nat.le_of_ble_eq_true rfl | omega | (dsimp only [headSpec]; omega) | (simp only [headSpec]; omega) | omega) (by first | exact Nat.le_of_ble_eq_true rfl | omega | (dsimp only [headSpec]; omega) | (simp only [headSpec]; omega) | omega) ?_
  refine va_putF (D := (dC, dI)) (ci := 18) (v := .ref q_12) (ty := .object "Patchferry$Runs") (C := RX11) (T := TX11) (N := 19) hx hb hts inX11_init_RX11 tyX11 tyX11_ok nmX11 hown hK hP hD hS 0 rfl rfl 7 (by decide) (hts (.fieldLink RX11 47 "Patchferry" "runs" "LPatchferry$Runs;") (by decide +kernel)) (fun _ h9 => h9) rfl hin rfl (by decide +kernel) rfl rfl (Nat.le_of_ble_eq_true rfl) dX11_init_101 (fun H locs hP hD hS => ?_)
  have hP : va_P (dC, dI) vwCl [(h, .inr (18, [.ref q_1, .ref q_2, .ref q_3, .ref q_5, .ref q_6, .ref q_8, .ref q_10, .ref q_12, .null, .null, .null, .null, .null, .null, .null, .null, .null, .null, .int (nI 0)])), (q_1, .inr (6, [.int (nI 0), .ref z0, .int (nI 0)])), (q_3, .inr (13, [.ref a_4, .int (nI 0)])), wa a_4 cI 200 (fun _ => 0), (q_12, .inr (14, [.ref a_13, .ref a_14])), (a_13, .inr (13, [.ref a_15, .int (nI 0)])), wa a_15 cI 270 (fun _ => 0), (a_14, .inr (13, [.ref a_16, .int (nI 0)])), wa a_16 cI 270 (fun _ => 0)] H := hP
  have hD : va_D A [(h, .inr (18, [.ref q_1, .ref q_2, .ref q_3, .ref q_5, .ref q_6, .ref q_8, .ref q_10, .ref q_12, .null, .null, .null, .null, .null, .null, .null, .null, .null, .null, .int (nI 0)])), (q_1, .inr (6, [.int (nI 0), .ref z0, .int (nI 0)])), (q_3, .inr (13, [.ref a_4, .int (nI 0)])), wa a_4 cI 200 (fun _ => 0), (q_12, .inr (14, [.ref a_13, .ref a_14])), (a_13, .inr (13, [.ref a_15, .int (nI 0)])), wa a_15 cI 270 (fun _ => 0), (a_14, .inr (13, [.ref a_16, .int (nI 0)])), wa a_16 cI 270 (fun _ => 0)] := hD
  refine lv_aload_n hx hb dX11_init_104 rfl (lv_at hl 0 rfl) ?_
  refine va_new (ci := 8) (fs := [.null, .null, .int (nI 0), .int (nI 0), .int (nI 0), .int (nI 0), .int (nI 0), .int (nI 0), .int (nI 0), .int (nI 0)]) (C := RX1) (T := TX1) (N := 10) hx hb hts inX11_init_RX1 tyX1 tyX1_ok hown (hts (.classLink RX11 51 RX1) (by decide +kernel)) (hts (.instantiable RX1 10) (by decide +kernel)) (hts (.initialized RX1) (by decide +kernel)) hK hP hD hS hA rfl (fun j hj => by rcases (show j = 0 ∨ j = 1 ∨ j = 2 ∨ j = 3 ∨ j = 4 ∨ j = 5 ∨ j = 6 ∨ j = 7 ∨ j = 8 ∨ j = 9 by omega) with rfl | rfl | rfl | rfl | rfl | rfl | rfl | rfl | rfl | rfl <;> rfl) (by first | exact Nat.le_of_ble_eq_true rfl | omega | (dsimp only [headSpec]; omega) | (simp only [headSpec]; omega) | omega) (by first | exact Nat.le_of_ble_eq_true rfl | omega | (dsimp only [headSpec]; omega) | (simp only [headSpec]; omega) | omega) dX11_init_105 (fun q_17 H hP hD hS => ?_)
  have hP : va_P (dC, dI) vwCl [(h, .inr (18, [.ref q_1, .ref q_2, .ref q_3, .ref q_5, .ref q_6, .ref q_8, .ref q_10, .ref q_12, .null, .null, .null, .null, .null, .null, .null, .null, .null, .null, .int (nI 0)])), (q_1, .inr (6, [.int (nI 0), .ref z0, .int (nI 0)])), (q_3, .inr (13, [.ref a_4, .int (nI 0)])), wa a_4 cI 200 (fun _ => 0), (q_12, .inr (14, [.ref a_13, .ref a_14])), (a_13, .inr (13, [.ref a_15, .int (nI 0)])), wa a_15 cI 270 (fun _ => 0), (a_14, .inr (13, [.ref a_16, .int (nI 0)])), wa a_16 cI 270 (fun _ => 0), (q_17, .inr (8, [.null, .null, .int (nI 0), .int (nI 0), .int (nI 0), .int (nI 0), .int (nI 0), .int (nI 0), .int (nI 0), .int (nI 0)]))] H := hP
  have hD : va_D A [(h, .inr (18, [.ref q_1, .ref q_2, .ref q_3, .ref q_5, .ref q_6, .ref q_8, .ref q_10, .ref q_12, .null, .null, .null, .null, .null, .null, .null, .null, .null, .null, .int (nI 0)])), (q_1, .inr (6, [.int (nI 0), .ref z0, .int (nI 0)])), (q_3, .inr (13, [.ref a_4, .int (nI 0)])), wa a_4 cI 200 (fun _ => 0), (q_12, .inr (14, [.ref a_13, .ref a_14])), (a_13, .inr (13, [.ref a_15, .int (nI 0)])), wa a_15 cI 270 (fun _ => 0), (a_14, .inr (13, [.ref a_16, .int (nI 0)])), wa a_16 cI 270 (fun _ => 0), (q_17, .inr (8, [.null, .null, .int (nI 0), .int (nI 0), .int (nI 0), .int (nI 0), .int (nI 0), .int (nI 0), .int (nI 0), .int (nI 0)]))] := hD
  refine W.widen (k := 18) (n := 4590) (by first | exact Nat.le_of_ble_eq_true rfl | omega | (dsimp only [headSpec]; omega) | (simp only [headSpec]; omega) | omega) (by first | exact Nat.le_of_ble_eq_true rfl | omega | (dsimp only [headSpec]; omega) | (simp only [headSpec]; omega) | omega) ?_
  refine lv_dup hx hb dX11_init_108 rfl ?_
  have hPc : va_P (dC, dI) vwCl [(q_17, .inr (8, [.null, .null, .int (nI 0), .int (nI 0), .int (nI 0), .int (nI 0), .int (nI 0), .int (nI 0), .int (nI 0), .int (nI 0)]))] _ := hP.sub [9] rfl
  have hDc : va_D _ [(q_17, .inr (8, [.null, .null, .int (nI 0), .int (nI 0), .int (nI 0), .int (nI 0), .int (nI 0), .int (nI 0), .int (nI 0), .int (nI 0)]))] := hD.sub [9] (by decide) rfl
  have hFc := va_free (wc := [(q_17, .inr (8, [.null, .null, .int (nI 0), .int (nI 0), .int (nI 0), .int (nI 0), .int (nI 0), .int (nI 0), .int (nI 0), .int (nI 0)]))]) hD hS hA [9] rfl
  refine va_callv (va_runI (As := []) (rest := [.ref q_17, .ref h]) ⟨hx, hb, hml, hown, hts⟩ (c_differinit l dC dI cI cO H.size q_17) (cwI 0 hts ugX11_init_X1_init rfl rfl rfl (hts (.initialized RX1) (by decide +kernel)) (hts (.methodLink RX11 53 yX1_init) (by decide +kernel)) (hts (.instanceMethod yX1_init) (by decide +kernel)) rfl (by decide +kernel) ⟨(by first | exact Nat.le_of_ble_eq_true rfl | omega | (dsimp only [headSpec]; omega) | (simp only [headSpec]; omega) | omega), (by first | exact Nat.le_of_ble_eq_true rfl | omega | (dsimp only [headSpec]; omega) | (simp only [headSpec]; omega) | omega)⟩) ⟨fun a U g mk q => by obtain ⟨q0, q1, qP, qK, qD⟩ := q; exact ⟨q0, q1, qP, va_K.moved (u := U) (U := U.calling g mk a) (Vm.Alike.refl U.vm) qK, qD⟩, fun U hU hW => ⟨rfl, by rw [hU], by rw [hU]; exact hPc, va_K.moved hW.alike hK, hDc.weaken (fun _ _ _ _ => trivial)⟩⟩ rfl rfl hl.1 rfl (lv_room (Nat.le_of_ble_eq_true rfl)) dX11_init_109 ⟨(by first | exact Nat.le_of_ble_eq_true rfl | omega | (dsimp only [headSpec]; omega) | (simp only [headSpec]; omega) | omega), (by first | exact Nat.le_of_ble_eq_true rfl | omega | (dsimp only [headSpec]; omega) | (simp only [headSpec]; omega) | omega)⟩) hS (fun q _ h => hFc q h) hFc (fun u t H locs ht hvm hw hB hz1 hk1 hS => ?_)
  obtain ⟨hP1, hK1, hD1⟩ := hB
  rw [ht] at hP1
  obtain ⟨hP, hD⟩ := va_join (wr := [(h, .inr (18, [.ref q_1, .ref q_2, .ref q_3, .ref q_5, .ref q_6, .ref q_8, .ref q_10, .ref q_12, .null, .null, .null, .null, .null, .null, .null, .null, .null, .null, .int (nI 0)])), (q_1, .inr (6, [.int (nI 0), .ref z0, .int (nI 0)])), (q_3, .inr (13, [.ref a_4, .int (nI 0)])), wa a_4 cI 200 (fun _ => 0), (q_12, .inr (14, [.ref a_13, .ref a_14])), (a_13, .inr (13, [.ref a_15, .int (nI 0)])), wa a_15 cI 270 (fun _ => 0), (a_14, .inr (13, [.ref a_16, .int (nI 0)])), wa a_16 cI 270 (fun _ => 0)]) (w1 := []) hP hD [9] [0, 1, 2, 3, 4, 5, 6, 7, 8] rfl rfl (by decide) (by decide) hk1 hFc hP1 hD1
  have hP : va_P (dC, dI) vwCl [(h, .inr (18, [.ref q_1, .ref q_2, .ref q_3, .ref q_5, .ref q_6, .ref q_8, .ref q_10, .ref q_12, .null, .null, .null, .null, .null, .null, .null, .null, .null, .null, .int (nI 0)])), (q_1, .inr (6, [.int (nI 0), .ref z0, .int (nI 0)])), (q_3, .inr (13, [.ref a_4, .int (nI 0)])), wa a_4 cI 200 (fun _ => 0), (q_12, .inr (14, [.ref a_13, .ref a_14])), (a_13, .inr (13, [.ref a_15, .int (nI 0)])), wa a_15 cI 270 (fun _ => 0), (a_14, .inr (13, [.ref a_16, .int (nI 0)])), wa a_16 cI 270 (fun _ => 0)] H := hP
  have hD : va_D A [(h, .inr (18, [.ref q_1, .ref q_2, .ref q_3, .ref q_5, .ref q_6, .ref q_8, .ref q_10, .ref q_12, .null, .null, .null, .null, .null, .null, .null, .null, .null, .null, .int (nI 0)])), (q_1, .inr (6, [.int (nI 0), .ref z0, .int (nI 0)])), (q_3, .inr (13, [.ref a_4, .int (nI 0)])), wa a_4 cI 200 (fun _ => 0), (q_12, .inr (14, [.ref a_13, .ref a_14])), (a_13, .inr (13, [.ref a_15, .int (nI 0)])), wa a_15 cI 270 (fun _ => 0), (a_14, .inr (13, [.ref a_16, .int (nI 0)])), wa a_16 cI 270 (fun _ => 0)] := hD
  refine W.widen (k := 28) (n := 5682) (by first | exact Nat.le_of_ble_eq_true rfl | omega | (dsimp only [headSpec]; omega) | (simp only [headSpec]; omega) | omega) (by first | exact Nat.le_of_ble_eq_true rfl | omega | (dsimp only [headSpec]; omega) | (simp only [headSpec]; omega) | omega) ?_
  have hP : va_P (dC, dI) vwCl [(h, .inr (18, [.ref q_1, .ref q_2, .ref q_3, .ref q_5, .ref q_6, .ref q_8, .ref q_10, .ref q_12, .null, .null, .null, .null, .null, .null, .null, .null, .null, .null, .int (nI 0)])), (q_1, .inr (6, [.int (nI 0), .ref z0, .int (nI 0)])), (q_3, .inr (13, [.ref a_4, .int (nI 0)])), wa a_4 cI 200 (fun _ => 0), (q_12, .inr (14, [.ref a_13, .ref a_14])), (a_13, .inr (13, [.ref a_15, .int (nI 0)])), wa a_15 cI 270 (fun _ => 0), (a_14, .inr (13, [.ref a_16, .int (nI 0)])), wa a_16 cI 270 (fun _ => 0)] H := hP.sub [0, 1, 2, 3, 4, 5, 6, 7, 8] rfl
  have hD : va_D A [(h, .inr (18, [.ref q_1, .ref q_2, .ref q_3, .ref q_5, .ref q_6, .ref q_8, .ref q_10, .ref q_12, .null, .null, .null, .null, .null, .null, .null, .null, .null, .null, .int (nI 0)])), (q_1, .inr (6, [.int (nI 0), .ref z0, .int (nI 0)])), (q_3, .inr (13, [.ref a_4, .int (nI 0)])), wa a_4 cI 200 (fun _ => 0), (q_12, .inr (14, [.ref a_13, .ref a_14])), (a_13, .inr (13, [.ref a_15, .int (nI 0)])), wa a_15 cI 270 (fun _ => 0), (a_14, .inr (13, [.ref a_16, .int (nI 0)])), wa a_16 cI 270 (fun _ => 0)] := hD.sub [0, 1, 2, 3, 4, 5, 6, 7, 8] (by decide) rfl
  refine va_putF (D := (dC, dI)) (ci := 18) (v := .ref q_17) (ty := .object "Patchferry$Differ") (C := RX11) (T := TX11) (N := 19) hx hb hts inX11_init_RX11 tyX11 tyX11_ok nmX11 hown hK hP hD hS 0 rfl rfl 8 (by decide) (hts (.fieldLink RX11 54 "Patchferry" "differ" "LPatchferry$Differ;") (by decide +kernel)) (fun _ h9 => h9) rfl hin rfl (by decide +kernel) rfl rfl (Nat.le_of_ble_eq_true rfl) dX11_init_112 (fun H locs hP hD hS => ?_)
  have hP : va_P (dC, dI) vwCl [(h, .inr (18, [.ref q_1, .ref q_2, .ref q_3, .ref q_5, .ref q_6, .ref q_8, .ref q_10, .ref q_12, .ref q_17, .null, .null, .null, .null, .null, .null, .null, .null, .null, .int (nI 0)])), (q_1, .inr (6, [.int (nI 0), .ref z0, .int (nI 0)])), (q_3, .inr (13, [.ref a_4, .int (nI 0)])), wa a_4 cI 200 (fun _ => 0), (q_12, .inr (14, [.ref a_13, .ref a_14])), (a_13, .inr (13, [.ref a_15, .int (nI 0)])), wa a_15 cI 270 (fun _ => 0), (a_14, .inr (13, [.ref a_16, .int (nI 0)])), wa a_16 cI 270 (fun _ => 0)] H := hP
  have hD : va_D A [(h, .inr (18, [.ref q_1, .ref q_2, .ref q_3, .ref q_5, .ref q_6, .ref q_8, .ref q_10, .ref q_12, .ref q_17, .null, .null, .null, .null, .null, .null, .null, .null, .null, .int (nI 0)])), (q_1, .inr (6, [.int (nI 0), .ref z0, .int (nI 0)])), (q_3, .inr (13, [.ref a_4, .int (nI 0)])), wa a_4 cI 200 (fun _ => 0), (q_12, .inr (14, [.ref a_13, .ref a_14])), (a_13, .inr (13, [.ref a_15, .int (nI 0)])), wa a_15 cI 270 (fun _ => 0), (a_14, .inr (13, [.ref a_16, .int (nI 0)])), wa a_16 cI 270 (fun _ => 0)] := hD
  refine lv_aload_n hx hb dX11_init_115 rfl (lv_at hl 0 rfl) ?_
  refine va_new (ci := 11) (fs := [.null, .null, .null, .null]) (C := RX4) (T := TX4) (N := 4) hx hb hts inX11_init_RX4 tyX4 tyX4_ok hown (hts (.classLink RX11 58 RX4) (by decide +kernel)) (hts (.instantiable RX4 4) (by decide +kernel)) (hts (.initialized RX4) (by decide +kernel)) hK hP hD hS hA rfl (fun j hj => by rcases (show j = 0 ∨ j = 1 ∨ j = 2 ∨ j = 3 by omega) with rfl | rfl | rfl | rfl <;> rfl) (by first | exact Nat.le_of_ble_eq_true rfl | omega | (dsimp only [headSpec]; omega) | (simp only [headSpec]; omega) | omega) (by first | exact Nat.le_of_ble_eq_true rfl | omega | (dsimp only [headSpec]; omega) | (simp only [headSpec]; omega) | omega) dX11_init_116 (fun q_18 H hP hD hS => ?_)
  have hP : va_P (dC, dI) vwCl [(h, .inr (18, [.ref q_1, .ref q_2, .ref q_3, .ref q_5, .ref q_6, .ref q_8, .ref q_10, .ref q_12, .ref q_17, .null, .null, .null, .null, .null, .null, .null, .null, .null, .int (nI 0)])), (q_1, .inr (6, [.int (nI 0), .ref z0, .int (nI 0)])), (q_3, .inr (13, [.ref a_4, .int (nI 0)])), wa a_4 cI 200 (fun _ => 0), (q_12, .inr (14, [.ref a_13, .ref a_14])), (a_13, .inr (13, [.ref a_15, .int (nI 0)])), wa a_15 cI 270 (fun _ => 0), (a_14, .inr (13, [.ref a_16, .int (nI 0)])), wa a_16 cI 270 (fun _ => 0), (q_18, .inr (11, [.null, .null, .null, .null]))] H := hP
  have hD : va_D A [(h, .inr (18, [.ref q_1, .ref q_2, .ref q_3, .ref q_5, .ref q_6, .ref q_8, .ref q_10, .ref q_12, .ref q_17, .null, .null, .null, .null, .null, .null, .null, .null, .null, .int (nI 0)])), (q_1, .inr (6, [.int (nI 0), .ref z0, .int (nI 0)])), (q_3, .inr (13, [.ref a_4, .int (nI 0)])), wa a_4 cI 200 (fun _ => 0), (q_12, .inr (14, [.ref a_13, .ref a_14])), (a_13, .inr (13, [.ref a_15, .int (nI 0)])), wa a_15 cI 270 (fun _ => 0), (a_14, .inr (13, [.ref a_16, .int (nI 0)])), wa a_16 cI 270 (fun _ => 0), (q_18, .inr (11, [.null, .null, .null, .null]))] := hD
  refine W.widen (k := 29) (n := 5686) (by first | exact Nat.le_of_ble_eq_true rfl | omega | (dsimp only [headSpec]; omega) | (simp only [headSpec]; omega) | omega) (by first | exact Nat.le_of_ble_eq_true rfl | omega | (dsimp only [headSpec]; omega) | (simp only [headSpec]; omega) | omega) ?_
  refine lv_dup hx hb dX11_init_119 rfl ?_
  have hPc : va_P (dC, dI) vwCl [(q_18, .inr (11, [.null, .null, .null, .null]))] _ := hP.sub [9] rfl
  have hDc : va_D _ [(q_18, .inr (11, [.null, .null, .null, .null]))] := hD.sub [9] (by decide) rfl
  have hFc := va_free (wc := [(q_18, .inr (11, [.null, .null, .null, .null]))]) hD hS hA [9] rfl
  refine va_callv (va_runI (As := []) (rest := [.ref q_18, .ref h]) ⟨hx, hb, hml, hown, hts⟩ (c_patchinit l dC dI cI cO H.size q_18) (cwI 0 hts ugX11_init_X4_init rfl rfl rfl (hts (.initialized RX4) (by decide +kernel)) (hts (.methodLink RX11 60 yX4_init) (by decide +kernel)) (hts (.instanceMethod yX4_init) (by decide +kernel)) rfl (by decide +kernel) ⟨(by first | exact Nat.le_of_ble_eq_true rfl | omega | (dsimp only [headSpec]; omega) | (simp only [headSpec]; omega) | omega), (by first | exact Nat.le_of_ble_eq_true rfl | omega | (dsimp only [headSpec]; omega) | (simp only [headSpec]; omega) | omega)⟩) ⟨fun a U g mk q => by obtain ⟨q0, q1, qP, qK, qD⟩ := q; exact ⟨q0, q1, qP, va_K.moved (u := U) (U := U.calling g mk a) (Vm.Alike.refl U.vm) qK, qD⟩, fun U hU hW => ⟨rfl, by rw [hU], by rw [hU]; exact hPc, va_K.moved hW.alike hK, hDc.weaken (fun _ _ _ _ => trivial)⟩⟩ rfl rfl hl.1 rfl (lv_room (Nat.le_of_ble_eq_true rfl)) dX11_init_120 ⟨(by first | exact Nat.le_of_ble_eq_true rfl | omega | (dsimp only [headSpec]; omega) | (simp only [headSpec]; omega) | omega), (by first | exact Nat.le_of_ble_eq_true rfl | omega | (dsimp only [headSpec]; omega) | (simp only [headSpec]; omega) | omega)⟩) hS (fun q _ h => hFc q h) hFc (fun u t H locs ht hvm hw hB hz1 hk1 hS => ?_)
  obtain ⟨hP1, hK1, hD1⟩ := hB
  rw [ht] at hP1
  obtain ⟨hP, hD⟩ := va_join (wr := [(h, .inr (18, [.ref q_1, .ref q_2, .ref q_3, .ref q_5, .ref q_6, .ref q_8, .ref q_10, .ref q_12, .ref q_17, .null, .null, .null, .null, .null, .null, .null, .null, .null, .int (nI 0)])), (q_1, .inr (6, [.int (nI 0), .ref z0, .int (nI 0)])), (q_3, .inr (13, [.ref a_4, .int (nI 0)])), wa a_4 cI 200 (fun _ => 0), (q_12, .inr (14, [.ref a_13, .ref a_14])), (a_13, .inr (13, [.ref a_15, .int (nI 0)])), wa a_15 cI 270 (fun _ => 0), (a_14, .inr (13, [.ref a_16, .int (nI 0)])), wa a_16 cI 270 (fun _ => 0)]) (w1 := []) hP hD [9] [0, 1, 2, 3, 4, 5, 6, 7, 8] rfl rfl (by decide) (by decide) hk1 hFc hP1 hD1
  have hP : va_P (dC, dI) vwCl [(h, .inr (18, [.ref q_1, .ref q_2, .ref q_3, .ref q_5, .ref q_6, .ref q_8, .ref q_10, .ref q_12, .ref q_17, .null, .null, .null, .null, .null, .null, .null, .null, .null, .int (nI 0)])), (q_1, .inr (6, [.int (nI 0), .ref z0, .int (nI 0)])), (q_3, .inr (13, [.ref a_4, .int (nI 0)])), wa a_4 cI 200 (fun _ => 0), (q_12, .inr (14, [.ref a_13, .ref a_14])), (a_13, .inr (13, [.ref a_15, .int (nI 0)])), wa a_15 cI 270 (fun _ => 0), (a_14, .inr (13, [.ref a_16, .int (nI 0)])), wa a_16 cI 270 (fun _ => 0)] H := hP
  have hD : va_D A [(h, .inr (18, [.ref q_1, .ref q_2, .ref q_3, .ref q_5, .ref q_6, .ref q_8, .ref q_10, .ref q_12, .ref q_17, .null, .null, .null, .null, .null, .null, .null, .null, .null, .int (nI 0)])), (q_1, .inr (6, [.int (nI 0), .ref z0, .int (nI 0)])), (q_3, .inr (13, [.ref a_4, .int (nI 0)])), wa a_4 cI 200 (fun _ => 0), (q_12, .inr (14, [.ref a_13, .ref a_14])), (a_13, .inr (13, [.ref a_15, .int (nI 0)])), wa a_15 cI 270 (fun _ => 0), (a_14, .inr (13, [.ref a_16, .int (nI 0)])), wa a_16 cI 270 (fun _ => 0)] := hD
  refine W.widen (k := 37) (n := 6294) (by first | exact Nat.le_of_ble_eq_true rfl | omega | (dsimp only [headSpec]; omega) | (simp only [headSpec]; omega) | omega) (by first | exact Nat.le_of_ble_eq_true rfl | omega | (dsimp only [headSpec]; omega) | (simp only [headSpec]; omega) | omega) ?_
  have hP : va_P (dC, dI) vwCl [(h, .inr (18, [.ref q_1, .ref q_2, .ref q_3, .ref q_5, .ref q_6, .ref q_8, .ref q_10, .ref q_12, .ref q_17, .null, .null, .null, .null, .null, .null, .null, .null, .null, .int (nI 0)])), (q_1, .inr (6, [.int (nI 0), .ref z0, .int (nI 0)])), (q_3, .inr (13, [.ref a_4, .int (nI 0)])), wa a_4 cI 200 (fun _ => 0), (q_12, .inr (14, [.ref a_13, .ref a_14])), (a_13, .inr (13, [.ref a_15, .int (nI 0)])), wa a_15 cI 270 (fun _ => 0), (a_14, .inr (13, [.ref a_16, .int (nI 0)])), wa a_16 cI 270 (fun _ => 0)] H := hP.sub [0, 1, 2, 3, 4, 5, 6, 7, 8] rfl
  have hD : va_D A [(h, .inr (18, [.ref q_1, .ref q_2, .ref q_3, .ref q_5, .ref q_6, .ref q_8, .ref q_10, .ref q_12, .ref q_17, .null, .null, .null, .null, .null, .null, .null, .null, .null, .int (nI 0)])), (q_1, .inr (6, [.int (nI 0), .ref z0, .int (nI 0)])), (q_3, .inr (13, [.ref a_4, .int (nI 0)])), wa a_4 cI 200 (fun _ => 0), (q_12, .inr (14, [.ref a_13, .ref a_14])), (a_13, .inr (13, [.ref a_15, .int (nI 0)])), wa a_15 cI 270 (fun _ => 0), (a_14, .inr (13, [.ref a_16, .int (nI 0)])), wa a_16 cI 270 (fun _ => 0)] := hD.sub [0, 1, 2, 3, 4, 5, 6, 7, 8] (by decide) rfl
  refine va_putF (D := (dC, dI)) (ci := 18) (v := .ref q_18) (ty := .object "Patchferry$Patch") (C := RX11) (T := TX11) (N := 19) hx hb hts inX11_init_RX11 tyX11 tyX11_ok nmX11 hown hK hP hD hS 0 rfl rfl 9 (by decide) (hts (.fieldLink RX11 61 "Patchferry" "link" "LPatchferry$Patch;") (by decide +kernel)) (fun _ h9 => h9) rfl hin rfl (by decide +kernel) rfl rfl (Nat.le_of_ble_eq_true rfl) dX11_init_123 (fun H locs hP hD hS => ?_)
  have hP : va_P (dC, dI) vwCl [(h, .inr (18, [.ref q_1, .ref q_2, .ref q_3, .ref q_5, .ref q_6, .ref q_8, .ref q_10, .ref q_12, .ref q_17, .ref q_18, .null, .null, .null, .null, .null, .null, .null, .null, .int (nI 0)])), (q_1, .inr (6, [.int (nI 0), .ref z0, .int (nI 0)])), (q_3, .inr (13, [.ref a_4, .int (nI 0)])), wa a_4 cI 200 (fun _ => 0), (q_12, .inr (14, [.ref a_13, .ref a_14])), (a_13, .inr (13, [.ref a_15, .int (nI 0)])), wa a_15 cI 270 (fun _ => 0), (a_14, .inr (13, [.ref a_16, .int (nI 0)])), wa a_16 cI 270 (fun _ => 0)] H := hP
  have hD : va_D A [(h, .inr (18, [.ref q_1, .ref q_2, .ref q_3, .ref q_5, .ref q_6, .ref q_8, .ref q_10, .ref q_12, .ref q_17, .ref q_18, .null, .null, .null, .null, .null, .null, .null, .null, .int (nI 0)])), (q_1, .inr (6, [.int (nI 0), .ref z0, .int (nI 0)])), (q_3, .inr (13, [.ref a_4, .int (nI 0)])), wa a_4 cI 200 (fun _ => 0), (q_12, .inr (14, [.ref a_13, .ref a_14])), (a_13, .inr (13, [.ref a_15, .int (nI 0)])), wa a_15 cI 270 (fun _ => 0), (a_14, .inr (13, [.ref a_16, .int (nI 0)])), wa a_16 cI 270 (fun _ => 0)] := hD
  refine lv_aload_n hx hb dX11_init_126 rfl (lv_at hl 0 rfl) ?_
  refine va_new (ci := 10) (fs := [.null, .null, .null, .null]) (C := RX3) (T := TX3) (N := 4) hx hb hts inX11_init_RX3 tyX3 tyX3_ok hown (hts (.classLink RX11 65 RX3) (by decide +kernel)) (hts (.instantiable RX3 4) (by decide +kernel)) (hts (.initialized RX3) (by decide +kernel)) hK hP hD hS hA rfl (fun j hj => by rcases (show j = 0 ∨ j = 1 ∨ j = 2 ∨ j = 3 by omega) with rfl | rfl | rfl | rfl <;> rfl) (by first | exact Nat.le_of_ble_eq_true rfl | omega | (dsimp only [headSpec]; omega) | (simp only [headSpec]; omega) | omega) (by first | exact Nat.le_of_ble_eq_true rfl | omega | (dsimp only [headSpec]; omega) | (simp only [headSpec]; omega) | omega) dX11_init_127 (fun q_19 H hP hD hS => ?_)
  have hP : va_P (dC, dI) vwCl [(h, .inr (18, [.ref q_1, .ref q_2, .ref q_3, .ref q_5, .ref q_6, .ref q_8, .ref q_10, .ref q_12, .ref q_17, .ref q_18, .null, .null, .null, .null, .null, .null, .null, .null, .int (nI 0)])), (q_1, .inr (6, [.int (nI 0), .ref z0, .int (nI 0)])), (q_3, .inr (13, [.ref a_4, .int (nI 0)])), wa a_4 cI 200 (fun _ => 0), (q_12, .inr (14, [.ref a_13, .ref a_14])), (a_13, .inr (13, [.ref a_15, .int (nI 0)])), wa a_15 cI 270 (fun _ => 0), (a_14, .inr (13, [.ref a_16, .int (nI 0)])), wa a_16 cI 270 (fun _ => 0), (q_19, .inr (10, [.null, .null, .null, .null]))] H := hP
  have hD : va_D A [(h, .inr (18, [.ref q_1, .ref q_2, .ref q_3, .ref q_5, .ref q_6, .ref q_8, .ref q_10, .ref q_12, .ref q_17, .ref q_18, .null, .null, .null, .null, .null, .null, .null, .null, .int (nI 0)])), (q_1, .inr (6, [.int (nI 0), .ref z0, .int (nI 0)])), (q_3, .inr (13, [.ref a_4, .int (nI 0)])), wa a_4 cI 200 (fun _ => 0), (q_12, .inr (14, [.ref a_13, .ref a_14])), (a_13, .inr (13, [.ref a_15, .int (nI 0)])), wa a_15 cI 270 (fun _ => 0), (a_14, .inr (13, [.ref a_16, .int (nI 0)])), wa a_16 cI 270 (fun _ => 0), (q_19, .inr (10, [.null, .null, .null, .null]))] := hD
  refine W.widen (k := 38) (n := 6298) (by first | exact Nat.le_of_ble_eq_true rfl | omega | (dsimp only [headSpec]; omega) | (simp only [headSpec]; omega) | omega) (by first | exact Nat.le_of_ble_eq_true rfl | omega | (dsimp only [headSpec]; omega) | (simp only [headSpec]; omega) | omega) ?_
  refine lv_dup hx hb dX11_init_130 rfl ?_
  have hPc : va_P (dC, dI) vwCl [(q_19, .inr (10, [.null, .null, .null, .null]))] _ := hP.sub [9] rfl
  have hDc : va_D _ [(q_19, .inr (10, [.null, .null, .null, .null]))] := hD.sub [9] (by decide) rfl
  have hFc := va_free (wc := [(q_19, .inr (10, [.null, .null, .null, .null]))]) hD hS hA [9] rfl
  refine va_callv (va_runI (As := []) (rest := [.ref q_19, .ref h]) ⟨hx, hb, hml, hown, hts⟩ (c_editsinit l dC dI cI cO H.size q_19) (cwI 0 hts ugX11_init_X3_init rfl rfl rfl (hts (.initialized RX3) (by decide +kernel)) (hts (.methodLink RX11 67 yX3_init) (by decide +kernel)) (hts (.instanceMethod yX3_init) (by decide +kernel)) rfl (by decide +kernel) ⟨(by first | exact Nat.le_of_ble_eq_true rfl | omega | (dsimp only [headSpec]; omega) | (simp only [headSpec]; omega) | omega), (by first | exact Nat.le_of_ble_eq_true rfl | omega | (dsimp only [headSpec]; omega) | (simp only [headSpec]; omega) | omega)⟩) ⟨fun a U g mk q => by obtain ⟨q0, q1, qP, qK, qD⟩ := q; exact ⟨q0, q1, qP, va_K.moved (u := U) (U := U.calling g mk a) (Vm.Alike.refl U.vm) qK, qD⟩, fun U hU hW => ⟨rfl, by rw [hU], by rw [hU]; exact hPc, va_K.moved hW.alike hK, hDc.weaken (fun _ _ _ _ => trivial)⟩⟩ rfl rfl hl.1 rfl (lv_room (Nat.le_of_ble_eq_true rfl)) dX11_init_131 ⟨(by first | exact Nat.le_of_ble_eq_true rfl | omega | (dsimp only [headSpec]; omega) | (simp only [headSpec]; omega) | omega), (by first | exact Nat.le_of_ble_eq_true rfl | omega | (dsimp only [headSpec]; omega) | (simp only [headSpec]; omega) | omega)⟩) hS (fun q _ h => hFc q h) hFc (fun u t H locs ht hvm hw hB hz1 hk1 hS => ?_)
  obtain ⟨hP1, hK1, hD1⟩ := hB
  rw [ht] at hP1
  obtain ⟨hP, hD⟩ := va_join (wr := [(h, .inr (18, [.ref q_1, .ref q_2, .ref q_3, .ref q_5, .ref q_6, .ref q_8, .ref q_10, .ref q_12, .ref q_17, .ref q_18, .null, .null, .null, .null, .null, .null, .null, .null, .int (nI 0)])), (q_1, .inr (6, [.int (nI 0), .ref z0, .int (nI 0)])), (q_3, .inr (13, [.ref a_4, .int (nI 0)])), wa a_4 cI 200 (fun _ => 0), (q_12, .inr (14, [.ref a_13, .ref a_14])), (a_13, .inr (13, [.ref a_15, .int (nI 0)])), wa a_15 cI 270 (fun _ => 0), (a_14, .inr (13, [.ref a_16, .int (nI 0)])), wa a_16 cI 270 (fun _ => 0)]) (w1 := []) hP hD [9] [0, 1, 2, 3, 4, 5, 6, 7, 8] rfl rfl (by decide) (by decide) hk1 hFc hP1 hD1
  have hP : va_P (dC, dI) vwCl [(h, .inr (18, [.ref q_1, .ref q_2, .ref q_3, .ref q_5, .ref q_6, .ref q_8, .ref q_10, .ref q_12, .ref q_17, .ref q_18, .null, .null, .null, .null, .null, .null, .null, .null, .int (nI 0)])), (q_1, .inr (6, [.int (nI 0), .ref z0, .int (nI 0)])), (q_3, .inr (13, [.ref a_4, .int (nI 0)])), wa a_4 cI 200 (fun _ => 0), (q_12, .inr (14, [.ref a_13, .ref a_14])), (a_13, .inr (13, [.ref a_15, .int (nI 0)])), wa a_15 cI 270 (fun _ => 0), (a_14, .inr (13, [.ref a_16, .int (nI 0)])), wa a_16 cI 270 (fun _ => 0)] H := hP
  have hD : va_D A [(h, .inr (18, [.ref q_1, .ref q_2, .ref q_3, .ref q_5, .ref q_6, .ref q_8, .ref q_10, .ref q_12, .ref q_17, .ref q_18, .null, .null, .null, .null, .null, .null, .null, .null, .int (nI 0)])), (q_1, .inr (6, [.int (nI 0), .ref z0, .int (nI 0)])), (q_3, .inr (13, [.ref a_4, .int (nI 0)])), wa a_4 cI 200 (fun _ => 0), (q_12, .inr (14, [.ref a_13, .ref a_14])), (a_13, .inr (13, [.ref a_15, .int (nI 0)])), wa a_15 cI 270 (fun _ => 0), (a_14, .inr (13, [.ref a_16, .int (nI 0)])), wa a_16 cI 270 (fun _ => 0)] := hD
  refine W.widen (k := 46) (n := 7712) (by first | exact Nat.le_of_ble_eq_true rfl | omega | (dsimp only [headSpec]; omega) | (simp only [headSpec]; omega) | omega) (by first | exact Nat.le_of_ble_eq_true rfl | omega | (dsimp only [headSpec]; omega) | (simp only [headSpec]; omega) | omega) ?_
  have hP : va_P (dC, dI) vwCl [(h, .inr (18, [.ref q_1, .ref q_2, .ref q_3, .ref q_5, .ref q_6, .ref q_8, .ref q_10, .ref q_12, .ref q_17, .ref q_18, .null, .null, .null, .null, .null, .null, .null, .null, .int (nI 0)])), (q_1, .inr (6, [.int (nI 0), .ref z0, .int (nI 0)])), (q_3, .inr (13, [.ref a_4, .int (nI 0)])), wa a_4 cI 200 (fun _ => 0), (q_12, .inr (14, [.ref a_13, .ref a_14])), (a_13, .inr (13, [.ref a_15, .int (nI 0)])), wa a_15 cI 270 (fun _ => 0), (a_14, .inr (13, [.ref a_16, .int (nI 0)])), wa a_16 cI 270 (fun _ => 0)] H := hP.sub [0, 1, 2, 3, 4, 5, 6, 7, 8] rfl
  have hD : va_D A [(h, .inr (18, [.ref q_1, .ref q_2, .ref q_3, .ref q_5, .ref q_6, .ref q_8, .ref q_10, .ref q_12, .ref q_17, .ref q_18, .null, .null, .null, .null, .null, .null, .null, .null, .int (nI 0)])), (q_1, .inr (6, [.int (nI 0), .ref z0, .int (nI 0)])), (q_3, .inr (13, [.ref a_4, .int (nI 0)])), wa a_4 cI 200 (fun _ => 0), (q_12, .inr (14, [.ref a_13, .ref a_14])), (a_13, .inr (13, [.ref a_15, .int (nI 0)])), wa a_15 cI 270 (fun _ => 0), (a_14, .inr (13, [.ref a_16, .int (nI 0)])), wa a_16 cI 270 (fun _ => 0)] := hD.sub [0, 1, 2, 3, 4, 5, 6, 7, 8] (by decide) rfl
  refine va_putF (D := (dC, dI)) (ci := 18) (v := .ref q_19) (ty := .object "Patchferry$Edits") (C := RX11) (T := TX11) (N := 19) hx hb hts inX11_init_RX11 tyX11 tyX11_ok nmX11 hown hK hP hD hS 0 rfl rfl 10 (by decide) (hts (.fieldLink RX11 68 "Patchferry" "mine" "LPatchferry$Edits;") (by decide +kernel)) (fun _ h9 => h9) rfl hin rfl (by decide +kernel) rfl rfl (Nat.le_of_ble_eq_true rfl) dX11_init_134 (fun H locs hP hD hS => ?_)
  have hP : va_P (dC, dI) vwCl [(h, .inr (18, [.ref q_1, .ref q_2, .ref q_3, .ref q_5, .ref q_6, .ref q_8, .ref q_10, .ref q_12, .ref q_17, .ref q_18, .ref q_19, .null, .null, .null, .null, .null, .null, .null, .int (nI 0)])), (q_1, .inr (6, [.int (nI 0), .ref z0, .int (nI 0)])), (q_3, .inr (13, [.ref a_4, .int (nI 0)])), wa a_4 cI 200 (fun _ => 0), (q_12, .inr (14, [.ref a_13, .ref a_14])), (a_13, .inr (13, [.ref a_15, .int (nI 0)])), wa a_15 cI 270 (fun _ => 0), (a_14, .inr (13, [.ref a_16, .int (nI 0)])), wa a_16 cI 270 (fun _ => 0)] H := hP
  have hD : va_D A [(h, .inr (18, [.ref q_1, .ref q_2, .ref q_3, .ref q_5, .ref q_6, .ref q_8, .ref q_10, .ref q_12, .ref q_17, .ref q_18, .ref q_19, .null, .null, .null, .null, .null, .null, .null, .int (nI 0)])), (q_1, .inr (6, [.int (nI 0), .ref z0, .int (nI 0)])), (q_3, .inr (13, [.ref a_4, .int (nI 0)])), wa a_4 cI 200 (fun _ => 0), (q_12, .inr (14, [.ref a_13, .ref a_14])), (a_13, .inr (13, [.ref a_15, .int (nI 0)])), wa a_15 cI 270 (fun _ => 0), (a_14, .inr (13, [.ref a_16, .int (nI 0)])), wa a_16 cI 270 (fun _ => 0)] := hD
  refine lv_aload_n hx hb dX11_init_137 rfl (lv_at hl 0 rfl) ?_
  refine va_new (ci := 10) (fs := [.null, .null, .null, .null]) (C := RX3) (T := TX3) (N := 4) hx hb hts inX11_init_RX3 tyX3 tyX3_ok hown (hts (.classLink RX11 65 RX3) (by decide +kernel)) (hts (.instantiable RX3 4) (by decide +kernel)) (hts (.initialized RX3) (by decide +kernel)) hK hP hD hS hA rfl (fun j hj => by rcases (show j = 0 ∨ j = 1 ∨ j = 2 ∨ j = 3 by omega) with rfl | rfl | rfl | rfl <;> rfl) (by first | exact Nat.le_of_ble_eq_true rfl | omega | (dsimp only [headSpec]; omega) | (simp only [headSpec]; omega) | omega) (by first | exact Nat.le_of_ble_eq_true rfl | omega | (dsimp only [headSpec]; omega) | (simp only [headSpec]; omega) | omega) dX11_init_138 (fun q_20 H hP hD hS => ?_)
  have hP : va_P (dC, dI) vwCl [(h, .inr (18, [.ref q_1, .ref q_2, .ref q_3, .ref q_5, .ref q_6, .ref q_8, .ref q_10, .ref q_12, .ref q_17, .ref q_18, .ref q_19, .null, .null, .null, .null, .null, .null, .null, .int (nI 0)])), (q_1, .inr (6, [.int (nI 0), .ref z0, .int (nI 0)])), (q_3, .inr (13, [.ref a_4, .int (nI 0)])), wa a_4 cI 200 (fun _ => 0), (q_12, .inr (14, [.ref a_13, .ref a_14])), (a_13, .inr (13, [.ref a_15, .int (nI 0)])), wa a_15 cI 270 (fun _ => 0), (a_14, .inr (13, [.ref a_16, .int (nI 0)])), wa a_16 cI 270 (fun _ => 0), (q_20, .inr (10, [.null, .null, .null, .null]))] H := hP
  have hD : va_D A [(h, .inr (18, [.ref q_1, .ref q_2, .ref q_3, .ref q_5, .ref q_6, .ref q_8, .ref q_10, .ref q_12, .ref q_17, .ref q_18, .ref q_19, .null, .null, .null, .null, .null, .null, .null, .int (nI 0)])), (q_1, .inr (6, [.int (nI 0), .ref z0, .int (nI 0)])), (q_3, .inr (13, [.ref a_4, .int (nI 0)])), wa a_4 cI 200 (fun _ => 0), (q_12, .inr (14, [.ref a_13, .ref a_14])), (a_13, .inr (13, [.ref a_15, .int (nI 0)])), wa a_15 cI 270 (fun _ => 0), (a_14, .inr (13, [.ref a_16, .int (nI 0)])), wa a_16 cI 270 (fun _ => 0), (q_20, .inr (10, [.null, .null, .null, .null]))] := hD
  refine W.widen (k := 47) (n := 7716) (by first | exact Nat.le_of_ble_eq_true rfl | omega | (dsimp only [headSpec]; omega) | (simp only [headSpec]; omega) | omega) (by first | exact Nat.le_of_ble_eq_true rfl | omega | (dsimp only [headSpec]; omega) | (simp only [headSpec]; omega) | omega) ?_
  refine lv_dup hx hb dX11_init_141 rfl ?_
  have hPc : va_P (dC, dI) vwCl [(q_20, .inr (10, [.null, .null, .null, .null]))] _ := hP.sub [9] rfl
  have hDc : va_D _ [(q_20, .inr (10, [.null, .null, .null, .null]))] := hD.sub [9] (by decide) rfl
  have hFc := va_free (wc := [(q_20, .inr (10, [.null, .null, .null, .null]))]) hD hS hA [9] rfl
  refine va_callv (va_runI (As := []) (rest := [.ref q_20, .ref h]) ⟨hx, hb, hml, hown, hts⟩ (c_editsinit l dC dI cI cO H.size q_20) (cwI 0 hts ugX11_init_X3_init rfl rfl rfl (hts (.initialized RX3) (by decide +kernel)) (hts (.methodLink RX11 67 yX3_init) (by decide +kernel)) (hts (.instanceMethod yX3_init) (by decide +kernel)) rfl (by decide +kernel) ⟨(by first | exact Nat.le_of_ble_eq_true rfl | omega | (dsimp only [headSpec]; omega) | (simp only [headSpec]; omega) | omega), (by first | exact Nat.le_of_ble_eq_true rfl | omega | (dsimp only [headSpec]; omega) | (simp only [headSpec]; omega) | omega)⟩) ⟨fun a U g mk q => by obtain ⟨q0, q1, qP, qK, qD⟩ := q; exact ⟨q0, q1, qP, va_K.moved (u := U) (U := U.calling g mk a) (Vm.Alike.refl U.vm) qK, qD⟩, fun U hU hW => ⟨rfl, by rw [hU], by rw [hU]; exact hPc, va_K.moved hW.alike hK, hDc.weaken (fun _ _ _ _ => trivial)⟩⟩ rfl rfl hl.1 rfl (lv_room (Nat.le_of_ble_eq_true rfl)) dX11_init_142 ⟨(by first | exact Nat.le_of_ble_eq_true rfl | omega | (dsimp only [headSpec]; omega) | (simp only [headSpec]; omega) | omega), (by first | exact Nat.le_of_ble_eq_true rfl | omega | (dsimp only [headSpec]; omega) | (simp only [headSpec]; omega) | omega)⟩) hS (fun q _ h => hFc q h) hFc (fun u t H locs ht hvm hw hB hz1 hk1 hS => ?_)
  obtain ⟨hP1, hK1, hD1⟩ := hB
  rw [ht] at hP1
  obtain ⟨hP, hD⟩ := va_join (wr := [(h, .inr (18, [.ref q_1, .ref q_2, .ref q_3, .ref q_5, .ref q_6, .ref q_8, .ref q_10, .ref q_12, .ref q_17, .ref q_18, .ref q_19, .null, .null, .null, .null, .null, .null, .null, .int (nI 0)])), (q_1, .inr (6, [.int (nI 0), .ref z0, .int (nI 0)])), (q_3, .inr (13, [.ref a_4, .int (nI 0)])), wa a_4 cI 200 (fun _ => 0), (q_12, .inr (14, [.ref a_13, .ref a_14])), (a_13, .inr (13, [.ref a_15, .int (nI 0)])), wa a_15 cI 270 (fun _ => 0), (a_14, .inr (13, [.ref a_16, .int (nI 0)])), wa a_16 cI 270 (fun _ => 0)]) (w1 := []) hP hD [9] [0, 1, 2, 3, 4, 5, 6, 7, 8] rfl rfl (by decide) (by decide) hk1 hFc hP1 hD1
  have hP : va_P (dC, dI) vwCl [(h, .inr (18, [.ref q_1, .ref q_2, .ref q_3, .ref q_5, .ref q_6, .ref q_8, .ref q_10, .ref q_12, .ref q_17, .ref q_18, .ref q_19, .null, .null, .null, .null, .null, .null, .null, .int (nI 0)])), (q_1, .inr (6, [.int (nI 0), .ref z0, .int (nI 0)])), (q_3, .inr (13, [.ref a_4, .int (nI 0)])), wa a_4 cI 200 (fun _ => 0), (q_12, .inr (14, [.ref a_13, .ref a_14])), (a_13, .inr (13, [.ref a_15, .int (nI 0)])), wa a_15 cI 270 (fun _ => 0), (a_14, .inr (13, [.ref a_16, .int (nI 0)])), wa a_16 cI 270 (fun _ => 0)] H := hP
  have hD : va_D A [(h, .inr (18, [.ref q_1, .ref q_2, .ref q_3, .ref q_5, .ref q_6, .ref q_8, .ref q_10, .ref q_12, .ref q_17, .ref q_18, .ref q_19, .null, .null, .null, .null, .null, .null, .null, .int (nI 0)])), (q_1, .inr (6, [.int (nI 0), .ref z0, .int (nI 0)])), (q_3, .inr (13, [.ref a_4, .int (nI 0)])), wa a_4 cI 200 (fun _ => 0), (q_12, .inr (14, [.ref a_13, .ref a_14])), (a_13, .inr (13, [.ref a_15, .int (nI 0)])), wa a_15 cI 270 (fun _ => 0), (a_14, .inr (13, [.ref a_16, .int (nI 0)])), wa a_16 cI 270 (fun _ => 0)] := hD
  refine W.widen (k := 55) (n := 9130) (by first | exact Nat.le_of_ble_eq_true rfl | omega | (dsimp only [headSpec]; omega) | (simp only [headSpec]; omega) | omega) (by first | exact Nat.le_of_ble_eq_true rfl | omega | (dsimp only [headSpec]; omega) | (simp only [headSpec]; omega) | omega) ?_
  have hP : va_P (dC, dI) vwCl [(h, .inr (18, [.ref q_1, .ref q_2, .ref q_3, .ref q_5, .ref q_6, .ref q_8, .ref q_10, .ref q_12, .ref q_17, .ref q_18, .ref q_19, .null, .null, .null, .null, .null, .null, .null, .int (nI 0)])), (q_1, .inr (6, [.int (nI 0), .ref z0, .int (nI 0)])), (q_3, .inr (13, [.ref a_4, .int (nI 0)])), wa a_4 cI 200 (fun _ => 0), (q_12, .inr (14, [.ref a_13, .ref a_14])), (a_13, .inr (13, [.ref a_15, .int (nI 0)])), wa a_15 cI 270 (fun _ => 0), (a_14, .inr (13, [.ref a_16, .int (nI 0)])), wa a_16 cI 270 (fun _ => 0)] H := hP.sub [0, 1, 2, 3, 4, 5, 6, 7, 8] rfl
  have hD : va_D A [(h, .inr (18, [.ref q_1, .ref q_2, .ref q_3, .ref q_5, .ref q_6, .ref q_8, .ref q_10, .ref q_12, .ref q_17, .ref q_18, .ref q_19, .null, .null, .null, .null, .null, .null, .null, .int (nI 0)])), (q_1, .inr (6, [.int (nI 0), .ref z0, .int (nI 0)])), (q_3, .inr (13, [.ref a_4, .int (nI 0)])), wa a_4 cI 200 (fun _ => 0), (q_12, .inr (14, [.ref a_13, .ref a_14])), (a_13, .inr (13, [.ref a_15, .int (nI 0)])), wa a_15 cI 270 (fun _ => 0), (a_14, .inr (13, [.ref a_16, .int (nI 0)])), wa a_16 cI 270 (fun _ => 0)] := hD.sub [0, 1, 2, 3, 4, 5, 6, 7, 8] (by decide) rfl
  refine va_putF (D := (dC, dI)) (ci := 18) (v := .ref q_20) (ty := .object "Patchferry$Edits") (C := RX11) (T := TX11) (N := 19) hx hb hts inX11_init_RX11 tyX11 tyX11_ok nmX11 hown hK hP hD hS 0 rfl rfl 11 (by decide) (hts (.fieldLink RX11 72 "Patchferry" "theirs" "LPatchferry$Edits;") (by decide +kernel)) (fun _ h9 => h9) rfl hin rfl (by decide +kernel) rfl rfl (Nat.le_of_ble_eq_true rfl) dX11_init_145 (fun H locs hP hD hS => ?_)
  have hP : va_P (dC, dI) vwCl [(h, .inr (18, [.ref q_1, .ref q_2, .ref q_3, .ref q_5, .ref q_6, .ref q_8, .ref q_10, .ref q_12, .ref q_17, .ref q_18, .ref q_19, .ref q_20, .null, .null, .null, .null, .null, .null, .int (nI 0)])), (q_1, .inr (6, [.int (nI 0), .ref z0, .int (nI 0)])), (q_3, .inr (13, [.ref a_4, .int (nI 0)])), wa a_4 cI 200 (fun _ => 0), (q_12, .inr (14, [.ref a_13, .ref a_14])), (a_13, .inr (13, [.ref a_15, .int (nI 0)])), wa a_15 cI 270 (fun _ => 0), (a_14, .inr (13, [.ref a_16, .int (nI 0)])), wa a_16 cI 270 (fun _ => 0)] H := hP
  have hD : va_D A [(h, .inr (18, [.ref q_1, .ref q_2, .ref q_3, .ref q_5, .ref q_6, .ref q_8, .ref q_10, .ref q_12, .ref q_17, .ref q_18, .ref q_19, .ref q_20, .null, .null, .null, .null, .null, .null, .int (nI 0)])), (q_1, .inr (6, [.int (nI 0), .ref z0, .int (nI 0)])), (q_3, .inr (13, [.ref a_4, .int (nI 0)])), wa a_4 cI 200 (fun _ => 0), (q_12, .inr (14, [.ref a_13, .ref a_14])), (a_13, .inr (13, [.ref a_15, .int (nI 0)])), wa a_15 cI 270 (fun _ => 0), (a_14, .inr (13, [.ref a_16, .int (nI 0)])), wa a_16 cI 270 (fun _ => 0)] := hD
  refine lv_aload_n hx hb dX11_init_148 rfl (lv_at hl 0 rfl) ?_
  refine va_new (ci := 15) (fs := [.null, .null, .null, .null, .null, .null, .null, .null, .null, .null, .null, .null, .null, .null]) (C := RX8) (T := TX8) (N := 14) hx hb hts inX11_init_RX8 tyX8 tyX8_ok hown (hts (.classLink RX11 75 RX8) (by decide +kernel)) (hts (.instantiable RX8 14) (by decide +kernel)) (hts (.initialized RX8) (by decide +kernel)) hK hP hD hS hA rfl (fun j hj => by rcases (show j = 0 ∨ j = 1 ∨ j = 2 ∨ j = 3 ∨ j = 4 ∨ j = 5 ∨ j = 6 ∨ j = 7 ∨ j = 8 ∨ j = 9 ∨ j = 10 ∨ j = 11 ∨ j = 12 ∨ j = 13 by omega) with rfl | rfl | rfl | rfl | rfl | rfl | rfl | rfl | rfl | rfl | rfl | rfl | rfl | rfl <;> rfl) (by first | exact Nat.le_of_ble_eq_true rfl | omega | (dsimp only [headSpec]; omega) | (simp only [headSpec]; omega) | omega) (by first | exact Nat.le_of_ble_eq_true rfl | omega | (dsimp only [headSpec]; omega) | (simp only [headSpec]; omega) | omega) dX11_init_149 (fun q_21 H hP hD hS => ?_)
  have hP : va_P (dC, dI) vwCl [(h, .inr (18, [.ref q_1, .ref q_2, .ref q_3, .ref q_5, .ref q_6, .ref q_8, .ref q_10, .ref q_12, .ref q_17, .ref q_18, .ref q_19, .ref q_20, .null, .null, .null, .null, .null, .null, .int (nI 0)])), (q_1, .inr (6, [.int (nI 0), .ref z0, .int (nI 0)])), (q_3, .inr (13, [.ref a_4, .int (nI 0)])), wa a_4 cI 200 (fun _ => 0), (q_12, .inr (14, [.ref a_13, .ref a_14])), (a_13, .inr (13, [.ref a_15, .int (nI 0)])), wa a_15 cI 270 (fun _ => 0), (a_14, .inr (13, [.ref a_16, .int (nI 0)])), wa a_16 cI 270 (fun _ => 0), (q_21, .inr (15, [.null, .null, .null, .null, .null, .null, .null, .null, .null, .null, .null, .null, .null, .null]))] H := hP
  have hD : va_D A [(h, .inr (18, [.ref q_1, .ref q_2, .ref q_3, .ref q_5, .ref q_6, .ref q_8, .ref q_10, .ref q_12, .ref q_17, .ref q_18, .ref q_19, .ref q_20, .null, .null, .null, .null, .null, .null, .int (nI 0)])), (q_1, .inr (6, [.int (nI 0), .ref z0, .int (nI 0)])), (q_3, .inr (13, [.ref a_4, .int (nI 0)])), wa a_4 cI 200 (fun _ => 0), (q_12, .inr (14, [.ref a_13, .ref a_14])), (a_13, .inr (13, [.ref a_15, .int (nI 0)])), wa a_15 cI 270 (fun _ => 0), (a_14, .inr (13, [.ref a_16, .int (nI 0)])), wa a_16 cI 270 (fun _ => 0), (q_21, .inr (15, [.null, .null, .null, .null, .null, .null, .null, .null, .null, .null, .null, .null, .null, .null]))] := hD
  refine W.widen (k := 56) (n := 9144) (by first | exact Nat.le_of_ble_eq_true rfl | omega | (dsimp only [headSpec]; omega) | (simp only [headSpec]; omega) | omega) (by first | exact Nat.le_of_ble_eq_true rfl | omega | (dsimp only [headSpec]; omega) | (simp only [headSpec]; omega) | omega) ?_
  refine lv_dup hx hb dX11_init_152 rfl ?_
  have hPc : va_P (dC, dI) vwCl [(q_21, .inr (15, [.null, .null, .null, .null, .null, .null, .null, .null, .null, .null, .null, .null, .null, .null]))] _ := hP.sub [9] rfl
  have hDc : va_D _ [(q_21, .inr (15, [.null, .null, .null, .null, .null, .null, .null, .null, .null, .null, .null, .null, .null, .null]))] := hD.sub [9] (by decide) rfl
  have hFc := va_free (wc := [(q_21, .inr (15, [.null, .null, .null, .null, .null, .null, .null, .null, .null, .null, .null, .null, .null, .null]))]) hD hS hA [9] rfl
  refine va_callv (va_runI (As := []) (rest := [.ref q_21, .ref h]) ⟨hx, hb, hml, hown, hts⟩ (c_storeinit l dC dI cI cO z0 H.size q_21) (cwI 0 hts ugX11_init_X8_init rfl rfl rfl (hts (.initialized RX8) (by decide +kernel)) (hts (.methodLink RX11 77 yX8_init) (by decide +kernel)) (hts (.instanceMethod yX8_init) (by decide +kernel)) rfl (by decide +kernel) ⟨(by first | exact Nat.le_of_ble_eq_true rfl | omega | (dsimp only [headSpec]; omega) | (simp only [headSpec]; omega) | omega), (by first | exact Nat.le_of_ble_eq_true rfl | omega | (dsimp only [headSpec]; omega) | (simp only [headSpec]; omega) | omega)⟩) ⟨fun a U g mk q => by obtain ⟨q0, q1, qP, qK, qD, qZ⟩ := q; exact ⟨q0, q1, qP, va_K.moved (u := U) (U := U.calling g mk a) (Vm.Alike.refl U.vm) qK, qD, qZ.moved (Vm.Alike.refl U.vm) rfl⟩, fun U hU hW => ⟨rfl, by rw [hU], by rw [hU]; exact hPc, va_K.moved hW.alike hK, hDc.weaken (fun _ _ _ _ => trivial), uz_call hZ hS hFc hU hW.alike⟩⟩ rfl rfl hl.1 rfl (lv_room (Nat.le_of_ble_eq_true rfl)) dX11_init_153 ⟨(by first | exact Nat.le_of_ble_eq_true rfl | omega | (dsimp only [headSpec]; omega) | (simp only [headSpec]; omega) | omega), (by first | exact Nat.le_of_ble_eq_true rfl | omega | (dsimp only [headSpec]; omega) | (simp only [headSpec]; omega) | omega)⟩) hS (fun q _ h => hFc q h) hFc (fun u t H locs ht hvm hw hB hz1 hk1 hS => ?_)
  obtain ⟨a_22, a_23, a_24, a_25, a_26, a_27, a_28, a_29, a_30, a_31, a_32, a_33, a_34, a_35, a_36, a_37, a_38, a_39, a_40, a_41, a_42, a_43, a_44, a_45, a_46, hP1, hK1, hD1⟩ := hB
  rw [ht] at hP1
  obtain ⟨hP, hD⟩ := va_join (wr := [(h, .inr (18, [.ref q_1, .ref q_2, .ref q_3, .ref q_5, .ref q_6, .ref q_8, .ref q_10, .ref q_12, .ref q_17, .ref q_18, .ref q_19, .ref q_20, .null, .null, .null, .null, .null, .null, .int (nI 0)])), (q_1, .inr (6, [.int (nI 0), .ref z0, .int (nI 0)])), (q_3, .inr (13, [.ref a_4, .int (nI 0)])), wa a_4 cI 200 (fun _ => 0), (q_12, .inr (14, [.ref a_13, .ref a_14])), (a_13, .inr (13, [.ref a_15, .int (nI 0)])), wa a_15 cI 270 (fun _ => 0), (a_14, .inr (13, [.ref a_16, .int (nI 0)])), wa a_16 cI 270 (fun _ => 0)]) (w1 := [(q_21, .inr (15, [.ref a_22, .ref a_23, .ref a_24, .ref a_25, .ref a_26, .ref a_27, .ref a_28, .ref a_29, .ref a_30, .ref a_31, .ref a_32, .ref a_33, .ref a_34, .ref a_35])), (a_22, .inr (6, [.int (nI 0), .ref z0, .int (nI 0)])), (a_23, .inr (6, [.int (nI 0), .ref z0, .int (nI 0)])), (a_24, .inr (13, [.ref a_36, .int (nI 0)])), wa a_36 cI 0 (fun _ => 0), (a_25, .inr (13, [.ref a_37, .int (nI 0)])), wa a_37 cI 1200 (fun _ => 0), (a_26, .inr (13, [.ref a_38, .int (nI 0)])), wa a_38 cI 1200 (fun _ => 0), (a_27, .inr (13, [.ref a_39, .int (nI 0)])), wa a_39 cI 1200 (fun _ => 0), (a_28, .inr (13, [.ref a_40, .int (nI 0)])), wa a_40 cI 1200 (fun _ => 0), (a_29, .inr (13, [.ref a_41, .int (nI 0)])), wa a_41 cI 1200 (fun _ => 0), (a_30, .inr (13, [.ref a_42, .int (nI 0)])), wa a_42 cI 1200 (fun _ => 0), (a_31, .inr (13, [.ref a_43, .int (nI 0)])), wa a_43 cI 24 (fun _ => 0), (a_32, .inr (13, [.ref a_44, .int (nI 0)])), wa a_44 cI 24 (fun _ => 0), (a_33, .inr (13, [.ref a_45, .int (nI 0)])), wa a_45 cI 200 (fun _ => 0), (a_34, .inr (13, [.ref a_46, .int (nI 0)])), wa a_46 cI 1200 (fun _ => 0)]) hP hD [9] [0, 1, 2, 3, 4, 5, 6, 7, 8] rfl rfl (by decide) (by decide) hk1 hFc hP1 hD1
  have hP : va_P (dC, dI) vwCl [(h, .inr (18, [.ref q_1, .ref q_2, .ref q_3, .ref q_5, .ref q_6, .ref q_8, .ref q_10, .ref q_12, .ref q_17, .ref q_18, .ref q_19, .ref q_20, .null, .null, .null, .null, .null, .null, .int (nI 0)])), (q_1, .inr (6, [.int (nI 0), .ref z0, .int (nI 0)])), (q_3, .inr (13, [.ref a_4, .int (nI 0)])), wa a_4 cI 200 (fun _ => 0), (q_12, .inr (14, [.ref a_13, .ref a_14])), (a_13, .inr (13, [.ref a_15, .int (nI 0)])), wa a_15 cI 270 (fun _ => 0), (a_14, .inr (13, [.ref a_16, .int (nI 0)])), wa a_16 cI 270 (fun _ => 0), (q_21, .inr (15, [.ref a_22, .ref a_23, .ref a_24, .ref a_25, .ref a_26, .ref a_27, .ref a_28, .ref a_29, .ref a_30, .ref a_31, .ref a_32, .ref a_33, .ref a_34, .ref a_35])), (a_22, .inr (6, [.int (nI 0), .ref z0, .int (nI 0)])), (a_23, .inr (6, [.int (nI 0), .ref z0, .int (nI 0)])), (a_24, .inr (13, [.ref a_36, .int (nI 0)])), wa a_36 cI 0 (fun _ => 0), (a_25, .inr (13, [.ref a_37, .int (nI 0)])), wa a_37 cI 1200 (fun _ => 0), (a_26, .inr (13, [.ref a_38, .int (nI 0)])), wa a_38 cI 1200 (fun _ => 0), (a_27, .inr (13, [.ref a_39, .int (nI 0)])), wa a_39 cI 1200 (fun _ => 0), (a_28, .inr (13, [.ref a_40, .int (nI 0)])), wa a_40 cI 1200 (fun _ => 0), (a_29, .inr (13, [.ref a_41, .int (nI 0)])), wa a_41 cI 1200 (fun _ => 0), (a_30, .inr (13, [.ref a_42, .int (nI 0)])), wa a_42 cI 1200 (fun _ => 0), (a_31, .inr (13, [.ref a_43, .int (nI 0)])), wa a_43 cI 24 (fun _ => 0), (a_32, .inr (13, [.ref a_44, .int (nI 0)])), wa a_44 cI 24 (fun _ => 0), (a_33, .inr (13, [.ref a_45, .int (nI 0)])), wa a_45 cI 200 (fun _ => 0), (a_34, .inr (13, [.ref a_46, .int (nI 0)])), wa a_46 cI 1200 (fun _ => 0)] H := hP
  have hD : va_D A [(h, .inr (18, [.ref q_1, .ref q_2, .ref q_3, .ref q_5, .ref q_6, .ref q_8, .ref q_10, .ref q_12, .ref q_17, .ref q_18, .ref q_19, .ref q_20, .null, .null, .null, .null, .null, .null, .int (nI 0)])), (q_1, .inr (6, [.int (nI 0), .ref z0, .int (nI 0)])), (q_3, .inr (13, [.ref a_4, .int (nI 0)])), wa a_4 cI 200 (fun _ => 0), (q_12, .inr (14, [.ref a_13, .ref a_14])), (a_13, .inr (13, [.ref a_15, .int (nI 0)])), wa a_15 cI 270 (fun _ => 0), (a_14, .inr (13, [.ref a_16, .int (nI 0)])), wa a_16 cI 270 (fun _ => 0), (q_21, .inr (15, [.ref a_22, .ref a_23, .ref a_24, .ref a_25, .ref a_26, .ref a_27, .ref a_28, .ref a_29, .ref a_30, .ref a_31, .ref a_32, .ref a_33, .ref a_34, .ref a_35])), (a_22, .inr (6, [.int (nI 0), .ref z0, .int (nI 0)])), (a_23, .inr (6, [.int (nI 0), .ref z0, .int (nI 0)])), (a_24, .inr (13, [.ref a_36, .int (nI 0)])), wa a_36 cI 0 (fun _ => 0), (a_25, .inr (13, [.ref a_37, .int (nI 0)])), wa a_37 cI 1200 (fun _ => 0), (a_26, .inr (13, [.ref a_38, .int (nI 0)])), wa a_38 cI 1200 (fun _ => 0), (a_27, .inr (13, [.ref a_39, .int (nI 0)])), wa a_39 cI 1200 (fun _ => 0), (a_28, .inr (13, [.ref a_40, .int (nI 0)])), wa a_40 cI 1200 (fun _ => 0), (a_29, .inr (13, [.ref a_41, .int (nI 0)])), wa a_41 cI 1200 (fun _ => 0), (a_30, .inr (13, [.ref a_42, .int (nI 0)])), wa a_42 cI 1200 (fun _ => 0), (a_31, .inr (13, [.ref a_43, .int (nI 0)])), wa a_43 cI 24 (fun _ => 0), (a_32, .inr (13, [.ref a_44, .int (nI 0)])), wa a_44 cI 24 (fun _ => 0), (a_33, .inr (13, [.ref a_45, .int (nI 0)])), wa a_45 cI 200 (fun _ => 0), (a_34, .inr (13, [.ref a_46, .int (nI 0)])), wa a_46 cI 1200 (fun _ => 0)] := hD
  refine W.widen (k := 82) (n := 18398) (by first | exact Nat.le_of_ble_eq_true rfl | omega | (dsimp only [headSpec]; omega) | (simp only [headSpec]; omega) | omega) (by first | exact Nat.le_of_ble_eq_true rfl | omega | (dsimp only [headSpec]; omega) | (simp only [headSpec]; omega) | omega) ?_
  refine va_putF (D := (dC, dI)) (ci := 18) (v := .ref q_21) (ty := .object "Patchferry$Store") (C := RX11) (T := TX11) (N := 19) hx hb hts inX11_init_RX11 tyX11 tyX11_ok nmX11 hown hK hP hD hS 0 rfl rfl 12 (by decide) (hts (.fieldLink RX11 78 "Patchferry" "shelf" "LPatchferry$Store;") (by decide +kernel)) (fun _ h9 => h9) rfl hin rfl (by decide +kernel) rfl rfl (Nat.le_of_ble_eq_true rfl) dX11_init_156 (fun H locs hP hD hS => ?_)
  have hP : va_P (dC, dI) vwCl [(h, .inr (18, [.ref q_1, .ref q_2, .ref q_3, .ref q_5, .ref q_6, .ref q_8, .ref q_10, .ref q_12, .ref q_17, .ref q_18, .ref q_19, .ref q_20, .ref q_21, .null, .null, .null, .null, .null, .int (nI 0)])), (q_1, .inr (6, [.int (nI 0), .ref z0, .int (nI 0)])), (q_3, .inr (13, [.ref a_4, .int (nI 0)])), wa a_4 cI 200 (fun _ => 0), (q_12, .inr (14, [.ref a_13, .ref a_14])), (a_13, .inr (13, [.ref a_15, .int (nI 0)])), wa a_15 cI 270 (fun _ => 0), (a_14, .inr (13, [.ref a_16, .int (nI 0)])), wa a_16 cI 270 (fun _ => 0), (q_21, .inr (15, [.ref a_22, .ref a_23, .ref a_24, .ref a_25, .ref a_26, .ref a_27, .ref a_28, .ref a_29, .ref a_30, .ref a_31, .ref a_32, .ref a_33, .ref a_34, .ref a_35])), (a_22, .inr (6, [.int (nI 0), .ref z0, .int (nI 0)])), (a_23, .inr (6, [.int (nI 0), .ref z0, .int (nI 0)])), (a_24, .inr (13, [.ref a_36, .int (nI 0)])), wa a_36 cI 0 (fun _ => 0), (a_25, .inr (13, [.ref a_37, .int (nI 0)])), wa a_37 cI 1200 (fun _ => 0), (a_26, .inr (13, [.ref a_38, .int (nI 0)])), wa a_38 cI 1200 (fun _ => 0), (a_27, .inr (13, [.ref a_39, .int (nI 0)])), wa a_39 cI 1200 (fun _ => 0), (a_28, .inr (13, [.ref a_40, .int (nI 0)])), wa a_40 cI 1200 (fun _ => 0), (a_29, .inr (13, [.ref a_41, .int (nI 0)])), wa a_41 cI 1200 (fun _ => 0), (a_30, .inr (13, [.ref a_42, .int (nI 0)])), wa a_42 cI 1200 (fun _ => 0), (a_31, .inr (13, [.ref a_43, .int (nI 0)])), wa a_43 cI 24 (fun _ => 0), (a_32, .inr (13, [.ref a_44, .int (nI 0)])), wa a_44 cI 24 (fun _ => 0), (a_33, .inr (13, [.ref a_45, .int (nI 0)])), wa a_45 cI 200 (fun _ => 0), (a_34, .inr (13, [.ref a_46, .int (nI 0)])), wa a_46 cI 1200 (fun _ => 0)] H := hP
  have hD : va_D A [(h, .inr (18, [.ref q_1, .ref q_2, .ref q_3, .ref q_5, .ref q_6, .ref q_8, .ref q_10, .ref q_12, .ref q_17, .ref q_18, .ref q_19, .ref q_20, .ref q_21, .null, .null, .null, .null, .null, .int (nI 0)])), (q_1, .inr (6, [.int (nI 0), .ref z0, .int (nI 0)])), (q_3, .inr (13, [.ref a_4, .int (nI 0)])), wa a_4 cI 200 (fun _ => 0), (q_12, .inr (14, [.ref a_13, .ref a_14])), (a_13, .inr (13, [.ref a_15, .int (nI 0)])), wa a_15 cI 270 (fun _ => 0), (a_14, .inr (13, [.ref a_16, .int (nI 0)])), wa a_16 cI 270 (fun _ => 0), (q_21, .inr (15, [.ref a_22, .ref a_23, .ref a_24, .ref a_25, .ref a_26, .ref a_27, .ref a_28, .ref a_29, .ref a_30, .ref a_31, .ref a_32, .ref a_33, .ref a_34, .ref a_35])), (a_22, .inr (6, [.int (nI 0), .ref z0, .int (nI 0)])), (a_23, .inr (6, [.int (nI 0), .ref z0, .int (nI 0)])), (a_24, .inr (13, [.ref a_36, .int (nI 0)])), wa a_36 cI 0 (fun _ => 0), (a_25, .inr (13, [.ref a_37, .int (nI 0)])), wa a_37 cI 1200 (fun _ => 0), (a_26, .inr (13, [.ref a_38, .int (nI 0)])), wa a_38 cI 1200 (fun _ => 0), (a_27, .inr (13, [.ref a_39, .int (nI 0)])), wa a_39 cI 1200 (fun _ => 0), (a_28, .inr (13, [.ref a_40, .int (nI 0)])), wa a_40 cI 1200 (fun _ => 0), (a_29, .inr (13, [.ref a_41, .int (nI 0)])), wa a_41 cI 1200 (fun _ => 0), (a_30, .inr (13, [.ref a_42, .int (nI 0)])), wa a_42 cI 1200 (fun _ => 0), (a_31, .inr (13, [.ref a_43, .int (nI 0)])), wa a_43 cI 24 (fun _ => 0), (a_32, .inr (13, [.ref a_44, .int (nI 0)])), wa a_44 cI 24 (fun _ => 0), (a_33, .inr (13, [.ref a_45, .int (nI 0)])), wa a_45 cI 200 (fun _ => 0), (a_34, .inr (13, [.ref a_46, .int (nI 0)])), wa a_46 cI 1200 (fun _ => 0)] := hD
  refine lv_aload_n hx hb dX11_init_159 rfl (lv_at hl 0 rfl) ?_
  refine va_new (ci := 7) (fs := [.null, .null, .int (nI 0), .int (nI 0), .int (nI 0)]) (C := RX0) (T := TX0) (N := 5) hx hb hts inX11_init_RX0 tyX0 tyX0_ok hown (hts (.classLink RX11 82 RX0) (by decide +kernel)) (hts (.instantiable RX0 5) (by decide +kernel)) (hts (.initialized RX0) (by decide +kernel)) hK hP hD hS hA rfl (fun j hj => by rcases (show j = 0 ∨ j = 1 ∨ j = 2 ∨ j = 3 ∨ j = 4 by omega) with rfl | rfl | rfl | rfl | rfl <;> rfl) (by first | exact Nat.le_of_ble_eq_true rfl | omega | (dsimp only [headSpec]; omega) | (simp only [headSpec]; omega) | omega) (by first | exact Nat.le_of_ble_eq_true rfl | omega | (dsimp only [headSpec]; omega) | (simp only [headSpec]; omega) | omega) dX11_init_160 (fun q_47 H hP hD hS => ?_)
  have hP : va_P (dC, dI) vwCl [(h, .inr (18, [.ref q_1, .ref q_2, .ref q_3, .ref q_5, .ref q_6, .ref q_8, .ref q_10, .ref q_12, .ref q_17, .ref q_18, .ref q_19, .ref q_20, .ref q_21, .null, .null, .null, .null, .null, .int (nI 0)])), (q_1, .inr (6, [.int (nI 0), .ref z0, .int (nI 0)])), (q_3, .inr (13, [.ref a_4, .int (nI 0)])), wa a_4 cI 200 (fun _ => 0), (q_12, .inr (14, [.ref a_13, .ref a_14])), (a_13, .inr (13, [.ref a_15, .int (nI 0)])), wa a_15 cI 270 (fun _ => 0), (a_14, .inr (13, [.ref a_16, .int (nI 0)])), wa a_16 cI 270 (fun _ => 0), (q_21, .inr (15, [.ref a_22, .ref a_23, .ref a_24, .ref a_25, .ref a_26, .ref a_27, .ref a_28, .ref a_29, .ref a_30, .ref a_31, .ref a_32, .ref a_33, .ref a_34, .ref a_35])), (a_22, .inr (6, [.int (nI 0), .ref z0, .int (nI 0)])), (a_23, .inr (6, [.int (nI 0), .ref z0, .int (nI 0)])), (a_24, .inr (13, [.ref a_36, .int (nI 0)])), wa a_36 cI 0 (fun _ => 0), (a_25, .inr (13, [.ref a_37, .int (nI 0)])), wa a_37 cI 1200 (fun _ => 0), (a_26, .inr (13, [.ref a_38, .int (nI 0)])), wa a_38 cI 1200 (fun _ => 0), (a_27, .inr (13, [.ref a_39, .int (nI 0)])), wa a_39 cI 1200 (fun _ => 0), (a_28, .inr (13, [.ref a_40, .int (nI 0)])), wa a_40 cI 1200 (fun _ => 0), (a_29, .inr (13, [.ref a_41, .int (nI 0)])), wa a_41 cI 1200 (fun _ => 0), (a_30, .inr (13, [.ref a_42, .int (nI 0)])), wa a_42 cI 1200 (fun _ => 0), (a_31, .inr (13, [.ref a_43, .int (nI 0)])), wa a_43 cI 24 (fun _ => 0), (a_32, .inr (13, [.ref a_44, .int (nI 0)])), wa a_44 cI 24 (fun _ => 0), (a_33, .inr (13, [.ref a_45, .int (nI 0)])), wa a_45 cI 200 (fun _ => 0), (a_34, .inr (13, [.ref a_46, .int (nI 0)])), wa a_46 cI 1200 (fun _ => 0), (q_47, .inr (7, [.null, .null, .int (nI 0), .int (nI 0), .int (nI 0)]))] H := hP
  have hD : va_D A [(h, .inr (18, [.ref q_1, .ref q_2, .ref q_3, .ref q_5, .ref q_6, .ref q_8, .ref q_10, .ref q_12, .ref q_17, .ref q_18, .ref q_19, .ref q_20, .ref q_21, .null, .null, .null, .null, .null, .int (nI 0)])), (q_1, .inr (6, [.int (nI 0), .ref z0, .int (nI 0)])), (q_3, .inr (13, [.ref a_4, .int (nI 0)])), wa a_4 cI 200 (fun _ => 0), (q_12, .inr (14, [.ref a_13, .ref a_14])), (a_13, .inr (13, [.ref a_15, .int (nI 0)])), wa a_15 cI 270 (fun _ => 0), (a_14, .inr (13, [.ref a_16, .int (nI 0)])), wa a_16 cI 270 (fun _ => 0), (q_21, .inr (15, [.ref a_22, .ref a_23, .ref a_24, .ref a_25, .ref a_26, .ref a_27, .ref a_28, .ref a_29, .ref a_30, .ref a_31, .ref a_32, .ref a_33, .ref a_34, .ref a_35])), (a_22, .inr (6, [.int (nI 0), .ref z0, .int (nI 0)])), (a_23, .inr (6, [.int (nI 0), .ref z0, .int (nI 0)])), (a_24, .inr (13, [.ref a_36, .int (nI 0)])), wa a_36 cI 0 (fun _ => 0), (a_25, .inr (13, [.ref a_37, .int (nI 0)])), wa a_37 cI 1200 (fun _ => 0), (a_26, .inr (13, [.ref a_38, .int (nI 0)])), wa a_38 cI 1200 (fun _ => 0), (a_27, .inr (13, [.ref a_39, .int (nI 0)])), wa a_39 cI 1200 (fun _ => 0), (a_28, .inr (13, [.ref a_40, .int (nI 0)])), wa a_40 cI 1200 (fun _ => 0), (a_29, .inr (13, [.ref a_41, .int (nI 0)])), wa a_41 cI 1200 (fun _ => 0), (a_30, .inr (13, [.ref a_42, .int (nI 0)])), wa a_42 cI 1200 (fun _ => 0), (a_31, .inr (13, [.ref a_43, .int (nI 0)])), wa a_43 cI 24 (fun _ => 0), (a_32, .inr (13, [.ref a_44, .int (nI 0)])), wa a_44 cI 24 (fun _ => 0), (a_33, .inr (13, [.ref a_45, .int (nI 0)])), wa a_45 cI 200 (fun _ => 0), (a_34, .inr (13, [.ref a_46, .int (nI 0)])), wa a_46 cI 1200 (fun _ => 0), (q_47, .inr (7, [.null, .null, .int (nI 0), .int (nI 0), .int (nI 0)]))] := hD
  refine W.widen (k := 83) (n := 18403) (by first | exact Nat.le_of_ble_eq_true rfl | omega | (dsimp only [headSpec]; omega) | (simp only [headSpec]; omega) | omega) (by first | exact Nat.le_of_ble_eq_true rfl | omega | (dsimp only [headSpec]; omega) | (simp only [headSpec]; omega) | omega) ?_
  refine lv_dup hx hb dX11_init_163 rfl ?_
  have hPc : va_P (dC, dI) vwCl [(q_47, .inr (7, [.null, .null, .int (nI 0), .int (nI 0), .int (nI 0)]))] _ := hP.sub [34] rfl
  have hDc : va_D _ [(q_47, .inr (7, [.null, .null, .int (nI 0), .int (nI 0), .int (nI 0)]))] := hD.sub [34] (by decide) rfl
  have hFc := va_free (wc := [(q_47, .inr (7, [.null, .null, .int (nI 0), .int (nI 0), .int (nI 0)]))]) hD hS hA [34] rfl
  refine va_callv (va_runI (As := []) (rest := [.ref q_47, .ref h]) ⟨hx, hb, hml, hown, hts⟩ (c_blocksinit l dC dI cI cO H.size q_47) (cwI 0 hts ugX11_init_X0_init rfl rfl rfl (hts (.initialized RX0) (by decide +kernel)) (hts (.methodLink RX11 84 yX0_init) (by decide +kernel)) (hts (.instanceMethod yX0_init) (by decide +kernel)) rfl (by decide +kernel) ⟨(by first | exact Nat.le_of_ble_eq_true rfl | omega | (dsimp only [headSpec]; omega) | (simp only [headSpec]; omega) | omega), (by first | exact Nat.le_of_ble_eq_true rfl | omega | (dsimp only [headSpec]; omega) | (simp only [headSpec]; omega) | omega)⟩) ⟨fun a U g mk q => by obtain ⟨q0, q1, qP, qK, qD⟩ := q; exact ⟨q0, q1, qP, va_K.moved (u := U) (U := U.calling g mk a) (Vm.Alike.refl U.vm) qK, qD⟩, fun U hU hW => ⟨rfl, by rw [hU], by rw [hU]; exact hPc, va_K.moved hW.alike hK, hDc.weaken (fun _ _ _ _ => trivial)⟩⟩ rfl rfl hl.1 rfl (lv_room (Nat.le_of_ble_eq_true rfl)) dX11_init_164 ⟨(by first | exact Nat.le_of_ble_eq_true rfl | omega | (dsimp only [headSpec]; omega) | (simp only [headSpec]; omega) | omega), (by first | exact Nat.le_of_ble_eq_true rfl | omega | (dsimp only [headSpec]; omega) | (simp only [headSpec]; omega) | omega)⟩) hS (fun q _ h => hFc q h) hFc (fun u t H locs ht hvm hw hB hz1 hk1 hS => ?_)
  obtain ⟨hP1, hK1, hD1⟩ := hB
  rw [ht] at hP1
  obtain ⟨hP, hD⟩ := va_join (wr := [(h, .inr (18, [.ref q_1, .ref q_2, .ref q_3, .ref q_5, .ref q_6, .ref q_8, .ref q_10, .ref q_12, .ref q_17, .ref q_18, .ref q_19, .ref q_20, .ref q_21, .null, .null, .null, .null, .null, .int (nI 0)])), (q_1, .inr (6, [.int (nI 0), .ref z0, .int (nI 0)])), (q_3, .inr (13, [.ref a_4, .int (nI 0)])), wa a_4 cI 200 (fun _ => 0), (q_12, .inr (14, [.ref a_13, .ref a_14])), (a_13, .inr (13, [.ref a_15, .int (nI 0)])), wa a_15 cI 270 (fun _ => 0), (a_14, .inr (13, [.ref a_16, .int (nI 0)])), wa a_16 cI 270 (fun _ => 0), (q_21, .inr (15, [.ref a_22, .ref a_23, .ref a_24, .ref a_25, .ref a_26, .ref a_27, .ref a_28, .ref a_29, .ref a_30, .ref a_31, .ref a_32, .ref a_33, .ref a_34, .ref a_35])), (a_22, .inr (6, [.int (nI 0), .ref z0, .int (nI 0)])), (a_23, .inr (6, [.int (nI 0), .ref z0, .int (nI 0)])), (a_24, .inr (13, [.ref a_36, .int (nI 0)])), wa a_36 cI 0 (fun _ => 0), (a_25, .inr (13, [.ref a_37, .int (nI 0)])), wa a_37 cI 1200 (fun _ => 0), (a_26, .inr (13, [.ref a_38, .int (nI 0)])), wa a_38 cI 1200 (fun _ => 0), (a_27, .inr (13, [.ref a_39, .int (nI 0)])), wa a_39 cI 1200 (fun _ => 0), (a_28, .inr (13, [.ref a_40, .int (nI 0)])), wa a_40 cI 1200 (fun _ => 0), (a_29, .inr (13, [.ref a_41, .int (nI 0)])), wa a_41 cI 1200 (fun _ => 0), (a_30, .inr (13, [.ref a_42, .int (nI 0)])), wa a_42 cI 1200 (fun _ => 0), (a_31, .inr (13, [.ref a_43, .int (nI 0)])), wa a_43 cI 24 (fun _ => 0), (a_32, .inr (13, [.ref a_44, .int (nI 0)])), wa a_44 cI 24 (fun _ => 0), (a_33, .inr (13, [.ref a_45, .int (nI 0)])), wa a_45 cI 200 (fun _ => 0), (a_34, .inr (13, [.ref a_46, .int (nI 0)])), wa a_46 cI 1200 (fun _ => 0)]) (w1 := []) hP hD [34] [0, 1, 2, 3, 4, 5, 6, 7, 8, 9, 10, 11, 12, 13, 14, 15, 16, 17, 18, 19, 20, 21, 22, 23, 24, 25, 26, 27, 28, 29, 30, 31, 32, 33] rfl rfl (by decide) (by decide) hk1 hFc hP1 hD1
  have hP : va_P (dC, dI) vwCl [(h, .inr (18, [.ref q_1, .ref q_2, .ref q_3, .ref q_5, .ref q_6, .ref q_8, .ref q_10, .ref q_12, .ref q_17, .ref q_18, .ref q_19, .ref q_20, .ref q_21, .null, .null, .null, .null, .null, .int (nI 0)])), (q_1, .inr (6, [.int (nI 0), .ref z0, .int (nI 0)])), (q_3, .inr (13, [.ref a_4, .int (nI 0)])), wa a_4 cI 200 (fun _ => 0), (q_12, .inr (14, [.ref a_13, .ref a_14])), (a_13, .inr (13, [.ref a_15, .int (nI 0)])), wa a_15 cI 270 (fun _ => 0), (a_14, .inr (13, [.ref a_16, .int (nI 0)])), wa a_16 cI 270 (fun _ => 0), (q_21, .inr (15, [.ref a_22, .ref a_23, .ref a_24, .ref a_25, .ref a_26, .ref a_27, .ref a_28, .ref a_29, .ref a_30, .ref a_31, .ref a_32, .ref a_33, .ref a_34, .ref a_35])), (a_22, .inr (6, [.int (nI 0), .ref z0, .int (nI 0)])), (a_23, .inr (6, [.int (nI 0), .ref z0, .int (nI 0)])), (a_24, .inr (13, [.ref a_36, .int (nI 0)])), wa a_36 cI 0 (fun _ => 0), (a_25, .inr (13, [.ref a_37, .int (nI 0)])), wa a_37 cI 1200 (fun _ => 0), (a_26, .inr (13, [.ref a_38, .int (nI 0)])), wa a_38 cI 1200 (fun _ => 0), (a_27, .inr (13, [.ref a_39, .int (nI 0)])), wa a_39 cI 1200 (fun _ => 0), (a_28, .inr (13, [.ref a_40, .int (nI 0)])), wa a_40 cI 1200 (fun _ => 0), (a_29, .inr (13, [.ref a_41, .int (nI 0)])), wa a_41 cI 1200 (fun _ => 0), (a_30, .inr (13, [.ref a_42, .int (nI 0)])), wa a_42 cI 1200 (fun _ => 0), (a_31, .inr (13, [.ref a_43, .int (nI 0)])), wa a_43 cI 24 (fun _ => 0), (a_32, .inr (13, [.ref a_44, .int (nI 0)])), wa a_44 cI 24 (fun _ => 0), (a_33, .inr (13, [.ref a_45, .int (nI 0)])), wa a_45 cI 200 (fun _ => 0), (a_34, .inr (13, [.ref a_46, .int (nI 0)])), wa a_46 cI 1200 (fun _ => 0)] H := hP
  have hD : va_D A [(h, .inr (18, [.ref q_1, .ref q_2, .ref q_3, .ref q_5, .ref q_6, .ref q_8, .ref q_10, .ref q_12, .ref q_17, .ref q_18, .ref q_19, .ref q_20, .ref q_21, .null, .null, .null, .null, .null, .int (nI 0)])), (q_1, .inr (6, [.int (nI 0), .ref z0, .int (nI 0)])), (q_3, .inr (13, [.ref a_4, .int (nI 0)])), wa a_4 cI 200 (fun _ => 0), (q_12, .inr (14, [.ref a_13, .ref a_14])), (a_13, .inr (13, [.ref a_15, .int (nI 0)])), wa a_15 cI 270 (fun _ => 0), (a_14, .inr (13, [.ref a_16, .int (nI 0)])), wa a_16 cI 270 (fun _ => 0), (q_21, .inr (15, [.ref a_22, .ref a_23, .ref a_24, .ref a_25, .ref a_26, .ref a_27, .ref a_28, .ref a_29, .ref a_30, .ref a_31, .ref a_32, .ref a_33, .ref a_34, .ref a_35])), (a_22, .inr (6, [.int (nI 0), .ref z0, .int (nI 0)])), (a_23, .inr (6, [.int (nI 0), .ref z0, .int (nI 0)])), (a_24, .inr (13, [.ref a_36, .int (nI 0)])), wa a_36 cI 0 (fun _ => 0), (a_25, .inr (13, [.ref a_37, .int (nI 0)])), wa a_37 cI 1200 (fun _ => 0), (a_26, .inr (13, [.ref a_38, .int (nI 0)])), wa a_38 cI 1200 (fun _ => 0), (a_27, .inr (13, [.ref a_39, .int (nI 0)])), wa a_39 cI 1200 (fun _ => 0), (a_28, .inr (13, [.ref a_40, .int (nI 0)])), wa a_40 cI 1200 (fun _ => 0), (a_29, .inr (13, [.ref a_41, .int (nI 0)])), wa a_41 cI 1200 (fun _ => 0), (a_30, .inr (13, [.ref a_42, .int (nI 0)])), wa a_42 cI 1200 (fun _ => 0), (a_31, .inr (13, [.ref a_43, .int (nI 0)])), wa a_43 cI 24 (fun _ => 0), (a_32, .inr (13, [.ref a_44, .int (nI 0)])), wa a_44 cI 24 (fun _ => 0), (a_33, .inr (13, [.ref a_45, .int (nI 0)])), wa a_45 cI 200 (fun _ => 0), (a_34, .inr (13, [.ref a_46, .int (nI 0)])), wa a_46 cI 1200 (fun _ => 0)] := hD
  refine W.widen (k := 87) (n := 18807) (by first | exact Nat.le_of_ble_eq_true rfl | omega | (dsimp only [headSpec]; omega) | (simp only [headSpec]; omega) | omega) (by first | exact Nat.le_of_ble_eq_true rfl | omega | (dsimp only [headSpec]; omega) | (simp only [headSpec]; omega) | omega) ?_
  have hP : va_P (dC, dI) vwCl [(h, .inr (18, [.ref q_1, .ref q_2, .ref q_3, .ref q_5, .ref q_6, .ref q_8, .ref q_10, .ref q_12, .ref q_17, .ref q_18, .ref q_19, .ref q_20, .ref q_21, .null, .null, .null, .null, .null, .int (nI 0)])), (q_1, .inr (6, [.int (nI 0), .ref z0, .int (nI 0)])), (q_3, .inr (13, [.ref a_4, .int (nI 0)])), wa a_4 cI 200 (fun _ => 0), (q_12, .inr (14, [.ref a_13, .ref a_14])), (a_13, .inr (13, [.ref a_15, .int (nI 0)])), wa a_15 cI 270 (fun _ => 0), (a_14, .inr (13, [.ref a_16, .int (nI 0)])), wa a_16 cI 270 (fun _ => 0), (q_21, .inr (15, [.ref a_22, .ref a_23, .ref a_24, .ref a_25, .ref a_26, .ref a_27, .ref a_28, .ref a_29, .ref a_30, .ref a_31, .ref a_32, .ref a_33, .ref a_34, .ref a_35])), (a_22, .inr (6, [.int (nI 0), .ref z0, .int (nI 0)])), (a_23, .inr (6, [.int (nI 0), .ref z0, .int (nI 0)])), (a_24, .inr (13, [.ref a_36, .int (nI 0)])), wa a_36 cI 0 (fun _ => 0), (a_25, .inr (13, [.ref a_37, .int (nI 0)])), wa a_37 cI 1200 (fun _ => 0), (a_26, .inr (13, [.ref a_38, .int (nI 0)])), wa a_38 cI 1200 (fun _ => 0), (a_27, .inr (13, [.ref a_39, .int (nI 0)])), wa a_39 cI 1200 (fun _ => 0), (a_28, .inr (13, [.ref a_40, .int (nI 0)])), wa a_40 cI 1200 (fun _ => 0), (a_29, .inr (13, [.ref a_41, .int (nI 0)])), wa a_41 cI 1200 (fun _ => 0), (a_30, .inr (13, [.ref a_42, .int (nI 0)])), wa a_42 cI 1200 (fun _ => 0), (a_31, .inr (13, [.ref a_43, .int (nI 0)])), wa a_43 cI 24 (fun _ => 0), (a_32, .inr (13, [.ref a_44, .int (nI 0)])), wa a_44 cI 24 (fun _ => 0), (a_33, .inr (13, [.ref a_45, .int (nI 0)])), wa a_45 cI 200 (fun _ => 0), (a_34, .inr (13, [.ref a_46, .int (nI 0)])), wa a_46 cI 1200 (fun _ => 0)] H := hP.sub [0, 1, 2, 3, 4, 5, 6, 7, 8, 9, 10, 11, 12, 13, 14, 15, 16, 17, 18, 19, 20, 21, 22, 23, 24, 25, 26, 27, 28, 29, 30, 31, 32, 33] rfl
  have hD : va_D A [(h, .inr (18, [.ref q_1, .ref q_2, .ref q_3, .ref q_5, .ref q_6, .ref q_8, .ref q_10, .ref q_12, .ref q_17, .ref q_18, .ref q_19, .ref q_20, .ref q_21, .null, .null, .null, .null, .null, .int (nI 0)])), (q_1, .inr (6, [.int (nI 0), .ref z0, .int (nI 0)])), (q_3, .inr (13, [.ref a_4, .int (nI 0)])), wa a_4 cI 200 (fun _ => 0), (q_12, .inr (14, [.ref a_13, .ref a_14])), (a_13, .inr (13, [.ref a_15, .int (nI 0)])), wa a_15 cI 270 (fun _ => 0), (a_14, .inr (13, [.ref a_16, .int (nI 0)])), wa a_16 cI 270 (fun _ => 0), (q_21, .inr (15, [.ref a_22, .ref a_23, .ref a_24, .ref a_25, .ref a_26, .ref a_27, .ref a_28, .ref a_29, .ref a_30, .ref a_31, .ref a_32, .ref a_33, .ref a_34, .ref a_35])), (a_22, .inr (6, [.int (nI 0), .ref z0, .int (nI 0)])), (a_23, .inr (6, [.int (nI 0), .ref z0, .int (nI 0)])), (a_24, .inr (13, [.ref a_36, .int (nI 0)])), wa a_36 cI 0 (fun _ => 0), (a_25, .inr (13, [.ref a_37, .int (nI 0)])), wa a_37 cI 1200 (fun _ => 0), (a_26, .inr (13, [.ref a_38, .int (nI 0)])), wa a_38 cI 1200 (fun _ => 0), (a_27, .inr (13, [.ref a_39, .int (nI 0)])), wa a_39 cI 1200 (fun _ => 0), (a_28, .inr (13, [.ref a_40, .int (nI 0)])), wa a_40 cI 1200 (fun _ => 0), (a_29, .inr (13, [.ref a_41, .int (nI 0)])), wa a_41 cI 1200 (fun _ => 0), (a_30, .inr (13, [.ref a_42, .int (nI 0)])), wa a_42 cI 1200 (fun _ => 0), (a_31, .inr (13, [.ref a_43, .int (nI 0)])), wa a_43 cI 24 (fun _ => 0), (a_32, .inr (13, [.ref a_44, .int (nI 0)])), wa a_44 cI 24 (fun _ => 0), (a_33, .inr (13, [.ref a_45, .int (nI 0)])), wa a_45 cI 200 (fun _ => 0), (a_34, .inr (13, [.ref a_46, .int (nI 0)])), wa a_46 cI 1200 (fun _ => 0)] := hD.sub [0, 1, 2, 3, 4, 5, 6, 7, 8, 9, 10, 11, 12, 13, 14, 15, 16, 17, 18, 19, 20, 21, 22, 23, 24, 25, 26, 27, 28, 29, 30, 31, 32, 33] (by decide) rfl
  refine va_putF (D := (dC, dI)) (ci := 18) (v := .ref q_47) (ty := .object "Patchferry$Blocks") (C := RX11) (T := TX11) (N := 19) hx hb hts inX11_init_RX11 tyX11 tyX11_ok nmX11 hown hK hP hD hS 0 rfl rfl 13 (by decide) (hts (.fieldLink RX11 85 "Patchferry" "blocks" "LPatchferry$Blocks;") (by decide +kernel)) (fun _ h9 => h9) rfl hin rfl (by decide +kernel) rfl rfl (Nat.le_of_ble_eq_true rfl) dX11_init_167 (fun H locs hP hD hS => ?_)
  have hP : va_P (dC, dI) vwCl [(h, .inr (18, [.ref q_1, .ref q_2, .ref q_3, .ref q_5, .ref q_6, .ref q_8, .ref q_10, .ref q_12, .ref q_17, .ref q_18, .ref q_19, .ref q_20, .ref q_21, .ref q_47, .null, .null, .null, .null, .int (nI 0)])), (q_1, .inr (6, [.int (nI 0), .ref z0, .int (nI 0)])), (q_3, .inr (13, [.ref a_4, .int (nI 0)])), wa a_4 cI 200 (fun _ => 0), (q_12, .inr (14, [.ref a_13, .ref a_14])), (a_13, .inr (13, [.ref a_15, .int (nI 0)])), wa a_15 cI 270 (fun _ => 0), (a_14, .inr (13, [.ref a_16, .int (nI 0)])), wa a_16 cI 270 (fun _ => 0), (q_21, .inr (15, [.ref a_22, .ref a_23, .ref a_24, .ref a_25, .ref a_26, .ref a_27, .ref a_28, .ref a_29, .ref a_30, .ref a_31, .ref a_32, .ref a_33, .ref a_34, .ref a_35])), (a_22, .inr (6, [.int (nI 0), .ref z0, .int (nI 0)])), (a_23, .inr (6, [.int (nI 0), .ref z0, .int (nI 0)])), (a_24, .inr (13, [.ref a_36, .int (nI 0)])), wa a_36 cI 0 (fun _ => 0), (a_25, .inr (13, [.ref a_37, .int (nI 0)])), wa a_37 cI 1200 (fun _ => 0), (a_26, .inr (13, [.ref a_38, .int (nI 0)])), wa a_38 cI 1200 (fun _ => 0), (a_27, .inr (13, [.ref a_39, .int (nI 0)])), wa a_39 cI 1200 (fun _ => 0), (a_28, .inr (13, [.ref a_40, .int (nI 0)])), wa a_40 cI 1200 (fun _ => 0), (a_29, .inr (13, [.ref a_41, .int (nI 0)])), wa a_41 cI 1200 (fun _ => 0), (a_30, .inr (13, [.ref a_42, .int (nI 0)])), wa a_42 cI 1200 (fun _ => 0), (a_31, .inr (13, [.ref a_43, .int (nI 0)])), wa a_43 cI 24 (fun _ => 0), (a_32, .inr (13, [.ref a_44, .int (nI 0)])), wa a_44 cI 24 (fun _ => 0), (a_33, .inr (13, [.ref a_45, .int (nI 0)])), wa a_45 cI 200 (fun _ => 0), (a_34, .inr (13, [.ref a_46, .int (nI 0)])), wa a_46 cI 1200 (fun _ => 0)] H := hP
  have hD : va_D A [(h, .inr (18, [.ref q_1, .ref q_2, .ref q_3, .ref q_5, .ref q_6, .ref q_8, .ref q_10, .ref q_12, .ref q_17, .ref q_18, .ref q_19, .ref q_20, .ref q_21, .ref q_47, .null, .null, .null, .null, .int (nI 0)])), (q_1, .inr (6, [.int (nI 0), .ref z0, .int (nI 0)])), (q_3, .inr (13, [.ref a_4, .int (nI 0)])), wa a_4 cI 200 (fun _ => 0), (q_12, .inr (14, [.ref a_13, .ref a_14])), (a_13, .inr (13, [.ref a_15, .int (nI 0)])), wa a_15 cI 270 (fun _ => 0), (a_14, .inr (13, [.ref a_16, .int (nI 0)])), wa a_16 cI 270 (fun _ => 0), (q_21, .inr (15, [.ref a_22, .ref a_23, .ref a_24, .ref a_25, .ref a_26, .ref a_27, .ref a_28, .ref a_29, .ref a_30, .ref a_31, .ref a_32, .ref a_33, .ref a_34, .ref a_35])), (a_22, .inr (6, [.int (nI 0), .ref z0, .int (nI 0)])), (a_23, .inr (6, [.int (nI 0), .ref z0, .int (nI 0)])), (a_24, .inr (13, [.ref a_36, .int (nI 0)])), wa a_36 cI 0 (fun _ => 0), (a_25, .inr (13, [.ref a_37, .int (nI 0)])), wa a_37 cI 1200 (fun _ => 0), (a_26, .inr (13, [.ref a_38, .int (nI 0)])), wa a_38 cI 1200 (fun _ => 0), (a_27, .inr (13, [.ref a_39, .int (nI 0)])), wa a_39 cI 1200 (fun _ => 0), (a_28, .inr (13, [.ref a_40, .int (nI 0)])), wa a_40 cI 1200 (fun _ => 0), (a_29, .inr (13, [.ref a_41, .int (nI 0)])), wa a_41 cI 1200 (fun _ => 0), (a_30, .inr (13, [.ref a_42, .int (nI 0)])), wa a_42 cI 1200 (fun _ => 0), (a_31, .inr (13, [.ref a_43, .int (nI 0)])), wa a_43 cI 24 (fun _ => 0), (a_32, .inr (13, [.ref a_44, .int (nI 0)])), wa a_44 cI 24 (fun _ => 0), (a_33, .inr (13, [.ref a_45, .int (nI 0)])), wa a_45 cI 200 (fun _ => 0), (a_34, .inr (13, [.ref a_46, .int (nI 0)])), wa a_46 cI 1200 (fun _ => 0)] := hD
  refine lv_aload_n hx hb dX11_init_170 rfl (lv_at hl 0 rfl) ?_
  refine va_new (ci := 12) (fs := [.null, .null]) (C := RX5) (T := TX5) (N := 2) hx hb hts inX11_init_RX5 tyX5 tyX5_ok hown (hts (.classLink RX11 89 RX5) (by decide +kernel)) (hts (.instantiable RX5 2) (by decide +kernel)) (hts (.initialized RX5) (by decide +kernel)) hK hP hD hS hA rfl (fun j hj => by rcases (show j = 0 ∨ j = 1 by omega) with rfl | rfl <;> rfl) (by first | exact Nat.le_of_ble_eq_true rfl | omega | (dsimp only [headSpec]; omega) | (simp only [headSpec]; omega) | omega) (by first | exact Nat.le_of_ble_eq_true rfl | omega | (dsimp only [headSpec]; omega) | (simp only [headSpec]; omega) | omega) dX11_init_171 (fun q_48 H hP hD hS => ?_)
  have hP : va_P (dC, dI) vwCl [(h, .inr (18, [.ref q_1, .ref q_2, .ref q_3, .ref q_5, .ref q_6, .ref q_8, .ref q_10, .ref q_12, .ref q_17, .ref q_18, .ref q_19, .ref q_20, .ref q_21, .ref q_47, .null, .null, .null, .null, .int (nI 0)])), (q_1, .inr (6, [.int (nI 0), .ref z0, .int (nI 0)])), (q_3, .inr (13, [.ref a_4, .int (nI 0)])), wa a_4 cI 200 (fun _ => 0), (q_12, .inr (14, [.ref a_13, .ref a_14])), (a_13, .inr (13, [.ref a_15, .int (nI 0)])), wa a_15 cI 270 (fun _ => 0), (a_14, .inr (13, [.ref a_16, .int (nI 0)])), wa a_16 cI 270 (fun _ => 0), (q_21, .inr (15, [.ref a_22, .ref a_23, .ref a_24, .ref a_25, .ref a_26, .ref a_27, .ref a_28, .ref a_29, .ref a_30, .ref a_31, .ref a_32, .ref a_33, .ref a_34, .ref a_35])), (a_22, .inr (6, [.int (nI 0), .ref z0, .int (nI 0)])), (a_23, .inr (6, [.int (nI 0), .ref z0, .int (nI 0)])), (a_24, .inr (13, [.ref a_36, .int (nI 0)])), wa a_36 cI 0 (fun _ => 0), (a_25, .inr (13, [.ref a_37, .int (nI 0)])), wa a_37 cI 1200 (fun _ => 0), (a_26, .inr (13, [.ref a_38, .int (nI 0)])), wa a_38 cI 1200 (fun _ => 0), (a_27, .inr (13, [.ref a_39, .int (nI 0)])), wa a_39 cI 1200 (fun _ => 0), (a_28, .inr (13, [.ref a_40, .int (nI 0)])), wa a_40 cI 1200 (fun _ => 0), (a_29, .inr (13, [.ref a_41, .int (nI 0)])), wa a_41 cI 1200 (fun _ => 0), (a_30, .inr (13, [.ref a_42, .int (nI 0)])), wa a_42 cI 1200 (fun _ => 0), (a_31, .inr (13, [.ref a_43, .int (nI 0)])), wa a_43 cI 24 (fun _ => 0), (a_32, .inr (13, [.ref a_44, .int (nI 0)])), wa a_44 cI 24 (fun _ => 0), (a_33, .inr (13, [.ref a_45, .int (nI 0)])), wa a_45 cI 200 (fun _ => 0), (a_34, .inr (13, [.ref a_46, .int (nI 0)])), wa a_46 cI 1200 (fun _ => 0), (q_48, .inr (12, [.null, .null]))] H := hP
  have hD : va_D A [(h, .inr (18, [.ref q_1, .ref q_2, .ref q_3, .ref q_5, .ref q_6, .ref q_8, .ref q_10, .ref q_12, .ref q_17, .ref q_18, .ref q_19, .ref q_20, .ref q_21, .ref q_47, .null, .null, .null, .null, .int (nI 0)])), (q_1, .inr (6, [.int (nI 0), .ref z0, .int (nI 0)])), (q_3, .inr (13, [.ref a_4, .int (nI 0)])), wa a_4 cI 200 (fun _ => 0), (q_12, .inr (14, [.ref a_13, .ref a_14])), (a_13, .inr (13, [.ref a_15, .int (nI 0)])), wa a_15 cI 270 (fun _ => 0), (a_14, .inr (13, [.ref a_16, .int (nI 0)])), wa a_16 cI 270 (fun _ => 0), (q_21, .inr (15, [.ref a_22, .ref a_23, .ref a_24, .ref a_25, .ref a_26, .ref a_27, .ref a_28, .ref a_29, .ref a_30, .ref a_31, .ref a_32, .ref a_33, .ref a_34, .ref a_35])), (a_22, .inr (6, [.int (nI 0), .ref z0, .int (nI 0)])), (a_23, .inr (6, [.int (nI 0), .ref z0, .int (nI 0)])), (a_24, .inr (13, [.ref a_36, .int (nI 0)])), wa a_36 cI 0 (fun _ => 0), (a_25, .inr (13, [.ref a_37, .int (nI 0)])), wa a_37 cI 1200 (fun _ => 0), (a_26, .inr (13, [.ref a_38, .int (nI 0)])), wa a_38 cI 1200 (fun _ => 0), (a_27, .inr (13, [.ref a_39, .int (nI 0)])), wa a_39 cI 1200 (fun _ => 0), (a_28, .inr (13, [.ref a_40, .int (nI 0)])), wa a_40 cI 1200 (fun _ => 0), (a_29, .inr (13, [.ref a_41, .int (nI 0)])), wa a_41 cI 1200 (fun _ => 0), (a_30, .inr (13, [.ref a_42, .int (nI 0)])), wa a_42 cI 1200 (fun _ => 0), (a_31, .inr (13, [.ref a_43, .int (nI 0)])), wa a_43 cI 24 (fun _ => 0), (a_32, .inr (13, [.ref a_44, .int (nI 0)])), wa a_44 cI 24 (fun _ => 0), (a_33, .inr (13, [.ref a_45, .int (nI 0)])), wa a_45 cI 200 (fun _ => 0), (a_34, .inr (13, [.ref a_46, .int (nI 0)])), wa a_46 cI 1200 (fun _ => 0), (q_48, .inr (12, [.null, .null]))] := hD
  refine W.widen (k := 88) (n := 18809) (by first | exact Nat.le_of_ble_eq_true rfl | omega | (dsimp only [headSpec]; omega) | (simp only [headSpec]; omega) | omega) (by first | exact Nat.le_of_ble_eq_true rfl | omega | (dsimp only [headSpec]; omega) | (simp only [headSpec]; omega) | omega) ?_
  refine lv_dup hx hb dX11_init_174 rfl ?_
  have hPc : va_P (dC, dI) vwCl [(q_48, .inr (12, [.null, .null]))] _ := hP.sub [34] rfl
  have hDc : va_D _ [(q_48, .inr (12, [.null, .null]))] := hD.sub [34] (by decide) rfl
  have hFc := va_free (wc := [(q_48, .inr (12, [.null, .null]))]) hD hS hA [34] rfl
  refine va_callv (va_runI (As := []) (rest := [.ref q_48, .ref h]) ⟨hx, hb, hml, hown, hts⟩ (c_programinit l dC dI cI cO H.size q_48) (cwI 0 hts ugX11_init_X5_init rfl rfl rfl (hts (.initialized RX5) (by decide +kernel)) (hts (.methodLink RX11 91 yX5_init) (by decide +kernel)) (hts (.instanceMethod yX5_init) (by decide +kernel)) rfl (by decide +kernel) ⟨(by first | exact Nat.le_of_ble_eq_true rfl | omega | (dsimp only [headSpec]; omega) | (simp only [headSpec]; omega) | omega), (by first | exact Nat.le_of_ble_eq_true rfl | omega | (dsimp only [headSpec]; omega) | (simp only [headSpec]; omega) | omega)⟩) ⟨fun a U g mk q => by obtain ⟨q0, q1, qP, qK, qD⟩ := q; exact ⟨q0, q1, qP, va_K.moved (u := U) (U := U.calling g mk a) (Vm.Alike.refl U.vm) qK, qD⟩, fun U hU hW => ⟨rfl, by rw [hU], by rw [hU]; exact hPc, va_K.moved hW.alike hK, hDc.weaken (fun _ _ _ _ => trivial)⟩⟩ rfl rfl hl.1 rfl (lv_room (Nat.le_of_ble_eq_true rfl)) dX11_init_175 ⟨(by first | exact Nat.le_of_ble_eq_true rfl | omega | (dsimp only [headSpec]; omega) | (simp only [headSpec]; omega) | omega), (by first | exact Nat.le_of_ble_eq_true rfl | omega | (dsimp only [headSpec]; omega) | (simp only [headSpec]; omega) | omega)⟩) hS (fun q _ h => hFc q h) hFc (fun u t H locs ht hvm hw hB hz1 hk1 hS => ?_)
  obtain ⟨hP1, hK1, hD1⟩ := hB
  rw [ht] at hP1
  obtain ⟨hP, hD⟩ := va_join (wr := [(h, .inr (18, [.ref q_1, .ref q_2, .ref q_3, .ref q_5, .ref q_6, .ref q_8, .ref q_10, .ref q_12, .ref q_17, .ref q_18, .ref q_19, .ref q_20, .ref q_21, .ref q_47, .null, .null, .null, .null, .int (nI 0)])), (q_1, .inr (6, [.int (nI 0), .ref z0, .int (nI 0)])), (q_3, .inr (13, [.ref a_4, .int (nI 0)])), wa a_4 cI 200 (fun _ => 0), (q_12, .inr (14, [.ref a_13, .ref a_14])), (a_13, .inr (13, [.ref a_15, .int (nI 0)])), wa a_15 cI 270 (fun _ => 0), (a_14, .inr (13, [.ref a_16, .int (nI 0)])), wa a_16 cI 270 (fun _ => 0), (q_21, .inr (15, [.ref a_22, .ref a_23, .ref a_24, .ref a_25, .ref a_26, .ref a_27, .ref a_28, .ref a_29, .ref a_30, .ref a_31, .ref a_32, .ref a_33, .ref a_34, .ref a_35])), (a_22, .inr (6, [.int (nI 0), .ref z0, .int (nI 0)])), (a_23, .inr (6, [.int (nI 0), .ref z0, .int (nI 0)])), (a_24, .inr (13, [.ref a_36, .int (nI 0)])), wa a_36 cI 0 (fun _ => 0), (a_25, .inr (13, [.ref a_37, .int (nI 0)])), wa a_37 cI 1200 (fun _ => 0), (a_26, .inr (13, [.ref a_38, .int (nI 0)])), wa a_38 cI 1200 (fun _ => 0), (a_27, .inr (13, [.ref a_39, .int (nI 0)])), wa a_39 cI 1200 (fun _ => 0), (a_28, .inr (13, [.ref a_40, .int (nI 0)])), wa a_40 cI 1200 (fun _ => 0), (a_29, .inr (13, [.ref a_41, .int (nI 0)])), wa a_41 cI 1200 (fun _ => 0), (a_30, .inr (13, [.ref a_42, .int (nI 0)])), wa a_42 cI 1200 (fun _ => 0), (a_31, .inr (13, [.ref a_43, .int (nI 0)])), wa a_43 cI 24 (fun _ => 0), (a_32, .inr (13, [.ref a_44, .int (nI 0)])), wa a_44 cI 24 (fun _ => 0), (a_33, .inr (13, [.ref a_45, .int (nI 0)])), wa a_45 cI 200 (fun _ => 0), (a_34, .inr (13, [.ref a_46, .int (nI 0)])), wa a_46 cI 1200 (fun _ => 0)]) (w1 := []) hP hD [34] [0, 1, 2, 3, 4, 5, 6, 7, 8, 9, 10, 11, 12, 13, 14, 15, 16, 17, 18, 19, 20, 21, 22, 23, 24, 25, 26, 27, 28, 29, 30, 31, 32, 33] rfl rfl (by decide) (by decide) hk1 hFc hP1 hD1
  have hP : va_P (dC, dI) vwCl [(h, .inr (18, [.ref q_1, .ref q_2, .ref q_3, .ref q_5, .ref q_6, .ref q_8, .ref q_10, .ref q_12, .ref q_17, .ref q_18, .ref q_19, .ref q_20, .ref q_21, .ref q_47, .null, .null, .null, .null, .int (nI 0)])), (q_1, .inr (6, [.int (nI 0), .ref z0, .int (nI 0)])), (q_3, .inr (13, [.ref a_4, .int (nI 0)])), wa a_4 cI 200 (fun _ => 0), (q_12, .inr (14, [.ref a_13, .ref a_14])), (a_13, .inr (13, [.ref a_15, .int (nI 0)])), wa a_15 cI 270 (fun _ => 0), (a_14, .inr (13, [.ref a_16, .int (nI 0)])), wa a_16 cI 270 (fun _ => 0), (q_21, .inr (15, [.ref a_22, .ref a_23, .ref a_24, .ref a_25, .ref a_26, .ref a_27, .ref a_28, .ref a_29, .ref a_30, .ref a_31, .ref a_32, .ref a_33, .ref a_34, .ref a_35])), (a_22, .inr (6, [.int (nI 0), .ref z0, .int (nI 0)])), (a_23, .inr (6, [.int (nI 0), .ref z0, .int (nI 0)])), (a_24, .inr (13, [.ref a_36, .int (nI 0)])), wa a_36 cI 0 (fun _ => 0), (a_25, .inr (13, [.ref a_37, .int (nI 0)])), wa a_37 cI 1200 (fun _ => 0), (a_26, .inr (13, [.ref a_38, .int (nI 0)])), wa a_38 cI 1200 (fun _ => 0), (a_27, .inr (13, [.ref a_39, .int (nI 0)])), wa a_39 cI 1200 (fun _ => 0), (a_28, .inr (13, [.ref a_40, .int (nI 0)])), wa a_40 cI 1200 (fun _ => 0), (a_29, .inr (13, [.ref a_41, .int (nI 0)])), wa a_41 cI 1200 (fun _ => 0), (a_30, .inr (13, [.ref a_42, .int (nI 0)])), wa a_42 cI 1200 (fun _ => 0), (a_31, .inr (13, [.ref a_43, .int (nI 0)])), wa a_43 cI 24 (fun _ => 0), (a_32, .inr (13, [.ref a_44, .int (nI 0)])), wa a_44 cI 24 (fun _ => 0), (a_33, .inr (13, [.ref a_45, .int (nI 0)])), wa a_45 cI 200 (fun _ => 0), (a_34, .inr (13, [.ref a_46, .int (nI 0)])), wa a_46 cI 1200 (fun _ => 0)] H := hP
  have hD : va_D A [(h, .inr (18, [.ref q_1, .ref q_2, .ref q_3, .ref q_5, .ref q_6, .ref q_8, .ref q_10, .ref q_12, .ref q_17, .ref q_18, .ref q_19, .ref q_20, .ref q_21, .ref q_47, .null, .null, .null, .null, .int (nI 0)])), (q_1, .inr (6, [.int (nI 0), .ref z0, .int (nI 0)])), (q_3, .inr (13, [.ref a_4, .int (nI 0)])), wa a_4 cI 200 (fun _ => 0), (q_12, .inr (14, [.ref a_13, .ref a_14])), (a_13, .inr (13, [.ref a_15, .int (nI 0)])), wa a_15 cI 270 (fun _ => 0), (a_14, .inr (13, [.ref a_16, .int (nI 0)])), wa a_16 cI 270 (fun _ => 0), (q_21, .inr (15, [.ref a_22, .ref a_23, .ref a_24, .ref a_25, .ref a_26, .ref a_27, .ref a_28, .ref a_29, .ref a_30, .ref a_31, .ref a_32, .ref a_33, .ref a_34, .ref a_35])), (a_22, .inr (6, [.int (nI 0), .ref z0, .int (nI 0)])), (a_23, .inr (6, [.int (nI 0), .ref z0, .int (nI 0)])), (a_24, .inr (13, [.ref a_36, .int (nI 0)])), wa a_36 cI 0 (fun _ => 0), (a_25, .inr (13, [.ref a_37, .int (nI 0)])), wa a_37 cI 1200 (fun _ => 0), (a_26, .inr (13, [.ref a_38, .int (nI 0)])), wa a_38 cI 1200 (fun _ => 0), (a_27, .inr (13, [.ref a_39, .int (nI 0)])), wa a_39 cI 1200 (fun _ => 0), (a_28, .inr (13, [.ref a_40, .int (nI 0)])), wa a_40 cI 1200 (fun _ => 0), (a_29, .inr (13, [.ref a_41, .int (nI 0)])), wa a_41 cI 1200 (fun _ => 0), (a_30, .inr (13, [.ref a_42, .int (nI 0)])), wa a_42 cI 1200 (fun _ => 0), (a_31, .inr (13, [.ref a_43, .int (nI 0)])), wa a_43 cI 24 (fun _ => 0), (a_32, .inr (13, [.ref a_44, .int (nI 0)])), wa a_44 cI 24 (fun _ => 0), (a_33, .inr (13, [.ref a_45, .int (nI 0)])), wa a_45 cI 200 (fun _ => 0), (a_34, .inr (13, [.ref a_46, .int (nI 0)])), wa a_46 cI 1200 (fun _ => 0)] := hD
  refine W.widen (k := 92) (n := 19215) (by first | exact Nat.le_of_ble_eq_true rfl | omega | (dsimp only [headSpec]; omega) | (simp only [headSpec]; omega) | omega) (by first | exact Nat.le_of_ble_eq_true rfl | omega | (dsimp only [headSpec]; omega) | (simp only [headSpec]; omega) | omega) ?_
  have hP : va_P (dC, dI) vwCl [(h, .inr (18, [.ref q_1, .ref q_2, .ref q_3, .ref q_5, .ref q_6, .ref q_8, .ref q_10, .ref q_12, .ref q_17, .ref q_18, .ref q_19, .ref q_20, .ref q_21, .ref q_47, .null, .null, .null, .null, .int (nI 0)])), (q_1, .inr (6, [.int (nI 0), .ref z0, .int (nI 0)])), (q_3, .inr (13, [.ref a_4, .int (nI 0)])), wa a_4 cI 200 (fun _ => 0), (q_12, .inr (14, [.ref a_13, .ref a_14])), (a_13, .inr (13, [.ref a_15, .int (nI 0)])), wa a_15 cI 270 (fun _ => 0), (a_14, .inr (13, [.ref a_16, .int (nI 0)])), wa a_16 cI 270 (fun _ => 0), (q_21, .inr (15, [.ref a_22, .ref a_23, .ref a_24, .ref a_25, .ref a_26, .ref a_27, .ref a_28, .ref a_29, .ref a_30, .ref a_31, .ref a_32, .ref a_33, .ref a_34, .ref a_35])), (a_22, .inr (6, [.int (nI 0), .ref z0, .int (nI 0)])), (a_23, .inr (6, [.int (nI 0), .ref z0, .int (nI 0)])), (a_24, .inr (13, [.ref a_36, .int (nI 0)])), wa a_36 cI 0 (fun _ => 0), (a_25, .inr (13, [.ref a_37, .int (nI 0)])), wa a_37 cI 1200 (fun _ => 0), (a_26, .inr (13, [.ref a_38, .int (nI 0)])), wa a_38 cI 1200 (fun _ => 0), (a_27, .inr (13, [.ref a_39, .int (nI 0)])), wa a_39 cI 1200 (fun _ => 0), (a_28, .inr (13, [.ref a_40, .int (nI 0)])), wa a_40 cI 1200 (fun _ => 0), (a_29, .inr (13, [.ref a_41, .int (nI 0)])), wa a_41 cI 1200 (fun _ => 0), (a_30, .inr (13, [.ref a_42, .int (nI 0)])), wa a_42 cI 1200 (fun _ => 0), (a_31, .inr (13, [.ref a_43, .int (nI 0)])), wa a_43 cI 24 (fun _ => 0), (a_32, .inr (13, [.ref a_44, .int (nI 0)])), wa a_44 cI 24 (fun _ => 0), (a_33, .inr (13, [.ref a_45, .int (nI 0)])), wa a_45 cI 200 (fun _ => 0), (a_34, .inr (13, [.ref a_46, .int (nI 0)])), wa a_46 cI 1200 (fun _ => 0)] H := hP.sub [0, 1, 2, 3, 4, 5, 6, 7, 8, 9, 10, 11, 12, 13, 14, 15, 16, 17, 18, 19, 20, 21, 22, 23, 24, 25, 26, 27, 28, 29, 30, 31, 32, 33] rfl
  have hD : va_D A [(h, .inr (18, [.ref q_1, .ref q_2, .ref q_3, .ref q_5, .ref q_6, .ref q_8, .ref q_10, .ref q_12, .ref q_17, .ref q_18, .ref q_19, .ref q_20, .ref q_21, .ref q_47, .null, .null, .null, .null, .int (nI 0)])), (q_1, .inr (6, [.int (nI 0), .ref z0, .int (nI 0)])), (q_3, .inr (13, [.ref a_4, .int (nI 0)])), wa a_4 cI 200 (fun _ => 0), (q_12, .inr (14, [.ref a_13, .ref a_14])), (a_13, .inr (13, [.ref a_15, .int (nI 0)])), wa a_15 cI 270 (fun _ => 0), (a_14, .inr (13, [.ref a_16, .int (nI 0)])), wa a_16 cI 270 (fun _ => 0), (q_21, .inr (15, [.ref a_22, .ref a_23, .ref a_24, .ref a_25, .ref a_26, .ref a_27, .ref a_28, .ref a_29, .ref a_30, .ref a_31, .ref a_32, .ref a_33, .ref a_34, .ref a_35])), (a_22, .inr (6, [.int (nI 0), .ref z0, .int (nI 0)])), (a_23, .inr (6, [.int (nI 0), .ref z0, .int (nI 0)])), (a_24, .inr (13, [.ref a_36, .int (nI 0)])), wa a_36 cI 0 (fun _ => 0), (a_25, .inr (13, [.ref a_37, .int (nI 0)])), wa a_37 cI 1200 (fun _ => 0), (a_26, .inr (13, [.ref a_38, .int (nI 0)])), wa a_38 cI 1200 (fun _ => 0), (a_27, .inr (13, [.ref a_39, .int (nI 0)])), wa a_39 cI 1200 (fun _ => 0), (a_28, .inr (13, [.ref a_40, .int (nI 0)])), wa a_40 cI 1200 (fun _ => 0), (a_29, .inr (13, [.ref a_41, .int (nI 0)])), wa a_41 cI 1200 (fun _ => 0), (a_30, .inr (13, [.ref a_42, .int (nI 0)])), wa a_42 cI 1200 (fun _ => 0), (a_31, .inr (13, [.ref a_43, .int (nI 0)])), wa a_43 cI 24 (fun _ => 0), (a_32, .inr (13, [.ref a_44, .int (nI 0)])), wa a_44 cI 24 (fun _ => 0), (a_33, .inr (13, [.ref a_45, .int (nI 0)])), wa a_45 cI 200 (fun _ => 0), (a_34, .inr (13, [.ref a_46, .int (nI 0)])), wa a_46 cI 1200 (fun _ => 0)] := hD.sub [0, 1, 2, 3, 4, 5, 6, 7, 8, 9, 10, 11, 12, 13, 14, 15, 16, 17, 18, 19, 20, 21, 22, 23, 24, 25, 26, 27, 28, 29, 30, 31, 32, 33] (by decide) rfl
  refine va_putF (D := (dC, dI)) (ci := 18) (v := .ref q_48) (ty := .object "Patchferry$Program") (C := RX11) (T := TX11) (N := 19) hx hb hts inX11_init_RX11 tyX11 tyX11_ok nmX11 hown hK hP hD hS 0 rfl rfl 14 (by decide) (hts (.fieldLink RX11 92 "Patchferry" "program" "LPatchferry$Program;") (by decide +kernel)) (fun _ h9 => h9) rfl hin rfl (by decide +kernel) rfl rfl (Nat.le_of_ble_eq_true rfl) dX11_init_178 (fun H locs hP hD hS => ?_)
  have hP : va_P (dC, dI) vwCl [(h, .inr (18, [.ref q_1, .ref q_2, .ref q_3, .ref q_5, .ref q_6, .ref q_8, .ref q_10, .ref q_12, .ref q_17, .ref q_18, .ref q_19, .ref q_20, .ref q_21, .ref q_47, .ref q_48, .null, .null, .null, .int (nI 0)])), (q_1, .inr (6, [.int (nI 0), .ref z0, .int (nI 0)])), (q_3, .inr (13, [.ref a_4, .int (nI 0)])), wa a_4 cI 200 (fun _ => 0), (q_12, .inr (14, [.ref a_13, .ref a_14])), (a_13, .inr (13, [.ref a_15, .int (nI 0)])), wa a_15 cI 270 (fun _ => 0), (a_14, .inr (13, [.ref a_16, .int (nI 0)])), wa a_16 cI 270 (fun _ => 0), (q_21, .inr (15, [.ref a_22, .ref a_23, .ref a_24, .ref a_25, .ref a_26, .ref a_27, .ref a_28, .ref a_29, .ref a_30, .ref a_31, .ref a_32, .ref a_33, .ref a_34, .ref a_35])), (a_22, .inr (6, [.int (nI 0), .ref z0, .int (nI 0)])), (a_23, .inr (6, [.int (nI 0), .ref z0, .int (nI 0)])), (a_24, .inr (13, [.ref a_36, .int (nI 0)])), wa a_36 cI 0 (fun _ => 0), (a_25, .inr (13, [.ref a_37, .int (nI 0)])), wa a_37 cI 1200 (fun _ => 0), (a_26, .inr (13, [.ref a_38, .int (nI 0)])), wa a_38 cI 1200 (fun _ => 0), (a_27, .inr (13, [.ref a_39, .int (nI 0)])), wa a_39 cI 1200 (fun _ => 0), (a_28, .inr (13, [.ref a_40, .int (nI 0)])), wa a_40 cI 1200 (fun _ => 0), (a_29, .inr (13, [.ref a_41, .int (nI 0)])), wa a_41 cI 1200 (fun _ => 0), (a_30, .inr (13, [.ref a_42, .int (nI 0)])), wa a_42 cI 1200 (fun _ => 0), (a_31, .inr (13, [.ref a_43, .int (nI 0)])), wa a_43 cI 24 (fun _ => 0), (a_32, .inr (13, [.ref a_44, .int (nI 0)])), wa a_44 cI 24 (fun _ => 0), (a_33, .inr (13, [.ref a_45, .int (nI 0)])), wa a_45 cI 200 (fun _ => 0), (a_34, .inr (13, [.ref a_46, .int (nI 0)])), wa a_46 cI 1200 (fun _ => 0)] H := hP
  have hD : va_D A [(h, .inr (18, [.ref q_1, .ref q_2, .ref q_3, .ref q_5, .ref q_6, .ref q_8, .ref q_10, .ref q_12, .ref q_17, .ref q_18, .ref q_19, .ref q_20, .ref q_21, .ref q_47, .ref q_48, .null, .null, .null, .int (nI 0)])), (q_1, .inr (6, [.int (nI 0), .ref z0, .int (nI 0)])), (q_3, .inr (13, [.ref a_4, .int (nI 0)])), wa a_4 cI 200 (fun _ => 0), (q_12, .inr (14, [.ref a_13, .ref a_14])), (a_13, .inr (13, [.ref a_15, .int (nI 0)])), wa a_15 cI 270 (fun _ => 0), (a_14, .inr (13, [.ref a_16, .int (nI 0)])), wa a_16 cI 270 (fun _ => 0), (q_21, .inr (15, [.ref a_22, .ref a_23, .ref a_24, .ref a_25, .ref a_26, .ref a_27, .ref a_28, .ref a_29, .ref a_30, .ref a_31, .ref a_32, .ref a_33, .ref a_34, .ref a_35])), (a_22, .inr (6, [.int (nI 0), .ref z0, .int (nI 0)])), (a_23, .inr (6, [.int (nI 0), .ref z0, .int (nI 0)])), (a_24, .inr (13, [.ref a_36, .int (nI 0)])), wa a_36 cI 0 (fun _ => 0), (a_25, .inr (13, [.ref a_37, .int (nI 0)])), wa a_37 cI 1200 (fun _ => 0), (a_26, .inr (13, [.ref a_38, .int (nI 0)])), wa a_38 cI 1200 (fun _ => 0), (a_27, .inr (13, [.ref a_39, .int (nI 0)])), wa a_39 cI 1200 (fun _ => 0), (a_28, .inr (13, [.ref a_40, .int (nI 0)])), wa a_40 cI 1200 (fun _ => 0), (a_29, .inr (13, [.ref a_41, .int (nI 0)])), wa a_41 cI 1200 (fun _ => 0), (a_30, .inr (13, [.ref a_42, .int (nI 0)])), wa a_42 cI 1200 (fun _ => 0), (a_31, .inr (13, [.ref a_43, .int (nI 0)])), wa a_43 cI 24 (fun _ => 0), (a_32, .inr (13, [.ref a_44, .int (nI 0)])), wa a_44 cI 24 (fun _ => 0), (a_33, .inr (13, [.ref a_45, .int (nI 0)])), wa a_45 cI 200 (fun _ => 0), (a_34, .inr (13, [.ref a_46, .int (nI 0)])), wa a_46 cI 1200 (fun _ => 0)] := hD
  refine lv_aload_n hx hb dX11_init_181 rfl (lv_at hl 0 rfl) ?_
  refine va_new (ci := 9) (fs := [.null, .null, .null, .null, .null, .null, .null, .int (nI 0), .int (nI 0), .int (nI 0), .int (nI 0), .int (nI 0)]) (C := RX2) (T := TX2) (N := 12) hx hb hts inX11_init_RX2 tyX2 tyX2_ok hown (hts (.classLink RX11 96 RX2) (by decide +kernel)) (hts (.instantiable RX2 12) (by decide +kernel)) (hts (.initialized RX2) (by decide +kernel)) hK hP hD hS hA rfl (fun j hj => by rcases (show j = 0 ∨ j = 1 ∨ j = 2 ∨ j = 3 ∨ j = 4 ∨ j = 5 ∨ j = 6 ∨ j = 7 ∨ j = 8 ∨ j = 9 ∨ j = 10 ∨ j = 11 by omega) with rfl | rfl | rfl | rfl | rfl | rfl | rfl | rfl | rfl | rfl | rfl | rfl <;> rfl) (by first | exact Nat.le_of_ble_eq_true rfl | omega | (dsimp only [headSpec]; omega) | (simp only [headSpec]; omega) | omega) (by first | exact Nat.le_of_ble_eq_true rfl | omega | (dsimp only [headSpec]; omega) | (simp only [headSpec]; omega) | omega) dX11_init_182 (fun q_49 H hP hD hS => ?_)
  have hP : va_P (dC, dI) vwCl [(h, .inr (18, [.ref q_1, .ref q_2, .ref q_3, .ref q_5, .ref q_6, .ref q_8, .ref q_10, .ref q_12, .ref q_17, .ref q_18, .ref q_19, .ref q_20, .ref q_21, .ref q_47, .ref q_48, .null, .null, .null, .int (nI 0)])), (q_1, .inr (6, [.int (nI 0), .ref z0, .int (nI 0)])), (q_3, .inr (13, [.ref a_4, .int (nI 0)])), wa a_4 cI 200 (fun _ => 0), (q_12, .inr (14, [.ref a_13, .ref a_14])), (a_13, .inr (13, [.ref a_15, .int (nI 0)])), wa a_15 cI 270 (fun _ => 0), (a_14, .inr (13, [.ref a_16, .int (nI 0)])), wa a_16 cI 270 (fun _ => 0), (q_21, .inr (15, [.ref a_22, .ref a_23, .ref a_24, .ref a_25, .ref a_26, .ref a_27, .ref a_28, .ref a_29, .ref a_30, .ref a_31, .ref a_32, .ref a_33, .ref a_34, .ref a_35])), (a_22, .inr (6, [.int (nI 0), .ref z0, .int (nI 0)])), (a_23, .inr (6, [.int (nI 0), .ref z0, .int (nI 0)])), (a_24, .inr (13, [.ref a_36, .int (nI 0)])), wa a_36 cI 0 (fun _ => 0), (a_25, .inr (13, [.ref a_37, .int (nI 0)])), wa a_37 cI 1200 (fun _ => 0), (a_26, .inr (13, [.ref a_38, .int (nI 0)])), wa a_38 cI 1200 (fun _ => 0), (a_27, .inr (13, [.ref a_39, .int (nI 0)])), wa a_39 cI 1200 (fun _ => 0), (a_28, .inr (13, [.ref a_40, .int (nI 0)])), wa a_40 cI 1200 (fun _ => 0), (a_29, .inr (13, [.ref a_41, .int (nI 0)])), wa a_41 cI 1200 (fun _ => 0), (a_30, .inr (13, [.ref a_42, .int (nI 0)])), wa a_42 cI 1200 (fun _ => 0), (a_31, .inr (13, [.ref a_43, .int (nI 0)])), wa a_43 cI 24 (fun _ => 0), (a_32, .inr (13, [.ref a_44, .int (nI 0)])), wa a_44 cI 24 (fun _ => 0), (a_33, .inr (13, [.ref a_45, .int (nI 0)])), wa a_45 cI 200 (fun _ => 0), (a_34, .inr (13, [.ref a_46, .int (nI 0)])), wa a_46 cI 1200 (fun _ => 0), (q_49, .inr (9, [.null, .null, .null, .null, .null, .null, .null, .int (nI 0), .int (nI 0), .int (nI 0), .int (nI 0), .int (nI 0)]))] H := hP
  have hD : va_D A [(h, .inr (18, [.ref q_1, .ref q_2, .ref q_3, .ref q_5, .ref q_6, .ref q_8, .ref q_10, .ref q_12, .ref q_17, .ref q_18, .ref q_19, .ref q_20, .ref q_21, .ref q_47, .ref q_48, .null, .null, .null, .int (nI 0)])), (q_1, .inr (6, [.int (nI 0), .ref z0, .int (nI 0)])), (q_3, .inr (13, [.ref a_4, .int (nI 0)])), wa a_4 cI 200 (fun _ => 0), (q_12, .inr (14, [.ref a_13, .ref a_14])), (a_13, .inr (13, [.ref a_15, .int (nI 0)])), wa a_15 cI 270 (fun _ => 0), (a_14, .inr (13, [.ref a_16, .int (nI 0)])), wa a_16 cI 270 (fun _ => 0), (q_21, .inr (15, [.ref a_22, .ref a_23, .ref a_24, .ref a_25, .ref a_26, .ref a_27, .ref a_28, .ref a_29, .ref a_30, .ref a_31, .ref a_32, .ref a_33, .ref a_34, .ref a_35])), (a_22, .inr (6, [.int (nI 0), .ref z0, .int (nI 0)])), (a_23, .inr (6, [.int (nI 0), .ref z0, .int (nI 0)])), (a_24, .inr (13, [.ref a_36, .int (nI 0)])), wa a_36 cI 0 (fun _ => 0), (a_25, .inr (13, [.ref a_37, .int (nI 0)])), wa a_37 cI 1200 (fun _ => 0), (a_26, .inr (13, [.ref a_38, .int (nI 0)])), wa a_38 cI 1200 (fun _ => 0), (a_27, .inr (13, [.ref a_39, .int (nI 0)])), wa a_39 cI 1200 (fun _ => 0), (a_28, .inr (13, [.ref a_40, .int (nI 0)])), wa a_40 cI 1200 (fun _ => 0), (a_29, .inr (13, [.ref a_41, .int (nI 0)])), wa a_41 cI 1200 (fun _ => 0), (a_30, .inr (13, [.ref a_42, .int (nI 0)])), wa a_42 cI 1200 (fun _ => 0), (a_31, .inr (13, [.ref a_43, .int (nI 0)])), wa a_43 cI 24 (fun _ => 0), (a_32, .inr (13, [.ref a_44, .int (nI 0)])), wa a_44 cI 24 (fun _ => 0), (a_33, .inr (13, [.ref a_45, .int (nI 0)])), wa a_45 cI 200 (fun _ => 0), (a_34, .inr (13, [.ref a_46, .int (nI 0)])), wa a_46 cI 1200 (fun _ => 0), (q_49, .inr (9, [.null, .null, .null, .null, .null, .null, .null, .int (nI 0), .int (nI 0), .int (nI 0), .int (nI 0), .int (nI 0)]))] := hD
  refine W.widen (k := 93) (n := 19227) (by first | exact Nat.le_of_ble_eq_true rfl | omega | (dsimp only [headSpec]; omega) | (simp only [headSpec]; omega) | omega) (by first | exact Nat.le_of_ble_eq_true rfl | omega | (dsimp only [headSpec]; omega) | (simp only [headSpec]; omega) | omega) ?_
  refine lv_dup hx hb dX11_init_185 rfl ?_
  have hPc : va_P (dC, dI) vwCl [(q_49, .inr (9, [.null, .null, .null, .null, .null, .null, .null, .int (nI 0), .int (nI 0), .int (nI 0), .int (nI 0), .int (nI 0)]))] _ := hP.sub [34] rfl
  have hDc : va_D _ [(q_49, .inr (9, [.null, .null, .null, .null, .null, .null, .null, .int (nI 0), .int (nI 0), .int (nI 0), .int (nI 0), .int (nI 0)]))] := hD.sub [34] (by decide) rfl
  have hFc := va_free (wc := [(q_49, .inr (9, [.null, .null, .null, .null, .null, .null, .null, .int (nI 0), .int (nI 0), .int (nI 0), .int (nI 0), .int (nI 0)]))]) hD hS hA [34] rfl
  refine va_callv (va_runI (As := []) (rest := [.ref q_49, .ref h]) ⟨hx, hb, hml, hown, hts⟩ (c_diskinit l dC dI cI cO H.size q_49) (cwI 0 hts ugX11_init_X2_init rfl rfl rfl (hts (.initialized RX2) (by decide +kernel)) (hts (.methodLink RX11 98 yX2_init) (by decide +kernel)) (hts (.instanceMethod yX2_init) (by decide +kernel)) rfl (by decide +kernel) ⟨(by first | exact Nat.le_of_ble_eq_true rfl | omega | (dsimp only [headSpec]; omega) | (simp only [headSpec]; omega) | omega), (by first | exact Nat.le_of_ble_eq_true rfl | omega | (dsimp only [headSpec]; omega) | (simp only [headSpec]; omega) | omega)⟩) ⟨fun a U g mk q => by obtain ⟨q0, q1, qP, qK, qD⟩ := q; exact ⟨q0, q1, qP, va_K.moved (u := U) (U := U.calling g mk a) (Vm.Alike.refl U.vm) qK, qD⟩, fun U hU hW => ⟨rfl, by rw [hU], by rw [hU]; exact hPc, va_K.moved hW.alike hK, hDc.weaken (fun _ _ _ _ => trivial)⟩⟩ rfl rfl hl.1 rfl (lv_room (Nat.le_of_ble_eq_true rfl)) dX11_init_186 ⟨(by first | exact Nat.le_of_ble_eq_true rfl | omega | (dsimp only [headSpec]; omega) | (simp only [headSpec]; omega) | omega), (by first | exact Nat.le_of_ble_eq_true rfl | omega | (dsimp only [headSpec]; omega) | (simp only [headSpec]; omega) | omega)⟩) hS (fun q _ h => hFc q h) hFc (fun u t H locs ht hvm hw hB hz1 hk1 hS => ?_)
  obtain ⟨hP1, hK1, hD1⟩ := hB
  rw [ht] at hP1
  obtain ⟨hP, hD⟩ := va_join (wr := [(h, .inr (18, [.ref q_1, .ref q_2, .ref q_3, .ref q_5, .ref q_6, .ref q_8, .ref q_10, .ref q_12, .ref q_17, .ref q_18, .ref q_19, .ref q_20, .ref q_21, .ref q_47, .ref q_48, .null, .null, .null, .int (nI 0)])), (q_1, .inr (6, [.int (nI 0), .ref z0, .int (nI 0)])), (q_3, .inr (13, [.ref a_4, .int (nI 0)])), wa a_4 cI 200 (fun _ => 0), (q_12, .inr (14, [.ref a_13, .ref a_14])), (a_13, .inr (13, [.ref a_15, .int (nI 0)])), wa a_15 cI 270 (fun _ => 0), (a_14, .inr (13, [.ref a_16, .int (nI 0)])), wa a_16 cI 270 (fun _ => 0), (q_21, .inr (15, [.ref a_22, .ref a_23, .ref a_24, .ref a_25, .ref a_26, .ref a_27, .ref a_28, .ref a_29, .ref a_30, .ref a_31, .ref a_32, .ref a_33, .ref a_34, .ref a_35])), (a_22, .inr (6, [.int (nI 0), .ref z0, .int (nI 0)])), (a_23, .inr (6, [.int (nI 0), .ref z0, .int (nI 0)])), (a_24, .inr (13, [.ref a_36, .int (nI 0)])), wa a_36 cI 0 (fun _ => 0), (a_25, .inr (13, [.ref a_37, .int (nI 0)])), wa a_37 cI 1200 (fun _ => 0), (a_26, .inr (13, [.ref a_38, .int (nI 0)])), wa a_38 cI 1200 (fun _ => 0), (a_27, .inr (13, [.ref a_39, .int (nI 0)])), wa a_39 cI 1200 (fun _ => 0), (a_28, .inr (13, [.ref a_40, .int (nI 0)])), wa a_40 cI 1200 (fun _ => 0), (a_29, .inr (13, [.ref a_41, .int (nI 0)])), wa a_41 cI 1200 (fun _ => 0), (a_30, .inr (13, [.ref a_42, .int (nI 0)])), wa a_42 cI 1200 (fun _ => 0), (a_31, .inr (13, [.ref a_43, .int (nI 0)])), wa a_43 cI 24 (fun _ => 0), (a_32, .inr (13, [.ref a_44, .int (nI 0)])), wa a_44 cI 24 (fun _ => 0), (a_33, .inr (13, [.ref a_45, .int (nI 0)])), wa a_45 cI 200 (fun _ => 0), (a_34, .inr (13, [.ref a_46, .int (nI 0)])), wa a_46 cI 1200 (fun _ => 0)]) (w1 := []) hP hD [34] [0, 1, 2, 3, 4, 5, 6, 7, 8, 9, 10, 11, 12, 13, 14, 15, 16, 17, 18, 19, 20, 21, 22, 23, 24, 25, 26, 27, 28, 29, 30, 31, 32, 33] rfl rfl (by decide) (by decide) hk1 hFc hP1 hD1
  have hP : va_P (dC, dI) vwCl [(h, .inr (18, [.ref q_1, .ref q_2, .ref q_3, .ref q_5, .ref q_6, .ref q_8, .ref q_10, .ref q_12, .ref q_17, .ref q_18, .ref q_19, .ref q_20, .ref q_21, .ref q_47, .ref q_48, .null, .null, .null, .int (nI 0)])), (q_1, .inr (6, [.int (nI 0), .ref z0, .int (nI 0)])), (q_3, .inr (13, [.ref a_4, .int (nI 0)])), wa a_4 cI 200 (fun _ => 0), (q_12, .inr (14, [.ref a_13, .ref a_14])), (a_13, .inr (13, [.ref a_15, .int (nI 0)])), wa a_15 cI 270 (fun _ => 0), (a_14, .inr (13, [.ref a_16, .int (nI 0)])), wa a_16 cI 270 (fun _ => 0), (q_21, .inr (15, [.ref a_22, .ref a_23, .ref a_24, .ref a_25, .ref a_26, .ref a_27, .ref a_28, .ref a_29, .ref a_30, .ref a_31, .ref a_32, .ref a_33, .ref a_34, .ref a_35])), (a_22, .inr (6, [.int (nI 0), .ref z0, .int (nI 0)])), (a_23, .inr (6, [.int (nI 0), .ref z0, .int (nI 0)])), (a_24, .inr (13, [.ref a_36, .int (nI 0)])), wa a_36 cI 0 (fun _ => 0), (a_25, .inr (13, [.ref a_37, .int (nI 0)])), wa a_37 cI 1200 (fun _ => 0), (a_26, .inr (13, [.ref a_38, .int (nI 0)])), wa a_38 cI 1200 (fun _ => 0), (a_27, .inr (13, [.ref a_39, .int (nI 0)])), wa a_39 cI 1200 (fun _ => 0), (a_28, .inr (13, [.ref a_40, .int (nI 0)])), wa a_40 cI 1200 (fun _ => 0), (a_29, .inr (13, [.ref a_41, .int (nI 0)])), wa a_41 cI 1200 (fun _ => 0), (a_30, .inr (13, [.ref a_42, .int (nI 0)])), wa a_42 cI 1200 (fun _ => 0), (a_31, .inr (13, [.ref a_43, .int (nI 0)])), wa a_43 cI 24 (fun _ => 0), (a_32, .inr (13, [.ref a_44, .int (nI 0)])), wa a_44 cI 24 (fun _ => 0), (a_33, .inr (13, [.ref a_45, .int (nI 0)])), wa a_45 cI 200 (fun _ => 0), (a_34, .inr (13, [.ref a_46, .int (nI 0)])), wa a_46 cI 1200 (fun _ => 0)] H := hP
  have hD : va_D A [(h, .inr (18, [.ref q_1, .ref q_2, .ref q_3, .ref q_5, .ref q_6, .ref q_8, .ref q_10, .ref q_12, .ref q_17, .ref q_18, .ref q_19, .ref q_20, .ref q_21, .ref q_47, .ref q_48, .null, .null, .null, .int (nI 0)])), (q_1, .inr (6, [.int (nI 0), .ref z0, .int (nI 0)])), (q_3, .inr (13, [.ref a_4, .int (nI 0)])), wa a_4 cI 200 (fun _ => 0), (q_12, .inr (14, [.ref a_13, .ref a_14])), (a_13, .inr (13, [.ref a_15, .int (nI 0)])), wa a_15 cI 270 (fun _ => 0), (a_14, .inr (13, [.ref a_16, .int (nI 0)])), wa a_16 cI 270 (fun _ => 0), (q_21, .inr (15, [.ref a_22, .ref a_23, .ref a_24, .ref a_25, .ref a_26, .ref a_27, .ref a_28, .ref a_29, .ref a_30, .ref a_31, .ref a_32, .ref a_33, .ref a_34, .ref a_35])), (a_22, .inr (6, [.int (nI 0), .ref z0, .int (nI 0)])), (a_23, .inr (6, [.int (nI 0), .ref z0, .int (nI 0)])), (a_24, .inr (13, [.ref a_36, .int (nI 0)])), wa a_36 cI 0 (fun _ => 0), (a_25, .inr (13, [.ref a_37, .int (nI 0)])), wa a_37 cI 1200 (fun _ => 0), (a_26, .inr (13, [.ref a_38, .int (nI 0)])), wa a_38 cI 1200 (fun _ => 0), (a_27, .inr (13, [.ref a_39, .int (nI 0)])), wa a_39 cI 1200 (fun _ => 0), (a_28, .inr (13, [.ref a_40, .int (nI 0)])), wa a_40 cI 1200 (fun _ => 0), (a_29, .inr (13, [.ref a_41, .int (nI 0)])), wa a_41 cI 1200 (fun _ => 0), (a_30, .inr (13, [.ref a_42, .int (nI 0)])), wa a_42 cI 1200 (fun _ => 0), (a_31, .inr (13, [.ref a_43, .int (nI 0)])), wa a_43 cI 24 (fun _ => 0), (a_32, .inr (13, [.ref a_44, .int (nI 0)])), wa a_44 cI 24 (fun _ => 0), (a_33, .inr (13, [.ref a_45, .int (nI 0)])), wa a_45 cI 200 (fun _ => 0), (a_34, .inr (13, [.ref a_46, .int (nI 0)])), wa a_46 cI 1200 (fun _ => 0)] := hD
  refine W.widen (k := 114) (n := 20481) (by first | exact Nat.le_of_ble_eq_true rfl | omega | (dsimp only [headSpec]; omega) | (simp only [headSpec]; omega) | omega) (by first | exact Nat.le_of_ble_eq_true rfl | omega | (dsimp only [headSpec]; omega) | (simp only [headSpec]; omega) | omega) ?_
  have hP : va_P (dC, dI) vwCl [(h, .inr (18, [.ref q_1, .ref q_2, .ref q_3, .ref q_5, .ref q_6, .ref q_8, .ref q_10, .ref q_12, .ref q_17, .ref q_18, .ref q_19, .ref q_20, .ref q_21, .ref q_47, .ref q_48, .null, .null, .null, .int (nI 0)])), (q_1, .inr (6, [.int (nI 0), .ref z0, .int (nI 0)])), (q_3, .inr (13, [.ref a_4, .int (nI 0)])), wa a_4 cI 200 (fun _ => 0), (q_12, .inr (14, [.ref a_13, .ref a_14])), (a_13, .inr (13, [.ref a_15, .int (nI 0)])), wa a_15 cI 270 (fun _ => 0), (a_14, .inr (13, [.ref a_16, .int (nI 0)])), wa a_16 cI 270 (fun _ => 0), (q_21, .inr (15, [.ref a_22, .ref a_23, .ref a_24, .ref a_25, .ref a_26, .ref a_27, .ref a_28, .ref a_29, .ref a_30, .ref a_31, .ref a_32, .ref a_33, .ref a_34, .ref a_35])), (a_22, .inr (6, [.int (nI 0), .ref z0, .int (nI 0)])), (a_23, .inr (6, [.int (nI 0), .ref z0, .int (nI 0)])), (a_24, .inr (13, [.ref a_36, .int (nI 0)])), wa a_36 cI 0 (fun _ => 0), (a_25, .inr (13, [.ref a_37, .int (nI 0)])), wa a_37 cI 1200 (fun _ => 0), (a_26, .inr (13, [.ref a_38, .int (nI 0)])), wa a_38 cI 1200 (fun _ => 0), (a_27, .inr (13, [.ref a_39, .int (nI 0)])), wa a_39 cI 1200 (fun _ => 0), (a_28, .inr (13, [.ref a_40, .int (nI 0)])), wa a_40 cI 1200 (fun _ => 0), (a_29, .inr (13, [.ref a_41, .int (nI 0)])), wa a_41 cI 1200 (fun _ => 0), (a_30, .inr (13, [.ref a_42, .int (nI 0)])), wa a_42 cI 1200 (fun _ => 0), (a_31, .inr (13, [.ref a_43, .int (nI 0)])), wa a_43 cI 24 (fun _ => 0), (a_32, .inr (13, [.ref a_44, .int (nI 0)])), wa a_44 cI 24 (fun _ => 0), (a_33, .inr (13, [.ref a_45, .int (nI 0)])), wa a_45 cI 200 (fun _ => 0), (a_34, .inr (13, [.ref a_46, .int (nI 0)])), wa a_46 cI 1200 (fun _ => 0)] H := hP.sub [0, 1, 2, 3, 4, 5, 6, 7, 8, 9, 10, 11, 12, 13, 14, 15, 16, 17, 18, 19, 20, 21, 22, 23, 24, 25, 26, 27, 28, 29, 30, 31, 32, 33] rfl
  have hD : va_D A [(h, .inr (18, [.ref q_1, .ref q_2, .ref q_3, .ref q_5, .ref q_6, .ref q_8, .ref q_10, .ref q_12, .ref q_17, .ref q_18, .ref q_19, .ref q_20, .ref q_21, .ref q_47, .ref q_48, .null, .null, .null, .int (nI 0)])), (q_1, .inr (6, [.int (nI 0), .ref z0, .int (nI 0)])), (q_3, .inr (13, [.ref a_4, .int (nI 0)])), wa a_4 cI 200 (fun _ => 0), (q_12, .inr (14, [.ref a_13, .ref a_14])), (a_13, .inr (13, [.ref a_15, .int (nI 0)])), wa a_15 cI 270 (fun _ => 0), (a_14, .inr (13, [.ref a_16, .int (nI 0)])), wa a_16 cI 270 (fun _ => 0), (q_21, .inr (15, [.ref a_22, .ref a_23, .ref a_24, .ref a_25, .ref a_26, .ref a_27, .ref a_28, .ref a_29, .ref a_30, .ref a_31, .ref a_32, .ref a_33, .ref a_34, .ref a_35])), (a_22, .inr (6, [.int (nI 0), .ref z0, .int (nI 0)])), (a_23, .inr (6, [.int (nI 0), .ref z0, .int (nI 0)])), (a_24, .inr (13, [.ref a_36, .int (nI 0)])), wa a_36 cI 0 (fun _ => 0), (a_25, .inr (13, [.ref a_37, .int (nI 0)])), wa a_37 cI 1200 (fun _ => 0), (a_26, .inr (13, [.ref a_38, .int (nI 0)])), wa a_38 cI 1200 (fun _ => 0), (a_27, .inr (13, [.ref a_39, .int (nI 0)])), wa a_39 cI 1200 (fun _ => 0), (a_28, .inr (13, [.ref a_40, .int (nI 0)])), wa a_40 cI 1200 (fun _ => 0), (a_29, .inr (13, [.ref a_41, .int (nI 0)])), wa a_41 cI 1200 (fun _ => 0), (a_30, .inr (13, [.ref a_42, .int (nI 0)])), wa a_42 cI 1200 (fun _ => 0), (a_31, .inr (13, [.ref a_43, .int (nI 0)])), wa a_43 cI 24 (fun _ => 0), (a_32, .inr (13, [.ref a_44, .int (nI 0)])), wa a_44 cI 24 (fun _ => 0), (a_33, .inr (13, [.ref a_45, .int (nI 0)])), wa a_45 cI 200 (fun _ => 0), (a_34, .inr (13, [.ref a_46, .int (nI 0)])), wa a_46 cI 1200 (fun _ => 0)] := hD.sub [0, 1, 2, 3, 4, 5, 6, 7, 8, 9, 10, 11, 12, 13, 14, 15, 16, 17, 18, 19, 20, 21, 22, 23, 24, 25, 26, 27, 28, 29, 30, 31, 32, 33] (by decide) rfl
  refine va_putF (D := (dC, dI)) (ci := 18) (v := .ref q_49) (ty := .object "Patchferry$Disk") (C := RX11) (T := TX11) (N := 19) hx hb hts inX11_init_RX11 tyX11 tyX11_ok nmX11 hown hK hP hD hS 0 rfl rfl 15 (by decide) (hts (.fieldLink RX11 99 "Patchferry" "disk" "LPatchferry$Disk;") (by decide +kernel)) (fun _ h9 => h9) rfl hin rfl (by decide +kernel) rfl rfl (Nat.le_of_ble_eq_true rfl) dX11_init_189 (fun H locs hP hD hS => ?_)
  have hP : va_P (dC, dI) vwCl [(h, .inr (18, [.ref q_1, .ref q_2, .ref q_3, .ref q_5, .ref q_6, .ref q_8, .ref q_10, .ref q_12, .ref q_17, .ref q_18, .ref q_19, .ref q_20, .ref q_21, .ref q_47, .ref q_48, .ref q_49, .null, .null, .int (nI 0)])), (q_1, .inr (6, [.int (nI 0), .ref z0, .int (nI 0)])), (q_3, .inr (13, [.ref a_4, .int (nI 0)])), wa a_4 cI 200 (fun _ => 0), (q_12, .inr (14, [.ref a_13, .ref a_14])), (a_13, .inr (13, [.ref a_15, .int (nI 0)])), wa a_15 cI 270 (fun _ => 0), (a_14, .inr (13, [.ref a_16, .int (nI 0)])), wa a_16 cI 270 (fun _ => 0), (q_21, .inr (15, [.ref a_22, .ref a_23, .ref a_24, .ref a_25, .ref a_26, .ref a_27, .ref a_28, .ref a_29, .ref a_30, .ref a_31, .ref a_32, .ref a_33, .ref a_34, .ref a_35])), (a_22, .inr (6, [.int (nI 0), .ref z0, .int (nI 0)])), (a_23, .inr (6, [.int (nI 0), .ref z0, .int (nI 0)])), (a_24, .inr (13, [.ref a_36, .int (nI 0)])), wa a_36 cI 0 (fun _ => 0), (a_25, .inr (13, [.ref a_37, .int (nI 0)])), wa a_37 cI 1200 (fun _ => 0), (a_26, .inr (13, [.ref a_38, .int (nI 0)])), wa a_38 cI 1200 (fun _ => 0), (a_27, .inr (13, [.ref a_39, .int (nI 0)])), wa a_39 cI 1200 (fun _ => 0), (a_28, .inr (13, [.ref a_40, .int (nI 0)])), wa a_40 cI 1200 (fun _ => 0), (a_29, .inr (13, [.ref a_41, .int (nI 0)])), wa a_41 cI 1200 (fun _ => 0), (a_30, .inr (13, [.ref a_42, .int (nI 0)])), wa a_42 cI 1200 (fun _ => 0), (a_31, .inr (13, [.ref a_43, .int (nI 0)])), wa a_43 cI 24 (fun _ => 0), (a_32, .inr (13, [.ref a_44, .int (nI 0)])), wa a_44 cI 24 (fun _ => 0), (a_33, .inr (13, [.ref a_45, .int (nI 0)])), wa a_45 cI 200 (fun _ => 0), (a_34, .inr (13, [.ref a_46, .int (nI 0)])), wa a_46 cI 1200 (fun _ => 0)] H := hP
  have hD : va_D A [(h, .inr (18, [.ref q_1, .ref q_2, .ref q_3, .ref q_5, .ref q_6, .ref q_8, .ref q_10, .ref q_12, .ref q_17, .ref q_18, .ref q_19, .ref q_20, .ref q_21, .ref q_47, .ref q_48, .ref q_49, .null, .null, .int (nI 0)])), (q_1, .inr (6, [.int (nI 0), .ref z0, .int (nI 0)])), (q_3, .inr (13, [.ref a_4, .int (nI 0)])), wa a_4 cI 200 (fun _ => 0), (q_12, .inr (14, [.ref a_13, .ref a_14])), (a_13, .inr (13, [.ref a_15, .int (nI 0)])), wa a_15 cI 270 (fun _ => 0), (a_14, .inr (13, [.ref a_16, .int (nI 0)])), wa a_16 cI 270 (fun _ => 0), (q_21, .inr (15, [.ref a_22, .ref a_23, .ref a_24, .ref a_25, .ref a_26, .ref a_27, .ref a_28, .ref a_29, .ref a_30, .ref a_31, .ref a_32, .ref a_33, .ref a_34, .ref a_35])), (a_22, .inr (6, [.int (nI 0), .ref z0, .int (nI 0)])), (a_23, .inr (6, [.int (nI 0), .ref z0, .int (nI 0)])), (a_24, .inr (13, [.ref a_36, .int (nI 0)])), wa a_36 cI 0 (fun _ => 0), (a_25, .inr (13, [.ref a_37, .int (nI 0)])), wa a_37 cI 1200 (fun _ => 0), (a_26, .inr (13, [.ref a_38, .int (nI 0)])), wa a_38 cI 1200 (fun _ => 0), (a_27, .inr (13, [.ref a_39, .int (nI 0)])), wa a_39 cI 1200 (fun _ => 0), (a_28, .inr (13, [.ref a_40, .int (nI 0)])), wa a_40 cI 1200 (fun _ => 0), (a_29, .inr (13, [.ref a_41, .int (nI 0)])), wa a_41 cI 1200 (fun _ => 0), (a_30, .inr (13, [.ref a_42, .int (nI 0)])), wa a_42 cI 1200 (fun _ => 0), (a_31, .inr (13, [.ref a_43, .int (nI 0)])), wa a_43 cI 24 (fun _ => 0), (a_32, .inr (13, [.ref a_44, .int (nI 0)])), wa a_44 cI 24 (fun _ => 0), (a_33, .inr (13, [.ref a_45, .int (nI 0)])), wa a_45 cI 200 (fun _ => 0), (a_34, .inr (13, [.ref a_46, .int (nI 0)])), wa a_46 cI 1200 (fun _ => 0)] := hD
  refine lv_aload_n hx hb dX11_init_192 rfl (lv_at hl 0 rfl) ?_
  refine va_new (ci := 17) (fs := [.null, .null, .null, .null, .null, .null]) (C := RX10) (T := TX10) (N := 6) hx hb hts inX11_init_RX10 tyX10 tyX10_ok hown (hts (.classLink RX11 103 RX10) (by decide +kernel)) (hts (.instantiable RX10 6) (by decide +kernel)) (hts (.initialized RX10) (by decide +kernel)) hK hP hD hS hA rfl (fun j hj => by rcases (show j = 0 ∨ j = 1 ∨ j = 2 ∨ j = 3 ∨ j = 4 ∨ j = 5 by omega) with rfl | rfl | rfl | rfl | rfl | rfl <;> rfl) (by first | exact Nat.le_of_ble_eq_true rfl | omega | (dsimp only [headSpec]; omega) | (simp only [headSpec]; omega) | omega) (by first | exact Nat.le_of_ble_eq_true rfl | omega | (dsimp only [headSpec]; omega) | (simp only [headSpec]; omega) | omega) dX11_init_193 (fun q_50 H hP hD hS => ?_)
  have hP : va_P (dC, dI) vwCl [(h, .inr (18, [.ref q_1, .ref q_2, .ref q_3, .ref q_5, .ref q_6, .ref q_8, .ref q_10, .ref q_12, .ref q_17, .ref q_18, .ref q_19, .ref q_20, .ref q_21, .ref q_47, .ref q_48, .ref q_49, .null, .null, .int (nI 0)])), (q_1, .inr (6, [.int (nI 0), .ref z0, .int (nI 0)])), (q_3, .inr (13, [.ref a_4, .int (nI 0)])), wa a_4 cI 200 (fun _ => 0), (q_12, .inr (14, [.ref a_13, .ref a_14])), (a_13, .inr (13, [.ref a_15, .int (nI 0)])), wa a_15 cI 270 (fun _ => 0), (a_14, .inr (13, [.ref a_16, .int (nI 0)])), wa a_16 cI 270 (fun _ => 0), (q_21, .inr (15, [.ref a_22, .ref a_23, .ref a_24, .ref a_25, .ref a_26, .ref a_27, .ref a_28, .ref a_29, .ref a_30, .ref a_31, .ref a_32, .ref a_33, .ref a_34, .ref a_35])), (a_22, .inr (6, [.int (nI 0), .ref z0, .int (nI 0)])), (a_23, .inr (6, [.int (nI 0), .ref z0, .int (nI 0)])), (a_24, .inr (13, [.ref a_36, .int (nI 0)])), wa a_36 cI 0 (fun _ => 0), (a_25, .inr (13, [.ref a_37, .int (nI 0)])), wa a_37 cI 1200 (fun _ => 0), (a_26, .inr (13, [.ref a_38, .int (nI 0)])), wa a_38 cI 1200 (fun _ => 0), (a_27, .inr (13, [.ref a_39, .int (nI 0)])), wa a_39 cI 1200 (fun _ => 0), (a_28, .inr (13, [.ref a_40, .int (nI 0)])), wa a_40 cI 1200 (fun _ => 0), (a_29, .inr (13, [.ref a_41, .int (nI 0)])), wa a_41 cI 1200 (fun _ => 0), (a_30, .inr (13, [.ref a_42, .int (nI 0)])), wa a_42 cI 1200 (fun _ => 0), (a_31, .inr (13, [.ref a_43, .int (nI 0)])), wa a_43 cI 24 (fun _ => 0), (a_32, .inr (13, [.ref a_44, .int (nI 0)])), wa a_44 cI 24 (fun _ => 0), (a_33, .inr (13, [.ref a_45, .int (nI 0)])), wa a_45 cI 200 (fun _ => 0), (a_34, .inr (13, [.ref a_46, .int (nI 0)])), wa a_46 cI 1200 (fun _ => 0), (q_50, .inr (17, [.null, .null, .null, .null, .null, .null]))] H := hP
  have hD : va_D A [(h, .inr (18, [.ref q_1, .ref q_2, .ref q_3, .ref q_5, .ref q_6, .ref q_8, .ref q_10, .ref q_12, .ref q_17, .ref q_18, .ref q_19, .ref q_20, .ref q_21, .ref q_47, .ref q_48, .ref q_49, .null, .null, .int (nI 0)])), (q_1, .inr (6, [.int (nI 0), .ref z0, .int (nI 0)])), (q_3, .inr (13, [.ref a_4, .int (nI 0)])), wa a_4 cI 200 (fun _ => 0), (q_12, .inr (14, [.ref a_13, .ref a_14])), (a_13, .inr (13, [.ref a_15, .int (nI 0)])), wa a_15 cI 270 (fun _ => 0), (a_14, .inr (13, [.ref a_16, .int (nI 0)])), wa a_16 cI 270 (fun _ => 0), (q_21, .inr (15, [.ref a_22, .ref a_23, .ref a_24, .ref a_25, .ref a_26, .ref a_27, .ref a_28, .ref a_29, .ref a_30, .ref a_31, .ref a_32, .ref a_33, .ref a_34, .ref a_35])), (a_22, .inr (6, [.int (nI 0), .ref z0, .int (nI 0)])), (a_23, .inr (6, [.int (nI 0), .ref z0, .int (nI 0)])), (a_24, .inr (13, [.ref a_36, .int (nI 0)])), wa a_36 cI 0 (fun _ => 0), (a_25, .inr (13, [.ref a_37, .int (nI 0)])), wa a_37 cI 1200 (fun _ => 0), (a_26, .inr (13, [.ref a_38, .int (nI 0)])), wa a_38 cI 1200 (fun _ => 0), (a_27, .inr (13, [.ref a_39, .int (nI 0)])), wa a_39 cI 1200 (fun _ => 0), (a_28, .inr (13, [.ref a_40, .int (nI 0)])), wa a_40 cI 1200 (fun _ => 0), (a_29, .inr (13, [.ref a_41, .int (nI 0)])), wa a_41 cI 1200 (fun _ => 0), (a_30, .inr (13, [.ref a_42, .int (nI 0)])), wa a_42 cI 1200 (fun _ => 0), (a_31, .inr (13, [.ref a_43, .int (nI 0)])), wa a_43 cI 24 (fun _ => 0), (a_32, .inr (13, [.ref a_44, .int (nI 0)])), wa a_44 cI 24 (fun _ => 0), (a_33, .inr (13, [.ref a_45, .int (nI 0)])), wa a_45 cI 200 (fun _ => 0), (a_34, .inr (13, [.ref a_46, .int (nI 0)])), wa a_46 cI 1200 (fun _ => 0), (q_50, .inr (17, [.null, .null, .null, .null, .null, .null]))] := hD
  refine W.widen (k := 115) (n := 20487) (by first | exact Nat.le_of_ble_eq_true rfl | omega | (dsimp only [headSpec]; omega) | (simp only [headSpec]; omega) | omega) (by first | exact Nat.le_of_ble_eq_true rfl | omega | (dsimp only [headSpec]; omega) | (simp only [headSpec]; omega) | omega) ?_
  refine lv_dup hx hb dX11_init_196 rfl ?_
  have hPc : va_P (dC, dI) vwCl [(q_50, .inr (17, [.null, .null, .null, .null, .null, .null]))] _ := hP.sub [34] rfl
  have hDc : va_D _ [(q_50, .inr (17, [.null, .null, .null, .null, .null, .null]))] := hD.sub [34] (by decide) rfl
  have hFc := va_free (wc := [(q_50, .inr (17, [.null, .null, .null, .null, .null, .null]))]) hD hS hA [34] rfl
  refine va_callv (va_runI (As := []) (rest := [.ref q_50, .ref h]) ⟨hx, hb, hml, hown, hts⟩ (c_versionsinit l dC dI cI cO z0 H.size q_50) (cwI 0 hts ugX11_init_X10_init rfl rfl rfl (hts (.initialized RX10) (by decide +kernel)) (hts (.methodLink RX11 105 yX10_init) (by decide +kernel)) (hts (.instanceMethod yX10_init) (by decide +kernel)) rfl (by decide +kernel) ⟨(by first | exact Nat.le_of_ble_eq_true rfl | omega | (dsimp only [headSpec]; omega) | (simp only [headSpec]; omega) | omega), (by first | exact Nat.le_of_ble_eq_true rfl | omega | (dsimp only [headSpec]; omega) | (simp only [headSpec]; omega) | omega)⟩) ⟨fun a U g mk q => by obtain ⟨q0, q1, qP, qK, qD, qZ⟩ := q; exact ⟨q0, q1, qP, va_K.moved (u := U) (U := U.calling g mk a) (Vm.Alike.refl U.vm) qK, qD, qZ.moved (Vm.Alike.refl U.vm) rfl⟩, fun U hU hW => ⟨rfl, by rw [hU], by rw [hU]; exact hPc, va_K.moved hW.alike hK, hDc.weaken (fun _ _ _ _ => trivial), uz_call hZ hS hFc hU hW.alike⟩⟩ rfl rfl hl.1 rfl (lv_room (Nat.le_of_ble_eq_true rfl)) dX11_init_197 ⟨(by first | exact Nat.le_of_ble_eq_true rfl | omega | (dsimp only [headSpec]; omega) | (simp only [headSpec]; omega) | omega), (by first | exact Nat.le_of_ble_eq_true rfl | omega | (dsimp only [headSpec]; omega) | (simp only [headSpec]; omega) | omega)⟩) hS (fun q _ h => hFc q h) hFc (fun u t H locs ht hvm hw hB hz1 hk1 hS => ?_)
  obtain ⟨hP1, hK1, hD1⟩ := hB
  rw [ht] at hP1
  obtain ⟨hP, hD⟩ := va_join (wr := [(h, .inr (18, [.ref q_1, .ref q_2, .ref q_3, .ref q_5, .ref q_6, .ref q_8, .ref q_10, .ref q_12, .ref q_17, .ref q_18, .ref q_19, .ref q_20, .ref q_21, .ref q_47, .ref q_48, .ref q_49, .null, .null, .int (nI 0)])), (q_1, .inr (6, [.int (nI 0), .ref z0, .int (nI 0)])), (q_3, .inr (13, [.ref a_4, .int (nI 0)])), wa a_4 cI 200 (fun _ => 0), (q_12, .inr (14, [.ref a_13, .ref a_14])), (a_13, .inr (13, [.ref a_15, .int (nI 0)])), wa a_15 cI 270 (fun _ => 0), (a_14, .inr (13, [.ref a_16, .int (nI 0)])), wa a_16 cI 270 (fun _ => 0), (q_21, .inr (15, [.ref a_22, .ref a_23, .ref a_24, .ref a_25, .ref a_26, .ref a_27, .ref a_28, .ref a_29, .ref a_30, .ref a_31, .ref a_32, .ref a_33, .ref a_34, .ref a_35])), (a_22, .inr (6, [.int (nI 0), .ref z0, .int (nI 0)])), (a_23, .inr (6, [.int (nI 0), .ref z0, .int (nI 0)])), (a_24, .inr (13, [.ref a_36, .int (nI 0)])), wa a_36 cI 0 (fun _ => 0), (a_25, .inr (13, [.ref a_37, .int (nI 0)])), wa a_37 cI 1200 (fun _ => 0), (a_26, .inr (13, [.ref a_38, .int (nI 0)])), wa a_38 cI 1200 (fun _ => 0), (a_27, .inr (13, [.ref a_39, .int (nI 0)])), wa a_39 cI 1200 (fun _ => 0), (a_28, .inr (13, [.ref a_40, .int (nI 0)])), wa a_40 cI 1200 (fun _ => 0), (a_29, .inr (13, [.ref a_41, .int (nI 0)])), wa a_41 cI 1200 (fun _ => 0), (a_30, .inr (13, [.ref a_42, .int (nI 0)])), wa a_42 cI 1200 (fun _ => 0), (a_31, .inr (13, [.ref a_43, .int (nI 0)])), wa a_43 cI 24 (fun _ => 0), (a_32, .inr (13, [.ref a_44, .int (nI 0)])), wa a_44 cI 24 (fun _ => 0), (a_33, .inr (13, [.ref a_45, .int (nI 0)])), wa a_45 cI 200 (fun _ => 0), (a_34, .inr (13, [.ref a_46, .int (nI 0)])), wa a_46 cI 1200 (fun _ => 0)]) (w1 := []) hP hD [34] [0, 1, 2, 3, 4, 5, 6, 7, 8, 9, 10, 11, 12, 13, 14, 15, 16, 17, 18, 19, 20, 21, 22, 23, 24, 25, 26, 27, 28, 29, 30, 31, 32, 33] rfl rfl (by decide) (by decide) hk1 hFc hP1 hD1
  have hP : va_P (dC, dI) vwCl [(h, .inr (18, [.ref q_1, .ref q_2, .ref q_3, .ref q_5, .ref q_6, .ref q_8, .ref q_10, .ref q_12, .ref q_17, .ref q_18, .ref q_19, .ref q_20, .ref q_21, .ref q_47, .ref q_48, .ref q_49, .null, .null, .int (nI 0)])), (q_1, .inr (6, [.int (nI 0), .ref z0, .int (nI 0)])), (q_3, .inr (13, [.ref a_4, .int (nI 0)])), wa a_4 cI 200 (fun _ => 0), (q_12, .inr (14, [.ref a_13, .ref a_14])), (a_13, .inr (13, [.ref a_15, .int (nI 0)])), wa a_15 cI 270 (fun _ => 0), (a_14, .inr (13, [.ref a_16, .int (nI 0)])), wa a_16 cI 270 (fun _ => 0), (q_21, .inr (15, [.ref a_22, .ref a_23, .ref a_24, .ref a_25, .ref a_26, .ref a_27, .ref a_28, .ref a_29, .ref a_30, .ref a_31, .ref a_32, .ref a_33, .ref a_34, .ref a_35])), (a_22, .inr (6, [.int (nI 0), .ref z0, .int (nI 0)])), (a_23, .inr (6, [.int (nI 0), .ref z0, .int (nI 0)])), (a_24, .inr (13, [.ref a_36, .int (nI 0)])), wa a_36 cI 0 (fun _ => 0), (a_25, .inr (13, [.ref a_37, .int (nI 0)])), wa a_37 cI 1200 (fun _ => 0), (a_26, .inr (13, [.ref a_38, .int (nI 0)])), wa a_38 cI 1200 (fun _ => 0), (a_27, .inr (13, [.ref a_39, .int (nI 0)])), wa a_39 cI 1200 (fun _ => 0), (a_28, .inr (13, [.ref a_40, .int (nI 0)])), wa a_40 cI 1200 (fun _ => 0), (a_29, .inr (13, [.ref a_41, .int (nI 0)])), wa a_41 cI 1200 (fun _ => 0), (a_30, .inr (13, [.ref a_42, .int (nI 0)])), wa a_42 cI 1200 (fun _ => 0), (a_31, .inr (13, [.ref a_43, .int (nI 0)])), wa a_43 cI 24 (fun _ => 0), (a_32, .inr (13, [.ref a_44, .int (nI 0)])), wa a_44 cI 24 (fun _ => 0), (a_33, .inr (13, [.ref a_45, .int (nI 0)])), wa a_45 cI 200 (fun _ => 0), (a_34, .inr (13, [.ref a_46, .int (nI 0)])), wa a_46 cI 1200 (fun _ => 0)] H := hP
  have hD : va_D A [(h, .inr (18, [.ref q_1, .ref q_2, .ref q_3, .ref q_5, .ref q_6, .ref q_8, .ref q_10, .ref q_12, .ref q_17, .ref q_18, .ref q_19, .ref q_20, .ref q_21, .ref q_47, .ref q_48, .ref q_49, .null, .null, .int (nI 0)])), (q_1, .inr (6, [.int (nI 0), .ref z0, .int (nI 0)])), (q_3, .inr (13, [.ref a_4, .int (nI 0)])), wa a_4 cI 200 (fun _ => 0), (q_12, .inr (14, [.ref a_13, .ref a_14])), (a_13, .inr (13, [.ref a_15, .int (nI 0)])), wa a_15 cI 270 (fun _ => 0), (a_14, .inr (13, [.ref a_16, .int (nI 0)])), wa a_16 cI 270 (fun _ => 0), (q_21, .inr (15, [.ref a_22, .ref a_23, .ref a_24, .ref a_25, .ref a_26, .ref a_27, .ref a_28, .ref a_29, .ref a_30, .ref a_31, .ref a_32, .ref a_33, .ref a_34, .ref a_35])), (a_22, .inr (6, [.int (nI 0), .ref z0, .int (nI 0)])), (a_23, .inr (6, [.int (nI 0), .ref z0, .int (nI 0)])), (a_24, .inr (13, [.ref a_36, .int (nI 0)])), wa a_36 cI 0 (fun _ => 0), (a_25, .inr (13, [.ref a_37, .int (nI 0)])), wa a_37 cI 1200 (fun _ => 0), (a_26, .inr (13, [.ref a_38, .int (nI 0)])), wa a_38 cI 1200 (fun _ => 0), (a_27, .inr (13, [.ref a_39, .int (nI 0)])), wa a_39 cI 1200 (fun _ => 0), (a_28, .inr (13, [.ref a_40, .int (nI 0)])), wa a_40 cI 1200 (fun _ => 0), (a_29, .inr (13, [.ref a_41, .int (nI 0)])), wa a_41 cI 1200 (fun _ => 0), (a_30, .inr (13, [.ref a_42, .int (nI 0)])), wa a_42 cI 1200 (fun _ => 0), (a_31, .inr (13, [.ref a_43, .int (nI 0)])), wa a_43 cI 24 (fun _ => 0), (a_32, .inr (13, [.ref a_44, .int (nI 0)])), wa a_44 cI 24 (fun _ => 0), (a_33, .inr (13, [.ref a_45, .int (nI 0)])), wa a_45 cI 200 (fun _ => 0), (a_34, .inr (13, [.ref a_46, .int (nI 0)])), wa a_46 cI 1200 (fun _ => 0)] := hD
  refine W.widen (k := 126) (n := 20680) (by first | exact Nat.le_of_ble_eq_true rfl | omega | (dsimp only [headSpec]; omega) | (simp only [headSpec]; omega) | omega) (by first | exact Nat.le_of_ble_eq_true rfl | omega | (dsimp only [headSpec]; omega) | (simp only [headSpec]; omega) | omega) ?_
  have hP : va_P (dC, dI) vwCl [(h, .inr (18, [.ref q_1, .ref q_2, .ref q_3, .ref q_5, .ref q_6, .ref q_8, .ref q_10, .ref q_12, .ref q_17, .ref q_18, .ref q_19, .ref q_20, .ref q_21, .ref q_47, .ref q_48, .ref q_49, .null, .null, .int (nI 0)])), (q_1, .inr (6, [.int (nI 0), .ref z0, .int (nI 0)])), (q_3, .inr (13, [.ref a_4, .int (nI 0)])), wa a_4 cI 200 (fun _ => 0), (q_12, .inr (14, [.ref a_13, .ref a_14])), (a_13, .inr (13, [.ref a_15, .int (nI 0)])), wa a_15 cI 270 (fun _ => 0), (a_14, .inr (13, [.ref a_16, .int (nI 0)])), wa a_16 cI 270 (fun _ => 0), (q_21, .inr (15, [.ref a_22, .ref a_23, .ref a_24, .ref a_25, .ref a_26, .ref a_27, .ref a_28, .ref a_29, .ref a_30, .ref a_31, .ref a_32, .ref a_33, .ref a_34, .ref a_35])), (a_22, .inr (6, [.int (nI 0), .ref z0, .int (nI 0)])), (a_23, .inr (6, [.int (nI 0), .ref z0, .int (nI 0)])), (a_24, .inr (13, [.ref a_36, .int (nI 0)])), wa a_36 cI 0 (fun _ => 0), (a_25, .inr (13, [.ref a_37, .int (nI 0)])), wa a_37 cI 1200 (fun _ => 0), (a_26, .inr (13, [.ref a_38, .int (nI 0)])), wa a_38 cI 1200 (fun _ => 0), (a_27, .inr (13, [.ref a_39, .int (nI 0)])), wa a_39 cI 1200 (fun _ => 0), (a_28, .inr (13, [.ref a_40, .int (nI 0)])), wa a_40 cI 1200 (fun _ => 0), (a_29, .inr (13, [.ref a_41, .int (nI 0)])), wa a_41 cI 1200 (fun _ => 0), (a_30, .inr (13, [.ref a_42, .int (nI 0)])), wa a_42 cI 1200 (fun _ => 0), (a_31, .inr (13, [.ref a_43, .int (nI 0)])), wa a_43 cI 24 (fun _ => 0), (a_32, .inr (13, [.ref a_44, .int (nI 0)])), wa a_44 cI 24 (fun _ => 0), (a_33, .inr (13, [.ref a_45, .int (nI 0)])), wa a_45 cI 200 (fun _ => 0), (a_34, .inr (13, [.ref a_46, .int (nI 0)])), wa a_46 cI 1200 (fun _ => 0)] H := hP.sub [0, 1, 2, 3, 4, 5, 6, 7, 8, 9, 10, 11, 12, 13, 14, 15, 16, 17, 18, 19, 20, 21, 22, 23, 24, 25, 26, 27, 28, 29, 30, 31, 32, 33] rfl
  have hD : va_D A [(h, .inr (18, [.ref q_1, .ref q_2, .ref q_3, .ref q_5, .ref q_6, .ref q_8, .ref q_10, .ref q_12, .ref q_17, .ref q_18, .ref q_19, .ref q_20, .ref q_21, .ref q_47, .ref q_48, .ref q_49, .null, .null, .int (nI 0)])), (q_1, .inr (6, [.int (nI 0), .ref z0, .int (nI 0)])), (q_3, .inr (13, [.ref a_4, .int (nI 0)])), wa a_4 cI 200 (fun _ => 0), (q_12, .inr (14, [.ref a_13, .ref a_14])), (a_13, .inr (13, [.ref a_15, .int (nI 0)])), wa a_15 cI 270 (fun _ => 0), (a_14, .inr (13, [.ref a_16, .int (nI 0)])), wa a_16 cI 270 (fun _ => 0), (q_21, .inr (15, [.ref a_22, .ref a_23, .ref a_24, .ref a_25, .ref a_26, .ref a_27, .ref a_28, .ref a_29, .ref a_30, .ref a_31, .ref a_32, .ref a_33, .ref a_34, .ref a_35])), (a_22, .inr (6, [.int (nI 0), .ref z0, .int (nI 0)])), (a_23, .inr (6, [.int (nI 0), .ref z0, .int (nI 0)])), (a_24, .inr (13, [.ref a_36, .int (nI 0)])), wa a_36 cI 0 (fun _ => 0), (a_25, .inr (13, [.ref a_37, .int (nI 0)])), wa a_37 cI 1200 (fun _ => 0), (a_26, .inr (13, [.ref a_38, .int (nI 0)])), wa a_38 cI 1200 (fun _ => 0), (a_27, .inr (13, [.ref a_39, .int (nI 0)])), wa a_39 cI 1200 (fun _ => 0), (a_28, .inr (13, [.ref a_40, .int (nI 0)])), wa a_40 cI 1200 (fun _ => 0), (a_29, .inr (13, [.ref a_41, .int (nI 0)])), wa a_41 cI 1200 (fun _ => 0), (a_30, .inr (13, [.ref a_42, .int (nI 0)])), wa a_42 cI 1200 (fun _ => 0), (a_31, .inr (13, [.ref a_43, .int (nI 0)])), wa a_43 cI 24 (fun _ => 0), (a_32, .inr (13, [.ref a_44, .int (nI 0)])), wa a_44 cI 24 (fun _ => 0), (a_33, .inr (13, [.ref a_45, .int (nI 0)])), wa a_45 cI 200 (fun _ => 0), (a_34, .inr (13, [.ref a_46, .int (nI 0)])), wa a_46 cI 1200 (fun _ => 0)] := hD.sub [0, 1, 2, 3, 4, 5, 6, 7, 8, 9, 10, 11, 12, 13, 14, 15, 16, 17, 18, 19, 20, 21, 22, 23, 24, 25, 26, 27, 28, 29, 30, 31, 32, 33] (by decide) rfl
  refine va_putF (D := (dC, dI)) (ci := 18) (v := .ref q_50) (ty := .object "Patchferry$Versions") (C := RX11) (T := TX11) (N := 19) hx hb hts inX11_init_RX11 tyX11 tyX11_ok nmX11 hown hK hP hD hS 0 rfl rfl 16 (by decide) (hts (.fieldLink RX11 106 "Patchferry" "versions" "LPatchferry$Versions;") (by decide +kernel)) (fun _ h9 => h9) rfl hin rfl (by decide +kernel) rfl rfl (Nat.le_of_ble_eq_true rfl) dX11_init_200 (fun H locs hP hD hS => ?_)
  have hP : va_P (dC, dI) vwCl [(h, .inr (18, [.ref q_1, .ref q_2, .ref q_3, .ref q_5, .ref q_6, .ref q_8, .ref q_10, .ref q_12, .ref q_17, .ref q_18, .ref q_19, .ref q_20, .ref q_21, .ref q_47, .ref q_48, .ref q_49, .ref q_50, .null, .int (nI 0)])), (q_1, .inr (6, [.int (nI 0), .ref z0, .int (nI 0)])), (q_3, .inr (13, [.ref a_4, .int (nI 0)])), wa a_4 cI 200 (fun _ => 0), (q_12, .inr (14, [.ref a_13, .ref a_14])), (a_13, .inr (13, [.ref a_15, .int (nI 0)])), wa a_15 cI 270 (fun _ => 0), (a_14, .inr (13, [.ref a_16, .int (nI 0)])), wa a_16 cI 270 (fun _ => 0), (q_21, .inr (15, [.ref a_22, .ref a_23, .ref a_24, .ref a_25, .ref a_26, .ref a_27, .ref a_28, .ref a_29, .ref a_30, .ref a_31, .ref a_32, .ref a_33, .ref a_34, .ref a_35])), (a_22, .inr (6, [.int (nI 0), .ref z0, .int (nI 0)])), (a_23, .inr (6, [.int (nI 0), .ref z0, .int (nI 0)])), (a_24, .inr (13, [.ref a_36, .int (nI 0)])), wa a_36 cI 0 (fun _ => 0), (a_25, .inr (13, [.ref a_37, .int (nI 0)])), wa a_37 cI 1200 (fun _ => 0), (a_26, .inr (13, [.ref a_38, .int (nI 0)])), wa a_38 cI 1200 (fun _ => 0), (a_27, .inr (13, [.ref a_39, .int (nI 0)])), wa a_39 cI 1200 (fun _ => 0), (a_28, .inr (13, [.ref a_40, .int (nI 0)])), wa a_40 cI 1200 (fun _ => 0), (a_29, .inr (13, [.ref a_41, .int (nI 0)])), wa a_41 cI 1200 (fun _ => 0), (a_30, .inr (13, [.ref a_42, .int (nI 0)])), wa a_42 cI 1200 (fun _ => 0), (a_31, .inr (13, [.ref a_43, .int (nI 0)])), wa a_43 cI 24 (fun _ => 0), (a_32, .inr (13, [.ref a_44, .int (nI 0)])), wa a_44 cI 24 (fun _ => 0), (a_33, .inr (13, [.ref a_45, .int (nI 0)])), wa a_45 cI 200 (fun _ => 0), (a_34, .inr (13, [.ref a_46, .int (nI 0)])), wa a_46 cI 1200 (fun _ => 0)] H := hP
  have hD : va_D A [(h, .inr (18, [.ref q_1, .ref q_2, .ref q_3, .ref q_5, .ref q_6, .ref q_8, .ref q_10, .ref q_12, .ref q_17, .ref q_18, .ref q_19, .ref q_20, .ref q_21, .ref q_47, .ref q_48, .ref q_49, .ref q_50, .null, .int (nI 0)])), (q_1, .inr (6, [.int (nI 0), .ref z0, .int (nI 0)])), (q_3, .inr (13, [.ref a_4, .int (nI 0)])), wa a_4 cI 200 (fun _ => 0), (q_12, .inr (14, [.ref a_13, .ref a_14])), (a_13, .inr (13, [.ref a_15, .int (nI 0)])), wa a_15 cI 270 (fun _ => 0), (a_14, .inr (13, [.ref a_16, .int (nI 0)])), wa a_16 cI 270 (fun _ => 0), (q_21, .inr (15, [.ref a_22, .ref a_23, .ref a_24, .ref a_25, .ref a_26, .ref a_27, .ref a_28, .ref a_29, .ref a_30, .ref a_31, .ref a_32, .ref a_33, .ref a_34, .ref a_35])), (a_22, .inr (6, [.int (nI 0), .ref z0, .int (nI 0)])), (a_23, .inr (6, [.int (nI 0), .ref z0, .int (nI 0)])), (a_24, .inr (13, [.ref a_36, .int (nI 0)])), wa a_36 cI 0 (fun _ => 0), (a_25, .inr (13, [.ref a_37, .int (nI 0)])), wa a_37 cI 1200 (fun _ => 0), (a_26, .inr (13, [.ref a_38, .int (nI 0)])), wa a_38 cI 1200 (fun _ => 0), (a_27, .inr (13, [.ref a_39, .int (nI 0)])), wa a_39 cI 1200 (fun _ => 0), (a_28, .inr (13, [.ref a_40, .int (nI 0)])), wa a_40 cI 1200 (fun _ => 0), (a_29, .inr (13, [.ref a_41, .int (nI 0)])), wa a_41 cI 1200 (fun _ => 0), (a_30, .inr (13, [.ref a_42, .int (nI 0)])), wa a_42 cI 1200 (fun _ => 0), (a_31, .inr (13, [.ref a_43, .int (nI 0)])), wa a_43 cI 24 (fun _ => 0), (a_32, .inr (13, [.ref a_44, .int (nI 0)])), wa a_44 cI 24 (fun _ => 0), (a_33, .inr (13, [.ref a_45, .int (nI 0)])), wa a_45 cI 200 (fun _ => 0), (a_34, .inr (13, [.ref a_46, .int (nI 0)])), wa a_46 cI 1200 (fun _ => 0)] := hD
  refine lv_aload_n hx hb dX11_init_203 rfl (lv_at hl 0 rfl) ?_
  refine va_new (ci := 16) (fs := [.null]) (C := RX9) (T := TX9) (N := 1) hx hb hts inX11_init_RX9 tyX9 tyX9_ok hown (hts (.classLink RX11 110 RX9) (by decide +kernel)) (hts (.instantiable RX9 1) (by decide +kernel)) (hts (.initialized RX9) (by decide +kernel)) hK hP hD hS hA rfl (fun j hj => by rcases (show j = 0 by omega) with rfl <;> rfl) (by first | exact Nat.le_of_ble_eq_true rfl | omega | (dsimp only [headSpec]; omega) | (simp only [headSpec]; omega) | omega) (by first | exact Nat.le_of_ble_eq_true rfl | omega | (dsimp only [headSpec]; omega) | (simp only [headSpec]; omega) | omega) dX11_init_204 (fun q_51 H hP hD hS => ?_)
  have hP : va_P (dC, dI) vwCl [(h, .inr (18, [.ref q_1, .ref q_2, .ref q_3, .ref q_5, .ref q_6, .ref q_8, .ref q_10, .ref q_12, .ref q_17, .ref q_18, .ref q_19, .ref q_20, .ref q_21, .ref q_47, .ref q_48, .ref q_49, .ref q_50, .null, .int (nI 0)])), (q_1, .inr (6, [.int (nI 0), .ref z0, .int (nI 0)])), (q_3, .inr (13, [.ref a_4, .int (nI 0)])), wa a_4 cI 200 (fun _ => 0), (q_12, .inr (14, [.ref a_13, .ref a_14])), (a_13, .inr (13, [.ref a_15, .int (nI 0)])), wa a_15 cI 270 (fun _ => 0), (a_14, .inr (13, [.ref a_16, .int (nI 0)])), wa a_16 cI 270 (fun _ => 0), (q_21, .inr (15, [.ref a_22, .ref a_23, .ref a_24, .ref a_25, .ref a_26, .ref a_27, .ref a_28, .ref a_29, .ref a_30, .ref a_31, .ref a_32, .ref a_33, .ref a_34, .ref a_35])), (a_22, .inr (6, [.int (nI 0), .ref z0, .int (nI 0)])), (a_23, .inr (6, [.int (nI 0), .ref z0, .int (nI 0)])), (a_24, .inr (13, [.ref a_36, .int (nI 0)])), wa a_36 cI 0 (fun _ => 0), (a_25, .inr (13, [.ref a_37, .int (nI 0)])), wa a_37 cI 1200 (fun _ => 0), (a_26, .inr (13, [.ref a_38, .int (nI 0)])), wa a_38 cI 1200 (fun _ => 0), (a_27, .inr (13, [.ref a_39, .int (nI 0)])), wa a_39 cI 1200 (fun _ => 0), (a_28, .inr (13, [.ref a_40, .int (nI 0)])), wa a_40 cI 1200 (fun _ => 0), (a_29, .inr (13, [.ref a_41, .int (nI 0)])), wa a_41 cI 1200 (fun _ => 0), (a_30, .inr (13, [.ref a_42, .int (nI 0)])), wa a_42 cI 1200 (fun _ => 0), (a_31, .inr (13, [.ref a_43, .int (nI 0)])), wa a_43 cI 24 (fun _ => 0), (a_32, .inr (13, [.ref a_44, .int (nI 0)])), wa a_44 cI 24 (fun _ => 0), (a_33, .inr (13, [.ref a_45, .int (nI 0)])), wa a_45 cI 200 (fun _ => 0), (a_34, .inr (13, [.ref a_46, .int (nI 0)])), wa a_46 cI 1200 (fun _ => 0), (q_51, .inr (16, [.null]))] H := hP
  have hD : va_D A [(h, .inr (18, [.ref q_1, .ref q_2, .ref q_3, .ref q_5, .ref q_6, .ref q_8, .ref q_10, .ref q_12, .ref q_17, .ref q_18, .ref q_19, .ref q_20, .ref q_21, .ref q_47, .ref q_48, .ref q_49, .ref q_50, .null, .int (nI 0)])), (q_1, .inr (6, [.int (nI 0), .ref z0, .int (nI 0)])), (q_3, .inr (13, [.ref a_4, .int (nI 0)])), wa a_4 cI 200 (fun _ => 0), (q_12, .inr (14, [.ref a_13, .ref a_14])), (a_13, .inr (13, [.ref a_15, .int (nI 0)])), wa a_15 cI 270 (fun _ => 0), (a_14, .inr (13, [.ref a_16, .int (nI 0)])), wa a_16 cI 270 (fun _ => 0), (q_21, .inr (15, [.ref a_22, .ref a_23, .ref a_24, .ref a_25, .ref a_26, .ref a_27, .ref a_28, .ref a_29, .ref a_30, .ref a_31, .ref a_32, .ref a_33, .ref a_34, .ref a_35])), (a_22, .inr (6, [.int (nI 0), .ref z0, .int (nI 0)])), (a_23, .inr (6, [.int (nI 0), .ref z0, .int (nI 0)])), (a_24, .inr (13, [.ref a_36, .int (nI 0)])), wa a_36 cI 0 (fun _ => 0), (a_25, .inr (13, [.ref a_37, .int (nI 0)])), wa a_37 cI 1200 (fun _ => 0), (a_26, .inr (13, [.ref a_38, .int (nI 0)])), wa a_38 cI 1200 (fun _ => 0), (a_27, .inr (13, [.ref a_39, .int (nI 0)])), wa a_39 cI 1200 (fun _ => 0), (a_28, .inr (13, [.ref a_40, .int (nI 0)])), wa a_40 cI 1200 (fun _ => 0), (a_29, .inr (13, [.ref a_41, .int (nI 0)])), wa a_41 cI 1200 (fun _ => 0), (a_30, .inr (13, [.ref a_42, .int (nI 0)])), wa a_42 cI 1200 (fun _ => 0), (a_31, .inr (13, [.ref a_43, .int (nI 0)])), wa a_43 cI 24 (fun _ => 0), (a_32, .inr (13, [.ref a_44, .int (nI 0)])), wa a_44 cI 24 (fun _ => 0), (a_33, .inr (13, [.ref a_45, .int (nI 0)])), wa a_45 cI 200 (fun _ => 0), (a_34, .inr (13, [.ref a_46, .int (nI 0)])), wa a_46 cI 1200 (fun _ => 0), (q_51, .inr (16, [.null]))] := hD
  refine W.widen (k := 127) (n := 20681) (by first | exact Nat.le_of_ble_eq_true rfl | omega | (dsimp only [headSpec]; omega) | (simp only [headSpec]; omega) | omega) (by first | exact Nat.le_of_ble_eq_true rfl | omega | (dsimp only [headSpec]; omega) | (simp only [headSpec]; omega) | omega) ?_
  refine lv_dup hx hb dX11_init_207 rfl ?_
  have hPc : va_P (dC, dI) vwCl [(q_51, .inr (16, [.null]))] _ := hP.sub [34] rfl
  have hDc : va_D _ [(q_51, .inr (16, [.null]))] := hD.sub [34] (by decide) rfl
  have hFc := va_free (wc := [(q_51, .inr (16, [.null]))]) hD hS hA [34] rfl
  refine va_callv (va_runI (As := []) (rest := [.ref q_51, .ref h]) ⟨hx, hb, hml, hown, hts⟩ (c_treeinit l dC dI cI cO H.size q_51) (cwI 0 hts ugX11_init_X9_init rfl rfl rfl (hts (.initialized RX9) (by decide +kernel)) (hts (.methodLink RX11 112 yX9_init) (by decide +kernel)) (hts (.instanceMethod yX9_init) (by decide +kernel)) rfl (by decide +kernel) ⟨(by first | exact Nat.le_of_ble_eq_true rfl | omega | (dsimp only [headSpec]; omega) | (simp only [headSpec]; omega) | omega), (by first | exact Nat.le_of_ble_eq_true rfl | omega | (dsimp only [headSpec]; omega) | (simp only [headSpec]; omega) | omega)⟩) ⟨fun a U g mk q => by obtain ⟨q0, q1, qP, qK, qD⟩ := q; exact ⟨q0, q1, qP, va_K.moved (u := U) (U := U.calling g mk a) (Vm.Alike.refl U.vm) qK, qD⟩, fun U hU hW => ⟨rfl, by rw [hU], by rw [hU]; exact hPc, va_K.moved hW.alike hK, hDc.weaken (fun _ _ _ _ => trivial)⟩⟩ rfl rfl hl.1 rfl (lv_room (Nat.le_of_ble_eq_true rfl)) dX11_init_208 ⟨(by first | exact Nat.le_of_ble_eq_true rfl | omega | (dsimp only [headSpec]; omega) | (simp only [headSpec]; omega) | omega), (by first | exact Nat.le_of_ble_eq_true rfl | omega | (dsimp only [headSpec]; omega) | (simp only [headSpec]; omega) | omega)⟩) hS (fun q _ h => hFc q h) hFc (fun u t H locs ht hvm hw hB hz1 hk1 hS => ?_)
  obtain ⟨hP1, hK1, hD1⟩ := hB
  rw [ht] at hP1
  obtain ⟨hP, hD⟩ := va_join (wr := [(h, .inr (18, [.ref q_1, .ref q_2, .ref q_3, .ref q_5, .ref q_6, .ref q_8, .ref q_10, .ref q_12, .ref q_17, .ref q_18, .ref q_19, .ref q_20, .ref q_21, .ref q_47, .ref q_48, .ref q_49, .ref q_50, .null, .int (nI 0)])), (q_1, .inr (6, [.int (nI 0), .ref z0, .int (nI 0)])), (q_3, .inr (13, [.ref a_4, .int (nI 0)])), wa a_4 cI 200 (fun _ => 0), (q_12, .inr (14, [.ref a_13, .ref a_14])), (a_13, .inr (13, [.ref a_15, .int (nI 0)])), wa a_15 cI 270 (fun _ => 0), (a_14, .inr (13, [.ref a_16, .int (nI 0)])), wa a_16 cI 270 (fun _ => 0), (q_21, .inr (15, [.ref a_22, .ref a_23, .ref a_24, .ref a_25, .ref a_26, .ref a_27, .ref a_28, .ref a_29, .ref a_30, .ref a_31, .ref a_32, .ref a_33, .ref a_34, .ref a_35])), (a_22, .inr (6, [.int (nI 0), .ref z0, .int (nI 0)])), (a_23, .inr (6, [.int (nI 0), .ref z0, .int (nI 0)])), (a_24, .inr (13, [.ref a_36, .int (nI 0)])), wa a_36 cI 0 (fun _ => 0), (a_25, .inr (13, [.ref a_37, .int (nI 0)])), wa a_37 cI 1200 (fun _ => 0), (a_26, .inr (13, [.ref a_38, .int (nI 0)])), wa a_38 cI 1200 (fun _ => 0), (a_27, .inr (13, [.ref a_39, .int (nI 0)])), wa a_39 cI 1200 (fun _ => 0), (a_28, .inr (13, [.ref a_40, .int (nI 0)])), wa a_40 cI 1200 (fun _ => 0), (a_29, .inr (13, [.ref a_41, .int (nI 0)])), wa a_41 cI 1200 (fun _ => 0), (a_30, .inr (13, [.ref a_42, .int (nI 0)])), wa a_42 cI 1200 (fun _ => 0), (a_31, .inr (13, [.ref a_43, .int (nI 0)])), wa a_43 cI 24 (fun _ => 0), (a_32, .inr (13, [.ref a_44, .int (nI 0)])), wa a_44 cI 24 (fun _ => 0), (a_33, .inr (13, [.ref a_45, .int (nI 0)])), wa a_45 cI 200 (fun _ => 0), (a_34, .inr (13, [.ref a_46, .int (nI 0)])), wa a_46 cI 1200 (fun _ => 0)]) (w1 := []) hP hD [34] [0, 1, 2, 3, 4, 5, 6, 7, 8, 9, 10, 11, 12, 13, 14, 15, 16, 17, 18, 19, 20, 21, 22, 23, 24, 25, 26, 27, 28, 29, 30, 31, 32, 33] rfl rfl (by decide) (by decide) hk1 hFc hP1 hD1
  have hP : va_P (dC, dI) vwCl [(h, .inr (18, [.ref q_1, .ref q_2, .ref q_3, .ref q_5, .ref q_6, .ref q_8, .ref q_10, .ref q_12, .ref q_17, .ref q_18, .ref q_19, .ref q_20, .ref q_21, .ref q_47, .ref q_48, .ref q_49, .ref q_50, .null, .int (nI 0)])), (q_1, .inr (6, [.int (nI 0), .ref z0, .int (nI 0)])), (q_3, .inr (13, [.ref a_4, .int (nI 0)])), wa a_4 cI 200 (fun _ => 0), (q_12, .inr (14, [.ref a_13, .ref a_14])), (a_13, .inr (13, [.ref a_15, .int (nI 0)])), wa a_15 cI 270 (fun _ => 0), (a_14, .inr (13, [.ref a_16, .int (nI 0)])), wa a_16 cI 270 (fun _ => 0), (q_21, .inr (15, [.ref a_22, .ref a_23, .ref a_24, .ref a_25, .ref a_26, .ref a_27, .ref a_28, .ref a_29, .ref a_30, .ref a_31, .ref a_32, .ref a_33, .ref a_34, .ref a_35])), (a_22, .inr (6, [.int (nI 0), .ref z0, .int (nI 0)])), (a_23, .inr (6, [.int (nI 0), .ref z0, .int (nI 0)])), (a_24, .inr (13, [.ref a_36, .int (nI 0)])), wa a_36 cI 0 (fun _ => 0), (a_25, .inr (13, [.ref a_37, .int (nI 0)])), wa a_37 cI 1200 (fun _ => 0), (a_26, .inr (13, [.ref a_38, .int (nI 0)])), wa a_38 cI 1200 (fun _ => 0), (a_27, .inr (13, [.ref a_39, .int (nI 0)])), wa a_39 cI 1200 (fun _ => 0), (a_28, .inr (13, [.ref a_40, .int (nI 0)])), wa a_40 cI 1200 (fun _ => 0), (a_29, .inr (13, [.ref a_41, .int (nI 0)])), wa a_41 cI 1200 (fun _ => 0), (a_30, .inr (13, [.ref a_42, .int (nI 0)])), wa a_42 cI 1200 (fun _ => 0), (a_31, .inr (13, [.ref a_43, .int (nI 0)])), wa a_43 cI 24 (fun _ => 0), (a_32, .inr (13, [.ref a_44, .int (nI 0)])), wa a_44 cI 24 (fun _ => 0), (a_33, .inr (13, [.ref a_45, .int (nI 0)])), wa a_45 cI 200 (fun _ => 0), (a_34, .inr (13, [.ref a_46, .int (nI 0)])), wa a_46 cI 1200 (fun _ => 0)] H := hP
  have hD : va_D A [(h, .inr (18, [.ref q_1, .ref q_2, .ref q_3, .ref q_5, .ref q_6, .ref q_8, .ref q_10, .ref q_12, .ref q_17, .ref q_18, .ref q_19, .ref q_20, .ref q_21, .ref q_47, .ref q_48, .ref q_49, .ref q_50, .null, .int (nI 0)])), (q_1, .inr (6, [.int (nI 0), .ref z0, .int (nI 0)])), (q_3, .inr (13, [.ref a_4, .int (nI 0)])), wa a_4 cI 200 (fun _ => 0), (q_12, .inr (14, [.ref a_13, .ref a_14])), (a_13, .inr (13, [.ref a_15, .int (nI 0)])), wa a_15 cI 270 (fun _ => 0), (a_14, .inr (13, [.ref a_16, .int (nI 0)])), wa a_16 cI 270 (fun _ => 0), (q_21, .inr (15, [.ref a_22, .ref a_23, .ref a_24, .ref a_25, .ref a_26, .ref a_27, .ref a_28, .ref a_29, .ref a_30, .ref a_31, .ref a_32, .ref a_33, .ref a_34, .ref a_35])), (a_22, .inr (6, [.int (nI 0), .ref z0, .int (nI 0)])), (a_23, .inr (6, [.int (nI 0), .ref z0, .int (nI 0)])), (a_24, .inr (13, [.ref a_36, .int (nI 0)])), wa a_36 cI 0 (fun _ => 0), (a_25, .inr (13, [.ref a_37, .int (nI 0)])), wa a_37 cI 1200 (fun _ => 0), (a_26, .inr (13, [.ref a_38, .int (nI 0)])), wa a_38 cI 1200 (fun _ => 0), (a_27, .inr (13, [.ref a_39, .int (nI 0)])), wa a_39 cI 1200 (fun _ => 0), (a_28, .inr (13, [.ref a_40, .int (nI 0)])), wa a_40 cI 1200 (fun _ => 0), (a_29, .inr (13, [.ref a_41, .int (nI 0)])), wa a_41 cI 1200 (fun _ => 0), (a_30, .inr (13, [.ref a_42, .int (nI 0)])), wa a_42 cI 1200 (fun _ => 0), (a_31, .inr (13, [.ref a_43, .int (nI 0)])), wa a_43 cI 24 (fun _ => 0), (a_32, .inr (13, [.ref a_44, .int (nI 0)])), wa a_44 cI 24 (fun _ => 0), (a_33, .inr (13, [.ref a_45, .int (nI 0)])), wa a_45 cI 200 (fun _ => 0), (a_34, .inr (13, [.ref a_46, .int (nI 0)])), wa a_46 cI 1200 (fun _ => 0)] := hD
  refine W.widen (k := 129) (n := 20883) (by first | exact Nat.le_of_ble_eq_true rfl | omega | (dsimp only [headSpec]; omega) | (simp only [headSpec]; omega) | omega) (by first | exact Nat.le_of_ble_eq_true rfl | omega | (dsimp only [headSpec]; omega) | (simp only [headSpec]; omega) | omega) ?_
  have hP : va_P (dC, dI) vwCl [(h, .inr (18, [.ref q_1, .ref q_2, .ref q_3, .ref q_5, .ref q_6, .ref q_8, .ref q_10, .ref q_12, .ref q_17, .ref q_18, .ref q_19, .ref q_20, .ref q_21, .ref q_47, .ref q_48, .ref q_49, .ref q_50, .null, .int (nI 0)])), (q_1, .inr (6, [.int (nI 0), .ref z0, .int (nI 0)])), (q_3, .inr (13, [.ref a_4, .int (nI 0)])), wa a_4 cI 200 (fun _ => 0), (q_12, .inr (14, [.ref a_13, .ref a_14])), (a_13, .inr (13, [.ref a_15, .int (nI 0)])), wa a_15 cI 270 (fun _ => 0), (a_14, .inr (13, [.ref a_16, .int (nI 0)])), wa a_16 cI 270 (fun _ => 0), (q_21, .inr (15, [.ref a_22, .ref a_23, .ref a_24, .ref a_25, .ref a_26, .ref a_27, .ref a_28, .ref a_29, .ref a_30, .ref a_31, .ref a_32, .ref a_33, .ref a_34, .ref a_35])), (a_22, .inr (6, [.int (nI 0), .ref z0, .int (nI 0)])), (a_23, .inr (6, [.int (nI 0), .ref z0, .int (nI 0)])), (a_24, .inr (13, [.ref a_36, .int (nI 0)])), wa a_36 cI 0 (fun _ => 0), (a_25, .inr (13, [.ref a_37, .int (nI 0)])), wa a_37 cI 1200 (fun _ => 0), (a_26, .inr (13, [.ref a_38, .int (nI 0)])), wa a_38 cI 1200 (fun _ => 0), (a_27, .inr (13, [.ref a_39, .int (nI 0)])), wa a_39 cI 1200 (fun _ => 0), (a_28, .inr (13, [.ref a_40, .int (nI 0)])), wa a_40 cI 1200 (fun _ => 0), (a_29, .inr (13, [.ref a_41, .int (nI 0)])), wa a_41 cI 1200 (fun _ => 0), (a_30, .inr (13, [.ref a_42, .int (nI 0)])), wa a_42 cI 1200 (fun _ => 0), (a_31, .inr (13, [.ref a_43, .int (nI 0)])), wa a_43 cI 24 (fun _ => 0), (a_32, .inr (13, [.ref a_44, .int (nI 0)])), wa a_44 cI 24 (fun _ => 0), (a_33, .inr (13, [.ref a_45, .int (nI 0)])), wa a_45 cI 200 (fun _ => 0), (a_34, .inr (13, [.ref a_46, .int (nI 0)])), wa a_46 cI 1200 (fun _ => 0)] H := hP.sub [0, 1, 2, 3, 4, 5, 6, 7, 8, 9, 10, 11, 12, 13, 14, 15, 16, 17, 18, 19, 20, 21, 22, 23, 24, 25, 26, 27, 28, 29, 30, 31, 32, 33] rfl
  have hD : va_D A [(h, .inr (18, [.ref q_1, .ref q_2, .ref q_3, .ref q_5, .ref q_6, .ref q_8, .ref q_10, .ref q_12, .ref q_17, .ref q_18, .ref q_19, .ref q_20, .ref q_21, .ref q_47, .ref q_48, .ref q_49, .ref q_50, .null, .int (nI 0)])), (q_1, .inr (6, [.int (nI 0), .ref z0, .int (nI 0)])), (q_3, .inr (13, [.ref a_4, .int (nI 0)])), wa a_4 cI 200 (fun _ => 0), (q_12, .inr (14, [.ref a_13, .ref a_14])), (a_13, .inr (13, [.ref a_15, .int (nI 0)])), wa a_15 cI 270 (fun _ => 0), (a_14, .inr (13, [.ref a_16, .int (nI 0)])), wa a_16 cI 270 (fun _ => 0), (q_21, .inr (15, [.ref a_22, .ref a_23, .ref a_24, .ref a_25, .ref a_26, .ref a_27, .ref a_28, .ref a_29, .ref a_30, .ref a_31, .ref a_32, .ref a_33, .ref a_34, .ref a_35])), (a_22, .inr (6, [.int (nI 0), .ref z0, .int (nI 0)])), (a_23, .inr (6, [.int (nI 0), .ref z0, .int (nI 0)])), (a_24, .inr (13, [.ref a_36, .int (nI 0)])), wa a_36 cI 0 (fun _ => 0), (a_25, .inr (13, [.ref a_37, .int (nI 0)])), wa a_37 cI 1200 (fun _ => 0), (a_26, .inr (13, [.ref a_38, .int (nI 0)])), wa a_38 cI 1200 (fun _ => 0), (a_27, .inr (13, [.ref a_39, .int (nI 0)])), wa a_39 cI 1200 (fun _ => 0), (a_28, .inr (13, [.ref a_40, .int (nI 0)])), wa a_40 cI 1200 (fun _ => 0), (a_29, .inr (13, [.ref a_41, .int (nI 0)])), wa a_41 cI 1200 (fun _ => 0), (a_30, .inr (13, [.ref a_42, .int (nI 0)])), wa a_42 cI 1200 (fun _ => 0), (a_31, .inr (13, [.ref a_43, .int (nI 0)])), wa a_43 cI 24 (fun _ => 0), (a_32, .inr (13, [.ref a_44, .int (nI 0)])), wa a_44 cI 24 (fun _ => 0), (a_33, .inr (13, [.ref a_45, .int (nI 0)])), wa a_45 cI 200 (fun _ => 0), (a_34, .inr (13, [.ref a_46, .int (nI 0)])), wa a_46 cI 1200 (fun _ => 0)] := hD.sub [0, 1, 2, 3, 4, 5, 6, 7, 8, 9, 10, 11, 12, 13, 14, 15, 16, 17, 18, 19, 20, 21, 22, 23, 24, 25, 26, 27, 28, 29, 30, 31, 32, 33] (by decide) rfl
  refine va_putF (D := (dC, dI)) (ci := 18) (v := .ref q_51) (ty := .object "Patchferry$Tree") (C := RX11) (T := TX11) (N := 19) hx hb hts inX11_init_RX11 tyX11 tyX11_ok nmX11 hown hK hP hD hS 0 rfl rfl 17 (by decide) (hts (.fieldLink RX11 113 "Patchferry" "tree" "LPatchferry$Tree;") (by decide +kernel)) (fun _ h9 => h9) rfl hin rfl (by decide +kernel) rfl rfl (Nat.le_of_ble_eq_true rfl) dX11_init_211 (fun H locs hP hD hS => ?_)
  have hP : va_P (dC, dI) vwCl [(h, .inr (18, [.ref q_1, .ref q_2, .ref q_3, .ref q_5, .ref q_6, .ref q_8, .ref q_10, .ref q_12, .ref q_17, .ref q_18, .ref q_19, .ref q_20, .ref q_21, .ref q_47, .ref q_48, .ref q_49, .ref q_50, .ref q_51, .int (nI 0)])), (q_1, .inr (6, [.int (nI 0), .ref z0, .int (nI 0)])), (q_3, .inr (13, [.ref a_4, .int (nI 0)])), wa a_4 cI 200 (fun _ => 0), (q_12, .inr (14, [.ref a_13, .ref a_14])), (a_13, .inr (13, [.ref a_15, .int (nI 0)])), wa a_15 cI 270 (fun _ => 0), (a_14, .inr (13, [.ref a_16, .int (nI 0)])), wa a_16 cI 270 (fun _ => 0), (q_21, .inr (15, [.ref a_22, .ref a_23, .ref a_24, .ref a_25, .ref a_26, .ref a_27, .ref a_28, .ref a_29, .ref a_30, .ref a_31, .ref a_32, .ref a_33, .ref a_34, .ref a_35])), (a_22, .inr (6, [.int (nI 0), .ref z0, .int (nI 0)])), (a_23, .inr (6, [.int (nI 0), .ref z0, .int (nI 0)])), (a_24, .inr (13, [.ref a_36, .int (nI 0)])), wa a_36 cI 0 (fun _ => 0), (a_25, .inr (13, [.ref a_37, .int (nI 0)])), wa a_37 cI 1200 (fun _ => 0), (a_26, .inr (13, [.ref a_38, .int (nI 0)])), wa a_38 cI 1200 (fun _ => 0), (a_27, .inr (13, [.ref a_39, .int (nI 0)])), wa a_39 cI 1200 (fun _ => 0), (a_28, .inr (13, [.ref a_40, .int (nI 0)])), wa a_40 cI 1200 (fun _ => 0), (a_29, .inr (13, [.ref a_41, .int (nI 0)])), wa a_41 cI 1200 (fun _ => 0), (a_30, .inr (13, [.ref a_42, .int (nI 0)])), wa a_42 cI 1200 (fun _ => 0), (a_31, .inr (13, [.ref a_43, .int (nI 0)])), wa a_43 cI 24 (fun _ => 0), (a_32, .inr (13, [.ref a_44, .int (nI 0)])), wa a_44 cI 24 (fun _ => 0), (a_33, .inr (13, [.ref a_45, .int (nI 0)])), wa a_45 cI 200 (fun _ => 0), (a_34, .inr (13, [.ref a_46, .int (nI 0)])), wa a_46 cI 1200 (fun _ => 0)] H := hP
  have hD : va_D A [(h, .inr (18, [.ref q_1, .ref q_2, .ref q_3, .ref q_5, .ref q_6, .ref q_8, .ref q_10, .ref q_12, .ref q_17, .ref q_18, .ref q_19, .ref q_20, .ref q_21, .ref q_47, .ref q_48, .ref q_49, .ref q_50, .ref q_51, .int (nI 0)])), (q_1, .inr (6, [.int (nI 0), .ref z0, .int (nI 0)])), (q_3, .inr (13, [.ref a_4, .int (nI 0)])), wa a_4 cI 200 (fun _ => 0), (q_12, .inr (14, [.ref a_13, .ref a_14])), (a_13, .inr (13, [.ref a_15, .int (nI 0)])), wa a_15 cI 270 (fun _ => 0), (a_14, .inr (13, [.ref a_16, .int (nI 0)])), wa a_16 cI 270 (fun _ => 0), (q_21, .inr (15, [.ref a_22, .ref a_23, .ref a_24, .ref a_25, .ref a_26, .ref a_27, .ref a_28, .ref a_29, .ref a_30, .ref a_31, .ref a_32, .ref a_33, .ref a_34, .ref a_35])), (a_22, .inr (6, [.int (nI 0), .ref z0, .int (nI 0)])), (a_23, .inr (6, [.int (nI 0), .ref z0, .int (nI 0)])), (a_24, .inr (13, [.ref a_36, .int (nI 0)])), wa a_36 cI 0 (fun _ => 0), (a_25, .inr (13, [.ref a_37, .int (nI 0)])), wa a_37 cI 1200 (fun _ => 0), (a_26, .inr (13, [.ref a_38, .int (nI 0)])), wa a_38 cI 1200 (fun _ => 0), (a_27, .inr (13, [.ref a_39, .int (nI 0)])), wa a_39 cI 1200 (fun _ => 0), (a_28, .inr (13, [.ref a_40, .int (nI 0)])), wa a_40 cI 1200 (fun _ => 0), (a_29, .inr (13, [.ref a_41, .int (nI 0)])), wa a_41 cI 1200 (fun _ => 0), (a_30, .inr (13, [.ref a_42, .int (nI 0)])), wa a_42 cI 1200 (fun _ => 0), (a_31, .inr (13, [.ref a_43, .int (nI 0)])), wa a_43 cI 24 (fun _ => 0), (a_32, .inr (13, [.ref a_44, .int (nI 0)])), wa a_44 cI 24 (fun _ => 0), (a_33, .inr (13, [.ref a_45, .int (nI 0)])), wa a_45 cI 200 (fun _ => 0), (a_34, .inr (13, [.ref a_46, .int (nI 0)])), wa a_46 cI 1200 (fun _ => 0)] := hD
  refine lv_aload_n hx hb dX11_init_214 rfl (lv_at hl 0 rfl) ?_
  refine lv_iconst (v := (-1)) hx hb dX11_init_215 (by decide) ?_
  refine va_put (D := (dC, dI)) (ci := 18) (v := .int (-1)) (ty := .int) (C := RX11) (T := TX11) (N := 19) hx hb hts inX11_init_RX11 tyX11 tyX11_ok nmX11 hown hK hP hD hS 0 rfl rfl 18 (by decide) (hts (.fieldLink RX11 117 "Patchferry" "lastClash" "I") (by decide +kernel)) (fun _ h9 => h9) rfl (by decide +kernel) rfl rfl (Nat.le_of_ble_eq_true rfl) dX11_init_216 (fun H locs hP hD hS => ?_)
  have hP : va_P (dC, dI) vwCl [(h, .inr (18, [.ref q_1, .ref q_2, .ref q_3, .ref q_5, .ref q_6, .ref q_8, .ref q_10, .ref q_12, .ref q_17, .ref q_18, .ref q_19, .ref q_20, .ref q_21, .ref q_47, .ref q_48, .ref q_49, .ref q_50, .ref q_51, .int (-1)])), (q_1, .inr (6, [.int (nI 0), .ref z0, .int (nI 0)])), (q_3, .inr (13, [.ref a_4, .int (nI 0)])), wa a_4 cI 200 (fun _ => 0), (q_12, .inr (14, [.ref a_13, .ref a_14])), (a_13, .inr (13, [.ref a_15, .int (nI 0)])), wa a_15 cI 270 (fun _ => 0), (a_14, .inr (13, [.ref a_16, .int (nI 0)])), wa a_16 cI 270 (fun _ => 0), (q_21, .inr (15, [.ref a_22, .ref a_23, .ref a_24, .ref a_25, .ref a_26, .ref a_27, .ref a_28, .ref a_29, .ref a_30, .ref a_31, .ref a_32, .ref a_33, .ref a_34, .ref a_35])), (a_22, .inr (6, [.int (nI 0), .ref z0, .int (nI 0)])), (a_23, .inr (6, [.int (nI 0), .ref z0, .int (nI 0)])), (a_24, .inr (13, [.ref a_36, .int (nI 0)])), wa a_36 cI 0 (fun _ => 0), (a_25, .inr (13, [.ref a_37, .int (nI 0)])), wa a_37 cI 1200 (fun _ => 0), (a_26, .inr (13, [.ref a_38, .int (nI 0)])), wa a_38 cI 1200 (fun _ => 0), (a_27, .inr (13, [.ref a_39, .int (nI 0)])), wa a_39 cI 1200 (fun _ => 0), (a_28, .inr (13, [.ref a_40, .int (nI 0)])), wa a_40 cI 1200 (fun _ => 0), (a_29, .inr (13, [.ref a_41, .int (nI 0)])), wa a_41 cI 1200 (fun _ => 0), (a_30, .inr (13, [.ref a_42, .int (nI 0)])), wa a_42 cI 1200 (fun _ => 0), (a_31, .inr (13, [.ref a_43, .int (nI 0)])), wa a_43 cI 24 (fun _ => 0), (a_32, .inr (13, [.ref a_44, .int (nI 0)])), wa a_44 cI 24 (fun _ => 0), (a_33, .inr (13, [.ref a_45, .int (nI 0)])), wa a_45 cI 200 (fun _ => 0), (a_34, .inr (13, [.ref a_46, .int (nI 0)])), wa a_46 cI 1200 (fun _ => 0)] H := hP
  have hD : va_D A [(h, .inr (18, [.ref q_1, .ref q_2, .ref q_3, .ref q_5, .ref q_6, .ref q_8, .ref q_10, .ref q_12, .ref q_17, .ref q_18, .ref q_19, .ref q_20, .ref q_21, .ref q_47, .ref q_48, .ref q_49, .ref q_50, .ref q_51, .int (-1)])), (q_1, .inr (6, [.int (nI 0), .ref z0, .int (nI 0)])), (q_3, .inr (13, [.ref a_4, .int (nI 0)])), wa a_4 cI 200 (fun _ => 0), (q_12, .inr (14, [.ref a_13, .ref a_14])), (a_13, .inr (13, [.ref a_15, .int (nI 0)])), wa a_15 cI 270 (fun _ => 0), (a_14, .inr (13, [.ref a_16, .int (nI 0)])), wa a_16 cI 270 (fun _ => 0), (q_21, .inr (15, [.ref a_22, .ref a_23, .ref a_24, .ref a_25, .ref a_26, .ref a_27, .ref a_28, .ref a_29, .ref a_30, .ref a_31, .ref a_32, .ref a_33, .ref a_34, .ref a_35])), (a_22, .inr (6, [.int (nI 0), .ref z0, .int (nI 0)])), (a_23, .inr (6, [.int (nI 0), .ref z0, .int (nI 0)])), (a_24, .inr (13, [.ref a_36, .int (nI 0)])), wa a_36 cI 0 (fun _ => 0), (a_25, .inr (13, [.ref a_37, .int (nI 0)])), wa a_37 cI 1200 (fun _ => 0), (a_26, .inr (13, [.ref a_38, .int (nI 0)])), wa a_38 cI 1200 (fun _ => 0), (a_27, .inr (13, [.ref a_39, .int (nI 0)])), wa a_39 cI 1200 (fun _ => 0), (a_28, .inr (13, [.ref a_40, .int (nI 0)])), wa a_40 cI 1200 (fun _ => 0), (a_29, .inr (13, [.ref a_41, .int (nI 0)])), wa a_41 cI 1200 (fun _ => 0), (a_30, .inr (13, [.ref a_42, .int (nI 0)])), wa a_42 cI 1200 (fun _ => 0), (a_31, .inr (13, [.ref a_43, .int (nI 0)])), wa a_43 cI 24 (fun _ => 0), (a_32, .inr (13, [.ref a_44, .int (nI 0)])), wa a_44 cI 24 (fun _ => 0), (a_33, .inr (13, [.ref a_45, .int (nI 0)])), wa a_45 cI 200 (fun _ => 0), (a_34, .inr (13, [.ref a_46, .int (nI 0)])), wa a_46 cI 1200 (fun _ => 0)] := hD
  have hPe : va_P (dC, dI) vwCl [(h, .inr (18, [.ref q_1, .ref q_2, .ref q_3, .ref q_5, .ref q_6, .ref q_8, .ref q_10, .ref q_12, .ref q_17, .ref q_18, .ref q_19, .ref q_20, .ref q_21, .ref q_47, .ref q_48, .ref q_49, .ref q_50, .ref q_51, .int (-1)])), (q_1, .inr (6, [.int (nI 0), .ref z0, .int (nI 0)])), (q_3, .inr (13, [.ref a_4, .int (nI 0)])), wa a_4 cI 200 (fun _ => 0), (q_12, .inr (14, [.ref a_13, .ref a_14])), (a_13, .inr (13, [.ref a_15, .int (nI 0)])), wa a_15 cI 270 (fun _ => 0), (a_14, .inr (13, [.ref a_16, .int (nI 0)])), wa a_16 cI 270 (fun _ => 0), (q_21, .inr (15, [.ref a_22, .ref a_23, .ref a_24, .ref a_25, .ref a_26, .ref a_27, .ref a_28, .ref a_29, .ref a_30, .ref a_31, .ref a_32, .ref a_33, .ref a_34, .ref a_35])), (a_22, .inr (6, [.int (nI 0), .ref z0, .int (nI 0)])), (a_23, .inr (6, [.int (nI 0), .ref z0, .int (nI 0)])), (a_24, .inr (13, [.ref a_36, .int (nI 0)])), wa a_36 cI 0 (fun _ => 0), (a_25, .inr (13, [.ref a_37, .int (nI 0)])), wa a_37 cI 1200 (fun _ => 0), (a_26, .inr (13, [.ref a_38, .int (nI 0)])), wa a_38 cI 1200 (fun _ => 0), (a_27, .inr (13, [.ref a_39, .int (nI 0)])), wa a_39 cI 1200 (fun _ => 0), (a_28, .inr (13, [.ref a_40, .int (nI 0)])), wa a_40 cI 1200 (fun _ => 0), (a_29, .inr (13, [.ref a_41, .int (nI 0)])), wa a_41 cI 1200 (fun _ => 0), (a_30, .inr (13, [.ref a_42, .int (nI 0)])), wa a_42 cI 1200 (fun _ => 0), (a_31, .inr (13, [.ref a_43, .int (nI 0)])), wa a_43 cI 24 (fun _ => 0), (a_32, .inr (13, [.ref a_44, .int (nI 0)])), wa a_44 cI 24 (fun _ => 0), (a_33, .inr (13, [.ref a_45, .int (nI 0)])), wa a_45 cI 200 (fun _ => 0), (a_34, .inr (13, [.ref a_46, .int (nI 0)])), wa a_46 cI 1200 (fun _ => 0)] _ := hP.sub [0, 1, 2, 3, 4, 5, 6, 7, 8, 9, 10, 11, 12, 13, 14, 15, 16, 17, 18, 19, 20, 21, 22, 23, 24, 25, 26, 27, 28, 29, 30, 31, 32, 33] rfl
  have hDe : va_D A [(h, .inr (18, [.ref q_1, .ref q_2, .ref q_3, .ref q_5, .ref q_6, .ref q_8, .ref q_10, .ref q_12, .ref q_17, .ref q_18, .ref q_19, .ref q_20, .ref q_21, .ref q_47, .ref q_48, .ref q_49, .ref q_50, .ref q_51, .int (-1)])), (q_1, .inr (6, [.int (nI 0), .ref z0, .int (nI 0)])), (q_3, .inr (13, [.ref a_4, .int (nI 0)])), wa a_4 cI 200 (fun _ => 0), (q_12, .inr (14, [.ref a_13, .ref a_14])), (a_13, .inr (13, [.ref a_15, .int (nI 0)])), wa a_15 cI 270 (fun _ => 0), (a_14, .inr (13, [.ref a_16, .int (nI 0)])), wa a_16 cI 270 (fun _ => 0), (q_21, .inr (15, [.ref a_22, .ref a_23, .ref a_24, .ref a_25, .ref a_26, .ref a_27, .ref a_28, .ref a_29, .ref a_30, .ref a_31, .ref a_32, .ref a_33, .ref a_34, .ref a_35])), (a_22, .inr (6, [.int (nI 0), .ref z0, .int (nI 0)])), (a_23, .inr (6, [.int (nI 0), .ref z0, .int (nI 0)])), (a_24, .inr (13, [.ref a_36, .int (nI 0)])), wa a_36 cI 0 (fun _ => 0), (a_25, .inr (13, [.ref a_37, .int (nI 0)])), wa a_37 cI 1200 (fun _ => 0), (a_26, .inr (13, [.ref a_38, .int (nI 0)])), wa a_38 cI 1200 (fun _ => 0), (a_27, .inr (13, [.ref a_39, .int (nI 0)])), wa a_39 cI 1200 (fun _ => 0), (a_28, .inr (13, [.ref a_40, .int (nI 0)])), wa a_40 cI 1200 (fun _ => 0), (a_29, .inr (13, [.ref a_41, .int (nI 0)])), wa a_41 cI 1200 (fun _ => 0), (a_30, .inr (13, [.ref a_42, .int (nI 0)])), wa a_42 cI 1200 (fun _ => 0), (a_31, .inr (13, [.ref a_43, .int (nI 0)])), wa a_43 cI 24 (fun _ => 0), (a_32, .inr (13, [.ref a_44, .int (nI 0)])), wa a_44 cI 24 (fun _ => 0), (a_33, .inr (13, [.ref a_45, .int (nI 0)])), wa a_45 cI 200 (fun _ => 0), (a_34, .inr (13, [.ref a_46, .int (nI 0)])), wa a_46 cI 1200 (fun _ => 0)] := hD.sub [0, 1, 2, 3, 4, 5, 6, 7, 8, 9, 10, 11, 12, 13, 14, 15, 16, 17, 18, 19, 20, 21, 22, 23, 24, 25, 26, 27, 28, 29, 30, 31, 32, 33] (by decide) rfl
  refine W.widen (k := 129) (n := 20883) (by first | exact Nat.le_of_ble_eq_true rfl | omega | (dsimp only [headSpec]; omega) | (simp only [headSpec]; omega) | omega) (by first | exact Nat.le_of_ble_eq_true rfl | omega | (dsimp only [headSpec]; omega) | (simp only [headSpec]; omega) | omega) ?_
  exact W.vret hx hb hr (fun t ht hW => ⟨⟨(), rfl, trivial, _, _, _, _, _, _, _, _, _, _, _, _, _, _, _, _, _, _, _, _, _, _, _, _, _, _, _, _, _, _, _, _, _, _, _, _, _, _, _, _, _, _, _, _, _, _, _, _, by rw [ht]; exact hPe, va_K.moved hW.alike hK, hDe⟩, hS.F ht⟩) hS.2.2 dX11_init_219
end
