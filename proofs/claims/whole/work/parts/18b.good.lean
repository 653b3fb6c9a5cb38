/-! GoodIn of the law's table by positions of all words, chunk by chunk -/
theorem ub_goodq {big : List Cond} (ws : List Cond) (ps : List Nat) (hp : ws = ps.filterMap (fun i => big[i]?)) (h : ws.all goodWord = true) : GoodIn big ws := fun w hw => by
  have h1 : w ∈ ps.filterMap (fun i => big[i]?) := by rw [← hp]; exact hw
  obtain ⟨i, -, hi⟩ := List.mem_filterMap.mp h1
  exact ⟨List.mem_of_getElem? hi, good_of_word (List.all_eq_true.mp h w hw)⟩
theorem ub_gapp {big a b : List Cond} (ha : GoodIn big a) (hb : GoodIn big b) : GoodIn big (a ++ b) := fun w hw => (List.mem_append.mp hw).elim (ha w) (hb w)
theorem ub_gcons {big b : List Cond} {a : Cond} (ha : GoodIn big [a]) (hb : GoodIn big b) : GoodIn big (a :: b) := fun w hw => (List.mem_cons.mp hw).elim (fun h => ha w (by rw [h]; exact List.mem_cons_self)) (hb w)
set_option maxRecDepth 100000 in
theorem ugf_wsX110 : GoodIn lw_tbl (wsX110) := ub_goodq _ [518, 520, 522, 524, 526, 528, 530, 532, 534, 536, 538, 540, 542, 544, 546, 548, 550, 552, 554] (by decide +kernel) (by decide +kernel)
set_option maxRecDepth 100000 in
theorem ugf_wsX60 : GoodIn lw_tbl (wsX60) := ub_goodq _ [179, 181] (by decide +kernel) (by decide +kernel)
set_option maxRecDepth 100000 in
theorem ugf_wsJx4a65c0 : GoodIn lw_tbl (wsJx4a65c0) := ub_goodq _ [165, 161, 163] (by decide +kernel) (by decide +kernel)
set_option maxRecDepth 100000 in
theorem ugf_wsX80 : GoodIn lw_tbl (wsX80) := ub_goodq _ [341, 343, 345, 347, 349, 351, 353, 355, 357, 359, 361, 363, 365, 367] (by decide +kernel) (by decide +kernel)
set_option maxRecDepth 100000 in
theorem ugq_L_file_r1 : GoodIn lw_tbl (usL_file_r1) := ub_goodq _ [1240, 1315, 1316, 1317, 87, 1318, 501, 1319, 1321, 15, 1322, 499, 511, 915, 916, 917, 91, 918, 178, 1323] (by decide +kernel) (by decide +kernel)
set_option maxRecDepth 100000 in
theorem ugq_L_file_r2 : GoodIn lw_tbl (usL_file_r2) := ub_goodq _ [1325, 16, 1326, 1256, 112, 988, 989, 990, 90, 991, 156, 1328, 1329, 1330, 1331, 1332, 169, 1333, 171, 172] (by decide +kernel) (by decide +kernel)
set_option maxRecDepth 100000 in
theorem ugq_L_file_r3 : GoodIn lw_tbl (usL_file_r3) := ub_goodq _ [173, 137, 138, 174, 175, 92, 176, 184, 177, 1334, 1335, 1336, 1337, 1338, 920, 921, 922, 928, 929, 930] (by decide +kernel) (by decide +kernel)
set_option maxRecDepth 100000 in
theorem ugq_L_file_r4 : GoodIn lw_tbl (usL_file_r4) := ub_goodq _ [931, 1339, 1034, 1035, 1036, 1340, 1341, 1342, 1343, 160, 159, 153, 1344, 1346, 17, 1347, 1348, 1350, 18, 1351] (by decide +kernel) (by decide +kernel)
set_option maxRecDepth 100000 in
theorem ugq_L_file_r5 : GoodIn lw_tbl (usL_file_r5) := ub_goodq _ [1352, 1354, 19, 1355, 151, 1398, 1399, 1356, 667, 116, 668, 669, 670, 671, 672, 673, 1357, 1358, 117, 1359] (by decide +kernel) (by decide +kernel)
set_option maxRecDepth 100000 in
theorem ugq_L_file_r6 : GoodIn lw_tbl (usL_file_r6) := ub_goodq _ [1360, 3244, 1361, 1391, 1392, 1393, 1394, 1395, 1397, 685, 686, 687, 688, 690, 689, 118, 1400, 1401, 1402, 101] (by decide +kernel) (by decide +kernel)
set_option maxRecDepth 100000 in
theorem ugq_L_file_r7 : GoodIn lw_tbl (usL_file_r7) := ub_goodq _ [1403, 327, 336, 337, 338, 328, 1205, 1404, 1405, 1406, 956, 1407, 1409, 20, 1410, 957, 1411, 1413, 21, 1414] (by decide +kernel) (by decide +kernel)
set_option maxRecDepth 100000 in
theorem ugq_L_file_r8 : GoodIn lw_tbl (usL_file_r8) := ub_goodq _ [333, 332, 330, 331, 334, 335, 339, 1415, 1416, 1417, 1418, 1419, 1420, 1422, 22, 1423, 325, 329, 1214, 997] (by decide +kernel) (by decide +kernel)
set_option maxRecDepth 100000 in
theorem ugq_L_file_r9 : GoodIn lw_tbl (usL_file_r9) := ub_goodq _ [998, 999, 1000, 1001, 114, 1002, 1003, 1004, 115, 1005, 1006, 1007, 1008, 1009, 1424, 1050, 1051, 1052, 1425, 919] (by decide +kernel) (by decide +kernel)
set_option maxRecDepth 100000 in
theorem ugq_L_file_self : GoodIn lw_tbl ([Cond.codeWith yL_file cL_file 3 (some .int) [(0, 8, 11, 15)]]) := ub_goodq _ [1314] (by decide +kernel) (by decide +kernel)
theorem ugq_L_file : GoodIn lw_tbl usL_file := by unfold usL_file; exact ub_gcons ugq_L_file_self (ub_gapp (ub_gapp (ub_gapp (ub_gapp (ub_gapp ugq_L_file_r1 (ub_gapp ugq_L_file_r2 (ub_gapp ugq_L_file_r3 (ub_gapp ugq_L_file_r4 (ub_gapp ugq_L_file_r5 (ub_gapp ugq_L_file_r6 (ub_gapp ugq_L_file_r7 (ub_gapp ugq_L_file_r8 ugq_L_file_r9)))))))) ugf_wsX110) ugf_wsX60) ugf_wsJx4a65c0) ugf_wsX80)
set_option maxRecDepth 100000 in
theorem ugf_wsX70 : GoodIn lw_tbl (wsX70) := ub_goodq _ [228, 230] (by decide +kernel) (by decide +kernel)
set_option maxRecDepth 100000 in
theorem ugq_L_modeOf_r1 : GoodIn lw_tbl (usL_modeOf_r1) := ub_goodq _ [1288, 1961, 1962, 1963, 87, 1964, 1293, 1295, 14, 1296, 1297, 113, 499, 168, 988, 989, 990, 90, 991, 156] (by decide +kernel) (by decide +kernel)
set_option maxRecDepth 100000 in
theorem ugq_L_modeOf_r2 : GoodIn lw_tbl (usL_modeOf_r2) := ub_goodq _ [996, 997, 998, 999, 1000, 1001, 114, 1002, 1003, 1004, 115, 1005, 1006, 1007, 1008, 1009, 153, 1965, 1967, 45] (by decide +kernel) (by decide +kernel)
set_option maxRecDepth 100000 in
theorem ugq_L_modeOf_r3 : GoodIn lw_tbl (usL_modeOf_r3) := ub_goodq _ [1968, 506, 503, 1099, 1100, 1101, 97, 1102, 1061, 1062, 1063, 1064, 226, 227, 1065, 920, 921, 91, 922, 178] (by decide +kernel) (by decide +kernel)
set_option maxRecDepth 100000 in
theorem ugq_L_modeOf_r4 : GoodIn lw_tbl (usL_modeOf_r4) := ub_goodq _ [1066, 916, 917, 918, 1067, 929, 930, 931, 177, 1068, 1069, 1070, 1071, 1072, 933, 934, 935, 1073, 1034, 1035] (by decide +kernel) (by decide +kernel)
set_option maxRecDepth 100000 in
theorem ugq_L_modeOf_r5 : GoodIn lw_tbl (usL_modeOf_r5) := ub_goodq _ [1036, 1074, 1075, 1076, 1077, 1094, 686, 92, 687, 1078, 1079, 1080, 1081, 1082, 1083, 1084, 1085, 1086, 1087, 1088] (by decide +kernel) (by decide +kernel)
set_option maxRecDepth 100000 in
theorem ugq_L_modeOf_r6 : GoodIn lw_tbl (usL_modeOf_r6) := ub_goodq _ [1089, 1090, 1091, 1092, 1093, 1095, 1097, 4, 1098, 1045, 1046, 1047, 1048, 1049, 1050, 1051, 1052, 928] (by decide +kernel) (by decide +kernel)
set_option maxRecDepth 100000 in
theorem ugq_L_modeOf_self : GoodIn lw_tbl ([Cond.codeWith yL_modeOf cL_modeOf 4 (some .int) [(0, 9, 12, 25)]]) := ub_goodq _ [1960] (by decide +kernel) (by decide +kernel)
theorem ugq_L_modeOf : GoodIn lw_tbl usL_modeOf := by unfold usL_modeOf; exact ub_gcons ugq_L_modeOf_self (ub_gapp (ub_gapp (ub_gapp (ub_gapp (ub_gapp ugq_L_modeOf_r1 (ub_gapp ugq_L_modeOf_r2 (ub_gapp ugq_L_modeOf_r3 (ub_gapp ugq_L_modeOf_r4 (ub_gapp ugq_L_modeOf_r5 ugq_L_modeOf_r6))))) ugf_wsX110) ugf_wsJx4a65c0) ugf_wsX70) ugf_wsX60)
set_option maxRecDepth 100000 in
theorem ugf_wsX150 : GoodIn lw_tbl (wsX150) := ub_goodq _ [2349, 2351, 2353, 2355, 2357, 2359, 2361, 2363, 2365, 2367, 2369, 2371, 2373, 2375, 2377, 2379, 2381, 2383, 2385, 2387, 2389, 2391, 2393] (by decide +kernel) (by decide +kernel)
set_option maxRecDepth 100000 in
theorem ugq_X15_modeOf__r1 : GoodIn lw_tbl (usX15_modeOf__r1) := ub_goodq _ [2329, 2437, 2427, 2429, 62, 107, 2430, 2431, 2433, 63, 2434, 2435, 989, 990, 90, 991, 156, 2405, 2406, 2407] (by decide +kernel) (by decide +kernel)
set_option maxRecDepth 100000 in
theorem ugq_X15_modeOf__r2 : GoodIn lw_tbl (usX15_modeOf__r2) := ub_goodq _ [2408, 2410, 60, 2411, 2326, 2436, 997, 998, 999, 1000, 1001, 114, 1002, 1003, 1004, 115, 1005, 1006, 1007, 1008] (by decide +kernel) (by decide +kernel)
set_option maxRecDepth 100000 in
theorem ugq_X15_modeOf__r3 : GoodIn lw_tbl (usX15_modeOf__r3) := ub_goodq _ [1009, 153, 3023, 3024, 3025, 3016, 3017, 3018, 184, 2416, 2417, 2418, 3009, 3010, 3011, 2438, 2439, 2440, 2466, 2467] (by decide +kernel) (by decide +kernel)
set_option maxRecDepth 100000 in
theorem ugq_X15_modeOf__r4 : GoodIn lw_tbl (usX15_modeOf__r4) := ub_goodq _ [2468] (by decide +kernel) (by decide +kernel)
set_option maxRecDepth 100000 in
theorem ugq_X15_modeOf__self : GoodIn lw_tbl ([Cond.code yX15_modeOf_ cX15_modeOf_ 2 (some .int)]) := ub_goodq _ [3022] (by decide +kernel) (by decide +kernel)
theorem ugq_X15_modeOf_ : GoodIn lw_tbl usX15_modeOf_ := by unfold usX15_modeOf_; exact ub_gcons ugq_X15_modeOf__self (ub_gapp (ub_gapp (ub_gapp ugq_X15_modeOf__r1 (ub_gapp ugq_X15_modeOf__r2 (ub_gapp ugq_X15_modeOf__r3 ugq_X15_modeOf__r4))) ugf_wsX150) ugf_wsJx4a65c0)
set_option maxRecDepth 100000 in
theorem ugq_L_file_head : GoodIn lw_tbl ([Cond.methodLink RL 243 yL_file, Cond.static yL_file, Cond.initialized RL]) := ub_goodq _ [1312, 1313, 86] (by decide +kernel) (by decide +kernel)
theorem ugL_law_L_file : GoodIn lw_tbl (va_wsS RL 243 yL_file usL_file) := by unfold va_wsS; exact ub_gapp ugq_L_file_head ugq_L_file
set_option maxRecDepth 100000 in
theorem ugq_L_modeOf_head : GoodIn lw_tbl ([Cond.methodLink RL 369 yL_modeOf, Cond.static yL_modeOf, Cond.initialized RL]) := ub_goodq _ [1958, 1959, 86] (by decide +kernel) (by decide +kernel)
theorem ugL_law_L_modeOf : GoodIn lw_tbl (va_wsS RL 369 yL_modeOf usL_modeOf) := by unfold va_wsS; exact ub_gapp ugq_L_modeOf_head ugq_L_modeOf
set_option maxRecDepth 100000 in
theorem ugq_X15_modeOf__head : GoodIn lw_tbl ([Cond.methodLink RL 371 yX15_modeOf_, Cond.instanceMethod yX15_modeOf_, Cond.selects RX15 yX15_modeOf_ yX15_modeOf_, Cond.initialized RX15]) := ub_goodq _ [3019, 3020, 3021, 107] (by decide +kernel) (by decide +kernel)
theorem ugL_law_X15_modeOf_ : GoodIn lw_tbl (wsV RL 371 RX15 yX15_modeOf_ usX15_modeOf_) := by unfold wsV; exact ub_gapp ugq_X15_modeOf__head ugq_X15_modeOf_
