set_option maxRecDepth 100000 in
theorem ugL_law_L_file : GoodIn lw_tbl (va_wsS RL 243 yL_file usL_file) := goodIn_p _ [1318, 1322, 918, 1326, 991, 1331, 172, 138, 176, 1337, 922, 931, 1036, 1343, 1347, 1351, 1355, 668, 673, 1359, 1394, 687, 1403, 1410, 1414, 1418, 1423, 999, 1002, 1005, 1009, 1052] (by decide +kernel) (by decide +kernel)
