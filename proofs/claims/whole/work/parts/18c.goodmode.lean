set_option maxRecDepth 100000 in
theorem ugL_law_L_modeOf : GoodIn lw_tbl (va_wsS RL 369 yL_modeOf usL_modeOf) := goodIn_p _ [1964, 1296, 991, 999, 1002, 1005, 1009, 1968, 1102, 1064, 922, 918, 931, 1071, 935, 1036, 1077, 687, 1081, 1085, 1089, 1093, 1098, 1048, 1052] (by decide +kernel) (by decide +kernel)
