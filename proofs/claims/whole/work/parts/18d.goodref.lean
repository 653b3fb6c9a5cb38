set_option maxRecDepth 100000 in
theorem ugL_law_X15_modeOf_ : GoodIn lw_tbl (wsV RL 371 RX15 yX15_modeOf_ usX15_modeOf_) := goodIn_p _ [3022, 2430, 2434, 991, 2407, 2411, 999, 1002, 1005, 1009, 3025, 3018, 2418, 3011, 2440, 2468] (by decide +kernel) (by decide +kernel)
