set_option maxRecDepth 20000 in
theorem gp1_L_overlaps_X6_over : GoodIn wsL_overlaps (.code yX6_over cX6_over 5 (some .int) :: wsX6_over_r1) := goodIn_r _ [91, 6, 54, 7, 8, 4, 9, 10, 11, 12, 18, 19, 20, 13, 14, 15, 16, 17, 41, 42, 43, 24, 44, 26, 45] (by decide +kernel) (by decide +kernel)
set_option maxRecDepth 20000 in
theorem gp2_L_overlaps_X6_over : GoodIn wsL_overlaps (wsX6_over_r2) := goodIn_r _ [22, 23, 25, 27, 28, 29, 30, 31, 32, 33, 34, 35, 36, 37, 38, 39, 40, 46, 47, 48, 49, 55, 56, 57] (by decide +kernel) (by decide +kernel)
set_option maxRecDepth 20000 in
theorem gp3_L_overlaps_X6_over : GoodIn wsL_overlaps (wsX6_over_r3) := goodIn_r _ [92, 68, 69, 61, 70, 71, 72, 73, 65, 74, 63, 64, 66] (by decide +kernel) (by decide +kernel)
set_option maxRecDepth 20000 in
theorem gp4_L_overlaps_X6_over : GoodIn wsL_overlaps (wsX60) := goodIn_r _ [93, 94, 95, 96, 97, 98, 99, 100, 101, 102] (by decide +kernel) (by decide +kernel)
set_option maxRecDepth 20000 in
theorem gp5_L_overlaps_X6_over : GoodIn wsL_overlaps (wsX10) := goodIn_r _ [103, 104, 105] (by decide +kernel) (by decide +kernel)
set_option maxRecDepth 20000 in
theorem gp6_L_overlaps_X6_over : GoodIn wsL_overlaps (wsX30) := goodIn_r _ [106] (by decide +kernel) (by decide +kernel)
theorem ggL_overlaps_X6_over : GoodIn wsL_overlaps wsX6_over := (goodIn_ca (goodIn_ca (goodIn_ca (goodIn_ca gp1_L_overlaps_X6_over (goodIn_app gp2_L_overlaps_X6_over gp3_L_overlaps_X6_over)) gp4_L_overlaps_X6_over) gp5_L_overlaps_X6_over) gp6_L_overlaps_X6_over)
set_option maxRecDepth 20000 in
theorem gL_overlaps_X6_over : GoodIn wsL_overlaps (wsV RL 45 RX6 yX6_over wsX6_over) := goodIn_app (goodIn_of _ (by decide +kernel)) ggL_overlaps_X6_over
set_option maxRecDepth 20000 in
theorem ggL_ticks_L_low : GoodIn wsL_ticks wsL_low := goodIn_r _ [4, 5] (by decide +kernel) (by decide +kernel)
set_option maxRecDepth 20000 in
theorem gL_ticks_L_low : GoodIn wsL_ticks (va_wsS RL 48 yL_low wsL_low) := goodIn_app (goodIn_of _ (by decide +kernel)) ggL_ticks_L_low
set_option maxRecDepth 20000 in
theorem ggL_ticks_X6_state : GoodIn wsL_ticks wsX6_state := goodIn_r _ [10, 11, 12, 13, 14, 15, 16, 17, 18, 19, 20, 21, 22, 23, 24, 9, 25, 26, 27, 28, 29, 30, 204, 205, 206, 207, 208, 209, 210, 211, 212, 213, 214, 215, 216] (by decide +kernel) (by decide +kernel)
set_option maxRecDepth 20000 in
theorem gL_ticks_X6_state : GoodIn wsL_ticks (wsV RL 22 RX6 yX6_state wsX6_state) := goodIn_app (goodIn_of _ (by decide +kernel)) ggL_ticks_X6_state
