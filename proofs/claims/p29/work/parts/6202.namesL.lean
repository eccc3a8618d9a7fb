set_option maxRecDepth 20000 in
theorem ggL_overlaps_X6_simple : GoodIn wsL_overlaps wsX6_simple := goodIn_r _ [5, 6, 7, 8, 4, 9, 10, 11, 12, 13, 14, 15, 16, 17, 18, 19, 20, 21, 22, 23, 24, 25, 26, 27, 28, 29, 30, 31, 32, 33, 34, 35, 36, 37, 38, 39, 40, 41, 42, 43, 44, 45, 46, 47, 48, 49, 93, 94, 95, 96, 97, 98, 99, 100, 101, 102, 103, 104, 105] (by decide +kernel) (by decide +kernel)
set_option maxRecDepth 20000 in
theorem gL_overlaps_X6_simple : GoodIn wsL_overlaps (wsV RL 26 RX6 yX6_simple wsX6_simple) := goodIn_app (goodIn_of _ (by decide +kernel)) ggL_overlaps_X6_simple
set_option maxRecDepth 20000 in
theorem gp1_L_overlaps_X6_worst : GoodIn wsL_overlaps (.code yX6_worst cX6_worst 5 (some .int) :: wsX6_worst_r1) := goodIn_r _ [53, 6, 54, 7, 8, 4, 9, 10, 11, 12, 18, 19, 20, 13, 14, 15, 16, 17, 41, 42, 43, 24, 44, 26, 45] (by decide +kernel) (by decide +kernel)
set_option maxRecDepth 20000 in
theorem gp2_L_overlaps_X6_worst : GoodIn wsL_overlaps (wsX6_worst_r2) := goodIn_r _ [22, 23, 25, 27, 28, 29, 30, 31, 32, 33, 34, 35, 36, 37, 38, 39, 40, 46, 47, 48, 49, 55, 56, 57] (by decide +kernel) (by decide +kernel)
set_option maxRecDepth 20000 in
theorem gp3_L_overlaps_X6_worst : GoodIn wsL_overlaps (wsX6_worst_r3) := goodIn_r _ [58, 59, 60, 61, 62, 63, 64, 65, 66, 67, 68, 69, 70, 71, 72, 73, 74, 75, 76, 77, 78] (by decide +kernel) (by decide +kernel)
set_option maxRecDepth 20000 in
theorem gp4_L_overlaps_X6_worst : GoodIn wsL_overlaps (wsX60) := goodIn_r _ [93, 94, 95, 96, 97, 98, 99, 100, 101, 102] (by decide +kernel) (by decide +kernel)
set_option maxRecDepth 20000 in
theorem gp5_L_overlaps_X6_worst : GoodIn wsL_overlaps (wsX10) := goodIn_r _ [103, 104, 105] (by decide +kernel) (by decide +kernel)
set_option maxRecDepth 20000 in
theorem gp6_L_overlaps_X6_worst : GoodIn wsL_overlaps (wsX30) := goodIn_r _ [106] (by decide +kernel) (by decide +kernel)
theorem ggL_overlaps_X6_worst : GoodIn wsL_overlaps wsX6_worst := (goodIn_ca (goodIn_ca (goodIn_ca (goodIn_ca gp1_L_overlaps_X6_worst (goodIn_app gp2_L_overlaps_X6_worst gp3_L_overlaps_X6_worst)) gp4_L_overlaps_X6_worst) gp5_L_overlaps_X6_worst) gp6_L_overlaps_X6_worst)
set_option maxRecDepth 20000 in
theorem gL_overlaps_X6_worst : GoodIn wsL_overlaps (wsV RL 42 RX6 yX6_worst wsX6_worst) := goodIn_app (goodIn_of _ (by decide +kernel)) ggL_overlaps_X6_worst
set_option maxRecDepth 20000 in
theorem ggL_overlaps_X6_clutch : GoodIn wsL_overlaps wsX6_clutch := goodIn_r _ [82, 83, 6, 55, 56, 4, 57, 13, 14, 15, 16, 17, 18, 19, 20, 84, 85, 86, 24, 87, 26, 93, 94, 95, 96, 97, 98, 99, 100, 101, 102, 103, 104, 105] (by decide +kernel) (by decide +kernel)
set_option maxRecDepth 20000 in
theorem gL_overlaps_X6_clutch : GoodIn wsL_overlaps (wsV RL 19 RX6 yX6_clutch wsX6_clutch) := goodIn_app (goodIn_of _ (by decide +kernel)) ggL_overlaps_X6_clutch
