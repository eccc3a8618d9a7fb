set_option maxRecDepth 20000 in
theorem ggL_refused_X6_of : GoodIn wsL_refused wsX6_of := goodIn_r _ [11, 12, 13, 14, 15, 10, 16, 17, 18, 19, 20, 21, 22, 23, 24, 25, 26, 27, 28, 29, 30, 31, 32, 33, 34, 35, 36, 37, 38, 39, 40, 41, 42, 43, 44, 45, 46, 47, 48, 49, 314, 315, 316, 317, 318, 319, 320, 321, 322, 323, 324, 325, 326] (by decide +kernel) (by decide +kernel)
set_option maxRecDepth 20000 in
theorem gL_refused_X6_of : GoodIn wsL_refused (wsV RL 13 RX6 yX6_of wsX6_of) := goodIn_app (goodIn_of _ (by decide +kernel)) ggL_refused_X6_of
set_option maxRecDepth 20000 in
theorem ggL_refused_X6_clutch : GoodIn wsL_refused wsX6_clutch := goodIn_r _ [53, 12, 13, 54, 55, 10, 56, 17, 18, 19, 20, 21, 22, 23, 24, 57, 58, 59, 28, 60, 30, 314, 315, 316, 317, 318, 319, 320, 321, 322, 323, 324, 325, 326] (by decide +kernel) (by decide +kernel)
set_option maxRecDepth 20000 in
theorem gL_refused_X6_clutch : GoodIn wsL_refused (wsV RL 19 RX6 yX6_clutch wsX6_clutch) := goodIn_app (goodIn_of _ (by decide +kernel)) ggL_refused_X6_clutch
set_option maxRecDepth 20000 in
theorem ggL_refused_X6_ties : GoodIn wsL_refused wsX6_ties := goodIn_r _ [253, 13, 22, 23, 10, 24, 17, 18, 19, 20, 21, 254, 255, 256, 28, 257, 30, 314, 315, 316, 317, 318, 319, 320, 321, 322, 323, 324, 325, 326] (by decide +kernel) (by decide +kernel)
set_option maxRecDepth 20000 in
theorem gL_refused_X6_ties : GoodIn wsL_refused (wsV RL 30 RX6 yX6_ties wsX6_ties) := goodIn_app (goodIn_of _ (by decide +kernel)) ggL_refused_X6_ties
set_option maxRecDepth 20000 in
theorem ggL_refused_X6_simple : GoodIn wsL_refused wsX6_simple := goodIn_r _ [261, 13, 262, 263, 10, 264, 14, 15, 16, 17, 18, 19, 20, 21, 22, 23, 24, 265, 36, 37, 28, 38, 30, 39, 26, 27, 29, 40, 41, 42, 43, 44, 45, 46, 47, 48, 49, 266, 176, 177, 178, 35, 179, 180, 181, 182, 314, 315, 316, 317, 318, 319, 320, 321, 322, 323, 324, 325, 326] (by decide +kernel) (by decide +kernel)
set_option maxRecDepth 20000 in
theorem gL_refused_X6_simple : GoodIn wsL_refused (wsV RL 26 RX6 yX6_simple wsX6_simple) := goodIn_app (goodIn_of _ (by decide +kernel)) ggL_refused_X6_simple
set_option maxRecDepth 20000 in
theorem gp1_L_refused_X6_way : GoodIn wsL_refused (.code yX6_way cX6_way 5 (some .int) :: wsX6_way_r1) := goodIn_r _ [270, 13, 262, 263, 10, 264, 14, 15, 16, 17, 18, 19, 20, 21, 22, 23, 24, 25, 26, 27, 28, 29, 30, 271, 160] (by decide +kernel) (by decide +kernel)
set_option maxRecDepth 20000 in
theorem gp2_L_refused_X6_way : GoodIn wsL_refused (wsX6_way_r2) := goodIn_r _ [161, 162, 163, 164, 146, 147, 148, 165, 166, 66, 67, 68, 39, 167, 168, 169, 170, 40, 41, 42, 43, 44, 45, 46] (by decide +kernel) (by decide +kernel)
set_option maxRecDepth 20000 in
theorem gp3_L_refused_X6_way : GoodIn wsL_refused (wsX6_way_r3) := goodIn_r _ [47, 48, 49, 272, 172, 173, 174] (by decide +kernel) (by decide +kernel)
set_option maxRecDepth 20000 in
theorem gp4_L_refused_X6_way : GoodIn wsL_refused (wsX60) := goodIn_r _ [314, 315, 316, 317, 318, 319, 320, 321, 322, 323] (by decide +kernel) (by decide +kernel)
set_option maxRecDepth 20000 in
theorem gp5_L_refused_X6_way : GoodIn wsL_refused (wsX10) := goodIn_r _ [324, 325, 326] (by decide +kernel) (by decide +kernel)
theorem ggL_refused_X6_way : GoodIn wsL_refused wsX6_way := (goodIn_ca (goodIn_ca (goodIn_ca gp1_L_refused_X6_way (goodIn_app gp2_L_refused_X6_way gp3_L_refused_X6_way)) gp4_L_refused_X6_way) gp5_L_refused_X6_way)
set_option maxRecDepth 20000 in
theorem gL_refused_X6_way : GoodIn wsL_refused (wsV RL 35 RX6 yX6_way wsX6_way) := goodIn_app (goodIn_of _ (by decide +kernel)) ggL_refused_X6_way
