set_option maxRecDepth 20000 in
theorem gp1_L_refused_X6_over : GoodIn wsL_refused (.code yX6_over cX6_over 5 (some .int) :: wsX6_over_r1) := goodIn_r _ [276, 13, 277, 262, 263, 10, 264, 14, 15, 16, 22, 23, 24, 17, 18, 19, 20, 21, 266, 176, 177, 28, 178, 30, 35] (by decide +kernel) (by decide +kernel)
set_option maxRecDepth 20000 in
theorem gp2_L_refused_X6_over : GoodIn wsL_refused (wsX6_over_r2) := goodIn_r _ [36, 37, 38, 39, 26, 27, 29, 40, 41, 42, 43, 44, 45, 46, 47, 48, 49, 179, 180, 181, 182, 54, 55, 56] (by decide +kernel) (by decide +kernel)
set_option maxRecDepth 20000 in
theorem gp3_L_refused_X6_over : GoodIn wsL_refused (wsX6_over_r3) := goodIn_r _ [278, 198, 199, 186, 200, 188, 192, 146, 147, 148, 189, 190, 191] (by decide +kernel) (by decide +kernel)
set_option maxRecDepth 20000 in
theorem gp4_L_refused_X6_over : GoodIn wsL_refused (wsX60) := goodIn_r _ [314, 315, 316, 317, 318, 319, 320, 321, 322, 323] (by decide +kernel) (by decide +kernel)
set_option maxRecDepth 20000 in
theorem gp5_L_refused_X6_over : GoodIn wsL_refused (wsX10) := goodIn_r _ [324, 325, 326] (by decide +kernel) (by decide +kernel)
set_option maxRecDepth 20000 in
theorem gp6_L_refused_X6_over : GoodIn wsL_refused (wsX30) := goodIn_r _ [344] (by decide +kernel) (by decide +kernel)
theorem ggL_refused_X6_over : GoodIn wsL_refused wsX6_over := (goodIn_ca (goodIn_ca (goodIn_ca (goodIn_ca gp1_L_refused_X6_over (goodIn_app gp2_L_refused_X6_over gp3_L_refused_X6_over)) gp4_L_refused_X6_over) gp5_L_refused_X6_over) gp6_L_refused_X6_over)
set_option maxRecDepth 20000 in
theorem gL_refused_X6_over : GoodIn wsL_refused (wsV RL 45 RX6 yX6_over wsX6_over) := goodIn_app (goodIn_of _ (by decide +kernel)) ggL_refused_X6_over
set_option maxRecDepth 20000 in
theorem gp1_L_refused_X6_worst : GoodIn wsL_refused (.code yX6_worst cX6_worst 5 (some .int) :: wsX6_worst_r1) := goodIn_r _ [282, 13, 277, 262, 263, 10, 264, 14, 15, 16, 22, 23, 24, 17, 18, 19, 20, 21, 266, 176, 177, 28, 178, 30, 35] (by decide +kernel) (by decide +kernel)
set_option maxRecDepth 20000 in
theorem gp2_L_refused_X6_worst : GoodIn wsL_refused (wsX6_worst_r2) := goodIn_r _ [36, 37, 38, 39, 26, 27, 29, 40, 41, 42, 43, 44, 45, 46, 47, 48, 49, 179, 180, 181, 182, 54, 55, 56] (by decide +kernel) (by decide +kernel)
set_option maxRecDepth 20000 in
theorem gp3_L_refused_X6_worst : GoodIn wsL_refused (wsX6_worst_r3) := goodIn_r _ [283, 194, 195, 186, 196, 189, 190, 147, 191, 197, 198, 199, 200, 188, 192, 146, 148, 284, 202, 203, 204] (by decide +kernel) (by decide +kernel)
set_option maxRecDepth 20000 in
theorem gp4_L_refused_X6_worst : GoodIn wsL_refused (wsX60) := goodIn_r _ [314, 315, 316, 317, 318, 319, 320, 321, 322, 323] (by decide +kernel) (by decide +kernel)
set_option maxRecDepth 20000 in
theorem gp5_L_refused_X6_worst : GoodIn wsL_refused (wsX10) := goodIn_r _ [324, 325, 326] (by decide +kernel) (by decide +kernel)
set_option maxRecDepth 20000 in
theorem gp6_L_refused_X6_worst : GoodIn wsL_refused (wsX30) := goodIn_r _ [344] (by decide +kernel) (by decide +kernel)
theorem ggL_refused_X6_worst : GoodIn wsL_refused wsX6_worst := (goodIn_ca (goodIn_ca (goodIn_ca (goodIn_ca gp1_L_refused_X6_worst (goodIn_app gp2_L_refused_X6_worst gp3_L_refused_X6_worst)) gp4_L_refused_X6_worst) gp5_L_refused_X6_worst) gp6_L_refused_X6_worst)
set_option maxRecDepth 20000 in
theorem gL_refused_X6_worst : GoodIn wsL_refused (wsV RL 42 RX6 yX6_worst wsX6_worst) := goodIn_app (goodIn_of _ (by decide +kernel)) ggL_refused_X6_worst
