set_option maxRecDepth 20000 in
theorem gp1_L_learns_X6_worst : GoodIn wsL_learns (.code yX6_worst cX6_worst 5 (some .int) :: wsX6_worst_r1) := goodIn_r _ [259, 16, 20, 260, 261, 3, 262, 263, 113, 114, 234, 115, 116, 230, 231, 232, 233, 12, 264, 187, 188, 15, 189, 45, 190] (by decide +kernel) (by decide +kernel)
set_option maxRecDepth 20000 in
theorem gp2_L_learns_X6_worst : GoodIn wsL_learns (wsX6_worst_r2) := goodIn_r _ [191, 192, 193, 158, 130, 131, 132, 172, 173, 174, 175, 176, 177, 178, 179, 180, 181, 194, 195, 196, 197, 265, 137, 138] (by decide +kernel) (by decide +kernel)
set_option maxRecDepth 20000 in
theorem gp3_L_learns_X6_worst : GoodIn wsL_learns (wsX6_worst_r3) := goodIn_r _ [266, 207, 208, 19, 209, 202, 203, 148, 204, 210, 211, 212, 213, 50, 205, 147, 149, 267, 215, 216, 217] (by decide +kernel) (by decide +kernel)
set_option maxRecDepth 20000 in
theorem gp4_L_learns_X6_worst : GoodIn wsL_learns (wsX60) := goodIn_r _ [273, 274, 275, 276, 277, 278, 279, 280, 281, 282] (by decide +kernel) (by decide +kernel)
set_option maxRecDepth 20000 in
theorem gp5_L_learns_X6_worst : GoodIn wsL_learns (wsX10) := goodIn_r _ [283, 284, 285] (by decide +kernel) (by decide +kernel)
set_option maxRecDepth 20000 in
theorem gp6_L_learns_X6_worst : GoodIn wsL_learns (wsX30) := goodIn_r _ [286] (by decide +kernel) (by decide +kernel)
theorem ggL_learns_X6_worst : GoodIn wsL_learns wsX6_worst := (goodIn_ca (goodIn_ca (goodIn_ca (goodIn_ca gp1_L_learns_X6_worst (goodIn_app gp2_L_learns_X6_worst gp3_L_learns_X6_worst)) gp4_L_learns_X6_worst) gp5_L_learns_X6_worst) gp6_L_learns_X6_worst)
set_option maxRecDepth 20000 in
theorem gL_learns_X6_worst : GoodIn wsL_learns (wsV RL 42 RX6 yX6_worst wsX6_worst) := goodIn_app (goodIn_of _ (by decide +kernel)) ggL_learns_X6_worst
set_option maxRecDepth 20000 in
theorem ggL_learns_X6_state : GoodIn wsL_learns wsX6_state := goodIn_r _ [271, 16, 11, 272, 165, 166, 15, 167, 158, 130, 131, 132, 45, 234, 115, 3, 116, 230, 231, 232, 233, 12, 273, 274, 275, 276, 277, 278, 279, 280, 281, 282, 283, 284, 285] (by decide +kernel) (by decide +kernel)
set_option maxRecDepth 20000 in
theorem gL_learns_X6_state : GoodIn wsL_learns (wsV RL 22 RX6 yX6_state wsX6_state) := goodIn_app (goodIn_of _ (by decide +kernel)) ggL_learns_X6_state
set_option maxRecDepth 20000 in
theorem ggL_does_L_low : GoodIn wsL_does wsL_low := goodIn_r _ [4, 5] (by decide +kernel) (by decide +kernel)
set_option maxRecDepth 20000 in
theorem gL_does_L_low : GoodIn wsL_does (va_wsS RL 48 yL_low wsL_low) := goodIn_app (goodIn_of _ (by decide +kernel)) ggL_does_L_low
