set_option maxRecDepth 20000 in
theorem gp1_L_learns_X6_init : GoodIn wsL_learns (.code yX6_init cX6_init 2 none :: wsX6_init_r1) := goodIn_r _ [6, 7, 8, 9, 10, 11, 12, 13, 14, 15, 16, 17, 18, 19, 20, 21, 22, 23, 24, 25, 26, 27, 28, 29, 30] (by decide +kernel) (by decide +kernel)
set_option maxRecDepth 20000 in
theorem gp2_L_learns_X6_init : GoodIn wsL_learns (wsX6_init_r2) := goodIn_r _ [31, 32, 33, 34, 35, 36, 37, 38, 39, 40, 41, 42, 43, 44, 45, 46, 47, 48, 49, 50, 51, 52, 53, 54] (by decide +kernel) (by decide +kernel)
set_option maxRecDepth 20000 in
theorem gp3_L_learns_X6_init : GoodIn wsL_learns (wsX6_init_r3) := goodIn_r _ [55, 56, 57, 58, 59, 60, 61, 62, 63, 64, 65, 66, 67, 68, 69, 70, 71, 72, 73, 74, 75, 76, 77, 78] (by decide +kernel) (by decide +kernel)
set_option maxRecDepth 20000 in
theorem gp4_L_learns_X6_init : GoodIn wsL_learns (wsX6_init_r4) := goodIn_r _ [79, 80, 81, 82, 83] (by decide +kernel) (by decide +kernel)
set_option maxRecDepth 20000 in
theorem gp5_L_learns_X6_init : GoodIn wsL_learns (wsX60) := goodIn_r _ [273, 274, 275, 276, 277, 278, 279, 280, 281, 282] (by decide +kernel) (by decide +kernel)
set_option maxRecDepth 20000 in
theorem gp6_L_learns_X6_init : GoodIn wsL_learns (wsX10) := goodIn_r _ [283, 284, 285] (by decide +kernel) (by decide +kernel)
set_option maxRecDepth 20000 in
theorem gp7_L_learns_X6_init : GoodIn wsL_learns (wsX30) := goodIn_r _ [286] (by decide +kernel) (by decide +kernel)
set_option maxRecDepth 20000 in
theorem gp8_L_learns_X6_init : GoodIn wsL_learns (wsX00) := goodIn_r _ [287, 288, 289] (by decide +kernel) (by decide +kernel)
set_option maxRecDepth 20000 in
theorem gp9_L_learns_X6_init : GoodIn wsL_learns (wsX20) := goodIn_r _ [290, 291, 292] (by decide +kernel) (by decide +kernel)
set_option maxRecDepth 20000 in
theorem gp10_L_learns_X6_init : GoodIn wsL_learns (wsX40) := goodIn_r _ [293, 294, 295, 296] (by decide +kernel) (by decide +kernel)
set_option maxRecDepth 20000 in
theorem gp11_L_learns_X6_init : GoodIn wsL_learns (wsX50) := goodIn_r _ [297, 298, 299, 300, 301, 302, 303] (by decide +kernel) (by decide +kernel)
theorem ggL_learns_X6_init : GoodIn wsL_learns wsX6_init := (goodIn_ca (goodIn_ca (goodIn_ca (goodIn_ca (goodIn_ca (goodIn_ca (goodIn_ca (goodIn_ca gp1_L_learns_X6_init (goodIn_app gp2_L_learns_X6_init (goodIn_app gp3_L_learns_X6_init gp4_L_learns_X6_init))) gp5_L_learns_X6_init) gp6_L_learns_X6_init) gp7_L_learns_X6_init) gp8_L_learns_X6_init) gp9_L_learns_X6_init) gp10_L_learns_X6_init) gp11_L_learns_X6_init)
set_option maxRecDepth 20000 in
theorem gL_learns_X6_init : GoodIn wsL_learns (wsX6_init) := ggL_learns_X6_init
