set_option maxRecDepth 20000 in
theorem ggL_refused_X6_state : GoodIn wsL_refused wsX6_state := goodIn_r _ [64, 13, 12, 65, 66, 67, 28, 68, 39, 26, 27, 29, 30, 22, 23, 10, 24, 17, 18, 19, 20, 21, 314, 315, 316, 317, 318, 319, 320, 321, 322, 323, 324, 325, 326] (by decide +kernel) (by decide +kernel)
set_option maxRecDepth 20000 in
theorem gL_refused_X6_state : GoodIn wsL_refused (wsV RL 22 RX6 yX6_state wsX6_state) := goodIn_app (goodIn_of _ (by decide +kernel)) ggL_refused_X6_state
set_option maxRecDepth 20000 in
theorem ggL_refused_X6_why : GoodIn wsL_refused wsX6_why := goodIn_r _ [302, 303, 304, 22, 23, 10, 24, 17, 18, 19, 20, 21, 314, 315, 316, 317, 318, 319, 320, 321, 322, 323] (by decide +kernel) (by decide +kernel)
set_option maxRecDepth 20000 in
theorem gL_refused_X6_why : GoodIn wsL_refused (wsV RL 92 RX6 yX6_why wsX6_why) := goodIn_app (goodIn_of _ (by decide +kernel)) ggL_refused_X6_why
set_option maxRecDepth 20000 in
theorem ggL_refused_X6_type : GoodIn wsL_refused wsX6_type := goodIn_r _ [308, 73, 22, 23, 10, 24, 17, 18, 19, 20, 21, 309, 310, 311, 78, 312, 80, 313, 75, 76, 77, 79, 314, 315, 316, 317, 318, 319, 320, 321, 322, 323, 327, 328, 329, 330, 331, 332, 333] (by decide +kernel) (by decide +kernel)
set_option maxRecDepth 20000 in
theorem gL_refused_X6_type : GoodIn wsL_refused (wsV RL 95 RX6 yX6_type wsX6_type) := goodIn_app (goodIn_of _ (by decide +kernel)) ggL_refused_X6_type
set_option maxRecDepth 20000 in
theorem gp1_L_law_X6_init : GoodIn wsL_law (.code yX6_init cX6_init 2 none :: wsX6_init_r1) := goodIn_r _ [6, 7, 8, 9, 10, 11, 12, 13, 14, 15, 16, 17, 18, 19, 20, 21, 22, 23, 24, 25, 26, 27, 28, 29, 30] (by decide +kernel) (by decide +kernel)
set_option maxRecDepth 20000 in
theorem gp2_L_law_X6_init : GoodIn wsL_law (wsX6_init_r2) := goodIn_r _ [31, 32, 33, 34, 35, 36, 37, 38, 39, 40, 41, 42, 43, 44, 45, 46, 47, 48, 49, 50, 51, 52, 53, 54] (by decide +kernel) (by decide +kernel)
set_option maxRecDepth 20000 in
theorem gp3_L_law_X6_init : GoodIn wsL_law (wsX6_init_r3) := goodIn_r _ [55, 56, 57, 58, 59, 60, 61, 62, 63, 64, 65, 66, 67, 68, 69, 70, 71, 72, 73, 74, 75, 76, 77, 78] (by decide +kernel) (by decide +kernel)
set_option maxRecDepth 20000 in
theorem gp4_L_law_X6_init : GoodIn wsL_law (wsX6_init_r4) := goodIn_r _ [79, 80, 81, 82, 83] (by decide +kernel) (by decide +kernel)
set_option maxRecDepth 20000 in
theorem gp5_L_law_X6_init : GoodIn wsL_law (wsX60) := goodIn_r _ [402, 403, 404, 405, 406, 407, 408, 409, 410, 411] (by decide +kernel) (by decide +kernel)
set_option maxRecDepth 20000 in
theorem gp6_L_law_X6_init : GoodIn wsL_law (wsX10) := goodIn_r _ [412, 413, 414] (by decide +kernel) (by decide +kernel)
set_option maxRecDepth 20000 in
theorem gp7_L_law_X6_init : GoodIn wsL_law (wsX30) := goodIn_r _ [415] (by decide +kernel) (by decide +kernel)
set_option maxRecDepth 20000 in
theorem gp8_L_law_X6_init : GoodIn wsL_law (wsX00) := goodIn_r _ [416, 417, 418] (by decide +kernel) (by decide +kernel)
set_option maxRecDepth 20000 in
theorem gp9_L_law_X6_init : GoodIn wsL_law (wsX20) := goodIn_r _ [419, 420, 421] (by decide +kernel) (by decide +kernel)
set_option maxRecDepth 20000 in
theorem gp10_L_law_X6_init : GoodIn wsL_law (wsX40) := goodIn_r _ [422, 423, 424, 425] (by decide +kernel) (by decide +kernel)
set_option maxRecDepth 20000 in
theorem gp11_L_law_X6_init : GoodIn wsL_law (wsX50) := goodIn_r _ [426, 427, 428, 429, 430, 431, 432] (by decide +kernel) (by decide +kernel)
theorem ggL_law_X6_init : GoodIn wsL_law wsX6_init := (goodIn_ca (goodIn_ca (goodIn_ca (goodIn_ca (goodIn_ca (goodIn_ca (goodIn_ca (goodIn_ca gp1_L_law_X6_init (goodIn_app gp2_L_law_X6_init (goodIn_app gp3_L_law_X6_init gp4_L_law_X6_init))) gp5_L_law_X6_init) gp6_L_law_X6_init) gp7_L_law_X6_init) gp8_L_law_X6_init) gp9_L_law_X6_init) gp10_L_law_X6_init) gp11_L_law_X6_init)
set_option maxRecDepth 20000 in
theorem gL_law_X6_init : GoodIn wsL_law (wsX6_init) := ggL_law_X6_init
