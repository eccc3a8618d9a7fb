set_option maxRecDepth 20000 in
theorem gp1_L_refused_X6_down : GoodIn wsL_refused (.code yX6_down cX6_down 3 (some .int) :: wsX6_down_r1) := goodIn_r _ [237, 91, 92, 93, 10, 94, 74, 95, 96, 97, 98, 84, 99, 100, 101, 102, 103, 104, 105, 106, 107, 108, 109, 110, 111] (by decide +kernel) (by decide +kernel)
set_option maxRecDepth 20000 in
theorem gp2_L_refused_X6_down : GoodIn wsL_refused (wsX6_down_r2) := goodIn_r _ [112, 113, 114, 115, 116, 117, 15, 16, 23, 24, 118, 119, 120, 28, 121, 30, 122, 123, 124, 125, 126, 127, 128, 129] (by decide +kernel) (by decide +kernel)
set_option maxRecDepth 20000 in
theorem gp3_L_refused_X6_down : GoodIn wsL_refused (wsX6_down_r3) := goodIn_r _ [130, 131, 26, 27, 29, 132, 133, 134, 135, 55, 56, 136, 137, 138, 139, 140, 141, 142, 143, 144, 145, 146, 147, 148] (by decide +kernel) (by decide +kernel)
set_option maxRecDepth 20000 in
theorem gp4_L_refused_X6_down : GoodIn wsL_refused (wsX6_down_r4) := goodIn_r _ [149, 150, 151, 152, 153, 154, 155, 156, 157, 158, 39, 159, 160, 161, 162, 163, 164, 165, 166, 66, 67, 68, 167, 168] (by decide +kernel) (by decide +kernel)
set_option maxRecDepth 20000 in
theorem gp5_L_refused_X6_down : GoodIn wsL_refused (wsX6_down_r5) := goodIn_r _ [169, 170, 40, 41, 42, 43, 44, 45, 46, 47, 48, 49, 171, 172, 173, 174, 175, 176, 177, 178, 35, 36, 37, 38] (by decide +kernel) (by decide +kernel)
set_option maxRecDepth 20000 in
theorem gp6_L_refused_X6_down : GoodIn wsL_refused (wsX6_down_r6) := goodIn_r _ [179, 180, 181, 182, 183, 184, 185, 186, 187, 188, 189, 190, 191, 192, 193, 194, 195, 196, 197, 198, 199, 200, 201, 202] (by decide +kernel) (by decide +kernel)
set_option maxRecDepth 20000 in
theorem gp7_L_refused_X6_down : GoodIn wsL_refused (wsX6_down_r7) := goodIn_r _ [203, 204, 205, 206, 207, 208, 209, 210, 211, 212, 213, 214, 215, 216, 17, 18, 19, 20, 21, 22, 217, 218, 219, 220] (by decide +kernel) (by decide +kernel)
set_option maxRecDepth 20000 in
theorem gp8_L_refused_X6_down : GoodIn wsL_refused (wsX6_down_r8) := goodIn_r _ [86, 221] (by decide +kernel) (by decide +kernel)
set_option maxRecDepth 20000 in
theorem gp9_L_refused_X6_down : GoodIn wsL_refused (wsX60) := goodIn_r _ [314, 315, 316, 317, 318, 319, 320, 321, 322, 323] (by decide +kernel) (by decide +kernel)
set_option maxRecDepth 20000 in
theorem gp10_L_refused_X6_down : GoodIn wsL_refused (wsX40) := goodIn_r _ [334, 335, 336, 337] (by decide +kernel) (by decide +kernel)
set_option maxRecDepth 20000 in
theorem gp11_L_refused_X6_down : GoodIn wsL_refused (wsX20) := goodIn_r _ [338, 339, 340] (by decide +kernel) (by decide +kernel)
set_option maxRecDepth 20000 in
theorem gp12_L_refused_X6_down : GoodIn wsL_refused (wsX10) := goodIn_r _ [324, 325, 326] (by decide +kernel) (by decide +kernel)
set_option maxRecDepth 20000 in
theorem gp13_L_refused_X6_down : GoodIn wsL_refused (wsX00) := goodIn_r _ [341, 342, 343] (by decide +kernel) (by decide +kernel)
set_option maxRecDepth 20000 in
theorem gp14_L_refused_X6_down : GoodIn wsL_refused (wsX30) := goodIn_r _ [344] (by decide +kernel) (by decide +kernel)
theorem ggL_refused_X6_down : GoodIn wsL_refused wsX6_down := (goodIn_ca (goodIn_ca (goodIn_ca (goodIn_ca (goodIn_ca (goodIn_ca (goodIn_ca gp1_L_refused_X6_down (goodIn_app gp2_L_refused_X6_down (goodIn_app gp3_L_refused_X6_down (goodIn_app gp4_L_refused_X6_down (goodIn_app gp5_L_refused_X6_down (goodIn_app gp6_L_refused_X6_down (goodIn_app gp7_L_refused_X6_down gp8_L_refused_X6_down))))))) gp9_L_refused_X6_down) gp10_L_refused_X6_down) gp11_L_refused_X6_down) gp12_L_refused_X6_down) gp13_L_refused_X6_down) gp14_L_refused_X6_down)
set_option maxRecDepth 20000 in
theorem gL_refused_X6_down : GoodIn wsL_refused (wsV RL 76 RX6 yX6_down wsX6_down) := goodIn_app (goodIn_of _ (by decide +kernel)) ggL_refused_X6_down
