set_option maxRecDepth 20000 in
theorem ggL_law_X7_way : GoodIn wsL_law wsX7_way := goodIn_r _ [467, 468, 100, 448, 449, 5, 450, 267, 268, 269, 270, 271, 272, 290, 291, 292, 293, 93, 281, 282, 283, 284, 90, 469, 470, 471, 472, 99, 399, 400, 401, 402, 403, 404, 405, 825, 826, 827, 828, 829, 830, 831, 832, 833, 834, 835, 836, 837, 838, 839, 840, 841, 842, 843, 844, 845] (by decide +kernel) (by decide +kernel)
set_option maxRecDepth 20000 in
theorem gL_law_X7_way : GoodIn wsL_law (wsV RL 67 RX7 yX7_way wsX7_way) := goodIn_app (goodIn_of _ (by decide +kernel)) ggL_law_X7_way
set_option maxRecDepth 20000 in
theorem gp1_L_law_X6_over : GoodIn wsL_law (.code yX6_over cX6_over 5 (some .int) :: wsX6_over_r1) := goodIn_r _ [476, 18, 22, 439, 440, 2, 441, 381, 125, 126, 246, 127, 128, 242, 243, 244, 245, 14, 443, 199, 200, 17, 201, 47, 202] (by decide +kernel) (by decide +kernel)
set_option maxRecDepth 20000 in
theorem gp2_L_law_X6_over : GoodIn wsL_law (wsX6_over_r2) := goodIn_r _ [203, 204, 205, 170, 142, 143, 144, 184, 185, 186, 187, 188, 189, 190, 191, 192, 193, 206, 207, 208, 209, 410, 149, 150] (by decide +kernel) (by decide +kernel)
set_option maxRecDepth 20000 in
theorem gp3_L_law_X6_over : GoodIn wsL_law (wsX6_over_r3) := goodIn_r _ [477, 223, 224, 21, 225, 52, 217, 159, 160, 161, 214, 215, 216] (by decide +kernel) (by decide +kernel)
set_option maxRecDepth 20000 in
theorem gp4_L_law_X6_over : GoodIn wsL_law (wsX60) := goodIn_r _ [815, 816, 817, 818, 819, 820, 821, 822, 823, 824] (by decide +kernel) (by decide +kernel)
set_option maxRecDepth 20000 in
theorem gp5_L_law_X6_over : GoodIn wsL_law (wsX10) := goodIn_r _ [846, 847, 848] (by decide +kernel) (by decide +kernel)
set_option maxRecDepth 20000 in
theorem gp6_L_law_X6_over : GoodIn wsL_law (wsX30) := goodIn_r _ [849] (by decide +kernel) (by decide +kernel)
theorem ggL_law_X6_over : GoodIn wsL_law wsX6_over := (goodIn_ca (goodIn_ca (goodIn_ca (goodIn_ca gp1_L_law_X6_over (goodIn_app gp2_L_law_X6_over gp3_L_law_X6_over)) gp4_L_law_X6_over) gp5_L_law_X6_over) gp6_L_law_X6_over)
set_option maxRecDepth 20000 in
theorem gL_law_X6_over : GoodIn wsL_law (wsV RL 68 RX6 yX6_over wsX6_over) := goodIn_app (goodIn_of _ (by decide +kernel)) ggL_law_X6_over
set_option maxRecDepth 20000 in
theorem gp1_L_law_X7_over : GoodIn wsL_law (.code yX7_over cX7_over 4 (some .int) :: wsX7_over_r1) := goodIn_r _ [481, 448, 449, 5, 450, 267, 268, 269, 270, 271, 272, 290, 291, 292, 293, 93, 399, 400, 401, 402, 90, 281, 282, 283, 284] (by decide +kernel) (by decide +kernel)
set_option maxRecDepth 20000 in
theorem gp2_L_law_X7_over : GoodIn wsL_law (wsX7_over_r2) := goodIn_r _ [403, 404, 405, 451, 452, 453, 454, 455, 456, 457, 482, 483, 484, 485, 486, 487, 488, 489] (by decide +kernel) (by decide +kernel)
set_option maxRecDepth 20000 in
theorem gp3_L_law_X7_over : GoodIn wsL_law (wsX70) := goodIn_r _ [825, 826, 827, 828, 829, 830, 831, 832, 833, 834, 835, 836, 837, 838, 839, 840, 841, 842, 843, 844, 845] (by decide +kernel) (by decide +kernel)
theorem ggL_law_X7_over : GoodIn wsL_law wsX7_over := (goodIn_ca (goodIn_ca gp1_L_law_X7_over gp2_L_law_X7_over) gp3_L_law_X7_over)
set_option maxRecDepth 20000 in
theorem gL_law_X7_over : GoodIn wsL_law (wsV RL 71 RX7 yX7_over wsX7_over) := goodIn_app (goodIn_of _ (by decide +kernel)) ggL_law_X7_over
