set_option maxRecDepth 20000 in
theorem ggL_law_X7_ties : GoodIn wsL_law wsX7_ties := goodIn_r _ [434, 90, 270, 271, 5, 272, 290, 291, 292, 293, 93, 825, 826, 827, 828, 829, 830, 831, 832, 833, 834, 835, 836, 837, 838, 839, 840, 841, 842, 843, 844, 845] (by decide +kernel) (by decide +kernel)
set_option maxRecDepth 20000 in
theorem gL_law_X7_ties : GoodIn wsL_law (wsV RL 58 RX7 yX7_ties wsX7_ties) := goodIn_app (goodIn_of _ (by decide +kernel)) ggL_law_X7_ties
set_option maxRecDepth 20000 in
theorem ggL_law_X6_simple : GoodIn wsL_law wsX6_simple := goodIn_r _ [438, 18, 439, 440, 2, 441, 381, 125, 126, 242, 243, 244, 245, 14, 246, 127, 128, 442, 203, 204, 17, 205, 47, 170, 142, 143, 144, 184, 185, 186, 187, 188, 189, 190, 191, 192, 193, 443, 199, 200, 201, 202, 206, 207, 208, 209, 815, 816, 817, 818, 819, 820, 821, 822, 823, 824, 846, 847, 848] (by decide +kernel) (by decide +kernel)
set_option maxRecDepth 20000 in
theorem gL_law_X6_simple : GoodIn wsL_law (wsV RL 59 RX6 yX6_simple wsX6_simple) := goodIn_app (goodIn_of _ (by decide +kernel)) ggL_law_X6_simple
set_option maxRecDepth 20000 in
theorem ggL_law_X7_simple : GoodIn wsL_law wsX7_simple := goodIn_r _ [447, 448, 449, 5, 450, 267, 268, 269, 270, 271, 272, 290, 291, 292, 293, 93, 399, 400, 401, 402, 90, 281, 282, 283, 284, 403, 404, 405, 451, 452, 453, 454, 455, 456, 457, 825, 826, 827, 828, 829, 830, 831, 832, 833, 834, 835, 836, 837, 838, 839, 840, 841, 842, 843, 844, 845] (by decide +kernel) (by decide +kernel)
set_option maxRecDepth 20000 in
theorem gL_law_X7_simple : GoodIn wsL_law (wsV RL 63 RX7 yX7_simple wsX7_simple) := goodIn_app (goodIn_of _ (by decide +kernel)) ggL_law_X7_simple
set_option maxRecDepth 20000 in
theorem gp1_L_law_X6_way : GoodIn wsL_law (.code yX6_way cX6_way 5 (some .int) :: wsX6_way_r1) := goodIn_r _ [461, 18, 439, 440, 2, 441, 381, 125, 126, 242, 243, 244, 245, 14, 246, 127, 128, 382, 142, 143, 17, 144, 47, 462, 172] (by decide +kernel) (by decide +kernel)
set_option maxRecDepth 20000 in
theorem gp2_L_law_X6_way : GoodIn wsL_law (wsX6_way_r2) := goodIn_r _ [173, 174, 45, 175, 159, 160, 161, 46, 176, 177, 178, 179, 170, 180, 181, 182, 183, 184, 185, 186, 187, 188, 189, 190] (by decide +kernel) (by decide +kernel)
set_option maxRecDepth 20000 in
theorem gp3_L_law_X6_way : GoodIn wsL_law (wsX6_way_r3) := goodIn_r _ [191, 192, 193, 463, 195, 196, 197] (by decide +kernel) (by decide +kernel)
set_option maxRecDepth 20000 in
theorem gp4_L_law_X6_way : GoodIn wsL_law (wsX60) := goodIn_r _ [815, 816, 817, 818, 819, 820, 821, 822, 823, 824] (by decide +kernel) (by decide +kernel)
set_option maxRecDepth 20000 in
theorem gp5_L_law_X6_way : GoodIn wsL_law (wsX10) := goodIn_r _ [846, 847, 848] (by decide +kernel) (by decide +kernel)
theorem ggL_law_X6_way : GoodIn wsL_law wsX6_way := (goodIn_ca (goodIn_ca (goodIn_ca gp1_L_law_X6_way (goodIn_app gp2_L_law_X6_way gp3_L_law_X6_way)) gp4_L_law_X6_way) gp5_L_law_X6_way)
set_option maxRecDepth 20000 in
theorem gL_law_X6_way : GoodIn wsL_law (wsV RL 64 RX6 yX6_way wsX6_way) := goodIn_app (goodIn_of _ (by decide +kernel)) ggL_law_X6_way
