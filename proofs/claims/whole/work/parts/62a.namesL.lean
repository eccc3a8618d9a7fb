set_option maxRecDepth 20000 in
theorem ggL_law_X7_clutch : GoodIn wsL_law wsX7_clutch := goodIn_r _ [421, 309, 310, 5, 311, 273, 274, 275, 422, 423, 424, 425, 90, 293, 294, 295, 296, 93, 828, 829, 830, 831, 832, 833, 834, 835, 836, 837, 838, 839, 840, 841, 842, 843, 844, 845, 846, 847, 848] (by decide +kernel) (by decide +kernel)
set_option maxRecDepth 20000 in
theorem gL_law_X7_clutch : GoodIn wsL_law (wsV RL 54 RX7 yX7_clutch wsX7_clutch) := goodIn_app (goodIn_of _ (by decide +kernel)) ggL_law_X7_clutch
set_option maxRecDepth 20000 in
theorem ggL_law_X6_ties : GoodIn wsL_law wsX6_ties := goodIn_r _ [429, 18, 249, 127, 2, 128, 245, 246, 247, 248, 14, 430, 431, 432, 17, 433, 47, 818, 819, 820, 821, 822, 823, 824, 825, 826, 827, 849, 850, 851] (by decide +kernel) (by decide +kernel)
set_option maxRecDepth 20000 in
theorem gL_law_X6_ties : GoodIn wsL_law (wsV RL 55 RX6 yX6_ties wsX6_ties) := goodIn_app (goodIn_of _ (by decide +kernel)) ggL_law_X6_ties
set_option maxRecDepth 20000 in
theorem ggL_law_X7_ties : GoodIn wsL_law wsX7_ties := goodIn_r _ [437, 90, 273, 274, 5, 275, 293, 294, 295, 296, 93, 828, 829, 830, 831, 832, 833, 834, 835, 836, 837, 838, 839, 840, 841, 842, 843, 844, 845, 846, 847, 848] (by decide +kernel) (by decide +kernel)
set_option maxRecDepth 20000 in
theorem gL_law_X7_ties : GoodIn wsL_law (wsV RL 58 RX7 yX7_ties wsX7_ties) := goodIn_app (goodIn_of _ (by decide +kernel)) ggL_law_X7_ties
set_option maxRecDepth 20000 in
theorem ggL_law_X6_simple : GoodIn wsL_law wsX6_simple := goodIn_r _ [441, 18, 442, 443, 2, 444, 384, 125, 126, 245, 246, 247, 248, 14, 249, 127, 128, 445, 206, 207, 17, 208, 47, 166, 142, 143, 144, 187, 188, 189, 190, 191, 192, 193, 194, 195, 196, 446, 202, 203, 204, 205, 209, 210, 211, 212, 818, 819, 820, 821, 822, 823, 824, 825, 826, 827, 849, 850, 851] (by decide +kernel) (by decide +kernel)
set_option maxRecDepth 20000 in
theorem gL_law_X6_simple : GoodIn wsL_law (wsV RL 59 RX6 yX6_simple wsX6_simple) := goodIn_app (goodIn_of _ (by decide +kernel)) ggL_law_X6_simple
set_option maxRecDepth 20000 in
theorem ggL_law_X7_simple : GoodIn wsL_law wsX7_simple := goodIn_r _ [450, 451, 452, 5, 453, 270, 271, 272, 273, 274, 275, 293, 294, 295, 296, 93, 402, 403, 404, 405, 90, 284, 285, 286, 287, 406, 407, 408, 454, 455, 456, 457, 458, 459, 460, 828, 829, 830, 831, 832, 833, 834, 835, 836, 837, 838, 839, 840, 841, 842, 843, 844, 845, 846, 847, 848] (by decide +kernel) (by decide +kernel)
set_option maxRecDepth 20000 in
theorem gL_law_X7_simple : GoodIn wsL_law (wsV RL 63 RX7 yX7_simple wsX7_simple) := goodIn_app (goodIn_of _ (by decide +kernel)) ggL_law_X7_simple
set_option maxRecDepth 20000 in
theorem ggL_law_X6_way : GoodIn wsL_law wsX6_way := goodIn_r _ [464, 18, 442, 443, 2, 444, 384, 125, 126, 245, 246, 247, 248, 14, 249, 127, 128, 385, 142, 143, 17, 144, 47, 465, 172, 173, 174, 45, 175, 176, 177, 178, 46, 179, 180, 181, 182, 166, 183, 184, 185, 186, 187, 188, 189, 190, 191, 192, 193, 194, 195, 196, 466, 198, 199, 200, 818, 819, 820, 821, 822, 823, 824, 825, 826, 827, 849, 850, 851] (by decide +kernel) (by decide +kernel)
set_option maxRecDepth 20000 in
theorem gL_law_X6_way : GoodIn wsL_law (wsV RL 64 RX6 yX6_way wsX6_way) := goodIn_app (goodIn_of _ (by decide +kernel)) ggL_law_X6_way
