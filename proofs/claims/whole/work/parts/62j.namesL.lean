set_option maxRecDepth 20000 in
theorem ggL_law_X7_sets : GoodIn wsL_law wsX7_sets := goodIn_r _ [376, 256, 257, 258, 5, 259, 90, 91, 260, 261, 262, 270, 271, 272, 273, 274, 275, 276, 285, 286, 287, 288, 289, 92, 290, 291, 292, 293, 93, 825, 826, 827, 828, 829, 830, 831, 832, 833, 834, 835, 836, 837, 838, 839, 840, 841, 842, 843, 844, 845] (by decide +kernel) (by decide +kernel)
set_option maxRecDepth 20000 in
theorem gL_law_X7_sets : GoodIn wsL_law (wsV RL 46 RX7 yX7_sets wsX7_sets) := goodIn_app (goodIn_of _ (by decide +kernel)) ggL_law_X7_sets
set_option maxRecDepth 20000 in
theorem ggL_law_X6_of : GoodIn wsL_law wsX6_of := goodIn_r _ [380, 13, 18, 381, 125, 2, 126, 242, 243, 244, 245, 14, 246, 127, 128, 382, 142, 143, 17, 144, 47, 383, 384, 385, 386, 202, 203, 204, 205, 170, 184, 185, 186, 187, 188, 189, 190, 191, 192, 193, 815, 816, 817, 818, 819, 820, 821, 822, 823, 824, 846, 847, 848] (by decide +kernel) (by decide +kernel)
set_option maxRecDepth 20000 in
theorem gL_law_X6_of : GoodIn wsL_law (wsV RL 47 RX6 yX6_of wsX6_of) := goodIn_app (goodIn_of _ (by decide +kernel)) ggL_law_X6_of
set_option maxRecDepth 20000 in
theorem ggL_law_X7_of : GoodIn wsL_law wsX7_of := goodIn_r _ [390, 267, 268, 5, 269, 270, 271, 272, 391, 392, 393, 394, 90, 281, 282, 283, 284, 395, 396, 397, 398, 399, 400, 401, 402, 403, 404, 405, 290, 291, 292, 293, 93, 825, 826, 827, 828, 829, 830, 831, 832, 833, 834, 835, 836, 837, 838, 839, 840, 841, 842, 843, 844, 845] (by decide +kernel) (by decide +kernel)
set_option maxRecDepth 20000 in
theorem gL_law_X7_of : GoodIn wsL_law (wsV RL 50 RX7 yX7_of wsX7_of) := goodIn_app (goodIn_of _ (by decide +kernel)) ggL_law_X7_of
set_option maxRecDepth 20000 in
theorem ggL_law_X6_clutch : GoodIn wsL_law wsX6_clutch := goodIn_r _ [409, 13, 18, 410, 149, 2, 150, 242, 243, 244, 245, 14, 246, 127, 128, 411, 412, 413, 17, 414, 47, 815, 816, 817, 818, 819, 820, 821, 822, 823, 824, 846, 847, 848] (by decide +kernel) (by decide +kernel)
set_option maxRecDepth 20000 in
theorem gL_law_X6_clutch : GoodIn wsL_law (wsV RL 51 RX6 yX6_clutch wsX6_clutch) := goodIn_app (goodIn_of _ (by decide +kernel)) ggL_law_X6_clutch
set_option maxRecDepth 20000 in
theorem ggL_law_X7_clutch : GoodIn wsL_law wsX7_clutch := goodIn_r _ [418, 306, 307, 5, 308, 270, 271, 272, 419, 420, 421, 422, 90, 290, 291, 292, 293, 93, 825, 826, 827, 828, 829, 830, 831, 832, 833, 834, 835, 836, 837, 838, 839, 840, 841, 842, 843, 844, 845] (by decide +kernel) (by decide +kernel)
set_option maxRecDepth 20000 in
theorem gL_law_X7_clutch : GoodIn wsL_law (wsV RL 54 RX7 yX7_clutch wsX7_clutch) := goodIn_app (goodIn_of _ (by decide +kernel)) ggL_law_X7_clutch
set_option maxRecDepth 20000 in
theorem ggL_law_X6_ties : GoodIn wsL_law wsX6_ties := goodIn_r _ [426, 18, 246, 127, 2, 128, 242, 243, 244, 245, 14, 427, 428, 429, 17, 430, 47, 815, 816, 817, 818, 819, 820, 821, 822, 823, 824, 846, 847, 848] (by decide +kernel) (by decide +kernel)
set_option maxRecDepth 20000 in
theorem gL_law_X6_ties : GoodIn wsL_law (wsV RL 55 RX6 yX6_ties wsX6_ties) := goodIn_app (goodIn_of _ (by decide +kernel)) ggL_law_X6_ties
