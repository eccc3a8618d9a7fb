set_option maxRecDepth 20000 in
theorem ggL_law_X7_way : GoodIn wsL_law wsX7_way := goodIn_r _ [470, 471, 100, 451, 452, 5, 453, 270, 271, 272, 273, 274, 275, 293, 294, 295, 296, 93, 284, 285, 286, 287, 90, 472, 473, 474, 475, 99, 402, 403, 404, 405, 406, 407, 408, 828, 829, 830, 831, 832, 833, 834, 835, 836, 837, 838, 839, 840, 841, 842, 843, 844, 845, 846, 847, 848] (by decide +kernel) (by decide +kernel)
set_option maxRecDepth 20000 in
theorem gL_law_X7_way : GoodIn wsL_law (wsV RL 67 RX7 yX7_way wsX7_way) := goodIn_app (goodIn_of _ (by decide +kernel)) ggL_law_X7_way
set_option maxRecDepth 20000 in
theorem ggL_law_X6_over : GoodIn wsL_law wsX6_over := goodIn_r _ [479, 18, 22, 442, 443, 2, 444, 384, 125, 126, 249, 127, 128, 245, 246, 247, 248, 14, 446, 202, 203, 17, 204, 47, 205, 206, 207, 208, 166, 142, 143, 144, 187, 188, 189, 190, 191, 192, 193, 194, 195, 196, 209, 210, 211, 212, 413, 149, 150, 480, 226, 227, 21, 228, 52, 220, 176, 177, 178, 217, 218, 219, 818, 819, 820, 821, 822, 823, 824, 825, 826, 827, 849, 850, 851, 852] (by decide +kernel) (by decide +kernel)
set_option maxRecDepth 20000 in
theorem gL_law_X6_over : GoodIn wsL_law (wsV RL 68 RX6 yX6_over wsX6_over) := goodIn_app (goodIn_of _ (by decide +kernel)) ggL_law_X6_over
set_option maxRecDepth 20000 in
theorem ggL_law_X7_over : GoodIn wsL_law wsX7_over := goodIn_r _ [484, 451, 452, 5, 453, 270, 271, 272, 273, 274, 275, 293, 294, 295, 296, 93, 402, 403, 404, 405, 90, 284, 285, 286, 287, 406, 407, 408, 454, 455, 456, 457, 458, 459, 460, 485, 486, 487, 488, 489, 490, 491, 492, 828, 829, 830, 831, 832, 833, 834, 835, 836, 837, 838, 839, 840, 841, 842, 843, 844, 845, 846, 847, 848] (by decide +kernel) (by decide +kernel)
set_option maxRecDepth 20000 in
theorem gL_law_X7_over : GoodIn wsL_law (wsV RL 71 RX7 yX7_over wsX7_over) := goodIn_app (goodIn_of _ (by decide +kernel)) ggL_law_X7_over
set_option maxRecDepth 20000 in
theorem ggL_law_X6_worst : GoodIn wsL_law wsX6_worst := goodIn_r _ [496, 18, 22, 442, 443, 2, 444, 384, 125, 126, 249, 127, 128, 245, 246, 247, 248, 14, 446, 202, 203, 17, 204, 47, 205, 206, 207, 208, 166, 142, 143, 144, 187, 188, 189, 190, 191, 192, 193, 194, 195, 196, 209, 210, 211, 212, 413, 149, 150, 497, 222, 223, 21, 224, 217, 218, 177, 219, 225, 226, 227, 228, 52, 220, 176, 178, 498, 230, 231, 232, 818, 819, 820, 821, 822, 823, 824, 825, 826, 827, 849, 850, 851, 852] (by decide +kernel) (by decide +kernel)
set_option maxRecDepth 20000 in
theorem gL_law_X6_worst : GoodIn wsL_law (wsV RL 72 RX6 yX6_worst wsX6_worst) := goodIn_app (goodIn_of _ (by decide +kernel)) ggL_law_X6_worst
set_option maxRecDepth 20000 in
theorem ggL_law_X7_worst : GoodIn wsL_law wsX7_worst := goodIn_r _ [502, 451, 452, 5, 453, 270, 271, 272, 273, 274, 275, 293, 294, 295, 296, 93, 402, 403, 404, 405, 90, 284, 285, 286, 287, 406, 407, 408, 454, 455, 456, 457, 458, 459, 460, 503, 504, 505, 506, 485, 486, 487, 488, 489, 490, 491, 492, 828, 829, 830, 831, 832, 833, 834, 835, 836, 837, 838, 839, 840, 841, 842, 843, 844, 845, 846, 847, 848] (by decide +kernel) (by decide +kernel)
set_option maxRecDepth 20000 in
theorem gL_law_X7_worst : GoodIn wsL_law (wsV RL 75 RX7 yX7_worst wsX7_worst) := goodIn_app (goodIn_of _ (by decide +kernel)) ggL_law_X7_worst
