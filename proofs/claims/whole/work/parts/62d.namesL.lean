set_option maxRecDepth 20000 in
theorem ggL_law_X6_puts : GoodIn wsL_law wsX6_puts := goodIn_r _ [547, 105, 106, 107, 2, 108, 34, 30, 109, 110, 111, 33, 112, 75, 72, 73, 113, 114, 115, 116, 117, 118, 119, 29, 120, 66, 121, 122, 123, 124, 65, 125, 126, 127, 128, 129, 130, 131, 17, 132, 47, 133, 134, 135, 136, 64, 137, 138, 139, 140, 141, 142, 143, 144, 145, 146, 147, 148, 149, 150, 151, 152, 153, 154, 155, 156, 25, 157, 57, 158, 159, 160, 161, 58, 162, 163, 164, 165, 166, 167, 168, 169, 170, 59, 171, 172, 173, 174, 45, 175, 176, 177, 178, 46, 179, 180, 181, 182, 183, 184, 185, 186, 187, 188, 189, 190, 191, 192, 193, 194, 195, 196, 197, 198, 199, 200, 201, 202, 203, 204, 205, 206, 207, 208, 209, 210, 211, 212, 213, 214, 215, 21, 216, 52, 217, 218, 219, 220, 221, 222, 223, 224, 225, 226, 227, 228, 229, 230, 231, 232, 233, 234, 235, 236, 237, 238, 239, 240, 241, 242, 243, 244, 245, 246, 247, 248, 14, 249, 250, 251, 252, 253, 74, 254, 818, 819, 820, 821, 822, 823, 824, 825, 826, 827, 859, 860, 861, 862, 856, 857, 858, 849, 850, 851, 853, 854, 855, 852] (by decide +kernel) (by decide +kernel)
set_option maxRecDepth 20000 in
theorem gL_law_X6_puts : GoodIn wsL_law (wsV RL 84 RX6 yX6_puts wsX6_puts) := goodIn_app (goodIn_of _ (by decide +kernel)) ggL_law_X6_puts
set_option maxRecDepth 20000 in
theorem ggL_law_X7_puts : GoodIn wsL_law wsX7_puts := goodIn_r _ [551, 259, 260, 261, 5, 262, 90, 91, 263, 264, 265, 273, 274, 275, 284, 285, 286, 287, 276, 277, 278, 279, 288, 289, 290, 291, 292, 92, 293, 294, 295, 296, 93, 828, 829, 830, 831, 832, 833, 834, 835, 836, 837, 838, 839, 840, 841, 842, 843, 844, 845, 846, 847, 848] (by decide +kernel) (by decide +kernel)
set_option maxRecDepth 20000 in
theorem gL_law_X7_puts : GoodIn wsL_law (wsV RL 87 RX7 yX7_puts wsX7_puts) := goodIn_app (goodIn_of _ (by decide +kernel)) ggL_law_X7_puts
set_option maxRecDepth 20000 in
theorem ggL_law_X6_state : GoodIn wsL_law wsX6_state := goodIn_r _ [555, 18, 13, 556, 180, 181, 17, 182, 166, 142, 143, 144, 47, 249, 127, 2, 128, 245, 246, 247, 248, 14, 818, 819, 820, 821, 822, 823, 824, 825, 826, 827, 849, 850, 851] (by decide +kernel) (by decide +kernel)
set_option maxRecDepth 20000 in
theorem gL_law_X6_state : GoodIn wsL_law (wsV RL 88 RX6 yX6_state wsX6_state) := goodIn_app (goodIn_of _ (by decide +kernel)) ggL_law_X6_state
set_option maxRecDepth 20000 in
theorem ggL_law_X7_state : GoodIn wsL_law wsX7_state := goodIn_r _ [560, 273, 274, 5, 275, 561, 562, 563, 564, 90, 284, 285, 286, 287, 293, 294, 295, 296, 93, 828, 829, 830, 831, 832, 833, 834, 835, 836, 837, 838, 839, 840, 841, 842, 843, 844, 845, 846, 847, 848] (by decide +kernel) (by decide +kernel)
set_option maxRecDepth 20000 in
theorem gL_law_X7_state : GoodIn wsL_law (wsV RL 91 RX7 yX7_state wsX7_state) := goodIn_app (goodIn_of _ (by decide +kernel)) ggL_law_X7_state
set_option maxRecDepth 20000 in
theorem ggL_law_X6_type : GoodIn wsL_law wsX6_type := goodIn_r _ [568, 38, 249, 127, 2, 128, 245, 246, 247, 248, 14, 569, 570, 571, 37, 572, 83, 79, 573, 574, 575, 576, 818, 819, 820, 821, 822, 823, 824, 825, 826, 827, 863, 864, 865, 866, 867, 868, 869] (by decide +kernel) (by decide +kernel)
set_option maxRecDepth 20000 in
theorem gL_law_X6_type : GoodIn wsL_law (wsV RL 92 RX6 yX6_type wsX6_type) := goodIn_app (goodIn_of _ (by decide +kernel)) ggL_law_X6_type
