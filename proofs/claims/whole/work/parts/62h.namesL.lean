set_option maxRecDepth 20000 in
theorem ggL_law_X7_slope : GoodIn wsL_law wsX7_slope := goodIn_r _ [352, 256, 257, 258, 5, 259, 90, 91, 260, 261, 262, 353, 354, 355, 356, 270, 271, 272, 273, 274, 275, 276, 285, 286, 287, 288, 289, 92, 290, 291, 292, 293, 93, 825, 826, 827, 828, 829, 830, 831, 832, 833, 834, 835, 836, 837, 838, 839, 840, 841, 842, 843, 844, 845] (by decide +kernel) (by decide +kernel)
set_option maxRecDepth 20000 in
theorem gL_law_X7_slope : GoodIn wsL_law (wsV RL 38 RX7 yX7_slope wsX7_slope) := goodIn_app (goodIn_of _ (by decide +kernel)) ggL_law_X7_slope
set_option maxRecDepth 20000 in
theorem gp1_L_law_X6_driver : GoodIn wsL_law (.code yX6_driver cX6_driver 2 (some .int) :: wsX6_driver_r1) := goodIn_r _ [360, 105, 106, 107, 2, 108, 34, 30, 109, 110, 111, 33, 112, 75, 72, 73, 113, 114, 115, 116, 117, 118, 119, 29, 120] (by decide +kernel) (by decide +kernel)
set_option maxRecDepth 20000 in
theorem gp2_L_law_X6_driver : GoodIn wsL_law (wsX6_driver_r2) := goodIn_r _ [66, 121, 122, 123, 124, 65, 125, 126, 127, 128, 129, 130, 131, 17, 132, 47, 133, 134, 135, 136, 64, 137, 138, 139] (by decide +kernel) (by decide +kernel)
set_option maxRecDepth 20000 in
theorem gp3_L_law_X6_driver : GoodIn wsL_law (wsX6_driver_r3) := goodIn_r _ [140, 141, 142, 143, 144, 145, 146, 147, 148, 149, 150, 151, 152, 153, 154, 155, 156, 25, 157, 57, 158, 159, 160, 161] (by decide +kernel) (by decide +kernel)
set_option maxRecDepth 20000 in
theorem gp4_L_law_X6_driver : GoodIn wsL_law (wsX6_driver_r4) := goodIn_r _ [58, 59, 162, 163, 164, 165, 166, 167, 168, 169, 170, 171, 172, 173, 174, 45, 175, 46, 176, 177, 178, 179, 180, 181] (by decide +kernel) (by decide +kernel)
set_option maxRecDepth 20000 in
theorem gp5_L_law_X6_driver : GoodIn wsL_law (wsX6_driver_r5) := goodIn_r _ [182, 183, 184, 185, 186, 187, 188, 189, 190, 191, 192, 193, 194, 195, 196, 197, 198, 199, 200, 201, 202, 203, 204, 205] (by decide +kernel) (by decide +kernel)
set_option maxRecDepth 20000 in
theorem gp6_L_law_X6_driver : GoodIn wsL_law (wsX6_driver_r6) := goodIn_r _ [206, 207, 208, 209, 210, 211, 212, 21, 213, 52, 214, 215, 216, 217, 218, 219, 220, 221, 222, 223, 224, 225, 226, 227] (by decide +kernel) (by decide +kernel)
set_option maxRecDepth 20000 in
theorem gp7_L_law_X6_driver : GoodIn wsL_law (wsX6_driver_r7) := goodIn_r _ [228, 229, 230, 231, 232, 233, 234, 235, 236, 237, 238, 239, 240, 241, 242, 243, 244, 245, 14, 246, 247, 248, 249, 250] (by decide +kernel) (by decide +kernel)
set_option maxRecDepth 20000 in
theorem gp8_L_law_X6_driver : GoodIn wsL_law (wsX6_driver_r8) := goodIn_r _ [74, 251] (by decide +kernel) (by decide +kernel)
set_option maxRecDepth 20000 in
theorem gp9_L_law_X6_driver : GoodIn wsL_law (wsX60) := goodIn_r _ [815, 816, 817, 818, 819, 820, 821, 822, 823, 824] (by decide +kernel) (by decide +kernel)
set_option maxRecDepth 20000 in
theorem gp10_L_law_X6_driver : GoodIn wsL_law (wsX40) := goodIn_r _ [856, 857, 858, 859] (by decide +kernel) (by decide +kernel)
set_option maxRecDepth 20000 in
theorem gp11_L_law_X6_driver : GoodIn wsL_law (wsX20) := goodIn_r _ [853, 854, 855] (by decide +kernel) (by decide +kernel)
set_option maxRecDepth 20000 in
theorem gp12_L_law_X6_driver : GoodIn wsL_law (wsX10) := goodIn_r _ [846, 847, 848] (by decide +kernel) (by decide +kernel)
set_option maxRecDepth 20000 in
theorem gp13_L_law_X6_driver : GoodIn wsL_law (wsX00) := goodIn_r _ [850, 851, 852] (by decide +kernel) (by decide +kernel)
set_option maxRecDepth 20000 in
theorem gp14_L_law_X6_driver : GoodIn wsL_law (wsX30) := goodIn_r _ [849] (by decide +kernel) (by decide +kernel)
theorem ggL_law_X6_driver : GoodIn wsL_law wsX6_driver := (goodIn_ca (goodIn_ca (goodIn_ca (goodIn_ca (goodIn_ca (goodIn_ca (goodIn_ca gp1_L_law_X6_driver (goodIn_app gp2_L_law_X6_driver (goodIn_app gp3_L_law_X6_driver (goodIn_app gp4_L_law_X6_driver (goodIn_app gp5_L_law_X6_driver (goodIn_app gp6_L_law_X6_driver (goodIn_app gp7_L_law_X6_driver gp8_L_law_X6_driver))))))) gp9_L_law_X6_driver) gp10_L_law_X6_driver) gp11_L_law_X6_driver) gp12_L_law_X6_driver) gp13_L_law_X6_driver) gp14_L_law_X6_driver)
set_option maxRecDepth 20000 in
theorem gL_law_X6_driver : GoodIn wsL_law (wsV RL 39 RX6 yX6_driver wsX6_driver) := goodIn_app (goodIn_of _ (by decide +kernel)) ggL_law_X6_driver
