set_option maxRecDepth 20000 in
theorem gp1_L_does_X6_up : GoodIn wsL_does (.code yX6_up cX6_up 3 (some .int) :: wsX6_up_r1) := goodIn_r _ [191, 11, 12, 13, 9, 14, 15, 16, 17, 18, 19, 20, 21, 22, 23, 24, 25, 26, 27, 28, 29, 30, 31, 32, 33] (by decide +kernel) (by decide +kernel)
set_option maxRecDepth 20000 in
theorem gp2_L_does_X6_up : GoodIn wsL_does (wsX6_up_r2) := goodIn_r _ [34, 35, 36, 37, 38, 39, 40, 41, 42, 43, 44, 45, 46, 47, 48, 49, 50, 51, 52, 53, 54, 55, 56, 57] (by decide +kernel) (by decide +kernel)
set_option maxRecDepth 20000 in
theorem gp3_L_does_X6_up : GoodIn wsL_does (wsX6_up_r3) := goodIn_r _ [58, 59, 60, 61, 62, 63, 64, 65, 66, 67, 68, 69, 70, 71, 72, 73, 74, 75, 76, 77, 78, 79, 80, 81] (by decide +kernel) (by decide +kernel)
set_option maxRecDepth 20000 in
theorem gp4_L_does_X6_up : GoodIn wsL_does (wsX6_up_r4) := goodIn_r _ [82, 83, 84, 85, 86, 87, 88, 89, 90, 91, 92, 93, 94, 95, 96, 97, 98, 99, 100, 101, 102, 103, 104, 105] (by decide +kernel) (by decide +kernel)
set_option maxRecDepth 20000 in
theorem gp5_L_does_X6_up : GoodIn wsL_does (wsX6_up_r5) := goodIn_r _ [106, 107, 108, 109, 110, 111, 112, 113, 114, 115, 116, 117, 118, 119, 120, 121, 122, 123, 124, 125, 126, 127, 128, 129] (by decide +kernel) (by decide +kernel)
set_option maxRecDepth 20000 in
theorem gp6_L_does_X6_up : GoodIn wsL_does (wsX6_up_r6) := goodIn_r _ [130, 131, 132, 133, 134, 135, 136, 137, 138, 139, 140, 141, 142, 143, 144, 145, 146, 147, 148, 149, 150, 151, 152, 153] (by decide +kernel) (by decide +kernel)
set_option maxRecDepth 20000 in
theorem gp7_L_does_X6_up : GoodIn wsL_does (wsX6_up_r7) := goodIn_r _ [154, 155, 156, 157, 158, 159, 160, 161, 162, 163, 164, 165, 166, 167, 168, 169, 170, 171, 172, 173, 174, 175, 176, 177] (by decide +kernel) (by decide +kernel)
set_option maxRecDepth 20000 in
theorem gp8_L_does_X6_up : GoodIn wsL_does (wsX6_up_r8) := goodIn_r _ [178, 179] (by decide +kernel) (by decide +kernel)
set_option maxRecDepth 20000 in
theorem gp9_L_does_X6_up : GoodIn wsL_does (wsX60) := goodIn_r _ [216, 217, 218, 219, 220, 221, 222, 223, 224, 225] (by decide +kernel) (by decide +kernel)
set_option maxRecDepth 20000 in
theorem gp10_L_does_X6_up : GoodIn wsL_does (wsX40) := goodIn_r _ [226, 227, 228, 229] (by decide +kernel) (by decide +kernel)
set_option maxRecDepth 20000 in
theorem gp11_L_does_X6_up : GoodIn wsL_does (wsX20) := goodIn_r _ [230, 231, 232] (by decide +kernel) (by decide +kernel)
set_option maxRecDepth 20000 in
theorem gp12_L_does_X6_up : GoodIn wsL_does (wsX10) := goodIn_r _ [233, 234, 235] (by decide +kernel) (by decide +kernel)
set_option maxRecDepth 20000 in
theorem gp13_L_does_X6_up : GoodIn wsL_does (wsX00) := goodIn_r _ [236, 237, 238] (by decide +kernel) (by decide +kernel)
set_option maxRecDepth 20000 in
theorem gp14_L_does_X6_up : GoodIn wsL_does (wsX30) := goodIn_r _ [239] (by decide +kernel) (by decide +kernel)
theorem ggL_does_X6_up : GoodIn wsL_does wsX6_up := (goodIn_ca (goodIn_ca (goodIn_ca (goodIn_ca (goodIn_ca (goodIn_ca (goodIn_ca gp1_L_does_X6_up (goodIn_app gp2_L_does_X6_up (goodIn_app gp3_L_does_X6_up (goodIn_app gp4_L_does_X6_up (goodIn_app gp5_L_does_X6_up (goodIn_app gp6_L_does_X6_up (goodIn_app gp7_L_does_X6_up gp8_L_does_X6_up))))))) gp9_L_does_X6_up) gp10_L_does_X6_up) gp11_L_does_X6_up) gp12_L_does_X6_up) gp13_L_does_X6_up) gp14_L_does_X6_up)
set_option maxRecDepth 20000 in
theorem gL_does_X6_up : GoodIn wsL_does (wsV RL 73 RX6 yX6_up wsX6_up) := goodIn_app (goodIn_of _ (by decide +kernel)) ggL_does_X6_up
