set_option maxRecDepth 20000 in
theorem ggL_ticks_X6_want : GoodIn wsL_ticks wsX6_want := goodIn_r _ [34, 35, 23, 24, 9, 25, 36, 37, 38, 39, 40, 41, 42, 43, 44, 45, 46, 47, 16, 48, 18, 19, 20, 21, 22, 26, 27, 28, 29, 30, 204, 205, 206, 207, 208, 209, 210, 211, 212, 213, 217, 218, 219, 214, 215, 216] (by decide +kernel) (by decide +kernel)
set_option maxRecDepth 20000 in
theorem gL_ticks_X6_want : GoodIn wsL_ticks (wsV RL 51 RX6 yX6_want wsX6_want) := goodIn_app (goodIn_of _ (by decide +kernel)) ggL_ticks_X6_want
set_option maxRecDepth 20000 in
theorem gp1_L_ticks_X6_way : GoodIn wsL_ticks (.code yX6_way cX6_way 5 (some .int) :: wsX6_way_r1) := goodIn_r _ [52, 11, 53, 54, 9, 55, 56, 43, 44, 26, 27, 28, 29, 30, 23, 24, 25, 57, 19, 20, 16, 21, 22, 58, 59] (by decide +kernel) (by decide +kernel)
set_option maxRecDepth 20000 in
theorem gp2_L_ticks_X6_way : GoodIn wsL_ticks (wsX6_way_r2) := goodIn_r _ [60, 61, 62, 63, 64, 65, 66, 67, 68, 14, 15, 17, 18, 69, 70, 71, 72, 73, 74, 75, 76, 77, 78, 79] (by decide +kernel) (by decide +kernel)
set_option maxRecDepth 20000 in
theorem gp3_L_ticks_X6_way : GoodIn wsL_ticks (wsX6_way_r3) := goodIn_r _ [80, 81, 82, 83, 84, 85, 86] (by decide +kernel) (by decide +kernel)
set_option maxRecDepth 20000 in
theorem gp4_L_ticks_X6_way : GoodIn wsL_ticks (wsX60) := goodIn_r _ [204, 205, 206, 207, 208, 209, 210, 211, 212, 213] (by decide +kernel) (by decide +kernel)
set_option maxRecDepth 20000 in
theorem gp5_L_ticks_X6_way : GoodIn wsL_ticks (wsX10) := goodIn_r _ [214, 215, 216] (by decide +kernel) (by decide +kernel)
theorem ggL_ticks_X6_way : GoodIn wsL_ticks wsX6_way := (goodIn_ca (goodIn_ca (goodIn_ca gp1_L_ticks_X6_way (goodIn_app gp2_L_ticks_X6_way gp3_L_ticks_X6_way)) gp4_L_ticks_X6_way) gp5_L_ticks_X6_way)
set_option maxRecDepth 20000 in
theorem gL_ticks_X6_way : GoodIn wsL_ticks (wsV RL 35 RX6 yX6_way wsX6_way) := goodIn_app (goodIn_of _ (by decide +kernel)) ggL_ticks_X6_way
set_option maxRecDepth 20000 in
theorem gp1_L_ticks_X6_drives : GoodIn wsL_ticks (.code yX6_drives cX6_drives 3 (some .int) :: wsX6_drives_r1) := goodIn_r _ [90, 91, 92, 93, 9, 94, 95, 96, 97, 98, 99, 100, 101, 102, 103, 104, 105, 106, 107, 108, 109, 110, 111, 112, 113] (by decide +kernel) (by decide +kernel)
set_option maxRecDepth 20000 in
theorem gp2_L_ticks_X6_drives : GoodIn wsL_ticks (wsX6_drives_r2) := goodIn_r _ [114, 115, 116, 117, 118, 119, 43, 44, 24, 25, 120, 121, 122, 16, 123, 22, 124, 125, 126, 127, 128, 129, 130, 131] (by decide +kernel) (by decide +kernel)
set_option maxRecDepth 20000 in
theorem gp3_L_ticks_X6_drives : GoodIn wsL_ticks (wsX6_drives_r3) := goodIn_r _ [132, 133, 19, 20, 21, 134, 135, 136, 137, 138, 139, 140, 141, 142, 143, 144, 145, 39, 146, 41, 147, 64, 65, 66] (by decide +kernel) (by decide +kernel)
set_option maxRecDepth 20000 in
theorem gp4_L_ticks_X6_drives : GoodIn wsL_ticks (wsX6_drives_r4) := goodIn_r _ [42, 148, 149, 37, 38, 40, 45, 46, 47, 48, 18, 150, 59, 60, 61, 62, 63, 67, 68, 14, 15, 17, 69, 70] (by decide +kernel) (by decide +kernel)
set_option maxRecDepth 20000 in
theorem gp5_L_ticks_X6_drives : GoodIn wsL_ticks (wsX6_drives_r5) := goodIn_r _ [71, 72, 73, 74, 75, 76, 77, 78, 79, 80, 81, 82, 151, 84, 85, 86, 152, 153, 154, 155, 156, 157, 158, 159] (by decide +kernel) (by decide +kernel)
set_option maxRecDepth 20000 in
theorem gp6_L_ticks_X6_drives : GoodIn wsL_ticks (wsX6_drives_r6) := goodIn_r _ [160, 161, 162, 163, 164, 165, 166, 167, 168, 169, 170, 171, 172, 173, 174, 175, 176, 177, 178, 179, 180, 181, 182, 183] (by decide +kernel) (by decide +kernel)
set_option maxRecDepth 20000 in
theorem gp7_L_ticks_X6_drives : GoodIn wsL_ticks (wsX6_drives_r7) := goodIn_r _ [184, 185, 186, 187, 188, 189, 190, 191, 192, 193, 194, 195, 196, 197, 26, 27, 28, 29, 30, 23, 198, 199, 200, 201] (by decide +kernel) (by decide +kernel)
set_option maxRecDepth 20000 in
theorem gp8_L_ticks_X6_drives : GoodIn wsL_ticks (wsX6_drives_r8) := goodIn_r _ [202, 203] (by decide +kernel) (by decide +kernel)
set_option maxRecDepth 20000 in
theorem gp9_L_ticks_X6_drives : GoodIn wsL_ticks (wsX60) := goodIn_r _ [204, 205, 206, 207, 208, 209, 210, 211, 212, 213] (by decide +kernel) (by decide +kernel)
set_option maxRecDepth 20000 in
theorem gp10_L_ticks_X6_drives : GoodIn wsL_ticks (wsX40) := goodIn_r _ [220, 221, 222, 223] (by decide +kernel) (by decide +kernel)
set_option maxRecDepth 20000 in
theorem gp11_L_ticks_X6_drives : GoodIn wsL_ticks (wsX20) := goodIn_r _ [224, 225, 226] (by decide +kernel) (by decide +kernel)
set_option maxRecDepth 20000 in
theorem gp12_L_ticks_X6_drives : GoodIn wsL_ticks (wsX10) := goodIn_r _ [214, 215, 216] (by decide +kernel) (by decide +kernel)
set_option maxRecDepth 20000 in
theorem gp13_L_ticks_X6_drives : GoodIn wsL_ticks (wsX00) := goodIn_r _ [217, 218, 219] (by decide +kernel) (by decide +kernel)
set_option maxRecDepth 20000 in
theorem gp14_L_ticks_X6_drives : GoodIn wsL_ticks (wsX30) := goodIn_r _ [227] (by decide +kernel) (by decide +kernel)
theorem ggL_ticks_X6_drives : GoodIn wsL_ticks wsX6_drives := (goodIn_ca (goodIn_ca (goodIn_ca (goodIn_ca (goodIn_ca (goodIn_ca (goodIn_ca gp1_L_ticks_X6_drives (goodIn_app gp2_L_ticks_X6_drives (goodIn_app gp3_L_ticks_X6_drives (goodIn_app gp4_L_ticks_X6_drives (goodIn_app gp5_L_ticks_X6_drives (goodIn_app gp6_L_ticks_X6_drives (goodIn_app gp7_L_ticks_X6_drives gp8_L_ticks_X6_drives))))))) gp9_L_ticks_X6_drives) gp10_L_ticks_X6_drives) gp11_L_ticks_X6_drives) gp12_L_ticks_X6_drives) gp13_L_ticks_X6_drives) gp14_L_ticks_X6_drives)
set_option maxRecDepth 20000 in
theorem gL_ticks_X6_drives : GoodIn wsL_ticks (wsV RL 54 RX6 yX6_drives wsX6_drives) := goodIn_app (goodIn_of _ (by decide +kernel)) ggL_ticks_X6_drives
