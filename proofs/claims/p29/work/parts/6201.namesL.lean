set_option maxRecDepth 20000 in
theorem ggL_sound_X6_simple : GoodIn wsL_sound wsX6_simple := goodIn_r _ [66, 6, 67, 68, 4, 69, 30, 31, 32, 21, 22, 23, 24, 25, 18, 19, 20, 70, 39, 40, 11, 41, 17, 13, 14, 15, 16, 42, 43, 44, 45, 46, 47, 48, 49, 50, 51, 71, 72, 73, 74, 38, 75, 76, 77, 78, 142, 143, 144, 145, 146, 147, 148, 149, 150, 151, 152, 153, 154] (by decide +kernel) (by decide +kernel)
set_option maxRecDepth 20000 in
theorem gL_sound_X6_simple : GoodIn wsL_sound (wsV RL 26 RX6 yX6_simple wsX6_simple) := goodIn_app (goodIn_of _ (by decide +kernel)) ggL_sound_X6_simple
set_option maxRecDepth 20000 in
theorem ggL_sound_X6_ties : GoodIn wsL_sound wsX6_ties := goodIn_r _ [82, 6, 18, 19, 4, 20, 21, 22, 23, 24, 25, 83, 84, 85, 11, 86, 17, 142, 143, 144, 145, 146, 147, 148, 149, 150, 151, 152, 153, 154] (by decide +kernel) (by decide +kernel)
set_option maxRecDepth 20000 in
theorem gL_sound_X6_ties : GoodIn wsL_sound (wsV RL 30 RX6 yX6_ties wsX6_ties) := goodIn_app (goodIn_of _ (by decide +kernel)) ggL_sound_X6_ties
set_option maxRecDepth 20000 in
theorem gp1_L_sound_X6_way : GoodIn wsL_sound (.code yX6_way cX6_way 5 (some .int) :: wsX6_way_r1) := goodIn_r _ [90, 6, 67, 68, 4, 69, 30, 31, 32, 21, 22, 23, 24, 25, 18, 19, 20, 33, 14, 15, 11, 16, 17, 91, 92] (by decide +kernel) (by decide +kernel)
set_option maxRecDepth 20000 in
theorem gp2_L_sound_X6_way : GoodIn wsL_sound (wsX6_way_r2) := goodIn_r _ [93, 94, 95, 96, 97, 98, 99, 100, 101, 9, 10, 12, 13, 102, 103, 104, 105, 42, 43, 44, 45, 46, 47, 48] (by decide +kernel) (by decide +kernel)
set_option maxRecDepth 20000 in
theorem gp3_L_sound_X6_way : GoodIn wsL_sound (wsX6_way_r3) := goodIn_r _ [49, 50, 51, 106, 107, 108, 109] (by decide +kernel) (by decide +kernel)
set_option maxRecDepth 20000 in
theorem gp4_L_sound_X6_way : GoodIn wsL_sound (wsX60) := goodIn_r _ [142, 143, 144, 145, 146, 147, 148, 149, 150, 151] (by decide +kernel) (by decide +kernel)
set_option maxRecDepth 20000 in
theorem gp5_L_sound_X6_way : GoodIn wsL_sound (wsX10) := goodIn_r _ [152, 153, 154] (by decide +kernel) (by decide +kernel)
theorem ggL_sound_X6_way : GoodIn wsL_sound wsX6_way := (goodIn_ca (goodIn_ca (goodIn_ca gp1_L_sound_X6_way (goodIn_app gp2_L_sound_X6_way gp3_L_sound_X6_way)) gp4_L_sound_X6_way) gp5_L_sound_X6_way)
set_option maxRecDepth 20000 in
theorem gL_sound_X6_way : GoodIn wsL_sound (wsV RL 35 RX6 yX6_way wsX6_way) := goodIn_app (goodIn_of _ (by decide +kernel)) ggL_sound_X6_way
set_option maxRecDepth 20000 in
theorem gp1_L_sound_L_overlaps : GoodIn wsL_sound (.code yL_overlaps cL_overlaps 7 (some .boolean) :: wsL_overlaps_r1) := goodIn_r _ [113, 63, 64, 65, 4, 66, 6, 67, 68, 69, 30, 31, 32, 21, 22, 23, 24, 25, 18, 19, 20, 70, 39, 40, 11] (by decide +kernel) (by decide +kernel)
set_option maxRecDepth 20000 in
theorem gp2_L_sound_L_overlaps : GoodIn wsL_sound (wsL_overlaps_r2) := goodIn_r _ [41, 17, 13, 14, 15, 16, 42, 43, 44, 45, 46, 47, 48, 49, 50, 51, 71, 72, 73, 74, 38, 75, 76, 77] (by decide +kernel) (by decide +kernel)
set_option maxRecDepth 20000 in
theorem gp3_L_sound_L_overlaps : GoodIn wsL_sound (wsL_overlaps_r3) := goodIn_r _ [78, 114, 115, 116, 117, 118, 56, 57, 58, 119, 120, 121, 122, 123, 124, 125, 98, 126, 127, 128, 129, 130, 131, 132] (by decide +kernel) (by decide +kernel)
set_option maxRecDepth 20000 in
theorem gp4_L_sound_L_overlaps : GoodIn wsL_sound (wsL_overlaps_r4) := goodIn_r _ [97, 99, 133, 134, 135, 136, 52, 53, 54, 55, 7, 59, 60, 61, 62, 137, 138, 139, 140, 141] (by decide +kernel) (by decide +kernel)
set_option maxRecDepth 20000 in
theorem gp5_L_sound_L_overlaps : GoodIn wsL_sound (wsX60) := goodIn_r _ [142, 143, 144, 145, 146, 147, 148, 149, 150, 151] (by decide +kernel) (by decide +kernel)
set_option maxRecDepth 20000 in
theorem gp6_L_sound_L_overlaps : GoodIn wsL_sound (wsX10) := goodIn_r _ [152, 153, 154] (by decide +kernel) (by decide +kernel)
set_option maxRecDepth 20000 in
theorem gp7_L_sound_L_overlaps : GoodIn wsL_sound (wsX30) := goodIn_r _ [155] (by decide +kernel) (by decide +kernel)
theorem ggL_sound_L_overlaps : GoodIn wsL_sound wsL_overlaps := (goodIn_ca (goodIn_ca (goodIn_ca (goodIn_ca gp1_L_sound_L_overlaps (goodIn_app gp2_L_sound_L_overlaps (goodIn_app gp3_L_sound_L_overlaps gp4_L_sound_L_overlaps))) gp5_L_sound_L_overlaps) gp6_L_sound_L_overlaps) gp7_L_sound_L_overlaps)
set_option maxRecDepth 20000 in
theorem gL_sound_L_overlaps : GoodIn wsL_sound (va_wsS RL 38 yL_overlaps wsL_overlaps) := goodIn_app (goodIn_of _ (by decide +kernel)) ggL_sound_L_overlaps
