set_option maxRecDepth 20000 in
theorem ggL_whole_X6_of : GoodIn wsL_whole wsX6_of := goodIn_r _ [7, 8, 9, 10, 11, 6, 12, 13, 14, 15, 16, 17, 18, 19, 20, 21, 22, 23, 24, 25, 26, 27, 28, 29, 30, 31, 32, 33, 34, 35, 36, 37, 38, 39, 40, 41, 42, 43, 44, 45, 65, 66, 67, 68, 69, 70, 71, 72, 73, 74, 75, 76, 77] (by decide +kernel) (by decide +kernel)
set_option maxRecDepth 20000 in
theorem gL_whole_X6_of : GoodIn wsL_whole (wsV RL 13 RX6 yX6_of wsX6_of) := goodIn_app (goodIn_of _ (by decide +kernel)) ggL_whole_X6_of
set_option maxRecDepth 20000 in
theorem ggL_whole_X6_clutch : GoodIn wsL_whole wsX6_clutch := goodIn_r _ [49, 8, 9, 50, 51, 6, 52, 13, 14, 15, 16, 17, 18, 19, 20, 53, 54, 55, 24, 56, 26, 65, 66, 67, 68, 69, 70, 71, 72, 73, 74, 75, 76, 77] (by decide +kernel) (by decide +kernel)
set_option maxRecDepth 20000 in
theorem gL_whole_X6_clutch : GoodIn wsL_whole (wsV RL 19 RX6 yX6_clutch wsX6_clutch) := goodIn_app (goodIn_of _ (by decide +kernel)) ggL_whole_X6_clutch
set_option maxRecDepth 20000 in
theorem ggL_whole_X6_state : GoodIn wsL_whole wsX6_state := goodIn_r _ [60, 9, 8, 61, 62, 63, 24, 64, 35, 22, 23, 25, 26, 18, 19, 6, 20, 13, 14, 15, 16, 17, 65, 66, 67, 68, 69, 70, 71, 72, 73, 74, 75, 76, 77] (by decide +kernel) (by decide +kernel)
set_option maxRecDepth 20000 in
theorem gL_whole_X6_state : GoodIn wsL_whole (wsV RL 22 RX6 yX6_state wsX6_state) := goodIn_app (goodIn_of _ (by decide +kernel)) ggL_whole_X6_state
set_option maxRecDepth 20000 in
theorem ggL_sound_X6_state : GoodIn wsL_sound wsX6_state := goodIn_r _ [5, 6, 7, 8, 9, 10, 11, 12, 13, 14, 15, 16, 17, 18, 19, 4, 20, 21, 22, 23, 24, 25, 142, 143, 144, 145, 146, 147, 148, 149, 150, 151, 152, 153, 154] (by decide +kernel) (by decide +kernel)
set_option maxRecDepth 20000 in
theorem gL_sound_X6_state : GoodIn wsL_sound (wsV RL 22 RX6 yX6_state wsX6_state) := goodIn_app (goodIn_of _ (by decide +kernel)) ggL_sound_X6_state
set_option maxRecDepth 20000 in
theorem ggL_sound_X6_of : GoodIn wsL_sound wsX6_of := goodIn_r _ [29, 7, 6, 30, 31, 4, 32, 21, 22, 23, 24, 25, 18, 19, 20, 33, 14, 15, 11, 16, 17, 34, 35, 36, 37, 38, 39, 40, 41, 13, 42, 43, 44, 45, 46, 47, 48, 49, 50, 51, 142, 143, 144, 145, 146, 147, 148, 149, 150, 151, 152, 153, 154] (by decide +kernel) (by decide +kernel)
set_option maxRecDepth 20000 in
theorem gL_sound_X6_of : GoodIn wsL_sound (wsV RL 13 RX6 yX6_of wsX6_of) := goodIn_app (goodIn_of _ (by decide +kernel)) ggL_sound_X6_of
set_option maxRecDepth 20000 in
theorem ggL_sound_X6_clutch : GoodIn wsL_sound wsX6_clutch := goodIn_r _ [55, 7, 6, 56, 57, 4, 58, 21, 22, 23, 24, 25, 18, 19, 20, 59, 60, 61, 11, 62, 17, 142, 143, 144, 145, 146, 147, 148, 149, 150, 151, 152, 153, 154] (by decide +kernel) (by decide +kernel)
set_option maxRecDepth 20000 in
theorem gL_sound_X6_clutch : GoodIn wsL_sound (wsV RL 19 RX6 yX6_clutch wsX6_clutch) := goodIn_app (goodIn_of _ (by decide +kernel)) ggL_sound_X6_clutch
