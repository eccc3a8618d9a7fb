set_option maxRecDepth 20000 in
theorem ggL_law_X6_told : GoodIn wsL_law wsX6_told := goodIn_r _ [331, 12, 36, 32, 332, 333, 334, 35, 335, 81, 166, 167, 168, 31, 169, 72, 101, 102, 103, 2, 104, 105, 106, 107, 402, 403, 404, 405, 406, 407, 408, 409, 410, 411, 426, 427, 428, 429, 430, 431, 432, 422, 423, 424, 425] (by decide +kernel) (by decide +kernel)
set_option maxRecDepth 20000 in
theorem gL_law_X6_told : GoodIn wsL_law (wsV RL 89 RX6 yX6_told wsX6_told) := goodIn_app (goodIn_of _ (by decide +kernel)) ggL_law_X6_told
set_option maxRecDepth 20000 in
theorem gp1_L_law_L_sound : GoodIn wsL_law (.code yL_sound cL_sound 12 (some .boolean) :: wsL_sound_r1) := goodIn_r _ [338, 142, 143, 144, 2, 145, 16, 11, 146, 147, 148, 15, 149, 120, 109, 110, 111, 45, 105, 106, 107, 101, 102, 103, 104] (by decide +kernel) (by decide +kernel)
set_option maxRecDepth 20000 in
theorem gp2_L_law_L_sound : GoodIn wsL_law (wsL_sound_r2) := goodIn_r _ [12, 94, 95, 96, 97, 98, 99, 100, 108, 112, 113, 114, 115, 116, 117, 118, 119, 121, 122, 123, 124, 125, 126, 127] (by decide +kernel) (by decide +kernel)
set_option maxRecDepth 20000 in
theorem gp3_L_law_L_sound : GoodIn wsL_law (wsL_sound_r3) := goodIn_r _ [128, 129, 130, 131, 132, 133, 134, 135, 136, 137, 138, 139, 140, 141, 339, 340, 341, 342, 343, 344, 345, 346, 347, 248] (by decide +kernel) (by decide +kernel)
set_option maxRecDepth 20000 in
theorem gp4_L_law_L_sound : GoodIn wsL_law (wsL_sound_r4) := goodIn_r _ [249, 250, 251, 252, 253, 254, 348, 349, 350, 351, 352, 353, 354, 355, 356, 357, 358, 359, 360, 234, 235, 236, 43, 237] (by decide +kernel) (by decide +kernel)
set_option maxRecDepth 20000 in
theorem gp5_L_law_L_sound : GoodIn wsL_law (wsL_sound_r5) := goodIn_r _ [222, 223, 224, 44, 238, 239, 240, 241, 242, 361, 244, 245, 246, 362, 363, 86, 364, 365, 366, 367, 368, 20, 369, 264] (by decide +kernel) (by decide +kernel)
set_option maxRecDepth 20000 in
theorem gp6_L_law_L_sound : GoodIn wsL_law (wsL_sound_r6) := goodIn_r _ [265, 19, 266, 259, 260, 261, 267, 268, 269, 270, 50, 262, 370, 272, 273, 274, 371, 372, 373, 374, 375] (by decide +kernel) (by decide +kernel)
set_option maxRecDepth 20000 in
theorem gp7_L_law_L_sound : GoodIn wsL_law (wsX60) := goodIn_r _ [402, 403, 404, 405, 406, 407, 408, 409, 410, 411] (by decide +kernel) (by decide +kernel)
set_option maxRecDepth 20000 in
theorem gp8_L_law_L_sound : GoodIn wsL_law (wsX10) := goodIn_r _ [412, 413, 414] (by decide +kernel) (by decide +kernel)
set_option maxRecDepth 20000 in
theorem gp9_L_law_L_sound : GoodIn wsL_law (wsX30) := goodIn_r _ [415] (by decide +kernel) (by decide +kernel)
theorem ggL_law_L_sound : GoodIn wsL_law wsL_sound := (goodIn_ca (goodIn_ca (goodIn_ca (goodIn_ca gp1_L_law_L_sound (goodIn_app gp2_L_law_L_sound (goodIn_app gp3_L_law_L_sound (goodIn_app gp4_L_law_L_sound (goodIn_app gp5_L_law_L_sound gp6_L_law_L_sound))))) gp7_L_law_L_sound) gp8_L_law_L_sound) gp9_L_law_L_sound)
set_option maxRecDepth 20000 in
theorem gL_law_L_sound : GoodIn wsL_law (va_wsS RL 110 yL_sound wsL_sound) := goodIn_app (goodIn_of _ (by decide +kernel)) ggL_law_L_sound
