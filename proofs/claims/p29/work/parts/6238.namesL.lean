set_option maxRecDepth 20000 in
theorem gp1_L_law_L_ticks : GoodIn wsL_law (.code yL_ticks cL_ticks 15 (some .boolean) :: wsL_ticks_r1) := goodIn_r _ [398, 173, 174, 86, 175, 176, 142, 143, 144, 2, 145, 16, 11, 146, 147, 148, 15, 149, 120, 109, 110, 111, 45, 105, 106] (by decide +kernel) (by decide +kernel)
set_option maxRecDepth 20000 in
theorem gp2_L_law_L_ticks : GoodIn wsL_law (wsL_ticks_r2) := goodIn_r _ [107, 101, 102, 103, 104, 12, 379, 380, 381, 382, 24, 383, 226, 227, 23, 228, 55, 56, 99, 100, 229, 230, 231, 232] (by decide +kernel) (by decide +kernel)
set_option maxRecDepth 20000 in
theorem gp3_L_law_L_ticks : GoodIn wsL_law (wsL_ticks_r3) := goodIn_r _ [356, 357, 358, 359, 343, 344, 345, 98, 108, 360, 234, 235, 236, 43, 237, 222, 223, 224, 44, 238, 239, 240, 241, 242] (by decide +kernel) (by decide +kernel)
set_option maxRecDepth 20000 in
theorem gp4_L_law_L_ticks : GoodIn wsL_law (wsL_ticks_r4) := goodIn_r _ [121, 122, 123, 124, 125, 126, 127, 128, 129, 130, 361, 244, 245, 246, 324, 325, 326, 327, 181, 182, 183, 184, 32, 28] (by decide +kernel) (by decide +kernel)
set_option maxRecDepth 20000 in
theorem gp5_L_law_L_ticks : GoodIn wsL_law (wsL_ticks_r5) := goodIn_r _ [185, 186, 187, 31, 188, 73, 70, 71, 162, 163, 164, 165, 189, 190, 191, 27, 192, 64, 193, 194, 195, 196, 63, 197] (by decide +kernel) (by decide +kernel)
set_option maxRecDepth 20000 in
theorem gp6_L_law_L_ticks : GoodIn wsL_law (wsL_ticks_r6) := goodIn_r _ [198, 199, 200, 201, 202, 203, 204, 62, 205, 206, 207, 208, 209, 210, 211, 212, 213, 136, 137, 214, 215, 216, 217, 218] (by decide +kernel) (by decide +kernel)
set_option maxRecDepth 20000 in
theorem gp7_L_law_L_ticks : GoodIn wsL_law (wsL_ticks_r7) := goodIn_r _ [219, 220, 221, 57, 225, 233, 243, 247, 248, 249, 250, 116, 117, 118, 119, 251, 252, 253, 254, 255, 256, 257, 19, 258] (by decide +kernel) (by decide +kernel)
set_option maxRecDepth 20000 in
theorem gp8_L_law_L_ticks : GoodIn wsL_law (wsL_ticks_r8) := goodIn_r _ [50, 259, 260, 261, 262, 263, 264, 265, 266, 267, 268, 269, 270, 271, 272, 273, 274, 275, 276, 277, 278, 279, 280, 281] (by decide +kernel) (by decide +kernel)
set_option maxRecDepth 20000 in
theorem gp9_L_law_L_ticks : GoodIn wsL_law (wsL_ticks_r9) := goodIn_r _ [282, 283, 284, 285, 286, 287, 288, 289, 290, 72, 291] (by decide +kernel) (by decide +kernel)
set_option maxRecDepth 20000 in
theorem gp10_L_law_L_ticks : GoodIn wsL_law (wsX60) := goodIn_r _ [402, 403, 404, 405, 406, 407, 408, 409, 410, 411] (by decide +kernel) (by decide +kernel)
set_option maxRecDepth 20000 in
theorem gp11_L_law_L_ticks : GoodIn wsL_law (wsX10) := goodIn_r _ [412, 413, 414] (by decide +kernel) (by decide +kernel)
set_option maxRecDepth 20000 in
theorem gp12_L_law_L_ticks : GoodIn wsL_law (wsX00) := goodIn_r _ [416, 417, 418] (by decide +kernel) (by decide +kernel)
set_option maxRecDepth 20000 in
theorem gp13_L_law_L_ticks : GoodIn wsL_law (wsX40) := goodIn_r _ [422, 423, 424, 425] (by decide +kernel) (by decide +kernel)
set_option maxRecDepth 20000 in
theorem gp14_L_law_L_ticks : GoodIn wsL_law (wsX20) := goodIn_r _ [419, 420, 421] (by decide +kernel) (by decide +kernel)
set_option maxRecDepth 20000 in
theorem gp15_L_law_L_ticks : GoodIn wsL_law (wsX30) := goodIn_r _ [415] (by decide +kernel) (by decide +kernel)
theorem ggL_law_L_ticks : GoodIn wsL_law wsL_ticks := (goodIn_ca (goodIn_ca (goodIn_ca (goodIn_ca (goodIn_ca (goodIn_ca (goodIn_ca gp1_L_law_L_ticks (goodIn_app gp2_L_law_L_ticks (goodIn_app gp3_L_law_L_ticks (goodIn_app gp4_L_law_L_ticks (goodIn_app gp5_L_law_L_ticks (goodIn_app gp6_L_law_L_ticks (goodIn_app gp7_L_law_L_ticks (goodIn_app gp8_L_law_L_ticks gp9_L_law_L_ticks)))))))) gp10_L_law_L_ticks) gp11_L_law_L_ticks) gp12_L_law_L_ticks) gp13_L_law_L_ticks) gp14_L_law_L_ticks) gp15_L_law_L_ticks)
set_option maxRecDepth 20000 in
theorem gL_law_L_ticks : GoodIn wsL_law (va_wsS RL 117 yL_ticks wsL_ticks) := goodIn_app (goodIn_of _ (by decide +kernel)) ggL_law_L_ticks
