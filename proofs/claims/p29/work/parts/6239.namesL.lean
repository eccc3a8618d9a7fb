set_option maxRecDepth 20000 in
theorem gp1_L_law_L_learns : GoodIn wsL_law (.code yL_learns cL_learns 5 (some .boolean) :: wsL_learns_r1) := goodIn_r _ [401, 0, 1, 2, 4, 5, 6, 7, 8, 9, 10, 11, 12, 13, 14, 15, 16, 17, 18, 19, 20, 21, 22, 23, 24] (by decide +kernel) (by decide +kernel)
set_option maxRecDepth 20000 in
theorem gp2_L_law_L_learns : GoodIn wsL_law (wsL_learns_r2) := goodIn_r _ [25, 26, 27, 28, 29, 30, 31, 32, 33, 34, 35, 36, 37, 38, 39, 40, 41, 42, 43, 44, 45, 46, 47, 48] (by decide +kernel) (by decide +kernel)
set_option maxRecDepth 20000 in
theorem gp3_L_law_L_learns : GoodIn wsL_law (wsL_learns_r3) := goodIn_r _ [49, 50, 51, 52, 53, 54, 55, 56, 57, 58, 59, 60, 61, 62, 63, 64, 65, 66, 67, 68, 69, 70, 71, 72] (by decide +kernel) (by decide +kernel)
set_option maxRecDepth 20000 in
theorem gp4_L_law_L_learns : GoodIn wsL_law (wsL_learns_r4) := goodIn_r _ [73, 74, 75, 76, 77, 78, 79, 80, 81, 82, 83, 173, 174, 86, 175, 176, 177, 178, 179, 180, 181, 182, 183, 184] (by decide +kernel) (by decide +kernel)
set_option maxRecDepth 20000 in
theorem gp5_L_law_L_learns : GoodIn wsL_law (wsL_learns_r5) := goodIn_r _ [185, 186, 187, 188, 162, 163, 164, 165, 189, 190, 191, 192, 193, 194, 195, 196, 99, 100, 106, 107, 197, 198, 199, 200] (by decide +kernel) (by decide +kernel)
set_option maxRecDepth 20000 in
theorem gp6_L_law_L_learns : GoodIn wsL_law (wsL_learns_r6) := goodIn_r _ [201, 202, 203, 204, 205, 206, 207, 208, 209, 109, 110, 111, 210, 211, 212, 213, 136, 137, 214, 215, 216, 217, 218, 219] (by decide +kernel) (by decide +kernel)
set_option maxRecDepth 20000 in
theorem gp7_L_law_L_learns : GoodIn wsL_law (wsL_learns_r7) := goodIn_r _ [220, 221, 222, 223, 224, 225, 226, 227, 228, 229, 230, 231, 232, 120, 233, 234, 235, 236, 237, 238, 147, 148, 149, 239] (by decide +kernel) (by decide +kernel)
set_option maxRecDepth 20000 in
theorem gp8_L_law_L_learns : GoodIn wsL_law (wsL_learns_r8) := goodIn_r _ [240, 241, 242, 121, 122, 123, 124, 125, 126, 127, 128, 129, 130, 243, 244, 245, 246, 247, 248, 249, 250, 116, 117, 118] (by decide +kernel) (by decide +kernel)
set_option maxRecDepth 20000 in
theorem gp9_L_law_L_learns : GoodIn wsL_law (wsL_learns_r9) := goodIn_r _ [119, 251, 252, 253, 254, 255, 256, 257, 258, 259, 260, 261, 262, 263, 264, 265, 266, 267, 268, 269, 270, 271, 272, 273] (by decide +kernel) (by decide +kernel)
set_option maxRecDepth 20000 in
theorem gp10_L_law_L_learns : GoodIn wsL_law (wsL_learns_r10) := goodIn_r _ [274, 275, 276, 277, 278, 279, 280, 281, 282, 283, 284, 285, 286, 101, 102, 103, 104, 105, 287, 288, 289, 290, 291, 296] (by decide +kernel) (by decide +kernel)
set_option maxRecDepth 20000 in
theorem gp11_L_law_L_learns : GoodIn wsL_law (wsL_learns_r11) := goodIn_r _ [297, 298, 299, 316, 317, 318, 319, 320, 321, 322, 323, 324, 325, 326, 327, 365, 366, 367, 368, 343, 344, 345, 98, 347] (by decide +kernel) (by decide +kernel)
set_option maxRecDepth 20000 in
theorem gp12_L_law_L_learns : GoodIn wsL_law (wsL_learns_r12) := goodIn_r _ [135, 369, 370, 142, 143, 144, 145, 146] (by decide +kernel) (by decide +kernel)
set_option maxRecDepth 20000 in
theorem gp13_L_law_L_learns : GoodIn wsL_law (wsX60) := goodIn_r _ [402, 403, 404, 405, 406, 407, 408, 409, 410, 411] (by decide +kernel) (by decide +kernel)
set_option maxRecDepth 20000 in
theorem gp14_L_law_L_learns : GoodIn wsL_law (wsX10) := goodIn_r _ [412, 413, 414] (by decide +kernel) (by decide +kernel)
set_option maxRecDepth 20000 in
theorem gp15_L_law_L_learns : GoodIn wsL_law (wsX30) := goodIn_r _ [415] (by decide +kernel) (by decide +kernel)
set_option maxRecDepth 20000 in
theorem gp16_L_law_L_learns : GoodIn wsL_law (wsX00) := goodIn_r _ [416, 417, 418] (by decide +kernel) (by decide +kernel)
set_option maxRecDepth 20000 in
theorem gp17_L_law_L_learns : GoodIn wsL_law (wsX20) := goodIn_r _ [419, 420, 421] (by decide +kernel) (by decide +kernel)
set_option maxRecDepth 20000 in
theorem gp18_L_law_L_learns : GoodIn wsL_law (wsX40) := goodIn_r _ [422, 423, 424, 425] (by decide +kernel) (by decide +kernel)
set_option maxRecDepth 20000 in
theorem gp19_L_law_L_learns : GoodIn wsL_law (wsX50) := goodIn_r _ [426, 427, 428, 429, 430, 431, 432] (by decide +kernel) (by decide +kernel)
theorem ggL_law_L_learns : GoodIn wsL_law wsL_learns := (goodIn_ca (goodIn_ca (goodIn_ca (goodIn_ca (goodIn_ca (goodIn_ca (goodIn_ca (goodIn_ca gp1_L_law_L_learns (goodIn_app gp2_L_law_L_learns (goodIn_app gp3_L_law_L_learns (goodIn_app gp4_L_law_L_learns (goodIn_app gp5_L_law_L_learns (goodIn_app gp6_L_law_L_learns (goodIn_app gp7_L_law_L_learns (goodIn_app gp8_L_law_L_learns (goodIn_app gp9_L_law_L_learns (goodIn_app gp10_L_law_L_learns (goodIn_app gp11_L_law_L_learns gp12_L_law_L_learns))))))))))) gp13_L_law_L_learns) gp14_L_law_L_learns) gp15_L_law_L_learns) gp16_L_law_L_learns) gp17_L_law_L_learns) gp18_L_law_L_learns) gp19_L_law_L_learns)
set_option maxRecDepth 20000 in
theorem gL_law_L_learns : GoodIn wsL_law (va_wsS RL 121 yL_learns wsL_learns) := goodIn_app (goodIn_of _ (by decide +kernel)) ggL_law_L_learns
