set_option maxRecDepth 20000 in
theorem gp1_L_law_L_refused : GoodIn wsL_law (.code yL_refused cL_refused 8 (some .boolean) :: wsL_refused_r1) := goodIn_r _ [378, 89, 90, 86, 91, 92, 93, 94, 95, 96, 2, 97, 11, 16, 98, 99, 100, 101, 102, 103, 104, 12, 105, 106, 107] (by decide +kernel) (by decide +kernel)
set_option maxRecDepth 20000 in
theorem gp2_L_law_L_refused : GoodIn wsL_law (wsL_refused_r2) := goodIn_r _ [108, 109, 110, 15, 111, 45, 112, 113, 114, 115, 116, 117, 118, 119, 120, 121, 122, 123, 124, 125, 126, 127, 128, 129] (by decide +kernel) (by decide +kernel)
set_option maxRecDepth 20000 in
theorem gp3_L_law_L_refused : GoodIn wsL_law (wsL_refused_r3) := goodIn_r _ [130, 131, 132, 133, 134, 135, 136, 137, 138, 139, 140, 141, 142, 143, 144, 145, 146, 147, 148, 149, 328, 329, 330, 331] (by decide +kernel) (by decide +kernel)
set_option maxRecDepth 20000 in
theorem gp4_L_law_L_refused : GoodIn wsL_law (wsL_refused_r4) := goodIn_r _ [36, 32, 332, 333, 334, 35, 335, 81, 166, 167, 168, 31, 169, 72, 177, 178, 179, 180, 181, 182, 183, 184, 28, 185] (by decide +kernel) (by decide +kernel)
set_option maxRecDepth 20000 in
theorem gp5_L_law_L_refused : GoodIn wsL_law (wsL_refused_r5) := goodIn_r _ [186, 187, 188, 73, 70, 71, 162, 163, 164, 165, 189, 190, 191, 27, 192, 64, 193, 194, 195, 196, 63, 197, 198, 199] (by decide +kernel) (by decide +kernel)
set_option maxRecDepth 20000 in
theorem gp6_L_law_L_refused : GoodIn wsL_law (wsL_refused_r6) := goodIn_r _ [200, 201, 202, 203, 204, 62, 205, 206, 207, 208, 209, 210, 211, 212, 213, 214, 215, 216, 217, 218, 219, 23, 220, 55] (by decide +kernel) (by decide +kernel)
set_option maxRecDepth 20000 in
theorem gp7_L_law_L_refused : GoodIn wsL_law (wsL_refused_r7) := goodIn_r _ [221, 222, 223, 224, 56, 57, 225, 226, 227, 228, 229, 230, 231, 232, 233, 234, 235, 236, 43, 237, 44, 238, 239, 240] (by decide +kernel) (by decide +kernel)
set_option maxRecDepth 20000 in
theorem gp8_L_law_L_refused : GoodIn wsL_law (wsL_refused_r8) := goodIn_r _ [241, 242, 243, 244, 245, 246, 247, 248, 249, 250, 251, 252, 253, 254, 255, 256, 257, 19, 258, 50, 259, 260, 261, 262] (by decide +kernel) (by decide +kernel)
set_option maxRecDepth 20000 in
theorem gp9_L_law_L_refused : GoodIn wsL_law (wsL_refused_r9) := goodIn_r _ [263, 264, 265, 266, 267, 268, 269, 270, 271, 272, 273, 274, 275, 276, 277, 278, 279, 280, 281, 282, 283, 284, 285, 286] (by decide +kernel) (by decide +kernel)
set_option maxRecDepth 20000 in
theorem gp10_L_law_L_refused : GoodIn wsL_law (wsL_refused_r10) := goodIn_r _ [287, 288, 289, 290, 291, 292, 293, 294, 295, 296, 297, 298, 299, 300, 301, 302, 303, 304, 305, 306, 307, 308, 309, 310] (by decide +kernel) (by decide +kernel)
set_option maxRecDepth 20000 in
theorem gp11_L_law_L_refused : GoodIn wsL_law (wsL_refused_r11) := goodIn_r _ [311, 312, 313, 314, 315, 316, 317, 318, 319, 348, 349, 350, 351, 352, 353, 354, 355, 339, 340, 341, 342, 343, 344, 345] (by decide +kernel) (by decide +kernel)
set_option maxRecDepth 20000 in
theorem gp12_L_law_L_refused : GoodIn wsL_law (wsL_refused_r12) := goodIn_r _ [346, 347, 356, 357, 358, 359, 360, 361, 371, 372, 373, 374, 20, 375, 365, 366, 367, 368, 369, 370, 379, 380, 381, 382] (by decide +kernel) (by decide +kernel)
set_option maxRecDepth 20000 in
theorem gp13_L_law_L_refused : GoodIn wsL_law (wsL_refused_r13) := goodIn_r _ [24, 383, 324, 325, 326, 327, 320, 321, 322, 323, 384, 385, 386, 387, 37, 38, 388, 389, 390, 391, 392, 393, 394, 395] (by decide +kernel) (by decide +kernel)
set_option maxRecDepth 20000 in
theorem gp14_L_law_L_refused : GoodIn wsL_law (wsL_refused_r14) := goodIn_r _ [77] (by decide +kernel) (by decide +kernel)
set_option maxRecDepth 20000 in
theorem gp15_L_law_L_refused : GoodIn wsL_law (wsX60) := goodIn_r _ [402, 403, 404, 405, 406, 407, 408, 409, 410, 411] (by decide +kernel) (by decide +kernel)
set_option maxRecDepth 20000 in
theorem gp16_L_law_L_refused : GoodIn wsL_law (wsX10) := goodIn_r _ [412, 413, 414] (by decide +kernel) (by decide +kernel)
set_option maxRecDepth 20000 in
theorem gp17_L_law_L_refused : GoodIn wsL_law (wsX50) := goodIn_r _ [426, 427, 428, 429, 430, 431, 432] (by decide +kernel) (by decide +kernel)
set_option maxRecDepth 20000 in
theorem gp18_L_law_L_refused : GoodIn wsL_law (wsX40) := goodIn_r _ [422, 423, 424, 425] (by decide +kernel) (by decide +kernel)
set_option maxRecDepth 20000 in
theorem gp19_L_law_L_refused : GoodIn wsL_law (wsX20) := goodIn_r _ [419, 420, 421] (by decide +kernel) (by decide +kernel)
set_option maxRecDepth 20000 in
theorem gp20_L_law_L_refused : GoodIn wsL_law (wsX00) := goodIn_r _ [416, 417, 418] (by decide +kernel) (by decide +kernel)
set_option maxRecDepth 20000 in
theorem gp21_L_law_L_refused : GoodIn wsL_law (wsX30) := goodIn_r _ [415] (by decide +kernel) (by decide +kernel)
theorem ggL_law_L_refused : GoodIn wsL_law wsL_refused := (goodIn_ca (goodIn_ca (goodIn_ca (goodIn_ca (goodIn_ca (goodIn_ca (goodIn_ca (goodIn_ca gp1_L_law_L_refused (goodIn_app gp2_L_law_L_refused (goodIn_app gp3_L_law_L_refused (goodIn_app gp4_L_law_L_refused (goodIn_app gp5_L_law_L_refused (goodIn_app gp6_L_law_L_refused (goodIn_app gp7_L_law_L_refused (goodIn_app gp8_L_law_L_refused (goodIn_app gp9_L_law_L_refused (goodIn_app gp10_L_law_L_refused (goodIn_app gp11_L_law_L_refused (goodIn_app gp12_L_law_L_refused (goodIn_app gp13_L_law_L_refused gp14_L_law_L_refused))))))))))))) gp15_L_law_L_refused) gp16_L_law_L_refused) gp17_L_law_L_refused) gp18_L_law_L_refused) gp19_L_law_L_refused) gp20_L_law_L_refused) gp21_L_law_L_refused)
set_option maxRecDepth 20000 in
theorem gL_law_L_refused : GoodIn wsL_law (va_wsS RL 114 yL_refused wsL_refused) := goodIn_app (goodIn_of _ (by decide +kernel)) ggL_law_L_refused
