set_option maxRecDepth 20000 in
theorem ggL_law_L_cell : GoodIn wsL_law wsL_cell := goodIn_r _ [87, 88] (by decide +kernel) (by decide +kernel)
set_option maxRecDepth 20000 in
theorem gL_law_L_cell : GoodIn wsL_law (va_wsS RL 98 yL_cell wsL_cell) := goodIn_app (goodIn_of _ (by decide +kernel)) ggL_law_L_cell
set_option maxRecDepth 20000 in
theorem gp1_L_law_L_whole : GoodIn wsL_law (.code yL_whole cL_whole 4 (some .long) :: wsL_whole_r1) := goodIn_r _ [91, 92, 93, 94, 95, 96, 2, 97, 11, 16, 98, 99, 100, 101, 102, 103, 104, 12, 105, 106, 107, 108, 109, 110, 15] (by decide +kernel) (by decide +kernel)
set_option maxRecDepth 20000 in
theorem gp2_L_law_L_whole : GoodIn wsL_law (wsL_whole_r2) := goodIn_r _ [111, 45, 112, 113, 114, 115, 116, 117, 118, 119, 120, 121, 122, 123, 124, 125, 126, 127, 128, 129, 130, 131, 132, 133] (by decide +kernel) (by decide +kernel)
set_option maxRecDepth 20000 in
theorem gp3_L_law_L_whole : GoodIn wsL_law (wsL_whole_r3) := goodIn_r _ [134, 135, 136, 137, 138, 139, 140, 141, 142, 143, 144, 145, 146, 147, 148, 149] (by decide +kernel) (by decide +kernel)
set_option maxRecDepth 20000 in
theorem gp4_L_law_L_whole : GoodIn wsL_law (wsX60) := goodIn_r _ [402, 403, 404, 405, 406, 407, 408, 409, 410, 411] (by decide +kernel) (by decide +kernel)
set_option maxRecDepth 20000 in
theorem gp5_L_law_L_whole : GoodIn wsL_law (wsX10) := goodIn_r _ [412, 413, 414] (by decide +kernel) (by decide +kernel)
theorem ggL_law_L_whole : GoodIn wsL_law wsL_whole := (goodIn_ca (goodIn_ca (goodIn_ca gp1_L_law_L_whole (goodIn_app gp2_L_law_L_whole gp3_L_law_L_whole)) gp4_L_law_L_whole) gp5_L_law_L_whole)
set_option maxRecDepth 20000 in
theorem gL_law_L_whole : GoodIn wsL_law (va_wsS RL 85 yL_whole wsL_whole) := goodIn_app (goodIn_of _ (by decide +kernel)) ggL_law_L_whole
set_option maxRecDepth 20000 in
theorem ggL_law_X6_back : GoodIn wsL_law wsX6_back := goodIn_r _ [153, 32, 154, 155, 156, 31, 157, 72, 71, 158, 159, 160, 161, 70, 73, 162, 163, 164, 165, 166, 167, 168, 169, 101, 102, 103, 2, 104, 12, 105, 106, 107, 402, 403, 404, 405, 406, 407, 408, 409, 410, 411, 422, 423, 424, 425] (by decide +kernel) (by decide +kernel)
set_option maxRecDepth 20000 in
theorem gL_law_X6_back : GoodIn wsL_law (wsV RL 102 RX6 yX6_back wsX6_back) := goodIn_app (goodIn_of _ (by decide +kernel)) ggL_law_X6_back
set_option maxRecDepth 20000 in
theorem gp1_L_law_L_does : GoodIn wsL_law (.code yL_does cL_does 7 (some .int) :: wsL_does_r1) := goodIn_r _ [172, 173, 174, 86, 175, 176, 177, 178, 179, 2, 180, 181, 182, 183, 184, 32, 28, 185, 186, 187, 31, 188, 73, 70, 71] (by decide +kernel) (by decide +kernel)
set_option maxRecDepth 20000 in
theorem gp2_L_law_L_does : GoodIn wsL_law (wsL_does_r2) := goodIn_r _ [162, 163, 164, 165, 189, 190, 191, 27, 192, 64, 193, 194, 195, 196, 63, 99, 100, 106, 107, 197, 198, 199, 15, 200] (by decide +kernel) (by decide +kernel)
set_option maxRecDepth 20000 in
theorem gp3_L_law_L_does : GoodIn wsL_law (wsL_does_r3) := goodIn_r _ [45, 201, 202, 203, 204, 62, 205, 206, 207, 208, 209, 109, 110, 111, 210, 211, 212, 213, 136, 137, 214, 215, 216, 217] (by decide +kernel) (by decide +kernel)
set_option maxRecDepth 20000 in
theorem gp4_L_law_L_does : GoodIn wsL_law (wsL_does_r4) := goodIn_r _ [218, 219, 23, 220, 55, 221, 222, 223, 224, 56, 57, 225, 226, 227, 228, 229, 230, 231, 232, 120, 233, 234, 235, 236] (by decide +kernel) (by decide +kernel)
set_option maxRecDepth 20000 in
theorem gp5_L_law_L_does : GoodIn wsL_law (wsL_does_r5) := goodIn_r _ [43, 237, 44, 238, 147, 148, 149, 239, 240, 241, 242, 121, 122, 123, 124, 125, 126, 127, 128, 129, 130, 243, 244, 245] (by decide +kernel) (by decide +kernel)
set_option maxRecDepth 20000 in
theorem gp6_L_law_L_does : GoodIn wsL_law (wsL_does_r6) := goodIn_r _ [246, 247, 248, 249, 250, 116, 117, 118, 119, 251, 252, 253, 254, 255, 256, 257, 19, 258, 50, 259, 260, 261, 262, 263] (by decide +kernel) (by decide +kernel)
set_option maxRecDepth 20000 in
theorem gp7_L_law_L_does : GoodIn wsL_law (wsL_does_r7) := goodIn_r _ [264, 265, 266, 267, 268, 269, 270, 271, 272, 273, 274, 275, 276, 277, 278, 279, 280, 281, 282, 283, 284, 285, 286, 101] (by decide +kernel) (by decide +kernel)
set_option maxRecDepth 20000 in
theorem gp8_L_law_L_does : GoodIn wsL_law (wsL_does_r8) := goodIn_r _ [102, 103, 104, 12, 105, 287, 288, 289, 290, 72, 291, 292, 293, 294, 295, 296, 297, 298, 299, 300, 301, 302, 303, 304] (by decide +kernel) (by decide +kernel)
set_option maxRecDepth 20000 in
theorem gp9_L_law_L_does : GoodIn wsL_law (wsL_does_r9) := goodIn_r _ [305, 306, 307, 308, 309, 310, 311, 312, 313, 314, 315, 316, 317, 318, 319, 320, 321, 322, 323, 324, 325, 326, 327] (by decide +kernel) (by decide +kernel)
set_option maxRecDepth 20000 in
theorem gp10_L_law_L_does : GoodIn wsL_law (wsX60) := goodIn_r _ [402, 403, 404, 405, 406, 407, 408, 409, 410, 411] (by decide +kernel) (by decide +kernel)
set_option maxRecDepth 20000 in
theorem gp11_L_law_L_does : GoodIn wsL_law (wsX40) := goodIn_r _ [422, 423, 424, 425] (by decide +kernel) (by decide +kernel)
set_option maxRecDepth 20000 in
theorem gp12_L_law_L_does : GoodIn wsL_law (wsX20) := goodIn_r _ [419, 420, 421] (by decide +kernel) (by decide +kernel)
set_option maxRecDepth 20000 in
theorem gp13_L_law_L_does : GoodIn wsL_law (wsX10) := goodIn_r _ [412, 413, 414] (by decide +kernel) (by decide +kernel)
set_option maxRecDepth 20000 in
theorem gp14_L_law_L_does : GoodIn wsL_law (wsX00) := goodIn_r _ [416, 417, 418] (by decide +kernel) (by decide +kernel)
set_option maxRecDepth 20000 in
theorem gp15_L_law_L_does : GoodIn wsL_law (wsX30) := goodIn_r _ [415] (by decide +kernel) (by decide +kernel)
theorem ggL_law_L_does : GoodIn wsL_law wsL_does := (goodIn_ca (goodIn_ca (goodIn_ca (goodIn_ca (goodIn_ca (goodIn_ca (goodIn_ca gp1_L_law_L_does (goodIn_app gp2_L_law_L_does (goodIn_app gp3_L_law_L_does (goodIn_app gp4_L_law_L_does (goodIn_app gp5_L_law_L_does (goodIn_app gp6_L_law_L_does (goodIn_app gp7_L_law_L_does (goodIn_app gp8_L_law_L_does gp9_L_law_L_does)))))))) gp10_L_law_L_does) gp11_L_law_L_does) gp12_L_law_L_does) gp13_L_law_L_does) gp14_L_law_L_does) gp15_L_law_L_does)
set_option maxRecDepth 20000 in
theorem gL_law_L_does : GoodIn wsL_law (va_wsS RL 106 yL_does wsL_does) := goodIn_app (goodIn_of _ (by decide +kernel)) ggL_law_L_does
