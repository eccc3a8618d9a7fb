set_option maxRecDepth 20000 in
theorem gp1_L_law_X7_reads : GoodIn wsL_law (.code yX7_reads cX7_reads 4 (some .int) :: wsX7_reads_r1) := goodIn_r _ [730, 731, 91, 90, 732, 94, 733, 734, 735, 5, 736, 97, 737, 738, 578, 95, 739, 740, 741, 742, 743, 744, 96, 98, 745] (by decide +kernel) (by decide +kernel)
set_option maxRecDepth 20000 in
theorem gp2_L_law_X7_reads : GoodIn wsL_law (wsX7_reads_r2) := goodIn_r _ [746, 747, 748, 270, 271, 272, 749, 750, 751, 752, 256, 257, 258, 259, 260, 261, 262, 753, 754, 755, 756, 263, 264, 265] (by decide +kernel) (by decide +kernel)
set_option maxRecDepth 20000 in
theorem gp3_L_law_X7_reads : GoodIn wsL_law (wsX7_reads_r3) := goodIn_r _ [266, 267, 268, 269, 273, 274, 275, 276, 277, 278, 279, 280, 281, 282, 283, 284, 302, 303, 304, 305, 306, 307, 308, 317] (by decide +kernel) (by decide +kernel)
set_option maxRecDepth 20000 in
theorem gp4_L_law_X7_reads : GoodIn wsL_law (wsX7_reads_r4) := goodIn_r _ [318, 319, 320, 329, 330, 331, 332, 341, 342, 343, 344, 353, 354, 355, 356, 365, 366, 367, 368, 529, 530, 531, 532, 533] (by decide +kernel) (by decide +kernel)
set_option maxRecDepth 20000 in
theorem gp5_L_law_X7_reads : GoodIn wsL_law (wsX7_reads_r5) := goodIn_r _ [534, 535, 536, 468, 100, 513, 514, 515, 516, 517, 518, 519, 520, 469, 470, 471, 472, 99, 399, 400, 401, 402, 403, 404] (by decide +kernel) (by decide +kernel)
set_option maxRecDepth 20000 in
theorem gp6_L_law_X7_reads : GoodIn wsL_law (wsX7_reads_r6) := goodIn_r _ [405, 537, 538, 539, 540, 451, 452, 453, 454, 455, 456, 457, 500, 501, 502, 503, 482, 483, 484, 485, 486, 487, 488, 489] (by decide +kernel) (by decide +kernel)
set_option maxRecDepth 20000 in
theorem gp7_L_law_X7_reads : GoodIn wsL_law (wsX7_reads_r7) := goodIn_r _ [285, 286, 287, 288, 289, 92, 290, 291, 292, 293, 93] (by decide +kernel) (by decide +kernel)
set_option maxRecDepth 20000 in
theorem gp8_L_law_X7_reads : GoodIn wsL_law (wsX70) := goodIn_r _ [825, 826, 827, 828, 829, 830, 831, 832, 833, 834, 835, 836, 837, 838, 839, 840, 841, 842, 843, 844, 845] (by decide +kernel) (by decide +kernel)
theorem ggL_law_X7_reads : GoodIn wsL_law wsX7_reads := (goodIn_ca (goodIn_ca gp1_L_law_X7_reads (goodIn_app gp2_L_law_X7_reads (goodIn_app gp3_L_law_X7_reads (goodIn_app gp4_L_law_X7_reads (goodIn_app gp5_L_law_X7_reads (goodIn_app gp6_L_law_X7_reads gp7_L_law_X7_reads)))))) gp8_L_law_X7_reads)
set_option maxRecDepth 20000 in
theorem gL_law_X7_reads : GoodIn wsL_law (wsV RL 104 RX7 yX7_reads wsX7_reads) := goodIn_app (goodIn_of _ (by decide +kernel)) ggL_law_X7_reads
set_option maxRecDepth 20000 in
theorem ggL_law_X6_why : GoodIn wsL_law wsX6_why := goodIn_r _ [760, 39, 40, 246, 127, 2, 128, 242, 243, 244, 245, 14, 815, 816, 817, 818, 819, 820, 821, 822, 823, 824] (by decide +kernel) (by decide +kernel)
set_option maxRecDepth 20000 in
theorem gL_law_X6_why : GoodIn wsL_law (wsV RL 105 RX6 yX6_why wsX6_why) := goodIn_app (goodIn_of _ (by decide +kernel)) ggL_law_X6_why
