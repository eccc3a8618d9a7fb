set_option maxRecDepth 20000 in
theorem gp1_L_law_X7_reads : GoodIn wsL_law (.code yX7_reads cX7_reads 4 (some .int) :: wsX7_reads_r1) := goodIn_r _ [733, 734, 91, 90, 735, 94, 736, 737, 738, 5, 739, 97, 740, 741, 581, 95, 742, 743, 744, 745, 746, 747, 96, 98, 748] (by decide +kernel) (by decide +kernel)
set_option maxRecDepth 20000 in
theorem gp2_L_law_X7_reads : GoodIn wsL_law (wsX7_reads_r2) := goodIn_r _ [749, 750, 751, 273, 274, 275, 752, 753, 754, 755, 259, 260, 261, 262, 263, 264, 265, 756, 757, 758, 759, 266, 267, 268] (by decide +kernel) (by decide +kernel)
set_option maxRecDepth 20000 in
theorem gp3_L_law_X7_reads : GoodIn wsL_law (wsX7_reads_r3) := goodIn_r _ [269, 270, 271, 272, 276, 277, 278, 279, 280, 281, 282, 283, 284, 285, 286, 287, 305, 306, 307, 308, 309, 310, 311, 320] (by decide +kernel) (by decide +kernel)
set_option maxRecDepth 20000 in
theorem gp4_L_law_X7_reads : GoodIn wsL_law (wsX7_reads_r4) := goodIn_r _ [321, 322, 323, 332, 333, 334, 335, 344, 345, 346, 347, 356, 357, 358, 359, 368, 369, 370, 371, 532, 533, 534, 535, 536] (by decide +kernel) (by decide +kernel)
set_option maxRecDepth 20000 in
theorem gp5_L_law_X7_reads : GoodIn wsL_law (wsX7_reads_r5) := goodIn_r _ [537, 538, 539, 471, 100, 516, 517, 518, 519, 520, 521, 522, 523, 472, 473, 474, 475, 99, 402, 403, 404, 405, 406, 407] (by decide +kernel) (by decide +kernel)
set_option maxRecDepth 20000 in
theorem gp6_L_law_X7_reads : GoodIn wsL_law (wsX7_reads_r6) := goodIn_r _ [408, 540, 541, 542, 543, 454, 455, 456, 457, 458, 459, 460, 503, 504, 505, 506, 485, 486, 487, 488, 489, 490, 491, 492] (by decide +kernel) (by decide +kernel)
set_option maxRecDepth 20000 in
theorem gp7_L_law_X7_reads : GoodIn wsL_law (wsX7_reads_r7) := goodIn_r _ [288, 289, 290, 291, 292, 92, 293, 294, 295, 296, 93] (by decide +kernel) (by decide +kernel)
set_option maxRecDepth 20000 in
theorem gp8_L_law_X7_reads : GoodIn wsL_law (wsX70) := goodIn_r _ [828, 829, 830, 831, 832, 833, 834, 835, 836, 837, 838, 839, 840, 841, 842, 843, 844, 845, 846, 847, 848] (by decide +kernel) (by decide +kernel)
theorem ggL_law_X7_reads : GoodIn wsL_law wsX7_reads := (goodIn_ca (goodIn_ca gp1_L_law_X7_reads (goodIn_app gp2_L_law_X7_reads (goodIn_app gp3_L_law_X7_reads (goodIn_app gp4_L_law_X7_reads (goodIn_app gp5_L_law_X7_reads (goodIn_app gp6_L_law_X7_reads gp7_L_law_X7_reads)))))) gp8_L_law_X7_reads)
set_option maxRecDepth 20000 in
theorem gL_law_X7_reads : GoodIn wsL_law (wsV RL 104 RX7 yX7_reads wsX7_reads) := goodIn_app (goodIn_of _ (by decide +kernel)) ggL_law_X7_reads
