set_option maxRecDepth 20000 in
theorem gp1_L_law_X6_digest : GoodIn wsL_law (.code yX6_digest cX6_digest 5 (some .long) :: wsX6_digest_r1) := goodIn_r _ [804, 805, 806, 807, 790, 791, 2, 792, 14, 38, 34, 573, 574, 575, 37, 576, 83, 781, 782, 783, 33, 784, 74, 245, 246] (by decide +kernel) (by decide +kernel)
set_option maxRecDepth 20000 in
theorem gp2_L_law_X6_digest : GoodIn wsL_law (wsX6_digest_r2) := goodIn_r _ [247, 248, 249, 127, 128, 808, 761, 762, 763, 39, 40, 809, 381, 382, 383, 13, 18, 384, 125, 126, 385, 142, 143, 17] (by decide +kernel) (by decide +kernel)
set_option maxRecDepth 20000 in
theorem gp3_L_law_X6_digest : GoodIn wsL_law (wsX6_digest_r3) := goodIn_r _ [144, 47, 386, 387, 388, 389, 205, 206, 207, 208, 166, 187, 188, 189, 190, 191, 192, 193, 194, 195, 196, 810, 410, 411] (by decide +kernel) (by decide +kernel)
set_option maxRecDepth 20000 in
theorem gp4_L_law_X6_digest : GoodIn wsL_law (wsX6_digest_r4) := goodIn_r _ [412, 413, 149, 150, 414, 415, 416, 417, 811, 553, 554, 555, 556, 180, 181, 182] (by decide +kernel) (by decide +kernel)
set_option maxRecDepth 20000 in
theorem gp5_L_law_X6_digest : GoodIn wsL_law (wsX60) := goodIn_r _ [818, 819, 820, 821, 822, 823, 824, 825, 826, 827] (by decide +kernel) (by decide +kernel)
set_option maxRecDepth 20000 in
theorem gp6_L_law_X6_digest : GoodIn wsL_law (wsX50) := goodIn_r _ [863, 864, 865, 866, 867, 868, 869] (by decide +kernel) (by decide +kernel)
set_option maxRecDepth 20000 in
theorem gp7_L_law_X6_digest : GoodIn wsL_law (wsX40) := goodIn_r _ [859, 860, 861, 862] (by decide +kernel) (by decide +kernel)
set_option maxRecDepth 20000 in
theorem gp8_L_law_X6_digest : GoodIn wsL_law (wsX10) := goodIn_r _ [849, 850, 851] (by decide +kernel) (by decide +kernel)
theorem ggL_law_X6_digest : GoodIn wsL_law wsX6_digest := (goodIn_ca (goodIn_ca (goodIn_ca (goodIn_ca (goodIn_ca gp1_L_law_X6_digest (goodIn_app gp2_L_law_X6_digest (goodIn_app gp3_L_law_X6_digest gp4_L_law_X6_digest))) gp5_L_law_X6_digest) gp6_L_law_X6_digest) gp7_L_law_X6_digest) gp8_L_law_X6_digest)
set_option maxRecDepth 20000 in
theorem gL_law_X6_digest : GoodIn wsL_law (wsV RL 117 RX6 yX6_digest wsX6_digest) := goodIn_app (goodIn_of _ (by decide +kernel)) ggL_law_X6_digest
set_option maxRecDepth 20000 in
theorem gp1_L_law_X7_digest : GoodIn wsL_law (.code yX7_digest cX7_digest 5 (some .long) :: wsX7_digest_r1) := goodIn_r _ [815, 816, 817, 797, 798, 799, 5, 800, 93, 581, 292, 768, 769, 770, 771, 735, 94, 394, 395, 396, 397, 90, 284, 285, 286] (by decide +kernel) (by decide +kernel)
set_option maxRecDepth 20000 in
theorem gp2_L_law_X7_digest : GoodIn wsL_law (wsX7_digest_r2) := goodIn_r _ [287, 398, 399, 400, 401, 402, 403, 404, 405, 406, 407, 408, 422, 423, 424, 425, 561, 562, 563, 564] (by decide +kernel) (by decide +kernel)
set_option maxRecDepth 20000 in
theorem gp3_L_law_X7_digest : GoodIn wsL_law (wsX70) := goodIn_r _ [828, 829, 830, 831, 832, 833, 834, 835, 836, 837, 838, 839, 840, 841, 842, 843, 844, 845, 846, 847, 848] (by decide +kernel) (by decide +kernel)
theorem ggL_law_X7_digest : GoodIn wsL_law wsX7_digest := (goodIn_ca (goodIn_ca gp1_L_law_X7_digest gp2_L_law_X7_digest) gp3_L_law_X7_digest)
set_option maxRecDepth 20000 in
theorem gL_law_X7_digest : GoodIn wsL_law (wsV RL 121 RX7 yX7_digest wsX7_digest) := goodIn_app (goodIn_of _ (by decide +kernel)) ggL_law_X7_digest
