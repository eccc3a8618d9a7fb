set_option maxRecDepth 20000 in
theorem ggL_law_X7_why : GoodIn wsL_law wsX7_why := goodIn_r _ [764, 270, 271, 5, 272, 765, 766, 767, 768, 732, 94, 290, 291, 292, 293, 93, 825, 826, 827, 828, 829, 830, 831, 832, 833, 834, 835, 836, 837, 838, 839, 840, 841, 842, 843, 844, 845] (by decide +kernel) (by decide +kernel)
set_option maxRecDepth 20000 in
theorem gL_law_X7_why : GoodIn wsL_law (wsV RL 108 RX7 yX7_why wsX7_why) := goodIn_app (goodIn_of _ (by decide +kernel)) ggL_law_X7_why
set_option maxRecDepth 20000 in
theorem ggL_law_X6_back : GoodIn wsL_law wsX6_back := goodIn_r _ [772, 34, 773, 774, 775, 33, 776, 74, 73, 777, 724, 725, 726, 72, 75, 113, 114, 115, 116, 778, 779, 780, 781, 242, 243, 244, 2, 245, 14, 246, 127, 128, 815, 816, 817, 818, 819, 820, 821, 822, 823, 824, 856, 857, 858, 859] (by decide +kernel) (by decide +kernel)
set_option maxRecDepth 20000 in
theorem gL_law_X6_back : GoodIn wsL_law (wsV RL 109 RX6 yX6_back wsX6_back) := goodIn_app (goodIn_of _ (by decide +kernel)) ggL_law_X6_back
set_option maxRecDepth 20000 in
theorem ggL_law_X7_back : GoodIn wsL_law wsX7_back := goodIn_r _ [785, 289, 92, 90, 290, 291, 292, 5, 293, 93, 260, 261, 262, 825, 826, 827, 828, 829, 830, 831, 832, 833, 834, 835, 836, 837, 838, 839, 840, 841, 842, 843, 844, 845] (by decide +kernel) (by decide +kernel)
set_option maxRecDepth 20000 in
theorem gL_law_X7_back : GoodIn wsL_law (wsV RL 112 RX7 yX7_back wsX7_back) := goodIn_app (goodIn_of _ (by decide +kernel)) ggL_law_X7_back
set_option maxRecDepth 20000 in
theorem ggL_law_X6_told : GoodIn wsL_law wsX6_told := goodIn_r _ [789, 14, 38, 34, 570, 571, 572, 37, 573, 83, 778, 779, 780, 33, 781, 74, 242, 243, 244, 2, 245, 246, 127, 128, 815, 816, 817, 818, 819, 820, 821, 822, 823, 824, 860, 861, 862, 863, 864, 865, 866, 856, 857, 858, 859] (by decide +kernel) (by decide +kernel)
set_option maxRecDepth 20000 in
theorem gL_law_X6_told : GoodIn wsL_law (wsV RL 113 RX6 yX6_told wsX6_told) := goodIn_app (goodIn_of _ (by decide +kernel)) ggL_law_X6_told
set_option maxRecDepth 20000 in
theorem ggL_law_X7_told : GoodIn wsL_law wsX7_told := goodIn_r _ [793, 270, 271, 5, 272, 794, 795, 796, 797, 93, 578, 289, 290, 291, 292, 293, 825, 826, 827, 828, 829, 830, 831, 832, 833, 834, 835, 836, 837, 838, 839, 840, 841, 842, 843, 844, 845] (by decide +kernel) (by decide +kernel)
set_option maxRecDepth 20000 in
theorem gL_law_X7_told : GoodIn wsL_law (wsV RL 116 RX7 yX7_told wsX7_told) := goodIn_app (goodIn_of _ (by decide +kernel)) ggL_law_X7_told
set_option maxRecDepth 20000 in
theorem gp1_L_law_X6_digest : GoodIn wsL_law (.code yX6_digest cX6_digest 5 (some .long) :: wsX6_digest_r1) := goodIn_r _ [801, 802, 803, 804, 787, 788, 2, 789, 14, 38, 34, 570, 571, 572, 37, 573, 83, 778, 779, 780, 33, 781, 74, 242, 243] (by decide +kernel) (by decide +kernel)
set_option maxRecDepth 20000 in
theorem gp2_L_law_X6_digest : GoodIn wsL_law (wsX6_digest_r2) := goodIn_r _ [244, 245, 246, 127, 128, 805, 758, 759, 760, 39, 40, 806, 378, 379, 380, 13, 18, 381, 125, 126, 382, 142, 143, 17] (by decide +kernel) (by decide +kernel)
set_option maxRecDepth 20000 in
theorem gp3_L_law_X6_digest : GoodIn wsL_law (wsX6_digest_r3) := goodIn_r _ [144, 47, 383, 384, 385, 386, 202, 203, 204, 205, 170, 184, 185, 186, 187, 188, 189, 190, 191, 192, 193, 807, 407, 408] (by decide +kernel) (by decide +kernel)
set_option maxRecDepth 20000 in
theorem gp4_L_law_X6_digest : GoodIn wsL_law (wsX6_digest_r4) := goodIn_r _ [409, 410, 149, 150, 411, 412, 413, 414, 808, 550, 551, 552, 553, 177, 178, 179] (by decide +kernel) (by decide +kernel)
set_option maxRecDepth 20000 in
theorem gp5_L_law_X6_digest : GoodIn wsL_law (wsX60) := goodIn_r _ [815, 816, 817, 818, 819, 820, 821, 822, 823, 824] (by decide +kernel) (by decide +kernel)
set_option maxRecDepth 20000 in
theorem gp6_L_law_X6_digest : GoodIn wsL_law (wsX50) := goodIn_r _ [860, 861, 862, 863, 864, 865, 866] (by decide +kernel) (by decide +kernel)
set_option maxRecDepth 20000 in
theorem gp7_L_law_X6_digest : GoodIn wsL_law (wsX40) := goodIn_r _ [856, 857, 858, 859] (by decide +kernel) (by decide +kernel)
set_option maxRecDepth 20000 in
theorem gp8_L_law_X6_digest : GoodIn wsL_law (wsX10) := goodIn_r _ [846, 847, 848] (by decide +kernel) (by decide +kernel)
theorem ggL_law_X6_digest : GoodIn wsL_law wsX6_digest := (goodIn_ca (goodIn_ca (goodIn_ca (goodIn_ca (goodIn_ca gp1_L_law_X6_digest (goodIn_app gp2_L_law_X6_digest (goodIn_app gp3_L_law_X6_digest gp4_L_law_X6_digest))) gp5_L_law_X6_digest) gp6_L_law_X6_digest) gp7_L_law_X6_digest) gp8_L_law_X6_digest)
set_option maxRecDepth 20000 in
theorem gL_law_X6_digest : GoodIn wsL_law (wsV RL 117 RX6 yX6_digest wsX6_digest) := goodIn_app (goodIn_of _ (by decide +kernel)) ggL_law_X6_digest
