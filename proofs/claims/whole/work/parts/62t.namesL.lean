set_option maxRecDepth 20000 in
theorem gp1_L_law_X7_digest : GoodIn wsL_law (.code yX7_digest cX7_digest 5 (some .long) :: wsX7_digest_r1) := goodIn_r _ [812, 813, 814, 794, 795, 796, 5, 797, 93, 578, 289, 765, 766, 767, 768, 732, 94, 391, 392, 393, 394, 90, 281, 282, 283] (by decide +kernel) (by decide +kernel)
set_option maxRecDepth 20000 in
theorem gp2_L_law_X7_digest : GoodIn wsL_law (wsX7_digest_r2) := goodIn_r _ [284, 395, 396, 397, 398, 399, 400, 401, 402, 403, 404, 405, 419, 420, 421, 422, 558, 559, 560, 561] (by decide +kernel) (by decide +kernel)
set_option maxRecDepth 20000 in
theorem gp3_L_law_X7_digest : GoodIn wsL_law (wsX70) := goodIn_r _ [825, 826, 827, 828, 829, 830, 831, 832, 833, 834, 835, 836, 837, 838, 839, 840, 841, 842, 843, 844, 845] (by decide +kernel) (by decide +kernel)
theorem ggL_law_X7_digest : GoodIn wsL_law wsX7_digest := (goodIn_ca (goodIn_ca gp1_L_law_X7_digest gp2_L_law_X7_digest) gp3_L_law_X7_digest)
set_option maxRecDepth 20000 in
theorem gL_law_X7_digest : GoodIn wsL_law (wsV RL 121 RX7 yX7_digest wsX7_digest) := goodIn_app (goodIn_of _ (by decide +kernel)) ggL_law_X7_digest
