set_option maxRecDepth 20000 in
theorem gp1_L_law_X6_init : GoodIn wsL_law (.code yX6_init cX6_init 2 none :: wsX6_init_r1) := goodIn_r _ [8, 9, 10, 11, 12, 13, 14, 15, 16, 17, 18, 19, 20, 21, 22, 23, 24, 25, 26, 27, 28, 29, 30, 31, 32] (by decide +kernel) (by decide +kernel)
set_option maxRecDepth 20000 in
theorem gp2_L_law_X6_init : GoodIn wsL_law (wsX6_init_r2) := goodIn_r _ [33, 34, 35, 36, 37, 38, 39, 40, 41, 42, 43, 44, 45, 46, 47, 48, 49, 50, 51, 52, 53, 54, 55, 56] (by decide +kernel) (by decide +kernel)
set_option maxRecDepth 20000 in
theorem gp3_L_law_X6_init : GoodIn wsL_law (wsX6_init_r3) := goodIn_r _ [57, 58, 59, 60, 61, 62, 63, 64, 65, 66, 67, 68, 69, 70, 71, 72, 73, 74, 75, 76, 77, 78, 79, 80] (by decide +kernel) (by decide +kernel)
set_option maxRecDepth 20000 in
theorem gp4_L_law_X6_init : GoodIn wsL_law (wsX6_init_r4) := goodIn_r _ [81, 82, 83, 84, 85] (by decide +kernel) (by decide +kernel)
set_option maxRecDepth 20000 in
theorem gp5_L_law_X6_init : GoodIn wsL_law (wsX60) := goodIn_r _ [815, 816, 817, 818, 819, 820, 821, 822, 823, 824] (by decide +kernel) (by decide +kernel)
set_option maxRecDepth 20000 in
theorem gp6_L_law_X6_init : GoodIn wsL_law (wsX10) := goodIn_r _ [846, 847, 848] (by decide +kernel) (by decide +kernel)
set_option maxRecDepth 20000 in
theorem gp7_L_law_X6_init : GoodIn wsL_law (wsX30) := goodIn_r _ [849] (by decide +kernel) (by decide +kernel)
set_option maxRecDepth 20000 in
theorem gp8_L_law_X6_init : GoodIn wsL_law (wsX00) := goodIn_r _ [850, 851, 852] (by decide +kernel) (by decide +kernel)
set_option maxRecDepth 20000 in
theorem gp9_L_law_X6_init : GoodIn wsL_law (wsX20) := goodIn_r _ [853, 854, 855] (by decide +kernel) (by decide +kernel)
set_option maxRecDepth 20000 in
theorem gp10_L_law_X6_init : GoodIn wsL_law (wsX40) := goodIn_r _ [856, 857, 858, 859] (by decide +kernel) (by decide +kernel)
set_option maxRecDepth 20000 in
theorem gp11_L_law_X6_init : GoodIn wsL_law (wsX50) := goodIn_r _ [860, 861, 862, 863, 864, 865, 866] (by decide +kernel) (by decide +kernel)
theorem ggL_law_X6_init : GoodIn wsL_law wsX6_init := (goodIn_ca (goodIn_ca (goodIn_ca (goodIn_ca (goodIn_ca (goodIn_ca (goodIn_ca (goodIn_ca gp1_L_law_X6_init (goodIn_app gp2_L_law_X6_init (goodIn_app gp3_L_law_X6_init gp4_L_law_X6_init))) gp5_L_law_X6_init) gp6_L_law_X6_init) gp7_L_law_X6_init) gp8_L_law_X6_init) gp9_L_law_X6_init) gp10_L_law_X6_init) gp11_L_law_X6_init)
set_option maxRecDepth 20000 in
theorem gL_law_X6_init : GoodIn wsL_law (wsX6_init) := ggL_law_X6_init
