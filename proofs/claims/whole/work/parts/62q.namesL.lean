set_option maxRecDepth 20000 in
theorem ggL_law_X7_clear : GoodIn wsL_law wsX7_clear := goodIn_r _ [590, 578, 825, 826, 827, 828, 829, 830, 831, 832, 833, 834, 835, 836, 837, 838, 839, 840, 841, 842, 843, 844, 845] (by decide +kernel) (by decide +kernel)
set_option maxRecDepth 20000 in
theorem gL_law_X7_clear : GoodIn wsL_law (wsV RL 100 RX7 yX7_clear wsX7_clear) := goodIn_app (goodIn_of _ (by decide +kernel)) ggL_law_X7_clear
set_option maxRecDepth 20000 in
theorem gp1_L_law_X6_reads : GoodIn wsL_law (.code yX6_reads cX6_reads 4 (some .int) :: wsX6_reads_r1) := goodIn_r _ [594, 38, 34, 30, 39, 40, 595, 596, 597, 37, 598, 84, 85, 83, 599, 600, 601, 602, 603, 604, 605, 606, 79, 607, 608] (by decide +kernel) (by decide +kernel)
set_option maxRecDepth 20000 in
theorem gp2_L_law_X6_reads : GoodIn wsL_law (wsX6_reads_r2) := goodIn_r _ [609, 610, 611, 612, 613, 614, 615, 616, 617, 618, 619, 620, 621, 622, 623, 624, 625, 626, 627, 628, 629, 630, 631, 632] (by decide +kernel) (by decide +kernel)
set_option maxRecDepth 20000 in
theorem gp3_L_law_X6_reads : GoodIn wsL_law (wsX6_reads_r3) := goodIn_r _ [633, 634, 635, 636, 637, 638, 639, 159, 160, 161, 640, 215, 216, 641, 642, 643, 644, 645, 646, 647, 648, 649, 650, 651] (by decide +kernel) (by decide +kernel)
set_option maxRecDepth 20000 in
theorem gp4_L_law_X6_reads : GoodIn wsL_law (wsX6_reads_r4) := goodIn_r _ [652, 653, 654, 655, 656, 657, 658, 659, 660, 661, 662, 663, 664, 665, 666, 667, 668, 669, 670, 671, 672, 673, 674, 675] (by decide +kernel) (by decide +kernel)
set_option maxRecDepth 20000 in
theorem gp5_L_law_X6_reads : GoodIn wsL_law (wsX6_reads_r5) := goodIn_r _ [676, 677, 678, 679, 680, 681, 682, 683, 684, 685, 686, 687, 688, 689, 690, 691, 692, 693, 694, 695, 696, 697, 698, 699] (by decide +kernel) (by decide +kernel)
set_option maxRecDepth 20000 in
theorem gp6_L_law_X6_reads : GoodIn wsL_law (wsX6_reads_r6) := goodIn_r _ [700, 701, 702, 703, 704, 705, 706, 80, 81, 82, 109, 110, 111, 33, 112, 75, 72, 73, 113, 114, 115, 116, 707, 708] (by decide +kernel) (by decide +kernel)
set_option maxRecDepth 20000 in
theorem gp7_L_law_X6_reads : GoodIn wsL_law (wsX6_reads_r7) := goodIn_r _ [709, 710, 711, 712, 713, 714, 715, 716, 717, 718, 719, 720, 721, 722, 117, 118, 119, 29, 120, 66, 121, 122, 123, 124] (by decide +kernel) (by decide +kernel)
set_option maxRecDepth 20000 in
theorem gp8_L_law_X6_reads : GoodIn wsL_law (wsX6_reads_r8) := goodIn_r _ [65, 125, 2, 126, 127, 128, 129, 130, 131, 17, 132, 47, 133, 134, 135, 136, 64, 137, 138, 139, 140, 141, 142, 143] (by decide +kernel) (by decide +kernel)
set_option maxRecDepth 20000 in
theorem gp9_L_law_X6_reads : GoodIn wsL_law (wsX6_reads_r9) := goodIn_r _ [144, 145, 146, 147, 148, 149, 150, 151, 152, 153, 154, 155, 156, 25, 157, 57, 158, 58, 59, 162, 163, 164, 165, 166] (by decide +kernel) (by decide +kernel)
set_option maxRecDepth 20000 in
theorem gp10_L_law_X6_reads : GoodIn wsL_law (wsX6_reads_r10) := goodIn_r _ [167, 168, 169, 170, 171, 172, 173, 174, 45, 175, 46, 176, 177, 178, 179, 180, 181, 182, 183, 184, 185, 186, 187, 188] (by decide +kernel) (by decide +kernel)
set_option maxRecDepth 20000 in
theorem gp11_L_law_X6_reads : GoodIn wsL_law (wsX6_reads_r11) := goodIn_r _ [189, 190, 191, 192, 193, 194, 195, 196, 197, 198, 199, 200, 201, 202, 203, 204, 205, 206, 207, 208, 209, 210, 211, 212] (by decide +kernel) (by decide +kernel)
set_option maxRecDepth 20000 in
theorem gp12_L_law_X6_reads : GoodIn wsL_law (wsX6_reads_r12) := goodIn_r _ [21, 213, 52, 214, 217, 218, 219, 220, 221, 222, 223, 224, 225, 226, 227, 228, 229, 230, 231, 232, 233, 234, 235, 236] (by decide +kernel) (by decide +kernel)
set_option maxRecDepth 20000 in
theorem gp13_L_law_X6_reads : GoodIn wsL_law (wsX6_reads_r13) := goodIn_r _ [237, 238, 239, 240, 241, 723, 724, 725, 726, 247, 248, 249, 250, 74, 251] (by decide +kernel) (by decide +kernel)
set_option maxRecDepth 20000 in
theorem gp14_L_law_X6_reads : GoodIn wsL_law (wsX60) := goodIn_r _ [815, 816, 817, 818, 819, 820, 821, 822, 823, 824] (by decide +kernel) (by decide +kernel)
set_option maxRecDepth 20000 in
theorem gp15_L_law_X6_reads : GoodIn wsL_law (wsX50) := goodIn_r _ [860, 861, 862, 863, 864, 865, 866] (by decide +kernel) (by decide +kernel)
set_option maxRecDepth 20000 in
theorem gp16_L_law_X6_reads : GoodIn wsL_law (wsX40) := goodIn_r _ [856, 857, 858, 859] (by decide +kernel) (by decide +kernel)
set_option maxRecDepth 20000 in
theorem gp17_L_law_X6_reads : GoodIn wsL_law (wsX20) := goodIn_r _ [853, 854, 855] (by decide +kernel) (by decide +kernel)
set_option maxRecDepth 20000 in
theorem gp18_L_law_X6_reads : GoodIn wsL_law (wsX10) := goodIn_r _ [846, 847, 848] (by decide +kernel) (by decide +kernel)
set_option maxRecDepth 20000 in
theorem gp19_L_law_X6_reads : GoodIn wsL_law (wsX00) := goodIn_r _ [850, 851, 852] (by decide +kernel) (by decide +kernel)
set_option maxRecDepth 20000 in
theorem gp20_L_law_X6_reads : GoodIn wsL_law (wsX30) := goodIn_r _ [849] (by decide +kernel) (by decide +kernel)
theorem ggL_law_X6_reads : GoodIn wsL_law wsX6_reads := (goodIn_ca (goodIn_ca (goodIn_ca (goodIn_ca (goodIn_ca (goodIn_ca (goodIn_ca (goodIn_ca gp1_L_law_X6_reads (goodIn_app gp2_L_law_X6_reads (goodIn_app gp3_L_law_X6_reads (goodIn_app gp4_L_law_X6_reads (goodIn_app gp5_L_law_X6_reads (goodIn_app gp6_L_law_X6_reads (goodIn_app gp7_L_law_X6_reads (goodIn_app gp8_L_law_X6_reads (goodIn_app gp9_L_law_X6_reads (goodIn_app gp10_L_law_X6_reads (goodIn_app gp11_L_law_X6_reads (goodIn_app gp12_L_law_X6_reads gp13_L_law_X6_reads)))))))))))) gp14_L_law_X6_reads) gp15_L_law_X6_reads) gp16_L_law_X6_reads) gp17_L_law_X6_reads) gp18_L_law_X6_reads) gp19_L_law_X6_reads) gp20_L_law_X6_reads)
set_option maxRecDepth 20000 in
theorem gL_law_X6_reads : GoodIn wsL_law (wsV RL 101 RX6 yX6_reads wsX6_reads) := goodIn_app (goodIn_of _ (by decide +kernel)) ggL_law_X6_reads
