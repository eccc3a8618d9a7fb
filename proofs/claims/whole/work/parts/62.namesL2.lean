set_option maxRecDepth 20000 in
theorem ggL_law_X7_clutch : GoodIn wsL_law wsX7_clutch := goodIn_r _ [421, 309, 310, 5, 311, 273, 274, 275, 422, 423, 424, 425, 90, 293, 294, 295, 296, 93, 828, 829, 830, 831, 832, 833, 834, 835, 836, 837, 838, 839, 840, 841, 842, 843, 844, 845, 846, 847, 848] (by decide +kernel) (by decide +kernel)
set_option maxRecDepth 20000 in
theorem gL_law_X7_clutch : GoodIn wsL_law (wsV RL 54 RX7 yX7_clutch wsX7_clutch) := goodIn_app (goodIn_of _ (by decide +kernel)) ggL_law_X7_clutch
set_option maxRecDepth 20000 in
theorem ggL_law_X6_ties : GoodIn wsL_law wsX6_ties := goodIn_r _ [429, 18, 249, 127, 2, 128, 245, 246, 247, 248, 14, 430, 431, 432, 17, 433, 47, 818, 819, 820, 821, 822, 823, 824, 825, 826, 827, 849, 850, 851] (by decide +kernel) (by decide +kernel)
set_option maxRecDepth 20000 in
theorem gL_law_X6_ties : GoodIn wsL_law (wsV RL 55 RX6 yX6_ties wsX6_ties) := goodIn_app (goodIn_of _ (by decide +kernel)) ggL_law_X6_ties
set_option maxRecDepth 20000 in
theorem ggL_law_X7_ties : GoodIn wsL_law wsX7_ties := goodIn_r _ [437, 90, 273, 274, 5, 275, 293, 294, 295, 296, 93, 828, 829, 830, 831, 832, 833, 834, 835, 836, 837, 838, 839, 840, 841, 842, 843, 844, 845, 846, 847, 848] (by decide +kernel) (by decide +kernel)
set_option maxRecDepth 20000 in
theorem gL_law_X7_ties : GoodIn wsL_law (wsV RL 58 RX7 yX7_ties wsX7_ties) := goodIn_app (goodIn_of _ (by decide +kernel)) ggL_law_X7_ties
set_option maxRecDepth 20000 in
theorem ggL_law_X6_simple : GoodIn wsL_law wsX6_simple := goodIn_r _ [441, 18, 442, 443, 2, 444, 384, 125, 126, 245, 246, 247, 248, 14, 249, 127, 128, 445, 206, 207, 17, 208, 47, 166, 142, 143, 144, 187, 188, 189, 190, 191, 192, 193, 194, 195, 196, 446, 202, 203, 204, 205, 209, 210, 211, 212, 818, 819, 820, 821, 822, 823, 824, 825, 826, 827, 849, 850, 851] (by decide +kernel) (by decide +kernel)
set_option maxRecDepth 20000 in
theorem gL_law_X6_simple : GoodIn wsL_law (wsV RL 59 RX6 yX6_simple wsX6_simple) := goodIn_app (goodIn_of _ (by decide +kernel)) ggL_law_X6_simple
set_option maxRecDepth 20000 in
theorem ggL_law_X7_simple : GoodIn wsL_law wsX7_simple := goodIn_r _ [450, 451, 452, 5, 453, 270, 271, 272, 273, 274, 275, 293, 294, 295, 296, 93, 402, 403, 404, 405, 90, 284, 285, 286, 287, 406, 407, 408, 454, 455, 456, 457, 458, 459, 460, 828, 829, 830, 831, 832, 833, 834, 835, 836, 837, 838, 839, 840, 841, 842, 843, 844, 845, 846, 847, 848] (by decide +kernel) (by decide +kernel)
set_option maxRecDepth 20000 in
theorem gL_law_X7_simple : GoodIn wsL_law (wsV RL 63 RX7 yX7_simple wsX7_simple) := goodIn_app (goodIn_of _ (by decide +kernel)) ggL_law_X7_simple
set_option maxRecDepth 20000 in
theorem ggL_law_X6_way : GoodIn wsL_law wsX6_way := goodIn_r _ [464, 18, 442, 443, 2, 444, 384, 125, 126, 245, 246, 247, 248, 14, 249, 127, 128, 385, 142, 143, 17, 144, 47, 465, 172, 173, 174, 45, 175, 176, 177, 178, 46, 179, 180, 181, 182, 166, 183, 184, 185, 186, 187, 188, 189, 190, 191, 192, 193, 194, 195, 196, 466, 198, 199, 200, 818, 819, 820, 821, 822, 823, 824, 825, 826, 827, 849, 850, 851] (by decide +kernel) (by decide +kernel)
set_option maxRecDepth 20000 in
theorem gL_law_X6_way : GoodIn wsL_law (wsV RL 64 RX6 yX6_way wsX6_way) := goodIn_app (goodIn_of _ (by decide +kernel)) ggL_law_X6_way
set_option maxRecDepth 20000 in
theorem ggL_law_X7_way : GoodIn wsL_law wsX7_way := goodIn_r _ [470, 471, 100, 451, 452, 5, 453, 270, 271, 272, 273, 274, 275, 293, 294, 295, 296, 93, 284, 285, 286, 287, 90, 472, 473, 474, 475, 99, 402, 403, 404, 405, 406, 407, 408, 828, 829, 830, 831, 832, 833, 834, 835, 836, 837, 838, 839, 840, 841, 842, 843, 844, 845, 846, 847, 848] (by decide +kernel) (by decide +kernel)
set_option maxRecDepth 20000 in
theorem gL_law_X7_way : GoodIn wsL_law (wsV RL 67 RX7 yX7_way wsX7_way) := goodIn_app (goodIn_of _ (by decide +kernel)) ggL_law_X7_way
set_option maxRecDepth 20000 in
theorem ggL_law_X6_over : GoodIn wsL_law wsX6_over := goodIn_r _ [479, 18, 22, 442, 443, 2, 444, 384, 125, 126, 249, 127, 128, 245, 246, 247, 248, 14, 446, 202, 203, 17, 204, 47, 205, 206, 207, 208, 166, 142, 143, 144, 187, 188, 189, 190, 191, 192, 193, 194, 195, 196, 209, 210, 211, 212, 413, 149, 150, 480, 226, 227, 21, 228, 52, 220, 176, 177, 178, 217, 218, 219, 818, 819, 820, 821, 822, 823, 824, 825, 826, 827, 849, 850, 851, 852] (by decide +kernel) (by decide +kernel)
set_option maxRecDepth 20000 in
theorem gL_law_X6_over : GoodIn wsL_law (wsV RL 68 RX6 yX6_over wsX6_over) := goodIn_app (goodIn_of _ (by decide +kernel)) ggL_law_X6_over
set_option maxRecDepth 20000 in
theorem ggL_law_X7_over : GoodIn wsL_law wsX7_over := goodIn_r _ [484, 451, 452, 5, 453, 270, 271, 272, 273, 274, 275, 293, 294, 295, 296, 93, 402, 403, 404, 405, 90, 284, 285, 286, 287, 406, 407, 408, 454, 455, 456, 457, 458, 459, 460, 485, 486, 487, 488, 489, 490, 491, 492, 828, 829, 830, 831, 832, 833, 834, 835, 836, 837, 838, 839, 840, 841, 842, 843, 844, 845, 846, 847, 848] (by decide +kernel) (by decide +kernel)
set_option maxRecDepth 20000 in
theorem gL_law_X7_over : GoodIn wsL_law (wsV RL 71 RX7 yX7_over wsX7_over) := goodIn_app (goodIn_of _ (by decide +kernel)) ggL_law_X7_over
set_option maxRecDepth 20000 in
theorem ggL_law_X6_worst : GoodIn wsL_law wsX6_worst := goodIn_r _ [496, 18, 22, 442, 443, 2, 444, 384, 125, 126, 249, 127, 128, 245, 246, 247, 248, 14, 446, 202, 203, 17, 204, 47, 205, 206, 207, 208, 166, 142, 143, 144, 187, 188, 189, 190, 191, 192, 193, 194, 195, 196, 209, 210, 211, 212, 413, 149, 150, 497, 222, 223, 21, 224, 217, 218, 177, 219, 225, 226, 227, 228, 52, 220, 176, 178, 498, 230, 231, 232, 818, 819, 820, 821, 822, 823, 824, 825, 826, 827, 849, 850, 851, 852] (by decide +kernel) (by decide +kernel)
set_option maxRecDepth 20000 in
theorem gL_law_X6_worst : GoodIn wsL_law (wsV RL 72 RX6 yX6_worst wsX6_worst) := goodIn_app (goodIn_of _ (by decide +kernel)) ggL_law_X6_worst
set_option maxRecDepth 20000 in
theorem ggL_law_X7_worst : GoodIn wsL_law wsX7_worst := goodIn_r _ [502, 451, 452, 5, 453, 270, 271, 272, 273, 274, 275, 293, 294, 295, 296, 93, 402, 403, 404, 405, 90, 284, 285, 286, 287, 406, 407, 408, 454, 455, 456, 457, 458, 459, 460, 503, 504, 505, 506, 485, 486, 487, 488, 489, 490, 491, 492, 828, 829, 830, 831, 832, 833, 834, 835, 836, 837, 838, 839, 840, 841, 842, 843, 844, 845, 846, 847, 848] (by decide +kernel) (by decide +kernel)
set_option maxRecDepth 20000 in
theorem gL_law_X7_worst : GoodIn wsL_law (wsV RL 75 RX7 yX7_worst wsX7_worst) := goodIn_app (goodIn_of _ (by decide +kernel)) ggL_law_X7_worst
set_option maxRecDepth 20000 in
theorem ggL_law_X6_want : GoodIn wsL_law wsX6_want := goodIn_r _ [510, 26, 249, 127, 2, 128, 511, 159, 160, 25, 161, 57, 58, 162, 163, 164, 17, 165, 166, 142, 143, 144, 47, 245, 246, 247, 248, 14, 818, 819, 820, 821, 822, 823, 824, 825, 826, 827, 853, 854, 855, 849, 850, 851] (by decide +kernel) (by decide +kernel)
set_option maxRecDepth 20000 in
theorem gL_law_X6_want : GoodIn wsL_law (wsV RL 76 RX6 yX6_want wsX6_want) := goodIn_app (goodIn_of _ (by decide +kernel)) ggL_law_X6_want
set_option maxRecDepth 20000 in
theorem ggL_law_X7_want : GoodIn wsL_law wsX7_want := goodIn_r _ [515, 273, 274, 5, 275, 516, 517, 518, 519, 90, 520, 521, 522, 523, 270, 271, 272, 284, 285, 286, 287, 293, 294, 295, 296, 93, 828, 829, 830, 831, 832, 833, 834, 835, 836, 837, 838, 839, 840, 841, 842, 843, 844, 845, 846, 847, 848] (by decide +kernel) (by decide +kernel)
set_option maxRecDepth 20000 in
theorem gL_law_X7_want : GoodIn wsL_law (wsV RL 79 RX7 yX7_want wsX7_want) := goodIn_app (goodIn_of _ (by decide +kernel)) ggL_law_X7_want
set_option maxRecDepth 20000 in
theorem ggL_law_X6_drives : GoodIn wsL_law wsX6_drives := goodIn_r _ [527, 105, 106, 107, 2, 108, 34, 30, 109, 110, 111, 33, 112, 75, 72, 73, 113, 114, 115, 116, 117, 118, 119, 29, 120, 66, 121, 122, 123, 124, 65, 125, 126, 127, 128, 129, 130, 131, 17, 132, 47, 133, 134, 135, 136, 64, 137, 138, 139, 140, 141, 142, 143, 144, 145, 146, 147, 148, 149, 150, 151, 152, 153, 154, 155, 156, 25, 157, 57, 158, 159, 160, 161, 58, 162, 163, 164, 165, 166, 167, 168, 169, 170, 59, 171, 172, 173, 174, 45, 175, 176, 177, 178, 46, 179, 180, 181, 182, 183, 184, 185, 186, 187, 188, 189, 190, 191, 192, 193, 194, 195, 196, 197, 198, 199, 200, 201, 202, 203, 204, 205, 206, 207, 208, 209, 210, 211, 212, 213, 214, 215, 21, 216, 52, 217, 218, 219, 220, 221, 222, 223, 224, 225, 226, 227, 228, 229, 230, 231, 232, 233, 234, 235, 236, 237, 238, 239, 240, 241, 242, 243, 244, 245, 246, 247, 248, 14, 249, 250, 251, 252, 253, 74, 254, 818, 819, 820, 821, 822, 823, 824, 825, 826, 827, 859, 860, 861, 862, 856, 857, 858, 849, 850, 851, 853, 854, 855, 852] (by decide +kernel) (by decide +kernel)
set_option maxRecDepth 20000 in
theorem gL_law_X6_drives : GoodIn wsL_law (wsV RL 80 RX6 yX6_drives wsX6_drives) := goodIn_app (goodIn_of _ (by decide +kernel)) ggL_law_X6_drives
set_option maxRecDepth 20000 in
theorem ggL_law_X7_drives : GoodIn wsL_law wsX7_drives := goodIn_r _ [531, 259, 260, 261, 5, 262, 90, 91, 263, 264, 265, 532, 533, 534, 535, 273, 274, 275, 536, 537, 538, 539, 471, 100, 516, 517, 518, 519, 520, 521, 522, 523, 270, 271, 272, 284, 285, 286, 287, 472, 473, 474, 475, 99, 402, 403, 404, 405, 406, 407, 408, 540, 541, 542, 543, 454, 455, 456, 457, 458, 459, 460, 503, 504, 505, 506, 485, 486, 487, 488, 489, 490, 491, 492, 288, 289, 290, 291, 292, 92, 293, 294, 295, 296, 93, 828, 829, 830, 831, 832, 833, 834, 835, 836, 837, 838, 839, 840, 841, 842, 843, 844, 845, 846, 847, 848] (by decide +kernel) (by decide +kernel)
set_option maxRecDepth 20000 in
theorem gL_law_X7_drives : GoodIn wsL_law (wsV RL 83 RX7 yX7_drives wsX7_drives) := goodIn_app (goodIn_of _ (by decide +kernel)) ggL_law_X7_drives
set_option maxRecDepth 20000 in
theorem ggL_law_X6_puts : GoodIn wsL_law wsX6_puts := goodIn_r _ [547, 105, 106, 107, 2, 108, 34, 30, 109, 110, 111, 33, 112, 75, 72, 73, 113, 114, 115, 116, 117, 118, 119, 29, 120, 66, 121, 122, 123, 124, 65, 125, 126, 127, 128, 129, 130, 131, 17, 132, 47, 133, 134, 135, 136, 64, 137, 138, 139, 140, 141, 142, 143, 144, 145, 146, 147, 148, 149, 150, 151, 152, 153, 154, 155, 156, 25, 157, 57, 158, 159, 160, 161, 58, 162, 163, 164, 165, 166, 167, 168, 169, 170, 59, 171, 172, 173, 174, 45, 175, 176, 177, 178, 46, 179, 180, 181, 182, 183, 184, 185, 186, 187, 188, 189, 190, 191, 192, 193, 194, 195, 196, 197, 198, 199, 200, 201, 202, 203, 204, 205, 206, 207, 208, 209, 210, 211, 212, 213, 214, 215, 21, 216, 52, 217, 218, 219, 220, 221, 222, 223, 224, 225, 226, 227, 228, 229, 230, 231, 232, 233, 234, 235, 236, 237, 238, 239, 240, 241, 242, 243, 244, 245, 246, 247, 248, 14, 249, 250, 251, 252, 253, 74, 254, 818, 819, 820, 821, 822, 823, 824, 825, 826, 827, 859, 860, 861, 862, 856, 857, 858, 849, 850, 851, 853, 854, 855, 852] (by decide +kernel) (by decide +kernel)
set_option maxRecDepth 20000 in
theorem gL_law_X6_puts : GoodIn wsL_law (wsV RL 84 RX6 yX6_puts wsX6_puts) := goodIn_app (goodIn_of _ (by decide +kernel)) ggL_law_X6_puts
set_option maxRecDepth 20000 in
theorem ggL_law_X7_puts : GoodIn wsL_law wsX7_puts := goodIn_r _ [551, 259, 260, 261, 5, 262, 90, 91, 263, 264, 265, 273, 274, 275, 284, 285, 286, 287, 276, 277, 278, 279, 288, 289, 290, 291, 292, 92, 293, 294, 295, 296, 93, 828, 829, 830, 831, 832, 833, 834, 835, 836, 837, 838, 839, 840, 841, 842, 843, 844, 845, 846, 847, 848] (by decide +kernel) (by decide +kernel)
set_option maxRecDepth 20000 in
theorem gL_law_X7_puts : GoodIn wsL_law (wsV RL 87 RX7 yX7_puts wsX7_puts) := goodIn_app (goodIn_of _ (by decide +kernel)) ggL_law_X7_puts
set_option maxRecDepth 20000 in
theorem ggL_law_X6_state : GoodIn wsL_law wsX6_state := goodIn_r _ [555, 18, 13, 556, 180, 181, 17, 182, 166, 142, 143, 144, 47, 249, 127, 2, 128, 245, 246, 247, 248, 14, 818, 819, 820, 821, 822, 823, 824, 825, 826, 827, 849, 850, 851] (by decide +kernel) (by decide +kernel)
set_option maxRecDepth 20000 in
theorem gL_law_X6_state : GoodIn wsL_law (wsV RL 88 RX6 yX6_state wsX6_state) := goodIn_app (goodIn_of _ (by decide +kernel)) ggL_law_X6_state
set_option maxRecDepth 20000 in
theorem ggL_law_X7_state : GoodIn wsL_law wsX7_state := goodIn_r _ [560, 273, 274, 5, 275, 561, 562, 563, 564, 90, 284, 285, 286, 287, 293, 294, 295, 296, 93, 828, 829, 830, 831, 832, 833, 834, 835, 836, 837, 838, 839, 840, 841, 842, 843, 844, 845, 846, 847, 848] (by decide +kernel) (by decide +kernel)
set_option maxRecDepth 20000 in
theorem gL_law_X7_state : GoodIn wsL_law (wsV RL 91 RX7 yX7_state wsX7_state) := goodIn_app (goodIn_of _ (by decide +kernel)) ggL_law_X7_state
set_option maxRecDepth 20000 in
theorem ggL_law_X6_type : GoodIn wsL_law wsX6_type := goodIn_r _ [568, 38, 249, 127, 2, 128, 245, 246, 247, 248, 14, 569, 570, 571, 37, 572, 83, 79, 573, 574, 575, 576, 818, 819, 820, 821, 822, 823, 824, 825, 826, 827, 863, 864, 865, 866, 867, 868, 869] (by decide +kernel) (by decide +kernel)
set_option maxRecDepth 20000 in
theorem gL_law_X6_type : GoodIn wsL_law (wsV RL 92 RX6 yX6_type wsX6_type) := goodIn_app (goodIn_of _ (by decide +kernel)) ggL_law_X6_type
set_option maxRecDepth 20000 in
theorem ggL_law_X7_type : GoodIn wsL_law wsX7_type := goodIn_r _ [580, 581, 95, 273, 274, 5, 275, 293, 294, 295, 296, 93, 828, 829, 830, 831, 832, 833, 834, 835, 836, 837, 838, 839, 840, 841, 842, 843, 844, 845, 846, 847, 848] (by decide +kernel) (by decide +kernel)
set_option maxRecDepth 20000 in
theorem gL_law_X7_type : GoodIn wsL_law (wsV RL 95 RX7 yX7_type wsX7_type) := goodIn_app (goodIn_of _ (by decide +kernel)) ggL_law_X7_type
set_option maxRecDepth 20000 in
theorem ggL_law_X6_clear : GoodIn wsL_law wsX6_clear := goodIn_r _ [585, 38, 586, 587, 588, 37, 589, 83, 818, 819, 820, 821, 822, 823, 824, 825, 826, 827, 863, 864, 865, 866, 867, 868, 869] (by decide +kernel) (by decide +kernel)
set_option maxRecDepth 20000 in
theorem gL_law_X6_clear : GoodIn wsL_law (wsV RL 96 RX6 yX6_clear wsX6_clear) := goodIn_app (goodIn_of _ (by decide +kernel)) ggL_law_X6_clear
set_option maxRecDepth 20000 in
theorem ggL_law_X7_clear : GoodIn wsL_law wsX7_clear := goodIn_r _ [593, 581, 828, 829, 830, 831, 832, 833, 834, 835, 836, 837, 838, 839, 840, 841, 842, 843, 844, 845, 846, 847, 848] (by decide +kernel) (by decide +kernel)
set_option maxRecDepth 20000 in
theorem gL_law_X7_clear : GoodIn wsL_law (wsV RL 100 RX7 yX7_clear wsX7_clear) := goodIn_app (goodIn_of _ (by decide +kernel)) ggL_law_X7_clear
set_option maxRecDepth 20000 in
theorem ggL_law_X6_reads : GoodIn wsL_law wsX6_reads := goodIn_r _ [597, 38, 34, 30, 39, 40, 598, 599, 600, 37, 601, 84, 85, 83, 602, 603, 604, 605, 606, 607, 608, 609, 79, 610, 611, 612, 613, 614, 615, 616, 617, 618, 619, 620, 621, 622, 623, 624, 625, 626, 627, 628, 629, 630, 631, 632, 633, 634, 635, 636, 637, 638, 639, 640, 641, 642, 176, 177, 178, 643, 218, 219, 644, 645, 646, 647, 648, 649, 650, 651, 652, 653, 654, 655, 656, 657, 658, 659, 660, 661, 662, 663, 664, 665, 666, 667, 668, 669, 670, 671, 672, 673, 674, 675, 676, 677, 678, 679, 680, 681, 682, 683, 684, 685, 686, 687, 688, 689, 690, 691, 692, 693, 694, 695, 696, 697, 698, 699, 700, 701, 702, 703, 704, 705, 706, 707, 708, 709, 80, 81, 82, 109, 110, 111, 33, 112, 75, 72, 73, 113, 114, 115, 116, 710, 711, 712, 713, 714, 715, 716, 717, 718, 719, 720, 721, 722, 723, 724, 725, 117, 118, 119, 29, 120, 66, 121, 122, 123, 124, 65, 125, 2, 126, 127, 128, 129, 130, 131, 17, 132, 47, 133, 134, 135, 136, 64, 137, 138, 139, 140, 141, 142, 143, 144, 145, 146, 147, 148, 149, 150, 151, 152, 153, 154, 155, 156, 25, 157, 57, 158, 159, 160, 161, 58, 162, 163, 164, 165, 166, 167, 168, 169, 170, 59, 171, 172, 173, 174, 45, 175, 46, 179, 180, 181, 182, 183, 184, 185, 186, 187, 188, 189, 190, 191, 192, 193, 194, 195, 196, 197, 198, 199, 200, 201, 202, 203, 204, 205, 206, 207, 208, 209, 210, 211, 212, 213, 214, 215, 21, 216, 52, 217, 220, 221, 222, 223, 224, 225, 226, 227, 228, 229, 230, 231, 232, 233, 234, 235, 236, 237, 238, 239, 240, 241, 242, 243, 244, 726, 727, 728, 729, 250, 251, 252, 253, 74, 254, 818, 819, 820, 821, 822, 823, 824, 825, 826, 827, 863, 864, 865, 866, 867, 868, 869, 859, 860, 861, 862, 856, 857, 858, 849, 850, 851, 853, 854, 855, 852] (by decide +kernel) (by decide +kernel)
set_option maxRecDepth 20000 in
theorem gL_law_X6_reads : GoodIn wsL_law (wsV RL 101 RX6 yX6_reads wsX6_reads) := goodIn_app (goodIn_of _ (by decide +kernel)) ggL_law_X6_reads
set_option maxRecDepth 20000 in
theorem ggL_law_X7_reads : GoodIn wsL_law wsX7_reads := goodIn_r _ [733, 734, 91, 90, 735, 94, 736, 737, 738, 5, 739, 97, 740, 741, 581, 95, 742, 743, 744, 745, 746, 747, 96, 98, 748, 749, 750, 751, 273, 274, 275, 752, 753, 754, 755, 259, 260, 261, 262, 263, 264, 265, 756, 757, 758, 759, 266, 267, 268, 269, 270, 271, 272, 276, 277, 278, 279, 280, 281, 282, 283, 284, 285, 286, 287, 305, 306, 307, 308, 309, 310, 311, 320, 321, 322, 323, 332, 333, 334, 335, 344, 345, 346, 347, 356, 357, 358, 359, 368, 369, 370, 371, 532, 533, 534, 535, 536, 537, 538, 539, 471, 100, 516, 517, 518, 519, 520, 521, 522, 523, 472, 473, 474, 475, 99, 402, 403, 404, 405, 406, 407, 408, 540, 541, 542, 543, 454, 455, 456, 457, 458, 459, 460, 503, 504, 505, 506, 485, 486, 487, 488, 489, 490, 491, 492, 288, 289, 290, 291, 292, 92, 293, 294, 295, 296, 93, 828, 829, 830, 831, 832, 833, 834, 835, 836, 837, 838, 839, 840, 841, 842, 843, 844, 845, 846, 847, 848] (by decide +kernel) (by decide +kernel)
set_option maxRecDepth 20000 in
theorem gL_law_X7_reads : GoodIn wsL_law (wsV RL 104 RX7 yX7_reads wsX7_reads) := goodIn_app (goodIn_of _ (by decide +kernel)) ggL_law_X7_reads
set_option maxRecDepth 20000 in
theorem ggL_law_X6_why : GoodIn wsL_law wsX6_why := goodIn_r _ [763, 39, 40, 249, 127, 2, 128, 245, 246, 247, 248, 14, 818, 819, 820, 821, 822, 823, 824, 825, 826, 827] (by decide +kernel) (by decide +kernel)
set_option maxRecDepth 20000 in
theorem gL_law_X6_why : GoodIn wsL_law (wsV RL 105 RX6 yX6_why wsX6_why) := goodIn_app (goodIn_of _ (by decide +kernel)) ggL_law_X6_why
set_option maxRecDepth 20000 in
theorem ggL_law_X7_why : GoodIn wsL_law wsX7_why := goodIn_r _ [767, 273, 274, 5, 275, 768, 769, 770, 771, 735, 94, 293, 294, 295, 296, 93, 828, 829, 830, 831, 832, 833, 834, 835, 836, 837, 838, 839, 840, 841, 842, 843, 844, 845, 846, 847, 848] (by decide +kernel) (by decide +kernel)
set_option maxRecDepth 20000 in
theorem gL_law_X7_why : GoodIn wsL_law (wsV RL 108 RX7 yX7_why wsX7_why) := goodIn_app (goodIn_of _ (by decide +kernel)) ggL_law_X7_why
set_option maxRecDepth 20000 in
theorem ggL_law_X6_back : GoodIn wsL_law wsX6_back := goodIn_r _ [775, 34, 776, 777, 778, 33, 779, 74, 73, 780, 727, 728, 729, 72, 75, 113, 114, 115, 116, 781, 782, 783, 784, 245, 246, 247, 2, 248, 14, 249, 127, 128, 818, 819, 820, 821, 822, 823, 824, 825, 826, 827, 859, 860, 861, 862] (by decide +kernel) (by decide +kernel)
set_option maxRecDepth 20000 in
theorem gL_law_X6_back : GoodIn wsL_law (wsV RL 109 RX6 yX6_back wsX6_back) := goodIn_app (goodIn_of _ (by decide +kernel)) ggL_law_X6_back
set_option maxRecDepth 20000 in
theorem ggL_law_X7_back : GoodIn wsL_law wsX7_back := goodIn_r _ [788, 292, 92, 90, 293, 294, 295, 5, 296, 93, 263, 264, 265, 828, 829, 830, 831, 832, 833, 834, 835, 836, 837, 838, 839, 840, 841, 842, 843, 844, 845, 846, 847, 848] (by decide +kernel) (by decide +kernel)
set_option maxRecDepth 20000 in
theorem gL_law_X7_back : GoodIn wsL_law (wsV RL 112 RX7 yX7_back wsX7_back) := goodIn_app (goodIn_of _ (by decide +kernel)) ggL_law_X7_back
set_option maxRecDepth 20000 in
theorem ggL_law_X6_told : GoodIn wsL_law wsX6_told := goodIn_r _ [792, 14, 38, 34, 573, 574, 575, 37, 576, 83, 781, 782, 783, 33, 784, 74, 245, 246, 247, 2, 248, 249, 127, 128, 818, 819, 820, 821, 822, 823, 824, 825, 826, 827, 863, 864, 865, 866, 867, 868, 869, 859, 860, 861, 862] (by decide +kernel) (by decide +kernel)
set_option maxRecDepth 20000 in
theorem gL_law_X6_told : GoodIn wsL_law (wsV RL 113 RX6 yX6_told wsX6_told) := goodIn_app (goodIn_of _ (by decide +kernel)) ggL_law_X6_told
set_option maxRecDepth 20000 in
theorem ggL_law_X7_told : GoodIn wsL_law wsX7_told := goodIn_r _ [796, 273, 274, 5, 275, 797, 798, 799, 800, 93, 581, 292, 293, 294, 295, 296, 828, 829, 830, 831, 832, 833, 834, 835, 836, 837, 838, 839, 840, 841, 842, 843, 844, 845, 846, 847, 848] (by decide +kernel) (by decide +kernel)
set_option maxRecDepth 20000 in
theorem gL_law_X7_told : GoodIn wsL_law (wsV RL 116 RX7 yX7_told wsX7_told) := goodIn_app (goodIn_of _ (by decide +kernel)) ggL_law_X7_told
set_option maxRecDepth 20000 in
theorem ggL_law_X6_digest : GoodIn wsL_law wsX6_digest := goodIn_r _ [804, 805, 806, 807, 790, 791, 2, 792, 14, 38, 34, 573, 574, 575, 37, 576, 83, 781, 782, 783, 33, 784, 74, 245, 246, 247, 248, 249, 127, 128, 808, 761, 762, 763, 39, 40, 809, 381, 382, 383, 13, 18, 384, 125, 126, 385, 142, 143, 17, 144, 47, 386, 387, 388, 389, 205, 206, 207, 208, 166, 187, 188, 189, 190, 191, 192, 193, 194, 195, 196, 810, 410, 411, 412, 413, 149, 150, 414, 415, 416, 417, 811, 553, 554, 555, 556, 180, 181, 182, 818, 819, 820, 821, 822, 823, 824, 825, 826, 827, 863, 864, 865, 866, 867, 868, 869, 859, 860, 861, 862, 849, 850, 851] (by decide +kernel) (by decide +kernel)
set_option maxRecDepth 20000 in
theorem gL_law_X6_digest : GoodIn wsL_law (wsV RL 117 RX6 yX6_digest wsX6_digest) := goodIn_app (goodIn_of _ (by decide +kernel)) ggL_law_X6_digest
set_option maxRecDepth 20000 in
theorem ggL_law_X7_digest : GoodIn wsL_law wsX7_digest := goodIn_r _ [815, 816, 817, 797, 798, 799, 5, 800, 93, 581, 292, 768, 769, 770, 771, 735, 94, 394, 395, 396, 397, 90, 284, 285, 286, 287, 398, 399, 400, 401, 402, 403, 404, 405, 406, 407, 408, 422, 423, 424, 425, 561, 562, 563, 564, 828, 829, 830, 831, 832, 833, 834, 835, 836, 837, 838, 839, 840, 841, 842, 843, 844, 845, 846, 847, 848] (by decide +kernel) (by decide +kernel)
set_option maxRecDepth 20000 in
theorem gL_law_X7_digest : GoodIn wsL_law (wsV RL 121 RX7 yX7_digest wsX7_digest) := goodIn_app (goodIn_of _ (by decide +kernel)) ggL_law_X7_digest
