theorem inlX0 : ∀ w ∈ wsX00, w ∈ wsL_law := fun _ h => List.mem_append_left _ (List.mem_append_left _ (List.mem_append_left _ (List.mem_append_left _ (List.mem_append_right _ h))))
theorem inX0 : ∀ w ∈ wsX00, w ∈ lw_tbl := fun w h => wsL_law_in w (inlX0 w h)
theorem inlX1 : ∀ w ∈ wsX10, w ∈ wsL_law := fun _ h => List.mem_append_left _ (List.mem_append_left _ (List.mem_append_left _ (List.mem_append_left _ (List.mem_append_left _ (List.mem_append_left _ (List.mem_append_right _ h))))))
theorem inX1 : ∀ w ∈ wsX10, w ∈ lw_tbl := fun w h => wsL_law_in w (inlX1 w h)
theorem inlX2 : ∀ w ∈ wsX20, w ∈ wsL_law := fun _ h => List.mem_append_left _ (List.mem_append_left _ (List.mem_append_left _ (List.mem_append_right _ h)))
theorem inX2 : ∀ w ∈ wsX20, w ∈ lw_tbl := fun w h => wsL_law_in w (inlX2 w h)
theorem inlX3 : ∀ w ∈ wsX30, w ∈ wsL_law := fun _ h => List.mem_append_left _ (List.mem_append_left _ (List.mem_append_left _ (List.mem_append_left _ (List.mem_append_left _ (List.mem_append_right _ h)))))
theorem inX3 : ∀ w ∈ wsX30, w ∈ lw_tbl := fun w h => wsL_law_in w (inlX3 w h)
theorem inlX4 : ∀ w ∈ wsX40, w ∈ wsL_law := fun _ h => List.mem_append_left _ (List.mem_append_left _ (List.mem_append_right _ h))
theorem inX4 : ∀ w ∈ wsX40, w ∈ lw_tbl := fun w h => wsL_law_in w (inlX4 w h)
theorem inlX5 : ∀ w ∈ wsX50, w ∈ wsL_law := fun _ h => List.mem_append_left _ (List.mem_append_right _ h)
theorem inX5 : ∀ w ∈ wsX50, w ∈ lw_tbl := fun w h => wsL_law_in w (inlX5 w h)
theorem inlX6 : ∀ w ∈ wsX60, w ∈ wsL_law := fun _ h => List.mem_append_left _ (List.mem_append_left _ (List.mem_append_left _ (List.mem_append_left _ (List.mem_append_left _ (List.mem_append_left _ (List.mem_append_left _ (List.mem_append_left _ (List.mem_append_right _ h))))))))
theorem inX6 : ∀ w ∈ wsX60, w ∈ lw_tbl := fun w h => wsL_law_in w (inlX6 w h)
theorem inlX7 : ∀ w ∈ wsX70, w ∈ wsL_law := fun _ h => List.mem_append_left _ (List.mem_append_left _ (List.mem_append_left _ (List.mem_append_left _ (List.mem_append_left _ (List.mem_append_left _ (List.mem_append_left _ (List.mem_append_right _ h)))))))
theorem inX7 : ∀ w ∈ wsX70, w ∈ lw_tbl := fun w h => wsL_law_in w (inlX7 w h)
theorem inJ11 : ∀ w ∈ wsJ110, w ∈ lw_tbl := by decide +kernel
theorem inJ6 : ∀ w ∈ wsJ60, w ∈ lw_tbl := by decide +kernel
theorem inJ9 : ∀ w ∈ wsJ90, w ∈ lw_tbl := by decide +kernel
theorem inJ0 : ∀ w ∈ wsJ00, w ∈ lw_tbl := by decide +kernel
theorem inJ1 : ∀ w ∈ wsJ10, w ∈ lw_tbl := by decide +kernel
theorem inJ2 : ∀ w ∈ wsJ20, w ∈ lw_tbl := by decide +kernel
theorem inJ10 : ∀ w ∈ wsJ100, w ∈ lw_tbl := by decide +kernel
theorem inJ3 : ∀ w ∈ wsJ30, w ∈ lw_tbl := by decide +kernel
set_option maxRecDepth 20000 in
theorem ggL_law_X6_init : GoodIn wsL_law wsX6_init := goodIn_r _ [8, 9, 10, 11, 12, 13, 14, 15, 16, 17, 18, 19, 20, 21, 22, 23, 24, 25, 26, 27, 28, 29, 30, 31, 32, 33, 34, 35, 36, 37, 38, 39, 40, 41, 42, 43, 44, 45, 46, 47, 48, 49, 50, 51, 52, 53, 54, 55, 56, 57, 58, 59, 60, 61, 62, 63, 64, 65, 66, 67, 68, 69, 70, 71, 72, 73, 74, 75, 76, 77, 78, 79, 80, 81, 82, 83, 84, 85, 818, 819, 820, 821, 822, 823, 824, 825, 826, 827, 849, 850, 851, 852, 853, 854, 855, 856, 857, 858, 859, 860, 861, 862, 863, 864, 865, 866, 867, 868, 869] (by decide +kernel) (by decide +kernel)
set_option maxRecDepth 20000 in
theorem gL_law_X6_init : GoodIn wsL_law (wsX6_init) := ggL_law_X6_init
set_option maxRecDepth 20000 in
theorem ggL_law_X7_init : GoodIn wsL_law wsX7_init := goodIn_r _ [88, 89, 10, 11, 12, 90, 91, 92, 93, 94, 95, 96, 97, 98, 99, 100, 828, 829, 830, 831, 832, 833, 834, 835, 836, 837, 838, 839, 840, 841, 842, 843, 844, 845, 846, 847, 848] (by decide +kernel) (by decide +kernel)
set_option maxRecDepth 20000 in
theorem gL_law_X7_init : GoodIn wsL_law (wsX7_init) := ggL_law_X7_init
set_option maxRecDepth 20000 in
theorem ggL_law_X6_gear : GoodIn wsL_law wsX6_gear := goodIn_r _ [104, 105, 106, 107, 2, 108, 34, 30, 109, 110, 111, 33, 112, 75, 72, 73, 113, 114, 115, 116, 117, 118, 119, 29, 120, 66, 121, 122, 123, 124, 65, 125, 126, 127, 128, 129, 130, 131, 17, 132, 47, 133, 134, 135, 136, 64, 137, 138, 139, 140, 141, 142, 143, 144, 145, 146, 147, 148, 149, 150, 151, 152, 153, 154, 155, 156, 25, 157, 57, 158, 159, 160, 161, 58, 162, 163, 164, 165, 166, 167, 168, 169, 170, 59, 171, 172, 173, 174, 45, 175, 176, 177, 178, 46, 179, 180, 181, 182, 183, 184, 185, 186, 187, 188, 189, 190, 191, 192, 193, 194, 195, 196, 197, 198, 199, 200, 201, 202, 203, 204, 205, 206, 207, 208, 209, 210, 211, 212, 213, 214, 215, 21, 216, 52, 217, 218, 219, 220, 221, 222, 223, 224, 225, 226, 227, 228, 229, 230, 231, 232, 233, 234, 235, 236, 237, 238, 239, 240, 241, 242, 243, 244, 245, 246, 247, 248, 14, 249, 250, 251, 252, 253, 74, 254, 818, 819, 820, 821, 822, 823, 824, 825, 826, 827, 859, 860, 861, 862, 856, 857, 858, 849, 850, 851, 853, 854, 855, 852] (by decide +kernel) (by decide +kernel)
set_option maxRecDepth 20000 in
theorem gL_law_X6_gear : GoodIn wsL_law (wsV RL 13 RX6 yX6_gear wsX6_gear) := goodIn_app (goodIn_of _ (by decide +kernel)) ggL_law_X6_gear
set_option maxRecDepth 20000 in
theorem ggL_law_X7_gear : GoodIn wsL_law wsX7_gear := goodIn_r _ [258, 259, 260, 261, 5, 262, 90, 91, 263, 264, 265, 266, 267, 268, 269, 270, 271, 272, 273, 274, 275, 276, 277, 278, 279, 280, 281, 282, 283, 284, 285, 286, 287, 288, 289, 290, 291, 292, 92, 293, 294, 295, 296, 93, 828, 829, 830, 831, 832, 833, 834, 835, 836, 837, 838, 839, 840, 841, 842, 843, 844, 845, 846, 847, 848] (by decide +kernel) (by decide +kernel)
set_option maxRecDepth 20000 in
theorem gL_law_X7_gear : GoodIn wsL_law (wsV RL 17 RX7 yX7_gear wsX7_gear) := goodIn_app (goodIn_of _ (by decide +kernel)) ggL_law_X7_gear
set_option maxRecDepth 20000 in
theorem ggL_law_X6_fails : GoodIn wsL_law wsX6_fails := goodIn_r _ [300, 105, 106, 107, 2, 108, 34, 30, 109, 110, 111, 33, 112, 75, 72, 73, 113, 114, 115, 116, 117, 118, 119, 29, 120, 66, 121, 122, 123, 124, 65, 125, 126, 127, 128, 129, 130, 131, 17, 132, 47, 133, 134, 135, 136, 64, 137, 138, 139, 140, 141, 142, 143, 144, 145, 146, 147, 148, 149, 150, 151, 152, 153, 154, 155, 156, 25, 157, 57, 158, 159, 160, 161, 58, 162, 163, 164, 165, 166, 167, 168, 169, 170, 59, 171, 172, 173, 174, 45, 175, 176, 177, 178, 46, 179, 180, 181, 182, 183, 184, 185, 186, 187, 188, 189, 190, 191, 192, 193, 194, 195, 196, 197, 198, 199, 200, 201, 202, 203, 204, 205, 206, 207, 208, 209, 210, 211, 212, 213, 214, 215, 21, 216, 52, 217, 218, 219, 220, 221, 222, 223, 224, 225, 226, 227, 228, 229, 230, 231, 232, 233, 234, 235, 236, 237, 238, 239, 240, 241, 242, 243, 244, 245, 246, 247, 248, 14, 249, 250, 251, 252, 253, 74, 254, 818, 819, 820, 821, 822, 823, 824, 825, 826, 827, 859, 860, 861, 862, 856, 857, 858, 849, 850, 851, 853, 854, 855, 852] (by decide +kernel) (by decide +kernel)
set_option maxRecDepth 20000 in
theorem gL_law_X6_fails : GoodIn wsL_law (wsV RL 18 RX6 yX6_fails wsX6_fails) := goodIn_app (goodIn_of _ (by decide +kernel)) ggL_law_X6_fails
set_option maxRecDepth 20000 in
theorem ggL_law_X7_fails : GoodIn wsL_law wsX7_fails := goodIn_r _ [304, 259, 260, 261, 5, 262, 90, 91, 263, 264, 265, 305, 306, 307, 308, 309, 310, 311, 273, 274, 275, 276, 277, 278, 279, 280, 281, 282, 283, 284, 285, 286, 287, 288, 289, 290, 291, 292, 92, 293, 294, 295, 296, 93, 828, 829, 830, 831, 832, 833, 834, 835, 836, 837, 838, 839, 840, 841, 842, 843, 844, 845, 846, 847, 848] (by decide +kernel) (by decide +kernel)
set_option maxRecDepth 20000 in
theorem gL_law_X7_fails : GoodIn wsL_law (wsV RL 21 RX7 yX7_fails wsX7_fails) := goodIn_app (goodIn_of _ (by decide +kernel)) ggL_law_X7_fails
set_option maxRecDepth 20000 in
theorem ggL_law_X6_trues : GoodIn wsL_law wsX6_trues := goodIn_r _ [315, 105, 106, 107, 2, 108, 34, 30, 109, 110, 111, 33, 112, 75, 72, 73, 113, 114, 115, 116, 117, 118, 119, 29, 120, 66, 121, 122, 123, 124, 65, 125, 126, 127, 128, 129, 130, 131, 17, 132, 47, 133, 134, 135, 136, 64, 137, 138, 139, 140, 141, 142, 143, 144, 145, 146, 147, 148, 149, 150, 151, 152, 153, 154, 155, 156, 25, 157, 57, 158, 159, 160, 161, 58, 162, 163, 164, 165, 166, 167, 168, 169, 170, 59, 171, 172, 173, 174, 45, 175, 176, 177, 178, 46, 179, 180, 181, 182, 183, 184, 185, 186, 187, 188, 189, 190, 191, 192, 193, 194, 195, 196, 197, 198, 199, 200, 201, 202, 203, 204, 205, 206, 207, 208, 209, 210, 211, 212, 213, 214, 215, 21, 216, 52, 217, 218, 219, 220, 221, 222, 223, 224, 225, 226, 227, 228, 229, 230, 231, 232, 233, 234, 235, 236, 237, 238, 239, 240, 241, 242, 243, 244, 245, 246, 247, 248, 14, 249, 250, 251, 252, 253, 74, 254, 818, 819, 820, 821, 822, 823, 824, 825, 826, 827, 859, 860, 861, 862, 856, 857, 858, 849, 850, 851, 853, 854, 855, 852] (by decide +kernel) (by decide +kernel)
set_option maxRecDepth 20000 in
theorem gL_law_X6_trues : GoodIn wsL_law (wsV RL 22 RX6 yX6_trues wsX6_trues) := goodIn_app (goodIn_of _ (by decide +kernel)) ggL_law_X6_trues
set_option maxRecDepth 20000 in
theorem ggL_law_X7_trues : GoodIn wsL_law wsX7_trues := goodIn_r _ [319, 259, 260, 261, 5, 262, 90, 91, 263, 264, 265, 320, 321, 322, 323, 309, 310, 311, 273, 274, 275, 276, 277, 278, 279, 288, 289, 290, 291, 292, 92, 293, 294, 295, 296, 93, 828, 829, 830, 831, 832, 833, 834, 835, 836, 837, 838, 839, 840, 841, 842, 843, 844, 845, 846, 847, 848] (by decide +kernel) (by decide +kernel)
set_option maxRecDepth 20000 in
theorem gL_law_X7_trues : GoodIn wsL_law (wsV RL 25 RX7 yX7_trues wsX7_trues) := goodIn_app (goodIn_of _ (by decide +kernel)) ggL_law_X7_trues
set_option maxRecDepth 20000 in
theorem ggL_law_X6_up : GoodIn wsL_law wsX6_up := goodIn_r _ [327, 105, 106, 107, 2, 108, 34, 30, 109, 110, 111, 33, 112, 75, 72, 73, 113, 114, 115, 116, 117, 118, 119, 29, 120, 66, 121, 122, 123, 124, 65, 125, 126, 127, 128, 129, 130, 131, 17, 132, 47, 133, 134, 135, 136, 64, 137, 138, 139, 140, 141, 142, 143, 144, 145, 146, 147, 148, 149, 150, 151, 152, 153, 154, 155, 156, 25, 157, 57, 158, 159, 160, 161, 58, 162, 163, 164, 165, 166, 167, 168, 169, 170, 59, 171, 172, 173, 174, 45, 175, 176, 177, 178, 46, 179, 180, 181, 182, 183, 184, 185, 186, 187, 188, 189, 190, 191, 192, 193, 194, 195, 196, 197, 198, 199, 200, 201, 202, 203, 204, 205, 206, 207, 208, 209, 210, 211, 212, 213, 214, 215, 21, 216, 52, 217, 218, 219, 220, 221, 222, 223, 224, 225, 226, 227, 228, 229, 230, 231, 232, 233, 234, 235, 236, 237, 238, 239, 240, 241, 242, 243, 244, 245, 246, 247, 248, 14, 249, 250, 251, 252, 253, 74, 254, 818, 819, 820, 821, 822, 823, 824, 825, 826, 827, 859, 860, 861, 862, 856, 857, 858, 849, 850, 851, 853, 854, 855, 852] (by decide +kernel) (by decide +kernel)
set_option maxRecDepth 20000 in
theorem gL_law_X6_up : GoodIn wsL_law (wsV RL 26 RX6 yX6_up wsX6_up) := goodIn_app (goodIn_of _ (by decide +kernel)) ggL_law_X6_up
set_option maxRecDepth 20000 in
theorem ggL_law_X7_up : GoodIn wsL_law wsX7_up := goodIn_r _ [331, 259, 260, 261, 5, 262, 90, 91, 263, 264, 265, 332, 333, 334, 335, 270, 271, 272, 273, 274, 275, 276, 277, 278, 279, 288, 289, 290, 291, 292, 92, 293, 294, 295, 296, 93, 828, 829, 830, 831, 832, 833, 834, 835, 836, 837, 838, 839, 840, 841, 842, 843, 844, 845, 846, 847, 848] (by decide +kernel) (by decide +kernel)
set_option maxRecDepth 20000 in
theorem gL_law_X7_up : GoodIn wsL_law (wsV RL 29 RX7 yX7_up wsX7_up) := goodIn_app (goodIn_of _ (by decide +kernel)) ggL_law_X7_up
set_option maxRecDepth 20000 in
theorem ggL_law_X6_down : GoodIn wsL_law wsX6_down := goodIn_r _ [339, 105, 106, 107, 2, 108, 34, 30, 109, 110, 111, 33, 112, 75, 72, 73, 113, 114, 115, 116, 117, 118, 119, 29, 120, 66, 121, 122, 123, 124, 65, 125, 126, 127, 128, 129, 130, 131, 17, 132, 47, 133, 134, 135, 136, 64, 137, 138, 139, 140, 141, 142, 143, 144, 145, 146, 147, 148, 149, 150, 151, 152, 153, 154, 155, 156, 25, 157, 57, 158, 159, 160, 161, 58, 162, 163, 164, 165, 166, 167, 168, 169, 170, 59, 171, 172, 173, 174, 45, 175, 176, 177, 178, 46, 179, 180, 181, 182, 183, 184, 185, 186, 187, 188, 189, 190, 191, 192, 193, 194, 195, 196, 197, 198, 199, 200, 201, 202, 203, 204, 205, 206, 207, 208, 209, 210, 211, 212, 213, 214, 215, 21, 216, 52, 217, 218, 219, 220, 221, 222, 223, 224, 225, 226, 227, 228, 229, 230, 231, 232, 233, 234, 235, 236, 237, 238, 239, 240, 241, 242, 243, 244, 245, 246, 247, 248, 14, 249, 250, 251, 252, 253, 74, 254, 818, 819, 820, 821, 822, 823, 824, 825, 826, 827, 859, 860, 861, 862, 856, 857, 858, 849, 850, 851, 853, 854, 855, 852] (by decide +kernel) (by decide +kernel)
set_option maxRecDepth 20000 in
theorem gL_law_X6_down : GoodIn wsL_law (wsV RL 30 RX6 yX6_down wsX6_down) := goodIn_app (goodIn_of _ (by decide +kernel)) ggL_law_X6_down
set_option maxRecDepth 20000 in
theorem ggL_law_X7_down : GoodIn wsL_law wsX7_down := goodIn_r _ [343, 259, 260, 261, 5, 262, 90, 91, 263, 264, 265, 344, 345, 346, 347, 270, 271, 272, 273, 274, 275, 276, 277, 278, 279, 288, 289, 290, 291, 292, 92, 293, 294, 295, 296, 93, 828, 829, 830, 831, 832, 833, 834, 835, 836, 837, 838, 839, 840, 841, 842, 843, 844, 845, 846, 847, 848] (by decide +kernel) (by decide +kernel)
set_option maxRecDepth 20000 in
theorem gL_law_X7_down : GoodIn wsL_law (wsV RL 33 RX7 yX7_down wsX7_down) := goodIn_app (goodIn_of _ (by decide +kernel)) ggL_law_X7_down
set_option maxRecDepth 20000 in
theorem ggL_law_X6_slope : GoodIn wsL_law wsX6_slope := goodIn_r _ [351, 105, 106, 107, 2, 108, 34, 30, 109, 110, 111, 33, 112, 75, 72, 73, 113, 114, 115, 116, 117, 118, 119, 29, 120, 66, 121, 122, 123, 124, 65, 125, 126, 127, 128, 129, 130, 131, 17, 132, 47, 133, 134, 135, 136, 64, 137, 138, 139, 140, 141, 142, 143, 144, 145, 146, 147, 148, 149, 150, 151, 152, 153, 154, 155, 156, 25, 157, 57, 158, 159, 160, 161, 58, 162, 163, 164, 165, 166, 167, 168, 169, 170, 59, 171, 172, 173, 174, 45, 175, 176, 177, 178, 46, 179, 180, 181, 182, 183, 184, 185, 186, 187, 188, 189, 190, 191, 192, 193, 194, 195, 196, 197, 198, 199, 200, 201, 202, 203, 204, 205, 206, 207, 208, 209, 210, 211, 212, 213, 214, 215, 21, 216, 52, 217, 218, 219, 220, 221, 222, 223, 224, 225, 226, 227, 228, 229, 230, 231, 232, 233, 234, 235, 236, 237, 238, 239, 240, 241, 242, 243, 244, 245, 246, 247, 248, 14, 249, 250, 251, 252, 253, 74, 254, 818, 819, 820, 821, 822, 823, 824, 825, 826, 827, 859, 860, 861, 862, 856, 857, 858, 849, 850, 851, 853, 854, 855, 852] (by decide +kernel) (by decide +kernel)
set_option maxRecDepth 20000 in
theorem gL_law_X6_slope : GoodIn wsL_law (wsV RL 34 RX6 yX6_slope wsX6_slope) := goodIn_app (goodIn_of _ (by decide +kernel)) ggL_law_X6_slope
set_option maxRecDepth 20000 in
theorem ggL_law_X7_slope : GoodIn wsL_law wsX7_slope := goodIn_r _ [355, 259, 260, 261, 5, 262, 90, 91, 263, 264, 265, 356, 357, 358, 359, 273, 274, 275, 276, 277, 278, 279, 288, 289, 290, 291, 292, 92, 293, 294, 295, 296, 93, 828, 829, 830, 831, 832, 833, 834, 835, 836, 837, 838, 839, 840, 841, 842, 843, 844, 845, 846, 847, 848] (by decide +kernel) (by decide +kernel)
set_option maxRecDepth 20000 in
theorem gL_law_X7_slope : GoodIn wsL_law (wsV RL 38 RX7 yX7_slope wsX7_slope) := goodIn_app (goodIn_of _ (by decide +kernel)) ggL_law_X7_slope
set_option maxRecDepth 20000 in
theorem ggL_law_X6_driver : GoodIn wsL_law wsX6_driver := goodIn_r _ [363, 105, 106, 107, 2, 108, 34, 30, 109, 110, 111, 33, 112, 75, 72, 73, 113, 114, 115, 116, 117, 118, 119, 29, 120, 66, 121, 122, 123, 124, 65, 125, 126, 127, 128, 129, 130, 131, 17, 132, 47, 133, 134, 135, 136, 64, 137, 138, 139, 140, 141, 142, 143, 144, 145, 146, 147, 148, 149, 150, 151, 152, 153, 154, 155, 156, 25, 157, 57, 158, 159, 160, 161, 58, 162, 163, 164, 165, 166, 167, 168, 169, 170, 59, 171, 172, 173, 174, 45, 175, 176, 177, 178, 46, 179, 180, 181, 182, 183, 184, 185, 186, 187, 188, 189, 190, 191, 192, 193, 194, 195, 196, 197, 198, 199, 200, 201, 202, 203, 204, 205, 206, 207, 208, 209, 210, 211, 212, 213, 214, 215, 21, 216, 52, 217, 218, 219, 220, 221, 222, 223, 224, 225, 226, 227, 228, 229, 230, 231, 232, 233, 234, 235, 236, 237, 238, 239, 240, 241, 242, 243, 244, 245, 246, 247, 248, 14, 249, 250, 251, 252, 253, 74, 254, 818, 819, 820, 821, 822, 823, 824, 825, 826, 827, 859, 860, 861, 862, 856, 857, 858, 849, 850, 851, 853, 854, 855, 852] (by decide +kernel) (by decide +kernel)
set_option maxRecDepth 20000 in
theorem gL_law_X6_driver : GoodIn wsL_law (wsV RL 39 RX6 yX6_driver wsX6_driver) := goodIn_app (goodIn_of _ (by decide +kernel)) ggL_law_X6_driver
set_option maxRecDepth 20000 in
theorem ggL_law_X7_driver : GoodIn wsL_law wsX7_driver := goodIn_r _ [367, 259, 260, 261, 5, 262, 90, 91, 263, 264, 265, 368, 369, 370, 371, 273, 274, 275, 276, 277, 278, 279, 288, 289, 290, 291, 292, 92, 293, 294, 295, 296, 93, 828, 829, 830, 831, 832, 833, 834, 835, 836, 837, 838, 839, 840, 841, 842, 843, 844, 845, 846, 847, 848] (by decide +kernel) (by decide +kernel)
set_option maxRecDepth 20000 in
theorem gL_law_X7_driver : GoodIn wsL_law (wsV RL 42 RX7 yX7_driver wsX7_driver) := goodIn_app (goodIn_of _ (by decide +kernel)) ggL_law_X7_driver
set_option maxRecDepth 20000 in
theorem ggL_law_X6_sets : GoodIn wsL_law wsX6_sets := goodIn_r _ [375, 105, 106, 107, 2, 108, 34, 30, 109, 110, 111, 33, 112, 75, 72, 73, 113, 114, 115, 116, 117, 118, 119, 29, 120, 66, 121, 122, 123, 124, 65, 125, 126, 127, 128, 129, 130, 131, 17, 132, 47, 133, 134, 135, 136, 64, 137, 138, 139, 140, 141, 142, 143, 144, 145, 146, 147, 148, 149, 150, 151, 152, 153, 154, 155, 156, 25, 157, 57, 158, 159, 160, 161, 58, 162, 163, 164, 165, 166, 167, 168, 169, 170, 59, 171, 172, 173, 174, 45, 175, 176, 177, 178, 46, 179, 180, 181, 182, 183, 184, 185, 186, 187, 188, 189, 190, 191, 192, 193, 194, 195, 196, 197, 198, 199, 200, 201, 202, 203, 204, 205, 206, 207, 208, 209, 210, 211, 212, 213, 214, 215, 21, 216, 52, 217, 218, 219, 220, 221, 222, 223, 224, 225, 226, 227, 228, 229, 230, 231, 232, 233, 234, 235, 236, 237, 238, 239, 240, 241, 242, 243, 244, 245, 246, 247, 248, 14, 249, 250, 251, 252, 253, 74, 254, 818, 819, 820, 821, 822, 823, 824, 825, 826, 827, 859, 860, 861, 862, 856, 857, 858, 849, 850, 851, 853, 854, 855, 852] (by decide +kernel) (by decide +kernel)
set_option maxRecDepth 20000 in
theorem gL_law_X6_sets : GoodIn wsL_law (wsV RL 43 RX6 yX6_sets wsX6_sets) := goodIn_app (goodIn_of _ (by decide +kernel)) ggL_law_X6_sets
set_option maxRecDepth 20000 in
theorem ggL_law_X7_sets : GoodIn wsL_law wsX7_sets := goodIn_r _ [379, 259, 260, 261, 5, 262, 90, 91, 263, 264, 265, 273, 274, 275, 276, 277, 278, 279, 288, 289, 290, 291, 292, 92, 293, 294, 295, 296, 93, 828, 829, 830, 831, 832, 833, 834, 835, 836, 837, 838, 839, 840, 841, 842, 843, 844, 845, 846, 847, 848] (by decide +kernel) (by decide +kernel)
set_option maxRecDepth 20000 in
theorem gL_law_X7_sets : GoodIn wsL_law (wsV RL 46 RX7 yX7_sets wsX7_sets) := goodIn_app (goodIn_of _ (by decide +kernel)) ggL_law_X7_sets
set_option maxRecDepth 20000 in
theorem ggL_law_X6_of : GoodIn wsL_law wsX6_of := goodIn_r _ [383, 13, 18, 384, 125, 2, 126, 245, 246, 247, 248, 14, 249, 127, 128, 385, 142, 143, 17, 144, 47, 386, 387, 388, 389, 205, 206, 207, 208, 166, 187, 188, 189, 190, 191, 192, 193, 194, 195, 196, 818, 819, 820, 821, 822, 823, 824, 825, 826, 827, 849, 850, 851] (by decide +kernel) (by decide +kernel)
set_option maxRecDepth 20000 in
theorem gL_law_X6_of : GoodIn wsL_law (wsV RL 47 RX6 yX6_of wsX6_of) := goodIn_app (goodIn_of _ (by decide +kernel)) ggL_law_X6_of
set_option maxRecDepth 20000 in
theorem ggL_law_X7_of : GoodIn wsL_law wsX7_of := goodIn_r _ [393, 270, 271, 5, 272, 273, 274, 275, 394, 395, 396, 397, 90, 284, 285, 286, 287, 398, 399, 400, 401, 402, 403, 404, 405, 406, 407, 408, 293, 294, 295, 296, 93, 828, 829, 830, 831, 832, 833, 834, 835, 836, 837, 838, 839, 840, 841, 842, 843, 844, 845, 846, 847, 848] (by decide +kernel) (by decide +kernel)
set_option maxRecDepth 20000 in
theorem gL_law_X7_of : GoodIn wsL_law (wsV RL 50 RX7 yX7_of wsX7_of) := goodIn_app (goodIn_of _ (by decide +kernel)) ggL_law_X7_of
set_option maxRecDepth 20000 in
theorem ggL_law_X6_clutch : GoodIn wsL_law wsX6_clutch := goodIn_r _ [412, 13, 18, 413, 149, 2, 150, 245, 246, 247, 248, 14, 249, 127, 128, 414, 415, 416, 17, 417, 47, 818, 819, 820, 821, 822, 823, 824, 825, 826, 827, 849, 850, 851] (by decide +kernel) (by decide +kernel)
set_option maxRecDepth 20000 in
theorem gL_law_X6_clutch : GoodIn wsL_law (wsV RL 51 RX6 yX6_clutch wsX6_clutch) := goodIn_app (goodIn_of _ (by decide +kernel)) ggL_law_X6_clutch
