set_option maxRecDepth 20000 in
theorem gp1_L_learns_X6_puts : GoodIn wsL_learns (.code yX6_puts cX6_puts 2 (some .int) :: wsX6_puts_r1) := goodIn_r _ [251, 93, 94, 95, 3, 96, 32, 28, 97, 98, 99, 31, 100, 73, 70, 71, 101, 102, 103, 104, 105, 106, 107, 27, 108] (by decide +kernel) (by decide +kernel)
set_option maxRecDepth 20000 in
theorem gp2_L_learns_X6_puts : GoodIn wsL_learns (wsX6_puts_r2) := goodIn_r _ [64, 109, 110, 111, 112, 63, 113, 114, 115, 116, 117, 118, 119, 15, 120, 45, 121, 122, 123, 124, 62, 125, 126, 127] (by decide +kernel) (by decide +kernel)
set_option maxRecDepth 20000 in
theorem gp3_L_learns_X6_puts : GoodIn wsL_learns (wsX6_puts_r3) := goodIn_r _ [128, 129, 130, 131, 132, 133, 134, 135, 136, 137, 138, 139, 140, 141, 142, 143, 144, 23, 145, 55, 146, 147, 148, 149] (by decide +kernel) (by decide +kernel)
set_option maxRecDepth 20000 in
theorem gp4_L_learns_X6_puts : GoodIn wsL_learns (wsX6_puts_r4) := goodIn_r _ [56, 57, 150, 151, 152, 153, 154, 155, 156, 157, 158, 159, 160, 161, 162, 43, 163, 44, 164, 165, 166, 167, 168, 169] (by decide +kernel) (by decide +kernel)
set_option maxRecDepth 20000 in
theorem gp5_L_learns_X6_puts : GoodIn wsL_learns (wsX6_puts_r5) := goodIn_r _ [170, 171, 172, 173, 174, 175, 176, 177, 178, 179, 180, 181, 182, 183, 184, 185, 186, 187, 188, 189, 190, 191, 192, 193] (by decide +kernel) (by decide +kernel)
set_option maxRecDepth 20000 in
theorem gp6_L_learns_X6_puts : GoodIn wsL_learns (wsX6_puts_r6) := goodIn_r _ [194, 195, 196, 197, 198, 199, 200, 19, 201, 50, 202, 203, 204, 205, 206, 207, 208, 209, 210, 211, 212, 213, 214, 215] (by decide +kernel) (by decide +kernel)
set_option maxRecDepth 20000 in
theorem gp7_L_learns_X6_puts : GoodIn wsL_learns (wsX6_puts_r7) := goodIn_r _ [216, 217, 218, 219, 220, 221, 222, 223, 224, 225, 226, 227, 228, 229, 230, 231, 232, 233, 12, 234, 235, 236, 237, 238] (by decide +kernel) (by decide +kernel)
set_option maxRecDepth 20000 in
theorem gp8_L_learns_X6_puts : GoodIn wsL_learns (wsX6_puts_r8) := goodIn_r _ [72, 239] (by decide +kernel) (by decide +kernel)
set_option maxRecDepth 20000 in
theorem gp9_L_learns_X6_puts : GoodIn wsL_learns (wsX60) := goodIn_r _ [273, 274, 275, 276, 277, 278, 279, 280, 281, 282] (by decide +kernel) (by decide +kernel)
set_option maxRecDepth 20000 in
theorem gp10_L_learns_X6_puts : GoodIn wsL_learns (wsX40) := goodIn_r _ [293, 294, 295, 296] (by decide +kernel) (by decide +kernel)
set_option maxRecDepth 20000 in
theorem gp11_L_learns_X6_puts : GoodIn wsL_learns (wsX20) := goodIn_r _ [290, 291, 292] (by decide +kernel) (by decide +kernel)
set_option maxRecDepth 20000 in
theorem gp12_L_learns_X6_puts : GoodIn wsL_learns (wsX10) := goodIn_r _ [283, 284, 285] (by decide +kernel) (by decide +kernel)
set_option maxRecDepth 20000 in
theorem gp13_L_learns_X6_puts : GoodIn wsL_learns (wsX00) := goodIn_r _ [287, 288, 289] (by decide +kernel) (by decide +kernel)
set_option maxRecDepth 20000 in
theorem gp14_L_learns_X6_puts : GoodIn wsL_learns (wsX30) := goodIn_r _ [286] (by decide +kernel) (by decide +kernel)
theorem ggL_learns_X6_puts : GoodIn wsL_learns wsX6_puts := (goodIn_ca (goodIn_ca (goodIn_ca (goodIn_ca (goodIn_ca (goodIn_ca (goodIn_ca gp1_L_learns_X6_puts (goodIn_app gp2_L_learns_X6_puts (goodIn_app gp3_L_learns_X6_puts (goodIn_app gp4_L_learns_X6_puts (goodIn_app gp5_L_learns_X6_puts (goodIn_app gp6_L_learns_X6_puts (goodIn_app gp7_L_learns_X6_puts gp8_L_learns_X6_puts))))))) gp9_L_learns_X6_puts) gp10_L_learns_X6_puts) gp11_L_learns_X6_puts) gp12_L_learns_X6_puts) gp13_L_learns_X6_puts) gp14_L_learns_X6_puts)
set_option maxRecDepth 20000 in
theorem gL_learns_X6_puts : GoodIn wsL_learns (wsV RL 67 RX6 yX6_puts wsX6_puts) := goodIn_app (goodIn_of _ (by decide +kernel)) ggL_learns_X6_puts
