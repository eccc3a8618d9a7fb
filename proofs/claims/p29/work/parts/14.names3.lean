theorem dX1_findWay_113 : decode cX1_findWay 113 = .ok (.iastore, 1) := by decide +kernel
theorem dX1_findWay_114 : decode cX1_findWay 114 = .ok (.iinc 5 1, 3) := by decide +kernel
theorem dX1_findWay_117 : decode cX1_findWay 117 = .ok (.goto (-65), 3) := by decide +kernel
theorem dX1_findWay_120 : decode cX1_findWay 120 = .ok (.iinc 4 1, 3) := by decide +kernel
theorem dX1_findWay_123 : decode cX1_findWay 123 = .ok (.goto (-81), 3) := by decide +kernel
theorem dX1_findWay_126 : decode cX1_findWay 126 = .ok (.iload_n 1, 1) := by decide +kernel
theorem dX1_findWay_127 : decode cX1_findWay 127 = .ok (.invokestatic 46, 3) := by decide +kernel
theorem dX1_findWay_130 : decode cX1_findWay 130 = .ok (.ifCond .eq 16, 3) := by decide +kernel
theorem dX1_findWay_133 : decode cX1_findWay 133 = .ok (.iconst 0, 1) := by decide +kernel
theorem dX1_findWay_134 : decode cX1_findWay 134 = .ok (.aload_n 0, 1) := by decide +kernel
theorem dX1_findWay_135 : decode cX1_findWay 135 = .ok (.getfield 9, 3) := by decide +kernel
theorem dX1_findWay_138 : decode cX1_findWay 138 = .ok (.iload_n 1, 1) := by decide +kernel
theorem dX1_findWay_139 : decode cX1_findWay 139 = .ok (.iaload, 1) := by decide +kernel
theorem dX1_findWay_140 : decode cX1_findWay 140 = .ok (.invokestatic 49, 3) := by decide +kernel
theorem dX1_findWay_143 : decode cX1_findWay 143 = .ok (.goto 4, 3) := by decide +kernel
theorem dX1_findWay_146 : decode cX1_findWay 146 = .ok (.iconst 0, 1) := by decide +kernel
theorem dX1_findWay_147 : decode cX1_findWay 147 = .ok (.istore 4, 2) := by decide +kernel
theorem dX1_findWay_149 : decode cX1_findWay 149 = .ok (.iload_n 1, 1) := by decide +kernel
theorem dX1_findWay_150 : decode cX1_findWay 150 = .ok (.istore 5, 2) := by decide +kernel
theorem dX1_findWay_152 : decode cX1_findWay 152 = .ok (.iconst 0, 1) := by decide +kernel
theorem dX1_findWay_153 : decode cX1_findWay 153 = .ok (.istore 6, 2) := by decide +kernel
theorem dX1_findWay_155 : decode cX1_findWay 155 = .ok (.iload 6, 2) := by decide +kernel
theorem dX1_findWay_157 : decode cX1_findWay 157 = .ok (.iload 4, 2) := by decide +kernel
theorem dX1_findWay_159 : decode cX1_findWay 159 = .ok (.if_icmp .ge 33, 3) := by decide +kernel
theorem dX1_findWay_162 : decode cX1_findWay 162 = .ok (.aload_n 0, 1) := by decide +kernel
theorem dX1_findWay_163 : decode cX1_findWay 163 = .ok (.iload 5, 2) := by decide +kernel
theorem dX1_findWay_165 : decode cX1_findWay 165 = .ok (.iload 4, 2) := by decide +kernel
theorem dX1_findWay_167 : decode cX1_findWay 167 = .ok (.iload 6, 2) := by decide +kernel
theorem dX1_findWay_169 : decode cX1_findWay 169 = .ok (.isub, 1) := by decide +kernel
theorem dX1_findWay_170 : decode cX1_findWay 170 = .ok (.iconst 1, 1) := by decide +kernel
theorem dX1_findWay_171 : decode cX1_findWay 171 = .ok (.isub, 1) := by decide +kernel
theorem dX1_findWay_172 : decode cX1_findWay 172 = .ok (.invokevirtual 42, 3) := by decide +kernel
theorem dX1_findWay_175 : decode cX1_findWay 175 = .ok (.istore 5, 2) := by decide +kernel
theorem dX1_findWay_177 : decode cX1_findWay 177 = .ok (.aload_n 0, 1) := by decide +kernel
theorem dX1_findWay_178 : decode cX1_findWay 178 = .ok (.getfield 15, 3) := by decide +kernel
theorem dX1_findWay_181 : decode cX1_findWay 181 = .ok (.iload 6, 2) := by decide +kernel
theorem dX1_findWay_183 : decode cX1_findWay 183 = .ok (.iload 5, 2) := by decide +kernel
theorem dX1_findWay_185 : decode cX1_findWay 185 = .ok (.iastore, 1) := by decide +kernel
theorem dX1_findWay_186 : decode cX1_findWay 186 = .ok (.iinc 6 1, 3) := by decide +kernel
theorem dX1_findWay_189 : decode cX1_findWay 189 = .ok (.goto (-34), 3) := by decide +kernel
theorem dX1_findWay_192 : decode cX1_findWay 192 = .ok (.iload 4, 2) := by decide +kernel
theorem dX1_findWay_194 : decode cX1_findWay 194 = .ok (.ireturn, 1) := by decide +kernel
theorem dX1_onWay_0 : decode cX1_onWay 0 = .ok (.iload_n 1, 1) := by decide +kernel
theorem dX1_onWay_1 : decode cX1_onWay 1 = .ok (.ifCond .lt 18, 3) := by decide +kernel
theorem dX1_onWay_4 : decode cX1_onWay 4 = .ok (.iload_n 1, 1) := by decide +kernel
theorem dX1_onWay_5 : decode cX1_onWay 5 = .ok (.bipush 7, 2) := by decide +kernel
theorem dX1_onWay_7 : decode cX1_onWay 7 = .ok (.if_icmp .ge 12, 3) := by decide +kernel
theorem dX1_onWay_10 : decode cX1_onWay 10 = .ok (.aload_n 0, 1) := by decide +kernel
theorem dX1_onWay_11 : decode cX1_onWay 11 = .ok (.getfield 15, 3) := by decide +kernel
theorem dX1_onWay_14 : decode cX1_onWay 14 = .ok (.iload_n 1, 1) := by decide +kernel
theorem dX1_onWay_15 : decode cX1_onWay 15 = .ok (.iaload, 1) := by decide +kernel
theorem dX1_onWay_16 : decode cX1_onWay 16 = .ok (.goto 4, 3) := by decide +kernel
theorem dX1_onWay_19 : decode cX1_onWay 19 = .ok (.iconst (-1), 1) := by decide +kernel
theorem dX1_onWay_20 : decode cX1_onWay 20 = .ok (.ireturn, 1) := by decide +kernel
set_option maxRecDepth 20000 in
theorem ggX1_nearer_X1_swapsOne : GoodIn wsX1_nearer wsX1_swapsOne := goodIn_r _ [6, 7, 8, 9, 10, 11, 12, 13] (by decide +kernel) (by decide +kernel)
set_option maxRecDepth 20000 in
theorem gX1_nearer_X1_swapsOne : GoodIn wsX1_nearer (va_wsS RX1 25 yX1_swapsOne wsX1_swapsOne) := goodIn_app (goodIn_of _ (by decide +kernel)) ggX1_nearer_X1_swapsOne
theorem dX1_nearer_0 : decode cX1_nearer 0 = .ok (.iconst 1, 1) := by decide +kernel
theorem dX1_nearer_1 : decode cX1_nearer 1 = .ok (.istore_n 3, 1) := by decide +kernel
theorem dX1_nearer_2 : decode cX1_nearer 2 = .ok (.iload_n 3, 1) := by decide +kernel
theorem dX1_nearer_3 : decode cX1_nearer 3 = .ok (.bipush 7, 2) := by decide +kernel
theorem dX1_nearer_5 : decode cX1_nearer 5 = .ok (.if_icmp .gt 43, 3) := by decide +kernel
theorem dX1_nearer_8 : decode cX1_nearer 8 = .ok (.aload_n 0, 1) := by decide +kernel
theorem dX1_nearer_9 : decode cX1_nearer 9 = .ok (.getfield 9, 3) := by decide +kernel
theorem dX1_nearer_12 : decode cX1_nearer 12 = .ok (.iload_n 3, 1) := by decide +kernel
theorem dX1_nearer_13 : decode cX1_nearer 13 = .ok (.iaload, 1) := by decide +kernel
theorem dX1_nearer_14 : decode cX1_nearer 14 = .ok (.iload_n 2, 1) := by decide +kernel
theorem dX1_nearer_15 : decode cX1_nearer 15 = .ok (.if_icmp .ne 27, 3) := by decide +kernel
theorem dX1_nearer_18 : decode cX1_nearer 18 = .ok (.aload_n 0, 1) := by decide +kernel
theorem dX1_nearer_19 : decode cX1_nearer 19 = .ok (.getfield 18, 3) := by decide +kernel
theorem dX1_nearer_22 : decode cX1_nearer 22 = .ok (.iconst 0, 1) := by decide +kernel
theorem dX1_nearer_23 : decode cX1_nearer 23 = .ok (.iload_n 1, 1) := by decide +kernel
theorem dX1_nearer_24 : decode cX1_nearer 24 = .ok (.iadd, 1) := by decide +kernel
theorem dX1_nearer_25 : decode cX1_nearer 25 = .ok (.iaload, 1) := by decide +kernel
theorem dX1_nearer_26 : decode cX1_nearer 26 = .ok (.aload_n 0, 1) := by decide +kernel
theorem dX1_nearer_27 : decode cX1_nearer 27 = .ok (.getfield 18, 3) := by decide +kernel
theorem dX1_nearer_30 : decode cX1_nearer 30 = .ok (.iconst 0, 1) := by decide +kernel
theorem dX1_nearer_31 : decode cX1_nearer 31 = .ok (.iload_n 3, 1) := by decide +kernel
theorem dX1_nearer_32 : decode cX1_nearer 32 = .ok (.iadd, 1) := by decide +kernel
theorem dX1_nearer_33 : decode cX1_nearer 33 = .ok (.iaload, 1) := by decide +kernel
theorem dX1_nearer_34 : decode cX1_nearer 34 = .ok (.invokestatic 25, 3) := by decide +kernel
theorem dX1_nearer_37 : decode cX1_nearer 37 = .ok (.ifCond .eq 5, 3) := by decide +kernel
theorem dX1_nearer_40 : decode cX1_nearer 40 = .ok (.iload_n 3, 1) := by decide +kernel
theorem dX1_nearer_41 : decode cX1_nearer 41 = .ok (.ireturn, 1) := by decide +kernel
theorem dX1_nearer_42 : decode cX1_nearer 42 = .ok (.iinc 3 1, 3) := by decide +kernel
theorem dX1_nearer_45 : decode cX1_nearer 45 = .ok (.goto (-43), 3) := by decide +kernel
theorem dX1_nearer_48 : decode cX1_nearer 48 = .ok (.iconst 0, 1) := by decide +kernel
theorem dX1_nearer_49 : decode cX1_nearer 49 = .ok (.ireturn, 1) := by decide +kernel
set_option maxRecDepth 20000 in
theorem ggX1_swapsOne_J6_bitCount_0f7a4 : GoodIn wsX1_swapsOne wsJ6_bitCount_0f7a4 := goodIn_r _ [4, 5, 6, 7] (by decide +kernel) (by decide +kernel)
set_option maxRecDepth 20000 in
theorem gX1_swapsOne_J6_bitCount_0f7a4 : GoodIn wsX1_swapsOne (va_wsS RX1 54 yJ6_bitCount_0f7a4 wsJ6_bitCount_0f7a4) := goodIn_app (goodIn_of _ (by decide +kernel)) ggX1_swapsOne_J6_bitCount_0f7a4
theorem dX1_swapsOne_0 : decode cX1_swapsOne 0 = .ok (.iload_n 0, 1) := by decide +kernel
theorem dX1_swapsOne_1 : decode cX1_swapsOne 1 = .ok (.iload_n 1, 1) := by decide +kernel
theorem dX1_swapsOne_2 : decode cX1_swapsOne 2 = .ok (.iconst (-1), 1) := by decide +kernel
theorem dX1_swapsOne_3 : decode cX1_swapsOne 3 = .ok (.ixor, 1) := by decide +kernel
theorem dX1_swapsOne_4 : decode cX1_swapsOne 4 = .ok (.iand, 1) := by decide +kernel
theorem dX1_swapsOne_5 : decode cX1_swapsOne 5 = .ok (.invokestatic 54, 3) := by decide +kernel
theorem dX1_swapsOne_8 : decode cX1_swapsOne 8 = .ok (.iconst 1, 1) := by decide +kernel
theorem dX1_swapsOne_9 : decode cX1_swapsOne 9 = .ok (.if_icmp .ne 19, 3) := by decide +kernel
theorem dX1_swapsOne_12 : decode cX1_swapsOne 12 = .ok (.iload_n 1, 1) := by decide +kernel
theorem dX1_swapsOne_13 : decode cX1_swapsOne 13 = .ok (.iload_n 0, 1) := by decide +kernel
theorem dX1_swapsOne_14 : decode cX1_swapsOne 14 = .ok (.iconst (-1), 1) := by decide +kernel
theorem dX1_swapsOne_15 : decode cX1_swapsOne 15 = .ok (.ixor, 1) := by decide +kernel
theorem dX1_swapsOne_16 : decode cX1_swapsOne 16 = .ok (.iand, 1) := by decide +kernel
theorem dX1_swapsOne_17 : decode cX1_swapsOne 17 = .ok (.invokestatic 54, 3) := by decide +kernel
theorem dX1_swapsOne_20 : decode cX1_swapsOne 20 = .ok (.iconst 1, 1) := by decide +kernel
theorem dX1_swapsOne_21 : decode cX1_swapsOne 21 = .ok (.if_icmp .ne 7, 3) := by decide +kernel
theorem dX1_swapsOne_24 : decode cX1_swapsOne 24 = .ok (.iconst 1, 1) := by decide +kernel
theorem dX1_swapsOne_25 : decode cX1_swapsOne 25 = .ok (.goto 4, 3) := by decide +kernel
theorem dX1_swapsOne_28 : decode cX1_swapsOne 28 = .ok (.iconst 0, 1) := by decide +kernel
theorem dX1_swapsOne_29 : decode cX1_swapsOne 29 = .ok (.ireturn, 1) := by decide +kernel
theorem dX2_init_0 : decode cX2_init 0 = .ok (.aload_n 0, 1) := by decide +kernel
theorem dX2_init_1 : decode cX2_init 1 = .ok (.invokespecial 3, 3) := by decide +kernel
theorem dX2_init_4 : decode cX2_init 4 = .ok (.aload_n 0, 1) := by decide +kernel
theorem dX2_init_5 : decode cX2_init 5 = .ok (.aload_n 1, 1) := by decide +kernel
theorem dX2_init_6 : decode cX2_init 6 = .ok (.putfield 9, 3) := by decide +kernel
theorem dX2_init_9 : decode cX2_init 9 = .ok (.aload_n 0, 1) := by decide +kernel
theorem dX2_init_10 : decode cX2_init 10 = .ok (.aload_n 2, 1) := by decide +kernel
theorem dX2_init_11 : decode cX2_init 11 = .ok (.putfield 15, 3) := by decide +kernel
theorem dX2_init_14 : decode cX2_init 14 = .ok (.aload_n 0, 1) := by decide +kernel
theorem dX2_init_15 : decode cX2_init 15 = .ok (.aload_n 3, 1) := by decide +kernel
theorem dX2_init_16 : decode cX2_init 16 = .ok (.putfield 19, 3) := by decide +kernel
theorem dX2_init_19 : decode cX2_init 19 = .ok (.return_, 1) := by decide +kernel
set_option maxRecDepth 20000 in
theorem ggX2_obey_X2_changeSet : GoodIn wsX2_obey wsX2_changeSet := goodIn_r _ [6, 7, 8, 9, 10, 11, 12, 13, 14, 15, 16, 17, 18, 19, 20, 21, 5, 22, 23, 24, 25, 26, 27, 28, 29, 30, 31, 137, 138, 139, 140, 141, 142] (by decide +kernel) (by decide +kernel)
set_option maxRecDepth 20000 in
theorem gX2_obey_X2_changeSet : GoodIn wsX2_obey (wsV RX2 23 RX2 yX2_changeSet wsX2_changeSet) := goodIn_app (goodIn_of _ (by decide +kernel)) ggX2_obey_X2_changeSet
set_option maxRecDepth 20000 in
theorem ggX2_obey_X2_changeStatus : GoodIn wsX2_obey wsX2_changeStatus := goodIn_r _ [35, 36, 9, 37, 11, 12, 19, 20, 21, 5, 22, 23, 24, 25, 26, 27, 7, 28, 29, 30, 16, 31, 18, 137, 138, 139, 140, 141, 142] (by decide +kernel) (by decide +kernel)
set_option maxRecDepth 20000 in
theorem gX2_obey_X2_changeStatus : GoodIn wsX2_obey (wsV RX2 27 RX2 yX2_changeStatus wsX2_changeStatus) := goodIn_app (goodIn_of _ (by decide +kernel)) ggX2_obey_X2_changeStatus
set_option maxRecDepth 20000 in
theorem ggX2_obey_X6_isClutch : GoodIn wsX2_obey wsX6_isClutch := goodIn_r _ [37] (by decide +kernel) (by decide +kernel)
set_option maxRecDepth 20000 in
theorem gX2_obey_X6_isClutch_n30 : GoodIn wsX2_obey (wsX6_isClutch) := ggX2_obey_X6_isClutch
set_option maxRecDepth 20000 in
theorem ggX2_obey_X6_isWithin : GoodIn wsX2_obey wsX6_isWithin := goodIn_r _ [12] (by decide +kernel) (by decide +kernel)
set_option maxRecDepth 20000 in
theorem gX2_obey_X6_isWithin_n34 : GoodIn wsX2_obey (wsX6_isWithin) := ggX2_obey_X6_isWithin
set_option maxRecDepth 20000 in
theorem ggX2_obey_X2_replace : GoodIn wsX2_obey wsX2_replace := goodIn_r _ [22, 23, 137, 138, 139] (by decide +kernel) (by decide +kernel)
set_option maxRecDepth 20000 in
theorem gX2_obey_X2_replace : GoodIn wsX2_obey (wsV RX2 38 RX2 yX2_replace wsX2_replace) := goodIn_app (goodIn_of _ (by decide +kernel)) ggX2_obey_X2_replace
set_option maxRecDepth 20000 in
theorem ggX2_obey_X6_isGear : GoodIn wsX2_obey wsX6_isGear := goodIn_r _ [10] (by decide +kernel) (by decide +kernel)
set_option maxRecDepth 20000 in
theorem gX2_obey_X6_isGear_n42 : GoodIn wsX2_obey (wsX6_isGear) := ggX2_obey_X6_isGear
set_option maxRecDepth 20000 in
theorem ggX2_obey_X2_areTicks : GoodIn wsX2_obey wsX2_areTicks := goodIn_r _ [40, 11, 9, 12] (by decide +kernel) (by decide +kernel)
set_option maxRecDepth 20000 in
theorem gX2_obey_X2_areTicks : GoodIn wsX2_obey (va_wsS RX2 45 yX2_areTicks wsX2_areTicks) := goodIn_app (goodIn_of _ (by decide +kernel)) ggX2_obey_X2_areTicks
set_option maxRecDepth 20000 in
theorem ggX2_obey_X0_ticks : GoodIn wsX2_obey wsX0_ticks := goodIn_r _ [45, 46, 47, 48, 49, 50, 51, 52, 53, 54, 55, 44, 56, 8, 9, 10, 57, 58, 59, 16, 60, 61, 29, 30, 31, 18, 62, 63, 64, 65, 66, 67, 68, 69, 70, 71, 72, 73, 74, 75, 76, 77, 78, 79, 80, 81, 82, 83, 84, 85, 86, 87, 88, 89, 90, 91, 92, 93, 94, 95, 96, 97, 98, 99, 100, 101, 102, 103, 104, 105, 106, 107, 108, 109, 110, 111, 112, 36, 37, 113, 114, 115, 116, 117, 118, 119, 120, 121, 122, 123, 124, 125, 126, 127, 128, 143, 144, 145, 140, 141, 142, 146] (by decide +kernel) (by decide +kernel)
set_option maxRecDepth 20000 in
theorem gX2_obey_X0_ticks : GoodIn wsX2_obey (wsV RX2 49 RX0 yX0_ticks wsX0_ticks) := goodIn_app (goodIn_of _ (by decide +kernel)) ggX2_obey_X0_ticks
set_option maxRecDepth 20000 in
theorem ggX2_obey_X2_changeRule : GoodIn wsX2_obey wsX2_changeRule := goodIn_r _ [132, 11, 9, 12, 19, 20, 21, 5, 22, 23, 137, 138, 139] (by decide +kernel) (by decide +kernel)
set_option maxRecDepth 20000 in
theorem gX2_obey_X2_changeRule : GoodIn wsX2_obey (wsV RX2 54 RX2 yX2_changeRule wsX2_changeRule) := goodIn_app (goodIn_of _ (by decide +kernel)) ggX2_obey_X2_changeRule
set_option maxRecDepth 20000 in
theorem ggX2_obey_X2_putIn : GoodIn wsX2_obey wsX2_putIn := goodIn_r _ [136, 7, 8, 9, 10, 28, 29, 30, 16, 31, 18, 19, 20, 21, 5, 22, 23, 137, 138, 139, 140, 141, 142] (by decide +kernel) (by decide +kernel)
set_option maxRecDepth 20000 in
theorem gX2_obey_X2_putIn : GoodIn wsX2_obey (wsV RX2 57 RX2 yX2_putIn wsX2_putIn) := goodIn_app (goodIn_of _ (by decide +kernel)) ggX2_obey_X2_putIn
theorem dX2_obey_0 : decode cX2_obey 0 = .ok (.iload_n 1, 1) := by decide +kernel
theorem dX2_obey_1 : decode cX2_obey 1 = .ok (.tableswitch 234 0 9 #[55, 62, 69, 101, 134, 167, 184, 198, 221, 228], 55) := by decide +kernel
theorem dX2_obey_56 : decode cX2_obey 56 = .ok (.aload_n 0, 1) := by decide +kernel
theorem dX2_obey_57 : decode cX2_obey 57 = .ok (.iload_n 2, 1) := by decide +kernel
theorem dX2_obey_58 : decode cX2_obey 58 = .ok (.iload_n 3, 1) := by decide +kernel
theorem dX2_obey_59 : decode cX2_obey 59 = .ok (.invokevirtual 23, 3) := by decide +kernel
theorem dX2_obey_62 : decode cX2_obey 62 = .ok (.ireturn, 1) := by decide +kernel
theorem dX2_obey_63 : decode cX2_obey 63 = .ok (.aload_n 0, 1) := by decide +kernel
theorem dX2_obey_64 : decode cX2_obey 64 = .ok (.iload_n 2, 1) := by decide +kernel
theorem dX2_obey_65 : decode cX2_obey 65 = .ok (.iload_n 3, 1) := by decide +kernel
theorem dX2_obey_66 : decode cX2_obey 66 = .ok (.invokevirtual 27, 3) := by decide +kernel
theorem dX2_obey_69 : decode cX2_obey 69 = .ok (.ireturn, 1) := by decide +kernel
theorem dX2_obey_70 : decode cX2_obey 70 = .ok (.aload_n 0, 1) := by decide +kernel
theorem dX2_obey_71 : decode cX2_obey 71 = .ok (.iload_n 2, 1) := by decide +kernel
theorem dX2_obey_72 : decode cX2_obey 72 = .ok (.invokestatic 30, 3) := by decide +kernel
theorem dX2_obey_75 : decode cX2_obey 75 = .ok (.ifCond .eq 17, 3) := by decide +kernel
theorem dX2_obey_78 : decode cX2_obey 78 = .ok (.iload_n 3, 1) := by decide +kernel
theorem dX2_obey_79 : decode cX2_obey 79 = .ok (.iconst 1, 1) := by decide +kernel
theorem dX2_obey_80 : decode cX2_obey 80 = .ok (.bipush 20, 2) := by decide +kernel
theorem dX2_obey_82 : decode cX2_obey 82 = .ok (.invokestatic 34, 3) := by decide +kernel
theorem dX2_obey_85 : decode cX2_obey 85 = .ok (.ifCond .eq 7, 3) := by decide +kernel
theorem dX2_obey_88 : decode cX2_obey 88 = .ok (.iconst 1, 1) := by decide +kernel
theorem dX2_obey_89 : decode cX2_obey 89 = .ok (.goto 4, 3) := by decide +kernel
theorem dX2_obey_92 : decode cX2_obey 92 = .ok (.iconst 0, 1) := by decide +kernel
theorem dX2_obey_93 : decode cX2_obey 93 = .ok (.bipush 29, 2) := by decide +kernel
theorem dX2_obey_95 : decode cX2_obey 95 = .ok (.iload_n 2, 1) := by decide +kernel
theorem dX2_obey_96 : decode cX2_obey 96 = .ok (.iadd, 1) := by decide +kernel
theorem dX2_obey_97 : decode cX2_obey 97 = .ok (.iload_n 3, 1) := by decide +kernel
theorem dX2_obey_98 : decode cX2_obey 98 = .ok (.invokevirtual 38, 3) := by decide +kernel
theorem dX2_obey_101 : decode cX2_obey 101 = .ok (.ireturn, 1) := by decide +kernel
theorem dX2_obey_102 : decode cX2_obey 102 = .ok (.aload_n 0, 1) := by decide +kernel
theorem dX2_obey_103 : decode cX2_obey 103 = .ok (.iload_n 2, 1) := by decide +kernel
theorem dX2_obey_104 : decode cX2_obey 104 = .ok (.invokestatic 42, 3) := by decide +kernel
theorem dX2_obey_107 : decode cX2_obey 107 = .ok (.ifCond .eq 18, 3) := by decide +kernel
theorem dX2_obey_110 : decode cX2_obey 110 = .ok (.iload_n 3, 1) := by decide +kernel
theorem dX2_obey_111 : decode cX2_obey 111 = .ok (.iconst 0, 1) := by decide +kernel
theorem dX2_obey_112 : decode cX2_obey 112 = .ok (.sipush 300, 3) := by decide +kernel
theorem dX2_obey_115 : decode cX2_obey 115 = .ok (.invokestatic 34, 3) := by decide +kernel
theorem dX2_obey_118 : decode cX2_obey 118 = .ok (.ifCond .eq 7, 3) := by decide +kernel
theorem dX2_obey_121 : decode cX2_obey 121 = .ok (.iconst 1, 1) := by decide +kernel
theorem dX2_obey_122 : decode cX2_obey 122 = .ok (.goto 4, 3) := by decide +kernel
theorem dX2_obey_125 : decode cX2_obey 125 = .ok (.iconst 0, 1) := by decide +kernel
theorem dX2_obey_126 : decode cX2_obey 126 = .ok (.bipush 8, 2) := by decide +kernel
theorem dX2_obey_128 : decode cX2_obey 128 = .ok (.iload_n 2, 1) := by decide +kernel
theorem dX2_obey_129 : decode cX2_obey 129 = .ok (.iadd, 1) := by decide +kernel
theorem dX2_obey_130 : decode cX2_obey 130 = .ok (.iload_n 3, 1) := by decide +kernel
theorem dX2_obey_131 : decode cX2_obey 131 = .ok (.invokevirtual 38, 3) := by decide +kernel
theorem dX2_obey_134 : decode cX2_obey 134 = .ok (.ireturn, 1) := by decide +kernel
theorem dX2_obey_135 : decode cX2_obey 135 = .ok (.aload_n 0, 1) := by decide +kernel
theorem dX2_obey_136 : decode cX2_obey 136 = .ok (.iload_n 2, 1) := by decide +kernel
theorem dX2_obey_137 : decode cX2_obey 137 = .ok (.invokestatic 42, 3) := by decide +kernel
theorem dX2_obey_140 : decode cX2_obey 140 = .ok (.ifCond .eq 18, 3) := by decide +kernel
theorem dX2_obey_143 : decode cX2_obey 143 = .ok (.iload_n 3, 1) := by decide +kernel
theorem dX2_obey_144 : decode cX2_obey 144 = .ok (.iconst 0, 1) := by decide +kernel
theorem dX2_obey_145 : decode cX2_obey 145 = .ok (.sipush 300, 3) := by decide +kernel
theorem dX2_obey_148 : decode cX2_obey 148 = .ok (.invokestatic 34, 3) := by decide +kernel
theorem dX2_obey_151 : decode cX2_obey 151 = .ok (.ifCond .eq 7, 3) := by decide +kernel
theorem dX2_obey_154 : decode cX2_obey 154 = .ok (.iconst 1, 1) := by decide +kernel
theorem dX2_obey_155 : decode cX2_obey 155 = .ok (.goto 4, 3) := by decide +kernel
theorem dX2_obey_158 : decode cX2_obey 158 = .ok (.iconst 0, 1) := by decide +kernel
theorem dX2_obey_159 : decode cX2_obey 159 = .ok (.bipush 16, 2) := by decide +kernel
theorem dX2_obey_161 : decode cX2_obey 161 = .ok (.iload_n 2, 1) := by decide +kernel
theorem dX2_obey_162 : decode cX2_obey 162 = .ok (.iadd, 1) := by decide +kernel
theorem dX2_obey_163 : decode cX2_obey 163 = .ok (.iload_n 3, 1) := by decide +kernel
theorem dX2_obey_164 : decode cX2_obey 164 = .ok (.invokevirtual 38, 3) := by decide +kernel
theorem dX2_obey_167 : decode cX2_obey 167 = .ok (.ireturn, 1) := by decide +kernel
theorem dX2_obey_168 : decode cX2_obey 168 = .ok (.aload_n 0, 1) := by decide +kernel
theorem dX2_obey_169 : decode cX2_obey 169 = .ok (.iload_n 2, 1) := by decide +kernel
theorem dX2_obey_170 : decode cX2_obey 170 = .ok (.bipush (-3), 2) := by decide +kernel
theorem dX2_obey_172 : decode cX2_obey 172 = .ok (.iconst 3, 1) := by decide +kernel
theorem dX2_obey_173 : decode cX2_obey 173 = .ok (.invokestatic 34, 3) := by decide +kernel
theorem dX2_obey_176 : decode cX2_obey 176 = .ok (.bipush 47, 2) := by decide +kernel
theorem dX2_obey_178 : decode cX2_obey 178 = .ok (.iload_n 2, 1) := by decide +kernel
theorem dX2_obey_179 : decode cX2_obey 179 = .ok (.iconst 3, 1) := by decide +kernel
theorem dX2_obey_180 : decode cX2_obey 180 = .ok (.iadd, 1) := by decide +kernel
theorem dX2_obey_181 : decode cX2_obey 181 = .ok (.invokevirtual 38, 3) := by decide +kernel
theorem dX2_obey_184 : decode cX2_obey 184 = .ok (.ireturn, 1) := by decide +kernel
theorem dX2_obey_185 : decode cX2_obey 185 = .ok (.aload_n 0, 1) := by decide +kernel
theorem dX2_obey_186 : decode cX2_obey 186 = .ok (.iload_n 2, 1) := by decide +kernel
theorem dX2_obey_187 : decode cX2_obey 187 = .ok (.iconst 0, 1) := by decide +kernel
theorem dX2_obey_188 : decode cX2_obey 188 = .ok (.iconst 3, 1) := by decide +kernel
theorem dX2_obey_189 : decode cX2_obey 189 = .ok (.invokestatic 34, 3) := by decide +kernel
theorem dX2_obey_192 : decode cX2_obey 192 = .ok (.bipush 48, 2) := by decide +kernel
theorem dX2_obey_194 : decode cX2_obey 194 = .ok (.iload_n 2, 1) := by decide +kernel
theorem dX2_obey_195 : decode cX2_obey 195 = .ok (.invokevirtual 38, 3) := by decide +kernel
theorem dX2_obey_198 : decode cX2_obey 198 = .ok (.ireturn, 1) := by decide +kernel
theorem dX2_obey_199 : decode cX2_obey 199 = .ok (.iload_n 2, 1) := by decide +kernel
theorem dX2_obey_200 : decode cX2_obey 200 = .ok (.iload_n 3, 1) := by decide +kernel
theorem dX2_obey_201 : decode cX2_obey 201 = .ok (.invokestatic 45, 3) := by decide +kernel
theorem dX2_obey_204 : decode cX2_obey 204 = .ok (.ifCond .eq 15, 3) := by decide +kernel
theorem dX2_obey_207 : decode cX2_obey 207 = .ok (.aload_n 0, 1) := by decide +kernel
theorem dX2_obey_208 : decode cX2_obey 208 = .ok (.getfield 19, 3) := by decide +kernel
theorem dX2_obey_211 : decode cX2_obey 211 = .ok (.iload_n 2, 1) := by decide +kernel
theorem dX2_obey_212 : decode cX2_obey 212 = .ok (.iload_n 3, 1) := by decide +kernel
theorem dX2_obey_213 : decode cX2_obey 213 = .ok (.invokevirtual 49, 3) := by decide +kernel
theorem dX2_obey_216 : decode cX2_obey 216 = .ok (.goto 5, 3) := by decide +kernel
theorem dX2_obey_219 : decode cX2_obey 219 = .ok (.bipush (-2), 2) := by decide +kernel
theorem dX2_obey_221 : decode cX2_obey 221 = .ok (.ireturn, 1) := by decide +kernel
theorem dX2_obey_222 : decode cX2_obey 222 = .ok (.aload_n 0, 1) := by decide +kernel
theorem dX2_obey_223 : decode cX2_obey 223 = .ok (.iload_n 2, 1) := by decide +kernel
theorem dX2_obey_224 : decode cX2_obey 224 = .ok (.iload_n 3, 1) := by decide +kernel
theorem dX2_obey_225 : decode cX2_obey 225 = .ok (.invokevirtual 54, 3) := by decide +kernel
theorem dX2_obey_228 : decode cX2_obey 228 = .ok (.ireturn, 1) := by decide +kernel
theorem dX2_obey_229 : decode cX2_obey 229 = .ok (.aload_n 0, 1) := by decide +kernel
theorem dX2_obey_230 : decode cX2_obey 230 = .ok (.iload_n 2, 1) := by decide +kernel
theorem dX2_obey_231 : decode cX2_obey 231 = .ok (.invokevirtual 57, 3) := by decide +kernel
theorem dX2_obey_234 : decode cX2_obey 234 = .ok (.ireturn, 1) := by decide +kernel
theorem dX2_obey_235 : decode cX2_obey 235 = .ok (.bipush (-2), 2) := by decide +kernel
theorem dX2_obey_237 : decode cX2_obey 237 = .ok (.ireturn, 1) := by decide +kernel
set_option maxRecDepth 20000 in
theorem ggX2_changeSet_X6_isGear : GoodIn wsX2_changeSet wsX6_isGear := goodIn_r _ [4] (by decide +kernel) (by decide +kernel)
set_option maxRecDepth 20000 in
theorem gX2_changeSet_X6_isGear_n42 : GoodIn wsX2_changeSet (wsX6_isGear) := ggX2_changeSet_X6_isGear
set_option maxRecDepth 20000 in
theorem ggX2_changeSet_X6_isWithin : GoodIn wsX2_changeSet wsX6_isWithin := goodIn_r _ [6] (by decide +kernel) (by decide +kernel)
set_option maxRecDepth 20000 in
theorem gX2_changeSet_X6_isWithin_n34 : GoodIn wsX2_changeSet (wsX6_isWithin) := ggX2_changeSet_X6_isWithin
set_option maxRecDepth 20000 in
theorem ggX2_changeSet_X1_isTaken : GoodIn wsX2_changeSet wsX1_isTaken := goodIn_r _ [11, 12, 30, 31, 32] (by decide +kernel) (by decide +kernel)
set_option maxRecDepth 20000 in
theorem gX2_changeSet_X1_isTaken : GoodIn wsX2_changeSet (wsV RX2 61 RX1 yX1_isTaken wsX1_isTaken) := goodIn_app (goodIn_of _ (by decide +kernel)) ggX2_changeSet_X1_isTaken
set_option maxRecDepth 20000 in
theorem ggX2_changeSet_X2_replace : GoodIn wsX2_changeSet wsX2_replace := goodIn_r _ [17, 18, 27, 28, 29] (by decide +kernel) (by decide +kernel)
set_option maxRecDepth 20000 in
theorem gX2_changeSet_X2_replace : GoodIn wsX2_changeSet (wsV RX2 38 RX2 yX2_replace wsX2_replace) := goodIn_app (goodIn_of _ (by decide +kernel)) ggX2_changeSet_X2_replace
set_option maxRecDepth 20000 in
theorem ggX2_changeSet_X2_dropUnfit : GoodIn wsX2_changeSet wsX2_dropUnfit := goodIn_r _ [22, 1, 18, 23, 24, 25, 10, 26, 12, 27, 28, 29, 30, 31, 32] (by decide +kernel) (by decide +kernel)
set_option maxRecDepth 20000 in
theorem gX2_changeSet_X2_dropUnfit : GoodIn wsX2_changeSet (wsV RX2 66 RX2 yX2_dropUnfit wsX2_dropUnfit) := goodIn_app (goodIn_of _ (by decide +kernel)) ggX2_changeSet_X2_dropUnfit
theorem dX2_changeSet_0 : decode cX2_changeSet 0 = .ok (.iload_n 1, 1) := by decide +kernel
theorem dX2_changeSet_1 : decode cX2_changeSet 1 = .ok (.invokestatic 42, 3) := by decide +kernel
theorem dX2_changeSet_4 : decode cX2_changeSet 4 = .ok (.ifCond .eq 13, 3) := by decide +kernel
theorem dX2_changeSet_7 : decode cX2_changeSet 7 = .ok (.iload_n 2, 1) := by decide +kernel
theorem dX2_changeSet_8 : decode cX2_changeSet 8 = .ok (.iconst 0, 1) := by decide +kernel
theorem dX2_changeSet_9 : decode cX2_changeSet 9 = .ok (.bipush 31, 2) := by decide +kernel
theorem dX2_changeSet_11 : decode cX2_changeSet 11 = .ok (.invokestatic 34, 3) := by decide +kernel
theorem dX2_changeSet_14 : decode cX2_changeSet 14 = .ok (.ifCond .ne 6, 3) := by decide +kernel
theorem dX2_changeSet_17 : decode cX2_changeSet 17 = .ok (.bipush (-2), 2) := by decide +kernel
theorem dX2_changeSet_19 : decode cX2_changeSet 19 = .ok (.ireturn, 1) := by decide +kernel
theorem dX2_changeSet_20 : decode cX2_changeSet 20 = .ok (.aload_n 0, 1) := by decide +kernel
theorem dX2_changeSet_21 : decode cX2_changeSet 21 = .ok (.getfield 15, 3) := by decide +kernel
theorem dX2_changeSet_24 : decode cX2_changeSet 24 = .ok (.iload_n 1, 1) := by decide +kernel
theorem dX2_changeSet_25 : decode cX2_changeSet 25 = .ok (.iload_n 2, 1) := by decide +kernel
theorem dX2_changeSet_26 : decode cX2_changeSet 26 = .ok (.invokevirtual 61, 3) := by decide +kernel
theorem dX2_changeSet_29 : decode cX2_changeSet 29 = .ok (.ifCond .eq 6, 3) := by decide +kernel
theorem dX2_changeSet_32 : decode cX2_changeSet 32 = .ok (.bipush (-3), 2) := by decide +kernel
theorem dX2_changeSet_34 : decode cX2_changeSet 34 = .ok (.ireturn, 1) := by decide +kernel
theorem dX2_changeSet_35 : decode cX2_changeSet 35 = .ok (.aload_n 0, 1) := by decide +kernel
theorem dX2_changeSet_36 : decode cX2_changeSet 36 = .ok (.iconst 1, 1) := by decide +kernel
theorem dX2_changeSet_37 : decode cX2_changeSet 37 = .ok (.iconst 0, 1) := by decide +kernel
theorem dX2_changeSet_38 : decode cX2_changeSet 38 = .ok (.iload_n 1, 1) := by decide +kernel
theorem dX2_changeSet_39 : decode cX2_changeSet 39 = .ok (.iadd, 1) := by decide +kernel
theorem dX2_changeSet_40 : decode cX2_changeSet 40 = .ok (.iload_n 2, 1) := by decide +kernel
theorem dX2_changeSet_41 : decode cX2_changeSet 41 = .ok (.invokevirtual 38, 3) := by decide +kernel
theorem dX2_changeSet_44 : decode cX2_changeSet 44 = .ok (.istore_n 3, 1) := by decide +kernel
theorem dX2_changeSet_45 : decode cX2_changeSet 45 = .ok (.aload_n 0, 1) := by decide +kernel
theorem dX2_changeSet_46 : decode cX2_changeSet 46 = .ok (.invokevirtual 66, 3) := by decide +kernel
theorem dX2_changeSet_49 : decode cX2_changeSet 49 = .ok (.iload_n 3, 1) := by decide +kernel
theorem dX2_changeSet_50 : decode cX2_changeSet 50 = .ok (.ireturn, 1) := by decide +kernel
set_option maxRecDepth 20000 in
theorem ggX2_changeStatus_X6_isClutch : GoodIn wsX2_changeStatus wsX6_isClutch := goodIn_r _ [3] (by decide +kernel) (by decide +kernel)
set_option maxRecDepth 20000 in
theorem gX2_changeStatus_X6_isClutch_n30 : GoodIn wsX2_changeStatus (wsX6_isClutch) := ggX2_changeStatus_X6_isClutch
set_option maxRecDepth 20000 in
theorem ggX2_changeStatus_X6_isWithin : GoodIn wsX2_changeStatus wsX6_isWithin := goodIn_r _ [5] (by decide +kernel) (by decide +kernel)
set_option maxRecDepth 20000 in
theorem gX2_changeStatus_X6_isWithin_n34 : GoodIn wsX2_changeStatus (wsX6_isWithin) := ggX2_changeStatus_X6_isWithin
set_option maxRecDepth 20000 in
theorem ggX2_changeStatus_X2_replace : GoodIn wsX2_changeStatus wsX2_replace := goodIn_r _ [10, 11, 23, 24, 25] (by decide +kernel) (by decide +kernel)
set_option maxRecDepth 20000 in
theorem gX2_changeStatus_X2_replace : GoodIn wsX2_changeStatus (wsV RX2 38 RX2 yX2_replace wsX2_replace) := goodIn_app (goodIn_of _ (by decide +kernel)) ggX2_changeStatus_X2_replace
set_option maxRecDepth 20000 in
theorem ggX2_changeStatus_X2_dropUnfit : GoodIn wsX2_changeStatus wsX2_dropUnfit := goodIn_r _ [15, 16, 11, 17, 18, 19, 20, 21, 22, 23, 24, 25, 26, 27, 28] (by decide +kernel) (by decide +kernel)
set_option maxRecDepth 20000 in
theorem gX2_changeStatus_X2_dropUnfit : GoodIn wsX2_changeStatus (wsV RX2 66 RX2 yX2_dropUnfit wsX2_dropUnfit) := goodIn_app (goodIn_of _ (by decide +kernel)) ggX2_changeStatus_X2_dropUnfit
theorem dX2_changeStatus_0 : decode cX2_changeStatus 0 = .ok (.aload_n 0, 1) := by decide +kernel
theorem dX2_changeStatus_1 : decode cX2_changeStatus 1 = .ok (.iload_n 1, 1) := by decide +kernel
theorem dX2_changeStatus_2 : decode cX2_changeStatus 2 = .ok (.invokestatic 30, 3) := by decide +kernel
theorem dX2_changeStatus_5 : decode cX2_changeStatus 5 = .ok (.ifCond .eq 16, 3) := by decide +kernel
theorem dX2_changeStatus_8 : decode cX2_changeStatus 8 = .ok (.iload_n 2, 1) := by decide +kernel
theorem dX2_changeStatus_9 : decode cX2_changeStatus 9 = .ok (.iconst 0, 1) := by decide +kernel
theorem dX2_changeStatus_10 : decode cX2_changeStatus 10 = .ok (.iconst 2, 1) := by decide +kernel
theorem dX2_changeStatus_11 : decode cX2_changeStatus 11 = .ok (.invokestatic 34, 3) := by decide +kernel
theorem dX2_changeStatus_14 : decode cX2_changeStatus 14 = .ok (.ifCond .eq 7, 3) := by decide +kernel
theorem dX2_changeStatus_17 : decode cX2_changeStatus 17 = .ok (.iconst 1, 1) := by decide +kernel
theorem dX2_changeStatus_18 : decode cX2_changeStatus 18 = .ok (.goto 4, 3) := by decide +kernel
theorem dX2_changeStatus_21 : decode cX2_changeStatus 21 = .ok (.iconst 0, 1) := by decide +kernel
theorem dX2_changeStatus_22 : decode cX2_changeStatus 22 = .ok (.bipush 24, 2) := by decide +kernel
theorem dX2_changeStatus_24 : decode cX2_changeStatus 24 = .ok (.iload_n 1, 1) := by decide +kernel
theorem dX2_changeStatus_25 : decode cX2_changeStatus 25 = .ok (.iadd, 1) := by decide +kernel
theorem dX2_changeStatus_26 : decode cX2_changeStatus 26 = .ok (.iload_n 2, 1) := by decide +kernel
theorem dX2_changeStatus_27 : decode cX2_changeStatus 27 = .ok (.invokevirtual 38, 3) := by decide +kernel
theorem dX2_changeStatus_30 : decode cX2_changeStatus 30 = .ok (.istore_n 3, 1) := by decide +kernel
theorem dX2_changeStatus_31 : decode cX2_changeStatus 31 = .ok (.aload_n 0, 1) := by decide +kernel
theorem dX2_changeStatus_32 : decode cX2_changeStatus 32 = .ok (.invokevirtual 66, 3) := by decide +kernel
theorem dX2_changeStatus_35 : decode cX2_changeStatus 35 = .ok (.iload_n 3, 1) := by decide +kernel
theorem dX2_changeStatus_36 : decode cX2_changeStatus 36 = .ok (.ireturn, 1) := by decide +kernel
set_option maxRecDepth 20000 in
theorem ggX2_changeRule_X6_isWithin : GoodIn wsX2_changeRule wsX6_isWithin := goodIn_r _ [3] (by decide +kernel) (by decide +kernel)
set_option maxRecDepth 20000 in
theorem gX2_changeRule_X6_isWithin_n34 : GoodIn wsX2_changeRule (wsX6_isWithin) := ggX2_changeRule_X6_isWithin
set_option maxRecDepth 20000 in
theorem ggX2_changeRule_X2_replace : GoodIn wsX2_changeRule wsX2_replace := goodIn_r _ [8, 9, 10, 11, 12] (by decide +kernel) (by decide +kernel)
set_option maxRecDepth 20000 in
theorem gX2_changeRule_X2_replace : GoodIn wsX2_changeRule (wsV RX2 38 RX2 yX2_replace wsX2_replace) := goodIn_app (goodIn_of _ (by decide +kernel)) ggX2_changeRule_X2_replace
theorem dX2_changeRule_0 : decode cX2_changeRule 0 = .ok (.iload_n 1, 1) := by decide +kernel
theorem dX2_changeRule_1 : decode cX2_changeRule 1 = .ok (.ifCond .ne 18, 3) := by decide +kernel
theorem dX2_changeRule_4 : decode cX2_changeRule 4 = .ok (.aload_n 0, 1) := by decide +kernel
theorem dX2_changeRule_5 : decode cX2_changeRule 5 = .ok (.iload_n 2, 1) := by decide +kernel
theorem dX2_changeRule_6 : decode cX2_changeRule 6 = .ok (.iconst 1, 1) := by decide +kernel
theorem dX2_changeRule_7 : decode cX2_changeRule 7 = .ok (.bipush 12, 2) := by decide +kernel
theorem dX2_changeRule_9 : decode cX2_changeRule 9 = .ok (.invokestatic 34, 3) := by decide +kernel
theorem dX2_changeRule_12 : decode cX2_changeRule 12 = .ok (.bipush 49, 2) := by decide +kernel
theorem dX2_changeRule_14 : decode cX2_changeRule 14 = .ok (.iload_n 2, 1) := by decide +kernel
theorem dX2_changeRule_15 : decode cX2_changeRule 15 = .ok (.invokevirtual 38, 3) := by decide +kernel
theorem dX2_changeRule_18 : decode cX2_changeRule 18 = .ok (.ireturn, 1) := by decide +kernel
theorem dX2_changeRule_19 : decode cX2_changeRule 19 = .ok (.aload_n 0, 1) := by decide +kernel
theorem dX2_changeRule_20 : decode cX2_changeRule 20 = .ok (.iload_n 1, 1) := by decide +kernel
theorem dX2_changeRule_21 : decode cX2_changeRule 21 = .ok (.iconst 1, 1) := by decide +kernel
theorem dX2_changeRule_22 : decode cX2_changeRule 22 = .ok (.if_icmp .ne 18, 3) := by decide +kernel
theorem dX2_changeRule_25 : decode cX2_changeRule 25 = .ok (.iload_n 2, 1) := by decide +kernel
theorem dX2_changeRule_26 : decode cX2_changeRule 26 = .ok (.iconst 0, 1) := by decide +kernel
theorem dX2_changeRule_27 : decode cX2_changeRule 27 = .ok (.sipush 999, 3) := by decide +kernel
theorem dX2_changeRule_30 : decode cX2_changeRule 30 = .ok (.invokestatic 34, 3) := by decide +kernel
theorem dX2_changeRule_33 : decode cX2_changeRule 33 = .ok (.ifCond .eq 7, 3) := by decide +kernel
theorem dX2_changeRule_36 : decode cX2_changeRule 36 = .ok (.iconst 1, 1) := by decide +kernel
theorem dX2_changeRule_37 : decode cX2_changeRule 37 = .ok (.goto 4, 3) := by decide +kernel
theorem dX2_changeRule_40 : decode cX2_changeRule 40 = .ok (.iconst 0, 1) := by decide +kernel
theorem dX2_changeRule_41 : decode cX2_changeRule 41 = .ok (.bipush 50, 2) := by decide +kernel
theorem dX2_changeRule_43 : decode cX2_changeRule 43 = .ok (.iload_n 2, 1) := by decide +kernel
theorem dX2_changeRule_44 : decode cX2_changeRule 44 = .ok (.invokevirtual 38, 3) := by decide +kernel
theorem dX2_changeRule_47 : decode cX2_changeRule 47 = .ok (.ireturn, 1) := by decide +kernel
set_option maxRecDepth 20000 in
theorem ggX2_areTicks_X6_isWithin : GoodIn wsX2_areTicks wsX6_isWithin := goodIn_r _ [3] (by decide +kernel) (by decide +kernel)
set_option maxRecDepth 20000 in
theorem gX2_areTicks_X6_isWithin_n34 : GoodIn wsX2_areTicks (wsX6_isWithin) := ggX2_areTicks_X6_isWithin
theorem dX2_areTicks_0 : decode cX2_areTicks 0 = .ok (.iload_n 0, 1) := by decide +kernel
theorem dX2_areTicks_1 : decode cX2_areTicks 1 = .ok (.iconst 0, 1) := by decide +kernel
theorem dX2_areTicks_2 : decode cX2_areTicks 2 = .ok (.sipush 300, 3) := by decide +kernel
theorem dX2_areTicks_5 : decode cX2_areTicks 5 = .ok (.invokestatic 34, 3) := by decide +kernel
theorem dX2_areTicks_8 : decode cX2_areTicks 8 = .ok (.ifCond .eq 17, 3) := by decide +kernel
theorem dX2_areTicks_11 : decode cX2_areTicks 11 = .ok (.iload_n 1, 1) := by decide +kernel
theorem dX2_areTicks_12 : decode cX2_areTicks 12 = .ok (.iconst 1, 1) := by decide +kernel
theorem dX2_areTicks_13 : decode cX2_areTicks 13 = .ok (.bipush 60, 2) := by decide +kernel
theorem dX2_areTicks_15 : decode cX2_areTicks 15 = .ok (.invokestatic 34, 3) := by decide +kernel
theorem dX2_areTicks_18 : decode cX2_areTicks 18 = .ok (.ifCond .eq 7, 3) := by decide +kernel
theorem dX2_areTicks_21 : decode cX2_areTicks 21 = .ok (.iconst 1, 1) := by decide +kernel
theorem dX2_areTicks_22 : decode cX2_areTicks 22 = .ok (.goto 4, 3) := by decide +kernel
theorem dX2_areTicks_25 : decode cX2_areTicks 25 = .ok (.iconst 0, 1) := by decide +kernel
theorem dX2_areTicks_26 : decode cX2_areTicks 26 = .ok (.ireturn, 1) := by decide +kernel
set_option maxRecDepth 20000 in
theorem ggX2_putIn_X6_isGear : GoodIn wsX2_putIn wsX6_isGear := goodIn_r _ [4] (by decide +kernel) (by decide +kernel)
set_option maxRecDepth 20000 in
theorem gX2_putIn_X6_isGear_n42 : GoodIn wsX2_putIn (wsX6_isGear) := ggX2_putIn_X6_isGear
set_option maxRecDepth 20000 in
theorem ggX2_putIn_X1_isFit : GoodIn wsX2_putIn wsX1_isFit := goodIn_r _ [9, 10, 20, 21, 22] (by decide +kernel) (by decide +kernel)
set_option maxRecDepth 20000 in
theorem gX2_putIn_X1_isFit : GoodIn wsX2_putIn (wsV RX2 69 RX1 yX1_isFit wsX1_isFit) := goodIn_app (goodIn_of _ (by decide +kernel)) ggX2_putIn_X1_isFit
set_option maxRecDepth 20000 in
theorem ggX2_putIn_X2_replace : GoodIn wsX2_putIn wsX2_replace := goodIn_r _ [15, 16, 17, 18, 19] (by decide +kernel) (by decide +kernel)
set_option maxRecDepth 20000 in
theorem gX2_putIn_X2_replace : GoodIn wsX2_putIn (wsV RX2 38 RX2 yX2_replace wsX2_replace) := goodIn_app (goodIn_of _ (by decide +kernel)) ggX2_putIn_X2_replace
theorem dX2_putIn_0 : decode cX2_putIn 0 = .ok (.iload_n 1, 1) := by decide +kernel
theorem dX2_putIn_1 : decode cX2_putIn 1 = .ok (.ifCond .eq 13, 3) := by decide +kernel
theorem dX2_putIn_4 : decode cX2_putIn 4 = .ok (.iload_n 1, 1) := by decide +kernel
theorem dX2_putIn_5 : decode cX2_putIn 5 = .ok (.invokestatic 42, 3) := by decide +kernel
theorem dX2_putIn_8 : decode cX2_putIn 8 = .ok (.ifCond .ne 6, 3) := by decide +kernel
theorem dX2_putIn_11 : decode cX2_putIn 11 = .ok (.bipush (-2), 2) := by decide +kernel
theorem dX2_putIn_13 : decode cX2_putIn 13 = .ok (.ireturn, 1) := by decide +kernel
theorem dX2_putIn_14 : decode cX2_putIn 14 = .ok (.iload_n 1, 1) := by decide +kernel
theorem dX2_putIn_15 : decode cX2_putIn 15 = .ok (.ifCond .eq 14, 3) := by decide +kernel
theorem dX2_putIn_18 : decode cX2_putIn 18 = .ok (.aload_n 0, 1) := by decide +kernel
theorem dX2_putIn_19 : decode cX2_putIn 19 = .ok (.getfield 15, 3) := by decide +kernel
theorem dX2_putIn_22 : decode cX2_putIn 22 = .ok (.iload_n 1, 1) := by decide +kernel
theorem dX2_putIn_23 : decode cX2_putIn 23 = .ok (.invokevirtual 69, 3) := by decide +kernel
theorem dX2_putIn_26 : decode cX2_putIn 26 = .ok (.ifCond .eq 14, 3) := by decide +kernel
theorem dX2_putIn_29 : decode cX2_putIn 29 = .ok (.aload_n 0, 1) := by decide +kernel
theorem dX2_putIn_30 : decode cX2_putIn 30 = .ok (.iconst 1, 1) := by decide +kernel
theorem dX2_putIn_31 : decode cX2_putIn 31 = .ok (.bipush 39, 2) := by decide +kernel
theorem dX2_putIn_33 : decode cX2_putIn 33 = .ok (.iload_n 1, 1) := by decide +kernel
theorem dX2_putIn_34 : decode cX2_putIn 34 = .ok (.invokevirtual 38, 3) := by decide +kernel
theorem dX2_putIn_37 : decode cX2_putIn 37 = .ok (.goto 5, 3) := by decide +kernel
theorem dX2_putIn_40 : decode cX2_putIn 40 = .ok (.bipush (-3), 2) := by decide +kernel
theorem dX2_putIn_42 : decode cX2_putIn 42 = .ok (.ireturn, 1) := by decide +kernel
theorem dX2_replace_0 : decode cX2_replace 0 = .ok (.iload_n 1, 1) := by decide +kernel
theorem dX2_replace_1 : decode cX2_replace 1 = .ok (.ifCond .eq 13, 3) := by decide +kernel
theorem dX2_replace_4 : decode cX2_replace 4 = .ok (.iload_n 2, 1) := by decide +kernel
theorem dX2_replace_5 : decode cX2_replace 5 = .ok (.ifCond .lt 9, 3) := by decide +kernel
theorem dX2_replace_8 : decode cX2_replace 8 = .ok (.iload_n 2, 1) := by decide +kernel
theorem dX2_replace_9 : decode cX2_replace 9 = .ok (.bipush 51, 2) := by decide +kernel
theorem dX2_replace_11 : decode cX2_replace 11 = .ok (.if_icmp .lt 6, 3) := by decide +kernel
theorem dX2_replace_14 : decode cX2_replace 14 = .ok (.bipush (-2), 2) := by decide +kernel
theorem dX2_replace_16 : decode cX2_replace 16 = .ok (.ireturn, 1) := by decide +kernel
theorem dX2_replace_17 : decode cX2_replace 17 = .ok (.aload_n 0, 1) := by decide +kernel
theorem dX2_replace_18 : decode cX2_replace 18 = .ok (.getfield 9, 3) := by decide +kernel
theorem dX2_replace_21 : decode cX2_replace 21 = .ok (.iload_n 2, 1) := by decide +kernel
theorem dX2_replace_22 : decode cX2_replace 22 = .ok (.iaload, 1) := by decide +kernel
theorem dX2_replace_23 : decode cX2_replace 23 = .ok (.istore 4, 2) := by decide +kernel
theorem dX2_replace_25 : decode cX2_replace 25 = .ok (.aload_n 0, 1) := by decide +kernel
theorem dX2_replace_26 : decode cX2_replace 26 = .ok (.getfield 9, 3) := by decide +kernel
theorem dX2_replace_29 : decode cX2_replace 29 = .ok (.iload_n 2, 1) := by decide +kernel
theorem dX2_replace_30 : decode cX2_replace 30 = .ok (.iload_n 3, 1) := by decide +kernel
theorem dX2_replace_31 : decode cX2_replace 31 = .ok (.iastore, 1) := by decide +kernel
theorem dX2_replace_32 : decode cX2_replace 32 = .ok (.iload 4, 2) := by decide +kernel
theorem dX2_replace_34 : decode cX2_replace 34 = .ok (.ireturn, 1) := by decide +kernel
set_option maxRecDepth 20000 in
theorem ggX2_dropUnfit_X1_isFit : GoodIn wsX2_dropUnfit wsX1_isFit := goodIn_r _ [7, 8, 12, 13, 14] (by decide +kernel) (by decide +kernel)
set_option maxRecDepth 20000 in
theorem gX2_dropUnfit_X1_isFit : GoodIn wsX2_dropUnfit (wsV RX2 69 RX1 yX1_isFit wsX1_isFit) := goodIn_app (goodIn_of _ (by decide +kernel)) ggX2_dropUnfit_X1_isFit
theorem dX2_dropUnfit_0 : decode cX2_dropUnfit 0 = .ok (.aload_n 0, 1) := by decide +kernel
theorem dX2_dropUnfit_1 : decode cX2_dropUnfit 1 = .ok (.getfield 15, 3) := by decide +kernel
theorem dX2_dropUnfit_4 : decode cX2_dropUnfit 4 = .ok (.aload_n 0, 1) := by decide +kernel
theorem dX2_dropUnfit_5 : decode cX2_dropUnfit 5 = .ok (.getfield 9, 3) := by decide +kernel
theorem dX2_dropUnfit_8 : decode cX2_dropUnfit 8 = .ok (.bipush 39, 2) := by decide +kernel
theorem dX2_dropUnfit_10 : decode cX2_dropUnfit 10 = .ok (.iaload, 1) := by decide +kernel
theorem dX2_dropUnfit_11 : decode cX2_dropUnfit 11 = .ok (.invokevirtual 69, 3) := by decide +kernel
theorem dX2_dropUnfit_14 : decode cX2_dropUnfit 14 = .ok (.ifCond .ne 11, 3) := by decide +kernel
theorem dX2_dropUnfit_17 : decode cX2_dropUnfit 17 = .ok (.aload_n 0, 1) := by decide +kernel
theorem dX2_dropUnfit_18 : decode cX2_dropUnfit 18 = .ok (.getfield 9, 3) := by decide +kernel
theorem dX2_dropUnfit_21 : decode cX2_dropUnfit 21 = .ok (.bipush 39, 2) := by decide +kernel
theorem dX2_dropUnfit_23 : decode cX2_dropUnfit 23 = .ok (.iconst 0, 1) := by decide +kernel
theorem dX2_dropUnfit_24 : decode cX2_dropUnfit 24 = .ok (.iastore, 1) := by decide +kernel
theorem dX2_dropUnfit_25 : decode cX2_dropUnfit 25 = .ok (.return_, 1) := by decide +kernel
theorem dX3_init_0 : decode cX3_init 0 = .ok (.aload_n 0, 1) := by decide +kernel
theorem dX3_init_1 : decode cX3_init 1 = .ok (.invokespecial 3, 3) := by decide +kernel
theorem dX3_init_4 : decode cX3_init 4 = .ok (.aload_n 0, 1) := by decide +kernel
theorem dX3_init_5 : decode cX3_init 5 = .ok (.aload_n 1, 1) := by decide +kernel
theorem dX3_init_6 : decode cX3_init 6 = .ok (.putfield 9, 3) := by decide +kernel
theorem dX3_init_9 : decode cX3_init 9 = .ok (.return_, 1) := by decide +kernel
set_option maxRecDepth 20000 in
theorem ggX3_overAt_X6_isClutch : GoodIn wsX3_overAt wsX6_isClutch := goodIn_r _ [11] (by decide +kernel) (by decide +kernel)
set_option maxRecDepth 20000 in
theorem gX3_overAt_X6_isClutch_n15 : GoodIn wsX3_overAt (wsX6_isClutch) := ggX3_overAt_X6_isClutch
theorem dX3_overAt_0 : decode cX3_overAt 0 = .ok (.iload_n 1, 1) := by decide +kernel
theorem dX3_overAt_1 : decode cX3_overAt 1 = .ok (.invokestatic 15, 3) := by decide +kernel
theorem dX3_overAt_4 : decode cX3_overAt 4 = .ok (.ifCond .ne 5, 3) := by decide +kernel
theorem dX3_overAt_7 : decode cX3_overAt 7 = .ok (.iconst 0, 1) := by decide +kernel
theorem dX3_overAt_8 : decode cX3_overAt 8 = .ok (.ireturn, 1) := by decide +kernel
theorem dX3_overAt_9 : decode cX3_overAt 9 = .ok (.iconst 1, 1) := by decide +kernel
theorem dX3_overAt_10 : decode cX3_overAt 10 = .ok (.aload_n 0, 1) := by decide +kernel
theorem dX3_overAt_11 : decode cX3_overAt 11 = .ok (.getfield 9, 3) := by decide +kernel
theorem dX3_overAt_14 : decode cX3_overAt 14 = .ok (.bipush 49, 2) := by decide +kernel
theorem dX3_overAt_16 : decode cX3_overAt 16 = .ok (.iaload, 1) := by decide +kernel
theorem dX3_overAt_17 : decode cX3_overAt 17 = .ok (.invokestatic 19, 3) := by decide +kernel
theorem dX3_overAt_20 : decode cX3_overAt 20 = .ok (.istore_n 3, 1) := by decide +kernel
theorem dX3_overAt_21 : decode cX3_overAt 21 = .ok (.sipush 1000, 3) := by decide +kernel
theorem dX3_overAt_24 : decode cX3_overAt 24 = .ok (.iload_n 2, 1) := by decide +kernel
theorem dX3_overAt_25 : decode cX3_overAt 25 = .ok (.aload_n 0, 1) := by decide +kernel
theorem dX3_overAt_26 : decode cX3_overAt 26 = .ok (.getfield 9, 3) := by decide +kernel
theorem dX3_overAt_29 : decode cX3_overAt 29 = .ok (.bipush 29, 2) := by decide +kernel
theorem dX3_overAt_31 : decode cX3_overAt 31 = .ok (.iload_n 1, 1) := by decide +kernel
theorem dX3_overAt_32 : decode cX3_overAt 32 = .ok (.iadd, 1) := by decide +kernel
theorem dX3_overAt_33 : decode cX3_overAt 33 = .ok (.iaload, 1) := by decide +kernel
theorem dX3_overAt_34 : decode cX3_overAt 34 = .ok (.isub, 1) := by decide +kernel
theorem dX3_overAt_35 : decode cX3_overAt 35 = .ok (.imul, 1) := by decide +kernel
theorem dX3_overAt_36 : decode cX3_overAt 36 = .ok (.iload_n 3, 1) := by decide +kernel
theorem dX3_overAt_37 : decode cX3_overAt 37 = .ok (.idiv, 1) := by decide +kernel
theorem dX3_overAt_38 : decode cX3_overAt 38 = .ok (.istore 4, 2) := by decide +kernel
theorem dX3_overAt_40 : decode cX3_overAt 40 = .ok (.sipush 1000, 3) := by decide +kernel
theorem dX3_overAt_43 : decode cX3_overAt 43 = .ok (.iload_n 2, 1) := by decide +kernel
theorem dX3_overAt_44 : decode cX3_overAt 44 = .ok (.aload_n 0, 1) := by decide +kernel
theorem dX3_overAt_45 : decode cX3_overAt 45 = .ok (.getfield 9, 3) := by decide +kernel
theorem dX3_overAt_48 : decode cX3_overAt 48 = .ok (.bipush 34, 2) := by decide +kernel
theorem dX3_overAt_50 : decode cX3_overAt 50 = .ok (.iload_n 1, 1) := by decide +kernel
theorem dX3_overAt_51 : decode cX3_overAt 51 = .ok (.iadd, 1) := by decide +kernel
theorem dX3_overAt_52 : decode cX3_overAt 52 = .ok (.iaload, 1) := by decide +kernel
theorem dX3_overAt_53 : decode cX3_overAt 53 = .ok (.isub, 1) := by decide +kernel
theorem dX3_overAt_54 : decode cX3_overAt 54 = .ok (.imul, 1) := by decide +kernel
theorem dX3_overAt_55 : decode cX3_overAt 55 = .ok (.iload_n 3, 1) := by decide +kernel
theorem dX3_overAt_56 : decode cX3_overAt 56 = .ok (.idiv, 1) := by decide +kernel
theorem dX3_overAt_57 : decode cX3_overAt 57 = .ok (.istore 5, 2) := by decide +kernel
theorem dX3_overAt_59 : decode cX3_overAt 59 = .ok (.sipush 1000, 3) := by decide +kernel
theorem dX3_overAt_62 : decode cX3_overAt 62 = .ok (.iconst 0, 1) := by decide +kernel
theorem dX3_overAt_63 : decode cX3_overAt 63 = .ok (.iload 4, 2) := by decide +kernel
theorem dX3_overAt_65 : decode cX3_overAt 65 = .ok (.invokestatic 19, 3) := by decide +kernel
theorem dX3_overAt_68 : decode cX3_overAt 68 = .ok (.invokestatic 25, 3) := by decide +kernel
theorem dX3_overAt_71 : decode cX3_overAt 71 = .ok (.istore 6, 2) := by decide +kernel
theorem dX3_overAt_73 : decode cX3_overAt 73 = .ok (.sipush 1000, 3) := by decide +kernel
theorem dX3_overAt_76 : decode cX3_overAt 76 = .ok (.sipush 1000, 3) := by decide +kernel
theorem dX3_overAt_79 : decode cX3_overAt 79 = .ok (.iconst 0, 1) := by decide +kernel
theorem dX3_overAt_80 : decode cX3_overAt 80 = .ok (.iload 5, 2) := by decide +kernel
theorem dX3_overAt_82 : decode cX3_overAt 82 = .ok (.invokestatic 19, 3) := by decide +kernel
theorem dX3_overAt_85 : decode cX3_overAt 85 = .ok (.invokestatic 25, 3) := by decide +kernel
theorem dX3_overAt_88 : decode cX3_overAt 88 = .ok (.isub, 1) := by decide +kernel
theorem dX3_overAt_89 : decode cX3_overAt 89 = .ok (.istore 7, 2) := by decide +kernel
theorem dX3_overAt_91 : decode cX3_overAt 91 = .ok (.iload 6, 2) := by decide +kernel
theorem dX3_overAt_93 : decode cX3_overAt 93 = .ok (.iload 7, 2) := by decide +kernel
theorem dX3_overAt_95 : decode cX3_overAt 95 = .ok (.iadd, 1) := by decide +kernel
theorem dX3_overAt_96 : decode cX3_overAt 96 = .ok (.sipush 1000, 3) := by decide +kernel
theorem dX3_overAt_99 : decode cX3_overAt 99 = .ok (.isub, 1) := by decide +kernel
theorem dX3_overAt_100 : decode cX3_overAt 100 = .ok (.ireturn, 1) := by decide +kernel
set_option maxRecDepth 20000 in
theorem ggX3_flare_X3_overAt : GoodIn wsX3_flare wsX3_overAt := goodIn_r _ [9, 10, 11, 12, 3, 13, 1, 2, 4, 14, 15, 16, 17] (by decide +kernel) (by decide +kernel)
set_option maxRecDepth 20000 in
theorem gX3_flare_X3_overAt : GoodIn wsX3_flare (wsV RX3 28 RX3 yX3_overAt wsX3_overAt) := goodIn_app (goodIn_of _ (by decide +kernel)) ggX3_flare_X3_overAt
theorem dX3_flare_0 : decode cX3_flare 0 = .ok (.iconst 0, 1) := by decide +kernel
theorem dX3_flare_1 : decode cX3_flare 1 = .ok (.istore_n 2, 1) := by decide +kernel
theorem dX3_flare_2 : decode cX3_flare 2 = .ok (.iconst 0, 1) := by decide +kernel
theorem dX3_flare_3 : decode cX3_flare 3 = .ok (.istore_n 3, 1) := by decide +kernel
theorem dX3_flare_4 : decode cX3_flare 4 = .ok (.iload_n 3, 1) := by decide +kernel
theorem dX3_flare_5 : decode cX3_flare 5 = .ok (.bipush 40, 2) := by decide +kernel
theorem dX3_flare_7 : decode cX3_flare 7 = .ok (.if_icmp .gt 20, 3) := by decide +kernel
theorem dX3_flare_10 : decode cX3_flare 10 = .ok (.iload_n 2, 1) := by decide +kernel
theorem dX3_flare_11 : decode cX3_flare 11 = .ok (.aload_n 0, 1) := by decide +kernel
theorem dX3_flare_12 : decode cX3_flare 12 = .ok (.iload_n 1, 1) := by decide +kernel
theorem dX3_flare_13 : decode cX3_flare 13 = .ok (.iload_n 3, 1) := by decide +kernel
theorem dX3_flare_14 : decode cX3_flare 14 = .ok (.invokevirtual 28, 3) := by decide +kernel
theorem dX3_flare_17 : decode cX3_flare 17 = .ok (.invokestatic 25, 3) := by decide +kernel
theorem dX3_flare_20 : decode cX3_flare 20 = .ok (.istore_n 2, 1) := by decide +kernel
theorem dX3_flare_21 : decode cX3_flare 21 = .ok (.iinc 3 1, 3) := by decide +kernel
theorem dX3_flare_24 : decode cX3_flare 24 = .ok (.goto (-20), 3) := by decide +kernel
theorem dX3_flare_27 : decode cX3_flare 27 = .ok (.iload_n 2, 1) := by decide +kernel
theorem dX3_flare_28 : decode cX3_flare 28 = .ok (.ineg, 1) := by decide +kernel
theorem dX3_flare_29 : decode cX3_flare 29 = .ok (.ireturn, 1) := by decide +kernel
set_option maxRecDepth 20000 in
theorem ggX3_bind_X3_overAt : GoodIn wsX3_bind wsX3_overAt := goodIn_r _ [9, 10, 1, 2, 3, 4, 11, 12, 13, 14, 15, 16, 17] (by decide +kernel) (by decide +kernel)
set_option maxRecDepth 20000 in
theorem gX3_bind_X3_overAt : GoodIn wsX3_bind (wsV RX3 28 RX3 yX3_overAt wsX3_overAt) := goodIn_app (goodIn_of _ (by decide +kernel)) ggX3_bind_X3_overAt
theorem dX3_bind_0 : decode cX3_bind 0 = .ok (.iconst 0, 1) := by decide +kernel
theorem dX3_bind_1 : decode cX3_bind 1 = .ok (.istore_n 2, 1) := by decide +kernel
theorem dX3_bind_2 : decode cX3_bind 2 = .ok (.iconst 0, 1) := by decide +kernel
theorem dX3_bind_3 : decode cX3_bind 3 = .ok (.istore_n 3, 1) := by decide +kernel
theorem dX3_bind_4 : decode cX3_bind 4 = .ok (.iload_n 3, 1) := by decide +kernel
theorem dX3_bind_5 : decode cX3_bind 5 = .ok (.bipush 40, 2) := by decide +kernel
theorem dX3_bind_7 : decode cX3_bind 7 = .ok (.if_icmp .gt 20, 3) := by decide +kernel
theorem dX3_bind_10 : decode cX3_bind 10 = .ok (.iload_n 2, 1) := by decide +kernel
theorem dX3_bind_11 : decode cX3_bind 11 = .ok (.aload_n 0, 1) := by decide +kernel
theorem dX3_bind_12 : decode cX3_bind 12 = .ok (.iload_n 1, 1) := by decide +kernel
theorem dX3_bind_13 : decode cX3_bind 13 = .ok (.iload_n 3, 1) := by decide +kernel
theorem dX3_bind_14 : decode cX3_bind 14 = .ok (.invokevirtual 28, 3) := by decide +kernel
theorem dX3_bind_17 : decode cX3_bind 17 = .ok (.invokestatic 19, 3) := by decide +kernel
theorem dX3_bind_20 : decode cX3_bind 20 = .ok (.istore_n 2, 1) := by decide +kernel
theorem dX3_bind_21 : decode cX3_bind 21 = .ok (.iinc 3 1, 3) := by decide +kernel
theorem dX3_bind_24 : decode cX3_bind 24 = .ok (.goto (-20), 3) := by decide +kernel
theorem dX3_bind_27 : decode cX3_bind 27 = .ok (.iload_n 2, 1) := by decide +kernel
theorem dX3_bind_28 : decode cX3_bind 28 = .ok (.ireturn, 1) := by decide +kernel
set_option maxRecDepth 20000 in
theorem ggX3_learn_X6_isClutch : GoodIn wsX3_learn wsX6_isClutch := goodIn_r _ [11] (by decide +kernel) (by decide +kernel)
set_option maxRecDepth 20000 in
theorem gX3_learn_X6_isClutch_n15 : GoodIn wsX3_learn (wsX6_isClutch) := ggX3_learn_X6_isClutch
set_option maxRecDepth 20000 in
theorem ggX3_learn_X3_flare : GoodIn wsX3_learn wsX3_flare := goodIn_r _ [16, 2, 3, 4, 5, 17, 18, 19, 15, 20, 1, 6, 7, 8, 9, 10, 11, 25] (by decide +kernel) (by decide +kernel)
set_option maxRecDepth 20000 in
theorem gX3_learn_X3_flare : GoodIn wsX3_learn (wsV RX3 31 RX3 yX3_flare wsX3_flare) := goodIn_app (goodIn_of _ (by decide +kernel)) ggX3_learn_X3_flare
set_option maxRecDepth 20000 in
theorem ggX3_learn_X3_bind : GoodIn wsX3_learn wsX3_bind := goodIn_r _ [24, 6, 7, 4, 8, 17, 18, 19, 15, 20, 1, 2, 3, 5, 9, 10, 11, 25] (by decide +kernel) (by decide +kernel)
set_option maxRecDepth 20000 in
theorem gX3_learn_X3_bind : GoodIn wsX3_learn (wsV RX3 35 RX3 yX3_bind wsX3_bind) := goodIn_app (goodIn_of _ (by decide +kernel)) ggX3_learn_X3_bind
theorem dX3_learn_0 : decode cX3_learn 0 = .ok (.iload_n 1, 1) := by decide +kernel
theorem dX3_learn_1 : decode cX3_learn 1 = .ok (.invokestatic 15, 3) := by decide +kernel
theorem dX3_learn_4 : decode cX3_learn 4 = .ok (.ifCond .ne 4, 3) := by decide +kernel
theorem dX3_learn_7 : decode cX3_learn 7 = .ok (.return_, 1) := by decide +kernel
theorem dX3_learn_8 : decode cX3_learn 8 = .ok (.aload_n 0, 1) := by decide +kernel
theorem dX3_learn_9 : decode cX3_learn 9 = .ok (.getfield 9, 3) := by decide +kernel
theorem dX3_learn_12 : decode cX3_learn 12 = .ok (.bipush 43, 2) := by decide +kernel
theorem dX3_learn_14 : decode cX3_learn 14 = .ok (.dup2, 1) := by decide +kernel
theorem dX3_learn_15 : decode cX3_learn 15 = .ok (.iaload, 1) := by decide +kernel
theorem dX3_learn_16 : decode cX3_learn 16 = .ok (.iconst 1, 1) := by decide +kernel
theorem dX3_learn_17 : decode cX3_learn 17 = .ok (.iadd, 1) := by decide +kernel
