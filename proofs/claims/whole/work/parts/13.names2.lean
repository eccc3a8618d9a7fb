def wsX7_in : List Cond := .code yX7_in cX7_in 3 (some .boolean) :: ([])
theorem dX0_init_0 : decode cX0_init 0 = .ok (.aload_n 0, 1) := by decide +kernel
theorem dX0_init_1 : decode cX0_init 1 = .ok (.invokespecial 3, 3) := by decide +kernel
theorem dX0_init_4 : decode cX0_init 4 = .ok (.aload_n 0, 1) := by decide +kernel
theorem dX0_init_5 : decode cX0_init 5 = .ok (.aload_n 1, 1) := by decide +kernel
theorem dX0_init_6 : decode cX0_init 6 = .ok (.putfield 9, 3) := by decide +kernel
theorem dX0_init_9 : decode cX0_init 9 = .ok (.aload_n 0, 1) := by decide +kernel
theorem dX0_init_10 : decode cX0_init 10 = .ok (.aload_n 2, 1) := by decide +kernel
theorem dX0_init_11 : decode cX0_init 11 = .ok (.putfield 15, 3) := by decide +kernel
theorem dX0_init_14 : decode cX0_init 14 = .ok (.aload_n 0, 1) := by decide +kernel
theorem dX0_init_15 : decode cX0_init 15 = .ok (.aload_n 3, 1) := by decide +kernel
theorem dX0_init_16 : decode cX0_init 16 = .ok (.putfield 19, 3) := by decide +kernel
theorem dX0_init_19 : decode cX0_init 19 = .ok (.return_, 1) := by decide +kernel
set_option maxRecDepth 20000 in
theorem ggX0_wanted_X6_isGear : GoodIn wsX0_wanted wsX6_isGear := goodIn_r _ [5] (by decide +kernel) (by decide +kernel)
set_option maxRecDepth 20000 in
theorem gX0_wanted_X6_isGear_n23 : GoodIn wsX0_wanted (wsX6_isGear) := ggX0_wanted_X6_isGear
set_option maxRecDepth 20000 in
theorem ggX0_wanted_X1_nextFit : GoodIn wsX0_wanted wsX1_nextFit := goodIn_r _ [10, 11, 12, 13, 9, 14, 15, 19, 20, 21] (by decide +kernel) (by decide +kernel)
set_option maxRecDepth 20000 in
theorem gX0_wanted_X1_nextFit : GoodIn wsX0_wanted (wsV RX0 27 RX1 yX1_nextFit wsX1_nextFit) := goodIn_app (goodIn_of _ (by decide +kernel)) ggX0_wanted_X1_nextFit
theorem dX0_wanted_0 : decode cX0_wanted 0 = .ok (.aload_n 0, 1) := by decide +kernel
theorem dX0_wanted_1 : decode cX0_wanted 1 = .ok (.getfield 9, 3) := by decide +kernel
theorem dX0_wanted_4 : decode cX0_wanted 4 = .ok (.bipush 39, 2) := by decide +kernel
theorem dX0_wanted_6 : decode cX0_wanted 6 = .ok (.iaload, 1) := by decide +kernel
theorem dX0_wanted_7 : decode cX0_wanted 7 = .ok (.istore_n 2, 1) := by decide +kernel
theorem dX0_wanted_8 : decode cX0_wanted 8 = .ok (.iload_n 2, 1) := by decide +kernel
theorem dX0_wanted_9 : decode cX0_wanted 9 = .ok (.invokestatic 23, 3) := by decide +kernel
theorem dX0_wanted_12 : decode cX0_wanted 12 = .ok (.ifCond .ne 13, 3) := by decide +kernel
theorem dX0_wanted_15 : decode cX0_wanted 15 = .ok (.aload_n 0, 1) := by decide +kernel
theorem dX0_wanted_16 : decode cX0_wanted 16 = .ok (.getfield 15, 3) := by decide +kernel
theorem dX0_wanted_19 : decode cX0_wanted 19 = .ok (.iconst 0, 1) := by decide +kernel
theorem dX0_wanted_20 : decode cX0_wanted 20 = .ok (.iconst 1, 1) := by decide +kernel
theorem dX0_wanted_21 : decode cX0_wanted 21 = .ok (.invokevirtual 27, 3) := by decide +kernel
theorem dX0_wanted_24 : decode cX0_wanted 24 = .ok (.ireturn, 1) := by decide +kernel
theorem dX0_wanted_25 : decode cX0_wanted 25 = .ok (.iconst 5, 1) := by decide +kernel
theorem dX0_wanted_26 : decode cX0_wanted 26 = .ok (.aload_n 0, 1) := by decide +kernel
theorem dX0_wanted_27 : decode cX0_wanted 27 = .ok (.getfield 9, 3) := by decide +kernel
theorem dX0_wanted_30 : decode cX0_wanted 30 = .ok (.bipush 47, 2) := by decide +kernel
theorem dX0_wanted_32 : decode cX0_wanted 32 = .ok (.iaload, 1) := by decide +kernel
theorem dX0_wanted_33 : decode cX0_wanted 33 = .ok (.iconst 3, 1) := by decide +kernel
theorem dX0_wanted_34 : decode cX0_wanted 34 = .ok (.isub, 1) := by decide +kernel
theorem dX0_wanted_35 : decode cX0_wanted 35 = .ok (.imul, 1) := by decide +kernel
theorem dX0_wanted_36 : decode cX0_wanted 36 = .ok (.bipush 10, 2) := by decide +kernel
theorem dX0_wanted_38 : decode cX0_wanted 38 = .ok (.aload_n 0, 1) := by decide +kernel
theorem dX0_wanted_39 : decode cX0_wanted 39 = .ok (.getfield 9, 3) := by decide +kernel
theorem dX0_wanted_42 : decode cX0_wanted 42 = .ok (.bipush 48, 2) := by decide +kernel
theorem dX0_wanted_44 : decode cX0_wanted 44 = .ok (.iaload, 1) := by decide +kernel
theorem dX0_wanted_45 : decode cX0_wanted 45 = .ok (.imul, 1) := by decide +kernel
theorem dX0_wanted_46 : decode cX0_wanted 46 = .ok (.iadd, 1) := by decide +kernel
theorem dX0_wanted_47 : decode cX0_wanted 47 = .ok (.istore_n 3, 1) := by decide +kernel
theorem dX0_wanted_48 : decode cX0_wanted 48 = .ok (.iload_n 1, 1) := by decide +kernel
theorem dX0_wanted_49 : decode cX0_wanted 49 = .ok (.aload_n 0, 1) := by decide +kernel
theorem dX0_wanted_50 : decode cX0_wanted 50 = .ok (.getfield 9, 3) := by decide +kernel
theorem dX0_wanted_53 : decode cX0_wanted 53 = .ok (.bipush 8, 2) := by decide +kernel
theorem dX0_wanted_55 : decode cX0_wanted 55 = .ok (.iload_n 2, 1) := by decide +kernel
theorem dX0_wanted_56 : decode cX0_wanted 56 = .ok (.iadd, 1) := by decide +kernel
theorem dX0_wanted_57 : decode cX0_wanted 57 = .ok (.iaload, 1) := by decide +kernel
theorem dX0_wanted_58 : decode cX0_wanted 58 = .ok (.iload_n 3, 1) := by decide +kernel
theorem dX0_wanted_59 : decode cX0_wanted 59 = .ok (.iadd, 1) := by decide +kernel
theorem dX0_wanted_60 : decode cX0_wanted 60 = .ok (.if_icmp .lt 15, 3) := by decide +kernel
theorem dX0_wanted_63 : decode cX0_wanted 63 = .ok (.aload_n 0, 1) := by decide +kernel
theorem dX0_wanted_64 : decode cX0_wanted 64 = .ok (.getfield 15, 3) := by decide +kernel
theorem dX0_wanted_67 : decode cX0_wanted 67 = .ok (.iload_n 2, 1) := by decide +kernel
theorem dX0_wanted_68 : decode cX0_wanted 68 = .ok (.iconst 1, 1) := by decide +kernel
theorem dX0_wanted_69 : decode cX0_wanted 69 = .ok (.invokevirtual 27, 3) := by decide +kernel
theorem dX0_wanted_72 : decode cX0_wanted 72 = .ok (.goto 4, 3) := by decide +kernel
theorem dX0_wanted_75 : decode cX0_wanted 75 = .ok (.iconst 0, 1) := by decide +kernel
theorem dX0_wanted_76 : decode cX0_wanted 76 = .ok (.istore 4, 2) := by decide +kernel
theorem dX0_wanted_78 : decode cX0_wanted 78 = .ok (.iload 4, 2) := by decide +kernel
theorem dX0_wanted_80 : decode cX0_wanted 80 = .ok (.ifCond .eq 6, 3) := by decide +kernel
theorem dX0_wanted_83 : decode cX0_wanted 83 = .ok (.iload 4, 2) := by decide +kernel
theorem dX0_wanted_85 : decode cX0_wanted 85 = .ok (.ireturn, 1) := by decide +kernel
theorem dX0_wanted_86 : decode cX0_wanted 86 = .ok (.iload_n 1, 1) := by decide +kernel
theorem dX0_wanted_87 : decode cX0_wanted 87 = .ok (.aload_n 0, 1) := by decide +kernel
theorem dX0_wanted_88 : decode cX0_wanted 88 = .ok (.getfield 9, 3) := by decide +kernel
theorem dX0_wanted_91 : decode cX0_wanted 91 = .ok (.bipush 16, 2) := by decide +kernel
theorem dX0_wanted_93 : decode cX0_wanted 93 = .ok (.iload_n 2, 1) := by decide +kernel
theorem dX0_wanted_94 : decode cX0_wanted 94 = .ok (.iadd, 1) := by decide +kernel
theorem dX0_wanted_95 : decode cX0_wanted 95 = .ok (.iaload, 1) := by decide +kernel
theorem dX0_wanted_96 : decode cX0_wanted 96 = .ok (.iload_n 3, 1) := by decide +kernel
theorem dX0_wanted_97 : decode cX0_wanted 97 = .ok (.iadd, 1) := by decide +kernel
theorem dX0_wanted_98 : decode cX0_wanted 98 = .ok (.if_icmp .ge 15, 3) := by decide +kernel
theorem dX0_wanted_101 : decode cX0_wanted 101 = .ok (.aload_n 0, 1) := by decide +kernel
theorem dX0_wanted_102 : decode cX0_wanted 102 = .ok (.getfield 15, 3) := by decide +kernel
theorem dX0_wanted_105 : decode cX0_wanted 105 = .ok (.iload_n 2, 1) := by decide +kernel
theorem dX0_wanted_106 : decode cX0_wanted 106 = .ok (.iconst (-1), 1) := by decide +kernel
theorem dX0_wanted_107 : decode cX0_wanted 107 = .ok (.invokevirtual 27, 3) := by decide +kernel
theorem dX0_wanted_110 : decode cX0_wanted 110 = .ok (.goto 4, 3) := by decide +kernel
theorem dX0_wanted_113 : decode cX0_wanted 113 = .ok (.iconst 0, 1) := by decide +kernel
theorem dX0_wanted_114 : decode cX0_wanted 114 = .ok (.istore 5, 2) := by decide +kernel
theorem dX0_wanted_116 : decode cX0_wanted 116 = .ok (.iload 5, 2) := by decide +kernel
theorem dX0_wanted_118 : decode cX0_wanted 118 = .ok (.ifCond .eq 8, 3) := by decide +kernel
theorem dX0_wanted_121 : decode cX0_wanted 121 = .ok (.iload 5, 2) := by decide +kernel
theorem dX0_wanted_123 : decode cX0_wanted 123 = .ok (.goto 4, 3) := by decide +kernel
theorem dX0_wanted_126 : decode cX0_wanted 126 = .ok (.iload_n 2, 1) := by decide +kernel
theorem dX0_wanted_127 : decode cX0_wanted 127 = .ok (.ireturn, 1) := by decide +kernel
set_option maxRecDepth 20000 in
theorem ggX0_ticks_X0_wanted : GoodIn wsX0_ticks wsX0_wanted := goodIn_r _ [12, 1, 6, 13, 14, 15, 16, 17, 18, 19, 20, 21, 22, 23, 24, 25, 95, 96, 97, 98, 99, 100] (by decide +kernel) (by decide +kernel)
set_option maxRecDepth 20000 in
theorem gX0_ticks_X0_wanted : GoodIn wsX0_ticks (wsV RX0 38 RX0 yX0_wanted wsX0_wanted) := goodIn_app (goodIn_of _ (by decide +kernel)) ggX0_ticks_X0_wanted
set_option maxRecDepth 20000 in
theorem ggX0_ticks_X1_findWay : GoodIn wsX0_ticks wsX1_findWay := goodIn_r _ [29, 30, 31, 3, 4, 5, 32, 33, 34, 35, 19, 36, 21, 22, 23, 24, 25, 37, 38, 39, 40, 41, 42, 43, 44, 45, 46, 47, 48, 49, 50, 13, 14, 15, 98, 99, 100] (by decide +kernel) (by decide +kernel)
set_option maxRecDepth 20000 in
theorem gX0_ticks_X1_findWay : GoodIn wsX0_ticks (wsV RX0 42 RX1 yX1_findWay wsX1_findWay) := goodIn_app (goodIn_of _ (by decide +kernel)) ggX0_ticks_X1_findWay
set_option maxRecDepth 20000 in
theorem ggX0_ticks_X1_onWay : GoodIn wsX0_ticks wsX1_onWay := goodIn_r _ [54, 32, 98, 99, 100] (by decide +kernel) (by decide +kernel)
set_option maxRecDepth 20000 in
theorem gX0_ticks_X1_onWay : GoodIn wsX0_ticks (wsV RX0 45 RX1 yX1_onWay wsX1_onWay) := goodIn_app (goodIn_of _ (by decide +kernel)) ggX0_ticks_X1_onWay
set_option maxRecDepth 20000 in
theorem ggX0_ticks_X1_coming : GoodIn wsX0_ticks wsX1_coming := goodIn_r _ [58, 25, 59, 60, 61, 19, 62, 21, 22, 23, 24, 41, 42, 43, 44, 45, 46, 47, 48, 49, 50, 63, 64, 65, 66, 98, 99, 100] (by decide +kernel) (by decide +kernel)
set_option maxRecDepth 20000 in
theorem gX0_ticks_X1_coming : GoodIn wsX0_ticks (wsV RX0 48 RX1 yX1_coming wsX1_coming) := goodIn_app (goodIn_of _ (by decide +kernel)) ggX0_ticks_X1_coming
set_option maxRecDepth 20000 in
theorem ggX0_ticks_X3_learn : GoodIn wsX0_ticks wsX3_learn := goodIn_r _ [71, 72, 73, 74, 4, 75, 76, 3, 5, 77, 14, 78, 79, 80, 81, 70, 82, 83, 84, 85, 86, 87, 88, 89, 90, 101] (by decide +kernel) (by decide +kernel)
set_option maxRecDepth 20000 in
theorem gX0_ticks_X3_learn : GoodIn wsX0_ticks (wsV RX0 51 RX3 yX3_learn wsX3_learn) := goodIn_app (goodIn_of _ (by decide +kernel)) ggX0_ticks_X3_learn
set_option maxRecDepth 20000 in
theorem ggX0_ticks_X0_noteTurn : GoodIn wsX0_ticks wsX0_noteTurn := goodIn_r _ [94, 1, 95, 96, 97] (by decide +kernel) (by decide +kernel)
set_option maxRecDepth 20000 in
theorem gX0_ticks_X0_noteTurn : GoodIn wsX0_ticks (wsV RX0 57 RX0 yX0_noteTurn wsX0_noteTurn) := goodIn_app (goodIn_of _ (by decide +kernel)) ggX0_ticks_X0_noteTurn
theorem dX0_ticks_0 : decode cX0_ticks 0 = .ok (.iconst 0, 1) := by decide +kernel
theorem dX0_ticks_1 : decode cX0_ticks 1 = .ok (.istore_n 3, 1) := by decide +kernel
theorem dX0_ticks_2 : decode cX0_ticks 2 = .ok (.iload_n 3, 1) := by decide +kernel
theorem dX0_ticks_3 : decode cX0_ticks 3 = .ok (.iload_n 2, 1) := by decide +kernel
theorem dX0_ticks_4 : decode cX0_ticks 4 = .ok (.if_icmp .ge 175, 3) := by decide +kernel
theorem dX0_ticks_7 : decode cX0_ticks 7 = .ok (.aload_n 0, 1) := by decide +kernel
theorem dX0_ticks_8 : decode cX0_ticks 8 = .ok (.getfield 9, 3) := by decide +kernel
theorem dX0_ticks_11 : decode cX0_ticks 11 = .ok (.bipush 40, 2) := by decide +kernel
theorem dX0_ticks_13 : decode cX0_ticks 13 = .ok (.dup2, 1) := by decide +kernel
theorem dX0_ticks_14 : decode cX0_ticks 14 = .ok (.iaload, 1) := by decide +kernel
theorem dX0_ticks_15 : decode cX0_ticks 15 = .ok (.iconst 1, 1) := by decide +kernel
theorem dX0_ticks_16 : decode cX0_ticks 16 = .ok (.iadd, 1) := by decide +kernel
theorem dX0_ticks_17 : decode cX0_ticks 17 = .ok (.iastore, 1) := by decide +kernel
theorem dX0_ticks_18 : decode cX0_ticks 18 = .ok (.aload_n 0, 1) := by decide +kernel
theorem dX0_ticks_19 : decode cX0_ticks 19 = .ok (.getfield 9, 3) := by decide +kernel
theorem dX0_ticks_22 : decode cX0_ticks 22 = .ok (.bipush 41, 2) := by decide +kernel
theorem dX0_ticks_24 : decode cX0_ticks 24 = .ok (.iconst 0, 1) := by decide +kernel
theorem dX0_ticks_25 : decode cX0_ticks 25 = .ok (.aload_n 0, 1) := by decide +kernel
theorem dX0_ticks_26 : decode cX0_ticks 26 = .ok (.getfield 9, 3) := by decide +kernel
theorem dX0_ticks_29 : decode cX0_ticks 29 = .ok (.bipush 41, 2) := by decide +kernel
theorem dX0_ticks_31 : decode cX0_ticks 31 = .ok (.iaload, 1) := by decide +kernel
theorem dX0_ticks_32 : decode cX0_ticks 32 = .ok (.iconst 1, 1) := by decide +kernel
theorem dX0_ticks_33 : decode cX0_ticks 33 = .ok (.isub, 1) := by decide +kernel
theorem dX0_ticks_34 : decode cX0_ticks 34 = .ok (.invokestatic 33, 3) := by decide +kernel
theorem dX0_ticks_37 : decode cX0_ticks 37 = .ok (.iastore, 1) := by decide +kernel
theorem dX0_ticks_38 : decode cX0_ticks 38 = .ok (.aload_n 0, 1) := by decide +kernel
theorem dX0_ticks_39 : decode cX0_ticks 39 = .ok (.getfield 9, 3) := by decide +kernel
theorem dX0_ticks_42 : decode cX0_ticks 42 = .ok (.bipush 39, 2) := by decide +kernel
theorem dX0_ticks_44 : decode cX0_ticks 44 = .ok (.iaload, 1) := by decide +kernel
theorem dX0_ticks_45 : decode cX0_ticks 45 = .ok (.istore 4, 2) := by decide +kernel
theorem dX0_ticks_47 : decode cX0_ticks 47 = .ok (.aload_n 0, 1) := by decide +kernel
theorem dX0_ticks_48 : decode cX0_ticks 48 = .ok (.iload_n 1, 1) := by decide +kernel
theorem dX0_ticks_49 : decode cX0_ticks 49 = .ok (.invokevirtual 38, 3) := by decide +kernel
theorem dX0_ticks_52 : decode cX0_ticks 52 = .ok (.istore 5, 2) := by decide +kernel
theorem dX0_ticks_54 : decode cX0_ticks 54 = .ok (.iload 4, 2) := by decide +kernel
theorem dX0_ticks_56 : decode cX0_ticks 56 = .ok (.ifCond .ne 15, 3) := by decide +kernel
theorem dX0_ticks_59 : decode cX0_ticks 59 = .ok (.aload_n 0, 1) := by decide +kernel
theorem dX0_ticks_60 : decode cX0_ticks 60 = .ok (.getfield 9, 3) := by decide +kernel
theorem dX0_ticks_63 : decode cX0_ticks 63 = .ok (.bipush 39, 2) := by decide +kernel
theorem dX0_ticks_65 : decode cX0_ticks 65 = .ok (.iload 5, 2) := by decide +kernel
theorem dX0_ticks_67 : decode cX0_ticks 67 = .ok (.iastore, 1) := by decide +kernel
theorem dX0_ticks_68 : decode cX0_ticks 68 = .ok (.goto 105, 3) := by decide +kernel
theorem dX0_ticks_71 : decode cX0_ticks 71 = .ok (.iload 5, 2) := by decide +kernel
theorem dX0_ticks_73 : decode cX0_ticks 73 = .ok (.iload 4, 2) := by decide +kernel
theorem dX0_ticks_75 : decode cX0_ticks 75 = .ok (.if_icmp .lt 20, 3) := by decide +kernel
theorem dX0_ticks_78 : decode cX0_ticks 78 = .ok (.iload 5, 2) := by decide +kernel
theorem dX0_ticks_80 : decode cX0_ticks 80 = .ok (.iload 4, 2) := by decide +kernel
theorem dX0_ticks_82 : decode cX0_ticks 82 = .ok (.if_icmp .le 91, 3) := by decide +kernel
theorem dX0_ticks_85 : decode cX0_ticks 85 = .ok (.aload_n 0, 1) := by decide +kernel
theorem dX0_ticks_86 : decode cX0_ticks 86 = .ok (.getfield 9, 3) := by decide +kernel
theorem dX0_ticks_89 : decode cX0_ticks 89 = .ok (.bipush 41, 2) := by decide +kernel
theorem dX0_ticks_91 : decode cX0_ticks 91 = .ok (.iaload, 1) := by decide +kernel
theorem dX0_ticks_92 : decode cX0_ticks 92 = .ok (.ifCond .ne 81, 3) := by decide +kernel
theorem dX0_ticks_95 : decode cX0_ticks 95 = .ok (.aload_n 0, 1) := by decide +kernel
theorem dX0_ticks_96 : decode cX0_ticks 96 = .ok (.getfield 15, 3) := by decide +kernel
theorem dX0_ticks_99 : decode cX0_ticks 99 = .ok (.iload 4, 2) := by decide +kernel
theorem dX0_ticks_101 : decode cX0_ticks 101 = .ok (.iload 5, 2) := by decide +kernel
theorem dX0_ticks_103 : decode cX0_ticks 103 = .ok (.invokevirtual 42, 3) := by decide +kernel
theorem dX0_ticks_106 : decode cX0_ticks 106 = .ok (.istore 6, 2) := by decide +kernel
theorem dX0_ticks_108 : decode cX0_ticks 108 = .ok (.iconst 0, 1) := by decide +kernel
theorem dX0_ticks_109 : decode cX0_ticks 109 = .ok (.istore 7, 2) := by decide +kernel
theorem dX0_ticks_111 : decode cX0_ticks 111 = .ok (.iload 7, 2) := by decide +kernel
theorem dX0_ticks_113 : decode cX0_ticks 113 = .ok (.iload 6, 2) := by decide +kernel
theorem dX0_ticks_115 : decode cX0_ticks 115 = .ok (.if_icmp .ge 52, 3) := by decide +kernel
theorem dX0_ticks_118 : decode cX0_ticks 118 = .ok (.aload_n 0, 1) := by decide +kernel
theorem dX0_ticks_119 : decode cX0_ticks 119 = .ok (.getfield 15, 3) := by decide +kernel
theorem dX0_ticks_122 : decode cX0_ticks 122 = .ok (.iload 7, 2) := by decide +kernel
theorem dX0_ticks_124 : decode cX0_ticks 124 = .ok (.invokevirtual 45, 3) := by decide +kernel
theorem dX0_ticks_127 : decode cX0_ticks 127 = .ok (.istore 8, 2) := by decide +kernel
theorem dX0_ticks_129 : decode cX0_ticks 129 = .ok (.aload_n 0, 1) := by decide +kernel
theorem dX0_ticks_130 : decode cX0_ticks 130 = .ok (.getfield 19, 3) := by decide +kernel
theorem dX0_ticks_133 : decode cX0_ticks 133 = .ok (.aload_n 0, 1) := by decide +kernel
theorem dX0_ticks_134 : decode cX0_ticks 134 = .ok (.getfield 15, 3) := by decide +kernel
theorem dX0_ticks_137 : decode cX0_ticks 137 = .ok (.aload_n 0, 1) := by decide +kernel
theorem dX0_ticks_138 : decode cX0_ticks 138 = .ok (.getfield 9, 3) := by decide +kernel
theorem dX0_ticks_141 : decode cX0_ticks 141 = .ok (.bipush 39, 2) := by decide +kernel
theorem dX0_ticks_143 : decode cX0_ticks 143 = .ok (.iaload, 1) := by decide +kernel
theorem dX0_ticks_144 : decode cX0_ticks 144 = .ok (.iload 8, 2) := by decide +kernel
theorem dX0_ticks_146 : decode cX0_ticks 146 = .ok (.invokevirtual 48, 3) := by decide +kernel
theorem dX0_ticks_149 : decode cX0_ticks 149 = .ok (.invokevirtual 51, 3) := by decide +kernel
theorem dX0_ticks_152 : decode cX0_ticks 152 = .ok (.aload_n 0, 1) := by decide +kernel
theorem dX0_ticks_153 : decode cX0_ticks 153 = .ok (.getfield 9, 3) := by decide +kernel
theorem dX0_ticks_156 : decode cX0_ticks 156 = .ok (.bipush 39, 2) := by decide +kernel
theorem dX0_ticks_158 : decode cX0_ticks 158 = .ok (.iload 8, 2) := by decide +kernel
theorem dX0_ticks_160 : decode cX0_ticks 160 = .ok (.iastore, 1) := by decide +kernel
theorem dX0_ticks_161 : decode cX0_ticks 161 = .ok (.iinc 7 1, 3) := by decide +kernel
theorem dX0_ticks_164 : decode cX0_ticks 164 = .ok (.goto (-53), 3) := by decide +kernel
theorem dX0_ticks_167 : decode cX0_ticks 167 = .ok (.aload_n 0, 1) := by decide +kernel
theorem dX0_ticks_168 : decode cX0_ticks 168 = .ok (.iload 4, 2) := by decide +kernel
theorem dX0_ticks_170 : decode cX0_ticks 170 = .ok (.invokevirtual 57, 3) := by decide +kernel
theorem dX0_ticks_173 : decode cX0_ticks 173 = .ok (.iinc 3 1, 3) := by decide +kernel
theorem dX0_ticks_176 : decode cX0_ticks 176 = .ok (.goto (-174), 3) := by decide +kernel
theorem dX0_ticks_179 : decode cX0_ticks 179 = .ok (.aload_n 0, 1) := by decide +kernel
theorem dX0_ticks_180 : decode cX0_ticks 180 = .ok (.getfield 9, 3) := by decide +kernel
theorem dX0_ticks_183 : decode cX0_ticks 183 = .ok (.bipush 39, 2) := by decide +kernel
theorem dX0_ticks_185 : decode cX0_ticks 185 = .ok (.iaload, 1) := by decide +kernel
theorem dX0_ticks_186 : decode cX0_ticks 186 = .ok (.ireturn, 1) := by decide +kernel
theorem dX0_noteTurn_0 : decode cX0_noteTurn 0 = .ok (.aload_n 0, 1) := by decide +kernel
theorem dX0_noteTurn_1 : decode cX0_noteTurn 1 = .ok (.getfield 9, 3) := by decide +kernel
theorem dX0_noteTurn_4 : decode cX0_noteTurn 4 = .ok (.bipush 39, 2) := by decide +kernel
theorem dX0_noteTurn_6 : decode cX0_noteTurn 6 = .ok (.iaload, 1) := by decide +kernel
theorem dX0_noteTurn_7 : decode cX0_noteTurn 7 = .ok (.iload_n 1, 1) := by decide +kernel
theorem dX0_noteTurn_8 : decode cX0_noteTurn 8 = .ok (.if_icmp .le 20, 3) := by decide +kernel
theorem dX0_noteTurn_11 : decode cX0_noteTurn 11 = .ok (.aload_n 0, 1) := by decide +kernel
theorem dX0_noteTurn_12 : decode cX0_noteTurn 12 = .ok (.getfield 9, 3) := by decide +kernel
theorem dX0_noteTurn_15 : decode cX0_noteTurn 15 = .ok (.bipush 42, 2) := by decide +kernel
theorem dX0_noteTurn_17 : decode cX0_noteTurn 17 = .ok (.aload_n 0, 1) := by decide +kernel
theorem dX0_noteTurn_18 : decode cX0_noteTurn 18 = .ok (.getfield 9, 3) := by decide +kernel
theorem dX0_noteTurn_21 : decode cX0_noteTurn 21 = .ok (.bipush 40, 2) := by decide +kernel
theorem dX0_noteTurn_23 : decode cX0_noteTurn 23 = .ok (.iaload, 1) := by decide +kernel
theorem dX0_noteTurn_24 : decode cX0_noteTurn 24 = .ok (.iastore, 1) := by decide +kernel
theorem dX0_noteTurn_25 : decode cX0_noteTurn 25 = .ok (.goto 64, 3) := by decide +kernel
theorem dX0_noteTurn_28 : decode cX0_noteTurn 28 = .ok (.aload_n 0, 1) := by decide +kernel
theorem dX0_noteTurn_29 : decode cX0_noteTurn 29 = .ok (.getfield 9, 3) := by decide +kernel
theorem dX0_noteTurn_32 : decode cX0_noteTurn 32 = .ok (.bipush 39, 2) := by decide +kernel
theorem dX0_noteTurn_34 : decode cX0_noteTurn 34 = .ok (.iaload, 1) := by decide +kernel
theorem dX0_noteTurn_35 : decode cX0_noteTurn 35 = .ok (.iload_n 1, 1) := by decide +kernel
theorem dX0_noteTurn_36 : decode cX0_noteTurn 36 = .ok (.if_icmp .ge 53, 3) := by decide +kernel
theorem dX0_noteTurn_39 : decode cX0_noteTurn 39 = .ok (.aload_n 0, 1) := by decide +kernel
theorem dX0_noteTurn_40 : decode cX0_noteTurn 40 = .ok (.getfield 9, 3) := by decide +kernel
theorem dX0_noteTurn_43 : decode cX0_noteTurn 43 = .ok (.bipush 42, 2) := by decide +kernel
theorem dX0_noteTurn_45 : decode cX0_noteTurn 45 = .ok (.iaload, 1) := by decide +kernel
theorem dX0_noteTurn_46 : decode cX0_noteTurn 46 = .ok (.iconst (-1), 1) := by decide +kernel
theorem dX0_noteTurn_47 : decode cX0_noteTurn 47 = .ok (.if_icmp .eq 42, 3) := by decide +kernel
theorem dX0_noteTurn_50 : decode cX0_noteTurn 50 = .ok (.aload_n 0, 1) := by decide +kernel
theorem dX0_noteTurn_51 : decode cX0_noteTurn 51 = .ok (.getfield 9, 3) := by decide +kernel
theorem dX0_noteTurn_54 : decode cX0_noteTurn 54 = .ok (.bipush 40, 2) := by decide +kernel
theorem dX0_noteTurn_56 : decode cX0_noteTurn 56 = .ok (.iaload, 1) := by decide +kernel
theorem dX0_noteTurn_57 : decode cX0_noteTurn 57 = .ok (.aload_n 0, 1) := by decide +kernel
theorem dX0_noteTurn_58 : decode cX0_noteTurn 58 = .ok (.getfield 9, 3) := by decide +kernel
theorem dX0_noteTurn_61 : decode cX0_noteTurn 61 = .ok (.bipush 42, 2) := by decide +kernel
theorem dX0_noteTurn_63 : decode cX0_noteTurn 63 = .ok (.iaload, 1) := by decide +kernel
theorem dX0_noteTurn_64 : decode cX0_noteTurn 64 = .ok (.isub, 1) := by decide +kernel
theorem dX0_noteTurn_65 : decode cX0_noteTurn 65 = .ok (.iconst 5, 1) := by decide +kernel
theorem dX0_noteTurn_66 : decode cX0_noteTurn 66 = .ok (.if_icmp .gt 23, 3) := by decide +kernel
theorem dX0_noteTurn_69 : decode cX0_noteTurn 69 = .ok (.aload_n 0, 1) := by decide +kernel
theorem dX0_noteTurn_70 : decode cX0_noteTurn 70 = .ok (.getfield 9, 3) := by decide +kernel
theorem dX0_noteTurn_73 : decode cX0_noteTurn 73 = .ok (.bipush 46, 2) := by decide +kernel
theorem dX0_noteTurn_75 : decode cX0_noteTurn 75 = .ok (.dup2, 1) := by decide +kernel
theorem dX0_noteTurn_76 : decode cX0_noteTurn 76 = .ok (.iaload, 1) := by decide +kernel
theorem dX0_noteTurn_77 : decode cX0_noteTurn 77 = .ok (.iconst 1, 1) := by decide +kernel
theorem dX0_noteTurn_78 : decode cX0_noteTurn 78 = .ok (.iadd, 1) := by decide +kernel
theorem dX0_noteTurn_79 : decode cX0_noteTurn 79 = .ok (.iastore, 1) := by decide +kernel
theorem dX0_noteTurn_80 : decode cX0_noteTurn 80 = .ok (.aload_n 0, 1) := by decide +kernel
theorem dX0_noteTurn_81 : decode cX0_noteTurn 81 = .ok (.getfield 9, 3) := by decide +kernel
theorem dX0_noteTurn_84 : decode cX0_noteTurn 84 = .ok (.bipush 41, 2) := by decide +kernel
theorem dX0_noteTurn_86 : decode cX0_noteTurn 86 = .ok (.bipush 10, 2) := by decide +kernel
theorem dX0_noteTurn_88 : decode cX0_noteTurn 88 = .ok (.iastore, 1) := by decide +kernel
theorem dX0_noteTurn_89 : decode cX0_noteTurn 89 = .ok (.return_, 1) := by decide +kernel
theorem dX1_init_0 : decode cX1_init 0 = .ok (.aload_n 0, 1) := by decide +kernel
theorem dX1_init_1 : decode cX1_init 1 = .ok (.invokespecial 3, 3) := by decide +kernel
theorem dX1_init_4 : decode cX1_init 4 = .ok (.aload_n 0, 1) := by decide +kernel
theorem dX1_init_5 : decode cX1_init 5 = .ok (.bipush 8, 2) := by decide +kernel
theorem dX1_init_7 : decode cX1_init 7 = .ok (.newarray .int, 2) := by decide +kernel
theorem dX1_init_9 : decode cX1_init 9 = .ok (.putfield 9, 3) := by decide +kernel
theorem dX1_init_12 : decode cX1_init 12 = .ok (.aload_n 0, 1) := by decide +kernel
theorem dX1_init_13 : decode cX1_init 13 = .ok (.bipush 7, 2) := by decide +kernel
theorem dX1_init_15 : decode cX1_init 15 = .ok (.newarray .int, 2) := by decide +kernel
theorem dX1_init_17 : decode cX1_init 17 = .ok (.putfield 15, 3) := by decide +kernel
theorem dX1_init_20 : decode cX1_init 20 = .ok (.aload_n 0, 1) := by decide +kernel
theorem dX1_init_21 : decode cX1_init 21 = .ok (.aload_n 1, 1) := by decide +kernel
theorem dX1_init_22 : decode cX1_init 22 = .ok (.putfield 18, 3) := by decide +kernel
theorem dX1_init_25 : decode cX1_init 25 = .ok (.return_, 1) := by decide +kernel
theorem dX1_isFit_0 : decode cX1_isFit 0 = .ok (.iload_n 1, 1) := by decide +kernel
theorem dX1_isFit_1 : decode cX1_isFit 1 = .ok (.iconst 1, 1) := by decide +kernel
theorem dX1_isFit_2 : decode cX1_isFit 2 = .ok (.if_icmp .lt 20, 3) := by decide +kernel
theorem dX1_isFit_5 : decode cX1_isFit 5 = .ok (.iload_n 1, 1) := by decide +kernel
theorem dX1_isFit_6 : decode cX1_isFit 6 = .ok (.bipush 7, 2) := by decide +kernel
theorem dX1_isFit_8 : decode cX1_isFit 8 = .ok (.if_icmp .gt 14, 3) := by decide +kernel
theorem dX1_isFit_11 : decode cX1_isFit 11 = .ok (.aload_n 0, 1) := by decide +kernel
theorem dX1_isFit_12 : decode cX1_isFit 12 = .ok (.getfield 18, 3) := by decide +kernel
theorem dX1_isFit_15 : decode cX1_isFit 15 = .ok (.iconst 0, 1) := by decide +kernel
theorem dX1_isFit_16 : decode cX1_isFit 16 = .ok (.iload_n 1, 1) := by decide +kernel
theorem dX1_isFit_17 : decode cX1_isFit 17 = .ok (.iadd, 1) := by decide +kernel
theorem dX1_isFit_18 : decode cX1_isFit 18 = .ok (.iaload, 1) := by decide +kernel
theorem dX1_isFit_19 : decode cX1_isFit 19 = .ok (.ifCond .ne 5, 3) := by decide +kernel
theorem dX1_isFit_22 : decode cX1_isFit 22 = .ok (.iconst 0, 1) := by decide +kernel
theorem dX1_isFit_23 : decode cX1_isFit 23 = .ok (.ireturn, 1) := by decide +kernel
theorem dX1_isFit_24 : decode cX1_isFit 24 = .ok (.iconst 0, 1) := by decide +kernel
theorem dX1_isFit_25 : decode cX1_isFit 25 = .ok (.istore_n 2, 1) := by decide +kernel
theorem dX1_isFit_26 : decode cX1_isFit 26 = .ok (.iload_n 2, 1) := by decide +kernel
theorem dX1_isFit_27 : decode cX1_isFit 27 = .ok (.iconst 5, 1) := by decide +kernel
theorem dX1_isFit_28 : decode cX1_isFit 28 = .ok (.if_icmp .ge 54, 3) := by decide +kernel
theorem dX1_isFit_31 : decode cX1_isFit 31 = .ok (.aload_n 0, 1) := by decide +kernel
theorem dX1_isFit_32 : decode cX1_isFit 32 = .ok (.getfield 18, 3) := by decide +kernel
theorem dX1_isFit_35 : decode cX1_isFit 35 = .ok (.iconst 0, 1) := by decide +kernel
theorem dX1_isFit_36 : decode cX1_isFit 36 = .ok (.iload_n 1, 1) := by decide +kernel
theorem dX1_isFit_37 : decode cX1_isFit 37 = .ok (.iadd, 1) := by decide +kernel
theorem dX1_isFit_38 : decode cX1_isFit 38 = .ok (.iaload, 1) := by decide +kernel
theorem dX1_isFit_39 : decode cX1_isFit 39 = .ok (.iload_n 2, 1) := by decide +kernel
theorem dX1_isFit_40 : decode cX1_isFit 40 = .ok (.ishr, 1) := by decide +kernel
theorem dX1_isFit_41 : decode cX1_isFit 41 = .ok (.iconst 1, 1) := by decide +kernel
theorem dX1_isFit_42 : decode cX1_isFit 42 = .ok (.iand, 1) := by decide +kernel
theorem dX1_isFit_43 : decode cX1_isFit 43 = .ok (.iconst 1, 1) := by decide +kernel
theorem dX1_isFit_44 : decode cX1_isFit 44 = .ok (.if_icmp .ne 7, 3) := by decide +kernel
theorem dX1_isFit_47 : decode cX1_isFit 47 = .ok (.iconst 1, 1) := by decide +kernel
theorem dX1_isFit_48 : decode cX1_isFit 48 = .ok (.goto 4, 3) := by decide +kernel
theorem dX1_isFit_51 : decode cX1_isFit 51 = .ok (.iconst 0, 1) := by decide +kernel
theorem dX1_isFit_52 : decode cX1_isFit 52 = .ok (.istore_n 3, 1) := by decide +kernel
theorem dX1_isFit_53 : decode cX1_isFit 53 = .ok (.aload_n 0, 1) := by decide +kernel
theorem dX1_isFit_54 : decode cX1_isFit 54 = .ok (.getfield 18, 3) := by decide +kernel
theorem dX1_isFit_57 : decode cX1_isFit 57 = .ok (.bipush 24, 2) := by decide +kernel
theorem dX1_isFit_59 : decode cX1_isFit 59 = .ok (.iload_n 2, 1) := by decide +kernel
theorem dX1_isFit_60 : decode cX1_isFit 60 = .ok (.iadd, 1) := by decide +kernel
theorem dX1_isFit_61 : decode cX1_isFit 61 = .ok (.iaload, 1) := by decide +kernel
theorem dX1_isFit_62 : decode cX1_isFit 62 = .ok (.iload_n 3, 1) := by decide +kernel
theorem dX1_isFit_63 : decode cX1_isFit 63 = .ok (.ifCond .eq 7, 3) := by decide +kernel
theorem dX1_isFit_66 : decode cX1_isFit 66 = .ok (.iconst 1, 1) := by decide +kernel
theorem dX1_isFit_67 : decode cX1_isFit 67 = .ok (.goto 4, 3) := by decide +kernel
theorem dX1_isFit_70 : decode cX1_isFit 70 = .ok (.iconst 2, 1) := by decide +kernel
theorem dX1_isFit_71 : decode cX1_isFit 71 = .ok (.if_icmp .ne 5, 3) := by decide +kernel
theorem dX1_isFit_74 : decode cX1_isFit 74 = .ok (.iconst 0, 1) := by decide +kernel
theorem dX1_isFit_75 : decode cX1_isFit 75 = .ok (.ireturn, 1) := by decide +kernel
theorem dX1_isFit_76 : decode cX1_isFit 76 = .ok (.iinc 2 1, 3) := by decide +kernel
theorem dX1_isFit_79 : decode cX1_isFit 79 = .ok (.goto (-53), 3) := by decide +kernel
theorem dX1_isFit_82 : decode cX1_isFit 82 = .ok (.iconst 1, 1) := by decide +kernel
theorem dX1_isFit_83 : decode cX1_isFit 83 = .ok (.ireturn, 1) := by decide +kernel
set_option maxRecDepth 20000 in
theorem ggX1_fitBits_X1_isFit : GoodIn wsX1_fitBits wsX1_isFit := goodIn_r _ [5, 6, 7, 8, 9] (by decide +kernel) (by decide +kernel)
set_option maxRecDepth 20000 in
theorem gX1_fitBits_X1_isFit : GoodIn wsX1_fitBits (wsV RX1 21 RX1 yX1_isFit wsX1_isFit) := goodIn_app (goodIn_of _ (by decide +kernel)) ggX1_fitBits_X1_isFit
theorem dX1_fitBits_0 : decode cX1_fitBits 0 = .ok (.iconst 0, 1) := by decide +kernel
theorem dX1_fitBits_1 : decode cX1_fitBits 1 = .ok (.istore_n 1, 1) := by decide +kernel
theorem dX1_fitBits_2 : decode cX1_fitBits 2 = .ok (.iconst 1, 1) := by decide +kernel
theorem dX1_fitBits_3 : decode cX1_fitBits 3 = .ok (.istore_n 2, 1) := by decide +kernel
theorem dX1_fitBits_4 : decode cX1_fitBits 4 = .ok (.iload_n 2, 1) := by decide +kernel
theorem dX1_fitBits_5 : decode cX1_fitBits 5 = .ok (.bipush 7, 2) := by decide +kernel
theorem dX1_fitBits_7 : decode cX1_fitBits 7 = .ok (.if_icmp .gt 23, 3) := by decide +kernel
theorem dX1_fitBits_10 : decode cX1_fitBits 10 = .ok (.aload_n 0, 1) := by decide +kernel
theorem dX1_fitBits_11 : decode cX1_fitBits 11 = .ok (.iload_n 2, 1) := by decide +kernel
theorem dX1_fitBits_12 : decode cX1_fitBits 12 = .ok (.invokevirtual 21, 3) := by decide +kernel
theorem dX1_fitBits_15 : decode cX1_fitBits 15 = .ok (.ifCond .eq 9, 3) := by decide +kernel
theorem dX1_fitBits_18 : decode cX1_fitBits 18 = .ok (.iload_n 1, 1) := by decide +kernel
theorem dX1_fitBits_19 : decode cX1_fitBits 19 = .ok (.iconst 1, 1) := by decide +kernel
theorem dX1_fitBits_20 : decode cX1_fitBits 20 = .ok (.iload_n 2, 1) := by decide +kernel
theorem dX1_fitBits_21 : decode cX1_fitBits 21 = .ok (.ishl, 1) := by decide +kernel
theorem dX1_fitBits_22 : decode cX1_fitBits 22 = .ok (.ior, 1) := by decide +kernel
theorem dX1_fitBits_23 : decode cX1_fitBits 23 = .ok (.istore_n 1, 1) := by decide +kernel
theorem dX1_fitBits_24 : decode cX1_fitBits 24 = .ok (.iinc 2 1, 3) := by decide +kernel
theorem dX1_fitBits_27 : decode cX1_fitBits 27 = .ok (.goto (-23), 3) := by decide +kernel
theorem dX1_fitBits_30 : decode cX1_fitBits 30 = .ok (.iload_n 1, 1) := by decide +kernel
theorem dX1_fitBits_31 : decode cX1_fitBits 31 = .ok (.ireturn, 1) := by decide +kernel
set_option maxRecDepth 20000 in
theorem ggX1_nextFit_X1_isFit : GoodIn wsX1_nextFit wsX1_isFit := goodIn_r _ [5, 6, 7, 8, 9] (by decide +kernel) (by decide +kernel)
set_option maxRecDepth 20000 in
theorem gX1_nextFit_X1_isFit : GoodIn wsX1_nextFit (wsV RX1 21 RX1 yX1_isFit wsX1_isFit) := goodIn_app (goodIn_of _ (by decide +kernel)) ggX1_nextFit_X1_isFit
theorem dX1_nextFit_0 : decode cX1_nextFit 0 = .ok (.iload_n 1, 1) := by decide +kernel
theorem dX1_nextFit_1 : decode cX1_nextFit 1 = .ok (.istore_n 3, 1) := by decide +kernel
theorem dX1_nextFit_2 : decode cX1_nextFit 2 = .ok (.iconst 0, 1) := by decide +kernel
theorem dX1_nextFit_3 : decode cX1_nextFit 3 = .ok (.istore 4, 2) := by decide +kernel
theorem dX1_nextFit_5 : decode cX1_nextFit 5 = .ok (.iload 4, 2) := by decide +kernel
theorem dX1_nextFit_7 : decode cX1_nextFit 7 = .ok (.bipush 7, 2) := by decide +kernel
theorem dX1_nextFit_9 : decode cX1_nextFit 9 = .ok (.if_icmp .ge 23, 3) := by decide +kernel
theorem dX1_nextFit_12 : decode cX1_nextFit 12 = .ok (.iload_n 3, 1) := by decide +kernel
theorem dX1_nextFit_13 : decode cX1_nextFit 13 = .ok (.iload_n 2, 1) := by decide +kernel
theorem dX1_nextFit_14 : decode cX1_nextFit 14 = .ok (.iadd, 1) := by decide +kernel
theorem dX1_nextFit_15 : decode cX1_nextFit 15 = .ok (.istore_n 3, 1) := by decide +kernel
theorem dX1_nextFit_16 : decode cX1_nextFit 16 = .ok (.aload_n 0, 1) := by decide +kernel
theorem dX1_nextFit_17 : decode cX1_nextFit 17 = .ok (.iload_n 3, 1) := by decide +kernel
theorem dX1_nextFit_18 : decode cX1_nextFit 18 = .ok (.invokevirtual 21, 3) := by decide +kernel
theorem dX1_nextFit_21 : decode cX1_nextFit 21 = .ok (.ifCond .eq 5, 3) := by decide +kernel
theorem dX1_nextFit_24 : decode cX1_nextFit 24 = .ok (.iload_n 3, 1) := by decide +kernel
theorem dX1_nextFit_25 : decode cX1_nextFit 25 = .ok (.ireturn, 1) := by decide +kernel
theorem dX1_nextFit_26 : decode cX1_nextFit 26 = .ok (.iinc 4 1, 3) := by decide +kernel
theorem dX1_nextFit_29 : decode cX1_nextFit 29 = .ok (.goto (-24), 3) := by decide +kernel
theorem dX1_nextFit_32 : decode cX1_nextFit 32 = .ok (.iconst 0, 1) := by decide +kernel
theorem dX1_nextFit_33 : decode cX1_nextFit 33 = .ok (.ireturn, 1) := by decide +kernel
set_option maxRecDepth 20000 in
theorem ggX1_isSimple_X1_isFit : GoodIn wsX1_isSimple wsX1_isFit := goodIn_r _ [6, 1, 17, 18, 19] (by decide +kernel) (by decide +kernel)
set_option maxRecDepth 20000 in
theorem gX1_isSimple_X1_isFit : GoodIn wsX1_isSimple (wsV RX1 21 RX1 yX1_isFit wsX1_isFit) := goodIn_app (goodIn_of _ (by decide +kernel)) ggX1_isSimple_X1_isFit
set_option maxRecDepth 20000 in
theorem ggX1_isSimple_X1_swapsOne : GoodIn wsX1_isSimple wsX1_swapsOne := goodIn_r _ [9, 10, 11, 12, 13, 14, 15, 16] (by decide +kernel) (by decide +kernel)
set_option maxRecDepth 20000 in
theorem gX1_isSimple_X1_swapsOne : GoodIn wsX1_isSimple (va_wsS RX1 25 yX1_swapsOne wsX1_swapsOne) := goodIn_app (goodIn_of _ (by decide +kernel)) ggX1_isSimple_X1_swapsOne
theorem dX1_isSimple_0 : decode cX1_isSimple 0 = .ok (.aload_n 0, 1) := by decide +kernel
theorem dX1_isSimple_1 : decode cX1_isSimple 1 = .ok (.iload_n 1, 1) := by decide +kernel
theorem dX1_isSimple_2 : decode cX1_isSimple 2 = .ok (.invokevirtual 21, 3) := by decide +kernel
theorem dX1_isSimple_5 : decode cX1_isSimple 5 = .ok (.ifCond .eq 37, 3) := by decide +kernel
theorem dX1_isSimple_8 : decode cX1_isSimple 8 = .ok (.aload_n 0, 1) := by decide +kernel
theorem dX1_isSimple_9 : decode cX1_isSimple 9 = .ok (.iload_n 2, 1) := by decide +kernel
theorem dX1_isSimple_10 : decode cX1_isSimple 10 = .ok (.invokevirtual 21, 3) := by decide +kernel
theorem dX1_isSimple_13 : decode cX1_isSimple 13 = .ok (.ifCond .eq 29, 3) := by decide +kernel
theorem dX1_isSimple_16 : decode cX1_isSimple 16 = .ok (.aload_n 0, 1) := by decide +kernel
theorem dX1_isSimple_17 : decode cX1_isSimple 17 = .ok (.getfield 18, 3) := by decide +kernel
theorem dX1_isSimple_20 : decode cX1_isSimple 20 = .ok (.iconst 0, 1) := by decide +kernel
theorem dX1_isSimple_21 : decode cX1_isSimple 21 = .ok (.iload_n 1, 1) := by decide +kernel
theorem dX1_isSimple_22 : decode cX1_isSimple 22 = .ok (.iadd, 1) := by decide +kernel
theorem dX1_isSimple_23 : decode cX1_isSimple 23 = .ok (.iaload, 1) := by decide +kernel
theorem dX1_isSimple_24 : decode cX1_isSimple 24 = .ok (.aload_n 0, 1) := by decide +kernel
theorem dX1_isSimple_25 : decode cX1_isSimple 25 = .ok (.getfield 18, 3) := by decide +kernel
theorem dX1_isSimple_28 : decode cX1_isSimple 28 = .ok (.iconst 0, 1) := by decide +kernel
theorem dX1_isSimple_29 : decode cX1_isSimple 29 = .ok (.iload_n 2, 1) := by decide +kernel
theorem dX1_isSimple_30 : decode cX1_isSimple 30 = .ok (.iadd, 1) := by decide +kernel
theorem dX1_isSimple_31 : decode cX1_isSimple 31 = .ok (.iaload, 1) := by decide +kernel
theorem dX1_isSimple_32 : decode cX1_isSimple 32 = .ok (.invokestatic 25, 3) := by decide +kernel
theorem dX1_isSimple_35 : decode cX1_isSimple 35 = .ok (.ifCond .eq 7, 3) := by decide +kernel
theorem dX1_isSimple_38 : decode cX1_isSimple 38 = .ok (.iconst 1, 1) := by decide +kernel
theorem dX1_isSimple_39 : decode cX1_isSimple 39 = .ok (.goto 4, 3) := by decide +kernel
theorem dX1_isSimple_42 : decode cX1_isSimple 42 = .ok (.iconst 0, 1) := by decide +kernel
theorem dX1_isSimple_43 : decode cX1_isSimple 43 = .ok (.ireturn, 1) := by decide +kernel
set_option maxRecDepth 20000 in
theorem ggX1_coming_X1_isSimple : GoodIn wsX1_coming wsX1_isSimple := goodIn_r _ [6, 1, 7, 8, 9, 5, 10, 11, 12, 13, 14, 15, 16, 17, 18, 19, 20, 25, 26, 27] (by decide +kernel) (by decide +kernel)
set_option maxRecDepth 20000 in
theorem gX1_coming_X1_isSimple : GoodIn wsX1_coming (wsV RX1 29 RX1 yX1_isSimple wsX1_isSimple) := goodIn_app (goodIn_of _ (by decide +kernel)) ggX1_coming_X1_isSimple
set_option maxRecDepth 20000 in
theorem ggX1_coming_J6_numberOfTrailingZeros_0f7a4 : GoodIn wsX1_coming wsJ6_numberOfTrailingZeros_0f7a4 := goodIn_r _ [23, 24] (by decide +kernel) (by decide +kernel)
set_option maxRecDepth 20000 in
theorem gX1_coming_J6_numberOfTrailingZeros_0f7a4 : GoodIn wsX1_coming (va_wsS RX1 32 yJ6_numberOfTrailingZeros_0f7a4 wsJ6_numberOfTrailingZeros_0f7a4) := goodIn_app (goodIn_of _ (by decide +kernel)) ggX1_coming_J6_numberOfTrailingZeros_0f7a4
theorem dX1_coming_0 : decode cX1_coming 0 = .ok (.aload_n 0, 1) := by decide +kernel
theorem dX1_coming_1 : decode cX1_coming 1 = .ok (.iload_n 1, 1) := by decide +kernel
theorem dX1_coming_2 : decode cX1_coming 2 = .ok (.iload_n 2, 1) := by decide +kernel
theorem dX1_coming_3 : decode cX1_coming 3 = .ok (.invokevirtual 29, 3) := by decide +kernel
theorem dX1_coming_6 : decode cX1_coming 6 = .ok (.ifCond .ne 5, 3) := by decide +kernel
theorem dX1_coming_9 : decode cX1_coming 9 = .ok (.iconst (-1), 1) := by decide +kernel
theorem dX1_coming_10 : decode cX1_coming 10 = .ok (.ireturn, 1) := by decide +kernel
theorem dX1_coming_11 : decode cX1_coming 11 = .ok (.aload_n 0, 1) := by decide +kernel
theorem dX1_coming_12 : decode cX1_coming 12 = .ok (.getfield 18, 3) := by decide +kernel
theorem dX1_coming_15 : decode cX1_coming 15 = .ok (.iconst 0, 1) := by decide +kernel
theorem dX1_coming_16 : decode cX1_coming 16 = .ok (.iload_n 2, 1) := by decide +kernel
theorem dX1_coming_17 : decode cX1_coming 17 = .ok (.iadd, 1) := by decide +kernel
theorem dX1_coming_18 : decode cX1_coming 18 = .ok (.iaload, 1) := by decide +kernel
theorem dX1_coming_19 : decode cX1_coming 19 = .ok (.aload_n 0, 1) := by decide +kernel
theorem dX1_coming_20 : decode cX1_coming 20 = .ok (.getfield 18, 3) := by decide +kernel
theorem dX1_coming_23 : decode cX1_coming 23 = .ok (.iconst 0, 1) := by decide +kernel
theorem dX1_coming_24 : decode cX1_coming 24 = .ok (.iload_n 1, 1) := by decide +kernel
theorem dX1_coming_25 : decode cX1_coming 25 = .ok (.iadd, 1) := by decide +kernel
theorem dX1_coming_26 : decode cX1_coming 26 = .ok (.iaload, 1) := by decide +kernel
theorem dX1_coming_27 : decode cX1_coming 27 = .ok (.iconst (-1), 1) := by decide +kernel
theorem dX1_coming_28 : decode cX1_coming 28 = .ok (.ixor, 1) := by decide +kernel
theorem dX1_coming_29 : decode cX1_coming 29 = .ok (.iand, 1) := by decide +kernel
theorem dX1_coming_30 : decode cX1_coming 30 = .ok (.invokestatic 32, 3) := by decide +kernel
theorem dX1_coming_33 : decode cX1_coming 33 = .ok (.ireturn, 1) := by decide +kernel
set_option maxRecDepth 20000 in
theorem ggX1_countSimple_X1_isSimple : GoodIn wsX1_countSimple wsX1_isSimple := goodIn_r _ [5, 6, 7, 8, 9, 4, 10, 11, 12, 13, 14, 15, 16, 17, 18, 19, 20, 21, 22, 23] (by decide +kernel) (by decide +kernel)
set_option maxRecDepth 20000 in
theorem gX1_countSimple_X1_isSimple : GoodIn wsX1_countSimple (wsV RX1 29 RX1 yX1_isSimple wsX1_isSimple) := goodIn_app (goodIn_of _ (by decide +kernel)) ggX1_countSimple_X1_isSimple
theorem dX1_countSimple_0 : decode cX1_countSimple 0 = .ok (.iconst 0, 1) := by decide +kernel
theorem dX1_countSimple_1 : decode cX1_countSimple 1 = .ok (.istore_n 2, 1) := by decide +kernel
theorem dX1_countSimple_2 : decode cX1_countSimple 2 = .ok (.iconst 1, 1) := by decide +kernel
theorem dX1_countSimple_3 : decode cX1_countSimple 3 = .ok (.istore_n 3, 1) := by decide +kernel
theorem dX1_countSimple_4 : decode cX1_countSimple 4 = .ok (.iload_n 3, 1) := by decide +kernel
theorem dX1_countSimple_5 : decode cX1_countSimple 5 = .ok (.bipush 7, 2) := by decide +kernel
theorem dX1_countSimple_7 : decode cX1_countSimple 7 = .ok (.if_icmp .gt 21, 3) := by decide +kernel
theorem dX1_countSimple_10 : decode cX1_countSimple 10 = .ok (.aload_n 0, 1) := by decide +kernel
theorem dX1_countSimple_11 : decode cX1_countSimple 11 = .ok (.iload_n 1, 1) := by decide +kernel
theorem dX1_countSimple_12 : decode cX1_countSimple 12 = .ok (.iload_n 3, 1) := by decide +kernel
theorem dX1_countSimple_13 : decode cX1_countSimple 13 = .ok (.invokevirtual 29, 3) := by decide +kernel
theorem dX1_countSimple_16 : decode cX1_countSimple 16 = .ok (.ifCond .eq 6, 3) := by decide +kernel
theorem dX1_countSimple_19 : decode cX1_countSimple 19 = .ok (.iinc 2 1, 3) := by decide +kernel
theorem dX1_countSimple_22 : decode cX1_countSimple 22 = .ok (.iinc 3 1, 3) := by decide +kernel
theorem dX1_countSimple_25 : decode cX1_countSimple 25 = .ok (.goto (-21), 3) := by decide +kernel
theorem dX1_countSimple_28 : decode cX1_countSimple 28 = .ok (.iload_n 2, 1) := by decide +kernel
theorem dX1_countSimple_29 : decode cX1_countSimple 29 = .ok (.ireturn, 1) := by decide +kernel
theorem dX1_countClosing_0 : decode cX1_countClosing 0 = .ok (.iconst 0, 1) := by decide +kernel
theorem dX1_countClosing_1 : decode cX1_countClosing 1 = .ok (.istore_n 2, 1) := by decide +kernel
theorem dX1_countClosing_2 : decode cX1_countClosing 2 = .ok (.iconst 1, 1) := by decide +kernel
theorem dX1_countClosing_3 : decode cX1_countClosing 3 = .ok (.istore_n 3, 1) := by decide +kernel
theorem dX1_countClosing_4 : decode cX1_countClosing 4 = .ok (.iload_n 3, 1) := by decide +kernel
theorem dX1_countClosing_5 : decode cX1_countClosing 5 = .ok (.bipush 7, 2) := by decide +kernel
theorem dX1_countClosing_7 : decode cX1_countClosing 7 = .ok (.if_icmp .gt 24, 3) := by decide +kernel
theorem dX1_countClosing_10 : decode cX1_countClosing 10 = .ok (.iload_n 2, 1) := by decide +kernel
theorem dX1_countClosing_11 : decode cX1_countClosing 11 = .ok (.aload_n 0, 1) := by decide +kernel
theorem dX1_countClosing_12 : decode cX1_countClosing 12 = .ok (.getfield 18, 3) := by decide +kernel
theorem dX1_countClosing_15 : decode cX1_countClosing 15 = .ok (.iconst 0, 1) := by decide +kernel
theorem dX1_countClosing_16 : decode cX1_countClosing 16 = .ok (.iload_n 3, 1) := by decide +kernel
theorem dX1_countClosing_17 : decode cX1_countClosing 17 = .ok (.iadd, 1) := by decide +kernel
theorem dX1_countClosing_18 : decode cX1_countClosing 18 = .ok (.iaload, 1) := by decide +kernel
theorem dX1_countClosing_19 : decode cX1_countClosing 19 = .ok (.iload_n 1, 1) := by decide +kernel
theorem dX1_countClosing_20 : decode cX1_countClosing 20 = .ok (.ishr, 1) := by decide +kernel
theorem dX1_countClosing_21 : decode cX1_countClosing 21 = .ok (.iconst 1, 1) := by decide +kernel
theorem dX1_countClosing_22 : decode cX1_countClosing 22 = .ok (.iand, 1) := by decide +kernel
theorem dX1_countClosing_23 : decode cX1_countClosing 23 = .ok (.iadd, 1) := by decide +kernel
theorem dX1_countClosing_24 : decode cX1_countClosing 24 = .ok (.istore_n 2, 1) := by decide +kernel
theorem dX1_countClosing_25 : decode cX1_countClosing 25 = .ok (.iinc 3 1, 3) := by decide +kernel
theorem dX1_countClosing_28 : decode cX1_countClosing 28 = .ok (.goto (-24), 3) := by decide +kernel
theorem dX1_countClosing_31 : decode cX1_countClosing 31 = .ok (.iload_n 2, 1) := by decide +kernel
theorem dX1_countClosing_32 : decode cX1_countClosing 32 = .ok (.ireturn, 1) := by decide +kernel
theorem dX1_countWithin_0 : decode cX1_countWithin 0 = .ok (.iconst 0, 1) := by decide +kernel
theorem dX1_countWithin_1 : decode cX1_countWithin 1 = .ok (.istore_n 2, 1) := by decide +kernel
theorem dX1_countWithin_2 : decode cX1_countWithin 2 = .ok (.iconst 1, 1) := by decide +kernel
theorem dX1_countWithin_3 : decode cX1_countWithin 3 = .ok (.istore_n 3, 1) := by decide +kernel
theorem dX1_countWithin_4 : decode cX1_countWithin 4 = .ok (.iload_n 3, 1) := by decide +kernel
theorem dX1_countWithin_5 : decode cX1_countWithin 5 = .ok (.bipush 7, 2) := by decide +kernel
theorem dX1_countWithin_7 : decode cX1_countWithin 7 = .ok (.if_icmp .gt 38, 3) := by decide +kernel
theorem dX1_countWithin_10 : decode cX1_countWithin 10 = .ok (.aload_n 0, 1) := by decide +kernel
theorem dX1_countWithin_11 : decode cX1_countWithin 11 = .ok (.getfield 18, 3) := by decide +kernel
theorem dX1_countWithin_14 : decode cX1_countWithin 14 = .ok (.iconst 0, 1) := by decide +kernel
theorem dX1_countWithin_15 : decode cX1_countWithin 15 = .ok (.iload_n 3, 1) := by decide +kernel
theorem dX1_countWithin_16 : decode cX1_countWithin 16 = .ok (.iadd, 1) := by decide +kernel
theorem dX1_countWithin_17 : decode cX1_countWithin 17 = .ok (.iaload, 1) := by decide +kernel
theorem dX1_countWithin_18 : decode cX1_countWithin 18 = .ok (.ifCond .eq 21, 3) := by decide +kernel
theorem dX1_countWithin_21 : decode cX1_countWithin 21 = .ok (.aload_n 0, 1) := by decide +kernel
theorem dX1_countWithin_22 : decode cX1_countWithin 22 = .ok (.getfield 18, 3) := by decide +kernel
theorem dX1_countWithin_25 : decode cX1_countWithin 25 = .ok (.iconst 0, 1) := by decide +kernel
theorem dX1_countWithin_26 : decode cX1_countWithin 26 = .ok (.iload_n 3, 1) := by decide +kernel
theorem dX1_countWithin_27 : decode cX1_countWithin 27 = .ok (.iadd, 1) := by decide +kernel
theorem dX1_countWithin_28 : decode cX1_countWithin 28 = .ok (.iaload, 1) := by decide +kernel
theorem dX1_countWithin_29 : decode cX1_countWithin 29 = .ok (.iload_n 1, 1) := by decide +kernel
theorem dX1_countWithin_30 : decode cX1_countWithin 30 = .ok (.iconst (-1), 1) := by decide +kernel
theorem dX1_countWithin_31 : decode cX1_countWithin 31 = .ok (.ixor, 1) := by decide +kernel
theorem dX1_countWithin_32 : decode cX1_countWithin 32 = .ok (.iand, 1) := by decide +kernel
theorem dX1_countWithin_33 : decode cX1_countWithin 33 = .ok (.ifCond .ne 6, 3) := by decide +kernel
theorem dX1_countWithin_36 : decode cX1_countWithin 36 = .ok (.iinc 2 1, 3) := by decide +kernel
theorem dX1_countWithin_39 : decode cX1_countWithin 39 = .ok (.iinc 3 1, 3) := by decide +kernel
theorem dX1_countWithin_42 : decode cX1_countWithin 42 = .ok (.goto (-38), 3) := by decide +kernel
theorem dX1_countWithin_45 : decode cX1_countWithin 45 = .ok (.iload_n 2, 1) := by decide +kernel
theorem dX1_countWithin_46 : decode cX1_countWithin 46 = .ok (.ireturn, 1) := by decide +kernel
theorem dX1_isTaken_0 : decode cX1_isTaken 0 = .ok (.iconst 1, 1) := by decide +kernel
theorem dX1_isTaken_1 : decode cX1_isTaken 1 = .ok (.istore_n 3, 1) := by decide +kernel
theorem dX1_isTaken_2 : decode cX1_isTaken 2 = .ok (.iload_n 3, 1) := by decide +kernel
theorem dX1_isTaken_3 : decode cX1_isTaken 3 = .ok (.bipush 7, 2) := by decide +kernel
theorem dX1_isTaken_5 : decode cX1_isTaken 5 = .ok (.if_icmp .gt 32, 3) := by decide +kernel
theorem dX1_isTaken_8 : decode cX1_isTaken 8 = .ok (.iload_n 3, 1) := by decide +kernel
theorem dX1_isTaken_9 : decode cX1_isTaken 9 = .ok (.iload_n 1, 1) := by decide +kernel
theorem dX1_isTaken_10 : decode cX1_isTaken 10 = .ok (.if_icmp .eq 21, 3) := by decide +kernel
theorem dX1_isTaken_13 : decode cX1_isTaken 13 = .ok (.iload_n 2, 1) := by decide +kernel
theorem dX1_isTaken_14 : decode cX1_isTaken 14 = .ok (.ifCond .eq 17, 3) := by decide +kernel
theorem dX1_isTaken_17 : decode cX1_isTaken 17 = .ok (.aload_n 0, 1) := by decide +kernel
theorem dX1_isTaken_18 : decode cX1_isTaken 18 = .ok (.getfield 18, 3) := by decide +kernel
theorem dX1_isTaken_21 : decode cX1_isTaken 21 = .ok (.iconst 0, 1) := by decide +kernel
theorem dX1_isTaken_22 : decode cX1_isTaken 22 = .ok (.iload_n 3, 1) := by decide +kernel
theorem dX1_isTaken_23 : decode cX1_isTaken 23 = .ok (.iadd, 1) := by decide +kernel
theorem dX1_isTaken_24 : decode cX1_isTaken 24 = .ok (.iaload, 1) := by decide +kernel
theorem dX1_isTaken_25 : decode cX1_isTaken 25 = .ok (.iload_n 2, 1) := by decide +kernel
theorem dX1_isTaken_26 : decode cX1_isTaken 26 = .ok (.if_icmp .ne 5, 3) := by decide +kernel
theorem dX1_isTaken_29 : decode cX1_isTaken 29 = .ok (.iconst 1, 1) := by decide +kernel
theorem dX1_isTaken_30 : decode cX1_isTaken 30 = .ok (.ireturn, 1) := by decide +kernel
theorem dX1_isTaken_31 : decode cX1_isTaken 31 = .ok (.iinc 3 1, 3) := by decide +kernel
theorem dX1_isTaken_34 : decode cX1_isTaken 34 = .ok (.goto (-32), 3) := by decide +kernel
theorem dX1_isTaken_37 : decode cX1_isTaken 37 = .ok (.iconst 0, 1) := by decide +kernel
theorem dX1_isTaken_38 : decode cX1_isTaken 38 = .ok (.ireturn, 1) := by decide +kernel
set_option maxRecDepth 20000 in
theorem ggX1_findWay_X1_fitBits : GoodIn wsX1_findWay wsX1_fitBits := goodIn_r _ [11, 12, 13, 14, 10, 15, 16, 34, 35, 36] (by decide +kernel) (by decide +kernel)
set_option maxRecDepth 20000 in
theorem gX1_findWay_X1_fitBits : GoodIn wsX1_findWay (wsV RX1 38 RX1 yX1_fitBits wsX1_fitBits) := goodIn_app (goodIn_of _ (by decide +kernel)) ggX1_findWay_X1_fitBits
set_option maxRecDepth 20000 in
theorem ggX1_findWay_X1_nearer : GoodIn wsX1_findWay wsX1_nearer := goodIn_r _ [20, 1, 16, 21, 22, 10, 23, 24, 25, 26, 27, 28, 29, 30, 34, 35, 36] (by decide +kernel) (by decide +kernel)
set_option maxRecDepth 20000 in
theorem gX1_findWay_X1_nearer : GoodIn wsX1_findWay (wsV RX1 42 RX1 yX1_nearer wsX1_nearer) := goodIn_app (goodIn_of _ (by decide +kernel)) ggX1_findWay_X1_nearer
set_option maxRecDepth 20000 in
theorem ggX1_findWay_X6_isGear : GoodIn wsX1_findWay wsX6_isGear := goodIn_r _ [33] (by decide +kernel) (by decide +kernel)
set_option maxRecDepth 20000 in
theorem gX1_findWay_X6_isGear_n46 : GoodIn wsX1_findWay (wsX6_isGear) := ggX1_findWay_X6_isGear
theorem dX1_findWay_0 : decode cX1_findWay 0 = .ok (.aload_n 0, 1) := by decide +kernel
theorem dX1_findWay_1 : decode cX1_findWay 1 = .ok (.invokevirtual 38, 3) := by decide +kernel
theorem dX1_findWay_4 : decode cX1_findWay 4 = .ok (.istore_n 3, 1) := by decide +kernel
theorem dX1_findWay_5 : decode cX1_findWay 5 = .ok (.iconst 1, 1) := by decide +kernel
theorem dX1_findWay_6 : decode cX1_findWay 6 = .ok (.istore 4, 2) := by decide +kernel
theorem dX1_findWay_8 : decode cX1_findWay 8 = .ok (.iload 4, 2) := by decide +kernel
theorem dX1_findWay_10 : decode cX1_findWay 10 = .ok (.bipush 7, 2) := by decide +kernel
theorem dX1_findWay_12 : decode cX1_findWay 12 = .ok (.if_icmp .gt 27, 3) := by decide +kernel
theorem dX1_findWay_15 : decode cX1_findWay 15 = .ok (.aload_n 0, 1) := by decide +kernel
theorem dX1_findWay_16 : decode cX1_findWay 16 = .ok (.getfield 9, 3) := by decide +kernel
theorem dX1_findWay_19 : decode cX1_findWay 19 = .ok (.iload 4, 2) := by decide +kernel
theorem dX1_findWay_21 : decode cX1_findWay 21 = .ok (.iload 4, 2) := by decide +kernel
theorem dX1_findWay_23 : decode cX1_findWay 23 = .ok (.iload_n 2, 1) := by decide +kernel
theorem dX1_findWay_24 : decode cX1_findWay 24 = .ok (.if_icmp .ne 7, 3) := by decide +kernel
theorem dX1_findWay_27 : decode cX1_findWay 27 = .ok (.iconst 0, 1) := by decide +kernel
theorem dX1_findWay_28 : decode cX1_findWay 28 = .ok (.goto 4, 3) := by decide +kernel
theorem dX1_findWay_31 : decode cX1_findWay 31 = .ok (.iconst (-1), 1) := by decide +kernel
theorem dX1_findWay_32 : decode cX1_findWay 32 = .ok (.iastore, 1) := by decide +kernel
theorem dX1_findWay_33 : decode cX1_findWay 33 = .ok (.iinc 4 1, 3) := by decide +kernel
theorem dX1_findWay_36 : decode cX1_findWay 36 = .ok (.goto (-28), 3) := by decide +kernel
theorem dX1_findWay_39 : decode cX1_findWay 39 = .ok (.iconst 0, 1) := by decide +kernel
theorem dX1_findWay_40 : decode cX1_findWay 40 = .ok (.istore 4, 2) := by decide +kernel
theorem dX1_findWay_42 : decode cX1_findWay 42 = .ok (.iload 4, 2) := by decide +kernel
theorem dX1_findWay_44 : decode cX1_findWay 44 = .ok (.bipush 6, 2) := by decide +kernel
theorem dX1_findWay_46 : decode cX1_findWay 46 = .ok (.if_icmp .ge 80, 3) := by decide +kernel
theorem dX1_findWay_49 : decode cX1_findWay 49 = .ok (.iconst 1, 1) := by decide +kernel
theorem dX1_findWay_50 : decode cX1_findWay 50 = .ok (.istore 5, 2) := by decide +kernel
theorem dX1_findWay_52 : decode cX1_findWay 52 = .ok (.iload 5, 2) := by decide +kernel
theorem dX1_findWay_54 : decode cX1_findWay 54 = .ok (.bipush 7, 2) := by decide +kernel
theorem dX1_findWay_56 : decode cX1_findWay 56 = .ok (.if_icmp .gt 64, 3) := by decide +kernel
theorem dX1_findWay_59 : decode cX1_findWay 59 = .ok (.aload_n 0, 1) := by decide +kernel
theorem dX1_findWay_60 : decode cX1_findWay 60 = .ok (.getfield 9, 3) := by decide +kernel
theorem dX1_findWay_63 : decode cX1_findWay 63 = .ok (.iload 5, 2) := by decide +kernel
theorem dX1_findWay_65 : decode cX1_findWay 65 = .ok (.iaload, 1) := by decide +kernel
theorem dX1_findWay_66 : decode cX1_findWay 66 = .ok (.iconst (-1), 1) := by decide +kernel
theorem dX1_findWay_67 : decode cX1_findWay 67 = .ok (.if_icmp .ne 17, 3) := by decide +kernel
theorem dX1_findWay_70 : decode cX1_findWay 70 = .ok (.iload_n 3, 1) := by decide +kernel
theorem dX1_findWay_71 : decode cX1_findWay 71 = .ok (.iload 5, 2) := by decide +kernel
theorem dX1_findWay_73 : decode cX1_findWay 73 = .ok (.ishr, 1) := by decide +kernel
theorem dX1_findWay_74 : decode cX1_findWay 74 = .ok (.iconst 1, 1) := by decide +kernel
theorem dX1_findWay_75 : decode cX1_findWay 75 = .ok (.iand, 1) := by decide +kernel
theorem dX1_findWay_76 : decode cX1_findWay 76 = .ok (.iconst 1, 1) := by decide +kernel
theorem dX1_findWay_77 : decode cX1_findWay 77 = .ok (.if_icmp .ne 7, 3) := by decide +kernel
theorem dX1_findWay_80 : decode cX1_findWay 80 = .ok (.iconst 1, 1) := by decide +kernel
theorem dX1_findWay_81 : decode cX1_findWay 81 = .ok (.goto 4, 3) := by decide +kernel
theorem dX1_findWay_84 : decode cX1_findWay 84 = .ok (.iconst 0, 1) := by decide +kernel
theorem dX1_findWay_85 : decode cX1_findWay 85 = .ok (.istore 6, 2) := by decide +kernel
theorem dX1_findWay_87 : decode cX1_findWay 87 = .ok (.iload 6, 2) := by decide +kernel
theorem dX1_findWay_89 : decode cX1_findWay 89 = .ok (.ifCond .eq 25, 3) := by decide +kernel
theorem dX1_findWay_92 : decode cX1_findWay 92 = .ok (.aload_n 0, 1) := by decide +kernel
theorem dX1_findWay_93 : decode cX1_findWay 93 = .ok (.iload 5, 2) := by decide +kernel
theorem dX1_findWay_95 : decode cX1_findWay 95 = .ok (.iload 4, 2) := by decide +kernel
theorem dX1_findWay_97 : decode cX1_findWay 97 = .ok (.invokevirtual 42, 3) := by decide +kernel
theorem dX1_findWay_100 : decode cX1_findWay 100 = .ok (.ifCond .eq 14, 3) := by decide +kernel
theorem dX1_findWay_103 : decode cX1_findWay 103 = .ok (.aload_n 0, 1) := by decide +kernel
theorem dX1_findWay_104 : decode cX1_findWay 104 = .ok (.getfield 9, 3) := by decide +kernel
theorem dX1_findWay_107 : decode cX1_findWay 107 = .ok (.iload 5, 2) := by decide +kernel
theorem dX1_findWay_109 : decode cX1_findWay 109 = .ok (.iload 4, 2) := by decide +kernel
theorem dX1_findWay_111 : decode cX1_findWay 111 = .ok (.iconst 1, 1) := by decide +kernel
theorem dX1_findWay_112 : decode cX1_findWay 112 = .ok (.iadd, 1) := by decide +kernel
theorem dX1_findWay_113 : decode cX1_findWay 113 = .ok (.iastore, 1) := by decide +kernel
theorem dX1_findWay_114 : decode cX1_findWay 114 = .ok (.iinc 5 1, 3) := by decide +kernel
theorem dX1_findWay_117 : decode cX1_findWay 117 = .ok (.goto (-65), 3) := by decide +kernel
theorem dX1_findWay_120 : decode cX1_findWay 120 = .ok (.iinc 4 1, 3) := by decide +kernel
theorem dX1_findWay_123 : decode cX1_findWay 123 = .ok (.goto (-81), 3) := by decide +kernel
theorem dX1_findWay_126 : decode cX1_findWay 126 = .ok (.iload_n 1, 1) := by decide +kernel
theorem dX1_findWay_127 : decode cX1_findWay 127 = .ok (.invokestatic 46, 3) := by decide +kernel
theorem dX1_findWay_130 : decode cX1_findWay 130 = .ok (.ifCond .eq 16, 3) := by decide +kernel
theorem dX1_findWay_133 : decode cX1_findWay 133 = .ok (.iconst 0, 1) := by decide +kernel
theorem dX1_findWay_134 : decode cX1_findWay 134 = .ok (.aload_n 0, 1) := by decide +kernel
theorem dX1_findWay_135 : decode cX1_findWay 135 = .ok (.getfield 9, 3) := by decide +kernel
theorem dX1_findWay_138 : decode cX1_findWay 138 = .ok (.iload_n 1, 1) := by decide +kernel
theorem dX1_findWay_139 : decode cX1_findWay 139 = .ok (.iaload, 1) := by decide +kernel
theorem dX1_findWay_140 : decode cX1_findWay 140 = .ok (.invokestatic 49, 3) := by decide +kernel
theorem dX1_findWay_143 : decode cX1_findWay 143 = .ok (.goto 4, 3) := by decide +kernel
theorem dX1_findWay_146 : decode cX1_findWay 146 = .ok (.iconst 0, 1) := by decide +kernel
theorem dX1_findWay_147 : decode cX1_findWay 147 = .ok (.istore 4, 2) := by decide +kernel
theorem dX1_findWay_149 : decode cX1_findWay 149 = .ok (.iload_n 1, 1) := by decide +kernel
theorem dX1_findWay_150 : decode cX1_findWay 150 = .ok (.istore 5, 2) := by decide +kernel
theorem dX1_findWay_152 : decode cX1_findWay 152 = .ok (.iconst 0, 1) := by decide +kernel
theorem dX1_findWay_153 : decode cX1_findWay 153 = .ok (.istore 6, 2) := by decide +kernel
theorem dX1_findWay_155 : decode cX1_findWay 155 = .ok (.iload 6, 2) := by decide +kernel
theorem dX1_findWay_157 : decode cX1_findWay 157 = .ok (.iload 4, 2) := by decide +kernel
theorem dX1_findWay_159 : decode cX1_findWay 159 = .ok (.if_icmp .ge 33, 3) := by decide +kernel
theorem dX1_findWay_162 : decode cX1_findWay 162 = .ok (.aload_n 0, 1) := by decide +kernel
theorem dX1_findWay_163 : decode cX1_findWay 163 = .ok (.iload 5, 2) := by decide +kernel
theorem dX1_findWay_165 : decode cX1_findWay 165 = .ok (.iload 4, 2) := by decide +kernel
theorem dX1_findWay_167 : decode cX1_findWay 167 = .ok (.iload 6, 2) := by decide +kernel
theorem dX1_findWay_169 : decode cX1_findWay 169 = .ok (.isub, 1) := by decide +kernel
theorem dX1_findWay_170 : decode cX1_findWay 170 = .ok (.iconst 1, 1) := by decide +kernel
theorem dX1_findWay_171 : decode cX1_findWay 171 = .ok (.isub, 1) := by decide +kernel
theorem dX1_findWay_172 : decode cX1_findWay 172 = .ok (.invokevirtual 42, 3) := by decide +kernel
theorem dX1_findWay_175 : decode cX1_findWay 175 = .ok (.istore 5, 2) := by decide +kernel
theorem dX1_findWay_177 : decode cX1_findWay 177 = .ok (.aload_n 0, 1) := by decide +kernel
theorem dX1_findWay_178 : decode cX1_findWay 178 = .ok (.getfield 15, 3) := by decide +kernel
theorem dX1_findWay_181 : decode cX1_findWay 181 = .ok (.iload 6, 2) := by decide +kernel
theorem dX1_findWay_183 : decode cX1_findWay 183 = .ok (.iload 5, 2) := by decide +kernel
theorem dX1_findWay_185 : decode cX1_findWay 185 = .ok (.iastore, 1) := by decide +kernel
theorem dX1_findWay_186 : decode cX1_findWay 186 = .ok (.iinc 6 1, 3) := by decide +kernel
theorem dX1_findWay_189 : decode cX1_findWay 189 = .ok (.goto (-34), 3) := by decide +kernel
theorem dX1_findWay_192 : decode cX1_findWay 192 = .ok (.iload 4, 2) := by decide +kernel
theorem dX1_findWay_194 : decode cX1_findWay 194 = .ok (.ireturn, 1) := by decide +kernel
theorem dX1_onWay_0 : decode cX1_onWay 0 = .ok (.iload_n 1, 1) := by decide +kernel
theorem dX1_onWay_1 : decode cX1_onWay 1 = .ok (.ifCond .lt 18, 3) := by decide +kernel
theorem dX1_onWay_4 : decode cX1_onWay 4 = .ok (.iload_n 1, 1) := by decide +kernel
theorem dX1_onWay_5 : decode cX1_onWay 5 = .ok (.bipush 7, 2) := by decide +kernel
theorem dX1_onWay_7 : decode cX1_onWay 7 = .ok (.if_icmp .ge 12, 3) := by decide +kernel
theorem dX1_onWay_10 : decode cX1_onWay 10 = .ok (.aload_n 0, 1) := by decide +kernel
theorem dX1_onWay_11 : decode cX1_onWay 11 = .ok (.getfield 15, 3) := by decide +kernel
theorem dX1_onWay_14 : decode cX1_onWay 14 = .ok (.iload_n 1, 1) := by decide +kernel
theorem dX1_onWay_15 : decode cX1_onWay 15 = .ok (.iaload, 1) := by decide +kernel
theorem dX1_onWay_16 : decode cX1_onWay 16 = .ok (.goto 4, 3) := by decide +kernel
theorem dX1_onWay_19 : decode cX1_onWay 19 = .ok (.iconst (-1), 1) := by decide +kernel
theorem dX1_onWay_20 : decode cX1_onWay 20 = .ok (.ireturn, 1) := by decide +kernel
set_option maxRecDepth 20000 in
theorem ggX1_nearer_X1_swapsOne : GoodIn wsX1_nearer wsX1_swapsOne := goodIn_r _ [6, 7, 8, 9, 10, 11, 12, 13] (by decide +kernel) (by decide +kernel)
set_option maxRecDepth 20000 in
theorem gX1_nearer_X1_swapsOne : GoodIn wsX1_nearer (va_wsS RX1 25 yX1_swapsOne wsX1_swapsOne) := goodIn_app (goodIn_of _ (by decide +kernel)) ggX1_nearer_X1_swapsOne
theorem dX1_nearer_0 : decode cX1_nearer 0 = .ok (.iconst 1, 1) := by decide +kernel
theorem dX1_nearer_1 : decode cX1_nearer 1 = .ok (.istore_n 3, 1) := by decide +kernel
theorem dX1_nearer_2 : decode cX1_nearer 2 = .ok (.iload_n 3, 1) := by decide +kernel
theorem dX1_nearer_3 : decode cX1_nearer 3 = .ok (.bipush 7, 2) := by decide +kernel
theorem dX1_nearer_5 : decode cX1_nearer 5 = .ok (.if_icmp .gt 43, 3) := by decide +kernel
theorem dX1_nearer_8 : decode cX1_nearer 8 = .ok (.aload_n 0, 1) := by decide +kernel
theorem dX1_nearer_9 : decode cX1_nearer 9 = .ok (.getfield 9, 3) := by decide +kernel
theorem dX1_nearer_12 : decode cX1_nearer 12 = .ok (.iload_n 3, 1) := by decide +kernel
theorem dX1_nearer_13 : decode cX1_nearer 13 = .ok (.iaload, 1) := by decide +kernel
theorem dX1_nearer_14 : decode cX1_nearer 14 = .ok (.iload_n 2, 1) := by decide +kernel
theorem dX1_nearer_15 : decode cX1_nearer 15 = .ok (.if_icmp .ne 27, 3) := by decide +kernel
theorem dX1_nearer_18 : decode cX1_nearer 18 = .ok (.aload_n 0, 1) := by decide +kernel
theorem dX1_nearer_19 : decode cX1_nearer 19 = .ok (.getfield 18, 3) := by decide +kernel
theorem dX1_nearer_22 : decode cX1_nearer 22 = .ok (.iconst 0, 1) := by decide +kernel
theorem dX1_nearer_23 : decode cX1_nearer 23 = .ok (.iload_n 1, 1) := by decide +kernel
theorem dX1_nearer_24 : decode cX1_nearer 24 = .ok (.iadd, 1) := by decide +kernel
theorem dX1_nearer_25 : decode cX1_nearer 25 = .ok (.iaload, 1) := by decide +kernel
theorem dX1_nearer_26 : decode cX1_nearer 26 = .ok (.aload_n 0, 1) := by decide +kernel
theorem dX1_nearer_27 : decode cX1_nearer 27 = .ok (.getfield 18, 3) := by decide +kernel
theorem dX1_nearer_30 : decode cX1_nearer 30 = .ok (.iconst 0, 1) := by decide +kernel
theorem dX1_nearer_31 : decode cX1_nearer 31 = .ok (.iload_n 3, 1) := by decide +kernel
theorem dX1_nearer_32 : decode cX1_nearer 32 = .ok (.iadd, 1) := by decide +kernel
theorem dX1_nearer_33 : decode cX1_nearer 33 = .ok (.iaload, 1) := by decide +kernel
theorem dX1_nearer_34 : decode cX1_nearer 34 = .ok (.invokestatic 25, 3) := by decide +kernel
theorem dX1_nearer_37 : decode cX1_nearer 37 = .ok (.ifCond .eq 5, 3) := by decide +kernel
theorem dX1_nearer_40 : decode cX1_nearer 40 = .ok (.iload_n 3, 1) := by decide +kernel
theorem dX1_nearer_41 : decode cX1_nearer 41 = .ok (.ireturn, 1) := by decide +kernel
theorem dX1_nearer_42 : decode cX1_nearer 42 = .ok (.iinc 3 1, 3) := by decide +kernel
theorem dX1_nearer_45 : decode cX1_nearer 45 = .ok (.goto (-43), 3) := by decide +kernel
theorem dX1_nearer_48 : decode cX1_nearer 48 = .ok (.iconst 0, 1) := by decide +kernel
theorem dX1_nearer_49 : decode cX1_nearer 49 = .ok (.ireturn, 1) := by decide +kernel
set_option maxRecDepth 20000 in
theorem ggX1_swapsOne_J6_bitCount_0f7a4 : GoodIn wsX1_swapsOne wsJ6_bitCount_0f7a4 := goodIn_r _ [4, 5, 6, 7] (by decide +kernel) (by decide +kernel)
set_option maxRecDepth 20000 in
theorem gX1_swapsOne_J6_bitCount_0f7a4 : GoodIn wsX1_swapsOne (va_wsS RX1 54 yJ6_bitCount_0f7a4 wsJ6_bitCount_0f7a4) := goodIn_app (goodIn_of _ (by decide +kernel)) ggX1_swapsOne_J6_bitCount_0f7a4
theorem dX1_swapsOne_0 : decode cX1_swapsOne 0 = .ok (.iload_n 0, 1) := by decide +kernel
theorem dX1_swapsOne_1 : decode cX1_swapsOne 1 = .ok (.iload_n 1, 1) := by decide +kernel
theorem dX1_swapsOne_2 : decode cX1_swapsOne 2 = .ok (.iconst (-1), 1) := by decide +kernel
theorem dX1_swapsOne_3 : decode cX1_swapsOne 3 = .ok (.ixor, 1) := by decide +kernel
theorem dX1_swapsOne_4 : decode cX1_swapsOne 4 = .ok (.iand, 1) := by decide +kernel
theorem dX1_swapsOne_5 : decode cX1_swapsOne 5 = .ok (.invokestatic 54, 3) := by decide +kernel
theorem dX1_swapsOne_8 : decode cX1_swapsOne 8 = .ok (.iconst 1, 1) := by decide +kernel
theorem dX1_swapsOne_9 : decode cX1_swapsOne 9 = .ok (.if_icmp .ne 19, 3) := by decide +kernel
theorem dX1_swapsOne_12 : decode cX1_swapsOne 12 = .ok (.iload_n 1, 1) := by decide +kernel
theorem dX1_swapsOne_13 : decode cX1_swapsOne 13 = .ok (.iload_n 0, 1) := by decide +kernel
theorem dX1_swapsOne_14 : decode cX1_swapsOne 14 = .ok (.iconst (-1), 1) := by decide +kernel
theorem dX1_swapsOne_15 : decode cX1_swapsOne 15 = .ok (.ixor, 1) := by decide +kernel
theorem dX1_swapsOne_16 : decode cX1_swapsOne 16 = .ok (.iand, 1) := by decide +kernel
theorem dX1_swapsOne_17 : decode cX1_swapsOne 17 = .ok (.invokestatic 54, 3) := by decide +kernel
theorem dX1_swapsOne_20 : decode cX1_swapsOne 20 = .ok (.iconst 1, 1) := by decide +kernel
theorem dX1_swapsOne_21 : decode cX1_swapsOne 21 = .ok (.if_icmp .ne 7, 3) := by decide +kernel
theorem dX1_swapsOne_24 : decode cX1_swapsOne 24 = .ok (.iconst 1, 1) := by decide +kernel
theorem dX1_swapsOne_25 : decode cX1_swapsOne 25 = .ok (.goto 4, 3) := by decide +kernel
theorem dX1_swapsOne_28 : decode cX1_swapsOne 28 = .ok (.iconst 0, 1) := by decide +kernel
theorem dX1_swapsOne_29 : decode cX1_swapsOne 29 = .ok (.ireturn, 1) := by decide +kernel
theorem dX2_init_0 : decode cX2_init 0 = .ok (.aload_n 0, 1) := by decide +kernel
theorem dX2_init_1 : decode cX2_init 1 = .ok (.invokespecial 3, 3) := by decide +kernel
theorem dX2_init_4 : decode cX2_init 4 = .ok (.aload_n 0, 1) := by decide +kernel
theorem dX2_init_5 : decode cX2_init 5 = .ok (.aload_n 1, 1) := by decide +kernel
theorem dX2_init_6 : decode cX2_init 6 = .ok (.putfield 9, 3) := by decide +kernel
theorem dX2_init_9 : decode cX2_init 9 = .ok (.aload_n 0, 1) := by decide +kernel
theorem dX2_init_10 : decode cX2_init 10 = .ok (.aload_n 2, 1) := by decide +kernel
theorem dX2_init_11 : decode cX2_init 11 = .ok (.putfield 15, 3) := by decide +kernel
theorem dX2_init_14 : decode cX2_init 14 = .ok (.aload_n 0, 1) := by decide +kernel
theorem dX2_init_15 : decode cX2_init 15 = .ok (.aload_n 3, 1) := by decide +kernel
theorem dX2_init_16 : decode cX2_init 16 = .ok (.putfield 19, 3) := by decide +kernel
theorem dX2_init_19 : decode cX2_init 19 = .ok (.return_, 1) := by decide +kernel
set_option maxRecDepth 20000 in
theorem ggX2_obey_X2_changeSet : GoodIn wsX2_obey wsX2_changeSet := goodIn_r _ [6, 7, 8, 9, 10, 11, 12, 13, 14, 15, 16, 17, 18, 19, 20, 21, 5, 22, 23, 24, 25, 26, 27, 28, 29, 30, 31, 137, 138, 139, 140, 141, 142] (by decide +kernel) (by decide +kernel)
set_option maxRecDepth 20000 in
theorem gX2_obey_X2_changeSet : GoodIn wsX2_obey (wsV RX2 23 RX2 yX2_changeSet wsX2_changeSet) := goodIn_app (goodIn_of _ (by decide +kernel)) ggX2_obey_X2_changeSet
set_option maxRecDepth 20000 in
theorem ggX2_obey_X2_changeStatus : GoodIn wsX2_obey wsX2_changeStatus := goodIn_r _ [35, 36, 9, 37, 11, 12, 19, 20, 21, 5, 22, 23, 24, 25, 26, 27, 7, 28, 29, 30, 16, 31, 18, 137, 138, 139, 140, 141, 142] (by decide +kernel) (by decide +kernel)
set_option maxRecDepth 20000 in
theorem gX2_obey_X2_changeStatus : GoodIn wsX2_obey (wsV RX2 27 RX2 yX2_changeStatus wsX2_changeStatus) := goodIn_app (goodIn_of _ (by decide +kernel)) ggX2_obey_X2_changeStatus
set_option maxRecDepth 20000 in
theorem ggX2_obey_X6_isClutch : GoodIn wsX2_obey wsX6_isClutch := goodIn_r _ [37] (by decide +kernel) (by decide +kernel)
set_option maxRecDepth 20000 in
theorem gX2_obey_X6_isClutch_n30 : GoodIn wsX2_obey (wsX6_isClutch) := ggX2_obey_X6_isClutch
set_option maxRecDepth 20000 in
theorem ggX2_obey_X6_isWithin : GoodIn wsX2_obey wsX6_isWithin := goodIn_r _ [12] (by decide +kernel) (by decide +kernel)
set_option maxRecDepth 20000 in
theorem gX2_obey_X6_isWithin_n34 : GoodIn wsX2_obey (wsX6_isWithin) := ggX2_obey_X6_isWithin
set_option maxRecDepth 20000 in
theorem ggX2_obey_X2_replace : GoodIn wsX2_obey wsX2_replace := goodIn_r _ [22, 23, 137, 138, 139] (by decide +kernel) (by decide +kernel)
set_option maxRecDepth 20000 in
theorem gX2_obey_X2_replace : GoodIn wsX2_obey (wsV RX2 38 RX2 yX2_replace wsX2_replace) := goodIn_app (goodIn_of _ (by decide +kernel)) ggX2_obey_X2_replace
set_option maxRecDepth 20000 in
theorem ggX2_obey_X6_isGear : GoodIn wsX2_obey wsX6_isGear := goodIn_r _ [10] (by decide +kernel) (by decide +kernel)
set_option maxRecDepth 20000 in
theorem gX2_obey_X6_isGear_n42 : GoodIn wsX2_obey (wsX6_isGear) := ggX2_obey_X6_isGear
set_option maxRecDepth 20000 in
theorem ggX2_obey_X2_areTicks : GoodIn wsX2_obey wsX2_areTicks := goodIn_r _ [40, 11, 9, 12] (by decide +kernel) (by decide +kernel)
set_option maxRecDepth 20000 in
theorem gX2_obey_X2_areTicks : GoodIn wsX2_obey (va_wsS RX2 45 yX2_areTicks wsX2_areTicks) := goodIn_app (goodIn_of _ (by decide +kernel)) ggX2_obey_X2_areTicks
set_option maxRecDepth 20000 in
theorem ggX2_obey_X0_ticks : GoodIn wsX2_obey wsX0_ticks := goodIn_r _ [45, 46, 47, 48, 49, 50, 51, 52, 53, 54, 55, 44, 56, 8, 9, 10, 57, 58, 59, 16, 60, 61, 29, 30, 31, 18, 62, 63, 64, 65, 66, 67, 68, 69, 70, 71, 72, 73, 74, 75, 76, 77, 78, 79, 80, 81, 82, 83, 84, 85, 86, 87, 88, 89, 90, 91, 92, 93, 94, 95, 96, 97, 98, 99, 100, 101, 102, 103, 104, 105, 106, 107, 108, 109, 110, 111, 112, 36, 37, 113, 114, 115, 116, 117, 118, 119, 120, 121, 122, 123, 124, 125, 126, 127, 128, 143, 144, 145, 140, 141, 142, 146] (by decide +kernel) (by decide +kernel)
set_option maxRecDepth 20000 in
theorem gX2_obey_X0_ticks : GoodIn wsX2_obey (wsV RX2 49 RX0 yX0_ticks wsX0_ticks) := goodIn_app (goodIn_of _ (by decide +kernel)) ggX2_obey_X0_ticks
set_option maxRecDepth 20000 in
theorem ggX2_obey_X2_changeRule : GoodIn wsX2_obey wsX2_changeRule := goodIn_r _ [132, 11, 9, 12, 19, 20, 21, 5, 22, 23, 137, 138, 139] (by decide +kernel) (by decide +kernel)
set_option maxRecDepth 20000 in
theorem gX2_obey_X2_changeRule : GoodIn wsX2_obey (wsV RX2 54 RX2 yX2_changeRule wsX2_changeRule) := goodIn_app (goodIn_of _ (by decide +kernel)) ggX2_obey_X2_changeRule
set_option maxRecDepth 20000 in
theorem ggX2_obey_X2_putIn : GoodIn wsX2_obey wsX2_putIn := goodIn_r _ [136, 7, 8, 9, 10, 28, 29, 30, 16, 31, 18, 19, 20, 21, 5, 22, 23, 137, 138, 139, 140, 141, 142] (by decide +kernel) (by decide +kernel)
set_option maxRecDepth 20000 in
theorem gX2_obey_X2_putIn : GoodIn wsX2_obey (wsV RX2 57 RX2 yX2_putIn wsX2_putIn) := goodIn_app (goodIn_of _ (by decide +kernel)) ggX2_obey_X2_putIn
theorem dX2_obey_0 : decode cX2_obey 0 = .ok (.iload_n 1, 1) := by decide +kernel
theorem dX2_obey_1 : decode cX2_obey 1 = .ok (.tableswitch 234 0 9 #[55, 62, 69, 101, 134, 167, 184, 198, 221, 228], 55) := by decide +kernel
theorem dX2_obey_56 : decode cX2_obey 56 = .ok (.aload_n 0, 1) := by decide +kernel
theorem dX2_obey_57 : decode cX2_obey 57 = .ok (.iload_n 2, 1) := by decide +kernel
theorem dX2_obey_58 : decode cX2_obey 58 = .ok (.iload_n 3, 1) := by decide +kernel
theorem dX2_obey_59 : decode cX2_obey 59 = .ok (.invokevirtual 23, 3) := by decide +kernel
theorem dX2_obey_62 : decode cX2_obey 62 = .ok (.ireturn, 1) := by decide +kernel
theorem dX2_obey_63 : decode cX2_obey 63 = .ok (.aload_n 0, 1) := by decide +kernel
theorem dX2_obey_64 : decode cX2_obey 64 = .ok (.iload_n 2, 1) := by decide +kernel
theorem dX2_obey_65 : decode cX2_obey 65 = .ok (.iload_n 3, 1) := by decide +kernel
theorem dX2_obey_66 : decode cX2_obey 66 = .ok (.invokevirtual 27, 3) := by decide +kernel
theorem dX2_obey_69 : decode cX2_obey 69 = .ok (.ireturn, 1) := by decide +kernel
theorem dX2_obey_70 : decode cX2_obey 70 = .ok (.aload_n 0, 1) := by decide +kernel
theorem dX2_obey_71 : decode cX2_obey 71 = .ok (.iload_n 2, 1) := by decide +kernel
theorem dX2_obey_72 : decode cX2_obey 72 = .ok (.invokestatic 30, 3) := by decide +kernel
theorem dX2_obey_75 : decode cX2_obey 75 = .ok (.ifCond .eq 17, 3) := by decide +kernel
theorem dX2_obey_78 : decode cX2_obey 78 = .ok (.iload_n 3, 1) := by decide +kernel
theorem dX2_obey_79 : decode cX2_obey 79 = .ok (.iconst 1, 1) := by decide +kernel
theorem dX2_obey_80 : decode cX2_obey 80 = .ok (.bipush 20, 2) := by decide +kernel
theorem dX2_obey_82 : decode cX2_obey 82 = .ok (.invokestatic 34, 3) := by decide +kernel
theorem dX2_obey_85 : decode cX2_obey 85 = .ok (.ifCond .eq 7, 3) := by decide +kernel
theorem dX2_obey_88 : decode cX2_obey 88 = .ok (.iconst 1, 1) := by decide +kernel
theorem dX2_obey_89 : decode cX2_obey 89 = .ok (.goto 4, 3) := by decide +kernel
theorem dX2_obey_92 : decode cX2_obey 92 = .ok (.iconst 0, 1) := by decide +kernel
theorem dX2_obey_93 : decode cX2_obey 93 = .ok (.bipush 29, 2) := by decide +kernel
theorem dX2_obey_95 : decode cX2_obey 95 = .ok (.iload_n 2, 1) := by decide +kernel
theorem dX2_obey_96 : decode cX2_obey 96 = .ok (.iadd, 1) := by decide +kernel
theorem dX2_obey_97 : decode cX2_obey 97 = .ok (.iload_n 3, 1) := by decide +kernel
theorem dX2_obey_98 : decode cX2_obey 98 = .ok (.invokevirtual 38, 3) := by decide +kernel
theorem dX2_obey_101 : decode cX2_obey 101 = .ok (.ireturn, 1) := by decide +kernel
theorem dX2_obey_102 : decode cX2_obey 102 = .ok (.aload_n 0, 1) := by decide +kernel
theorem dX2_obey_103 : decode cX2_obey 103 = .ok (.iload_n 2, 1) := by decide +kernel
theorem dX2_obey_104 : decode cX2_obey 104 = .ok (.invokestatic 42, 3) := by decide +kernel
theorem dX2_obey_107 : decode cX2_obey 107 = .ok (.ifCond .eq 18, 3) := by decide +kernel
theorem dX2_obey_110 : decode cX2_obey 110 = .ok (.iload_n 3, 1) := by decide +kernel
theorem dX2_obey_111 : decode cX2_obey 111 = .ok (.iconst 0, 1) := by decide +kernel
theorem dX2_obey_112 : decode cX2_obey 112 = .ok (.sipush 300, 3) := by decide +kernel
theorem dX2_obey_115 : decode cX2_obey 115 = .ok (.invokestatic 34, 3) := by decide +kernel
theorem dX2_obey_118 : decode cX2_obey 118 = .ok (.ifCond .eq 7, 3) := by decide +kernel
theorem dX2_obey_121 : decode cX2_obey 121 = .ok (.iconst 1, 1) := by decide +kernel
theorem dX2_obey_122 : decode cX2_obey 122 = .ok (.goto 4, 3) := by decide +kernel
theorem dX2_obey_125 : decode cX2_obey 125 = .ok (.iconst 0, 1) := by decide +kernel
theorem dX2_obey_126 : decode cX2_obey 126 = .ok (.bipush 8, 2) := by decide +kernel
theorem dX2_obey_128 : decode cX2_obey 128 = .ok (.iload_n 2, 1) := by decide +kernel
theorem dX2_obey_129 : decode cX2_obey 129 = .ok (.iadd, 1) := by decide +kernel
theorem dX2_obey_130 : decode cX2_obey 130 = .ok (.iload_n 3, 1) := by decide +kernel
theorem dX2_obey_131 : decode cX2_obey 131 = .ok (.invokevirtual 38, 3) := by decide +kernel
theorem dX2_obey_134 : decode cX2_obey 134 = .ok (.ireturn, 1) := by decide +kernel
theorem dX2_obey_135 : decode cX2_obey 135 = .ok (.aload_n 0, 1) := by decide +kernel
theorem dX2_obey_136 : decode cX2_obey 136 = .ok (.iload_n 2, 1) := by decide +kernel
theorem dX2_obey_137 : decode cX2_obey 137 = .ok (.invokestatic 42, 3) := by decide +kernel
theorem dX2_obey_140 : decode cX2_obey 140 = .ok (.ifCond .eq 18, 3) := by decide +kernel
theorem dX2_obey_143 : decode cX2_obey 143 = .ok (.iload_n 3, 1) := by decide +kernel
theorem dX2_obey_144 : decode cX2_obey 144 = .ok (.iconst 0, 1) := by decide +kernel
theorem dX2_obey_145 : decode cX2_obey 145 = .ok (.sipush 300, 3) := by decide +kernel
theorem dX2_obey_148 : decode cX2_obey 148 = .ok (.invokestatic 34, 3) := by decide +kernel
theorem dX2_obey_151 : decode cX2_obey 151 = .ok (.ifCond .eq 7, 3) := by decide +kernel
theorem dX2_obey_154 : decode cX2_obey 154 = .ok (.iconst 1, 1) := by decide +kernel
theorem dX2_obey_155 : decode cX2_obey 155 = .ok (.goto 4, 3) := by decide +kernel
theorem dX2_obey_158 : decode cX2_obey 158 = .ok (.iconst 0, 1) := by decide +kernel
theorem dX2_obey_159 : decode cX2_obey 159 = .ok (.bipush 16, 2) := by decide +kernel
theorem dX2_obey_161 : decode cX2_obey 161 = .ok (.iload_n 2, 1) := by decide +kernel
theorem dX2_obey_162 : decode cX2_obey 162 = .ok (.iadd, 1) := by decide +kernel
theorem dX2_obey_163 : decode cX2_obey 163 = .ok (.iload_n 3, 1) := by decide +kernel
theorem dX2_obey_164 : decode cX2_obey 164 = .ok (.invokevirtual 38, 3) := by decide +kernel
theorem dX2_obey_167 : decode cX2_obey 167 = .ok (.ireturn, 1) := by decide +kernel
theorem dX2_obey_168 : decode cX2_obey 168 = .ok (.aload_n 0, 1) := by decide +kernel
theorem dX2_obey_169 : decode cX2_obey 169 = .ok (.iload_n 2, 1) := by decide +kernel
theorem dX2_obey_170 : decode cX2_obey 170 = .ok (.bipush (-3), 2) := by decide +kernel
theorem dX2_obey_172 : decode cX2_obey 172 = .ok (.iconst 3, 1) := by decide +kernel
theorem dX2_obey_173 : decode cX2_obey 173 = .ok (.invokestatic 34, 3) := by decide +kernel
theorem dX2_obey_176 : decode cX2_obey 176 = .ok (.bipush 47, 2) := by decide +kernel
theorem dX2_obey_178 : decode cX2_obey 178 = .ok (.iload_n 2, 1) := by decide +kernel
theorem dX2_obey_179 : decode cX2_obey 179 = .ok (.iconst 3, 1) := by decide +kernel
theorem dX2_obey_180 : decode cX2_obey 180 = .ok (.iadd, 1) := by decide +kernel
theorem dX2_obey_181 : decode cX2_obey 181 = .ok (.invokevirtual 38, 3) := by decide +kernel
theorem dX2_obey_184 : decode cX2_obey 184 = .ok (.ireturn, 1) := by decide +kernel
theorem dX2_obey_185 : decode cX2_obey 185 = .ok (.aload_n 0, 1) := by decide +kernel
theorem dX2_obey_186 : decode cX2_obey 186 = .ok (.iload_n 2, 1) := by decide +kernel
theorem dX2_obey_187 : decode cX2_obey 187 = .ok (.iconst 0, 1) := by decide +kernel
theorem dX2_obey_188 : decode cX2_obey 188 = .ok (.iconst 3, 1) := by decide +kernel
theorem dX2_obey_189 : decode cX2_obey 189 = .ok (.invokestatic 34, 3) := by decide +kernel
theorem dX2_obey_192 : decode cX2_obey 192 = .ok (.bipush 48, 2) := by decide +kernel
theorem dX2_obey_194 : decode cX2_obey 194 = .ok (.iload_n 2, 1) := by decide +kernel
theorem dX2_obey_195 : decode cX2_obey 195 = .ok (.invokevirtual 38, 3) := by decide +kernel
theorem dX2_obey_198 : decode cX2_obey 198 = .ok (.ireturn, 1) := by decide +kernel
theorem dX2_obey_199 : decode cX2_obey 199 = .ok (.iload_n 2, 1) := by decide +kernel
theorem dX2_obey_200 : decode cX2_obey 200 = .ok (.iload_n 3, 1) := by decide +kernel
theorem dX2_obey_201 : decode cX2_obey 201 = .ok (.invokestatic 45, 3) := by decide +kernel
theorem dX2_obey_204 : decode cX2_obey 204 = .ok (.ifCond .eq 15, 3) := by decide +kernel
theorem dX2_obey_207 : decode cX2_obey 207 = .ok (.aload_n 0, 1) := by decide +kernel
theorem dX2_obey_208 : decode cX2_obey 208 = .ok (.getfield 19, 3) := by decide +kernel
theorem dX2_obey_211 : decode cX2_obey 211 = .ok (.iload_n 2, 1) := by decide +kernel
theorem dX2_obey_212 : decode cX2_obey 212 = .ok (.iload_n 3, 1) := by decide +kernel
theorem dX2_obey_213 : decode cX2_obey 213 = .ok (.invokevirtual 49, 3) := by decide +kernel
theorem dX2_obey_216 : decode cX2_obey 216 = .ok (.goto 5, 3) := by decide +kernel
theorem dX2_obey_219 : decode cX2_obey 219 = .ok (.bipush (-2), 2) := by decide +kernel
theorem dX2_obey_221 : decode cX2_obey 221 = .ok (.ireturn, 1) := by decide +kernel
theorem dX2_obey_222 : decode cX2_obey 222 = .ok (.aload_n 0, 1) := by decide +kernel
theorem dX2_obey_223 : decode cX2_obey 223 = .ok (.iload_n 2, 1) := by decide +kernel
theorem dX2_obey_224 : decode cX2_obey 224 = .ok (.iload_n 3, 1) := by decide +kernel
theorem dX2_obey_225 : decode cX2_obey 225 = .ok (.invokevirtual 54, 3) := by decide +kernel
theorem dX2_obey_228 : decode cX2_obey 228 = .ok (.ireturn, 1) := by decide +kernel
theorem dX2_obey_229 : decode cX2_obey 229 = .ok (.aload_n 0, 1) := by decide +kernel
theorem dX2_obey_230 : decode cX2_obey 230 = .ok (.iload_n 2, 1) := by decide +kernel
theorem dX2_obey_231 : decode cX2_obey 231 = .ok (.invokevirtual 57, 3) := by decide +kernel
theorem dX2_obey_234 : decode cX2_obey 234 = .ok (.ireturn, 1) := by decide +kernel
theorem dX2_obey_235 : decode cX2_obey 235 = .ok (.bipush (-2), 2) := by decide +kernel
theorem dX2_obey_237 : decode cX2_obey 237 = .ok (.ireturn, 1) := by decide +kernel
set_option maxRecDepth 20000 in
theorem ggX2_changeSet_X6_isGear : GoodIn wsX2_changeSet wsX6_isGear := goodIn_r _ [4] (by decide +kernel) (by decide +kernel)
set_option maxRecDepth 20000 in
theorem gX2_changeSet_X6_isGear_n42 : GoodIn wsX2_changeSet (wsX6_isGear) := ggX2_changeSet_X6_isGear
set_option maxRecDepth 20000 in
theorem ggX2_changeSet_X6_isWithin : GoodIn wsX2_changeSet wsX6_isWithin := goodIn_r _ [6] (by decide +kernel) (by decide +kernel)
set_option maxRecDepth 20000 in
theorem gX2_changeSet_X6_isWithin_n34 : GoodIn wsX2_changeSet (wsX6_isWithin) := ggX2_changeSet_X6_isWithin
set_option maxRecDepth 20000 in
theorem ggX2_changeSet_X1_isTaken : GoodIn wsX2_changeSet wsX1_isTaken := goodIn_r _ [11, 12, 30, 31, 32] (by decide +kernel) (by decide +kernel)
set_option maxRecDepth 20000 in
theorem gX2_changeSet_X1_isTaken : GoodIn wsX2_changeSet (wsV RX2 61 RX1 yX1_isTaken wsX1_isTaken) := goodIn_app (goodIn_of _ (by decide +kernel)) ggX2_changeSet_X1_isTaken
set_option maxRecDepth 20000 in
theorem ggX2_changeSet_X2_replace : GoodIn wsX2_changeSet wsX2_replace := goodIn_r _ [17, 18, 27, 28, 29] (by decide +kernel) (by decide +kernel)
set_option maxRecDepth 20000 in
theorem gX2_changeSet_X2_replace : GoodIn wsX2_changeSet (wsV RX2 38 RX2 yX2_replace wsX2_replace) := goodIn_app (goodIn_of _ (by decide +kernel)) ggX2_changeSet_X2_replace
set_option maxRecDepth 20000 in
theorem ggX2_changeSet_X2_dropUnfit : GoodIn wsX2_changeSet wsX2_dropUnfit := goodIn_r _ [22, 1, 18, 23, 24, 25, 10, 26, 12, 27, 28, 29, 30, 31, 32] (by decide +kernel) (by decide +kernel)
set_option maxRecDepth 20000 in
theorem gX2_changeSet_X2_dropUnfit : GoodIn wsX2_changeSet (wsV RX2 66 RX2 yX2_dropUnfit wsX2_dropUnfit) := goodIn_app (goodIn_of _ (by decide +kernel)) ggX2_changeSet_X2_dropUnfit
theorem dX2_changeSet_0 : decode cX2_changeSet 0 = .ok (.iload_n 1, 1) := by decide +kernel
theorem dX2_changeSet_1 : decode cX2_changeSet 1 = .ok (.invokestatic 42, 3) := by decide +kernel
theorem dX2_changeSet_4 : decode cX2_changeSet 4 = .ok (.ifCond .eq 13, 3) := by decide +kernel
theorem dX2_changeSet_7 : decode cX2_changeSet 7 = .ok (.iload_n 2, 1) := by decide +kernel
theorem dX2_changeSet_8 : decode cX2_changeSet 8 = .ok (.iconst 0, 1) := by decide +kernel
theorem dX2_changeSet_9 : decode cX2_changeSet 9 = .ok (.bipush 31, 2) := by decide +kernel
theorem dX2_changeSet_11 : decode cX2_changeSet 11 = .ok (.invokestatic 34, 3) := by decide +kernel
theorem dX2_changeSet_14 : decode cX2_changeSet 14 = .ok (.ifCond .ne 6, 3) := by decide +kernel
theorem dX2_changeSet_17 : decode cX2_changeSet 17 = .ok (.bipush (-2), 2) := by decide +kernel
theorem dX2_changeSet_19 : decode cX2_changeSet 19 = .ok (.ireturn, 1) := by decide +kernel
theorem dX2_changeSet_20 : decode cX2_changeSet 20 = .ok (.aload_n 0, 1) := by decide +kernel
theorem dX2_changeSet_21 : decode cX2_changeSet 21 = .ok (.getfield 15, 3) := by decide +kernel
theorem dX2_changeSet_24 : decode cX2_changeSet 24 = .ok (.iload_n 1, 1) := by decide +kernel
theorem dX2_changeSet_25 : decode cX2_changeSet 25 = .ok (.iload_n 2, 1) := by decide +kernel
theorem dX2_changeSet_26 : decode cX2_changeSet 26 = .ok (.invokevirtual 61, 3) := by decide +kernel
theorem dX2_changeSet_29 : decode cX2_changeSet 29 = .ok (.ifCond .eq 6, 3) := by decide +kernel
theorem dX2_changeSet_32 : decode cX2_changeSet 32 = .ok (.bipush (-3), 2) := by decide +kernel
theorem dX2_changeSet_34 : decode cX2_changeSet 34 = .ok (.ireturn, 1) := by decide +kernel
theorem dX2_changeSet_35 : decode cX2_changeSet 35 = .ok (.aload_n 0, 1) := by decide +kernel
theorem dX2_changeSet_36 : decode cX2_changeSet 36 = .ok (.iconst 1, 1) := by decide +kernel
theorem dX2_changeSet_37 : decode cX2_changeSet 37 = .ok (.iconst 0, 1) := by decide +kernel
theorem dX2_changeSet_38 : decode cX2_changeSet 38 = .ok (.iload_n 1, 1) := by decide +kernel
theorem dX2_changeSet_39 : decode cX2_changeSet 39 = .ok (.iadd, 1) := by decide +kernel
theorem dX2_changeSet_40 : decode cX2_changeSet 40 = .ok (.iload_n 2, 1) := by decide +kernel
theorem dX2_changeSet_41 : decode cX2_changeSet 41 = .ok (.invokevirtual 38, 3) := by decide +kernel
theorem dX2_changeSet_44 : decode cX2_changeSet 44 = .ok (.istore_n 3, 1) := by decide +kernel
theorem dX2_changeSet_45 : decode cX2_changeSet 45 = .ok (.aload_n 0, 1) := by decide +kernel
theorem dX2_changeSet_46 : decode cX2_changeSet 46 = .ok (.invokevirtual 66, 3) := by decide +kernel
theorem dX2_changeSet_49 : decode cX2_changeSet 49 = .ok (.iload_n 3, 1) := by decide +kernel
theorem dX2_changeSet_50 : decode cX2_changeSet 50 = .ok (.ireturn, 1) := by decide +kernel
set_option maxRecDepth 20000 in
theorem ggX2_changeStatus_X6_isClutch : GoodIn wsX2_changeStatus wsX6_isClutch := goodIn_r _ [3] (by decide +kernel) (by decide +kernel)
set_option maxRecDepth 20000 in
theorem gX2_changeStatus_X6_isClutch_n30 : GoodIn wsX2_changeStatus (wsX6_isClutch) := ggX2_changeStatus_X6_isClutch
set_option maxRecDepth 20000 in
theorem ggX2_changeStatus_X6_isWithin : GoodIn wsX2_changeStatus wsX6_isWithin := goodIn_r _ [5] (by decide +kernel) (by decide +kernel)
set_option maxRecDepth 20000 in
theorem gX2_changeStatus_X6_isWithin_n34 : GoodIn wsX2_changeStatus (wsX6_isWithin) := ggX2_changeStatus_X6_isWithin
set_option maxRecDepth 20000 in
theorem ggX2_changeStatus_X2_replace : GoodIn wsX2_changeStatus wsX2_replace := goodIn_r _ [10, 11, 23, 24, 25] (by decide +kernel) (by decide +kernel)
set_option maxRecDepth 20000 in
theorem gX2_changeStatus_X2_replace : GoodIn wsX2_changeStatus (wsV RX2 38 RX2 yX2_replace wsX2_replace) := goodIn_app (goodIn_of _ (by decide +kernel)) ggX2_changeStatus_X2_replace
set_option maxRecDepth 20000 in
theorem ggX2_changeStatus_X2_dropUnfit : GoodIn wsX2_changeStatus wsX2_dropUnfit := goodIn_r _ [15, 16, 11, 17, 18, 19, 20, 21, 22, 23, 24, 25, 26, 27, 28] (by decide +kernel) (by decide +kernel)
set_option maxRecDepth 20000 in
theorem gX2_changeStatus_X2_dropUnfit : GoodIn wsX2_changeStatus (wsV RX2 66 RX2 yX2_dropUnfit wsX2_dropUnfit) := goodIn_app (goodIn_of _ (by decide +kernel)) ggX2_changeStatus_X2_dropUnfit
theorem dX2_changeStatus_0 : decode cX2_changeStatus 0 = .ok (.aload_n 0, 1) := by decide +kernel
theorem dX2_changeStatus_1 : decode cX2_changeStatus 1 = .ok (.iload_n 1, 1) := by decide +kernel
theorem dX2_changeStatus_2 : decode cX2_changeStatus 2 = .ok (.invokestatic 30, 3) := by decide +kernel
theorem dX2_changeStatus_5 : decode cX2_changeStatus 5 = .ok (.ifCond .eq 16, 3) := by decide +kernel
theorem dX2_changeStatus_8 : decode cX2_changeStatus 8 = .ok (.iload_n 2, 1) := by decide +kernel
theorem dX2_changeStatus_9 : decode cX2_changeStatus 9 = .ok (.iconst 0, 1) := by decide +kernel
theorem dX2_changeStatus_10 : decode cX2_changeStatus 10 = .ok (.iconst 2, 1) := by decide +kernel
theorem dX2_changeStatus_11 : decode cX2_changeStatus 11 = .ok (.invokestatic 34, 3) := by decide +kernel
theorem dX2_changeStatus_14 : decode cX2_changeStatus 14 = .ok (.ifCond .eq 7, 3) := by decide +kernel
theorem dX2_changeStatus_17 : decode cX2_changeStatus 17 = .ok (.iconst 1, 1) := by decide +kernel
theorem dX2_changeStatus_18 : decode cX2_changeStatus 18 = .ok (.goto 4, 3) := by decide +kernel
theorem dX2_changeStatus_21 : decode cX2_changeStatus 21 = .ok (.iconst 0, 1) := by decide +kernel
theorem dX2_changeStatus_22 : decode cX2_changeStatus 22 = .ok (.bipush 24, 2) := by decide +kernel
theorem dX2_changeStatus_24 : decode cX2_changeStatus 24 = .ok (.iload_n 1, 1) := by decide +kernel
theorem dX2_changeStatus_25 : decode cX2_changeStatus 25 = .ok (.iadd, 1) := by decide +kernel
theorem dX2_changeStatus_26 : decode cX2_changeStatus 26 = .ok (.iload_n 2, 1) := by decide +kernel
theorem dX2_changeStatus_27 : decode cX2_changeStatus 27 = .ok (.invokevirtual 38, 3) := by decide +kernel
theorem dX2_changeStatus_30 : decode cX2_changeStatus 30 = .ok (.istore_n 3, 1) := by decide +kernel
theorem dX2_changeStatus_31 : decode cX2_changeStatus 31 = .ok (.aload_n 0, 1) := by decide +kernel
theorem dX2_changeStatus_32 : decode cX2_changeStatus 32 = .ok (.invokevirtual 66, 3) := by decide +kernel
theorem dX2_changeStatus_35 : decode cX2_changeStatus 35 = .ok (.iload_n 3, 1) := by decide +kernel
theorem dX2_changeStatus_36 : decode cX2_changeStatus 36 = .ok (.ireturn, 1) := by decide +kernel
set_option maxRecDepth 20000 in
theorem ggX2_changeRule_X6_isWithin : GoodIn wsX2_changeRule wsX6_isWithin := goodIn_r _ [3] (by decide +kernel) (by decide +kernel)
set_option maxRecDepth 20000 in
theorem gX2_changeRule_X6_isWithin_n34 : GoodIn wsX2_changeRule (wsX6_isWithin) := ggX2_changeRule_X6_isWithin
set_option maxRecDepth 20000 in
theorem ggX2_changeRule_X2_replace : GoodIn wsX2_changeRule wsX2_replace := goodIn_r _ [8, 9, 10, 11, 12] (by decide +kernel) (by decide +kernel)
set_option maxRecDepth 20000 in
theorem gX2_changeRule_X2_replace : GoodIn wsX2_changeRule (wsV RX2 38 RX2 yX2_replace wsX2_replace) := goodIn_app (goodIn_of _ (by decide +kernel)) ggX2_changeRule_X2_replace
theorem dX2_changeRule_0 : decode cX2_changeRule 0 = .ok (.iload_n 1, 1) := by decide +kernel
theorem dX2_changeRule_1 : decode cX2_changeRule 1 = .ok (.ifCond .ne 18, 3) := by decide +kernel
theorem dX2_changeRule_4 : decode cX2_changeRule 4 = .ok (.aload_n 0, 1) := by decide +kernel
theorem dX2_changeRule_5 : decode cX2_changeRule 5 = .ok (.iload_n 2, 1) := by decide +kernel
theorem dX2_changeRule_6 : decode cX2_changeRule 6 = .ok (.iconst 1, 1) := by decide +kernel
theorem dX2_changeRule_7 : decode cX2_changeRule 7 = .ok (.bipush 12, 2) := by decide +kernel
theorem dX2_changeRule_9 : decode cX2_changeRule 9 = .ok (.invokestatic 34, 3) := by decide +kernel
theorem dX2_changeRule_12 : decode cX2_changeRule 12 = .ok (.bipush 49, 2) := by decide +kernel
theorem dX2_changeRule_14 : decode cX2_changeRule 14 = .ok (.iload_n 2, 1) := by decide +kernel
theorem dX2_changeRule_15 : decode cX2_changeRule 15 = .ok (.invokevirtual 38, 3) := by decide +kernel
theorem dX2_changeRule_18 : decode cX2_changeRule 18 = .ok (.ireturn, 1) := by decide +kernel
theorem dX2_changeRule_19 : decode cX2_changeRule 19 = .ok (.aload_n 0, 1) := by decide +kernel
theorem dX2_changeRule_20 : decode cX2_changeRule 20 = .ok (.iload_n 1, 1) := by decide +kernel
theorem dX2_changeRule_21 : decode cX2_changeRule 21 = .ok (.iconst 1, 1) := by decide +kernel
theorem dX2_changeRule_22 : decode cX2_changeRule 22 = .ok (.if_icmp .ne 18, 3) := by decide +kernel
theorem dX2_changeRule_25 : decode cX2_changeRule 25 = .ok (.iload_n 2, 1) := by decide +kernel
theorem dX2_changeRule_26 : decode cX2_changeRule 26 = .ok (.iconst 0, 1) := by decide +kernel
theorem dX2_changeRule_27 : decode cX2_changeRule 27 = .ok (.sipush 999, 3) := by decide +kernel
theorem dX2_changeRule_30 : decode cX2_changeRule 30 = .ok (.invokestatic 34, 3) := by decide +kernel
theorem dX2_changeRule_33 : decode cX2_changeRule 33 = .ok (.ifCond .eq 7, 3) := by decide +kernel
theorem dX2_changeRule_36 : decode cX2_changeRule 36 = .ok (.iconst 1, 1) := by decide +kernel
theorem dX2_changeRule_37 : decode cX2_changeRule 37 = .ok (.goto 4, 3) := by decide +kernel
theorem dX2_changeRule_40 : decode cX2_changeRule 40 = .ok (.iconst 0, 1) := by decide +kernel
theorem dX2_changeRule_41 : decode cX2_changeRule 41 = .ok (.bipush 50, 2) := by decide +kernel
theorem dX2_changeRule_43 : decode cX2_changeRule 43 = .ok (.iload_n 2, 1) := by decide +kernel
theorem dX2_changeRule_44 : decode cX2_changeRule 44 = .ok (.invokevirtual 38, 3) := by decide +kernel
theorem dX2_changeRule_47 : decode cX2_changeRule 47 = .ok (.ireturn, 1) := by decide +kernel
set_option maxRecDepth 20000 in
theorem ggX2_areTicks_X6_isWithin : GoodIn wsX2_areTicks wsX6_isWithin := goodIn_r _ [3] (by decide +kernel) (by decide +kernel)
set_option maxRecDepth 20000 in
theorem gX2_areTicks_X6_isWithin_n34 : GoodIn wsX2_areTicks (wsX6_isWithin) := ggX2_areTicks_X6_isWithin
theorem dX2_areTicks_0 : decode cX2_areTicks 0 = .ok (.iload_n 0, 1) := by decide +kernel
theorem dX2_areTicks_1 : decode cX2_areTicks 1 = .ok (.iconst 0, 1) := by decide +kernel
theorem dX2_areTicks_2 : decode cX2_areTicks 2 = .ok (.sipush 300, 3) := by decide +kernel
theorem dX2_areTicks_5 : decode cX2_areTicks 5 = .ok (.invokestatic 34, 3) := by decide +kernel
theorem dX2_areTicks_8 : decode cX2_areTicks 8 = .ok (.ifCond .eq 17, 3) := by decide +kernel
theorem dX2_areTicks_11 : decode cX2_areTicks 11 = .ok (.iload_n 1, 1) := by decide +kernel
theorem dX2_areTicks_12 : decode cX2_areTicks 12 = .ok (.iconst 1, 1) := by decide +kernel
theorem dX2_areTicks_13 : decode cX2_areTicks 13 = .ok (.bipush 60, 2) := by decide +kernel
theorem dX2_areTicks_15 : decode cX2_areTicks 15 = .ok (.invokestatic 34, 3) := by decide +kernel
theorem dX2_areTicks_18 : decode cX2_areTicks 18 = .ok (.ifCond .eq 7, 3) := by decide +kernel
theorem dX2_areTicks_21 : decode cX2_areTicks 21 = .ok (.iconst 1, 1) := by decide +kernel
theorem dX2_areTicks_22 : decode cX2_areTicks 22 = .ok (.goto 4, 3) := by decide +kernel
theorem dX2_areTicks_25 : decode cX2_areTicks 25 = .ok (.iconst 0, 1) := by decide +kernel
theorem dX2_areTicks_26 : decode cX2_areTicks 26 = .ok (.ireturn, 1) := by decide +kernel
set_option maxRecDepth 20000 in
theorem ggX2_putIn_X6_isGear : GoodIn wsX2_putIn wsX6_isGear := goodIn_r _ [4] (by decide +kernel) (by decide +kernel)
set_option maxRecDepth 20000 in
theorem gX2_putIn_X6_isGear_n42 : GoodIn wsX2_putIn (wsX6_isGear) := ggX2_putIn_X6_isGear
set_option maxRecDepth 20000 in
theorem ggX2_putIn_X1_isFit : GoodIn wsX2_putIn wsX1_isFit := goodIn_r _ [9, 10, 20, 21, 22] (by decide +kernel) (by decide +kernel)
set_option maxRecDepth 20000 in
theorem gX2_putIn_X1_isFit : GoodIn wsX2_putIn (wsV RX2 69 RX1 yX1_isFit wsX1_isFit) := goodIn_app (goodIn_of _ (by decide +kernel)) ggX2_putIn_X1_isFit
set_option maxRecDepth 20000 in
theorem ggX2_putIn_X2_replace : GoodIn wsX2_putIn wsX2_replace := goodIn_r _ [15, 16, 17, 18, 19] (by decide +kernel) (by decide +kernel)
set_option maxRecDepth 20000 in
theorem gX2_putIn_X2_replace : GoodIn wsX2_putIn (wsV RX2 38 RX2 yX2_replace wsX2_replace) := goodIn_app (goodIn_of _ (by decide +kernel)) ggX2_putIn_X2_replace
theorem dX2_putIn_0 : decode cX2_putIn 0 = .ok (.iload_n 1, 1) := by decide +kernel
theorem dX2_putIn_1 : decode cX2_putIn 1 = .ok (.ifCond .eq 13, 3) := by decide +kernel
theorem dX2_putIn_4 : decode cX2_putIn 4 = .ok (.iload_n 1, 1) := by decide +kernel
theorem dX2_putIn_5 : decode cX2_putIn 5 = .ok (.invokestatic 42, 3) := by decide +kernel
theorem dX2_putIn_8 : decode cX2_putIn 8 = .ok (.ifCond .ne 6, 3) := by decide +kernel
theorem dX2_putIn_11 : decode cX2_putIn 11 = .ok (.bipush (-2), 2) := by decide +kernel
theorem dX2_putIn_13 : decode cX2_putIn 13 = .ok (.ireturn, 1) := by decide +kernel
theorem dX2_putIn_14 : decode cX2_putIn 14 = .ok (.iload_n 1, 1) := by decide +kernel
theorem dX2_putIn_15 : decode cX2_putIn 15 = .ok (.ifCond .eq 14, 3) := by decide +kernel
theorem dX2_putIn_18 : decode cX2_putIn 18 = .ok (.aload_n 0, 1) := by decide +kernel
theorem dX2_putIn_19 : decode cX2_putIn 19 = .ok (.getfield 15, 3) := by decide +kernel
theorem dX2_putIn_22 : decode cX2_putIn 22 = .ok (.iload_n 1, 1) := by decide +kernel
theorem dX2_putIn_23 : decode cX2_putIn 23 = .ok (.invokevirtual 69, 3) := by decide +kernel
theorem dX2_putIn_26 : decode cX2_putIn 26 = .ok (.ifCond .eq 14, 3) := by decide +kernel
theorem dX2_putIn_29 : decode cX2_putIn 29 = .ok (.aload_n 0, 1) := by decide +kernel
theorem dX2_putIn_30 : decode cX2_putIn 30 = .ok (.iconst 1, 1) := by decide +kernel
theorem dX2_putIn_31 : decode cX2_putIn 31 = .ok (.bipush 39, 2) := by decide +kernel
theorem dX2_putIn_33 : decode cX2_putIn 33 = .ok (.iload_n 1, 1) := by decide +kernel
theorem dX2_putIn_34 : decode cX2_putIn 34 = .ok (.invokevirtual 38, 3) := by decide +kernel
theorem dX2_putIn_37 : decode cX2_putIn 37 = .ok (.goto 5, 3) := by decide +kernel
theorem dX2_putIn_40 : decode cX2_putIn 40 = .ok (.bipush (-3), 2) := by decide +kernel
theorem dX2_putIn_42 : decode cX2_putIn 42 = .ok (.ireturn, 1) := by decide +kernel
theorem dX2_replace_0 : decode cX2_replace 0 = .ok (.iload_n 1, 1) := by decide +kernel
theorem dX2_replace_1 : decode cX2_replace 1 = .ok (.ifCond .eq 13, 3) := by decide +kernel
theorem dX2_replace_4 : decode cX2_replace 4 = .ok (.iload_n 2, 1) := by decide +kernel
theorem dX2_replace_5 : decode cX2_replace 5 = .ok (.ifCond .lt 9, 3) := by decide +kernel
theorem dX2_replace_8 : decode cX2_replace 8 = .ok (.iload_n 2, 1) := by decide +kernel
theorem dX2_replace_9 : decode cX2_replace 9 = .ok (.bipush 51, 2) := by decide +kernel
theorem dX2_replace_11 : decode cX2_replace 11 = .ok (.if_icmp .lt 6, 3) := by decide +kernel
theorem dX2_replace_14 : decode cX2_replace 14 = .ok (.bipush (-2), 2) := by decide +kernel
theorem dX2_replace_16 : decode cX2_replace 16 = .ok (.ireturn, 1) := by decide +kernel
theorem dX2_replace_17 : decode cX2_replace 17 = .ok (.aload_n 0, 1) := by decide +kernel
theorem dX2_replace_18 : decode cX2_replace 18 = .ok (.getfield 9, 3) := by decide +kernel
theorem dX2_replace_21 : decode cX2_replace 21 = .ok (.iload_n 2, 1) := by decide +kernel
theorem dX2_replace_22 : decode cX2_replace 22 = .ok (.iaload, 1) := by decide +kernel
theorem dX2_replace_23 : decode cX2_replace 23 = .ok (.istore 4, 2) := by decide +kernel
theorem dX2_replace_25 : decode cX2_replace 25 = .ok (.aload_n 0, 1) := by decide +kernel
theorem dX2_replace_26 : decode cX2_replace 26 = .ok (.getfield 9, 3) := by decide +kernel
theorem dX2_replace_29 : decode cX2_replace 29 = .ok (.iload_n 2, 1) := by decide +kernel
theorem dX2_replace_30 : decode cX2_replace 30 = .ok (.iload_n 3, 1) := by decide +kernel
theorem dX2_replace_31 : decode cX2_replace 31 = .ok (.iastore, 1) := by decide +kernel
theorem dX2_replace_32 : decode cX2_replace 32 = .ok (.iload 4, 2) := by decide +kernel
theorem dX2_replace_34 : decode cX2_replace 34 = .ok (.ireturn, 1) := by decide +kernel
set_option maxRecDepth 20000 in
theorem ggX2_dropUnfit_X1_isFit : GoodIn wsX2_dropUnfit wsX1_isFit := goodIn_r _ [7, 8, 12, 13, 14] (by decide +kernel) (by decide +kernel)
set_option maxRecDepth 20000 in
theorem gX2_dropUnfit_X1_isFit : GoodIn wsX2_dropUnfit (wsV RX2 69 RX1 yX1_isFit wsX1_isFit) := goodIn_app (goodIn_of _ (by decide +kernel)) ggX2_dropUnfit_X1_isFit
theorem dX2_dropUnfit_0 : decode cX2_dropUnfit 0 = .ok (.aload_n 0, 1) := by decide +kernel
theorem dX2_dropUnfit_1 : decode cX2_dropUnfit 1 = .ok (.getfield 15, 3) := by decide +kernel
theorem dX2_dropUnfit_4 : decode cX2_dropUnfit 4 = .ok (.aload_n 0, 1) := by decide +kernel
theorem dX2_dropUnfit_5 : decode cX2_dropUnfit 5 = .ok (.getfield 9, 3) := by decide +kernel
theorem dX2_dropUnfit_8 : decode cX2_dropUnfit 8 = .ok (.bipush 39, 2) := by decide +kernel
theorem dX2_dropUnfit_10 : decode cX2_dropUnfit 10 = .ok (.iaload, 1) := by decide +kernel
theorem dX2_dropUnfit_11 : decode cX2_dropUnfit 11 = .ok (.invokevirtual 69, 3) := by decide +kernel
theorem dX2_dropUnfit_14 : decode cX2_dropUnfit 14 = .ok (.ifCond .ne 11, 3) := by decide +kernel
theorem dX2_dropUnfit_17 : decode cX2_dropUnfit 17 = .ok (.aload_n 0, 1) := by decide +kernel
theorem dX2_dropUnfit_18 : decode cX2_dropUnfit 18 = .ok (.getfield 9, 3) := by decide +kernel
theorem dX2_dropUnfit_21 : decode cX2_dropUnfit 21 = .ok (.bipush 39, 2) := by decide +kernel
theorem dX2_dropUnfit_23 : decode cX2_dropUnfit 23 = .ok (.iconst 0, 1) := by decide +kernel
theorem dX2_dropUnfit_24 : decode cX2_dropUnfit 24 = .ok (.iastore, 1) := by decide +kernel
theorem dX2_dropUnfit_25 : decode cX2_dropUnfit 25 = .ok (.return_, 1) := by decide +kernel
theorem dX3_init_0 : decode cX3_init 0 = .ok (.aload_n 0, 1) := by decide +kernel
theorem dX3_init_1 : decode cX3_init 1 = .ok (.invokespecial 3, 3) := by decide +kernel
theorem dX3_init_4 : decode cX3_init 4 = .ok (.aload_n 0, 1) := by decide +kernel
theorem dX3_init_5 : decode cX3_init 5 = .ok (.aload_n 1, 1) := by decide +kernel
theorem dX3_init_6 : decode cX3_init 6 = .ok (.putfield 9, 3) := by decide +kernel
theorem dX3_init_9 : decode cX3_init 9 = .ok (.return_, 1) := by decide +kernel
set_option maxRecDepth 20000 in
theorem ggX3_overAt_X6_isClutch : GoodIn wsX3_overAt wsX6_isClutch := goodIn_r _ [11] (by decide +kernel) (by decide +kernel)
set_option maxRecDepth 20000 in
theorem gX3_overAt_X6_isClutch_n15 : GoodIn wsX3_overAt (wsX6_isClutch) := ggX3_overAt_X6_isClutch
theorem dX3_overAt_0 : decode cX3_overAt 0 = .ok (.iload_n 1, 1) := by decide +kernel
theorem dX3_overAt_1 : decode cX3_overAt 1 = .ok (.invokestatic 15, 3) := by decide +kernel
theorem dX3_overAt_4 : decode cX3_overAt 4 = .ok (.ifCond .ne 5, 3) := by decide +kernel
theorem dX3_overAt_7 : decode cX3_overAt 7 = .ok (.iconst 0, 1) := by decide +kernel
theorem dX3_overAt_8 : decode cX3_overAt 8 = .ok (.ireturn, 1) := by decide +kernel
theorem dX3_overAt_9 : decode cX3_overAt 9 = .ok (.iconst 1, 1) := by decide +kernel
theorem dX3_overAt_10 : decode cX3_overAt 10 = .ok (.aload_n 0, 1) := by decide +kernel
theorem dX3_overAt_11 : decode cX3_overAt 11 = .ok (.getfield 9, 3) := by decide +kernel
theorem dX3_overAt_14 : decode cX3_overAt 14 = .ok (.bipush 49, 2) := by decide +kernel
theorem dX3_overAt_16 : decode cX3_overAt 16 = .ok (.iaload, 1) := by decide +kernel
theorem dX3_overAt_17 : decode cX3_overAt 17 = .ok (.invokestatic 19, 3) := by decide +kernel
theorem dX3_overAt_20 : decode cX3_overAt 20 = .ok (.istore_n 3, 1) := by decide +kernel
theorem dX3_overAt_21 : decode cX3_overAt 21 = .ok (.sipush 1000, 3) := by decide +kernel
theorem dX3_overAt_24 : decode cX3_overAt 24 = .ok (.iload_n 2, 1) := by decide +kernel
theorem dX3_overAt_25 : decode cX3_overAt 25 = .ok (.aload_n 0, 1) := by decide +kernel
theorem dX3_overAt_26 : decode cX3_overAt 26 = .ok (.getfield 9, 3) := by decide +kernel
theorem dX3_overAt_29 : decode cX3_overAt 29 = .ok (.bipush 29, 2) := by decide +kernel
theorem dX3_overAt_31 : decode cX3_overAt 31 = .ok (.iload_n 1, 1) := by decide +kernel
theorem dX3_overAt_32 : decode cX3_overAt 32 = .ok (.iadd, 1) := by decide +kernel
theorem dX3_overAt_33 : decode cX3_overAt 33 = .ok (.iaload, 1) := by decide +kernel
theorem dX3_overAt_34 : decode cX3_overAt 34 = .ok (.isub, 1) := by decide +kernel
theorem dX3_overAt_35 : decode cX3_overAt 35 = .ok (.imul, 1) := by decide +kernel
theorem dX3_overAt_36 : decode cX3_overAt 36 = .ok (.iload_n 3, 1) := by decide +kernel
theorem dX3_overAt_37 : decode cX3_overAt 37 = .ok (.idiv, 1) := by decide +kernel
theorem dX3_overAt_38 : decode cX3_overAt 38 = .ok (.istore 4, 2) := by decide +kernel
theorem dX3_overAt_40 : decode cX3_overAt 40 = .ok (.sipush 1000, 3) := by decide +kernel
theorem dX3_overAt_43 : decode cX3_overAt 43 = .ok (.iload_n 2, 1) := by decide +kernel
theorem dX3_overAt_44 : decode cX3_overAt 44 = .ok (.aload_n 0, 1) := by decide +kernel
theorem dX3_overAt_45 : decode cX3_overAt 45 = .ok (.getfield 9, 3) := by decide +kernel
theorem dX3_overAt_48 : decode cX3_overAt 48 = .ok (.bipush 34, 2) := by decide +kernel
theorem dX3_overAt_50 : decode cX3_overAt 50 = .ok (.iload_n 1, 1) := by decide +kernel
theorem dX3_overAt_51 : decode cX3_overAt 51 = .ok (.iadd, 1) := by decide +kernel
theorem dX3_overAt_52 : decode cX3_overAt 52 = .ok (.iaload, 1) := by decide +kernel
theorem dX3_overAt_53 : decode cX3_overAt 53 = .ok (.isub, 1) := by decide +kernel
theorem dX3_overAt_54 : decode cX3_overAt 54 = .ok (.imul, 1) := by decide +kernel
theorem dX3_overAt_55 : decode cX3_overAt 55 = .ok (.iload_n 3, 1) := by decide +kernel
theorem dX3_overAt_56 : decode cX3_overAt 56 = .ok (.idiv, 1) := by decide +kernel
theorem dX3_overAt_57 : decode cX3_overAt 57 = .ok (.istore 5, 2) := by decide +kernel
theorem dX3_overAt_59 : decode cX3_overAt 59 = .ok (.sipush 1000, 3) := by decide +kernel
theorem dX3_overAt_62 : decode cX3_overAt 62 = .ok (.iconst 0, 1) := by decide +kernel
theorem dX3_overAt_63 : decode cX3_overAt 63 = .ok (.iload 4, 2) := by decide +kernel
theorem dX3_overAt_65 : decode cX3_overAt 65 = .ok (.invokestatic 19, 3) := by decide +kernel
theorem dX3_overAt_68 : decode cX3_overAt 68 = .ok (.invokestatic 25, 3) := by decide +kernel
theorem dX3_overAt_71 : decode cX3_overAt 71 = .ok (.istore 6, 2) := by decide +kernel
theorem dX3_overAt_73 : decode cX3_overAt 73 = .ok (.sipush 1000, 3) := by decide +kernel
theorem dX3_overAt_76 : decode cX3_overAt 76 = .ok (.sipush 1000, 3) := by decide +kernel
theorem dX3_overAt_79 : decode cX3_overAt 79 = .ok (.iconst 0, 1) := by decide +kernel
theorem dX3_overAt_80 : decode cX3_overAt 80 = .ok (.iload 5, 2) := by decide +kernel
theorem dX3_overAt_82 : decode cX3_overAt 82 = .ok (.invokestatic 19, 3) := by decide +kernel
theorem dX3_overAt_85 : decode cX3_overAt 85 = .ok (.invokestatic 25, 3) := by decide +kernel
theorem dX3_overAt_88 : decode cX3_overAt 88 = .ok (.isub, 1) := by decide +kernel
theorem dX3_overAt_89 : decode cX3_overAt 89 = .ok (.istore 7, 2) := by decide +kernel
theorem dX3_overAt_91 : decode cX3_overAt 91 = .ok (.iload 6, 2) := by decide +kernel
theorem dX3_overAt_93 : decode cX3_overAt 93 = .ok (.iload 7, 2) := by decide +kernel
theorem dX3_overAt_95 : decode cX3_overAt 95 = .ok (.iadd, 1) := by decide +kernel
theorem dX3_overAt_96 : decode cX3_overAt 96 = .ok (.sipush 1000, 3) := by decide +kernel
theorem dX3_overAt_99 : decode cX3_overAt 99 = .ok (.isub, 1) := by decide +kernel
theorem dX3_overAt_100 : decode cX3_overAt 100 = .ok (.ireturn, 1) := by decide +kernel
set_option maxRecDepth 20000 in
theorem ggX3_flare_X3_overAt : GoodIn wsX3_flare wsX3_overAt := goodIn_r _ [9, 10, 11, 12, 3, 13, 1, 2, 4, 14, 15, 16, 17] (by decide +kernel) (by decide +kernel)
set_option maxRecDepth 20000 in
theorem gX3_flare_X3_overAt : GoodIn wsX3_flare (wsV RX3 28 RX3 yX3_overAt wsX3_overAt) := goodIn_app (goodIn_of _ (by decide +kernel)) ggX3_flare_X3_overAt
theorem dX3_flare_0 : decode cX3_flare 0 = .ok (.iconst 0, 1) := by decide +kernel
theorem dX3_flare_1 : decode cX3_flare 1 = .ok (.istore_n 2, 1) := by decide +kernel
theorem dX3_flare_2 : decode cX3_flare 2 = .ok (.iconst 0, 1) := by decide +kernel
theorem dX3_flare_3 : decode cX3_flare 3 = .ok (.istore_n 3, 1) := by decide +kernel
theorem dX3_flare_4 : decode cX3_flare 4 = .ok (.iload_n 3, 1) := by decide +kernel
theorem dX3_flare_5 : decode cX3_flare 5 = .ok (.bipush 40, 2) := by decide +kernel
theorem dX3_flare_7 : decode cX3_flare 7 = .ok (.if_icmp .gt 20, 3) := by decide +kernel
theorem dX3_flare_10 : decode cX3_flare 10 = .ok (.iload_n 2, 1) := by decide +kernel
theorem dX3_flare_11 : decode cX3_flare 11 = .ok (.aload_n 0, 1) := by decide +kernel
theorem dX3_flare_12 : decode cX3_flare 12 = .ok (.iload_n 1, 1) := by decide +kernel
theorem dX3_flare_13 : decode cX3_flare 13 = .ok (.iload_n 3, 1) := by decide +kernel
theorem dX3_flare_14 : decode cX3_flare 14 = .ok (.invokevirtual 28, 3) := by decide +kernel
theorem dX3_flare_17 : decode cX3_flare 17 = .ok (.invokestatic 25, 3) := by decide +kernel
theorem dX3_flare_20 : decode cX3_flare 20 = .ok (.istore_n 2, 1) := by decide +kernel
theorem dX3_flare_21 : decode cX3_flare 21 = .ok (.iinc 3 1, 3) := by decide +kernel
theorem dX3_flare_24 : decode cX3_flare 24 = .ok (.goto (-20), 3) := by decide +kernel
theorem dX3_flare_27 : decode cX3_flare 27 = .ok (.iload_n 2, 1) := by decide +kernel
theorem dX3_flare_28 : decode cX3_flare 28 = .ok (.ineg, 1) := by decide +kernel
theorem dX3_flare_29 : decode cX3_flare 29 = .ok (.ireturn, 1) := by decide +kernel
set_option maxRecDepth 20000 in
theorem ggX3_bind_X3_overAt : GoodIn wsX3_bind wsX3_overAt := goodIn_r _ [9, 10, 1, 2, 3, 4, 11, 12, 13, 14, 15, 16, 17] (by decide +kernel) (by decide +kernel)
set_option maxRecDepth 20000 in
theorem gX3_bind_X3_overAt : GoodIn wsX3_bind (wsV RX3 28 RX3 yX3_overAt wsX3_overAt) := goodIn_app (goodIn_of _ (by decide +kernel)) ggX3_bind_X3_overAt
theorem dX3_bind_0 : decode cX3_bind 0 = .ok (.iconst 0, 1) := by decide +kernel
theorem dX3_bind_1 : decode cX3_bind 1 = .ok (.istore_n 2, 1) := by decide +kernel
theorem dX3_bind_2 : decode cX3_bind 2 = .ok (.iconst 0, 1) := by decide +kernel
theorem dX3_bind_3 : decode cX3_bind 3 = .ok (.istore_n 3, 1) := by decide +kernel
theorem dX3_bind_4 : decode cX3_bind 4 = .ok (.iload_n 3, 1) := by decide +kernel
theorem dX3_bind_5 : decode cX3_bind 5 = .ok (.bipush 40, 2) := by decide +kernel
theorem dX3_bind_7 : decode cX3_bind 7 = .ok (.if_icmp .gt 20, 3) := by decide +kernel
theorem dX3_bind_10 : decode cX3_bind 10 = .ok (.iload_n 2, 1) := by decide +kernel
theorem dX3_bind_11 : decode cX3_bind 11 = .ok (.aload_n 0, 1) := by decide +kernel
theorem dX3_bind_12 : decode cX3_bind 12 = .ok (.iload_n 1, 1) := by decide +kernel
theorem dX3_bind_13 : decode cX3_bind 13 = .ok (.iload_n 3, 1) := by decide +kernel
theorem dX3_bind_14 : decode cX3_bind 14 = .ok (.invokevirtual 28, 3) := by decide +kernel
theorem dX3_bind_17 : decode cX3_bind 17 = .ok (.invokestatic 19, 3) := by decide +kernel
theorem dX3_bind_20 : decode cX3_bind 20 = .ok (.istore_n 2, 1) := by decide +kernel
theorem dX3_bind_21 : decode cX3_bind 21 = .ok (.iinc 3 1, 3) := by decide +kernel
theorem dX3_bind_24 : decode cX3_bind 24 = .ok (.goto (-20), 3) := by decide +kernel
theorem dX3_bind_27 : decode cX3_bind 27 = .ok (.iload_n 2, 1) := by decide +kernel
theorem dX3_bind_28 : decode cX3_bind 28 = .ok (.ireturn, 1) := by decide +kernel
set_option maxRecDepth 20000 in
theorem ggX3_learn_X6_isClutch : GoodIn wsX3_learn wsX6_isClutch := goodIn_r _ [11] (by decide +kernel) (by decide +kernel)
set_option maxRecDepth 20000 in
theorem gX3_learn_X6_isClutch_n15 : GoodIn wsX3_learn (wsX6_isClutch) := ggX3_learn_X6_isClutch
set_option maxRecDepth 20000 in
theorem ggX3_learn_X3_flare : GoodIn wsX3_learn wsX3_flare := goodIn_r _ [16, 2, 3, 4, 5, 17, 18, 19, 15, 20, 1, 6, 7, 8, 9, 10, 11, 25] (by decide +kernel) (by decide +kernel)
set_option maxRecDepth 20000 in
theorem gX3_learn_X3_flare : GoodIn wsX3_learn (wsV RX3 31 RX3 yX3_flare wsX3_flare) := goodIn_app (goodIn_of _ (by decide +kernel)) ggX3_learn_X3_flare
set_option maxRecDepth 20000 in
theorem ggX3_learn_X3_bind : GoodIn wsX3_learn wsX3_bind := goodIn_r _ [24, 6, 7, 4, 8, 17, 18, 19, 15, 20, 1, 2, 3, 5, 9, 10, 11, 25] (by decide +kernel) (by decide +kernel)
set_option maxRecDepth 20000 in
theorem gX3_learn_X3_bind : GoodIn wsX3_learn (wsV RX3 35 RX3 yX3_bind wsX3_bind) := goodIn_app (goodIn_of _ (by decide +kernel)) ggX3_learn_X3_bind
theorem dX3_learn_0 : decode cX3_learn 0 = .ok (.iload_n 1, 1) := by decide +kernel
theorem dX3_learn_1 : decode cX3_learn 1 = .ok (.invokestatic 15, 3) := by decide +kernel
theorem dX3_learn_4 : decode cX3_learn 4 = .ok (.ifCond .ne 4, 3) := by decide +kernel
theorem dX3_learn_7 : decode cX3_learn 7 = .ok (.return_, 1) := by decide +kernel
theorem dX3_learn_8 : decode cX3_learn 8 = .ok (.aload_n 0, 1) := by decide +kernel
theorem dX3_learn_9 : decode cX3_learn 9 = .ok (.getfield 9, 3) := by decide +kernel
theorem dX3_learn_12 : decode cX3_learn 12 = .ok (.bipush 43, 2) := by decide +kernel
theorem dX3_learn_14 : decode cX3_learn 14 = .ok (.dup2, 1) := by decide +kernel
theorem dX3_learn_15 : decode cX3_learn 15 = .ok (.iaload, 1) := by decide +kernel
theorem dX3_learn_16 : decode cX3_learn 16 = .ok (.iconst 1, 1) := by decide +kernel
theorem dX3_learn_17 : decode cX3_learn 17 = .ok (.iadd, 1) := by decide +kernel
theorem dX3_learn_18 : decode cX3_learn 18 = .ok (.iastore, 1) := by decide +kernel
theorem dX3_learn_19 : decode cX3_learn 19 = .ok (.aload_n 0, 1) := by decide +kernel
theorem dX3_learn_20 : decode cX3_learn 20 = .ok (.iload_n 1, 1) := by decide +kernel
theorem dX3_learn_21 : decode cX3_learn 21 = .ok (.invokevirtual 31, 3) := by decide +kernel
theorem dX3_learn_24 : decode cX3_learn 24 = .ok (.aload_n 0, 1) := by decide +kernel
theorem dX3_learn_25 : decode cX3_learn 25 = .ok (.getfield 9, 3) := by decide +kernel
theorem dX3_learn_28 : decode cX3_learn 28 = .ok (.bipush 50, 2) := by decide +kernel
theorem dX3_learn_30 : decode cX3_learn 30 = .ok (.iaload, 1) := by decide +kernel
theorem dX3_learn_31 : decode cX3_learn 31 = .ok (.if_icmp .le 42, 3) := by decide +kernel
theorem dX3_learn_34 : decode cX3_learn 34 = .ok (.aload_n 0, 1) := by decide +kernel
theorem dX3_learn_35 : decode cX3_learn 35 = .ok (.getfield 9, 3) := by decide +kernel
theorem dX3_learn_38 : decode cX3_learn 38 = .ok (.bipush 44, 2) := by decide +kernel
theorem dX3_learn_40 : decode cX3_learn 40 = .ok (.dup2, 1) := by decide +kernel
theorem dX3_learn_41 : decode cX3_learn 41 = .ok (.iaload, 1) := by decide +kernel
theorem dX3_learn_42 : decode cX3_learn 42 = .ok (.iconst 1, 1) := by decide +kernel
theorem dX3_learn_43 : decode cX3_learn 43 = .ok (.iadd, 1) := by decide +kernel
theorem dX3_learn_44 : decode cX3_learn 44 = .ok (.iastore, 1) := by decide +kernel
theorem dX3_learn_45 : decode cX3_learn 45 = .ok (.aload_n 0, 1) := by decide +kernel
theorem dX3_learn_46 : decode cX3_learn 46 = .ok (.getfield 9, 3) := by decide +kernel
theorem dX3_learn_49 : decode cX3_learn 49 = .ok (.bipush 34, 2) := by decide +kernel
theorem dX3_learn_51 : decode cX3_learn 51 = .ok (.iload_n 1, 1) := by decide +kernel
theorem dX3_learn_52 : decode cX3_learn 52 = .ok (.iadd, 1) := by decide +kernel
theorem dX3_learn_53 : decode cX3_learn 53 = .ok (.bipush 20, 2) := by decide +kernel
theorem dX3_learn_55 : decode cX3_learn 55 = .ok (.aload_n 0, 1) := by decide +kernel
theorem dX3_learn_56 : decode cX3_learn 56 = .ok (.getfield 9, 3) := by decide +kernel
theorem dX3_learn_59 : decode cX3_learn 59 = .ok (.bipush 34, 2) := by decide +kernel
theorem dX3_learn_61 : decode cX3_learn 61 = .ok (.iload_n 1, 1) := by decide +kernel
theorem dX3_learn_62 : decode cX3_learn 62 = .ok (.iadd, 1) := by decide +kernel
theorem dX3_learn_63 : decode cX3_learn 63 = .ok (.iaload, 1) := by decide +kernel
theorem dX3_learn_64 : decode cX3_learn 64 = .ok (.iconst 1, 1) := by decide +kernel
theorem dX3_learn_65 : decode cX3_learn 65 = .ok (.iadd, 1) := by decide +kernel
theorem dX3_learn_66 : decode cX3_learn 66 = .ok (.invokestatic 25, 3) := by decide +kernel
theorem dX3_learn_69 : decode cX3_learn 69 = .ok (.iastore, 1) := by decide +kernel
theorem dX3_learn_70 : decode cX3_learn 70 = .ok (.goto 53, 3) := by decide +kernel
theorem dX3_learn_73 : decode cX3_learn 73 = .ok (.aload_n 0, 1) := by decide +kernel
theorem dX3_learn_74 : decode cX3_learn 74 = .ok (.iload_n 1, 1) := by decide +kernel
theorem dX3_learn_75 : decode cX3_learn 75 = .ok (.invokevirtual 35, 3) := by decide +kernel
theorem dX3_learn_78 : decode cX3_learn 78 = .ok (.aload_n 0, 1) := by decide +kernel
theorem dX3_learn_79 : decode cX3_learn 79 = .ok (.getfield 9, 3) := by decide +kernel
theorem dX3_learn_82 : decode cX3_learn 82 = .ok (.bipush 50, 2) := by decide +kernel
theorem dX3_learn_84 : decode cX3_learn 84 = .ok (.iaload, 1) := by decide +kernel
theorem dX3_learn_85 : decode cX3_learn 85 = .ok (.if_icmp .le 38, 3) := by decide +kernel
theorem dX3_learn_88 : decode cX3_learn 88 = .ok (.aload_n 0, 1) := by decide +kernel
theorem dX3_learn_89 : decode cX3_learn 89 = .ok (.getfield 9, 3) := by decide +kernel
theorem dX3_learn_92 : decode cX3_learn 92 = .ok (.bipush 45, 2) := by decide +kernel
theorem dX3_learn_94 : decode cX3_learn 94 = .ok (.dup2, 1) := by decide +kernel
theorem dX3_learn_95 : decode cX3_learn 95 = .ok (.iaload, 1) := by decide +kernel
theorem dX3_learn_96 : decode cX3_learn 96 = .ok (.iconst 1, 1) := by decide +kernel
theorem dX3_learn_97 : decode cX3_learn 97 = .ok (.iadd, 1) := by decide +kernel
theorem dX3_learn_98 : decode cX3_learn 98 = .ok (.iastore, 1) := by decide +kernel
theorem dX3_learn_99 : decode cX3_learn 99 = .ok (.aload_n 0, 1) := by decide +kernel
theorem dX3_learn_100 : decode cX3_learn 100 = .ok (.getfield 9, 3) := by decide +kernel
theorem dX3_learn_103 : decode cX3_learn 103 = .ok (.bipush 34, 2) := by decide +kernel
theorem dX3_learn_105 : decode cX3_learn 105 = .ok (.iload_n 1, 1) := by decide +kernel
theorem dX3_learn_106 : decode cX3_learn 106 = .ok (.iadd, 1) := by decide +kernel
theorem dX3_learn_107 : decode cX3_learn 107 = .ok (.iconst 1, 1) := by decide +kernel
theorem dX3_learn_108 : decode cX3_learn 108 = .ok (.aload_n 0, 1) := by decide +kernel
theorem dX3_learn_109 : decode cX3_learn 109 = .ok (.getfield 9, 3) := by decide +kernel
theorem dX3_learn_112 : decode cX3_learn 112 = .ok (.bipush 34, 2) := by decide +kernel
theorem dX3_learn_114 : decode cX3_learn 114 = .ok (.iload_n 1, 1) := by decide +kernel
theorem dX3_learn_115 : decode cX3_learn 115 = .ok (.iadd, 1) := by decide +kernel
theorem dX3_learn_116 : decode cX3_learn 116 = .ok (.iaload, 1) := by decide +kernel
theorem dX3_learn_117 : decode cX3_learn 117 = .ok (.iconst 1, 1) := by decide +kernel
theorem dX3_learn_118 : decode cX3_learn 118 = .ok (.isub, 1) := by decide +kernel
theorem dX3_learn_119 : decode cX3_learn 119 = .ok (.invokestatic 19, 3) := by decide +kernel
theorem dX3_learn_122 : decode cX3_learn 122 = .ok (.iastore, 1) := by decide +kernel
theorem dX3_learn_123 : decode cX3_learn 123 = .ok (.return_, 1) := by decide +kernel
theorem dX4_init_0 : decode cX4_init 0 = .ok (.aload_n 0, 1) := by decide +kernel
theorem dX4_init_1 : decode cX4_init 1 = .ok (.invokespecial 5, 3) := by decide +kernel
theorem dX4_init_4 : decode cX4_init 4 = .ok (.aload_n 0, 1) := by decide +kernel
theorem dX4_init_5 : decode cX4_init 5 = .ok (.bipush 6, 2) := by decide +kernel
theorem dX4_init_7 : decode cX4_init 7 = .ok (.bipush 51, 2) := by decide +kernel
theorem dX4_init_9 : decode cX4_init 9 = .ok (.multianewarray 11 2, 4) := by decide +kernel
theorem dX4_init_13 : decode cX4_init 13 = .ok (.putfield 13, 3) := by decide +kernel
theorem dX4_init_16 : decode cX4_init 16 = .ok (.aload_n 0, 1) := by decide +kernel
theorem dX4_init_17 : decode cX4_init 17 = .ok (.iconst 0, 1) := by decide +kernel
theorem dX4_init_18 : decode cX4_init 18 = .ok (.putfield 16, 3) := by decide +kernel
theorem dX4_init_21 : decode cX4_init 21 = .ok (.aload_n 0, 1) := by decide +kernel
theorem dX4_init_22 : decode cX4_init 22 = .ok (.iconst 0, 1) := by decide +kernel
theorem dX4_init_23 : decode cX4_init 23 = .ok (.putfield 20, 3) := by decide +kernel
theorem dX4_init_26 : decode cX4_init 26 = .ok (.aload_n 0, 1) := by decide +kernel
theorem dX4_init_27 : decode cX4_init 27 = .ok (.aload_n 1, 1) := by decide +kernel
theorem dX4_init_28 : decode cX4_init 28 = .ok (.putfield 23, 3) := by decide +kernel
theorem dX4_init_31 : decode cX4_init 31 = .ok (.return_, 1) := by decide +kernel
theorem dX4_count_0 : decode cX4_count 0 = .ok (.aload_n 0, 1) := by decide +kernel
theorem dX4_count_1 : decode cX4_count 1 = .ok (.getfield 20, 3) := by decide +kernel
theorem dX4_count_4 : decode cX4_count 4 = .ok (.ireturn, 1) := by decide +kernel
theorem dX4_draft_0 : decode cX4_draft 0 = .ok (.aload_n 0, 1) := by decide +kernel
theorem dX4_draft_1 : decode cX4_draft 1 = .ok (.getfield 23, 3) := by decide +kernel
theorem dX4_draft_4 : decode cX4_draft 4 = .ok (.iconst 0, 1) := by decide +kernel
theorem dX4_draft_5 : decode cX4_draft 5 = .ok (.aload_n 0, 1) := by decide +kernel
theorem dX4_draft_6 : decode cX4_draft 6 = .ok (.getfield 13, 3) := by decide +kernel
theorem dX4_draft_9 : decode cX4_draft 9 = .ok (.aload_n 0, 1) := by decide +kernel
theorem dX4_draft_10 : decode cX4_draft 10 = .ok (.getfield 16, 3) := by decide +kernel
theorem dX4_draft_13 : decode cX4_draft 13 = .ok (.aaload, 1) := by decide +kernel
theorem dX4_draft_14 : decode cX4_draft 14 = .ok (.iconst 0, 1) := by decide +kernel
theorem dX4_draft_15 : decode cX4_draft 15 = .ok (.bipush 51, 2) := by decide +kernel
theorem dX4_draft_17 : decode cX4_draft 17 = .ok (.invokestatic 27, 3) := by decide +kernel
theorem dX4_draft_20 : decode cX4_draft 20 = .ok (.return_, 1) := by decide +kernel
theorem dX4_keepDraft_0 : decode cX4_keepDraft 0 = .ok (.aload_n 0, 1) := by decide +kernel
theorem dX4_keepDraft_1 : decode cX4_keepDraft 1 = .ok (.aload_n 0, 1) := by decide +kernel
theorem dX4_keepDraft_2 : decode cX4_keepDraft 2 = .ok (.getfield 16, 3) := by decide +kernel
theorem dX4_keepDraft_5 : decode cX4_keepDraft 5 = .ok (.iconst 1, 1) := by decide +kernel
theorem dX4_keepDraft_6 : decode cX4_keepDraft 6 = .ok (.iadd, 1) := by decide +kernel
theorem dX4_keepDraft_7 : decode cX4_keepDraft 7 = .ok (.bipush 6, 2) := by decide +kernel
theorem dX4_keepDraft_9 : decode cX4_keepDraft 9 = .ok (.irem, 1) := by decide +kernel
theorem dX4_keepDraft_10 : decode cX4_keepDraft 10 = .ok (.putfield 16, 3) := by decide +kernel
theorem dX4_keepDraft_13 : decode cX4_keepDraft 13 = .ok (.aload_n 0, 1) := by decide +kernel
theorem dX4_keepDraft_14 : decode cX4_keepDraft 14 = .ok (.aload_n 0, 1) := by decide +kernel
theorem dX4_keepDraft_15 : decode cX4_keepDraft 15 = .ok (.getfield 20, 3) := by decide +kernel
theorem dX4_keepDraft_18 : decode cX4_keepDraft 18 = .ok (.iconst 1, 1) := by decide +kernel
theorem dX4_keepDraft_19 : decode cX4_keepDraft 19 = .ok (.iadd, 1) := by decide +kernel
theorem dX4_keepDraft_20 : decode cX4_keepDraft 20 = .ok (.iconst 5, 1) := by decide +kernel
theorem dX4_keepDraft_21 : decode cX4_keepDraft 21 = .ok (.invokestatic 33, 3) := by decide +kernel
theorem dX4_keepDraft_24 : decode cX4_keepDraft 24 = .ok (.putfield 20, 3) := by decide +kernel
theorem dX4_keepDraft_27 : decode cX4_keepDraft 27 = .ok (.return_, 1) := by decide +kernel
theorem dX4_takeDraft_0 : decode cX4_takeDraft 0 = .ok (.aload_n 0, 1) := by decide +kernel
theorem dX4_takeDraft_1 : decode cX4_takeDraft 1 = .ok (.getfield 13, 3) := by decide +kernel
theorem dX4_takeDraft_4 : decode cX4_takeDraft 4 = .ok (.aload_n 0, 1) := by decide +kernel
theorem dX4_takeDraft_5 : decode cX4_takeDraft 5 = .ok (.getfield 16, 3) := by decide +kernel
theorem dX4_takeDraft_8 : decode cX4_takeDraft 8 = .ok (.aaload, 1) := by decide +kernel
theorem dX4_takeDraft_9 : decode cX4_takeDraft 9 = .ok (.iconst 0, 1) := by decide +kernel
theorem dX4_takeDraft_10 : decode cX4_takeDraft 10 = .ok (.aload_n 0, 1) := by decide +kernel
theorem dX4_takeDraft_11 : decode cX4_takeDraft 11 = .ok (.getfield 23, 3) := by decide +kernel
theorem dX4_takeDraft_14 : decode cX4_takeDraft 14 = .ok (.iconst 0, 1) := by decide +kernel
theorem dX4_takeDraft_15 : decode cX4_takeDraft 15 = .ok (.bipush 51, 2) := by decide +kernel
theorem dX4_takeDraft_17 : decode cX4_takeDraft 17 = .ok (.invokestatic 27, 3) := by decide +kernel
theorem dX4_takeDraft_20 : decode cX4_takeDraft 20 = .ok (.return_, 1) := by decide +kernel
set_option maxRecDepth 20000 in
theorem ggX4_goBack_X4_takeDraft : GoodIn wsX4_goBack wsX4_takeDraft := goodIn_r _ [7, 8, 2, 9, 10, 11, 12, 13, 14, 15, 16, 17] (by decide +kernel) (by decide +kernel)
set_option maxRecDepth 20000 in
theorem gX4_goBack_X4_takeDraft : GoodIn wsX4_goBack (wsV RX4 39 RX4 yX4_takeDraft wsX4_takeDraft) := goodIn_app (goodIn_of _ (by decide +kernel)) ggX4_goBack_X4_takeDraft
theorem dX4_goBack_0 : decode cX4_goBack 0 = .ok (.aload_n 0, 1) := by decide +kernel
theorem dX4_goBack_1 : decode cX4_goBack 1 = .ok (.getfield 20, 3) := by decide +kernel
theorem dX4_goBack_4 : decode cX4_goBack 4 = .ok (.ifCond .ne 5, 3) := by decide +kernel
theorem dX4_goBack_7 : decode cX4_goBack 7 = .ok (.iconst 0, 1) := by decide +kernel
theorem dX4_goBack_8 : decode cX4_goBack 8 = .ok (.ireturn, 1) := by decide +kernel
theorem dX4_goBack_9 : decode cX4_goBack 9 = .ok (.aload_n 0, 1) := by decide +kernel
theorem dX4_goBack_10 : decode cX4_goBack 10 = .ok (.dup, 1) := by decide +kernel
theorem dX4_goBack_11 : decode cX4_goBack 11 = .ok (.getfield 20, 3) := by decide +kernel
theorem dX4_goBack_14 : decode cX4_goBack 14 = .ok (.iconst 1, 1) := by decide +kernel
theorem dX4_goBack_15 : decode cX4_goBack 15 = .ok (.isub, 1) := by decide +kernel
theorem dX4_goBack_16 : decode cX4_goBack 16 = .ok (.putfield 20, 3) := by decide +kernel
theorem dX4_goBack_19 : decode cX4_goBack 19 = .ok (.aload_n 0, 1) := by decide +kernel
theorem dX4_goBack_20 : decode cX4_goBack 20 = .ok (.aload_n 0, 1) := by decide +kernel
theorem dX4_goBack_21 : decode cX4_goBack 21 = .ok (.getfield 16, 3) := by decide +kernel
theorem dX4_goBack_24 : decode cX4_goBack 24 = .ok (.bipush 6, 2) := by decide +kernel
theorem dX4_goBack_26 : decode cX4_goBack 26 = .ok (.iadd, 1) := by decide +kernel
theorem dX4_goBack_27 : decode cX4_goBack 27 = .ok (.iconst 1, 1) := by decide +kernel
theorem dX4_goBack_28 : decode cX4_goBack 28 = .ok (.isub, 1) := by decide +kernel
theorem dX4_goBack_29 : decode cX4_goBack 29 = .ok (.bipush 6, 2) := by decide +kernel
theorem dX4_goBack_31 : decode cX4_goBack 31 = .ok (.irem, 1) := by decide +kernel
theorem dX4_goBack_32 : decode cX4_goBack 32 = .ok (.putfield 16, 3) := by decide +kernel
theorem dX4_goBack_35 : decode cX4_goBack 35 = .ok (.aload_n 0, 1) := by decide +kernel
theorem dX4_goBack_36 : decode cX4_goBack 36 = .ok (.invokevirtual 39, 3) := by decide +kernel
theorem dX4_goBack_39 : decode cX4_goBack 39 = .ok (.iconst 1, 1) := by decide +kernel
theorem dX4_goBack_40 : decode cX4_goBack 40 = .ok (.ireturn, 1) := by decide +kernel
theorem dX5_init_0 : decode cX5_init 0 = .ok (.aload_n 0, 1) := by decide +kernel
theorem dX5_init_1 : decode cX5_init 1 = .ok (.invokespecial 5, 3) := by decide +kernel
theorem dX5_init_4 : decode cX5_init 4 = .ok (.aload_n 0, 1) := by decide +kernel
theorem dX5_init_5 : decode cX5_init 5 = .ok (.sipush 150, 3) := by decide +kernel
theorem dX5_init_8 : decode cX5_init 8 = .ok (.newarray .int, 2) := by decide +kernel
theorem dX5_init_10 : decode cX5_init 10 = .ok (.putfield 11, 3) := by decide +kernel
theorem dX5_init_13 : decode cX5_init 13 = .ok (.aload_n 0, 1) := by decide +kernel
theorem dX5_init_14 : decode cX5_init 14 = .ok (.bipush 50, 2) := by decide +kernel
theorem dX5_init_16 : decode cX5_init 16 = .ok (.newarray .int, 2) := by decide +kernel
theorem dX5_init_18 : decode cX5_init 18 = .ok (.putfield 15, 3) := by decide +kernel
theorem dX5_init_21 : decode cX5_init 21 = .ok (.aload_n 0, 1) := by decide +kernel
theorem dX5_init_22 : decode cX5_init 22 = .ok (.bipush 50, 2) := by decide +kernel
theorem dX5_init_24 : decode cX5_init 24 = .ok (.newarray .int, 2) := by decide +kernel
theorem dX5_init_26 : decode cX5_init 26 = .ok (.putfield 18, 3) := by decide +kernel
theorem dX5_init_29 : decode cX5_init 29 = .ok (.aload_n 0, 1) := by decide +kernel
theorem dX5_init_30 : decode cX5_init 30 = .ok (.bipush 50, 2) := by decide +kernel
theorem dX5_init_32 : decode cX5_init 32 = .ok (.newarray .int, 2) := by decide +kernel
theorem dX5_init_34 : decode cX5_init 34 = .ok (.putfield 21, 3) := by decide +kernel
theorem dX5_init_37 : decode cX5_init 37 = .ok (.aload_n 0, 1) := by decide +kernel
theorem dX5_init_38 : decode cX5_init 38 = .ok (.iconst 0, 1) := by decide +kernel
theorem dX5_init_39 : decode cX5_init 39 = .ok (.putfield 24, 3) := by decide +kernel
theorem dX5_init_42 : decode cX5_init 42 = .ok (.aload_n 0, 1) := by decide +kernel
theorem dX5_init_43 : decode cX5_init 43 = .ok (.iconst 0, 1) := by decide +kernel
theorem dX5_init_44 : decode cX5_init 44 = .ok (.putfield 28, 3) := by decide +kernel
theorem dX5_init_47 : decode cX5_init 47 = .ok (.aload_n 0, 1) := by decide +kernel
theorem dX5_init_48 : decode cX5_init 48 = .ok (.iconst 0, 1) := by decide +kernel
theorem dX5_init_49 : decode cX5_init 49 = .ok (.putfield 31, 3) := by decide +kernel
theorem dX5_init_52 : decode cX5_init 52 = .ok (.return_, 1) := by decide +kernel
theorem dX5_length_0 : decode cX5_length 0 = .ok (.aload_n 0, 1) := by decide +kernel
theorem dX5_length_1 : decode cX5_length 1 = .ok (.getfield 24, 3) := by decide +kernel
theorem dX5_length_4 : decode cX5_length 4 = .ok (.ireturn, 1) := by decide +kernel
theorem dX5_append_0 : decode cX5_append 0 = .ok (.aload_n 0, 1) := by decide +kernel
theorem dX5_append_1 : decode cX5_append 1 = .ok (.getfield 24, 3) := by decide +kernel
theorem dX5_append_4 : decode cX5_append 4 = .ok (.sipush 150, 3) := by decide +kernel
theorem dX5_append_7 : decode cX5_append 7 = .ok (.if_icmp .lt 5, 3) := by decide +kernel
theorem dX5_append_10 : decode cX5_append 10 = .ok (.iconst 0, 1) := by decide +kernel
theorem dX5_append_11 : decode cX5_append 11 = .ok (.ireturn, 1) := by decide +kernel
theorem dX5_append_12 : decode cX5_append 12 = .ok (.aload_n 0, 1) := by decide +kernel
theorem dX5_append_13 : decode cX5_append 13 = .ok (.getfield 11, 3) := by decide +kernel
theorem dX5_append_16 : decode cX5_append 16 = .ok (.aload_n 0, 1) := by decide +kernel
theorem dX5_append_17 : decode cX5_append 17 = .ok (.getfield 24, 3) := by decide +kernel
theorem dX5_append_20 : decode cX5_append 20 = .ok (.iload_n 1, 1) := by decide +kernel
theorem dX5_append_21 : decode cX5_append 21 = .ok (.iastore, 1) := by decide +kernel
theorem dX5_append_22 : decode cX5_append 22 = .ok (.aload_n 0, 1) := by decide +kernel
theorem dX5_append_23 : decode cX5_append 23 = .ok (.dup, 1) := by decide +kernel
theorem dX5_append_24 : decode cX5_append 24 = .ok (.getfield 24, 3) := by decide +kernel
theorem dX5_append_27 : decode cX5_append 27 = .ok (.iconst 1, 1) := by decide +kernel
theorem dX5_append_28 : decode cX5_append 28 = .ok (.iadd, 1) := by decide +kernel
theorem dX5_append_29 : decode cX5_append 29 = .ok (.putfield 24, 3) := by decide +kernel
theorem dX5_append_32 : decode cX5_append 32 = .ok (.iconst 1, 1) := by decide +kernel
theorem dX5_append_33 : decode cX5_append 33 = .ok (.ireturn, 1) := by decide +kernel
theorem dX5_empty_0 : decode cX5_empty 0 = .ok (.aload_n 0, 1) := by decide +kernel
theorem dX5_empty_1 : decode cX5_empty 1 = .ok (.getfield 24, 3) := by decide +kernel
theorem dX5_empty_4 : decode cX5_empty 4 = .ok (.istore_n 1, 1) := by decide +kernel
theorem dX5_empty_5 : decode cX5_empty 5 = .ok (.aload_n 0, 1) := by decide +kernel
theorem dX5_empty_6 : decode cX5_empty 6 = .ok (.iconst 0, 1) := by decide +kernel
theorem dX5_empty_7 : decode cX5_empty 7 = .ok (.putfield 24, 3) := by decide +kernel
theorem dX5_empty_10 : decode cX5_empty 10 = .ok (.iload_n 1, 1) := by decide +kernel
theorem dX5_empty_11 : decode cX5_empty 11 = .ok (.ireturn, 1) := by decide +kernel
theorem dX5_orders_0 : decode cX5_orders 0 = .ok (.aload_n 0, 1) := by decide +kernel
theorem dX5_orders_1 : decode cX5_orders 1 = .ok (.getfield 28, 3) := by decide +kernel
theorem dX5_orders_4 : decode cX5_orders 4 = .ok (.ireturn, 1) := by decide +kernel
theorem dX5_kindOf_0 : decode cX5_kindOf 0 = .ok (.iload_n 1, 1) := by decide +kernel
theorem dX5_kindOf_1 : decode cX5_kindOf 1 = .ok (.ifCond .lt 20, 3) := by decide +kernel
theorem dX5_kindOf_4 : decode cX5_kindOf 4 = .ok (.iload_n 1, 1) := by decide +kernel
theorem dX5_kindOf_5 : decode cX5_kindOf 5 = .ok (.aload_n 0, 1) := by decide +kernel
theorem dX5_kindOf_6 : decode cX5_kindOf 6 = .ok (.getfield 28, 3) := by decide +kernel
theorem dX5_kindOf_9 : decode cX5_kindOf 9 = .ok (.if_icmp .ge 12, 3) := by decide +kernel
theorem dX5_kindOf_12 : decode cX5_kindOf 12 = .ok (.aload_n 0, 1) := by decide +kernel
theorem dX5_kindOf_13 : decode cX5_kindOf 13 = .ok (.getfield 15, 3) := by decide +kernel
theorem dX5_kindOf_16 : decode cX5_kindOf 16 = .ok (.iload_n 1, 1) := by decide +kernel
theorem dX5_kindOf_17 : decode cX5_kindOf 17 = .ok (.iaload, 1) := by decide +kernel
theorem dX5_kindOf_18 : decode cX5_kindOf 18 = .ok (.goto 4, 3) := by decide +kernel
theorem dX5_kindOf_21 : decode cX5_kindOf 21 = .ok (.iconst (-1), 1) := by decide +kernel
theorem dX5_kindOf_22 : decode cX5_kindOf 22 = .ok (.ireturn, 1) := by decide +kernel
theorem dX5_firstOf_0 : decode cX5_firstOf 0 = .ok (.iload_n 1, 1) := by decide +kernel
theorem dX5_firstOf_1 : decode cX5_firstOf 1 = .ok (.ifCond .lt 20, 3) := by decide +kernel
theorem dX5_firstOf_4 : decode cX5_firstOf 4 = .ok (.iload_n 1, 1) := by decide +kernel
theorem dX5_firstOf_5 : decode cX5_firstOf 5 = .ok (.aload_n 0, 1) := by decide +kernel
theorem dX5_firstOf_6 : decode cX5_firstOf 6 = .ok (.getfield 28, 3) := by decide +kernel
theorem dX5_firstOf_9 : decode cX5_firstOf 9 = .ok (.if_icmp .ge 12, 3) := by decide +kernel
theorem dX5_firstOf_12 : decode cX5_firstOf 12 = .ok (.aload_n 0, 1) := by decide +kernel
theorem dX5_firstOf_13 : decode cX5_firstOf 13 = .ok (.getfield 18, 3) := by decide +kernel
theorem dX5_firstOf_16 : decode cX5_firstOf 16 = .ok (.iload_n 1, 1) := by decide +kernel
theorem dX5_firstOf_17 : decode cX5_firstOf 17 = .ok (.iaload, 1) := by decide +kernel
theorem dX5_firstOf_18 : decode cX5_firstOf 18 = .ok (.goto 4, 3) := by decide +kernel
theorem dX5_firstOf_21 : decode cX5_firstOf 21 = .ok (.iconst (-1), 1) := by decide +kernel
theorem dX5_firstOf_22 : decode cX5_firstOf 22 = .ok (.ireturn, 1) := by decide +kernel
theorem dX5_secondOf_0 : decode cX5_secondOf 0 = .ok (.iload_n 1, 1) := by decide +kernel
theorem dX5_secondOf_1 : decode cX5_secondOf 1 = .ok (.ifCond .lt 20, 3) := by decide +kernel
theorem dX5_secondOf_4 : decode cX5_secondOf 4 = .ok (.iload_n 1, 1) := by decide +kernel
theorem dX5_secondOf_5 : decode cX5_secondOf 5 = .ok (.aload_n 0, 1) := by decide +kernel
theorem dX5_secondOf_6 : decode cX5_secondOf 6 = .ok (.getfield 28, 3) := by decide +kernel
theorem dX5_secondOf_9 : decode cX5_secondOf 9 = .ok (.if_icmp .ge 12, 3) := by decide +kernel
theorem dX5_secondOf_12 : decode cX5_secondOf 12 = .ok (.aload_n 0, 1) := by decide +kernel
theorem dX5_secondOf_13 : decode cX5_secondOf 13 = .ok (.getfield 21, 3) := by decide +kernel
theorem dX5_secondOf_16 : decode cX5_secondOf 16 = .ok (.iload_n 1, 1) := by decide +kernel
theorem dX5_secondOf_17 : decode cX5_secondOf 17 = .ok (.iaload, 1) := by decide +kernel
theorem dX5_secondOf_18 : decode cX5_secondOf 18 = .ok (.goto 4, 3) := by decide +kernel
theorem dX5_secondOf_21 : decode cX5_secondOf 21 = .ok (.iconst (-1), 1) := by decide +kernel
theorem dX5_secondOf_22 : decode cX5_secondOf 22 = .ok (.ireturn, 1) := by decide +kernel
set_option maxRecDepth 20000 in
theorem ggX5_parse_X5_skipBlanks : GoodIn wsX5_parse wsX5_skipBlanks := goodIn_r _ [8, 2, 3, 9, 10, 11, 7, 12, 13, 122, 123, 124, 125, 126, 127, 128] (by decide +kernel) (by decide +kernel)
set_option maxRecDepth 20000 in
theorem gX5_parse_X5_skipBlanks : GoodIn wsX5_parse (wsV RX5 34 RX5 yX5_skipBlanks wsX5_skipBlanks) := goodIn_app (goodIn_of _ (by decide +kernel)) ggX5_parse_X5_skipBlanks
set_option maxRecDepth 20000 in
theorem ggX5_parse_X5_parseOrder : GoodIn wsX5_parse wsX5_parseOrder := goodIn_r _ [17, 2, 9, 10, 11, 7, 12, 3, 13, 18, 19, 20, 21, 22, 23, 24, 25, 26, 27, 28, 29, 30, 31, 32, 33, 34, 35, 36, 37, 38, 39, 40, 41, 42, 43, 44, 45, 46, 47, 48, 49, 50, 51, 52, 53, 54, 55, 56, 57, 58, 59, 60, 61, 62, 63, 64, 65, 66, 67, 68, 69, 70, 71, 72, 73, 74, 75, 76, 77, 78, 79, 80, 81, 82, 83, 84, 85, 86, 87, 88, 89, 90, 91, 92, 93, 94, 95, 96, 97, 98, 99, 100, 101, 102, 103, 104, 105, 106, 4, 5, 6, 8, 107, 108, 109, 110, 111, 112, 113, 114, 115, 116, 117, 118, 1, 119, 120, 121, 122, 123, 124, 125, 126, 127, 128] (by decide +kernel) (by decide +kernel)
set_option maxRecDepth 20000 in
theorem gX5_parse_X5_parseOrder : GoodIn wsX5_parse (wsV RX5 37 RX5 yX5_parseOrder wsX5_parseOrder) := goodIn_app (goodIn_of _ (by decide +kernel)) ggX5_parse_X5_parseOrder
theorem dX5_parse_0 : decode cX5_parse 0 = .ok (.aload_n 0, 1) := by decide +kernel
theorem dX5_parse_1 : decode cX5_parse 1 = .ok (.iconst 0, 1) := by decide +kernel
theorem dX5_parse_2 : decode cX5_parse 2 = .ok (.putfield 28, 3) := by decide +kernel
theorem dX5_parse_5 : decode cX5_parse 5 = .ok (.aload_n 0, 1) := by decide +kernel
theorem dX5_parse_6 : decode cX5_parse 6 = .ok (.iconst 0, 1) := by decide +kernel
theorem dX5_parse_7 : decode cX5_parse 7 = .ok (.putfield 31, 3) := by decide +kernel
theorem dX5_parse_10 : decode cX5_parse 10 = .ok (.aload_n 0, 1) := by decide +kernel
theorem dX5_parse_11 : decode cX5_parse 11 = .ok (.invokevirtual 34, 3) := by decide +kernel
theorem dX5_parse_14 : decode cX5_parse 14 = .ok (.iconst 0, 1) := by decide +kernel
theorem dX5_parse_15 : decode cX5_parse 15 = .ok (.istore_n 1, 1) := by decide +kernel
theorem dX5_parse_16 : decode cX5_parse 16 = .ok (.iload_n 1, 1) := by decide +kernel
theorem dX5_parse_17 : decode cX5_parse 17 = .ok (.bipush 50, 2) := by decide +kernel
theorem dX5_parse_19 : decode cX5_parse 19 = .ok (.if_icmp .ge 38, 3) := by decide +kernel
theorem dX5_parse_22 : decode cX5_parse 22 = .ok (.aload_n 0, 1) := by decide +kernel
theorem dX5_parse_23 : decode cX5_parse 23 = .ok (.invokevirtual 37, 3) := by decide +kernel
theorem dX5_parse_26 : decode cX5_parse 26 = .ok (.ifCond .ne 8, 3) := by decide +kernel
theorem dX5_parse_29 : decode cX5_parse 29 = .ok (.aload_n 0, 1) := by decide +kernel
theorem dX5_parse_30 : decode cX5_parse 30 = .ok (.getfield 31, 3) := by decide +kernel
theorem dX5_parse_33 : decode cX5_parse 33 = .ok (.ireturn, 1) := by decide +kernel
theorem dX5_parse_34 : decode cX5_parse 34 = .ok (.aload_n 0, 1) := by decide +kernel
theorem dX5_parse_35 : decode cX5_parse 35 = .ok (.invokevirtual 34, 3) := by decide +kernel
theorem dX5_parse_38 : decode cX5_parse 38 = .ok (.aload_n 0, 1) := by decide +kernel
theorem dX5_parse_39 : decode cX5_parse 39 = .ok (.getfield 31, 3) := by decide +kernel
theorem dX5_parse_42 : decode cX5_parse 42 = .ok (.aload_n 0, 1) := by decide +kernel
theorem dX5_parse_43 : decode cX5_parse 43 = .ok (.getfield 24, 3) := by decide +kernel
theorem dX5_parse_46 : decode cX5_parse 46 = .ok (.if_icmp .lt 5, 3) := by decide +kernel
theorem dX5_parse_49 : decode cX5_parse 49 = .ok (.iconst (-1), 1) := by decide +kernel
theorem dX5_parse_50 : decode cX5_parse 50 = .ok (.ireturn, 1) := by decide +kernel
theorem dX5_parse_51 : decode cX5_parse 51 = .ok (.iinc 1 1, 3) := by decide +kernel
theorem dX5_parse_54 : decode cX5_parse 54 = .ok (.goto (-38), 3) := by decide +kernel
theorem dX5_parse_57 : decode cX5_parse 57 = .ok (.aload_n 0, 1) := by decide +kernel
theorem dX5_parse_58 : decode cX5_parse 58 = .ok (.getfield 31, 3) := by decide +kernel
theorem dX5_parse_61 : decode cX5_parse 61 = .ok (.ireturn, 1) := by decide +kernel
set_option maxRecDepth 20000 in
theorem ggX5_parseOrder_X5_next : GoodIn wsX5_parseOrder wsX5_next := goodIn_r _ [6, 1, 7, 8, 118, 119, 120, 121, 122, 123, 124] (by decide +kernel) (by decide +kernel)
set_option maxRecDepth 20000 in
theorem gX5_parseOrder_X5_next : GoodIn wsX5_parseOrder (wsV RX5 41 RX5 yX5_next wsX5_next) := goodIn_app (goodIn_of _ (by decide +kernel)) ggX5_parseOrder_X5_next
set_option maxRecDepth 20000 in
theorem ggX5_parseOrder_J0_indexOf_0f7a4 : GoodIn wsX5_parseOrder wsJ0_indexOf_0f7a4 := goodIn_r _ [13, 14, 15, 16, 12, 17, 18, 19, 20, 21, 22, 23, 24, 25, 26, 27, 28, 29, 30, 31, 32, 33, 34, 35, 36, 37, 38, 39, 40, 41, 42, 43, 44, 45, 46, 47, 48, 49, 50, 51, 52, 53, 54, 55, 56, 57, 58, 59, 60, 61, 62, 63, 64, 65, 66, 67, 68, 69, 70, 71, 72, 73, 74, 75, 76, 77, 78, 79, 80, 81, 82, 83, 84, 85, 86, 87, 88, 89, 90, 91, 92, 93, 94, 95, 96, 97] (by decide +kernel) (by decide +kernel)
set_option maxRecDepth 20000 in
theorem gX5_parseOrder_J0_indexOf_0f7a4 : GoodIn wsX5_parseOrder (wsV RX5 47 RJ0 yJ0_indexOf_0f7a4 wsJ0_indexOf_0f7a4) := goodIn_app (goodIn_of _ (by decide +kernel)) ggX5_parseOrder_J0_indexOf_0f7a4
set_option maxRecDepth 20000 in
theorem ggX5_parseOrder_X5_skipBlanks : GoodIn wsX5_parseOrder wsX5_skipBlanks := goodIn_r _ [101, 1, 7, 2, 3, 4, 5, 6, 8, 118, 119, 120, 121, 122, 123, 124] (by decide +kernel) (by decide +kernel)
set_option maxRecDepth 20000 in
theorem gX5_parseOrder_X5_skipBlanks : GoodIn wsX5_parseOrder (wsV RX5 34 RX5 yX5_skipBlanks wsX5_skipBlanks) := goodIn_app (goodIn_of _ (by decide +kernel)) ggX5_parseOrder_X5_skipBlanks
set_option maxRecDepth 20000 in
theorem ggX5_parseOrder_X5_parseNumber : GoodIn wsX5_parseOrder wsX5_parseNumber := goodIn_r _ [105, 1, 106, 107, 108, 5, 109, 2, 3, 4, 6, 7, 8, 118, 119, 120, 121, 122, 123, 124] (by decide +kernel) (by decide +kernel)
set_option maxRecDepth 20000 in
theorem gX5_parseOrder_X5_parseNumber : GoodIn wsX5_parseOrder (wsV RX5 53 RX5 yX5_parseNumber wsX5_parseNumber) := goodIn_app (goodIn_of _ (by decide +kernel)) ggX5_parseOrder_X5_parseNumber
set_option maxRecDepth 20000 in
theorem ggX5_parseOrder_X5_addOrder : GoodIn wsX5_parseOrder wsX5_addOrder := goodIn_r _ [113, 114, 115, 116, 117, 118, 119, 120, 121, 122, 123, 124] (by decide +kernel) (by decide +kernel)
set_option maxRecDepth 20000 in
theorem gX5_parseOrder_X5_addOrder : GoodIn wsX5_parseOrder (wsV RX5 56 RX5 yX5_addOrder wsX5_addOrder) := goodIn_app (goodIn_of _ (by decide +kernel)) ggX5_parseOrder_X5_addOrder
theorem dX5_parseOrder_0 : decode cX5_parseOrder 0 = .ok (.aload_n 0, 1) := by decide +kernel
theorem dX5_parseOrder_1 : decode cX5_parseOrder 1 = .ok (.invokevirtual 41, 3) := by decide +kernel
theorem dX5_parseOrder_4 : decode cX5_parseOrder 4 = .ok (.ifCond .ge 7, 3) := by decide +kernel
theorem dX5_parseOrder_7 : decode cX5_parseOrder 7 = .ok (.iconst (-1), 1) := by decide +kernel
theorem dX5_parseOrder_8 : decode cX5_parseOrder 8 = .ok (.goto 13, 3) := by decide +kernel
theorem dX5_parseOrder_11 : decode cX5_parseOrder 11 = .ok (.ldc 45, 2) := by decide +kernel
theorem dX5_parseOrder_13 : decode cX5_parseOrder 13 = .ok (.aload_n 0, 1) := by decide +kernel
