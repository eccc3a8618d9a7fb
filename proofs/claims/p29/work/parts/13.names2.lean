theorem dX0_init_0 : decode cX0_init 0 = .ok (.aload_n 0, 1) := by decide +kernel
theorem dX0_init_1 : decode cX0_init 1 = .ok (.invokespecial 3, 3) := by decide +kernel
theorem dX0_init_4 : decode cX0_init 4 = .ok (.aload_n 0, 1) := by decide +kernel
theorem dX0_init_5 : decode cX0_init 5 = .ok (.aload_n 1, 1) := by decide +kernel
theorem dX0_init_6 : decode cX0_init 6 = .ok (.putfield 9, 3) := by decide +kernel
theorem dX0_init_9 : decode cX0_init 9 = .ok (.aload_n 0, 1) := by decide +kernel
theorem dX0_init_10 : decode cX0_init 10 = .ok (.aload_n 2, 1) := by decide +kernel
theorem dX0_init_11 : decode cX0_init 11 = .ok (.putfield 15, 3) := by decide +kernel
theorem dX0_init_14 : decode cX0_init 14 = .ok (.aload_n 0, 1) := by decide +kernel
theorem dX0_init_15 : decode cX0_init 15 = .ok (.aload_n 3, 1) := by decide +kernel
theorem dX0_init_16 : decode cX0_init 16 = .ok (.putfield 19, 3) := by decide +kernel
theorem dX0_init_19 : decode cX0_init 19 = .ok (.return_, 1) := by decide +kernel
set_option maxRecDepth 20000 in
theorem ggX0_wanted_X6_isGear : GoodIn wsX0_wanted wsX6_isGear := goodIn_r _ [5] (by decide +kernel) (by decide +kernel)
set_option maxRecDepth 20000 in
theorem gX0_wanted_X6_isGear_n23 : GoodIn wsX0_wanted (wsX6_isGear) := ggX0_wanted_X6_isGear
set_option maxRecDepth 20000 in
theorem ggX0_wanted_X1_nextFit : GoodIn wsX0_wanted wsX1_nextFit := goodIn_r _ [10, 11, 12, 13, 9, 14, 15, 19, 20, 21] (by decide +kernel) (by decide +kernel)
set_option maxRecDepth 20000 in
theorem gX0_wanted_X1_nextFit : GoodIn wsX0_wanted (wsV RX0 27 RX1 yX1_nextFit wsX1_nextFit) := goodIn_app (goodIn_of _ (by decide +kernel)) ggX0_wanted_X1_nextFit
theorem dX0_wanted_0 : decode cX0_wanted 0 = .ok (.aload_n 0, 1) := by decide +kernel
theorem dX0_wanted_1 : decode cX0_wanted 1 = .ok (.getfield 9, 3) := by decide +kernel
theorem dX0_wanted_4 : decode cX0_wanted 4 = .ok (.bipush 39, 2) := by decide +kernel
theorem dX0_wanted_6 : decode cX0_wanted 6 = .ok (.iaload, 1) := by decide +kernel
theorem dX0_wanted_7 : decode cX0_wanted 7 = .ok (.istore_n 2, 1) := by decide +kernel
theorem dX0_wanted_8 : decode cX0_wanted 8 = .ok (.iload_n 2, 1) := by decide +kernel
theorem dX0_wanted_9 : decode cX0_wanted 9 = .ok (.invokestatic 23, 3) := by decide +kernel
theorem dX0_wanted_12 : decode cX0_wanted 12 = .ok (.ifCond .ne 13, 3) := by decide +kernel
theorem dX0_wanted_15 : decode cX0_wanted 15 = .ok (.aload_n 0, 1) := by decide +kernel
theorem dX0_wanted_16 : decode cX0_wanted 16 = .ok (.getfield 15, 3) := by decide +kernel
theorem dX0_wanted_19 : decode cX0_wanted 19 = .ok (.iconst 0, 1) := by decide +kernel
theorem dX0_wanted_20 : decode cX0_wanted 20 = .ok (.iconst 1, 1) := by decide +kernel
theorem dX0_wanted_21 : decode cX0_wanted 21 = .ok (.invokevirtual 27, 3) := by decide +kernel
theorem dX0_wanted_24 : decode cX0_wanted 24 = .ok (.ireturn, 1) := by decide +kernel
theorem dX0_wanted_25 : decode cX0_wanted 25 = .ok (.iconst 5, 1) := by decide +kernel
theorem dX0_wanted_26 : decode cX0_wanted 26 = .ok (.aload_n 0, 1) := by decide +kernel
theorem dX0_wanted_27 : decode cX0_wanted 27 = .ok (.getfield 9, 3) := by decide +kernel
theorem dX0_wanted_30 : decode cX0_wanted 30 = .ok (.bipush 47, 2) := by decide +kernel
theorem dX0_wanted_32 : decode cX0_wanted 32 = .ok (.iaload, 1) := by decide +kernel
theorem dX0_wanted_33 : decode cX0_wanted 33 = .ok (.iconst 3, 1) := by decide +kernel
theorem dX0_wanted_34 : decode cX0_wanted 34 = .ok (.isub, 1) := by decide +kernel
theorem dX0_wanted_35 : decode cX0_wanted 35 = .ok (.imul, 1) := by decide +kernel
theorem dX0_wanted_36 : decode cX0_wanted 36 = .ok (.bipush 10, 2) := by decide +kernel
theorem dX0_wanted_38 : decode cX0_wanted 38 = .ok (.aload_n 0, 1) := by decide +kernel
theorem dX0_wanted_39 : decode cX0_wanted 39 = .ok (.getfield 9, 3) := by decide +kernel
theorem dX0_wanted_42 : decode cX0_wanted 42 = .ok (.bipush 48, 2) := by decide +kernel
theorem dX0_wanted_44 : decode cX0_wanted 44 = .ok (.iaload, 1) := by decide +kernel
theorem dX0_wanted_45 : decode cX0_wanted 45 = .ok (.imul, 1) := by decide +kernel
theorem dX0_wanted_46 : decode cX0_wanted 46 = .ok (.iadd, 1) := by decide +kernel
theorem dX0_wanted_47 : decode cX0_wanted 47 = .ok (.istore_n 3, 1) := by decide +kernel
theorem dX0_wanted_48 : decode cX0_wanted 48 = .ok (.iload_n 1, 1) := by decide +kernel
theorem dX0_wanted_49 : decode cX0_wanted 49 = .ok (.aload_n 0, 1) := by decide +kernel
theorem dX0_wanted_50 : decode cX0_wanted 50 = .ok (.getfield 9, 3) := by decide +kernel
theorem dX0_wanted_53 : decode cX0_wanted 53 = .ok (.bipush 8, 2) := by decide +kernel
theorem dX0_wanted_55 : decode cX0_wanted 55 = .ok (.iload_n 2, 1) := by decide +kernel
theorem dX0_wanted_56 : decode cX0_wanted 56 = .ok (.iadd, 1) := by decide +kernel
theorem dX0_wanted_57 : decode cX0_wanted 57 = .ok (.iaload, 1) := by decide +kernel
theorem dX0_wanted_58 : decode cX0_wanted 58 = .ok (.iload_n 3, 1) := by decide +kernel
theorem dX0_wanted_59 : decode cX0_wanted 59 = .ok (.iadd, 1) := by decide +kernel
theorem dX0_wanted_60 : decode cX0_wanted 60 = .ok (.if_icmp .lt 15, 3) := by decide +kernel
theorem dX0_wanted_63 : decode cX0_wanted 63 = .ok (.aload_n 0, 1) := by decide +kernel
theorem dX0_wanted_64 : decode cX0_wanted 64 = .ok (.getfield 15, 3) := by decide +kernel
theorem dX0_wanted_67 : decode cX0_wanted 67 = .ok (.iload_n 2, 1) := by decide +kernel
theorem dX0_wanted_68 : decode cX0_wanted 68 = .ok (.iconst 1, 1) := by decide +kernel
theorem dX0_wanted_69 : decode cX0_wanted 69 = .ok (.invokevirtual 27, 3) := by decide +kernel
theorem dX0_wanted_72 : decode cX0_wanted 72 = .ok (.goto 4, 3) := by decide +kernel
theorem dX0_wanted_75 : decode cX0_wanted 75 = .ok (.iconst 0, 1) := by decide +kernel
theorem dX0_wanted_76 : decode cX0_wanted 76 = .ok (.istore 4, 2) := by decide +kernel
theorem dX0_wanted_78 : decode cX0_wanted 78 = .ok (.iload 4, 2) := by decide +kernel
theorem dX0_wanted_80 : decode cX0_wanted 80 = .ok (.ifCond .eq 6, 3) := by decide +kernel
theorem dX0_wanted_83 : decode cX0_wanted 83 = .ok (.iload 4, 2) := by decide +kernel
theorem dX0_wanted_85 : decode cX0_wanted 85 = .ok (.ireturn, 1) := by decide +kernel
theorem dX0_wanted_86 : decode cX0_wanted 86 = .ok (.iload_n 1, 1) := by decide +kernel
theorem dX0_wanted_87 : decode cX0_wanted 87 = .ok (.aload_n 0, 1) := by decide +kernel
theorem dX0_wanted_88 : decode cX0_wanted 88 = .ok (.getfield 9, 3) := by decide +kernel
theorem dX0_wanted_91 : decode cX0_wanted 91 = .ok (.bipush 16, 2) := by decide +kernel
theorem dX0_wanted_93 : decode cX0_wanted 93 = .ok (.iload_n 2, 1) := by decide +kernel
theorem dX0_wanted_94 : decode cX0_wanted 94 = .ok (.iadd, 1) := by decide +kernel
theorem dX0_wanted_95 : decode cX0_wanted 95 = .ok (.iaload, 1) := by decide +kernel
theorem dX0_wanted_96 : decode cX0_wanted 96 = .ok (.iload_n 3, 1) := by decide +kernel
theorem dX0_wanted_97 : decode cX0_wanted 97 = .ok (.iadd, 1) := by decide +kernel
theorem dX0_wanted_98 : decode cX0_wanted 98 = .ok (.if_icmp .ge 15, 3) := by decide +kernel
theorem dX0_wanted_101 : decode cX0_wanted 101 = .ok (.aload_n 0, 1) := by decide +kernel
theorem dX0_wanted_102 : decode cX0_wanted 102 = .ok (.getfield 15, 3) := by decide +kernel
theorem dX0_wanted_105 : decode cX0_wanted 105 = .ok (.iload_n 2, 1) := by decide +kernel
theorem dX0_wanted_106 : decode cX0_wanted 106 = .ok (.iconst (-1), 1) := by decide +kernel
theorem dX0_wanted_107 : decode cX0_wanted 107 = .ok (.invokevirtual 27, 3) := by decide +kernel
theorem dX0_wanted_110 : decode cX0_wanted 110 = .ok (.goto 4, 3) := by decide +kernel
theorem dX0_wanted_113 : decode cX0_wanted 113 = .ok (.iconst 0, 1) := by decide +kernel
theorem dX0_wanted_114 : decode cX0_wanted 114 = .ok (.istore 5, 2) := by decide +kernel
theorem dX0_wanted_116 : decode cX0_wanted 116 = .ok (.iload 5, 2) := by decide +kernel
theorem dX0_wanted_118 : decode cX0_wanted 118 = .ok (.ifCond .eq 8, 3) := by decide +kernel
theorem dX0_wanted_121 : decode cX0_wanted 121 = .ok (.iload 5, 2) := by decide +kernel
theorem dX0_wanted_123 : decode cX0_wanted 123 = .ok (.goto 4, 3) := by decide +kernel
theorem dX0_wanted_126 : decode cX0_wanted 126 = .ok (.iload_n 2, 1) := by decide +kernel
theorem dX0_wanted_127 : decode cX0_wanted 127 = .ok (.ireturn, 1) := by decide +kernel
set_option maxRecDepth 20000 in
theorem ggX0_ticks_X0_wanted : GoodIn wsX0_ticks wsX0_wanted := goodIn_r _ [12, 1, 6, 13, 14, 15, 16, 17, 18, 19, 20, 21, 22, 23, 24, 25, 95, 96, 97, 98, 99, 100] (by decide +kernel) (by decide +kernel)
set_option maxRecDepth 20000 in
theorem gX0_ticks_X0_wanted : GoodIn wsX0_ticks (wsV RX0 38 RX0 yX0_wanted wsX0_wanted) := goodIn_app (goodIn_of _ (by decide +kernel)) ggX0_ticks_X0_wanted
set_option maxRecDepth 20000 in
theorem ggX0_ticks_X1_findWay : GoodIn wsX0_ticks wsX1_findWay := goodIn_r _ [29, 30, 31, 3, 4, 5, 32, 33, 34, 35, 19, 36, 21, 22, 23, 24, 25, 37, 38, 39, 40, 41, 42, 43, 44, 45, 46, 47, 48, 49, 50, 13, 14, 15, 98, 99, 100] (by decide +kernel) (by decide +kernel)
set_option maxRecDepth 20000 in
theorem gX0_ticks_X1_findWay : GoodIn wsX0_ticks (wsV RX0 42 RX1 yX1_findWay wsX1_findWay) := goodIn_app (goodIn_of _ (by decide +kernel)) ggX0_ticks_X1_findWay
set_option maxRecDepth 20000 in
theorem ggX0_ticks_X1_onWay : GoodIn wsX0_ticks wsX1_onWay := goodIn_r _ [54, 32, 98, 99, 100] (by decide +kernel) (by decide +kernel)
set_option maxRecDepth 20000 in
theorem gX0_ticks_X1_onWay : GoodIn wsX0_ticks (wsV RX0 45 RX1 yX1_onWay wsX1_onWay) := goodIn_app (goodIn_of _ (by decide +kernel)) ggX0_ticks_X1_onWay
set_option maxRecDepth 20000 in
theorem ggX0_ticks_X1_coming : GoodIn wsX0_ticks wsX1_coming := goodIn_r _ [58, 25, 59, 60, 61, 19, 62, 21, 22, 23, 24, 41, 42, 43, 44, 45, 46, 47, 48, 49, 50, 63, 64, 65, 66, 98, 99, 100] (by decide +kernel) (by decide +kernel)
set_option maxRecDepth 20000 in
theorem gX0_ticks_X1_coming : GoodIn wsX0_ticks (wsV RX0 48 RX1 yX1_coming wsX1_coming) := goodIn_app (goodIn_of _ (by decide +kernel)) ggX0_ticks_X1_coming
set_option maxRecDepth 20000 in
theorem ggX0_ticks_X3_learn : GoodIn wsX0_ticks wsX3_learn := goodIn_r _ [71, 72, 73, 74, 4, 75, 76, 3, 5, 77, 14, 78, 79, 80, 81, 70, 82, 83, 84, 85, 86, 87, 88, 89, 90, 101] (by decide +kernel) (by decide +kernel)
set_option maxRecDepth 20000 in
theorem gX0_ticks_X3_learn : GoodIn wsX0_ticks (wsV RX0 51 RX3 yX3_learn wsX3_learn) := goodIn_app (goodIn_of _ (by decide +kernel)) ggX0_ticks_X3_learn
set_option maxRecDepth 20000 in
theorem ggX0_ticks_X0_noteTurn : GoodIn wsX0_ticks wsX0_noteTurn := goodIn_r _ [94, 1, 95, 96, 97] (by decide +kernel) (by decide +kernel)
set_option maxRecDepth 20000 in
theorem gX0_ticks_X0_noteTurn : GoodIn wsX0_ticks (wsV RX0 57 RX0 yX0_noteTurn wsX0_noteTurn) := goodIn_app (goodIn_of _ (by decide +kernel)) ggX0_ticks_X0_noteTurn
theorem dX0_ticks_0 : decode cX0_ticks 0 = .ok (.iconst 0, 1) := by decide +kernel
theorem dX0_ticks_1 : decode cX0_ticks 1 = .ok (.istore_n 3, 1) := by decide +kernel
theorem dX0_ticks_2 : decode cX0_ticks 2 = .ok (.iload_n 3, 1) := by decide +kernel
theorem dX0_ticks_3 : decode cX0_ticks 3 = .ok (.iload_n 2, 1) := by decide +kernel
theorem dX0_ticks_4 : decode cX0_ticks 4 = .ok (.if_icmp .ge 175, 3) := by decide +kernel
theorem dX0_ticks_7 : decode cX0_ticks 7 = .ok (.aload_n 0, 1) := by decide +kernel
theorem dX0_ticks_8 : decode cX0_ticks 8 = .ok (.getfield 9, 3) := by decide +kernel
theorem dX0_ticks_11 : decode cX0_ticks 11 = .ok (.bipush 40, 2) := by decide +kernel
theorem dX0_ticks_13 : decode cX0_ticks 13 = .ok (.dup2, 1) := by decide +kernel
theorem dX0_ticks_14 : decode cX0_ticks 14 = .ok (.iaload, 1) := by decide +kernel
theorem dX0_ticks_15 : decode cX0_ticks 15 = .ok (.iconst 1, 1) := by decide +kernel
theorem dX0_ticks_16 : decode cX0_ticks 16 = .ok (.iadd, 1) := by decide +kernel
theorem dX0_ticks_17 : decode cX0_ticks 17 = .ok (.iastore, 1) := by decide +kernel
theorem dX0_ticks_18 : decode cX0_ticks 18 = .ok (.aload_n 0, 1) := by decide +kernel
theorem dX0_ticks_19 : decode cX0_ticks 19 = .ok (.getfield 9, 3) := by decide +kernel
theorem dX0_ticks_22 : decode cX0_ticks 22 = .ok (.bipush 41, 2) := by decide +kernel
theorem dX0_ticks_24 : decode cX0_ticks 24 = .ok (.iconst 0, 1) := by decide +kernel
theorem dX0_ticks_25 : decode cX0_ticks 25 = .ok (.aload_n 0, 1) := by decide +kernel
theorem dX0_ticks_26 : decode cX0_ticks 26 = .ok (.getfield 9, 3) := by decide +kernel
theorem dX0_ticks_29 : decode cX0_ticks 29 = .ok (.bipush 41, 2) := by decide +kernel
theorem dX0_ticks_31 : decode cX0_ticks 31 = .ok (.iaload, 1) := by decide +kernel
theorem dX0_ticks_32 : decode cX0_ticks 32 = .ok (.iconst 1, 1) := by decide +kernel
theorem dX0_ticks_33 : decode cX0_ticks 33 = .ok (.isub, 1) := by decide +kernel
theorem dX0_ticks_34 : decode cX0_ticks 34 = .ok (.invokestatic 33, 3) := by decide +kernel
theorem dX0_ticks_37 : decode cX0_ticks 37 = .ok (.iastore, 1) := by decide +kernel
theorem dX0_ticks_38 : decode cX0_ticks 38 = .ok (.aload_n 0, 1) := by decide +kernel
theorem dX0_ticks_39 : decode cX0_ticks 39 = .ok (.getfield 9, 3) := by decide +kernel
theorem dX0_ticks_42 : decode cX0_ticks 42 = .ok (.bipush 39, 2) := by decide +kernel
theorem dX0_ticks_44 : decode cX0_ticks 44 = .ok (.iaload, 1) := by decide +kernel
theorem dX0_ticks_45 : decode cX0_ticks 45 = .ok (.istore 4, 2) := by decide +kernel
theorem dX0_ticks_47 : decode cX0_ticks 47 = .ok (.aload_n 0, 1) := by decide +kernel
theorem dX0_ticks_48 : decode cX0_ticks 48 = .ok (.iload_n 1, 1) := by decide +kernel
theorem dX0_ticks_49 : decode cX0_ticks 49 = .ok (.invokevirtual 38, 3) := by decide +kernel
theorem dX0_ticks_52 : decode cX0_ticks 52 = .ok (.istore 5, 2) := by decide +kernel
theorem dX0_ticks_54 : decode cX0_ticks 54 = .ok (.iload 4, 2) := by decide +kernel
theorem dX0_ticks_56 : decode cX0_ticks 56 = .ok (.ifCond .ne 15, 3) := by decide +kernel
theorem dX0_ticks_59 : decode cX0_ticks 59 = .ok (.aload_n 0, 1) := by decide +kernel
theorem dX0_ticks_60 : decode cX0_ticks 60 = .ok (.getfield 9, 3) := by decide +kernel
theorem dX0_ticks_63 : decode cX0_ticks 63 = .ok (.bipush 39, 2) := by decide +kernel
theorem dX0_ticks_65 : decode cX0_ticks 65 = .ok (.iload 5, 2) := by decide +kernel
theorem dX0_ticks_67 : decode cX0_ticks 67 = .ok (.iastore, 1) := by decide +kernel
theorem dX0_ticks_68 : decode cX0_ticks 68 = .ok (.goto 105, 3) := by decide +kernel
theorem dX0_ticks_71 : decode cX0_ticks 71 = .ok (.iload 5, 2) := by decide +kernel
theorem dX0_ticks_73 : decode cX0_ticks 73 = .ok (.iload 4, 2) := by decide +kernel
theorem dX0_ticks_75 : decode cX0_ticks 75 = .ok (.if_icmp .lt 20, 3) := by decide +kernel
theorem dX0_ticks_78 : decode cX0_ticks 78 = .ok (.iload 5, 2) := by decide +kernel
theorem dX0_ticks_80 : decode cX0_ticks 80 = .ok (.iload 4, 2) := by decide +kernel
theorem dX0_ticks_82 : decode cX0_ticks 82 = .ok (.if_icmp .le 91, 3) := by decide +kernel
theorem dX0_ticks_85 : decode cX0_ticks 85 = .ok (.aload_n 0, 1) := by decide +kernel
theorem dX0_ticks_86 : decode cX0_ticks 86 = .ok (.getfield 9, 3) := by decide +kernel
theorem dX0_ticks_89 : decode cX0_ticks 89 = .ok (.bipush 41, 2) := by decide +kernel
theorem dX0_ticks_91 : decode cX0_ticks 91 = .ok (.iaload, 1) := by decide +kernel
theorem dX0_ticks_92 : decode cX0_ticks 92 = .ok (.ifCond .ne 81, 3) := by decide +kernel
theorem dX0_ticks_95 : decode cX0_ticks 95 = .ok (.aload_n 0, 1) := by decide +kernel
theorem dX0_ticks_96 : decode cX0_ticks 96 = .ok (.getfield 15, 3) := by decide +kernel
theorem dX0_ticks_99 : decode cX0_ticks 99 = .ok (.iload 4, 2) := by decide +kernel
theorem dX0_ticks_101 : decode cX0_ticks 101 = .ok (.iload 5, 2) := by decide +kernel
theorem dX0_ticks_103 : decode cX0_ticks 103 = .ok (.invokevirtual 42, 3) := by decide +kernel
theorem dX0_ticks_106 : decode cX0_ticks 106 = .ok (.istore 6, 2) := by decide +kernel
theorem dX0_ticks_108 : decode cX0_ticks 108 = .ok (.iconst 0, 1) := by decide +kernel
theorem dX0_ticks_109 : decode cX0_ticks 109 = .ok (.istore 7, 2) := by decide +kernel
theorem dX0_ticks_111 : decode cX0_ticks 111 = .ok (.iload 7, 2) := by decide +kernel
theorem dX0_ticks_113 : decode cX0_ticks 113 = .ok (.iload 6, 2) := by decide +kernel
theorem dX0_ticks_115 : decode cX0_ticks 115 = .ok (.if_icmp .ge 52, 3) := by decide +kernel
theorem dX0_ticks_118 : decode cX0_ticks 118 = .ok (.aload_n 0, 1) := by decide +kernel
theorem dX0_ticks_119 : decode cX0_ticks 119 = .ok (.getfield 15, 3) := by decide +kernel
theorem dX0_ticks_122 : decode cX0_ticks 122 = .ok (.iload 7, 2) := by decide +kernel
theorem dX0_ticks_124 : decode cX0_ticks 124 = .ok (.invokevirtual 45, 3) := by decide +kernel
theorem dX0_ticks_127 : decode cX0_ticks 127 = .ok (.istore 8, 2) := by decide +kernel
theorem dX0_ticks_129 : decode cX0_ticks 129 = .ok (.aload_n 0, 1) := by decide +kernel
theorem dX0_ticks_130 : decode cX0_ticks 130 = .ok (.getfield 19, 3) := by decide +kernel
theorem dX0_ticks_133 : decode cX0_ticks 133 = .ok (.aload_n 0, 1) := by decide +kernel
theorem dX0_ticks_134 : decode cX0_ticks 134 = .ok (.getfield 15, 3) := by decide +kernel
theorem dX0_ticks_137 : decode cX0_ticks 137 = .ok (.aload_n 0, 1) := by decide +kernel
theorem dX0_ticks_138 : decode cX0_ticks 138 = .ok (.getfield 9, 3) := by decide +kernel
theorem dX0_ticks_141 : decode cX0_ticks 141 = .ok (.bipush 39, 2) := by decide +kernel
theorem dX0_ticks_143 : decode cX0_ticks 143 = .ok (.iaload, 1) := by decide +kernel
theorem dX0_ticks_144 : decode cX0_ticks 144 = .ok (.iload 8, 2) := by decide +kernel
theorem dX0_ticks_146 : decode cX0_ticks 146 = .ok (.invokevirtual 48, 3) := by decide +kernel
theorem dX0_ticks_149 : decode cX0_ticks 149 = .ok (.invokevirtual 51, 3) := by decide +kernel
theorem dX0_ticks_152 : decode cX0_ticks 152 = .ok (.aload_n 0, 1) := by decide +kernel
theorem dX0_ticks_153 : decode cX0_ticks 153 = .ok (.getfield 9, 3) := by decide +kernel
theorem dX0_ticks_156 : decode cX0_ticks 156 = .ok (.bipush 39, 2) := by decide +kernel
theorem dX0_ticks_158 : decode cX0_ticks 158 = .ok (.iload 8, 2) := by decide +kernel
theorem dX0_ticks_160 : decode cX0_ticks 160 = .ok (.iastore, 1) := by decide +kernel
theorem dX0_ticks_161 : decode cX0_ticks 161 = .ok (.iinc 7 1, 3) := by decide +kernel
theorem dX0_ticks_164 : decode cX0_ticks 164 = .ok (.goto (-53), 3) := by decide +kernel
theorem dX0_ticks_167 : decode cX0_ticks 167 = .ok (.aload_n 0, 1) := by decide +kernel
theorem dX0_ticks_168 : decode cX0_ticks 168 = .ok (.iload 4, 2) := by decide +kernel
theorem dX0_ticks_170 : decode cX0_ticks 170 = .ok (.invokevirtual 57, 3) := by decide +kernel
theorem dX0_ticks_173 : decode cX0_ticks 173 = .ok (.iinc 3 1, 3) := by decide +kernel
theorem dX0_ticks_176 : decode cX0_ticks 176 = .ok (.goto (-174), 3) := by decide +kernel
theorem dX0_ticks_179 : decode cX0_ticks 179 = .ok (.aload_n 0, 1) := by decide +kernel
theorem dX0_ticks_180 : decode cX0_ticks 180 = .ok (.getfield 9, 3) := by decide +kernel
theorem dX0_ticks_183 : decode cX0_ticks 183 = .ok (.bipush 39, 2) := by decide +kernel
theorem dX0_ticks_185 : decode cX0_ticks 185 = .ok (.iaload, 1) := by decide +kernel
theorem dX0_ticks_186 : decode cX0_ticks 186 = .ok (.ireturn, 1) := by decide +kernel
theorem dX0_noteTurn_0 : decode cX0_noteTurn 0 = .ok (.aload_n 0, 1) := by decide +kernel
theorem dX0_noteTurn_1 : decode cX0_noteTurn 1 = .ok (.getfield 9, 3) := by decide +kernel
theorem dX0_noteTurn_4 : decode cX0_noteTurn 4 = .ok (.bipush 39, 2) := by decide +kernel
theorem dX0_noteTurn_6 : decode cX0_noteTurn 6 = .ok (.iaload, 1) := by decide +kernel
theorem dX0_noteTurn_7 : decode cX0_noteTurn 7 = .ok (.iload_n 1, 1) := by decide +kernel
theorem dX0_noteTurn_8 : decode cX0_noteTurn 8 = .ok (.if_icmp .le 20, 3) := by decide +kernel
theorem dX0_noteTurn_11 : decode cX0_noteTurn 11 = .ok (.aload_n 0, 1) := by decide +kernel
theorem dX0_noteTurn_12 : decode cX0_noteTurn 12 = .ok (.getfield 9, 3) := by decide +kernel
theorem dX0_noteTurn_15 : decode cX0_noteTurn 15 = .ok (.bipush 42, 2) := by decide +kernel
theorem dX0_noteTurn_17 : decode cX0_noteTurn 17 = .ok (.aload_n 0, 1) := by decide +kernel
theorem dX0_noteTurn_18 : decode cX0_noteTurn 18 = .ok (.getfield 9, 3) := by decide +kernel
theorem dX0_noteTurn_21 : decode cX0_noteTurn 21 = .ok (.bipush 40, 2) := by decide +kernel
theorem dX0_noteTurn_23 : decode cX0_noteTurn 23 = .ok (.iaload, 1) := by decide +kernel
theorem dX0_noteTurn_24 : decode cX0_noteTurn 24 = .ok (.iastore, 1) := by decide +kernel
theorem dX0_noteTurn_25 : decode cX0_noteTurn 25 = .ok (.goto 64, 3) := by decide +kernel
theorem dX0_noteTurn_28 : decode cX0_noteTurn 28 = .ok (.aload_n 0, 1) := by decide +kernel
theorem dX0_noteTurn_29 : decode cX0_noteTurn 29 = .ok (.getfield 9, 3) := by decide +kernel
theorem dX0_noteTurn_32 : decode cX0_noteTurn 32 = .ok (.bipush 39, 2) := by decide +kernel
theorem dX0_noteTurn_34 : decode cX0_noteTurn 34 = .ok (.iaload, 1) := by decide +kernel
theorem dX0_noteTurn_35 : decode cX0_noteTurn 35 = .ok (.iload_n 1, 1) := by decide +kernel
theorem dX0_noteTurn_36 : decode cX0_noteTurn 36 = .ok (.if_icmp .ge 53, 3) := by decide +kernel
theorem dX0_noteTurn_39 : decode cX0_noteTurn 39 = .ok (.aload_n 0, 1) := by decide +kernel
theorem dX0_noteTurn_40 : decode cX0_noteTurn 40 = .ok (.getfield 9, 3) := by decide +kernel
theorem dX0_noteTurn_43 : decode cX0_noteTurn 43 = .ok (.bipush 42, 2) := by decide +kernel
theorem dX0_noteTurn_45 : decode cX0_noteTurn 45 = .ok (.iaload, 1) := by decide +kernel
theorem dX0_noteTurn_46 : decode cX0_noteTurn 46 = .ok (.iconst (-1), 1) := by decide +kernel
theorem dX0_noteTurn_47 : decode cX0_noteTurn 47 = .ok (.if_icmp .eq 42, 3) := by decide +kernel
theorem dX0_noteTurn_50 : decode cX0_noteTurn 50 = .ok (.aload_n 0, 1) := by decide +kernel
theorem dX0_noteTurn_51 : decode cX0_noteTurn 51 = .ok (.getfield 9, 3) := by decide +kernel
theorem dX0_noteTurn_54 : decode cX0_noteTurn 54 = .ok (.bipush 40, 2) := by decide +kernel
theorem dX0_noteTurn_56 : decode cX0_noteTurn 56 = .ok (.iaload, 1) := by decide +kernel
theorem dX0_noteTurn_57 : decode cX0_noteTurn 57 = .ok (.aload_n 0, 1) := by decide +kernel
theorem dX0_noteTurn_58 : decode cX0_noteTurn 58 = .ok (.getfield 9, 3) := by decide +kernel
theorem dX0_noteTurn_61 : decode cX0_noteTurn 61 = .ok (.bipush 42, 2) := by decide +kernel
theorem dX0_noteTurn_63 : decode cX0_noteTurn 63 = .ok (.iaload, 1) := by decide +kernel
theorem dX0_noteTurn_64 : decode cX0_noteTurn 64 = .ok (.isub, 1) := by decide +kernel
theorem dX0_noteTurn_65 : decode cX0_noteTurn 65 = .ok (.iconst 5, 1) := by decide +kernel
theorem dX0_noteTurn_66 : decode cX0_noteTurn 66 = .ok (.if_icmp .gt 23, 3) := by decide +kernel
theorem dX0_noteTurn_69 : decode cX0_noteTurn 69 = .ok (.aload_n 0, 1) := by decide +kernel
theorem dX0_noteTurn_70 : decode cX0_noteTurn 70 = .ok (.getfield 9, 3) := by decide +kernel
theorem dX0_noteTurn_73 : decode cX0_noteTurn 73 = .ok (.bipush 46, 2) := by decide +kernel
theorem dX0_noteTurn_75 : decode cX0_noteTurn 75 = .ok (.dup2, 1) := by decide +kernel
theorem dX0_noteTurn_76 : decode cX0_noteTurn 76 = .ok (.iaload, 1) := by decide +kernel
theorem dX0_noteTurn_77 : decode cX0_noteTurn 77 = .ok (.iconst 1, 1) := by decide +kernel
theorem dX0_noteTurn_78 : decode cX0_noteTurn 78 = .ok (.iadd, 1) := by decide +kernel
theorem dX0_noteTurn_79 : decode cX0_noteTurn 79 = .ok (.iastore, 1) := by decide +kernel
theorem dX0_noteTurn_80 : decode cX0_noteTurn 80 = .ok (.aload_n 0, 1) := by decide +kernel
theorem dX0_noteTurn_81 : decode cX0_noteTurn 81 = .ok (.getfield 9, 3) := by decide +kernel
theorem dX0_noteTurn_84 : decode cX0_noteTurn 84 = .ok (.bipush 41, 2) := by decide +kernel
theorem dX0_noteTurn_86 : decode cX0_noteTurn 86 = .ok (.bipush 10, 2) := by decide +kernel
theorem dX0_noteTurn_88 : decode cX0_noteTurn 88 = .ok (.iastore, 1) := by decide +kernel
theorem dX0_noteTurn_89 : decode cX0_noteTurn 89 = .ok (.return_, 1) := by decide +kernel
theorem dX1_init_0 : decode cX1_init 0 = .ok (.aload_n 0, 1) := by decide +kernel
theorem dX1_init_1 : decode cX1_init 1 = .ok (.invokespecial 3, 3) := by decide +kernel
theorem dX1_init_4 : decode cX1_init 4 = .ok (.aload_n 0, 1) := by decide +kernel
theorem dX1_init_5 : decode cX1_init 5 = .ok (.bipush 8, 2) := by decide +kernel
theorem dX1_init_7 : decode cX1_init 7 = .ok (.newarray .int, 2) := by decide +kernel
theorem dX1_init_9 : decode cX1_init 9 = .ok (.putfield 9, 3) := by decide +kernel
theorem dX1_init_12 : decode cX1_init 12 = .ok (.aload_n 0, 1) := by decide +kernel
theorem dX1_init_13 : decode cX1_init 13 = .ok (.bipush 7, 2) := by decide +kernel
theorem dX1_init_15 : decode cX1_init 15 = .ok (.newarray .int, 2) := by decide +kernel
theorem dX1_init_17 : decode cX1_init 17 = .ok (.putfield 15, 3) := by decide +kernel
theorem dX1_init_20 : decode cX1_init 20 = .ok (.aload_n 0, 1) := by decide +kernel
theorem dX1_init_21 : decode cX1_init 21 = .ok (.aload_n 1, 1) := by decide +kernel
theorem dX1_init_22 : decode cX1_init 22 = .ok (.putfield 18, 3) := by decide +kernel
theorem dX1_init_25 : decode cX1_init 25 = .ok (.return_, 1) := by decide +kernel
theorem dX1_isFit_0 : decode cX1_isFit 0 = .ok (.iload_n 1, 1) := by decide +kernel
theorem dX1_isFit_1 : decode cX1_isFit 1 = .ok (.iconst 1, 1) := by decide +kernel
theorem dX1_isFit_2 : decode cX1_isFit 2 = .ok (.if_icmp .lt 20, 3) := by decide +kernel
theorem dX1_isFit_5 : decode cX1_isFit 5 = .ok (.iload_n 1, 1) := by decide +kernel
theorem dX1_isFit_6 : decode cX1_isFit 6 = .ok (.bipush 7, 2) := by decide +kernel
theorem dX1_isFit_8 : decode cX1_isFit 8 = .ok (.if_icmp .gt 14, 3) := by decide +kernel
theorem dX1_isFit_11 : decode cX1_isFit 11 = .ok (.aload_n 0, 1) := by decide +kernel
theorem dX1_isFit_12 : decode cX1_isFit 12 = .ok (.getfield 18, 3) := by decide +kernel
theorem dX1_isFit_15 : decode cX1_isFit 15 = .ok (.iconst 0, 1) := by decide +kernel
theorem dX1_isFit_16 : decode cX1_isFit 16 = .ok (.iload_n 1, 1) := by decide +kernel
theorem dX1_isFit_17 : decode cX1_isFit 17 = .ok (.iadd, 1) := by decide +kernel
theorem dX1_isFit_18 : decode cX1_isFit 18 = .ok (.iaload, 1) := by decide +kernel
theorem dX1_isFit_19 : decode cX1_isFit 19 = .ok (.ifCond .ne 5, 3) := by decide +kernel
theorem dX1_isFit_22 : decode cX1_isFit 22 = .ok (.iconst 0, 1) := by decide +kernel
theorem dX1_isFit_23 : decode cX1_isFit 23 = .ok (.ireturn, 1) := by decide +kernel
theorem dX1_isFit_24 : decode cX1_isFit 24 = .ok (.iconst 0, 1) := by decide +kernel
theorem dX1_isFit_25 : decode cX1_isFit 25 = .ok (.istore_n 2, 1) := by decide +kernel
theorem dX1_isFit_26 : decode cX1_isFit 26 = .ok (.iload_n 2, 1) := by decide +kernel
theorem dX1_isFit_27 : decode cX1_isFit 27 = .ok (.iconst 5, 1) := by decide +kernel
theorem dX1_isFit_28 : decode cX1_isFit 28 = .ok (.if_icmp .ge 54, 3) := by decide +kernel
theorem dX1_isFit_31 : decode cX1_isFit 31 = .ok (.aload_n 0, 1) := by decide +kernel
theorem dX1_isFit_32 : decode cX1_isFit 32 = .ok (.getfield 18, 3) := by decide +kernel
theorem dX1_isFit_35 : decode cX1_isFit 35 = .ok (.iconst 0, 1) := by decide +kernel
theorem dX1_isFit_36 : decode cX1_isFit 36 = .ok (.iload_n 1, 1) := by decide +kernel
theorem dX1_isFit_37 : decode cX1_isFit 37 = .ok (.iadd, 1) := by decide +kernel
theorem dX1_isFit_38 : decode cX1_isFit 38 = .ok (.iaload, 1) := by decide +kernel
theorem dX1_isFit_39 : decode cX1_isFit 39 = .ok (.iload_n 2, 1) := by decide +kernel
theorem dX1_isFit_40 : decode cX1_isFit 40 = .ok (.ishr, 1) := by decide +kernel
theorem dX1_isFit_41 : decode cX1_isFit 41 = .ok (.iconst 1, 1) := by decide +kernel
theorem dX1_isFit_42 : decode cX1_isFit 42 = .ok (.iand, 1) := by decide +kernel
theorem dX1_isFit_43 : decode cX1_isFit 43 = .ok (.iconst 1, 1) := by decide +kernel
theorem dX1_isFit_44 : decode cX1_isFit 44 = .ok (.if_icmp .ne 7, 3) := by decide +kernel
theorem dX1_isFit_47 : decode cX1_isFit 47 = .ok (.iconst 1, 1) := by decide +kernel
theorem dX1_isFit_48 : decode cX1_isFit 48 = .ok (.goto 4, 3) := by decide +kernel
theorem dX1_isFit_51 : decode cX1_isFit 51 = .ok (.iconst 0, 1) := by decide +kernel
theorem dX1_isFit_52 : decode cX1_isFit 52 = .ok (.istore_n 3, 1) := by decide +kernel
theorem dX1_isFit_53 : decode cX1_isFit 53 = .ok (.aload_n 0, 1) := by decide +kernel
theorem dX1_isFit_54 : decode cX1_isFit 54 = .ok (.getfield 18, 3) := by decide +kernel
theorem dX1_isFit_57 : decode cX1_isFit 57 = .ok (.bipush 24, 2) := by decide +kernel
theorem dX1_isFit_59 : decode cX1_isFit 59 = .ok (.iload_n 2, 1) := by decide +kernel
theorem dX1_isFit_60 : decode cX1_isFit 60 = .ok (.iadd, 1) := by decide +kernel
theorem dX1_isFit_61 : decode cX1_isFit 61 = .ok (.iaload, 1) := by decide +kernel
theorem dX1_isFit_62 : decode cX1_isFit 62 = .ok (.iload_n 3, 1) := by decide +kernel
theorem dX1_isFit_63 : decode cX1_isFit 63 = .ok (.ifCond .eq 7, 3) := by decide +kernel
theorem dX1_isFit_66 : decode cX1_isFit 66 = .ok (.iconst 1, 1) := by decide +kernel
theorem dX1_isFit_67 : decode cX1_isFit 67 = .ok (.goto 4, 3) := by decide +kernel
theorem dX1_isFit_70 : decode cX1_isFit 70 = .ok (.iconst 2, 1) := by decide +kernel
theorem dX1_isFit_71 : decode cX1_isFit 71 = .ok (.if_icmp .ne 5, 3) := by decide +kernel
theorem dX1_isFit_74 : decode cX1_isFit 74 = .ok (.iconst 0, 1) := by decide +kernel
theorem dX1_isFit_75 : decode cX1_isFit 75 = .ok (.ireturn, 1) := by decide +kernel
theorem dX1_isFit_76 : decode cX1_isFit 76 = .ok (.iinc 2 1, 3) := by decide +kernel
theorem dX1_isFit_79 : decode cX1_isFit 79 = .ok (.goto (-53), 3) := by decide +kernel
theorem dX1_isFit_82 : decode cX1_isFit 82 = .ok (.iconst 1, 1) := by decide +kernel
theorem dX1_isFit_83 : decode cX1_isFit 83 = .ok (.ireturn, 1) := by decide +kernel
set_option maxRecDepth 20000 in
theorem ggX1_fitBits_X1_isFit : GoodIn wsX1_fitBits wsX1_isFit := goodIn_r _ [5, 6, 7, 8, 9] (by decide +kernel) (by decide +kernel)
set_option maxRecDepth 20000 in
theorem gX1_fitBits_X1_isFit : GoodIn wsX1_fitBits (wsV RX1 21 RX1 yX1_isFit wsX1_isFit) := goodIn_app (goodIn_of _ (by decide +kernel)) ggX1_fitBits_X1_isFit
theorem dX1_fitBits_0 : decode cX1_fitBits 0 = .ok (.iconst 0, 1) := by decide +kernel
theorem dX1_fitBits_1 : decode cX1_fitBits 1 = .ok (.istore_n 1, 1) := by decide +kernel
theorem dX1_fitBits_2 : decode cX1_fitBits 2 = .ok (.iconst 1, 1) := by decide +kernel
theorem dX1_fitBits_3 : decode cX1_fitBits 3 = .ok (.istore_n 2, 1) := by decide +kernel
theorem dX1_fitBits_4 : decode cX1_fitBits 4 = .ok (.iload_n 2, 1) := by decide +kernel
theorem dX1_fitBits_5 : decode cX1_fitBits 5 = .ok (.bipush 7, 2) := by decide +kernel
theorem dX1_fitBits_7 : decode cX1_fitBits 7 = .ok (.if_icmp .gt 23, 3) := by decide +kernel
theorem dX1_fitBits_10 : decode cX1_fitBits 10 = .ok (.aload_n 0, 1) := by decide +kernel
theorem dX1_fitBits_11 : decode cX1_fitBits 11 = .ok (.iload_n 2, 1) := by decide +kernel
theorem dX1_fitBits_12 : decode cX1_fitBits 12 = .ok (.invokevirtual 21, 3) := by decide +kernel
theorem dX1_fitBits_15 : decode cX1_fitBits 15 = .ok (.ifCond .eq 9, 3) := by decide +kernel
theorem dX1_fitBits_18 : decode cX1_fitBits 18 = .ok (.iload_n 1, 1) := by decide +kernel
theorem dX1_fitBits_19 : decode cX1_fitBits 19 = .ok (.iconst 1, 1) := by decide +kernel
theorem dX1_fitBits_20 : decode cX1_fitBits 20 = .ok (.iload_n 2, 1) := by decide +kernel
theorem dX1_fitBits_21 : decode cX1_fitBits 21 = .ok (.ishl, 1) := by decide +kernel
theorem dX1_fitBits_22 : decode cX1_fitBits 22 = .ok (.ior, 1) := by decide +kernel
theorem dX1_fitBits_23 : decode cX1_fitBits 23 = .ok (.istore_n 1, 1) := by decide +kernel
theorem dX1_fitBits_24 : decode cX1_fitBits 24 = .ok (.iinc 2 1, 3) := by decide +kernel
theorem dX1_fitBits_27 : decode cX1_fitBits 27 = .ok (.goto (-23), 3) := by decide +kernel
theorem dX1_fitBits_30 : decode cX1_fitBits 30 = .ok (.iload_n 1, 1) := by decide +kernel
theorem dX1_fitBits_31 : decode cX1_fitBits 31 = .ok (.ireturn, 1) := by decide +kernel
set_option maxRecDepth 20000 in
theorem ggX1_nextFit_X1_isFit : GoodIn wsX1_nextFit wsX1_isFit := goodIn_r _ [5, 6, 7, 8, 9] (by decide +kernel) (by decide +kernel)
set_option maxRecDepth 20000 in
theorem gX1_nextFit_X1_isFit : GoodIn wsX1_nextFit (wsV RX1 21 RX1 yX1_isFit wsX1_isFit) := goodIn_app (goodIn_of _ (by decide +kernel)) ggX1_nextFit_X1_isFit
theorem dX1_nextFit_0 : decode cX1_nextFit 0 = .ok (.iload_n 1, 1) := by decide +kernel
theorem dX1_nextFit_1 : decode cX1_nextFit 1 = .ok (.istore_n 3, 1) := by decide +kernel
theorem dX1_nextFit_2 : decode cX1_nextFit 2 = .ok (.iconst 0, 1) := by decide +kernel
theorem dX1_nextFit_3 : decode cX1_nextFit 3 = .ok (.istore 4, 2) := by decide +kernel
theorem dX1_nextFit_5 : decode cX1_nextFit 5 = .ok (.iload 4, 2) := by decide +kernel
theorem dX1_nextFit_7 : decode cX1_nextFit 7 = .ok (.bipush 7, 2) := by decide +kernel
theorem dX1_nextFit_9 : decode cX1_nextFit 9 = .ok (.if_icmp .ge 23, 3) := by decide +kernel
theorem dX1_nextFit_12 : decode cX1_nextFit 12 = .ok (.iload_n 3, 1) := by decide +kernel
theorem dX1_nextFit_13 : decode cX1_nextFit 13 = .ok (.iload_n 2, 1) := by decide +kernel
theorem dX1_nextFit_14 : decode cX1_nextFit 14 = .ok (.iadd, 1) := by decide +kernel
theorem dX1_nextFit_15 : decode cX1_nextFit 15 = .ok (.istore_n 3, 1) := by decide +kernel
theorem dX1_nextFit_16 : decode cX1_nextFit 16 = .ok (.aload_n 0, 1) := by decide +kernel
theorem dX1_nextFit_17 : decode cX1_nextFit 17 = .ok (.iload_n 3, 1) := by decide +kernel
theorem dX1_nextFit_18 : decode cX1_nextFit 18 = .ok (.invokevirtual 21, 3) := by decide +kernel
theorem dX1_nextFit_21 : decode cX1_nextFit 21 = .ok (.ifCond .eq 5, 3) := by decide +kernel
theorem dX1_nextFit_24 : decode cX1_nextFit 24 = .ok (.iload_n 3, 1) := by decide +kernel
theorem dX1_nextFit_25 : decode cX1_nextFit 25 = .ok (.ireturn, 1) := by decide +kernel
theorem dX1_nextFit_26 : decode cX1_nextFit 26 = .ok (.iinc 4 1, 3) := by decide +kernel
theorem dX1_nextFit_29 : decode cX1_nextFit 29 = .ok (.goto (-24), 3) := by decide +kernel
theorem dX1_nextFit_32 : decode cX1_nextFit 32 = .ok (.iconst 0, 1) := by decide +kernel
theorem dX1_nextFit_33 : decode cX1_nextFit 33 = .ok (.ireturn, 1) := by decide +kernel
set_option maxRecDepth 20000 in
theorem ggX1_isSimple_X1_isFit : GoodIn wsX1_isSimple wsX1_isFit := goodIn_r _ [6, 1, 17, 18, 19] (by decide +kernel) (by decide +kernel)
set_option maxRecDepth 20000 in
theorem gX1_isSimple_X1_isFit : GoodIn wsX1_isSimple (wsV RX1 21 RX1 yX1_isFit wsX1_isFit) := goodIn_app (goodIn_of _ (by decide +kernel)) ggX1_isSimple_X1_isFit
set_option maxRecDepth 20000 in
theorem ggX1_isSimple_X1_swapsOne : GoodIn wsX1_isSimple wsX1_swapsOne := goodIn_r _ [9, 10, 11, 12, 13, 14, 15, 16] (by decide +kernel) (by decide +kernel)
set_option maxRecDepth 20000 in
theorem gX1_isSimple_X1_swapsOne : GoodIn wsX1_isSimple (va_wsS RX1 25 yX1_swapsOne wsX1_swapsOne) := goodIn_app (goodIn_of _ (by decide +kernel)) ggX1_isSimple_X1_swapsOne
theorem dX1_isSimple_0 : decode cX1_isSimple 0 = .ok (.aload_n 0, 1) := by decide +kernel
theorem dX1_isSimple_1 : decode cX1_isSimple 1 = .ok (.iload_n 1, 1) := by decide +kernel
theorem dX1_isSimple_2 : decode cX1_isSimple 2 = .ok (.invokevirtual 21, 3) := by decide +kernel
theorem dX1_isSimple_5 : decode cX1_isSimple 5 = .ok (.ifCond .eq 37, 3) := by decide +kernel
theorem dX1_isSimple_8 : decode cX1_isSimple 8 = .ok (.aload_n 0, 1) := by decide +kernel
theorem dX1_isSimple_9 : decode cX1_isSimple 9 = .ok (.iload_n 2, 1) := by decide +kernel
theorem dX1_isSimple_10 : decode cX1_isSimple 10 = .ok (.invokevirtual 21, 3) := by decide +kernel
theorem dX1_isSimple_13 : decode cX1_isSimple 13 = .ok (.ifCond .eq 29, 3) := by decide +kernel
theorem dX1_isSimple_16 : decode cX1_isSimple 16 = .ok (.aload_n 0, 1) := by decide +kernel
theorem dX1_isSimple_17 : decode cX1_isSimple 17 = .ok (.getfield 18, 3) := by decide +kernel
theorem dX1_isSimple_20 : decode cX1_isSimple 20 = .ok (.iconst 0, 1) := by decide +kernel
theorem dX1_isSimple_21 : decode cX1_isSimple 21 = .ok (.iload_n 1, 1) := by decide +kernel
theorem dX1_isSimple_22 : decode cX1_isSimple 22 = .ok (.iadd, 1) := by decide +kernel
theorem dX1_isSimple_23 : decode cX1_isSimple 23 = .ok (.iaload, 1) := by decide +kernel
theorem dX1_isSimple_24 : decode cX1_isSimple 24 = .ok (.aload_n 0, 1) := by decide +kernel
theorem dX1_isSimple_25 : decode cX1_isSimple 25 = .ok (.getfield 18, 3) := by decide +kernel
theorem dX1_isSimple_28 : decode cX1_isSimple 28 = .ok (.iconst 0, 1) := by decide +kernel
theorem dX1_isSimple_29 : decode cX1_isSimple 29 = .ok (.iload_n 2, 1) := by decide +kernel
theorem dX1_isSimple_30 : decode cX1_isSimple 30 = .ok (.iadd, 1) := by decide +kernel
theorem dX1_isSimple_31 : decode cX1_isSimple 31 = .ok (.iaload, 1) := by decide +kernel
theorem dX1_isSimple_32 : decode cX1_isSimple 32 = .ok (.invokestatic 25, 3) := by decide +kernel
theorem dX1_isSimple_35 : decode cX1_isSimple 35 = .ok (.ifCond .eq 7, 3) := by decide +kernel
theorem dX1_isSimple_38 : decode cX1_isSimple 38 = .ok (.iconst 1, 1) := by decide +kernel
theorem dX1_isSimple_39 : decode cX1_isSimple 39 = .ok (.goto 4, 3) := by decide +kernel
theorem dX1_isSimple_42 : decode cX1_isSimple 42 = .ok (.iconst 0, 1) := by decide +kernel
theorem dX1_isSimple_43 : decode cX1_isSimple 43 = .ok (.ireturn, 1) := by decide +kernel
set_option maxRecDepth 20000 in
theorem ggX1_coming_X1_isSimple : GoodIn wsX1_coming wsX1_isSimple := goodIn_r _ [6, 1, 7, 8, 9, 5, 10, 11, 12, 13, 14, 15, 16, 17, 18, 19, 20, 25, 26, 27] (by decide +kernel) (by decide +kernel)
set_option maxRecDepth 20000 in
theorem gX1_coming_X1_isSimple : GoodIn wsX1_coming (wsV RX1 29 RX1 yX1_isSimple wsX1_isSimple) := goodIn_app (goodIn_of _ (by decide +kernel)) ggX1_coming_X1_isSimple
set_option maxRecDepth 20000 in
theorem ggX1_coming_J6_numberOfTrailingZeros_0f7a4 : GoodIn wsX1_coming wsJ6_numberOfTrailingZeros_0f7a4 := goodIn_r _ [23, 24] (by decide +kernel) (by decide +kernel)
set_option maxRecDepth 20000 in
theorem gX1_coming_J6_numberOfTrailingZeros_0f7a4 : GoodIn wsX1_coming (va_wsS RX1 32 yJ6_numberOfTrailingZeros_0f7a4 wsJ6_numberOfTrailingZeros_0f7a4) := goodIn_app (goodIn_of _ (by decide +kernel)) ggX1_coming_J6_numberOfTrailingZeros_0f7a4
theorem dX1_coming_0 : decode cX1_coming 0 = .ok (.aload_n 0, 1) := by decide +kernel
theorem dX1_coming_1 : decode cX1_coming 1 = .ok (.iload_n 1, 1) := by decide +kernel
theorem dX1_coming_2 : decode cX1_coming 2 = .ok (.iload_n 2, 1) := by decide +kernel
theorem dX1_coming_3 : decode cX1_coming 3 = .ok (.invokevirtual 29, 3) := by decide +kernel
theorem dX1_coming_6 : decode cX1_coming 6 = .ok (.ifCond .ne 5, 3) := by decide +kernel
theorem dX1_coming_9 : decode cX1_coming 9 = .ok (.iconst (-1), 1) := by decide +kernel
theorem dX1_coming_10 : decode cX1_coming 10 = .ok (.ireturn, 1) := by decide +kernel
theorem dX1_coming_11 : decode cX1_coming 11 = .ok (.aload_n 0, 1) := by decide +kernel
theorem dX1_coming_12 : decode cX1_coming 12 = .ok (.getfield 18, 3) := by decide +kernel
theorem dX1_coming_15 : decode cX1_coming 15 = .ok (.iconst 0, 1) := by decide +kernel
theorem dX1_coming_16 : decode cX1_coming 16 = .ok (.iload_n 2, 1) := by decide +kernel
theorem dX1_coming_17 : decode cX1_coming 17 = .ok (.iadd, 1) := by decide +kernel
theorem dX1_coming_18 : decode cX1_coming 18 = .ok (.iaload, 1) := by decide +kernel
theorem dX1_coming_19 : decode cX1_coming 19 = .ok (.aload_n 0, 1) := by decide +kernel
theorem dX1_coming_20 : decode cX1_coming 20 = .ok (.getfield 18, 3) := by decide +kernel
theorem dX1_coming_23 : decode cX1_coming 23 = .ok (.iconst 0, 1) := by decide +kernel
theorem dX1_coming_24 : decode cX1_coming 24 = .ok (.iload_n 1, 1) := by decide +kernel
theorem dX1_coming_25 : decode cX1_coming 25 = .ok (.iadd, 1) := by decide +kernel
theorem dX1_coming_26 : decode cX1_coming 26 = .ok (.iaload, 1) := by decide +kernel
theorem dX1_coming_27 : decode cX1_coming 27 = .ok (.iconst (-1), 1) := by decide +kernel
theorem dX1_coming_28 : decode cX1_coming 28 = .ok (.ixor, 1) := by decide +kernel
theorem dX1_coming_29 : decode cX1_coming 29 = .ok (.iand, 1) := by decide +kernel
theorem dX1_coming_30 : decode cX1_coming 30 = .ok (.invokestatic 32, 3) := by decide +kernel
theorem dX1_coming_33 : decode cX1_coming 33 = .ok (.ireturn, 1) := by decide +kernel
set_option maxRecDepth 20000 in
theorem ggX1_countSimple_X1_isSimple : GoodIn wsX1_countSimple wsX1_isSimple := goodIn_r _ [5, 6, 7, 8, 9, 4, 10, 11, 12, 13, 14, 15, 16, 17, 18, 19, 20, 21, 22, 23] (by decide +kernel) (by decide +kernel)
set_option maxRecDepth 20000 in
theorem gX1_countSimple_X1_isSimple : GoodIn wsX1_countSimple (wsV RX1 29 RX1 yX1_isSimple wsX1_isSimple) := goodIn_app (goodIn_of _ (by decide +kernel)) ggX1_countSimple_X1_isSimple
theorem dX1_countSimple_0 : decode cX1_countSimple 0 = .ok (.iconst 0, 1) := by decide +kernel
theorem dX1_countSimple_1 : decode cX1_countSimple 1 = .ok (.istore_n 2, 1) := by decide +kernel
theorem dX1_countSimple_2 : decode cX1_countSimple 2 = .ok (.iconst 1, 1) := by decide +kernel
theorem dX1_countSimple_3 : decode cX1_countSimple 3 = .ok (.istore_n 3, 1) := by decide +kernel
theorem dX1_countSimple_4 : decode cX1_countSimple 4 = .ok (.iload_n 3, 1) := by decide +kernel
theorem dX1_countSimple_5 : decode cX1_countSimple 5 = .ok (.bipush 7, 2) := by decide +kernel
theorem dX1_countSimple_7 : decode cX1_countSimple 7 = .ok (.if_icmp .gt 21, 3) := by decide +kernel
theorem dX1_countSimple_10 : decode cX1_countSimple 10 = .ok (.aload_n 0, 1) := by decide +kernel
theorem dX1_countSimple_11 : decode cX1_countSimple 11 = .ok (.iload_n 1, 1) := by decide +kernel
theorem dX1_countSimple_12 : decode cX1_countSimple 12 = .ok (.iload_n 3, 1) := by decide +kernel
theorem dX1_countSimple_13 : decode cX1_countSimple 13 = .ok (.invokevirtual 29, 3) := by decide +kernel
theorem dX1_countSimple_16 : decode cX1_countSimple 16 = .ok (.ifCond .eq 6, 3) := by decide +kernel
theorem dX1_countSimple_19 : decode cX1_countSimple 19 = .ok (.iinc 2 1, 3) := by decide +kernel
theorem dX1_countSimple_22 : decode cX1_countSimple 22 = .ok (.iinc 3 1, 3) := by decide +kernel
theorem dX1_countSimple_25 : decode cX1_countSimple 25 = .ok (.goto (-21), 3) := by decide +kernel
theorem dX1_countSimple_28 : decode cX1_countSimple 28 = .ok (.iload_n 2, 1) := by decide +kernel
theorem dX1_countSimple_29 : decode cX1_countSimple 29 = .ok (.ireturn, 1) := by decide +kernel
theorem dX1_countClosing_0 : decode cX1_countClosing 0 = .ok (.iconst 0, 1) := by decide +kernel
theorem dX1_countClosing_1 : decode cX1_countClosing 1 = .ok (.istore_n 2, 1) := by decide +kernel
theorem dX1_countClosing_2 : decode cX1_countClosing 2 = .ok (.iconst 1, 1) := by decide +kernel
theorem dX1_countClosing_3 : decode cX1_countClosing 3 = .ok (.istore_n 3, 1) := by decide +kernel
theorem dX1_countClosing_4 : decode cX1_countClosing 4 = .ok (.iload_n 3, 1) := by decide +kernel
theorem dX1_countClosing_5 : decode cX1_countClosing 5 = .ok (.bipush 7, 2) := by decide +kernel
theorem dX1_countClosing_7 : decode cX1_countClosing 7 = .ok (.if_icmp .gt 24, 3) := by decide +kernel
theorem dX1_countClosing_10 : decode cX1_countClosing 10 = .ok (.iload_n 2, 1) := by decide +kernel
theorem dX1_countClosing_11 : decode cX1_countClosing 11 = .ok (.aload_n 0, 1) := by decide +kernel
theorem dX1_countClosing_12 : decode cX1_countClosing 12 = .ok (.getfield 18, 3) := by decide +kernel
theorem dX1_countClosing_15 : decode cX1_countClosing 15 = .ok (.iconst 0, 1) := by decide +kernel
theorem dX1_countClosing_16 : decode cX1_countClosing 16 = .ok (.iload_n 3, 1) := by decide +kernel
theorem dX1_countClosing_17 : decode cX1_countClosing 17 = .ok (.iadd, 1) := by decide +kernel
theorem dX1_countClosing_18 : decode cX1_countClosing 18 = .ok (.iaload, 1) := by decide +kernel
theorem dX1_countClosing_19 : decode cX1_countClosing 19 = .ok (.iload_n 1, 1) := by decide +kernel
theorem dX1_countClosing_20 : decode cX1_countClosing 20 = .ok (.ishr, 1) := by decide +kernel
theorem dX1_countClosing_21 : decode cX1_countClosing 21 = .ok (.iconst 1, 1) := by decide +kernel
theorem dX1_countClosing_22 : decode cX1_countClosing 22 = .ok (.iand, 1) := by decide +kernel
theorem dX1_countClosing_23 : decode cX1_countClosing 23 = .ok (.iadd, 1) := by decide +kernel
theorem dX1_countClosing_24 : decode cX1_countClosing 24 = .ok (.istore_n 2, 1) := by decide +kernel
theorem dX1_countClosing_25 : decode cX1_countClosing 25 = .ok (.iinc 3 1, 3) := by decide +kernel
theorem dX1_countClosing_28 : decode cX1_countClosing 28 = .ok (.goto (-24), 3) := by decide +kernel
theorem dX1_countClosing_31 : decode cX1_countClosing 31 = .ok (.iload_n 2, 1) := by decide +kernel
theorem dX1_countClosing_32 : decode cX1_countClosing 32 = .ok (.ireturn, 1) := by decide +kernel
theorem dX1_countWithin_0 : decode cX1_countWithin 0 = .ok (.iconst 0, 1) := by decide +kernel
theorem dX1_countWithin_1 : decode cX1_countWithin 1 = .ok (.istore_n 2, 1) := by decide +kernel
theorem dX1_countWithin_2 : decode cX1_countWithin 2 = .ok (.iconst 1, 1) := by decide +kernel
theorem dX1_countWithin_3 : decode cX1_countWithin 3 = .ok (.istore_n 3, 1) := by decide +kernel
theorem dX1_countWithin_4 : decode cX1_countWithin 4 = .ok (.iload_n 3, 1) := by decide +kernel
theorem dX1_countWithin_5 : decode cX1_countWithin 5 = .ok (.bipush 7, 2) := by decide +kernel
theorem dX1_countWithin_7 : decode cX1_countWithin 7 = .ok (.if_icmp .gt 38, 3) := by decide +kernel
theorem dX1_countWithin_10 : decode cX1_countWithin 10 = .ok (.aload_n 0, 1) := by decide +kernel
theorem dX1_countWithin_11 : decode cX1_countWithin 11 = .ok (.getfield 18, 3) := by decide +kernel
theorem dX1_countWithin_14 : decode cX1_countWithin 14 = .ok (.iconst 0, 1) := by decide +kernel
theorem dX1_countWithin_15 : decode cX1_countWithin 15 = .ok (.iload_n 3, 1) := by decide +kernel
theorem dX1_countWithin_16 : decode cX1_countWithin 16 = .ok (.iadd, 1) := by decide +kernel
theorem dX1_countWithin_17 : decode cX1_countWithin 17 = .ok (.iaload, 1) := by decide +kernel
theorem dX1_countWithin_18 : decode cX1_countWithin 18 = .ok (.ifCond .eq 21, 3) := by decide +kernel
theorem dX1_countWithin_21 : decode cX1_countWithin 21 = .ok (.aload_n 0, 1) := by decide +kernel
theorem dX1_countWithin_22 : decode cX1_countWithin 22 = .ok (.getfield 18, 3) := by decide +kernel
theorem dX1_countWithin_25 : decode cX1_countWithin 25 = .ok (.iconst 0, 1) := by decide +kernel
theorem dX1_countWithin_26 : decode cX1_countWithin 26 = .ok (.iload_n 3, 1) := by decide +kernel
theorem dX1_countWithin_27 : decode cX1_countWithin 27 = .ok (.iadd, 1) := by decide +kernel
theorem dX1_countWithin_28 : decode cX1_countWithin 28 = .ok (.iaload, 1) := by decide +kernel
theorem dX1_countWithin_29 : decode cX1_countWithin 29 = .ok (.iload_n 1, 1) := by decide +kernel
theorem dX1_countWithin_30 : decode cX1_countWithin 30 = .ok (.iconst (-1), 1) := by decide +kernel
theorem dX1_countWithin_31 : decode cX1_countWithin 31 = .ok (.ixor, 1) := by decide +kernel
theorem dX1_countWithin_32 : decode cX1_countWithin 32 = .ok (.iand, 1) := by decide +kernel
theorem dX1_countWithin_33 : decode cX1_countWithin 33 = .ok (.ifCond .ne 6, 3) := by decide +kernel
theorem dX1_countWithin_36 : decode cX1_countWithin 36 = .ok (.iinc 2 1, 3) := by decide +kernel
theorem dX1_countWithin_39 : decode cX1_countWithin 39 = .ok (.iinc 3 1, 3) := by decide +kernel
theorem dX1_countWithin_42 : decode cX1_countWithin 42 = .ok (.goto (-38), 3) := by decide +kernel
theorem dX1_countWithin_45 : decode cX1_countWithin 45 = .ok (.iload_n 2, 1) := by decide +kernel
theorem dX1_countWithin_46 : decode cX1_countWithin 46 = .ok (.ireturn, 1) := by decide +kernel
theorem dX1_isTaken_0 : decode cX1_isTaken 0 = .ok (.iconst 1, 1) := by decide +kernel
theorem dX1_isTaken_1 : decode cX1_isTaken 1 = .ok (.istore_n 3, 1) := by decide +kernel
theorem dX1_isTaken_2 : decode cX1_isTaken 2 = .ok (.iload_n 3, 1) := by decide +kernel
theorem dX1_isTaken_3 : decode cX1_isTaken 3 = .ok (.bipush 7, 2) := by decide +kernel
theorem dX1_isTaken_5 : decode cX1_isTaken 5 = .ok (.if_icmp .gt 32, 3) := by decide +kernel
theorem dX1_isTaken_8 : decode cX1_isTaken 8 = .ok (.iload_n 3, 1) := by decide +kernel
theorem dX1_isTaken_9 : decode cX1_isTaken 9 = .ok (.iload_n 1, 1) := by decide +kernel
theorem dX1_isTaken_10 : decode cX1_isTaken 10 = .ok (.if_icmp .eq 21, 3) := by decide +kernel
theorem dX1_isTaken_13 : decode cX1_isTaken 13 = .ok (.iload_n 2, 1) := by decide +kernel
theorem dX1_isTaken_14 : decode cX1_isTaken 14 = .ok (.ifCond .eq 17, 3) := by decide +kernel
theorem dX1_isTaken_17 : decode cX1_isTaken 17 = .ok (.aload_n 0, 1) := by decide +kernel
theorem dX1_isTaken_18 : decode cX1_isTaken 18 = .ok (.getfield 18, 3) := by decide +kernel
theorem dX1_isTaken_21 : decode cX1_isTaken 21 = .ok (.iconst 0, 1) := by decide +kernel
theorem dX1_isTaken_22 : decode cX1_isTaken 22 = .ok (.iload_n 3, 1) := by decide +kernel
theorem dX1_isTaken_23 : decode cX1_isTaken 23 = .ok (.iadd, 1) := by decide +kernel
theorem dX1_isTaken_24 : decode cX1_isTaken 24 = .ok (.iaload, 1) := by decide +kernel
theorem dX1_isTaken_25 : decode cX1_isTaken 25 = .ok (.iload_n 2, 1) := by decide +kernel
theorem dX1_isTaken_26 : decode cX1_isTaken 26 = .ok (.if_icmp .ne 5, 3) := by decide +kernel
theorem dX1_isTaken_29 : decode cX1_isTaken 29 = .ok (.iconst 1, 1) := by decide +kernel
theorem dX1_isTaken_30 : decode cX1_isTaken 30 = .ok (.ireturn, 1) := by decide +kernel
theorem dX1_isTaken_31 : decode cX1_isTaken 31 = .ok (.iinc 3 1, 3) := by decide +kernel
theorem dX1_isTaken_34 : decode cX1_isTaken 34 = .ok (.goto (-32), 3) := by decide +kernel
theorem dX1_isTaken_37 : decode cX1_isTaken 37 = .ok (.iconst 0, 1) := by decide +kernel
theorem dX1_isTaken_38 : decode cX1_isTaken 38 = .ok (.ireturn, 1) := by decide +kernel
set_option maxRecDepth 20000 in
theorem ggX1_findWay_X1_fitBits : GoodIn wsX1_findWay wsX1_fitBits := goodIn_r _ [11, 12, 13, 14, 10, 15, 16, 34, 35, 36] (by decide +kernel) (by decide +kernel)
set_option maxRecDepth 20000 in
theorem gX1_findWay_X1_fitBits : GoodIn wsX1_findWay (wsV RX1 38 RX1 yX1_fitBits wsX1_fitBits) := goodIn_app (goodIn_of _ (by decide +kernel)) ggX1_findWay_X1_fitBits
set_option maxRecDepth 20000 in
theorem ggX1_findWay_X1_nearer : GoodIn wsX1_findWay wsX1_nearer := goodIn_r _ [20, 1, 16, 21, 22, 10, 23, 24, 25, 26, 27, 28, 29, 30, 34, 35, 36] (by decide +kernel) (by decide +kernel)
set_option maxRecDepth 20000 in
theorem gX1_findWay_X1_nearer : GoodIn wsX1_findWay (wsV RX1 42 RX1 yX1_nearer wsX1_nearer) := goodIn_app (goodIn_of _ (by decide +kernel)) ggX1_findWay_X1_nearer
set_option maxRecDepth 20000 in
theorem ggX1_findWay_X6_isGear : GoodIn wsX1_findWay wsX6_isGear := goodIn_r _ [33] (by decide +kernel) (by decide +kernel)
set_option maxRecDepth 20000 in
theorem gX1_findWay_X6_isGear_n46 : GoodIn wsX1_findWay (wsX6_isGear) := ggX1_findWay_X6_isGear
theorem dX1_findWay_0 : decode cX1_findWay 0 = .ok (.aload_n 0, 1) := by decide +kernel
theorem dX1_findWay_1 : decode cX1_findWay 1 = .ok (.invokevirtual 38, 3) := by decide +kernel
theorem dX1_findWay_4 : decode cX1_findWay 4 = .ok (.istore_n 3, 1) := by decide +kernel
theorem dX1_findWay_5 : decode cX1_findWay 5 = .ok (.iconst 1, 1) := by decide +kernel
theorem dX1_findWay_6 : decode cX1_findWay 6 = .ok (.istore 4, 2) := by decide +kernel
theorem dX1_findWay_8 : decode cX1_findWay 8 = .ok (.iload 4, 2) := by decide +kernel
theorem dX1_findWay_10 : decode cX1_findWay 10 = .ok (.bipush 7, 2) := by decide +kernel
theorem dX1_findWay_12 : decode cX1_findWay 12 = .ok (.if_icmp .gt 27, 3) := by decide +kernel
theorem dX1_findWay_15 : decode cX1_findWay 15 = .ok (.aload_n 0, 1) := by decide +kernel
theorem dX1_findWay_16 : decode cX1_findWay 16 = .ok (.getfield 9, 3) := by decide +kernel
theorem dX1_findWay_19 : decode cX1_findWay 19 = .ok (.iload 4, 2) := by decide +kernel
theorem dX1_findWay_21 : decode cX1_findWay 21 = .ok (.iload 4, 2) := by decide +kernel
theorem dX1_findWay_23 : decode cX1_findWay 23 = .ok (.iload_n 2, 1) := by decide +kernel
theorem dX1_findWay_24 : decode cX1_findWay 24 = .ok (.if_icmp .ne 7, 3) := by decide +kernel
theorem dX1_findWay_27 : decode cX1_findWay 27 = .ok (.iconst 0, 1) := by decide +kernel
theorem dX1_findWay_28 : decode cX1_findWay 28 = .ok (.goto 4, 3) := by decide +kernel
theorem dX1_findWay_31 : decode cX1_findWay 31 = .ok (.iconst (-1), 1) := by decide +kernel
theorem dX1_findWay_32 : decode cX1_findWay 32 = .ok (.iastore, 1) := by decide +kernel
theorem dX1_findWay_33 : decode cX1_findWay 33 = .ok (.iinc 4 1, 3) := by decide +kernel
theorem dX1_findWay_36 : decode cX1_findWay 36 = .ok (.goto (-28), 3) := by decide +kernel
theorem dX1_findWay_39 : decode cX1_findWay 39 = .ok (.iconst 0, 1) := by decide +kernel
theorem dX1_findWay_40 : decode cX1_findWay 40 = .ok (.istore 4, 2) := by decide +kernel
theorem dX1_findWay_42 : decode cX1_findWay 42 = .ok (.iload 4, 2) := by decide +kernel
theorem dX1_findWay_44 : decode cX1_findWay 44 = .ok (.bipush 6, 2) := by decide +kernel
theorem dX1_findWay_46 : decode cX1_findWay 46 = .ok (.if_icmp .ge 80, 3) := by decide +kernel
theorem dX1_findWay_49 : decode cX1_findWay 49 = .ok (.iconst 1, 1) := by decide +kernel
theorem dX1_findWay_50 : decode cX1_findWay 50 = .ok (.istore 5, 2) := by decide +kernel
theorem dX1_findWay_52 : decode cX1_findWay 52 = .ok (.iload 5, 2) := by decide +kernel
theorem dX1_findWay_54 : decode cX1_findWay 54 = .ok (.bipush 7, 2) := by decide +kernel
theorem dX1_findWay_56 : decode cX1_findWay 56 = .ok (.if_icmp .gt 64, 3) := by decide +kernel
theorem dX1_findWay_59 : decode cX1_findWay 59 = .ok (.aload_n 0, 1) := by decide +kernel
theorem dX1_findWay_60 : decode cX1_findWay 60 = .ok (.getfield 9, 3) := by decide +kernel
theorem dX1_findWay_63 : decode cX1_findWay 63 = .ok (.iload 5, 2) := by decide +kernel
theorem dX1_findWay_65 : decode cX1_findWay 65 = .ok (.iaload, 1) := by decide +kernel
theorem dX1_findWay_66 : decode cX1_findWay 66 = .ok (.iconst (-1), 1) := by decide +kernel
theorem dX1_findWay_67 : decode cX1_findWay 67 = .ok (.if_icmp .ne 17, 3) := by decide +kernel
theorem dX1_findWay_70 : decode cX1_findWay 70 = .ok (.iload_n 3, 1) := by decide +kernel
theorem dX1_findWay_71 : decode cX1_findWay 71 = .ok (.iload 5, 2) := by decide +kernel
theorem dX1_findWay_73 : decode cX1_findWay 73 = .ok (.ishr, 1) := by decide +kernel
theorem dX1_findWay_74 : decode cX1_findWay 74 = .ok (.iconst 1, 1) := by decide +kernel
theorem dX1_findWay_75 : decode cX1_findWay 75 = .ok (.iand, 1) := by decide +kernel
theorem dX1_findWay_76 : decode cX1_findWay 76 = .ok (.iconst 1, 1) := by decide +kernel
theorem dX1_findWay_77 : decode cX1_findWay 77 = .ok (.if_icmp .ne 7, 3) := by decide +kernel
theorem dX1_findWay_80 : decode cX1_findWay 80 = .ok (.iconst 1, 1) := by decide +kernel
theorem dX1_findWay_81 : decode cX1_findWay 81 = .ok (.goto 4, 3) := by decide +kernel
theorem dX1_findWay_84 : decode cX1_findWay 84 = .ok (.iconst 0, 1) := by decide +kernel
theorem dX1_findWay_85 : decode cX1_findWay 85 = .ok (.istore 6, 2) := by decide +kernel
theorem dX1_findWay_87 : decode cX1_findWay 87 = .ok (.iload 6, 2) := by decide +kernel
theorem dX1_findWay_89 : decode cX1_findWay 89 = .ok (.ifCond .eq 25, 3) := by decide +kernel
theorem dX1_findWay_92 : decode cX1_findWay 92 = .ok (.aload_n 0, 1) := by decide +kernel
theorem dX1_findWay_93 : decode cX1_findWay 93 = .ok (.iload 5, 2) := by decide +kernel
theorem dX1_findWay_95 : decode cX1_findWay 95 = .ok (.iload 4, 2) := by decide +kernel
theorem dX1_findWay_97 : decode cX1_findWay 97 = .ok (.invokevirtual 42, 3) := by decide +kernel
theorem dX1_findWay_100 : decode cX1_findWay 100 = .ok (.ifCond .eq 14, 3) := by decide +kernel
theorem dX1_findWay_103 : decode cX1_findWay 103 = .ok (.aload_n 0, 1) := by decide +kernel
theorem dX1_findWay_104 : decode cX1_findWay 104 = .ok (.getfield 9, 3) := by decide +kernel
theorem dX1_findWay_107 : decode cX1_findWay 107 = .ok (.iload 5, 2) := by decide +kernel
theorem dX1_findWay_109 : decode cX1_findWay 109 = .ok (.iload 4, 2) := by decide +kernel
theorem dX1_findWay_111 : decode cX1_findWay 111 = .ok (.iconst 1, 1) := by decide +kernel
theorem dX1_findWay_112 : decode cX1_findWay 112 = .ok (.iadd, 1) := by decide +kernel
