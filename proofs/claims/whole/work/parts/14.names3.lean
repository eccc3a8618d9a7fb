theorem dX5_parseOrder_14 : decode cX5_parseOrder 14 = .ok (.invokevirtual 41, 3) := by decide +kernel
theorem dX5_parseOrder_17 : decode cX5_parseOrder 17 = .ok (.i2c, 1) := by decide +kernel
theorem dX5_parseOrder_18 : decode cX5_parseOrder 18 = .ok (.invokevirtual 47, 3) := by decide +kernel
theorem dX5_parseOrder_21 : decode cX5_parseOrder 21 = .ok (.istore_n 1, 1) := by decide +kernel
theorem dX5_parseOrder_22 : decode cX5_parseOrder 22 = .ok (.iload_n 1, 1) := by decide +kernel
theorem dX5_parseOrder_23 : decode cX5_parseOrder 23 = .ok (.ifCond .ge 5, 3) := by decide +kernel
theorem dX5_parseOrder_26 : decode cX5_parseOrder 26 = .ok (.iconst 0, 1) := by decide +kernel
theorem dX5_parseOrder_27 : decode cX5_parseOrder 27 = .ok (.ireturn, 1) := by decide +kernel
theorem dX5_parseOrder_28 : decode cX5_parseOrder 28 = .ok (.aload_n 0, 1) := by decide +kernel
theorem dX5_parseOrder_29 : decode cX5_parseOrder 29 = .ok (.dup, 1) := by decide +kernel
theorem dX5_parseOrder_30 : decode cX5_parseOrder 30 = .ok (.getfield 31, 3) := by decide +kernel
theorem dX5_parseOrder_33 : decode cX5_parseOrder 33 = .ok (.iconst 1, 1) := by decide +kernel
theorem dX5_parseOrder_34 : decode cX5_parseOrder 34 = .ok (.iadd, 1) := by decide +kernel
theorem dX5_parseOrder_35 : decode cX5_parseOrder 35 = .ok (.putfield 31, 3) := by decide +kernel
theorem dX5_parseOrder_38 : decode cX5_parseOrder 38 = .ok (.aload_n 0, 1) := by decide +kernel
theorem dX5_parseOrder_39 : decode cX5_parseOrder 39 = .ok (.invokevirtual 34, 3) := by decide +kernel
theorem dX5_parseOrder_42 : decode cX5_parseOrder 42 = .ok (.iload_n 1, 1) := by decide +kernel
theorem dX5_parseOrder_43 : decode cX5_parseOrder 43 = .ok (.iconst 5, 1) := by decide +kernel
theorem dX5_parseOrder_44 : decode cX5_parseOrder 44 = .ok (.if_icmp .ne 16, 3) := by decide +kernel
theorem dX5_parseOrder_47 : decode cX5_parseOrder 47 = .ok (.aload_n 0, 1) := by decide +kernel
theorem dX5_parseOrder_48 : decode cX5_parseOrder 48 = .ok (.invokevirtual 41, 3) := by decide +kernel
theorem dX5_parseOrder_51 : decode cX5_parseOrder 51 = .ok (.bipush 45, 2) := by decide +kernel
theorem dX5_parseOrder_53 : decode cX5_parseOrder 53 = .ok (.if_icmp .ne 7, 3) := by decide +kernel
theorem dX5_parseOrder_56 : decode cX5_parseOrder 56 = .ok (.iconst 1, 1) := by decide +kernel
theorem dX5_parseOrder_57 : decode cX5_parseOrder 57 = .ok (.goto 4, 3) := by decide +kernel
theorem dX5_parseOrder_60 : decode cX5_parseOrder 60 = .ok (.iconst 0, 1) := by decide +kernel
theorem dX5_parseOrder_61 : decode cX5_parseOrder 61 = .ok (.istore_n 2, 1) := by decide +kernel
theorem dX5_parseOrder_62 : decode cX5_parseOrder 62 = .ok (.iload_n 2, 1) := by decide +kernel
theorem dX5_parseOrder_63 : decode cX5_parseOrder 63 = .ok (.ifCond .eq 13, 3) := by decide +kernel
theorem dX5_parseOrder_66 : decode cX5_parseOrder 66 = .ok (.aload_n 0, 1) := by decide +kernel
theorem dX5_parseOrder_67 : decode cX5_parseOrder 67 = .ok (.dup, 1) := by decide +kernel
theorem dX5_parseOrder_68 : decode cX5_parseOrder 68 = .ok (.getfield 31, 3) := by decide +kernel
theorem dX5_parseOrder_71 : decode cX5_parseOrder 71 = .ok (.iconst 1, 1) := by decide +kernel
theorem dX5_parseOrder_72 : decode cX5_parseOrder 72 = .ok (.iadd, 1) := by decide +kernel
theorem dX5_parseOrder_73 : decode cX5_parseOrder 73 = .ok (.putfield 31, 3) := by decide +kernel
theorem dX5_parseOrder_76 : decode cX5_parseOrder 76 = .ok (.aload_n 0, 1) := by decide +kernel
theorem dX5_parseOrder_77 : decode cX5_parseOrder 77 = .ok (.invokevirtual 53, 3) := by decide +kernel
theorem dX5_parseOrder_80 : decode cX5_parseOrder 80 = .ok (.istore_n 3, 1) := by decide +kernel
theorem dX5_parseOrder_81 : decode cX5_parseOrder 81 = .ok (.iload_n 3, 1) := by decide +kernel
theorem dX5_parseOrder_82 : decode cX5_parseOrder 82 = .ok (.iconst (-1), 1) := by decide +kernel
theorem dX5_parseOrder_83 : decode cX5_parseOrder 83 = .ok (.if_icmp .ne 5, 3) := by decide +kernel
theorem dX5_parseOrder_86 : decode cX5_parseOrder 86 = .ok (.iconst 0, 1) := by decide +kernel
theorem dX5_parseOrder_87 : decode cX5_parseOrder 87 = .ok (.ireturn, 1) := by decide +kernel
theorem dX5_parseOrder_88 : decode cX5_parseOrder 88 = .ok (.iconst 0, 1) := by decide +kernel
theorem dX5_parseOrder_89 : decode cX5_parseOrder 89 = .ok (.istore 4, 2) := by decide +kernel
theorem dX5_parseOrder_91 : decode cX5_parseOrder 91 = .ok (.iload_n 1, 1) := by decide +kernel
theorem dX5_parseOrder_92 : decode cX5_parseOrder 92 = .ok (.iconst 5, 1) := by decide +kernel
theorem dX5_parseOrder_93 : decode cX5_parseOrder 93 = .ok (.if_icmp .eq 19, 3) := by decide +kernel
theorem dX5_parseOrder_96 : decode cX5_parseOrder 96 = .ok (.iload_n 1, 1) := by decide +kernel
theorem dX5_parseOrder_97 : decode cX5_parseOrder 97 = .ok (.bipush 6, 2) := by decide +kernel
theorem dX5_parseOrder_99 : decode cX5_parseOrder 99 = .ok (.if_icmp .eq 13, 3) := by decide +kernel
theorem dX5_parseOrder_102 : decode cX5_parseOrder 102 = .ok (.aload_n 0, 1) := by decide +kernel
theorem dX5_parseOrder_103 : decode cX5_parseOrder 103 = .ok (.invokevirtual 34, 3) := by decide +kernel
theorem dX5_parseOrder_106 : decode cX5_parseOrder 106 = .ok (.aload_n 0, 1) := by decide +kernel
theorem dX5_parseOrder_107 : decode cX5_parseOrder 107 = .ok (.invokevirtual 53, 3) := by decide +kernel
theorem dX5_parseOrder_110 : decode cX5_parseOrder 110 = .ok (.istore 4, 2) := by decide +kernel
theorem dX5_parseOrder_112 : decode cX5_parseOrder 112 = .ok (.iload 4, 2) := by decide +kernel
theorem dX5_parseOrder_114 : decode cX5_parseOrder 114 = .ok (.iconst (-1), 1) := by decide +kernel
theorem dX5_parseOrder_115 : decode cX5_parseOrder 115 = .ok (.if_icmp .ne 5, 3) := by decide +kernel
theorem dX5_parseOrder_118 : decode cX5_parseOrder 118 = .ok (.iconst 0, 1) := by decide +kernel
theorem dX5_parseOrder_119 : decode cX5_parseOrder 119 = .ok (.ireturn, 1) := by decide +kernel
theorem dX5_parseOrder_120 : decode cX5_parseOrder 120 = .ok (.aload_n 0, 1) := by decide +kernel
theorem dX5_parseOrder_121 : decode cX5_parseOrder 121 = .ok (.invokevirtual 34, 3) := by decide +kernel
theorem dX5_parseOrder_124 : decode cX5_parseOrder 124 = .ok (.aload_n 0, 1) := by decide +kernel
theorem dX5_parseOrder_125 : decode cX5_parseOrder 125 = .ok (.invokevirtual 41, 3) := by decide +kernel
theorem dX5_parseOrder_128 : decode cX5_parseOrder 128 = .ok (.bipush 59, 2) := by decide +kernel
theorem dX5_parseOrder_130 : decode cX5_parseOrder 130 = .ok (.if_icmp .eq 5, 3) := by decide +kernel
theorem dX5_parseOrder_133 : decode cX5_parseOrder 133 = .ok (.iconst 0, 1) := by decide +kernel
theorem dX5_parseOrder_134 : decode cX5_parseOrder 134 = .ok (.ireturn, 1) := by decide +kernel
theorem dX5_parseOrder_135 : decode cX5_parseOrder 135 = .ok (.aload_n 0, 1) := by decide +kernel
theorem dX5_parseOrder_136 : decode cX5_parseOrder 136 = .ok (.dup, 1) := by decide +kernel
theorem dX5_parseOrder_137 : decode cX5_parseOrder 137 = .ok (.getfield 31, 3) := by decide +kernel
theorem dX5_parseOrder_140 : decode cX5_parseOrder 140 = .ok (.iconst 1, 1) := by decide +kernel
theorem dX5_parseOrder_141 : decode cX5_parseOrder 141 = .ok (.iadd, 1) := by decide +kernel
theorem dX5_parseOrder_142 : decode cX5_parseOrder 142 = .ok (.putfield 31, 3) := by decide +kernel
theorem dX5_parseOrder_145 : decode cX5_parseOrder 145 = .ok (.aload_n 0, 1) := by decide +kernel
theorem dX5_parseOrder_146 : decode cX5_parseOrder 146 = .ok (.iload_n 1, 1) := by decide +kernel
theorem dX5_parseOrder_147 : decode cX5_parseOrder 147 = .ok (.iload_n 2, 1) := by decide +kernel
theorem dX5_parseOrder_148 : decode cX5_parseOrder 148 = .ok (.ifCond .eq 8, 3) := by decide +kernel
theorem dX5_parseOrder_151 : decode cX5_parseOrder 151 = .ok (.iload_n 3, 1) := by decide +kernel
theorem dX5_parseOrder_152 : decode cX5_parseOrder 152 = .ok (.ineg, 1) := by decide +kernel
theorem dX5_parseOrder_153 : decode cX5_parseOrder 153 = .ok (.goto 4, 3) := by decide +kernel
theorem dX5_parseOrder_156 : decode cX5_parseOrder 156 = .ok (.iload_n 3, 1) := by decide +kernel
theorem dX5_parseOrder_157 : decode cX5_parseOrder 157 = .ok (.iload 4, 2) := by decide +kernel
theorem dX5_parseOrder_159 : decode cX5_parseOrder 159 = .ok (.invokevirtual 56, 3) := by decide +kernel
theorem dX5_parseOrder_162 : decode cX5_parseOrder 162 = .ok (.iconst 1, 1) := by decide +kernel
theorem dX5_parseOrder_163 : decode cX5_parseOrder 163 = .ok (.ireturn, 1) := by decide +kernel
set_option maxRecDepth 20000 in
theorem ggX5_parseNumber_X5_isFigure : GoodIn wsX5_parseNumber wsX5_isFigure := goodIn_r _ [6, 7, 8, 9, 5, 10, 1, 11, 12, 13, 14, 15, 16, 17, 18, 19] (by decide +kernel) (by decide +kernel)
set_option maxRecDepth 20000 in
theorem gX5_parseNumber_X5_isFigure : GoodIn wsX5_parseNumber (wsV RX5 60 RX5 yX5_isFigure wsX5_isFigure) := goodIn_app (goodIn_of _ (by decide +kernel)) ggX5_parseNumber_X5_isFigure
set_option maxRecDepth 20000 in
theorem ggX5_parseNumber_X5_next : GoodIn wsX5_parseNumber wsX5_next := goodIn_r _ [10, 1, 11, 12, 13, 14, 15, 16, 17, 18, 19] (by decide +kernel) (by decide +kernel)
set_option maxRecDepth 20000 in
theorem gX5_parseNumber_X5_next : GoodIn wsX5_parseNumber (wsV RX5 41 RX5 yX5_next wsX5_next) := goodIn_app (goodIn_of _ (by decide +kernel)) ggX5_parseNumber_X5_next
theorem dX5_parseNumber_0 : decode cX5_parseNumber 0 = .ok (.iconst 0, 1) := by decide +kernel
theorem dX5_parseNumber_1 : decode cX5_parseNumber 1 = .ok (.istore_n 1, 1) := by decide +kernel
theorem dX5_parseNumber_2 : decode cX5_parseNumber 2 = .ok (.iconst 0, 1) := by decide +kernel
theorem dX5_parseNumber_3 : decode cX5_parseNumber 3 = .ok (.istore_n 2, 1) := by decide +kernel
theorem dX5_parseNumber_4 : decode cX5_parseNumber 4 = .ok (.iload_n 2, 1) := by decide +kernel
theorem dX5_parseNumber_5 : decode cX5_parseNumber 5 = .ok (.iconst 3, 1) := by decide +kernel
theorem dX5_parseNumber_6 : decode cX5_parseNumber 6 = .ok (.if_icmp .ge 39, 3) := by decide +kernel
theorem dX5_parseNumber_9 : decode cX5_parseNumber 9 = .ok (.aload_n 0, 1) := by decide +kernel
theorem dX5_parseNumber_10 : decode cX5_parseNumber 10 = .ok (.invokevirtual 60, 3) := by decide +kernel
theorem dX5_parseNumber_13 : decode cX5_parseNumber 13 = .ok (.ifCond .eq 32, 3) := by decide +kernel
theorem dX5_parseNumber_16 : decode cX5_parseNumber 16 = .ok (.bipush 10, 2) := by decide +kernel
theorem dX5_parseNumber_18 : decode cX5_parseNumber 18 = .ok (.iload_n 1, 1) := by decide +kernel
theorem dX5_parseNumber_19 : decode cX5_parseNumber 19 = .ok (.imul, 1) := by decide +kernel
theorem dX5_parseNumber_20 : decode cX5_parseNumber 20 = .ok (.aload_n 0, 1) := by decide +kernel
theorem dX5_parseNumber_21 : decode cX5_parseNumber 21 = .ok (.invokevirtual 41, 3) := by decide +kernel
theorem dX5_parseNumber_24 : decode cX5_parseNumber 24 = .ok (.iadd, 1) := by decide +kernel
theorem dX5_parseNumber_25 : decode cX5_parseNumber 25 = .ok (.bipush 48, 2) := by decide +kernel
theorem dX5_parseNumber_27 : decode cX5_parseNumber 27 = .ok (.isub, 1) := by decide +kernel
theorem dX5_parseNumber_28 : decode cX5_parseNumber 28 = .ok (.istore_n 1, 1) := by decide +kernel
theorem dX5_parseNumber_29 : decode cX5_parseNumber 29 = .ok (.iinc 2 1, 3) := by decide +kernel
theorem dX5_parseNumber_32 : decode cX5_parseNumber 32 = .ok (.aload_n 0, 1) := by decide +kernel
theorem dX5_parseNumber_33 : decode cX5_parseNumber 33 = .ok (.dup, 1) := by decide +kernel
theorem dX5_parseNumber_34 : decode cX5_parseNumber 34 = .ok (.getfield 31, 3) := by decide +kernel
theorem dX5_parseNumber_37 : decode cX5_parseNumber 37 = .ok (.iconst 1, 1) := by decide +kernel
theorem dX5_parseNumber_38 : decode cX5_parseNumber 38 = .ok (.iadd, 1) := by decide +kernel
theorem dX5_parseNumber_39 : decode cX5_parseNumber 39 = .ok (.putfield 31, 3) := by decide +kernel
theorem dX5_parseNumber_42 : decode cX5_parseNumber 42 = .ok (.goto (-38), 3) := by decide +kernel
theorem dX5_parseNumber_45 : decode cX5_parseNumber 45 = .ok (.iload_n 2, 1) := by decide +kernel
theorem dX5_parseNumber_46 : decode cX5_parseNumber 46 = .ok (.ifCond .eq 10, 3) := by decide +kernel
theorem dX5_parseNumber_49 : decode cX5_parseNumber 49 = .ok (.aload_n 0, 1) := by decide +kernel
theorem dX5_parseNumber_50 : decode cX5_parseNumber 50 = .ok (.invokevirtual 60, 3) := by decide +kernel
theorem dX5_parseNumber_53 : decode cX5_parseNumber 53 = .ok (.ifCond .eq 7, 3) := by decide +kernel
theorem dX5_parseNumber_56 : decode cX5_parseNumber 56 = .ok (.iconst (-1), 1) := by decide +kernel
theorem dX5_parseNumber_57 : decode cX5_parseNumber 57 = .ok (.goto 4, 3) := by decide +kernel
theorem dX5_parseNumber_60 : decode cX5_parseNumber 60 = .ok (.iload_n 1, 1) := by decide +kernel
theorem dX5_parseNumber_61 : decode cX5_parseNumber 61 = .ok (.ireturn, 1) := by decide +kernel
theorem dX5_addOrder_0 : decode cX5_addOrder 0 = .ok (.aload_n 0, 1) := by decide +kernel
theorem dX5_addOrder_1 : decode cX5_addOrder 1 = .ok (.getfield 28, 3) := by decide +kernel
theorem dX5_addOrder_4 : decode cX5_addOrder 4 = .ok (.bipush 50, 2) := by decide +kernel
theorem dX5_addOrder_6 : decode cX5_addOrder 6 = .ok (.if_icmp .ge 43, 3) := by decide +kernel
theorem dX5_addOrder_9 : decode cX5_addOrder 9 = .ok (.aload_n 0, 1) := by decide +kernel
theorem dX5_addOrder_10 : decode cX5_addOrder 10 = .ok (.getfield 15, 3) := by decide +kernel
theorem dX5_addOrder_13 : decode cX5_addOrder 13 = .ok (.aload_n 0, 1) := by decide +kernel
theorem dX5_addOrder_14 : decode cX5_addOrder 14 = .ok (.getfield 28, 3) := by decide +kernel
theorem dX5_addOrder_17 : decode cX5_addOrder 17 = .ok (.iload_n 1, 1) := by decide +kernel
theorem dX5_addOrder_18 : decode cX5_addOrder 18 = .ok (.iastore, 1) := by decide +kernel
theorem dX5_addOrder_19 : decode cX5_addOrder 19 = .ok (.aload_n 0, 1) := by decide +kernel
theorem dX5_addOrder_20 : decode cX5_addOrder 20 = .ok (.getfield 18, 3) := by decide +kernel
theorem dX5_addOrder_23 : decode cX5_addOrder 23 = .ok (.aload_n 0, 1) := by decide +kernel
theorem dX5_addOrder_24 : decode cX5_addOrder 24 = .ok (.getfield 28, 3) := by decide +kernel
theorem dX5_addOrder_27 : decode cX5_addOrder 27 = .ok (.iload_n 2, 1) := by decide +kernel
theorem dX5_addOrder_28 : decode cX5_addOrder 28 = .ok (.iastore, 1) := by decide +kernel
theorem dX5_addOrder_29 : decode cX5_addOrder 29 = .ok (.aload_n 0, 1) := by decide +kernel
theorem dX5_addOrder_30 : decode cX5_addOrder 30 = .ok (.getfield 21, 3) := by decide +kernel
theorem dX5_addOrder_33 : decode cX5_addOrder 33 = .ok (.aload_n 0, 1) := by decide +kernel
theorem dX5_addOrder_34 : decode cX5_addOrder 34 = .ok (.getfield 28, 3) := by decide +kernel
theorem dX5_addOrder_37 : decode cX5_addOrder 37 = .ok (.iload_n 3, 1) := by decide +kernel
theorem dX5_addOrder_38 : decode cX5_addOrder 38 = .ok (.iastore, 1) := by decide +kernel
theorem dX5_addOrder_39 : decode cX5_addOrder 39 = .ok (.aload_n 0, 1) := by decide +kernel
theorem dX5_addOrder_40 : decode cX5_addOrder 40 = .ok (.dup, 1) := by decide +kernel
theorem dX5_addOrder_41 : decode cX5_addOrder 41 = .ok (.getfield 28, 3) := by decide +kernel
theorem dX5_addOrder_44 : decode cX5_addOrder 44 = .ok (.iconst 1, 1) := by decide +kernel
theorem dX5_addOrder_45 : decode cX5_addOrder 45 = .ok (.iadd, 1) := by decide +kernel
theorem dX5_addOrder_46 : decode cX5_addOrder 46 = .ok (.putfield 28, 3) := by decide +kernel
theorem dX5_addOrder_49 : decode cX5_addOrder 49 = .ok (.return_, 1) := by decide +kernel
set_option maxRecDepth 20000 in
theorem ggX5_skipBlanks_X5_next : GoodIn wsX5_skipBlanks wsX5_next := goodIn_r _ [7, 1, 2, 8, 9, 10, 11, 12, 13, 14, 15] (by decide +kernel) (by decide +kernel)
set_option maxRecDepth 20000 in
theorem gX5_skipBlanks_X5_next : GoodIn wsX5_skipBlanks (wsV RX5 41 RX5 yX5_next wsX5_next) := goodIn_app (goodIn_of _ (by decide +kernel)) ggX5_skipBlanks_X5_next
theorem dX5_skipBlanks_0 : decode cX5_skipBlanks 0 = .ok (.aload_n 0, 1) := by decide +kernel
theorem dX5_skipBlanks_1 : decode cX5_skipBlanks 1 = .ok (.getfield 31, 3) := by decide +kernel
theorem dX5_skipBlanks_4 : decode cX5_skipBlanks 4 = .ok (.aload_n 0, 1) := by decide +kernel
theorem dX5_skipBlanks_5 : decode cX5_skipBlanks 5 = .ok (.getfield 24, 3) := by decide +kernel
theorem dX5_skipBlanks_8 : decode cX5_skipBlanks 8 = .ok (.if_icmp .ge 25, 3) := by decide +kernel
theorem dX5_skipBlanks_11 : decode cX5_skipBlanks 11 = .ok (.aload_n 0, 1) := by decide +kernel
theorem dX5_skipBlanks_12 : decode cX5_skipBlanks 12 = .ok (.invokevirtual 41, 3) := by decide +kernel
theorem dX5_skipBlanks_15 : decode cX5_skipBlanks 15 = .ok (.bipush 32, 2) := by decide +kernel
theorem dX5_skipBlanks_17 : decode cX5_skipBlanks 17 = .ok (.if_icmp .ne 16, 3) := by decide +kernel
theorem dX5_skipBlanks_20 : decode cX5_skipBlanks 20 = .ok (.aload_n 0, 1) := by decide +kernel
theorem dX5_skipBlanks_21 : decode cX5_skipBlanks 21 = .ok (.dup, 1) := by decide +kernel
theorem dX5_skipBlanks_22 : decode cX5_skipBlanks 22 = .ok (.getfield 31, 3) := by decide +kernel
theorem dX5_skipBlanks_25 : decode cX5_skipBlanks 25 = .ok (.iconst 1, 1) := by decide +kernel
theorem dX5_skipBlanks_26 : decode cX5_skipBlanks 26 = .ok (.iadd, 1) := by decide +kernel
theorem dX5_skipBlanks_27 : decode cX5_skipBlanks 27 = .ok (.putfield 31, 3) := by decide +kernel
theorem dX5_skipBlanks_30 : decode cX5_skipBlanks 30 = .ok (.goto (-30), 3) := by decide +kernel
theorem dX5_skipBlanks_33 : decode cX5_skipBlanks 33 = .ok (.return_, 1) := by decide +kernel
set_option maxRecDepth 20000 in
theorem ggX5_isFigure_X5_next : GoodIn wsX5_isFigure wsX5_next := goodIn_r _ [5, 6, 7, 8, 9, 10, 11, 12, 13, 14, 15] (by decide +kernel) (by decide +kernel)
set_option maxRecDepth 20000 in
theorem gX5_isFigure_X5_next : GoodIn wsX5_isFigure (wsV RX5 41 RX5 yX5_next wsX5_next) := goodIn_app (goodIn_of _ (by decide +kernel)) ggX5_isFigure_X5_next
theorem dX5_isFigure_0 : decode cX5_isFigure 0 = .ok (.aload_n 0, 1) := by decide +kernel
theorem dX5_isFigure_1 : decode cX5_isFigure 1 = .ok (.invokevirtual 41, 3) := by decide +kernel
theorem dX5_isFigure_4 : decode cX5_isFigure 4 = .ok (.bipush 48, 2) := by decide +kernel
theorem dX5_isFigure_6 : decode cX5_isFigure 6 = .ok (.if_icmp .lt 16, 3) := by decide +kernel
theorem dX5_isFigure_9 : decode cX5_isFigure 9 = .ok (.aload_n 0, 1) := by decide +kernel
theorem dX5_isFigure_10 : decode cX5_isFigure 10 = .ok (.invokevirtual 41, 3) := by decide +kernel
theorem dX5_isFigure_13 : decode cX5_isFigure 13 = .ok (.bipush 57, 2) := by decide +kernel
theorem dX5_isFigure_15 : decode cX5_isFigure 15 = .ok (.if_icmp .gt 7, 3) := by decide +kernel
theorem dX5_isFigure_18 : decode cX5_isFigure 18 = .ok (.iconst 1, 1) := by decide +kernel
theorem dX5_isFigure_19 : decode cX5_isFigure 19 = .ok (.goto 4, 3) := by decide +kernel
theorem dX5_isFigure_22 : decode cX5_isFigure 22 = .ok (.iconst 0, 1) := by decide +kernel
theorem dX5_isFigure_23 : decode cX5_isFigure 23 = .ok (.ireturn, 1) := by decide +kernel
theorem dX5_next_0 : decode cX5_next 0 = .ok (.aload_n 0, 1) := by decide +kernel
theorem dX5_next_1 : decode cX5_next 1 = .ok (.getfield 31, 3) := by decide +kernel
theorem dX5_next_4 : decode cX5_next 4 = .ok (.ifCond .lt 36, 3) := by decide +kernel
theorem dX5_next_7 : decode cX5_next 7 = .ok (.aload_n 0, 1) := by decide +kernel
theorem dX5_next_8 : decode cX5_next 8 = .ok (.getfield 31, 3) := by decide +kernel
theorem dX5_next_11 : decode cX5_next 11 = .ok (.aload_n 0, 1) := by decide +kernel
theorem dX5_next_12 : decode cX5_next 12 = .ok (.getfield 24, 3) := by decide +kernel
theorem dX5_next_15 : decode cX5_next 15 = .ok (.if_icmp .ge 25, 3) := by decide +kernel
theorem dX5_next_18 : decode cX5_next 18 = .ok (.aload_n 0, 1) := by decide +kernel
theorem dX5_next_19 : decode cX5_next 19 = .ok (.getfield 31, 3) := by decide +kernel
theorem dX5_next_22 : decode cX5_next 22 = .ok (.sipush 150, 3) := by decide +kernel
theorem dX5_next_25 : decode cX5_next 25 = .ok (.if_icmp .ge 15, 3) := by decide +kernel
theorem dX5_next_28 : decode cX5_next 28 = .ok (.aload_n 0, 1) := by decide +kernel
theorem dX5_next_29 : decode cX5_next 29 = .ok (.getfield 11, 3) := by decide +kernel
theorem dX5_next_32 : decode cX5_next 32 = .ok (.aload_n 0, 1) := by decide +kernel
theorem dX5_next_33 : decode cX5_next 33 = .ok (.getfield 31, 3) := by decide +kernel
theorem dX5_next_36 : decode cX5_next 36 = .ok (.iaload, 1) := by decide +kernel
theorem dX5_next_37 : decode cX5_next 37 = .ok (.goto 4, 3) := by decide +kernel
theorem dX5_next_40 : decode cX5_next 40 = .ok (.iconst (-1), 1) := by decide +kernel
theorem dX5_next_41 : decode cX5_next 41 = .ok (.ireturn, 1) := by decide +kernel
set_option maxRecDepth 20000 in
theorem ggX6_init_X1_init : GoodIn wsX6_init wsX1_init := goodIn_r _ [35, 36, 2, 3, 4, 37, 38, 39, 88, 89, 90] (by decide +kernel) (by decide +kernel)
set_option maxRecDepth 20000 in
theorem gX6_init_X1_init : GoodIn wsX6_init (wsX1_init) := ggX6_init_X1_init
set_option maxRecDepth 20000 in
theorem ggX6_init_X3_init : GoodIn wsX6_init wsX3_init := goodIn_r _ [42, 43, 2, 3, 44, 91] (by decide +kernel) (by decide +kernel)
set_option maxRecDepth 20000 in
theorem gX6_init_X3_init : GoodIn wsX6_init (wsX3_init) := ggX6_init_X3_init
set_option maxRecDepth 20000 in
theorem ggX6_init_X0_init : GoodIn wsX6_init wsX0_init := goodIn_r _ [47, 48, 2, 3, 49, 50, 51, 92, 93, 94] (by decide +kernel) (by decide +kernel)
set_option maxRecDepth 20000 in
theorem gX6_init_X0_init : GoodIn wsX6_init (wsX0_init) := ggX6_init_X0_init
set_option maxRecDepth 20000 in
theorem ggX6_init_X2_init : GoodIn wsX6_init wsX2_init := goodIn_r _ [54, 55, 2, 3, 56, 57, 58, 95, 96, 97] (by decide +kernel) (by decide +kernel)
set_option maxRecDepth 20000 in
theorem gX6_init_X2_init : GoodIn wsX6_init (wsX2_init) := ggX6_init_X2_init
set_option maxRecDepth 20000 in
theorem ggX6_init_X4_init : GoodIn wsX6_init wsX4_init := goodIn_r _ [61, 62, 2, 3, 63, 4, 64, 65, 66, 67, 98, 99, 100, 101] (by decide +kernel) (by decide +kernel)
set_option maxRecDepth 20000 in
theorem gX6_init_X4_init : GoodIn wsX6_init (wsX4_init) := ggX6_init_X4_init
set_option maxRecDepth 20000 in
theorem ggX6_init_X5_init : GoodIn wsX6_init wsX5_init := goodIn_r _ [69, 70, 2, 3, 4, 71, 72, 73, 74, 75, 76, 77, 102, 103, 104, 105, 106, 107, 108] (by decide +kernel) (by decide +kernel)
set_option maxRecDepth 20000 in
theorem gX6_init_X5_init_n59 : GoodIn wsX6_init (wsX5_init) := ggX6_init_X5_init
theorem dX6_init_0 : decode cX6_init 0 = .ok (.aload_n 0, 1) := by decide +kernel
theorem dX6_init_1 : decode cX6_init 1 = .ok (.invokespecial 1, 3) := by decide +kernel
theorem dX6_init_4 : decode cX6_init 4 = .ok (.aload_n 0, 1) := by decide +kernel
theorem dX6_init_5 : decode cX6_init 5 = .ok (.bipush 51, 2) := by decide +kernel
theorem dX6_init_7 : decode cX6_init 7 = .ok (.newarray .int, 2) := by decide +kernel
theorem dX6_init_9 : decode cX6_init 9 = .ok (.putfield 9, 3) := by decide +kernel
theorem dX6_init_12 : decode cX6_init 12 = .ok (.aload_n 0, 1) := by decide +kernel
theorem dX6_init_13 : decode cX6_init 13 = .ok (.iconst 3, 1) := by decide +kernel
theorem dX6_init_14 : decode cX6_init 14 = .ok (.newarray .int, 2) := by decide +kernel
theorem dX6_init_16 : decode cX6_init 16 = .ok (.putfield 13, 3) := by decide +kernel
theorem dX6_init_19 : decode cX6_init 19 = .ok (.aload_n 0, 1) := by decide +kernel
theorem dX6_init_20 : decode cX6_init 20 = .ok (.new 16, 3) := by decide +kernel
theorem dX6_init_23 : decode cX6_init 23 = .ok (.dup, 1) := by decide +kernel
theorem dX6_init_24 : decode cX6_init 24 = .ok (.aload_n 0, 1) := by decide +kernel
theorem dX6_init_25 : decode cX6_init 25 = .ok (.getfield 9, 3) := by decide +kernel
theorem dX6_init_28 : decode cX6_init 28 = .ok (.invokespecial 18, 3) := by decide +kernel
theorem dX6_init_31 : decode cX6_init 31 = .ok (.putfield 21, 3) := by decide +kernel
theorem dX6_init_34 : decode cX6_init 34 = .ok (.aload_n 0, 1) := by decide +kernel
theorem dX6_init_35 : decode cX6_init 35 = .ok (.new 25, 3) := by decide +kernel
theorem dX6_init_38 : decode cX6_init 38 = .ok (.dup, 1) := by decide +kernel
theorem dX6_init_39 : decode cX6_init 39 = .ok (.aload_n 0, 1) := by decide +kernel
theorem dX6_init_40 : decode cX6_init 40 = .ok (.getfield 9, 3) := by decide +kernel
theorem dX6_init_43 : decode cX6_init 43 = .ok (.invokespecial 27, 3) := by decide +kernel
theorem dX6_init_46 : decode cX6_init 46 = .ok (.putfield 28, 3) := by decide +kernel
theorem dX6_init_49 : decode cX6_init 49 = .ok (.aload_n 0, 1) := by decide +kernel
theorem dX6_init_50 : decode cX6_init 50 = .ok (.new 32, 3) := by decide +kernel
theorem dX6_init_53 : decode cX6_init 53 = .ok (.dup, 1) := by decide +kernel
theorem dX6_init_54 : decode cX6_init 54 = .ok (.aload_n 0, 1) := by decide +kernel
theorem dX6_init_55 : decode cX6_init 55 = .ok (.getfield 9, 3) := by decide +kernel
theorem dX6_init_58 : decode cX6_init 58 = .ok (.aload_n 0, 1) := by decide +kernel
theorem dX6_init_59 : decode cX6_init 59 = .ok (.getfield 21, 3) := by decide +kernel
theorem dX6_init_62 : decode cX6_init 62 = .ok (.aload_n 0, 1) := by decide +kernel
theorem dX6_init_63 : decode cX6_init 63 = .ok (.getfield 28, 3) := by decide +kernel
theorem dX6_init_66 : decode cX6_init 66 = .ok (.invokespecial 34, 3) := by decide +kernel
theorem dX6_init_69 : decode cX6_init 69 = .ok (.putfield 37, 3) := by decide +kernel
theorem dX6_init_72 : decode cX6_init 72 = .ok (.aload_n 0, 1) := by decide +kernel
theorem dX6_init_73 : decode cX6_init 73 = .ok (.new 41, 3) := by decide +kernel
theorem dX6_init_76 : decode cX6_init 76 = .ok (.dup, 1) := by decide +kernel
theorem dX6_init_77 : decode cX6_init 77 = .ok (.aload_n 0, 1) := by decide +kernel
theorem dX6_init_78 : decode cX6_init 78 = .ok (.getfield 9, 3) := by decide +kernel
theorem dX6_init_81 : decode cX6_init 81 = .ok (.aload_n 0, 1) := by decide +kernel
theorem dX6_init_82 : decode cX6_init 82 = .ok (.getfield 21, 3) := by decide +kernel
theorem dX6_init_85 : decode cX6_init 85 = .ok (.aload_n 0, 1) := by decide +kernel
theorem dX6_init_86 : decode cX6_init 86 = .ok (.getfield 37, 3) := by decide +kernel
theorem dX6_init_89 : decode cX6_init 89 = .ok (.invokespecial 43, 3) := by decide +kernel
theorem dX6_init_92 : decode cX6_init 92 = .ok (.putfield 46, 3) := by decide +kernel
theorem dX6_init_95 : decode cX6_init 95 = .ok (.aload_n 0, 1) := by decide +kernel
theorem dX6_init_96 : decode cX6_init 96 = .ok (.new 50, 3) := by decide +kernel
theorem dX6_init_99 : decode cX6_init 99 = .ok (.dup, 1) := by decide +kernel
theorem dX6_init_100 : decode cX6_init 100 = .ok (.aload_n 0, 1) := by decide +kernel
theorem dX6_init_101 : decode cX6_init 101 = .ok (.getfield 9, 3) := by decide +kernel
theorem dX6_init_104 : decode cX6_init 104 = .ok (.invokespecial 52, 3) := by decide +kernel
theorem dX6_init_107 : decode cX6_init 107 = .ok (.putfield 53, 3) := by decide +kernel
theorem dX6_init_110 : decode cX6_init 110 = .ok (.aload_n 0, 1) := by decide +kernel
theorem dX6_init_111 : decode cX6_init 111 = .ok (.new 57, 3) := by decide +kernel
theorem dX6_init_114 : decode cX6_init 114 = .ok (.dup, 1) := by decide +kernel
theorem dX6_init_115 : decode cX6_init 115 = .ok (.invokespecial 59, 3) := by decide +kernel
theorem dX6_init_118 : decode cX6_init 118 = .ok (.putfield 60, 3) := by decide +kernel
theorem dX6_init_121 : decode cX6_init 121 = .ok (.aload_n 0, 1) := by decide +kernel
theorem dX6_init_122 : decode cX6_init 122 = .ok (.iconst 0, 1) := by decide +kernel
theorem dX6_init_123 : decode cX6_init 123 = .ok (.putfield 64, 3) := by decide +kernel
theorem dX6_init_126 : decode cX6_init 126 = .ok (.aload_n 0, 1) := by decide +kernel
theorem dX6_init_127 : decode cX6_init 127 = .ok (.iconst (-1), 1) := by decide +kernel
theorem dX6_init_128 : decode cX6_init 128 = .ok (.putfield 68, 3) := by decide +kernel
theorem dX6_init_131 : decode cX6_init 131 = .ok (.iconst 1, 1) := by decide +kernel
theorem dX6_init_132 : decode cX6_init 132 = .ok (.istore_n 1, 1) := by decide +kernel
theorem dX6_init_133 : decode cX6_init 133 = .ok (.iload_n 1, 1) := by decide +kernel
theorem dX6_init_134 : decode cX6_init 134 = .ok (.bipush 7, 2) := by decide +kernel
theorem dX6_init_136 : decode cX6_init 136 = .ok (.if_icmp .gt 38, 3) := by decide +kernel
theorem dX6_init_139 : decode cX6_init 139 = .ok (.aload_n 0, 1) := by decide +kernel
theorem dX6_init_140 : decode cX6_init 140 = .ok (.getfield 9, 3) := by decide +kernel
theorem dX6_init_143 : decode cX6_init 143 = .ok (.bipush 8, 2) := by decide +kernel
theorem dX6_init_145 : decode cX6_init 145 = .ok (.iload_n 1, 1) := by decide +kernel
theorem dX6_init_146 : decode cX6_init 146 = .ok (.iadd, 1) := by decide +kernel
theorem dX6_init_147 : decode cX6_init 147 = .ok (.bipush 20, 2) := by decide +kernel
theorem dX6_init_149 : decode cX6_init 149 = .ok (.iload_n 1, 1) := by decide +kernel
theorem dX6_init_150 : decode cX6_init 150 = .ok (.imul, 1) := by decide +kernel
theorem dX6_init_151 : decode cX6_init 151 = .ok (.iastore, 1) := by decide +kernel
theorem dX6_init_152 : decode cX6_init 152 = .ok (.aload_n 0, 1) := by decide +kernel
theorem dX6_init_153 : decode cX6_init 153 = .ok (.getfield 9, 3) := by decide +kernel
theorem dX6_init_156 : decode cX6_init 156 = .ok (.bipush 16, 2) := by decide +kernel
theorem dX6_init_158 : decode cX6_init 158 = .ok (.iload_n 1, 1) := by decide +kernel
theorem dX6_init_159 : decode cX6_init 159 = .ok (.iadd, 1) := by decide +kernel
theorem dX6_init_160 : decode cX6_init 160 = .ok (.bipush 20, 2) := by decide +kernel
theorem dX6_init_162 : decode cX6_init 162 = .ok (.iload_n 1, 1) := by decide +kernel
theorem dX6_init_163 : decode cX6_init 163 = .ok (.imul, 1) := by decide +kernel
theorem dX6_init_164 : decode cX6_init 164 = .ok (.bipush 15, 2) := by decide +kernel
theorem dX6_init_166 : decode cX6_init 166 = .ok (.isub, 1) := by decide +kernel
theorem dX6_init_167 : decode cX6_init 167 = .ok (.iastore, 1) := by decide +kernel
theorem dX6_init_168 : decode cX6_init 168 = .ok (.iinc 1 1, 3) := by decide +kernel
theorem dX6_init_171 : decode cX6_init 171 = .ok (.goto (-38), 3) := by decide +kernel
theorem dX6_init_174 : decode cX6_init 174 = .ok (.iconst 0, 1) := by decide +kernel
theorem dX6_init_175 : decode cX6_init 175 = .ok (.istore_n 1, 1) := by decide +kernel
theorem dX6_init_176 : decode cX6_init 176 = .ok (.iload_n 1, 1) := by decide +kernel
theorem dX6_init_177 : decode cX6_init 177 = .ok (.iconst 5, 1) := by decide +kernel
theorem dX6_init_178 : decode cX6_init 178 = .ok (.if_icmp .ge 31, 3) := by decide +kernel
theorem dX6_init_181 : decode cX6_init 181 = .ok (.aload_n 0, 1) := by decide +kernel
theorem dX6_init_182 : decode cX6_init 182 = .ok (.getfield 9, 3) := by decide +kernel
theorem dX6_init_185 : decode cX6_init 185 = .ok (.bipush 29, 2) := by decide +kernel
theorem dX6_init_187 : decode cX6_init 187 = .ok (.iload_n 1, 1) := by decide +kernel
theorem dX6_init_188 : decode cX6_init 188 = .ok (.iadd, 1) := by decide +kernel
theorem dX6_init_189 : decode cX6_init 189 = .ok (.bipush 8, 2) := by decide +kernel
theorem dX6_init_191 : decode cX6_init 191 = .ok (.iastore, 1) := by decide +kernel
theorem dX6_init_192 : decode cX6_init 192 = .ok (.aload_n 0, 1) := by decide +kernel
theorem dX6_init_193 : decode cX6_init 193 = .ok (.getfield 9, 3) := by decide +kernel
theorem dX6_init_196 : decode cX6_init 196 = .ok (.bipush 34, 2) := by decide +kernel
theorem dX6_init_198 : decode cX6_init 198 = .ok (.iload_n 1, 1) := by decide +kernel
theorem dX6_init_199 : decode cX6_init 199 = .ok (.iadd, 1) := by decide +kernel
theorem dX6_init_200 : decode cX6_init 200 = .ok (.bipush 8, 2) := by decide +kernel
theorem dX6_init_202 : decode cX6_init 202 = .ok (.iastore, 1) := by decide +kernel
theorem dX6_init_203 : decode cX6_init 203 = .ok (.iinc 1 1, 3) := by decide +kernel
theorem dX6_init_206 : decode cX6_init 206 = .ok (.goto (-30), 3) := by decide +kernel
theorem dX6_init_209 : decode cX6_init 209 = .ok (.aload_n 0, 1) := by decide +kernel
theorem dX6_init_210 : decode cX6_init 210 = .ok (.getfield 9, 3) := by decide +kernel
theorem dX6_init_213 : decode cX6_init 213 = .ok (.bipush 42, 2) := by decide +kernel
theorem dX6_init_215 : decode cX6_init 215 = .ok (.iconst (-1), 1) := by decide +kernel
theorem dX6_init_216 : decode cX6_init 216 = .ok (.iastore, 1) := by decide +kernel
theorem dX6_init_217 : decode cX6_init 217 = .ok (.aload_n 0, 1) := by decide +kernel
theorem dX6_init_218 : decode cX6_init 218 = .ok (.getfield 9, 3) := by decide +kernel
theorem dX6_init_221 : decode cX6_init 221 = .ok (.bipush 47, 2) := by decide +kernel
theorem dX6_init_223 : decode cX6_init 223 = .ok (.iconst 3, 1) := by decide +kernel
theorem dX6_init_224 : decode cX6_init 224 = .ok (.iastore, 1) := by decide +kernel
theorem dX6_init_225 : decode cX6_init 225 = .ok (.aload_n 0, 1) := by decide +kernel
theorem dX6_init_226 : decode cX6_init 226 = .ok (.getfield 9, 3) := by decide +kernel
theorem dX6_init_229 : decode cX6_init 229 = .ok (.bipush 49, 2) := by decide +kernel
theorem dX6_init_231 : decode cX6_init 231 = .ok (.iconst 5, 1) := by decide +kernel
theorem dX6_init_232 : decode cX6_init 232 = .ok (.iastore, 1) := by decide +kernel
theorem dX6_init_233 : decode cX6_init 233 = .ok (.aload_n 0, 1) := by decide +kernel
theorem dX6_init_234 : decode cX6_init 234 = .ok (.getfield 9, 3) := by decide +kernel
theorem dX6_init_237 : decode cX6_init 237 = .ok (.bipush 50, 2) := by decide +kernel
theorem dX6_init_239 : decode cX6_init 239 = .ok (.bipush 100, 2) := by decide +kernel
theorem dX6_init_241 : decode cX6_init 241 = .ok (.iastore, 1) := by decide +kernel
theorem dX6_init_242 : decode cX6_init 242 = .ok (.return_, 1) := by decide +kernel
set_option maxRecDepth 20000 in
theorem ggX6_gear_X6_changed : GoodIn wsX6_gear wsX6_changed := goodIn_r _ [5, 6, 7, 8, 9, 10, 11, 12, 13, 14, 15, 16, 17, 18, 19, 20, 21, 22, 23, 24, 25, 26, 27, 28, 29, 30, 31, 4, 32, 33, 34, 35, 36, 37, 38, 39, 40, 41, 42, 43, 44, 45, 46, 47, 48, 49, 50, 51, 52, 53, 54, 55, 56, 57, 58, 59, 60, 61, 62, 63, 64, 65, 66, 67, 68, 69, 70, 71, 72, 73, 74, 75, 76, 77, 78, 79, 80, 81, 82, 83, 84, 85, 86, 87, 88, 89, 90, 91, 92, 93, 94, 95, 96, 97, 98, 99, 100, 101, 102, 103, 104, 105, 106, 107, 108, 109, 110, 111, 112, 113, 114, 115, 116, 117, 118, 119, 120, 121, 122, 123, 124, 125, 126, 127, 128, 129, 130, 131, 132, 133, 134, 135, 136, 137, 138, 139, 140, 141, 142, 143, 144, 145, 146, 147, 148, 149, 150, 151, 152, 153, 154, 155, 156, 157, 158, 159, 160, 161, 162, 163, 164, 165, 166, 167, 168, 169, 170, 171, 172, 173, 174, 175, 176, 177, 178, 179, 180, 181, 182, 183, 184, 185, 186, 187, 188, 189, 190, 191, 192, 193, 194] (by decide +kernel) (by decide +kernel)
set_option maxRecDepth 20000 in
theorem gX6_gear_X6_changed : GoodIn wsX6_gear (wsV RX6 71 RX6 yX6_changed wsX6_changed) := goodIn_app (goodIn_of _ (by decide +kernel)) ggX6_gear_X6_changed
theorem dX6_gear_0 : decode cX6_gear 0 = .ok (.aload_n 0, 1) := by decide +kernel
theorem dX6_gear_1 : decode cX6_gear 1 = .ok (.iconst 0, 1) := by decide +kernel
theorem dX6_gear_2 : decode cX6_gear 2 = .ok (.iload_n 1, 1) := by decide +kernel
theorem dX6_gear_3 : decode cX6_gear 3 = .ok (.iload_n 2, 1) := by decide +kernel
theorem dX6_gear_4 : decode cX6_gear 4 = .ok (.invokevirtual 71, 3) := by decide +kernel
theorem dX6_gear_7 : decode cX6_gear 7 = .ok (.ireturn, 1) := by decide +kernel
set_option maxRecDepth 20000 in
theorem ggX6_fails_X6_changed : GoodIn wsX6_fails wsX6_changed := goodIn_r _ [5, 6, 7, 8, 9, 10, 11, 12, 13, 14, 15, 16, 17, 18, 19, 20, 21, 22, 23, 24, 25, 26, 27, 28, 29, 30, 31, 4, 32, 33, 34, 35, 36, 37, 38, 39, 40, 41, 42, 43, 44, 45, 46, 47, 48, 49, 50, 51, 52, 53, 54, 55, 56, 57, 58, 59, 60, 61, 62, 63, 64, 65, 66, 67, 68, 69, 70, 71, 72, 73, 74, 75, 76, 77, 78, 79, 80, 81, 82, 83, 84, 85, 86, 87, 88, 89, 90, 91, 92, 93, 94, 95, 96, 97, 98, 99, 100, 101, 102, 103, 104, 105, 106, 107, 108, 109, 110, 111, 112, 113, 114, 115, 116, 117, 118, 119, 120, 121, 122, 123, 124, 125, 126, 127, 128, 129, 130, 131, 132, 133, 134, 135, 136, 137, 138, 139, 140, 141, 142, 143, 144, 145, 146, 147, 148, 149, 150, 151, 152, 153, 154, 155, 156, 157, 158, 159, 160, 161, 162, 163, 164, 165, 166, 167, 168, 169, 170, 171, 172, 173, 174, 175, 176, 177, 178, 179, 180, 181, 182, 183, 184, 185, 186, 187, 188, 189, 190, 191, 192, 193, 194] (by decide +kernel) (by decide +kernel)
set_option maxRecDepth 20000 in
theorem gX6_fails_X6_changed : GoodIn wsX6_fails (wsV RX6 71 RX6 yX6_changed wsX6_changed) := goodIn_app (goodIn_of _ (by decide +kernel)) ggX6_fails_X6_changed
theorem dX6_fails_0 : decode cX6_fails 0 = .ok (.aload_n 0, 1) := by decide +kernel
theorem dX6_fails_1 : decode cX6_fails 1 = .ok (.iconst 1, 1) := by decide +kernel
theorem dX6_fails_2 : decode cX6_fails 2 = .ok (.iload_n 1, 1) := by decide +kernel
theorem dX6_fails_3 : decode cX6_fails 3 = .ok (.iload_n 2, 1) := by decide +kernel
theorem dX6_fails_4 : decode cX6_fails 4 = .ok (.invokevirtual 71, 3) := by decide +kernel
theorem dX6_fails_7 : decode cX6_fails 7 = .ok (.ireturn, 1) := by decide +kernel
set_option maxRecDepth 20000 in
theorem ggX6_trues_X6_changed : GoodIn wsX6_trues wsX6_changed := goodIn_r _ [5, 6, 7, 8, 9, 10, 11, 12, 13, 14, 15, 16, 17, 18, 19, 20, 21, 22, 23, 24, 25, 26, 27, 28, 29, 30, 31, 4, 32, 33, 34, 35, 36, 37, 38, 39, 40, 41, 42, 43, 44, 45, 46, 47, 48, 49, 50, 51, 52, 53, 54, 55, 56, 57, 58, 59, 60, 61, 62, 63, 64, 65, 66, 67, 68, 69, 70, 71, 72, 73, 74, 75, 76, 77, 78, 79, 80, 81, 82, 83, 84, 85, 86, 87, 88, 89, 90, 91, 92, 93, 94, 95, 96, 97, 98, 99, 100, 101, 102, 103, 104, 105, 106, 107, 108, 109, 110, 111, 112, 113, 114, 115, 116, 117, 118, 119, 120, 121, 122, 123, 124, 125, 126, 127, 128, 129, 130, 131, 132, 133, 134, 135, 136, 137, 138, 139, 140, 141, 142, 143, 144, 145, 146, 147, 148, 149, 150, 151, 152, 153, 154, 155, 156, 157, 158, 159, 160, 161, 162, 163, 164, 165, 166, 167, 168, 169, 170, 171, 172, 173, 174, 175, 176, 177, 178, 179, 180, 181, 182, 183, 184, 185, 186, 187, 188, 189, 190, 191, 192, 193, 194] (by decide +kernel) (by decide +kernel)
set_option maxRecDepth 20000 in
theorem gX6_trues_X6_changed : GoodIn wsX6_trues (wsV RX6 71 RX6 yX6_changed wsX6_changed) := goodIn_app (goodIn_of _ (by decide +kernel)) ggX6_trues_X6_changed
theorem dX6_trues_0 : decode cX6_trues 0 = .ok (.aload_n 0, 1) := by decide +kernel
theorem dX6_trues_1 : decode cX6_trues 1 = .ok (.iconst 2, 1) := by decide +kernel
theorem dX6_trues_2 : decode cX6_trues 2 = .ok (.iload_n 1, 1) := by decide +kernel
theorem dX6_trues_3 : decode cX6_trues 3 = .ok (.iload_n 2, 1) := by decide +kernel
theorem dX6_trues_4 : decode cX6_trues 4 = .ok (.invokevirtual 71, 3) := by decide +kernel
theorem dX6_trues_7 : decode cX6_trues 7 = .ok (.ireturn, 1) := by decide +kernel
set_option maxRecDepth 20000 in
theorem ggX6_up_X6_changed : GoodIn wsX6_up wsX6_changed := goodIn_r _ [5, 6, 7, 8, 9, 10, 11, 12, 13, 14, 15, 16, 17, 18, 19, 20, 21, 22, 23, 24, 25, 26, 27, 28, 29, 30, 31, 4, 32, 33, 34, 35, 36, 37, 38, 39, 40, 41, 42, 43, 44, 45, 46, 47, 48, 49, 50, 51, 52, 53, 54, 55, 56, 57, 58, 59, 60, 61, 62, 63, 64, 65, 66, 67, 68, 69, 70, 71, 72, 73, 74, 75, 76, 77, 78, 79, 80, 81, 82, 83, 84, 85, 86, 87, 88, 89, 90, 91, 92, 93, 94, 95, 96, 97, 98, 99, 100, 101, 102, 103, 104, 105, 106, 107, 108, 109, 110, 111, 112, 113, 114, 115, 116, 117, 118, 119, 120, 121, 122, 123, 124, 125, 126, 127, 128, 129, 130, 131, 132, 133, 134, 135, 136, 137, 138, 139, 140, 141, 142, 143, 144, 145, 146, 147, 148, 149, 150, 151, 152, 153, 154, 155, 156, 157, 158, 159, 160, 161, 162, 163, 164, 165, 166, 167, 168, 169, 170, 171, 172, 173, 174, 175, 176, 177, 178, 179, 180, 181, 182, 183, 184, 185, 186, 187, 188, 189, 190, 191, 192, 193, 194] (by decide +kernel) (by decide +kernel)
set_option maxRecDepth 20000 in
theorem gX6_up_X6_changed : GoodIn wsX6_up (wsV RX6 71 RX6 yX6_changed wsX6_changed) := goodIn_app (goodIn_of _ (by decide +kernel)) ggX6_up_X6_changed
theorem dX6_up_0 : decode cX6_up 0 = .ok (.aload_n 0, 1) := by decide +kernel
theorem dX6_up_1 : decode cX6_up 1 = .ok (.iconst 3, 1) := by decide +kernel
theorem dX6_up_2 : decode cX6_up 2 = .ok (.iload_n 1, 1) := by decide +kernel
theorem dX6_up_3 : decode cX6_up 3 = .ok (.iload_n 2, 1) := by decide +kernel
theorem dX6_up_4 : decode cX6_up 4 = .ok (.invokevirtual 71, 3) := by decide +kernel
theorem dX6_up_7 : decode cX6_up 7 = .ok (.ireturn, 1) := by decide +kernel
set_option maxRecDepth 20000 in
theorem ggX6_down_X6_changed : GoodIn wsX6_down wsX6_changed := goodIn_r _ [5, 6, 7, 8, 9, 10, 11, 12, 13, 14, 15, 16, 17, 18, 19, 20, 21, 22, 23, 24, 25, 26, 27, 28, 29, 30, 31, 4, 32, 33, 34, 35, 36, 37, 38, 39, 40, 41, 42, 43, 44, 45, 46, 47, 48, 49, 50, 51, 52, 53, 54, 55, 56, 57, 58, 59, 60, 61, 62, 63, 64, 65, 66, 67, 68, 69, 70, 71, 72, 73, 74, 75, 76, 77, 78, 79, 80, 81, 82, 83, 84, 85, 86, 87, 88, 89, 90, 91, 92, 93, 94, 95, 96, 97, 98, 99, 100, 101, 102, 103, 104, 105, 106, 107, 108, 109, 110, 111, 112, 113, 114, 115, 116, 117, 118, 119, 120, 121, 122, 123, 124, 125, 126, 127, 128, 129, 130, 131, 132, 133, 134, 135, 136, 137, 138, 139, 140, 141, 142, 143, 144, 145, 146, 147, 148, 149, 150, 151, 152, 153, 154, 155, 156, 157, 158, 159, 160, 161, 162, 163, 164, 165, 166, 167, 168, 169, 170, 171, 172, 173, 174, 175, 176, 177, 178, 179, 180, 181, 182, 183, 184, 185, 186, 187, 188, 189, 190, 191, 192, 193, 194] (by decide +kernel) (by decide +kernel)
set_option maxRecDepth 20000 in
theorem gX6_down_X6_changed : GoodIn wsX6_down (wsV RX6 71 RX6 yX6_changed wsX6_changed) := goodIn_app (goodIn_of _ (by decide +kernel)) ggX6_down_X6_changed
theorem dX6_down_0 : decode cX6_down 0 = .ok (.aload_n 0, 1) := by decide +kernel
theorem dX6_down_1 : decode cX6_down 1 = .ok (.iconst 4, 1) := by decide +kernel
theorem dX6_down_2 : decode cX6_down 2 = .ok (.iload_n 1, 1) := by decide +kernel
theorem dX6_down_3 : decode cX6_down 3 = .ok (.iload_n 2, 1) := by decide +kernel
theorem dX6_down_4 : decode cX6_down 4 = .ok (.invokevirtual 71, 3) := by decide +kernel
theorem dX6_down_7 : decode cX6_down 7 = .ok (.ireturn, 1) := by decide +kernel
set_option maxRecDepth 20000 in
theorem ggX6_slope_X6_changed : GoodIn wsX6_slope wsX6_changed := goodIn_r _ [5, 6, 7, 8, 9, 10, 11, 12, 13, 14, 15, 16, 17, 18, 19, 20, 21, 22, 23, 24, 25, 26, 27, 28, 29, 30, 31, 4, 32, 33, 34, 35, 36, 37, 38, 39, 40, 41, 42, 43, 44, 45, 46, 47, 48, 49, 50, 51, 52, 53, 54, 55, 56, 57, 58, 59, 60, 61, 62, 63, 64, 65, 66, 67, 68, 69, 70, 71, 72, 73, 74, 75, 76, 77, 78, 79, 80, 81, 82, 83, 84, 85, 86, 87, 88, 89, 90, 91, 92, 93, 94, 95, 96, 97, 98, 99, 100, 101, 102, 103, 104, 105, 106, 107, 108, 109, 110, 111, 112, 113, 114, 115, 116, 117, 118, 119, 120, 121, 122, 123, 124, 125, 126, 127, 128, 129, 130, 131, 132, 133, 134, 135, 136, 137, 138, 139, 140, 141, 142, 143, 144, 145, 146, 147, 148, 149, 150, 151, 152, 153, 154, 155, 156, 157, 158, 159, 160, 161, 162, 163, 164, 165, 166, 167, 168, 169, 170, 171, 172, 173, 174, 175, 176, 177, 178, 179, 180, 181, 182, 183, 184, 185, 186, 187, 188, 189, 190, 191, 192, 193, 194] (by decide +kernel) (by decide +kernel)
set_option maxRecDepth 20000 in
theorem gX6_slope_X6_changed : GoodIn wsX6_slope (wsV RX6 71 RX6 yX6_changed wsX6_changed) := goodIn_app (goodIn_of _ (by decide +kernel)) ggX6_slope_X6_changed
theorem dX6_slope_0 : decode cX6_slope 0 = .ok (.aload_n 0, 1) := by decide +kernel
theorem dX6_slope_1 : decode cX6_slope 1 = .ok (.iconst 5, 1) := by decide +kernel
theorem dX6_slope_2 : decode cX6_slope 2 = .ok (.iload_n 1, 1) := by decide +kernel
theorem dX6_slope_3 : decode cX6_slope 3 = .ok (.iconst 0, 1) := by decide +kernel
theorem dX6_slope_4 : decode cX6_slope 4 = .ok (.invokevirtual 71, 3) := by decide +kernel
theorem dX6_slope_7 : decode cX6_slope 7 = .ok (.ireturn, 1) := by decide +kernel
set_option maxRecDepth 20000 in
theorem ggX6_driver_X6_changed : GoodIn wsX6_driver wsX6_changed := goodIn_r _ [5, 6, 7, 8, 9, 10, 11, 12, 13, 14, 15, 16, 17, 18, 19, 20, 21, 22, 23, 24, 25, 26, 27, 28, 29, 30, 31, 4, 32, 33, 34, 35, 36, 37, 38, 39, 40, 41, 42, 43, 44, 45, 46, 47, 48, 49, 50, 51, 52, 53, 54, 55, 56, 57, 58, 59, 60, 61, 62, 63, 64, 65, 66, 67, 68, 69, 70, 71, 72, 73, 74, 75, 76, 77, 78, 79, 80, 81, 82, 83, 84, 85, 86, 87, 88, 89, 90, 91, 92, 93, 94, 95, 96, 97, 98, 99, 100, 101, 102, 103, 104, 105, 106, 107, 108, 109, 110, 111, 112, 113, 114, 115, 116, 117, 118, 119, 120, 121, 122, 123, 124, 125, 126, 127, 128, 129, 130, 131, 132, 133, 134, 135, 136, 137, 138, 139, 140, 141, 142, 143, 144, 145, 146, 147, 148, 149, 150, 151, 152, 153, 154, 155, 156, 157, 158, 159, 160, 161, 162, 163, 164, 165, 166, 167, 168, 169, 170, 171, 172, 173, 174, 175, 176, 177, 178, 179, 180, 181, 182, 183, 184, 185, 186, 187, 188, 189, 190, 191, 192, 193, 194] (by decide +kernel) (by decide +kernel)
set_option maxRecDepth 20000 in
theorem gX6_driver_X6_changed : GoodIn wsX6_driver (wsV RX6 71 RX6 yX6_changed wsX6_changed) := goodIn_app (goodIn_of _ (by decide +kernel)) ggX6_driver_X6_changed
theorem dX6_driver_0 : decode cX6_driver 0 = .ok (.aload_n 0, 1) := by decide +kernel
theorem dX6_driver_1 : decode cX6_driver 1 = .ok (.bipush 6, 2) := by decide +kernel
theorem dX6_driver_3 : decode cX6_driver 3 = .ok (.iload_n 1, 1) := by decide +kernel
theorem dX6_driver_4 : decode cX6_driver 4 = .ok (.iconst 0, 1) := by decide +kernel
theorem dX6_driver_5 : decode cX6_driver 5 = .ok (.invokevirtual 71, 3) := by decide +kernel
theorem dX6_driver_8 : decode cX6_driver 8 = .ok (.ireturn, 1) := by decide +kernel
set_option maxRecDepth 20000 in
theorem ggX6_sets_X6_changed : GoodIn wsX6_sets wsX6_changed := goodIn_r _ [5, 6, 7, 8, 9, 10, 11, 12, 13, 14, 15, 16, 17, 18, 19, 20, 21, 22, 23, 24, 25, 26, 27, 28, 29, 30, 31, 4, 32, 33, 34, 35, 36, 37, 38, 39, 40, 41, 42, 43, 44, 45, 46, 47, 48, 49, 50, 51, 52, 53, 54, 55, 56, 57, 58, 59, 60, 61, 62, 63, 64, 65, 66, 67, 68, 69, 70, 71, 72, 73, 74, 75, 76, 77, 78, 79, 80, 81, 82, 83, 84, 85, 86, 87, 88, 89, 90, 91, 92, 93, 94, 95, 96, 97, 98, 99, 100, 101, 102, 103, 104, 105, 106, 107, 108, 109, 110, 111, 112, 113, 114, 115, 116, 117, 118, 119, 120, 121, 122, 123, 124, 125, 126, 127, 128, 129, 130, 131, 132, 133, 134, 135, 136, 137, 138, 139, 140, 141, 142, 143, 144, 145, 146, 147, 148, 149, 150, 151, 152, 153, 154, 155, 156, 157, 158, 159, 160, 161, 162, 163, 164, 165, 166, 167, 168, 169, 170, 171, 172, 173, 174, 175, 176, 177, 178, 179, 180, 181, 182, 183, 184, 185, 186, 187, 188, 189, 190, 191, 192, 193, 194] (by decide +kernel) (by decide +kernel)
set_option maxRecDepth 20000 in
theorem gX6_sets_X6_changed : GoodIn wsX6_sets (wsV RX6 71 RX6 yX6_changed wsX6_changed) := goodIn_app (goodIn_of _ (by decide +kernel)) ggX6_sets_X6_changed
theorem dX6_sets_0 : decode cX6_sets 0 = .ok (.aload_n 0, 1) := by decide +kernel
theorem dX6_sets_1 : decode cX6_sets 1 = .ok (.bipush 8, 2) := by decide +kernel
theorem dX6_sets_3 : decode cX6_sets 3 = .ok (.iload_n 1, 1) := by decide +kernel
theorem dX6_sets_4 : decode cX6_sets 4 = .ok (.iload_n 2, 1) := by decide +kernel
theorem dX6_sets_5 : decode cX6_sets 5 = .ok (.invokevirtual 71, 3) := by decide +kernel
theorem dX6_sets_8 : decode cX6_sets 8 = .ok (.ireturn, 1) := by decide +kernel
set_option maxRecDepth 20000 in
theorem ggX6_of_X6_isGear : GoodIn wsX6_of wsX6_isGear := goodIn_r _ [6] (by decide +kernel) (by decide +kernel)
set_option maxRecDepth 20000 in
theorem gX6_of_X6_isGear : GoodIn wsX6_of (va_wsS RX6 75 yX6_isGear wsX6_isGear) := goodIn_app (goodIn_of _ (by decide +kernel)) ggX6_of_X6_isGear
set_option maxRecDepth 20000 in
theorem ggX6_of_X6_refusal : GoodIn wsX6_of wsX6_refusal := goodIn_r _ [10, 11, 12, 13, 5, 14, 40, 41, 42, 43, 44, 45, 46, 47, 48, 49] (by decide +kernel) (by decide +kernel)
set_option maxRecDepth 20000 in
theorem gX6_of_X6_refusal : GoodIn wsX6_of (wsV RX6 79 RX6 yX6_refusal wsX6_refusal) := goodIn_app (goodIn_of _ (by decide +kernel)) ggX6_of_X6_refusal
set_option maxRecDepth 20000 in
theorem ggX6_of_X1_isFit : GoodIn wsX6_of wsX1_isFit := goodIn_r _ [19, 20, 50, 51, 52] (by decide +kernel) (by decide +kernel)
set_option maxRecDepth 20000 in
theorem gX6_of_X1_isFit : GoodIn wsX6_of (wsV RX6 83 RX1 yX1_isFit wsX1_isFit) := goodIn_app (goodIn_of _ (by decide +kernel)) ggX6_of_X1_isFit
set_option maxRecDepth 20000 in
theorem ggX6_of_X1_countSimple : GoodIn wsX6_of wsX1_countSimple := goodIn_r _ [24, 25, 26, 27, 18, 28, 20, 29, 16, 17, 19, 30, 31, 32, 33, 34, 35, 36, 37, 38, 39, 50, 51, 52] (by decide +kernel) (by decide +kernel)
set_option maxRecDepth 20000 in
theorem gX6_of_X1_countSimple : GoodIn wsX6_of (wsV RX6 86 RX1 yX1_countSimple wsX1_countSimple) := goodIn_app (goodIn_of _ (by decide +kernel)) ggX6_of_X1_countSimple
theorem dX6_of_0 : decode cX6_of 0 = .ok (.iload_n 1, 1) := by decide +kernel
theorem dX6_of_1 : decode cX6_of 1 = .ok (.invokestatic 75, 3) := by decide +kernel
theorem dX6_of_4 : decode cX6_of 4 = .ok (.ifCond .ne 10, 3) := by decide +kernel
theorem dX6_of_7 : decode cX6_of 7 = .ok (.aload_n 0, 1) := by decide +kernel
theorem dX6_of_8 : decode cX6_of 8 = .ok (.bipush (-2), 2) := by decide +kernel
theorem dX6_of_10 : decode cX6_of 10 = .ok (.invokevirtual 79, 3) := by decide +kernel
theorem dX6_of_13 : decode cX6_of 13 = .ok (.ireturn, 1) := by decide +kernel
theorem dX6_of_14 : decode cX6_of 14 = .ok (.iload_n 2, 1) := by decide +kernel
theorem dX6_of_15 : decode cX6_of 15 = .ok (.tableswitch 88 0 4 #[33, 42, 59, 69, 79], 33) := by decide +kernel
theorem dX6_of_48 : decode cX6_of 48 = .ok (.aload_n 0, 1) := by decide +kernel
theorem dX6_of_49 : decode cX6_of 49 = .ok (.getfield 9, 3) := by decide +kernel
theorem dX6_of_52 : decode cX6_of 52 = .ok (.iconst 0, 1) := by decide +kernel
theorem dX6_of_53 : decode cX6_of 53 = .ok (.iload_n 1, 1) := by decide +kernel
theorem dX6_of_54 : decode cX6_of 54 = .ok (.iadd, 1) := by decide +kernel
theorem dX6_of_55 : decode cX6_of 55 = .ok (.iaload, 1) := by decide +kernel
theorem dX6_of_56 : decode cX6_of 56 = .ok (.ireturn, 1) := by decide +kernel
theorem dX6_of_57 : decode cX6_of 57 = .ok (.aload_n 0, 1) := by decide +kernel
theorem dX6_of_58 : decode cX6_of 58 = .ok (.getfield 21, 3) := by decide +kernel
theorem dX6_of_61 : decode cX6_of 61 = .ok (.iload_n 1, 1) := by decide +kernel
theorem dX6_of_62 : decode cX6_of 62 = .ok (.invokevirtual 83, 3) := by decide +kernel
theorem dX6_of_65 : decode cX6_of 65 = .ok (.ifCond .eq 7, 3) := by decide +kernel
theorem dX6_of_68 : decode cX6_of 68 = .ok (.iconst 1, 1) := by decide +kernel
theorem dX6_of_69 : decode cX6_of 69 = .ok (.goto 4, 3) := by decide +kernel
theorem dX6_of_72 : decode cX6_of 72 = .ok (.iconst 0, 1) := by decide +kernel
theorem dX6_of_73 : decode cX6_of 73 = .ok (.ireturn, 1) := by decide +kernel
theorem dX6_of_74 : decode cX6_of 74 = .ok (.aload_n 0, 1) := by decide +kernel
theorem dX6_of_75 : decode cX6_of 75 = .ok (.getfield 9, 3) := by decide +kernel
theorem dX6_of_78 : decode cX6_of 78 = .ok (.bipush 8, 2) := by decide +kernel
theorem dX6_of_80 : decode cX6_of 80 = .ok (.iload_n 1, 1) := by decide +kernel
theorem dX6_of_81 : decode cX6_of 81 = .ok (.iadd, 1) := by decide +kernel
theorem dX6_of_82 : decode cX6_of 82 = .ok (.iaload, 1) := by decide +kernel
theorem dX6_of_83 : decode cX6_of 83 = .ok (.ireturn, 1) := by decide +kernel
theorem dX6_of_84 : decode cX6_of 84 = .ok (.aload_n 0, 1) := by decide +kernel
theorem dX6_of_85 : decode cX6_of 85 = .ok (.getfield 9, 3) := by decide +kernel
theorem dX6_of_88 : decode cX6_of 88 = .ok (.bipush 16, 2) := by decide +kernel
theorem dX6_of_90 : decode cX6_of 90 = .ok (.iload_n 1, 1) := by decide +kernel
theorem dX6_of_91 : decode cX6_of 91 = .ok (.iadd, 1) := by decide +kernel
theorem dX6_of_92 : decode cX6_of 92 = .ok (.iaload, 1) := by decide +kernel
theorem dX6_of_93 : decode cX6_of 93 = .ok (.ireturn, 1) := by decide +kernel
theorem dX6_of_94 : decode cX6_of 94 = .ok (.aload_n 0, 1) := by decide +kernel
theorem dX6_of_95 : decode cX6_of 95 = .ok (.getfield 21, 3) := by decide +kernel
theorem dX6_of_98 : decode cX6_of 98 = .ok (.iload_n 1, 1) := by decide +kernel
theorem dX6_of_99 : decode cX6_of 99 = .ok (.invokevirtual 86, 3) := by decide +kernel
theorem dX6_of_102 : decode cX6_of 102 = .ok (.ireturn, 1) := by decide +kernel
theorem dX6_of_103 : decode cX6_of 103 = .ok (.aload_n 0, 1) := by decide +kernel
theorem dX6_of_104 : decode cX6_of 104 = .ok (.bipush (-2), 2) := by decide +kernel
theorem dX6_of_106 : decode cX6_of 106 = .ok (.invokevirtual 79, 3) := by decide +kernel
theorem dX6_of_109 : decode cX6_of 109 = .ok (.ireturn, 1) := by decide +kernel
set_option maxRecDepth 20000 in
theorem ggX6_clutch_X6_isClutch : GoodIn wsX6_clutch wsX6_isClutch := goodIn_r _ [6] (by decide +kernel) (by decide +kernel)
set_option maxRecDepth 20000 in
theorem gX6_clutch_X6_isClutch : GoodIn wsX6_clutch (va_wsS RX6 89 yX6_isClutch wsX6_isClutch) := goodIn_app (goodIn_of _ (by decide +kernel)) ggX6_clutch_X6_isClutch
set_option maxRecDepth 20000 in
theorem ggX6_clutch_X6_refusal : GoodIn wsX6_clutch wsX6_refusal := goodIn_r _ [10, 11, 12, 13, 5, 14, 21, 22, 23, 24, 25, 26, 27, 28, 29, 30] (by decide +kernel) (by decide +kernel)
set_option maxRecDepth 20000 in
theorem gX6_clutch_X6_refusal : GoodIn wsX6_clutch (wsV RX6 79 RX6 yX6_refusal wsX6_refusal) := goodIn_app (goodIn_of _ (by decide +kernel)) ggX6_clutch_X6_refusal
set_option maxRecDepth 20000 in
theorem ggX6_clutch_X1_countClosing : GoodIn wsX6_clutch wsX1_countClosing := goodIn_r _ [19, 20, 31, 32, 33] (by decide +kernel) (by decide +kernel)
set_option maxRecDepth 20000 in
theorem gX6_clutch_X1_countClosing : GoodIn wsX6_clutch (wsV RX6 92 RX1 yX1_countClosing wsX1_countClosing) := goodIn_app (goodIn_of _ (by decide +kernel)) ggX6_clutch_X1_countClosing
theorem dX6_clutch_0 : decode cX6_clutch 0 = .ok (.iload_n 1, 1) := by decide +kernel
theorem dX6_clutch_1 : decode cX6_clutch 1 = .ok (.invokestatic 89, 3) := by decide +kernel
theorem dX6_clutch_4 : decode cX6_clutch 4 = .ok (.ifCond .ne 10, 3) := by decide +kernel
theorem dX6_clutch_7 : decode cX6_clutch 7 = .ok (.aload_n 0, 1) := by decide +kernel
theorem dX6_clutch_8 : decode cX6_clutch 8 = .ok (.bipush (-2), 2) := by decide +kernel
theorem dX6_clutch_10 : decode cX6_clutch 10 = .ok (.invokevirtual 79, 3) := by decide +kernel
theorem dX6_clutch_13 : decode cX6_clutch 13 = .ok (.ireturn, 1) := by decide +kernel
theorem dX6_clutch_14 : decode cX6_clutch 14 = .ok (.iload_n 2, 1) := by decide +kernel
theorem dX6_clutch_15 : decode cX6_clutch 15 = .ok (.tableswitch 68 0 3 #[29, 39, 49, 59], 29) := by decide +kernel
theorem dX6_clutch_44 : decode cX6_clutch 44 = .ok (.aload_n 0, 1) := by decide +kernel
theorem dX6_clutch_45 : decode cX6_clutch 45 = .ok (.getfield 9, 3) := by decide +kernel
theorem dX6_clutch_48 : decode cX6_clutch 48 = .ok (.bipush 24, 2) := by decide +kernel
theorem dX6_clutch_50 : decode cX6_clutch 50 = .ok (.iload_n 1, 1) := by decide +kernel
theorem dX6_clutch_51 : decode cX6_clutch 51 = .ok (.iadd, 1) := by decide +kernel
theorem dX6_clutch_52 : decode cX6_clutch 52 = .ok (.iaload, 1) := by decide +kernel
theorem dX6_clutch_53 : decode cX6_clutch 53 = .ok (.ireturn, 1) := by decide +kernel
theorem dX6_clutch_54 : decode cX6_clutch 54 = .ok (.aload_n 0, 1) := by decide +kernel
theorem dX6_clutch_55 : decode cX6_clutch 55 = .ok (.getfield 9, 3) := by decide +kernel
theorem dX6_clutch_58 : decode cX6_clutch 58 = .ok (.bipush 29, 2) := by decide +kernel
theorem dX6_clutch_60 : decode cX6_clutch 60 = .ok (.iload_n 1, 1) := by decide +kernel
theorem dX6_clutch_61 : decode cX6_clutch 61 = .ok (.iadd, 1) := by decide +kernel
theorem dX6_clutch_62 : decode cX6_clutch 62 = .ok (.iaload, 1) := by decide +kernel
theorem dX6_clutch_63 : decode cX6_clutch 63 = .ok (.ireturn, 1) := by decide +kernel
theorem dX6_clutch_64 : decode cX6_clutch 64 = .ok (.aload_n 0, 1) := by decide +kernel
theorem dX6_clutch_65 : decode cX6_clutch 65 = .ok (.getfield 9, 3) := by decide +kernel
theorem dX6_clutch_68 : decode cX6_clutch 68 = .ok (.bipush 34, 2) := by decide +kernel
theorem dX6_clutch_70 : decode cX6_clutch 70 = .ok (.iload_n 1, 1) := by decide +kernel
theorem dX6_clutch_71 : decode cX6_clutch 71 = .ok (.iadd, 1) := by decide +kernel
theorem dX6_clutch_72 : decode cX6_clutch 72 = .ok (.iaload, 1) := by decide +kernel
theorem dX6_clutch_73 : decode cX6_clutch 73 = .ok (.ireturn, 1) := by decide +kernel
theorem dX6_clutch_74 : decode cX6_clutch 74 = .ok (.aload_n 0, 1) := by decide +kernel
theorem dX6_clutch_75 : decode cX6_clutch 75 = .ok (.getfield 21, 3) := by decide +kernel
theorem dX6_clutch_78 : decode cX6_clutch 78 = .ok (.iload_n 1, 1) := by decide +kernel
theorem dX6_clutch_79 : decode cX6_clutch 79 = .ok (.invokevirtual 92, 3) := by decide +kernel
theorem dX6_clutch_82 : decode cX6_clutch 82 = .ok (.ireturn, 1) := by decide +kernel
theorem dX6_clutch_83 : decode cX6_clutch 83 = .ok (.aload_n 0, 1) := by decide +kernel
theorem dX6_clutch_84 : decode cX6_clutch 84 = .ok (.bipush (-2), 2) := by decide +kernel
theorem dX6_clutch_86 : decode cX6_clutch 86 = .ok (.invokevirtual 79, 3) := by decide +kernel
theorem dX6_clutch_89 : decode cX6_clutch 89 = .ok (.ireturn, 1) := by decide +kernel
set_option maxRecDepth 20000 in
theorem ggX6_ties_X6_isWithin : GoodIn wsX6_ties wsX6_isWithin := goodIn_r _ [5] (by decide +kernel) (by decide +kernel)
set_option maxRecDepth 20000 in
theorem gX6_ties_X6_isWithin : GoodIn wsX6_ties (va_wsS RX6 95 yX6_isWithin wsX6_isWithin) := goodIn_app (goodIn_of _ (by decide +kernel)) ggX6_ties_X6_isWithin
set_option maxRecDepth 20000 in
theorem ggX6_ties_X6_refusal : GoodIn wsX6_ties wsX6_refusal := goodIn_r _ [9, 10, 2, 3, 4, 5, 17, 18, 19, 20, 21, 22, 23, 24, 25, 26] (by decide +kernel) (by decide +kernel)
set_option maxRecDepth 20000 in
theorem gX6_ties_X6_refusal : GoodIn wsX6_ties (wsV RX6 79 RX6 yX6_refusal wsX6_refusal) := goodIn_app (goodIn_of _ (by decide +kernel)) ggX6_ties_X6_refusal
set_option maxRecDepth 20000 in
theorem ggX6_ties_X1_countWithin : GoodIn wsX6_ties wsX1_countWithin := goodIn_r _ [15, 16, 27, 28, 29] (by decide +kernel) (by decide +kernel)
set_option maxRecDepth 20000 in
theorem gX6_ties_X1_countWithin : GoodIn wsX6_ties (wsV RX6 99 RX1 yX1_countWithin wsX1_countWithin) := goodIn_app (goodIn_of _ (by decide +kernel)) ggX6_ties_X1_countWithin
theorem dX6_ties_0 : decode cX6_ties 0 = .ok (.iload_n 1, 1) := by decide +kernel
theorem dX6_ties_1 : decode cX6_ties 1 = .ok (.iconst 0, 1) := by decide +kernel
theorem dX6_ties_2 : decode cX6_ties 2 = .ok (.bipush 31, 2) := by decide +kernel
theorem dX6_ties_4 : decode cX6_ties 4 = .ok (.invokestatic 95, 3) := by decide +kernel
theorem dX6_ties_7 : decode cX6_ties 7 = .ok (.ifCond .ne 10, 3) := by decide +kernel
theorem dX6_ties_10 : decode cX6_ties 10 = .ok (.aload_n 0, 1) := by decide +kernel
theorem dX6_ties_11 : decode cX6_ties 11 = .ok (.bipush (-2), 2) := by decide +kernel
theorem dX6_ties_13 : decode cX6_ties 13 = .ok (.invokevirtual 79, 3) := by decide +kernel
theorem dX6_ties_16 : decode cX6_ties 16 = .ok (.ireturn, 1) := by decide +kernel
theorem dX6_ties_17 : decode cX6_ties 17 = .ok (.aload_n 0, 1) := by decide +kernel
theorem dX6_ties_18 : decode cX6_ties 18 = .ok (.getfield 21, 3) := by decide +kernel
theorem dX6_ties_21 : decode cX6_ties 21 = .ok (.iload_n 1, 1) := by decide +kernel
theorem dX6_ties_22 : decode cX6_ties 22 = .ok (.invokevirtual 99, 3) := by decide +kernel
theorem dX6_ties_25 : decode cX6_ties 25 = .ok (.iconst 2, 1) := by decide +kernel
theorem dX6_ties_26 : decode cX6_ties 26 = .ok (.if_icmp .lt 7, 3) := by decide +kernel
theorem dX6_ties_29 : decode cX6_ties 29 = .ok (.iconst 1, 1) := by decide +kernel
theorem dX6_ties_30 : decode cX6_ties 30 = .ok (.goto 4, 3) := by decide +kernel
theorem dX6_ties_33 : decode cX6_ties 33 = .ok (.iconst 0, 1) := by decide +kernel
theorem dX6_ties_34 : decode cX6_ties 34 = .ok (.ireturn, 1) := by decide +kernel
set_option maxRecDepth 20000 in
theorem ggX6_simple_X6_arePair : GoodIn wsX6_simple wsX6_arePair := goodIn_r _ [5, 6, 7, 4, 8] (by decide +kernel) (by decide +kernel)
set_option maxRecDepth 20000 in
theorem gX6_simple_X6_arePair : GoodIn wsX6_simple (va_wsS RX6 102 yX6_arePair wsX6_arePair) := goodIn_app (goodIn_of _ (by decide +kernel)) ggX6_simple_X6_arePair
set_option maxRecDepth 20000 in
theorem ggX6_simple_X6_refusal : GoodIn wsX6_simple wsX6_refusal := goodIn_r _ [12, 13, 14, 15, 4, 16, 46, 47, 48, 49, 50, 51, 52, 53, 54, 55] (by decide +kernel) (by decide +kernel)
set_option maxRecDepth 20000 in
theorem gX6_simple_X6_refusal : GoodIn wsX6_simple (wsV RX6 79 RX6 yX6_refusal wsX6_refusal) := goodIn_app (goodIn_of _ (by decide +kernel)) ggX6_simple_X6_refusal
set_option maxRecDepth 20000 in
theorem ggX6_simple_X1_isSimple : GoodIn wsX6_simple wsX1_isSimple := goodIn_r _ [21, 22, 23, 24, 25, 20, 26, 27, 28, 29, 30, 31, 32, 33, 34, 35, 36, 56, 57, 58] (by decide +kernel) (by decide +kernel)
set_option maxRecDepth 20000 in
theorem gX6_simple_X1_isSimple : GoodIn wsX6_simple (wsV RX6 106 RX1 yX1_isSimple wsX1_isSimple) := goodIn_app (goodIn_of _ (by decide +kernel)) ggX6_simple_X1_isSimple
set_option maxRecDepth 20000 in
theorem ggX6_simple_X1_coming : GoodIn wsX6_simple wsX1_coming := goodIn_r _ [40, 22, 41, 18, 19, 20, 21, 23, 24, 25, 26, 27, 28, 29, 30, 31, 32, 33, 34, 35, 36, 42, 43, 44, 45, 56, 57, 58] (by decide +kernel) (by decide +kernel)
set_option maxRecDepth 20000 in
theorem gX6_simple_X1_coming : GoodIn wsX6_simple (wsV RX6 109 RX1 yX1_coming wsX1_coming) := goodIn_app (goodIn_of _ (by decide +kernel)) ggX6_simple_X1_coming
theorem dX6_simple_0 : decode cX6_simple 0 = .ok (.iload_n 1, 1) := by decide +kernel
theorem dX6_simple_1 : decode cX6_simple 1 = .ok (.iload_n 2, 1) := by decide +kernel
theorem dX6_simple_2 : decode cX6_simple 2 = .ok (.invokestatic 102, 3) := by decide +kernel
theorem dX6_simple_5 : decode cX6_simple 5 = .ok (.ifCond .ne 10, 3) := by decide +kernel
theorem dX6_simple_8 : decode cX6_simple 8 = .ok (.aload_n 0, 1) := by decide +kernel
theorem dX6_simple_9 : decode cX6_simple 9 = .ok (.bipush (-2), 2) := by decide +kernel
theorem dX6_simple_11 : decode cX6_simple 11 = .ok (.invokevirtual 79, 3) := by decide +kernel
theorem dX6_simple_14 : decode cX6_simple 14 = .ok (.ireturn, 1) := by decide +kernel
theorem dX6_simple_15 : decode cX6_simple 15 = .ok (.iload_n 3, 1) := by decide +kernel
theorem dX6_simple_16 : decode cX6_simple 16 = .ok (.tableswitch 66 0 2 #[28, 46, 56], 28) := by decide +kernel
theorem dX6_simple_44 : decode cX6_simple 44 = .ok (.aload_n 0, 1) := by decide +kernel
theorem dX6_simple_45 : decode cX6_simple 45 = .ok (.getfield 21, 3) := by decide +kernel
theorem dX6_simple_48 : decode cX6_simple 48 = .ok (.iload_n 1, 1) := by decide +kernel
theorem dX6_simple_49 : decode cX6_simple 49 = .ok (.iload_n 2, 1) := by decide +kernel
theorem dX6_simple_50 : decode cX6_simple 50 = .ok (.invokevirtual 106, 3) := by decide +kernel
theorem dX6_simple_53 : decode cX6_simple 53 = .ok (.ifCond .eq 7, 3) := by decide +kernel
theorem dX6_simple_56 : decode cX6_simple 56 = .ok (.iconst 1, 1) := by decide +kernel
theorem dX6_simple_57 : decode cX6_simple 57 = .ok (.goto 4, 3) := by decide +kernel
theorem dX6_simple_60 : decode cX6_simple 60 = .ok (.iconst 0, 1) := by decide +kernel
theorem dX6_simple_61 : decode cX6_simple 61 = .ok (.ireturn, 1) := by decide +kernel
theorem dX6_simple_62 : decode cX6_simple 62 = .ok (.aload_n 0, 1) := by decide +kernel
theorem dX6_simple_63 : decode cX6_simple 63 = .ok (.getfield 21, 3) := by decide +kernel
theorem dX6_simple_66 : decode cX6_simple 66 = .ok (.iload_n 1, 1) := by decide +kernel
theorem dX6_simple_67 : decode cX6_simple 67 = .ok (.iload_n 2, 1) := by decide +kernel
theorem dX6_simple_68 : decode cX6_simple 68 = .ok (.invokevirtual 109, 3) := by decide +kernel
theorem dX6_simple_71 : decode cX6_simple 71 = .ok (.ireturn, 1) := by decide +kernel
theorem dX6_simple_72 : decode cX6_simple 72 = .ok (.aload_n 0, 1) := by decide +kernel
theorem dX6_simple_73 : decode cX6_simple 73 = .ok (.getfield 21, 3) := by decide +kernel
theorem dX6_simple_76 : decode cX6_simple 76 = .ok (.iload_n 2, 1) := by decide +kernel
theorem dX6_simple_77 : decode cX6_simple 77 = .ok (.iload_n 1, 1) := by decide +kernel
theorem dX6_simple_78 : decode cX6_simple 78 = .ok (.invokevirtual 109, 3) := by decide +kernel
theorem dX6_simple_81 : decode cX6_simple 81 = .ok (.ireturn, 1) := by decide +kernel
theorem dX6_simple_82 : decode cX6_simple 82 = .ok (.aload_n 0, 1) := by decide +kernel
theorem dX6_simple_83 : decode cX6_simple 83 = .ok (.bipush (-2), 2) := by decide +kernel
theorem dX6_simple_85 : decode cX6_simple 85 = .ok (.invokevirtual 79, 3) := by decide +kernel
theorem dX6_simple_88 : decode cX6_simple 88 = .ok (.ireturn, 1) := by decide +kernel
set_option maxRecDepth 20000 in
theorem ggX6_way_X6_arePair : GoodIn wsX6_way wsX6_arePair := goodIn_r _ [5, 6, 7, 4, 8] (by decide +kernel) (by decide +kernel)
set_option maxRecDepth 20000 in
theorem gX6_way_X6_arePair : GoodIn wsX6_way (va_wsS RX6 102 yX6_arePair wsX6_arePair) := goodIn_app (goodIn_of _ (by decide +kernel)) ggX6_way_X6_arePair
set_option maxRecDepth 20000 in
theorem ggX6_way_X6_refusal : GoodIn wsX6_way wsX6_refusal := goodIn_r _ [12, 13, 14, 15, 4, 16, 56, 57, 58, 59, 60, 61, 62, 63, 64, 65] (by decide +kernel) (by decide +kernel)
set_option maxRecDepth 20000 in
theorem gX6_way_X6_refusal : GoodIn wsX6_way (wsV RX6 79 RX6 yX6_refusal wsX6_refusal) := goodIn_app (goodIn_of _ (by decide +kernel)) ggX6_way_X6_refusal
set_option maxRecDepth 20000 in
theorem ggX6_way_X1_isFit : GoodIn wsX6_way wsX1_isFit := goodIn_r _ [21, 22, 66, 67, 68] (by decide +kernel) (by decide +kernel)
set_option maxRecDepth 20000 in
theorem gX6_way_X1_isFit : GoodIn wsX6_way (wsV RX6 83 RX1 yX1_isFit wsX1_isFit) := goodIn_app (goodIn_of _ (by decide +kernel)) ggX6_way_X1_isFit
set_option maxRecDepth 20000 in
theorem ggX6_way_X1_findWay : GoodIn wsX6_way wsX1_findWay := goodIn_r _ [26, 27, 28, 29, 30, 31, 32, 33, 34, 35, 20, 36, 37, 18, 19, 21, 22, 38, 39, 40, 41, 42, 43, 44, 45, 46, 47, 48, 49, 50, 51, 7, 4, 8, 66, 67, 68] (by decide +kernel) (by decide +kernel)
set_option maxRecDepth 20000 in
theorem gX6_way_X1_findWay : GoodIn wsX6_way (wsV RX6 113 RX1 yX1_findWay wsX1_findWay) := goodIn_app (goodIn_of _ (by decide +kernel)) ggX6_way_X1_findWay
set_option maxRecDepth 20000 in
theorem ggX6_way_X1_onWay : GoodIn wsX6_way wsX1_onWay := goodIn_r _ [55, 32, 66, 67, 68] (by decide +kernel) (by decide +kernel)
set_option maxRecDepth 20000 in
theorem gX6_way_X1_onWay : GoodIn wsX6_way (wsV RX6 116 RX1 yX1_onWay wsX1_onWay) := goodIn_app (goodIn_of _ (by decide +kernel)) ggX6_way_X1_onWay
theorem dX6_way_0 : decode cX6_way 0 = .ok (.iload_n 1, 1) := by decide +kernel
theorem dX6_way_1 : decode cX6_way 1 = .ok (.iload_n 2, 1) := by decide +kernel
theorem dX6_way_2 : decode cX6_way 2 = .ok (.invokestatic 102, 3) := by decide +kernel
theorem dX6_way_5 : decode cX6_way 5 = .ok (.ifCond .eq 8, 3) := by decide +kernel
theorem dX6_way_8 : decode cX6_way 8 = .ok (.iload_n 3, 1) := by decide +kernel
theorem dX6_way_9 : decode cX6_way 9 = .ok (.iconst (-1), 1) := by decide +kernel
theorem dX6_way_10 : decode cX6_way 10 = .ok (.if_icmp .ge 10, 3) := by decide +kernel
theorem dX6_way_13 : decode cX6_way 13 = .ok (.aload_n 0, 1) := by decide +kernel
theorem dX6_way_14 : decode cX6_way 14 = .ok (.bipush (-2), 2) := by decide +kernel
theorem dX6_way_16 : decode cX6_way 16 = .ok (.invokevirtual 79, 3) := by decide +kernel
theorem dX6_way_19 : decode cX6_way 19 = .ok (.ireturn, 1) := by decide +kernel
theorem dX6_way_20 : decode cX6_way 20 = .ok (.aload_n 0, 1) := by decide +kernel
theorem dX6_way_21 : decode cX6_way 21 = .ok (.getfield 21, 3) := by decide +kernel
theorem dX6_way_24 : decode cX6_way 24 = .ok (.iload_n 1, 1) := by decide +kernel
theorem dX6_way_25 : decode cX6_way 25 = .ok (.invokevirtual 83, 3) := by decide +kernel
theorem dX6_way_28 : decode cX6_way 28 = .ok (.ifCond .eq 14, 3) := by decide +kernel
theorem dX6_way_31 : decode cX6_way 31 = .ok (.aload_n 0, 1) := by decide +kernel
theorem dX6_way_32 : decode cX6_way 32 = .ok (.getfield 21, 3) := by decide +kernel
theorem dX6_way_35 : decode cX6_way 35 = .ok (.iload_n 2, 1) := by decide +kernel
theorem dX6_way_36 : decode cX6_way 36 = .ok (.invokevirtual 83, 3) := by decide +kernel
theorem dX6_way_39 : decode cX6_way 39 = .ok (.ifCond .ne 10, 3) := by decide +kernel
theorem dX6_way_42 : decode cX6_way 42 = .ok (.aload_n 0, 1) := by decide +kernel
theorem dX6_way_43 : decode cX6_way 43 = .ok (.bipush (-3), 2) := by decide +kernel
theorem dX6_way_45 : decode cX6_way 45 = .ok (.invokevirtual 79, 3) := by decide +kernel
theorem dX6_way_48 : decode cX6_way 48 = .ok (.ireturn, 1) := by decide +kernel
theorem dX6_way_49 : decode cX6_way 49 = .ok (.aload_n 0, 1) := by decide +kernel
theorem dX6_way_50 : decode cX6_way 50 = .ok (.getfield 21, 3) := by decide +kernel
theorem dX6_way_53 : decode cX6_way 53 = .ok (.iload_n 1, 1) := by decide +kernel
theorem dX6_way_54 : decode cX6_way 54 = .ok (.iload_n 2, 1) := by decide +kernel
theorem dX6_way_55 : decode cX6_way 55 = .ok (.invokevirtual 113, 3) := by decide +kernel
theorem dX6_way_58 : decode cX6_way 58 = .ok (.istore 4, 2) := by decide +kernel
theorem dX6_way_60 : decode cX6_way 60 = .ok (.iload 4, 2) := by decide +kernel
theorem dX6_way_62 : decode cX6_way 62 = .ok (.ifCond .eq 9, 3) := by decide +kernel
theorem dX6_way_65 : decode cX6_way 65 = .ok (.iload_n 3, 1) := by decide +kernel
theorem dX6_way_66 : decode cX6_way 66 = .ok (.iload 4, 2) := by decide +kernel
theorem dX6_way_68 : decode cX6_way 68 = .ok (.if_icmp .lt 6, 3) := by decide +kernel
theorem dX6_way_71 : decode cX6_way 71 = .ok (.bipush (-5), 2) := by decide +kernel
theorem dX6_way_73 : decode cX6_way 73 = .ok (.ireturn, 1) := by decide +kernel
theorem dX6_way_74 : decode cX6_way 74 = .ok (.iload_n 3, 1) := by decide +kernel
theorem dX6_way_75 : decode cX6_way 75 = .ok (.iconst (-1), 1) := by decide +kernel
theorem dX6_way_76 : decode cX6_way 76 = .ok (.if_icmp .ne 8, 3) := by decide +kernel
theorem dX6_way_79 : decode cX6_way 79 = .ok (.iload 4, 2) := by decide +kernel
theorem dX6_way_81 : decode cX6_way 81 = .ok (.goto 11, 3) := by decide +kernel
theorem dX6_way_84 : decode cX6_way 84 = .ok (.aload_n 0, 1) := by decide +kernel
theorem dX6_way_85 : decode cX6_way 85 = .ok (.getfield 21, 3) := by decide +kernel
theorem dX6_way_88 : decode cX6_way 88 = .ok (.iload_n 3, 1) := by decide +kernel
theorem dX6_way_89 : decode cX6_way 89 = .ok (.invokevirtual 116, 3) := by decide +kernel
theorem dX6_way_92 : decode cX6_way 92 = .ok (.ireturn, 1) := by decide +kernel
set_option maxRecDepth 20000 in
theorem ggX6_over_X6_arePair : GoodIn wsX6_over wsX6_arePair := goodIn_r _ [6, 7, 8, 5, 9] (by decide +kernel) (by decide +kernel)
set_option maxRecDepth 20000 in
theorem gX6_over_X6_arePair : GoodIn wsX6_over (va_wsS RX6 102 yX6_arePair wsX6_arePair) := goodIn_app (goodIn_of _ (by decide +kernel)) ggX6_over_X6_arePair
set_option maxRecDepth 20000 in
theorem ggX6_over_X6_isWithin : GoodIn wsX6_over wsX6_isWithin := goodIn_r _ [12] (by decide +kernel) (by decide +kernel)
set_option maxRecDepth 20000 in
theorem gX6_over_X6_isWithin : GoodIn wsX6_over (va_wsS RX6 95 yX6_isWithin wsX6_isWithin) := goodIn_app (goodIn_of _ (by decide +kernel)) ggX6_over_X6_isWithin
set_option maxRecDepth 20000 in
theorem ggX6_over_X6_refusal : GoodIn wsX6_over wsX6_refusal := goodIn_r _ [16, 17, 10, 11, 5, 12, 62, 63, 64, 65, 66, 67, 68, 69, 70, 71] (by decide +kernel) (by decide +kernel)
set_option maxRecDepth 20000 in
theorem gX6_over_X6_refusal : GoodIn wsX6_over (wsV RX6 79 RX6 yX6_refusal wsX6_refusal) := goodIn_app (goodIn_of _ (by decide +kernel)) ggX6_over_X6_refusal
set_option maxRecDepth 20000 in
theorem ggX6_over_X1_coming : GoodIn wsX6_over wsX1_coming := goodIn_r _ [22, 23, 24, 25, 26, 21, 27, 28, 29, 30, 31, 32, 33, 34, 35, 36, 37, 38, 39, 40, 41, 42, 43, 44, 45, 72, 73, 74] (by decide +kernel) (by decide +kernel)
set_option maxRecDepth 20000 in
theorem gX6_over_X1_coming : GoodIn wsX6_over (wsV RX6 109 RX1 yX1_coming wsX1_coming) := goodIn_app (goodIn_of _ (by decide +kernel)) ggX6_over_X1_coming
set_option maxRecDepth 20000 in
theorem ggX6_over_X6_isClutch : GoodIn wsX6_over wsX6_isClutch := goodIn_r _ [48] (by decide +kernel) (by decide +kernel)
set_option maxRecDepth 20000 in
theorem gX6_over_X6_isClutch : GoodIn wsX6_over (va_wsS RX6 89 yX6_isClutch wsX6_isClutch) := goodIn_app (goodIn_of _ (by decide +kernel)) ggX6_over_X6_isClutch
set_option maxRecDepth 20000 in
theorem ggX6_over_X3_overAt : GoodIn wsX6_over wsX3_overAt := goodIn_r _ [53, 54, 55, 56, 57, 58, 59, 60, 61, 47, 5, 48, 75] (by decide +kernel) (by decide +kernel)
set_option maxRecDepth 20000 in
theorem gX6_over_X3_overAt : GoodIn wsX6_over (wsV RX6 119 RX3 yX3_overAt wsX3_overAt) := goodIn_app (goodIn_of _ (by decide +kernel)) ggX6_over_X3_overAt
theorem dX6_over_0 : decode cX6_over 0 = .ok (.iload_n 1, 1) := by decide +kernel
theorem dX6_over_1 : decode cX6_over 1 = .ok (.iload_n 2, 1) := by decide +kernel
theorem dX6_over_2 : decode cX6_over 2 = .ok (.invokestatic 102, 3) := by decide +kernel
theorem dX6_over_5 : decode cX6_over 5 = .ok (.ifCond .eq 13, 3) := by decide +kernel
theorem dX6_over_8 : decode cX6_over 8 = .ok (.iload_n 3, 1) := by decide +kernel
theorem dX6_over_9 : decode cX6_over 9 = .ok (.iconst 0, 1) := by decide +kernel
theorem dX6_over_10 : decode cX6_over 10 = .ok (.bipush 40, 2) := by decide +kernel
theorem dX6_over_12 : decode cX6_over 12 = .ok (.invokestatic 95, 3) := by decide +kernel
theorem dX6_over_15 : decode cX6_over 15 = .ok (.ifCond .ne 10, 3) := by decide +kernel
theorem dX6_over_18 : decode cX6_over 18 = .ok (.aload_n 0, 1) := by decide +kernel
theorem dX6_over_19 : decode cX6_over 19 = .ok (.bipush (-2), 2) := by decide +kernel
theorem dX6_over_21 : decode cX6_over 21 = .ok (.invokevirtual 79, 3) := by decide +kernel
theorem dX6_over_24 : decode cX6_over 24 = .ok (.ireturn, 1) := by decide +kernel
theorem dX6_over_25 : decode cX6_over 25 = .ok (.aload_n 0, 1) := by decide +kernel
theorem dX6_over_26 : decode cX6_over 26 = .ok (.getfield 21, 3) := by decide +kernel
theorem dX6_over_29 : decode cX6_over 29 = .ok (.iload_n 1, 1) := by decide +kernel
theorem dX6_over_30 : decode cX6_over 30 = .ok (.iload_n 2, 1) := by decide +kernel
theorem dX6_over_31 : decode cX6_over 31 = .ok (.invokevirtual 109, 3) := by decide +kernel
theorem dX6_over_34 : decode cX6_over 34 = .ok (.istore 4, 2) := by decide +kernel
theorem dX6_over_36 : decode cX6_over 36 = .ok (.iload 4, 2) := by decide +kernel
theorem dX6_over_38 : decode cX6_over 38 = .ok (.invokestatic 89, 3) := by decide +kernel
theorem dX6_over_41 : decode cX6_over 41 = .ok (.ifCond .eq 20, 3) := by decide +kernel
theorem dX6_over_44 : decode cX6_over 44 = .ok (.aload_n 0, 1) := by decide +kernel
theorem dX6_over_45 : decode cX6_over 45 = .ok (.getfield 28, 3) := by decide +kernel
theorem dX6_over_48 : decode cX6_over 48 = .ok (.iload 4, 2) := by decide +kernel
theorem dX6_over_50 : decode cX6_over 50 = .ok (.iload_n 3, 1) := by decide +kernel
theorem dX6_over_51 : decode cX6_over 51 = .ok (.invokevirtual 119, 3) := by decide +kernel
theorem dX6_over_54 : decode cX6_over 54 = .ok (.sipush 1000, 3) := by decide +kernel
theorem dX6_over_57 : decode cX6_over 57 = .ok (.iadd, 1) := by decide +kernel
theorem dX6_over_58 : decode cX6_over 58 = .ok (.goto 9, 3) := by decide +kernel
theorem dX6_over_61 : decode cX6_over 61 = .ok (.aload_n 0, 1) := by decide +kernel
theorem dX6_over_62 : decode cX6_over 62 = .ok (.bipush (-3), 2) := by decide +kernel
theorem dX6_over_64 : decode cX6_over 64 = .ok (.invokevirtual 79, 3) := by decide +kernel
theorem dX6_over_67 : decode cX6_over 67 = .ok (.ireturn, 1) := by decide +kernel
set_option maxRecDepth 20000 in
theorem ggX6_worst_X6_arePair : GoodIn wsX6_worst wsX6_arePair := goodIn_r _ [6, 7, 8, 5, 9] (by decide +kernel) (by decide +kernel)
set_option maxRecDepth 20000 in
theorem gX6_worst_X6_arePair : GoodIn wsX6_worst (va_wsS RX6 102 yX6_arePair wsX6_arePair) := goodIn_app (goodIn_of _ (by decide +kernel)) ggX6_worst_X6_arePair
set_option maxRecDepth 20000 in
theorem ggX6_worst_X6_isWithin : GoodIn wsX6_worst wsX6_isWithin := goodIn_r _ [12] (by decide +kernel) (by decide +kernel)
set_option maxRecDepth 20000 in
theorem gX6_worst_X6_isWithin : GoodIn wsX6_worst (va_wsS RX6 95 yX6_isWithin wsX6_isWithin) := goodIn_app (goodIn_of _ (by decide +kernel)) ggX6_worst_X6_isWithin
set_option maxRecDepth 20000 in
theorem ggX6_worst_X6_refusal : GoodIn wsX6_worst wsX6_refusal := goodIn_r _ [16, 17, 10, 11, 5, 12, 70, 71, 72, 73, 74, 75, 76, 77, 78, 79] (by decide +kernel) (by decide +kernel)
set_option maxRecDepth 20000 in
theorem gX6_worst_X6_refusal : GoodIn wsX6_worst (wsV RX6 79 RX6 yX6_refusal wsX6_refusal) := goodIn_app (goodIn_of _ (by decide +kernel)) ggX6_worst_X6_refusal
set_option maxRecDepth 20000 in
theorem ggX6_worst_X1_coming : GoodIn wsX6_worst wsX1_coming := goodIn_r _ [22, 23, 24, 25, 26, 21, 27, 28, 29, 30, 31, 32, 33, 34, 35, 36, 37, 38, 39, 40, 41, 42, 43, 44, 45, 80, 81, 82] (by decide +kernel) (by decide +kernel)
set_option maxRecDepth 20000 in
theorem gX6_worst_X1_coming : GoodIn wsX6_worst (wsV RX6 109 RX1 yX1_coming wsX1_coming) := goodIn_app (goodIn_of _ (by decide +kernel)) ggX6_worst_X1_coming
set_option maxRecDepth 20000 in
theorem ggX6_worst_X6_isClutch : GoodIn wsX6_worst wsX6_isClutch := goodIn_r _ [48] (by decide +kernel) (by decide +kernel)
set_option maxRecDepth 20000 in
theorem gX6_worst_X6_isClutch : GoodIn wsX6_worst (va_wsS RX6 89 yX6_isClutch wsX6_isClutch) := goodIn_app (goodIn_of _ (by decide +kernel)) ggX6_worst_X6_isClutch
set_option maxRecDepth 20000 in
theorem ggX6_worst_X3_flare : GoodIn wsX6_worst wsX3_flare := goodIn_r _ [53, 54, 55, 56, 57, 58, 59, 60, 52, 61, 62, 63, 64, 65, 47, 5, 48, 83] (by decide +kernel) (by decide +kernel)
set_option maxRecDepth 20000 in
theorem gX6_worst_X3_flare : GoodIn wsX6_worst (wsV RX6 122 RX3 yX3_flare wsX3_flare) := goodIn_app (goodIn_of _ (by decide +kernel)) ggX6_worst_X3_flare
set_option maxRecDepth 20000 in
theorem ggX6_worst_X3_bind : GoodIn wsX6_worst wsX3_bind := goodIn_r _ [69, 63, 64, 56, 65, 58, 59, 60, 52, 61, 62, 54, 55, 57, 47, 5, 48, 83] (by decide +kernel) (by decide +kernel)
set_option maxRecDepth 20000 in
theorem gX6_worst_X3_bind : GoodIn wsX6_worst (wsV RX6 125 RX3 yX3_bind wsX3_bind) := goodIn_app (goodIn_of _ (by decide +kernel)) ggX6_worst_X3_bind
theorem dX6_worst_0 : decode cX6_worst 0 = .ok (.iload_n 1, 1) := by decide +kernel
theorem dX6_worst_1 : decode cX6_worst 1 = .ok (.iload_n 2, 1) := by decide +kernel
theorem dX6_worst_2 : decode cX6_worst 2 = .ok (.invokestatic 102, 3) := by decide +kernel
theorem dX6_worst_5 : decode cX6_worst 5 = .ok (.ifCond .eq 12, 3) := by decide +kernel
theorem dX6_worst_8 : decode cX6_worst 8 = .ok (.iload_n 3, 1) := by decide +kernel
theorem dX6_worst_9 : decode cX6_worst 9 = .ok (.iconst 0, 1) := by decide +kernel
theorem dX6_worst_10 : decode cX6_worst 10 = .ok (.iconst 1, 1) := by decide +kernel
theorem dX6_worst_11 : decode cX6_worst 11 = .ok (.invokestatic 95, 3) := by decide +kernel
theorem dX6_worst_14 : decode cX6_worst 14 = .ok (.ifCond .ne 10, 3) := by decide +kernel
theorem dX6_worst_17 : decode cX6_worst 17 = .ok (.aload_n 0, 1) := by decide +kernel
theorem dX6_worst_18 : decode cX6_worst 18 = .ok (.bipush (-2), 2) := by decide +kernel
theorem dX6_worst_20 : decode cX6_worst 20 = .ok (.invokevirtual 79, 3) := by decide +kernel
theorem dX6_worst_23 : decode cX6_worst 23 = .ok (.ireturn, 1) := by decide +kernel
theorem dX6_worst_24 : decode cX6_worst 24 = .ok (.aload_n 0, 1) := by decide +kernel
theorem dX6_worst_25 : decode cX6_worst 25 = .ok (.getfield 21, 3) := by decide +kernel
theorem dX6_worst_28 : decode cX6_worst 28 = .ok (.iload_n 1, 1) := by decide +kernel
theorem dX6_worst_29 : decode cX6_worst 29 = .ok (.iload_n 2, 1) := by decide +kernel
theorem dX6_worst_30 : decode cX6_worst 30 = .ok (.invokevirtual 109, 3) := by decide +kernel
theorem dX6_worst_33 : decode cX6_worst 33 = .ok (.istore 4, 2) := by decide +kernel
theorem dX6_worst_35 : decode cX6_worst 35 = .ok (.iload 4, 2) := by decide +kernel
theorem dX6_worst_37 : decode cX6_worst 37 = .ok (.invokestatic 89, 3) := by decide +kernel
theorem dX6_worst_40 : decode cX6_worst 40 = .ok (.ifCond .ne 10, 3) := by decide +kernel
theorem dX6_worst_43 : decode cX6_worst 43 = .ok (.aload_n 0, 1) := by decide +kernel
theorem dX6_worst_44 : decode cX6_worst 44 = .ok (.bipush (-3), 2) := by decide +kernel
theorem dX6_worst_46 : decode cX6_worst 46 = .ok (.invokevirtual 79, 3) := by decide +kernel
theorem dX6_worst_49 : decode cX6_worst 49 = .ok (.ireturn, 1) := by decide +kernel
theorem dX6_worst_50 : decode cX6_worst 50 = .ok (.iload_n 3, 1) := by decide +kernel
theorem dX6_worst_51 : decode cX6_worst 51 = .ok (.ifCond .ne 15, 3) := by decide +kernel
theorem dX6_worst_54 : decode cX6_worst 54 = .ok (.aload_n 0, 1) := by decide +kernel
theorem dX6_worst_55 : decode cX6_worst 55 = .ok (.getfield 28, 3) := by decide +kernel
theorem dX6_worst_58 : decode cX6_worst 58 = .ok (.iload 4, 2) := by decide +kernel
theorem dX6_worst_60 : decode cX6_worst 60 = .ok (.invokevirtual 122, 3) := by decide +kernel
theorem dX6_worst_63 : decode cX6_worst 63 = .ok (.goto 12, 3) := by decide +kernel
theorem dX6_worst_66 : decode cX6_worst 66 = .ok (.aload_n 0, 1) := by decide +kernel
theorem dX6_worst_67 : decode cX6_worst 67 = .ok (.getfield 28, 3) := by decide +kernel
theorem dX6_worst_70 : decode cX6_worst 70 = .ok (.iload 4, 2) := by decide +kernel
theorem dX6_worst_72 : decode cX6_worst 72 = .ok (.invokevirtual 125, 3) := by decide +kernel
theorem dX6_worst_75 : decode cX6_worst 75 = .ok (.ireturn, 1) := by decide +kernel
set_option maxRecDepth 20000 in
theorem ggX6_want_X6_isWithin : GoodIn wsX6_want wsX6_isWithin := goodIn_r _ [5] (by decide +kernel) (by decide +kernel)
set_option maxRecDepth 20000 in
theorem gX6_want_X6_isWithin : GoodIn wsX6_want (va_wsS RX6 95 yX6_isWithin wsX6_isWithin) := goodIn_app (goodIn_of _ (by decide +kernel)) ggX6_want_X6_isWithin
set_option maxRecDepth 20000 in
theorem ggX6_want_X0_wanted : GoodIn wsX6_want wsX0_wanted := goodIn_r _ [10, 11, 12, 13, 4, 14, 15, 16, 17, 18, 19, 20, 21, 22, 23, 24, 40, 41, 42, 43, 44, 45] (by decide +kernel) (by decide +kernel)
set_option maxRecDepth 20000 in
theorem gX6_want_X0_wanted : GoodIn wsX6_want (wsV RX6 128 RX0 yX0_wanted wsX0_wanted) := goodIn_app (goodIn_of _ (by decide +kernel)) ggX6_want_X0_wanted
set_option maxRecDepth 20000 in
theorem ggX6_want_X6_refusal : GoodIn wsX6_want wsX6_refusal := goodIn_r _ [28, 29, 2, 3, 4, 5, 30, 31, 32, 33, 34, 35, 36, 37, 38, 39] (by decide +kernel) (by decide +kernel)
set_option maxRecDepth 20000 in
theorem gX6_want_X6_refusal : GoodIn wsX6_want (wsV RX6 79 RX6 yX6_refusal wsX6_refusal) := goodIn_app (goodIn_of _ (by decide +kernel)) ggX6_want_X6_refusal
theorem dX6_want_0 : decode cX6_want 0 = .ok (.iload_n 1, 1) := by decide +kernel
theorem dX6_want_1 : decode cX6_want 1 = .ok (.iconst 0, 1) := by decide +kernel
theorem dX6_want_2 : decode cX6_want 2 = .ok (.sipush 300, 3) := by decide +kernel
theorem dX6_want_5 : decode cX6_want 5 = .ok (.invokestatic 95, 3) := by decide +kernel
theorem dX6_want_8 : decode cX6_want 8 = .ok (.ifCond .eq 14, 3) := by decide +kernel
theorem dX6_want_11 : decode cX6_want 11 = .ok (.aload_n 0, 1) := by decide +kernel
theorem dX6_want_12 : decode cX6_want 12 = .ok (.getfield 37, 3) := by decide +kernel
theorem dX6_want_15 : decode cX6_want 15 = .ok (.iload_n 1, 1) := by decide +kernel
theorem dX6_want_16 : decode cX6_want 16 = .ok (.invokevirtual 128, 3) := by decide +kernel
theorem dX6_want_19 : decode cX6_want 19 = .ok (.goto 9, 3) := by decide +kernel
theorem dX6_want_22 : decode cX6_want 22 = .ok (.aload_n 0, 1) := by decide +kernel
theorem dX6_want_23 : decode cX6_want 23 = .ok (.bipush (-2), 2) := by decide +kernel
theorem dX6_want_25 : decode cX6_want 25 = .ok (.invokevirtual 79, 3) := by decide +kernel
theorem dX6_want_28 : decode cX6_want 28 = .ok (.ireturn, 1) := by decide +kernel
set_option maxRecDepth 20000 in
theorem ggX6_drives_X6_changed : GoodIn wsX6_drives wsX6_changed := goodIn_r _ [5, 6, 7, 8, 9, 10, 11, 12, 13, 14, 15, 16, 17, 18, 19, 20, 21, 22, 23, 24, 25, 26, 27, 28, 29, 30, 31, 4, 32, 33, 34, 35, 36, 37, 38, 39, 40, 41, 42, 43, 44, 45, 46, 47, 48, 49, 50, 51, 52, 53, 54, 55, 56, 57, 58, 59, 60, 61, 62, 63, 64, 65, 66, 67, 68, 69, 70, 71, 72, 73, 74, 75, 76, 77, 78, 79, 80, 81, 82, 83, 84, 85, 86, 87, 88, 89, 90, 91, 92, 93, 94, 95, 96, 97, 98, 99, 100, 101, 102, 103, 104, 105, 106, 107, 108, 109, 110, 111, 112, 113, 114, 115, 116, 117, 118, 119, 120, 121, 122, 123, 124, 125, 126, 127, 128, 129, 130, 131, 132, 133, 134, 135, 136, 137, 138, 139, 140, 141, 142, 143, 144, 145, 146, 147, 148, 149, 150, 151, 152, 153, 154, 155, 156, 157, 158, 159, 160, 161, 162, 163, 164, 165, 166, 167, 168, 169, 170, 171, 172, 173, 174, 175, 176, 177, 178, 179, 180, 181, 182, 183, 184, 185, 186, 187, 188, 189, 190, 191, 192, 193, 194] (by decide +kernel) (by decide +kernel)
set_option maxRecDepth 20000 in
theorem gX6_drives_X6_changed : GoodIn wsX6_drives (wsV RX6 71 RX6 yX6_changed wsX6_changed) := goodIn_app (goodIn_of _ (by decide +kernel)) ggX6_drives_X6_changed
theorem dX6_drives_0 : decode cX6_drives 0 = .ok (.aload_n 0, 1) := by decide +kernel
theorem dX6_drives_1 : decode cX6_drives 1 = .ok (.bipush 7, 2) := by decide +kernel
theorem dX6_drives_3 : decode cX6_drives 3 = .ok (.iload_n 1, 1) := by decide +kernel
theorem dX6_drives_4 : decode cX6_drives 4 = .ok (.iload_n 2, 1) := by decide +kernel
theorem dX6_drives_5 : decode cX6_drives 5 = .ok (.invokevirtual 71, 3) := by decide +kernel
theorem dX6_drives_8 : decode cX6_drives 8 = .ok (.ireturn, 1) := by decide +kernel
set_option maxRecDepth 20000 in
theorem ggX6_puts_X6_changed : GoodIn wsX6_puts wsX6_changed := goodIn_r _ [5, 6, 7, 8, 9, 10, 11, 12, 13, 14, 15, 16, 17, 18, 19, 20, 21, 22, 23, 24, 25, 26, 27, 28, 29, 30, 31, 4, 32, 33, 34, 35, 36, 37, 38, 39, 40, 41, 42, 43, 44, 45, 46, 47, 48, 49, 50, 51, 52, 53, 54, 55, 56, 57, 58, 59, 60, 61, 62, 63, 64, 65, 66, 67, 68, 69, 70, 71, 72, 73, 74, 75, 76, 77, 78, 79, 80, 81, 82, 83, 84, 85, 86, 87, 88, 89, 90, 91, 92, 93, 94, 95, 96, 97, 98, 99, 100, 101, 102, 103, 104, 105, 106, 107, 108, 109, 110, 111, 112, 113, 114, 115, 116, 117, 118, 119, 120, 121, 122, 123, 124, 125, 126, 127, 128, 129, 130, 131, 132, 133, 134, 135, 136, 137, 138, 139, 140, 141, 142, 143, 144, 145, 146, 147, 148, 149, 150, 151, 152, 153, 154, 155, 156, 157, 158, 159, 160, 161, 162, 163, 164, 165, 166, 167, 168, 169, 170, 171, 172, 173, 174, 175, 176, 177, 178, 179, 180, 181, 182, 183, 184, 185, 186, 187, 188, 189, 190, 191, 192, 193, 194] (by decide +kernel) (by decide +kernel)
set_option maxRecDepth 20000 in
theorem gX6_puts_X6_changed : GoodIn wsX6_puts (wsV RX6 71 RX6 yX6_changed wsX6_changed) := goodIn_app (goodIn_of _ (by decide +kernel)) ggX6_puts_X6_changed
theorem dX6_puts_0 : decode cX6_puts 0 = .ok (.aload_n 0, 1) := by decide +kernel
theorem dX6_puts_1 : decode cX6_puts 1 = .ok (.bipush 9, 2) := by decide +kernel
theorem dX6_puts_3 : decode cX6_puts 3 = .ok (.iload_n 1, 1) := by decide +kernel
theorem dX6_puts_4 : decode cX6_puts 4 = .ok (.iconst 0, 1) := by decide +kernel
theorem dX6_puts_5 : decode cX6_puts 5 = .ok (.invokevirtual 71, 3) := by decide +kernel
theorem dX6_puts_8 : decode cX6_puts 8 = .ok (.ireturn, 1) := by decide +kernel
set_option maxRecDepth 20000 in
theorem ggX6_state_X1_fitBits : GoodIn wsX6_state wsX1_fitBits := goodIn_r _ [7, 8, 9, 10, 6, 11, 12, 32, 33, 34] (by decide +kernel) (by decide +kernel)
set_option maxRecDepth 20000 in
theorem gX6_state_X1_fitBits : GoodIn wsX6_state (wsV RX6 131 RX1 yX1_fitBits wsX1_fitBits) := goodIn_app (goodIn_of _ (by decide +kernel)) ggX6_state_X1_fitBits
set_option maxRecDepth 20000 in
theorem ggX6_state_X6_isWithin : GoodIn wsX6_state wsX6_isWithin := goodIn_r _ [16] (by decide +kernel) (by decide +kernel)
set_option maxRecDepth 20000 in
theorem gX6_state_X6_isWithin : GoodIn wsX6_state (va_wsS RX6 95 yX6_isWithin wsX6_isWithin) := goodIn_app (goodIn_of _ (by decide +kernel)) ggX6_state_X6_isWithin
set_option maxRecDepth 20000 in
theorem ggX6_state_X6_refusal : GoodIn wsX6_state wsX6_refusal := goodIn_r _ [20, 21, 13, 14, 15, 16, 22, 23, 24, 25, 26, 27, 28, 29, 30, 31] (by decide +kernel) (by decide +kernel)
set_option maxRecDepth 20000 in
theorem gX6_state_X6_refusal : GoodIn wsX6_state (wsV RX6 79 RX6 yX6_refusal wsX6_refusal) := goodIn_app (goodIn_of _ (by decide +kernel)) ggX6_state_X6_refusal
theorem dX6_state_0 : decode cX6_state 0 = .ok (.iload_n 1, 1) := by decide +kernel
theorem dX6_state_1 : decode cX6_state 1 = .ok (.bipush 12, 2) := by decide +kernel
theorem dX6_state_3 : decode cX6_state 3 = .ok (.if_icmp .ne 11, 3) := by decide +kernel
theorem dX6_state_6 : decode cX6_state 6 = .ok (.aload_n 0, 1) := by decide +kernel
theorem dX6_state_7 : decode cX6_state 7 = .ok (.getfield 21, 3) := by decide +kernel
theorem dX6_state_10 : decode cX6_state 10 = .ok (.invokevirtual 131, 3) := by decide +kernel
theorem dX6_state_13 : decode cX6_state 13 = .ok (.ireturn, 1) := by decide +kernel
theorem dX6_state_14 : decode cX6_state 14 = .ok (.iload_n 1, 1) := by decide +kernel
theorem dX6_state_15 : decode cX6_state 15 = .ok (.iconst 0, 1) := by decide +kernel
theorem dX6_state_16 : decode cX6_state 16 = .ok (.bipush 11, 2) := by decide +kernel
theorem dX6_state_18 : decode cX6_state 18 = .ok (.invokestatic 95, 3) := by decide +kernel
theorem dX6_state_21 : decode cX6_state 21 = .ok (.ifCond .eq 15, 3) := by decide +kernel
theorem dX6_state_24 : decode cX6_state 24 = .ok (.aload_n 0, 1) := by decide +kernel
theorem dX6_state_25 : decode cX6_state 25 = .ok (.getfield 9, 3) := by decide +kernel
theorem dX6_state_28 : decode cX6_state 28 = .ok (.bipush 39, 2) := by decide +kernel
theorem dX6_state_30 : decode cX6_state 30 = .ok (.iload_n 1, 1) := by decide +kernel
theorem dX6_state_31 : decode cX6_state 31 = .ok (.iadd, 1) := by decide +kernel
theorem dX6_state_32 : decode cX6_state 32 = .ok (.iaload, 1) := by decide +kernel
theorem dX6_state_33 : decode cX6_state 33 = .ok (.goto 9, 3) := by decide +kernel
theorem dX6_state_36 : decode cX6_state 36 = .ok (.aload_n 0, 1) := by decide +kernel
theorem dX6_state_37 : decode cX6_state 37 = .ok (.bipush (-2), 2) := by decide +kernel
theorem dX6_state_39 : decode cX6_state 39 = .ok (.invokevirtual 79, 3) := by decide +kernel
theorem dX6_state_42 : decode cX6_state 42 = .ok (.ireturn, 1) := by decide +kernel
set_option maxRecDepth 20000 in
theorem ggX6_type_X6_isWithin : GoodIn wsX6_type wsX6_isWithin := goodIn_r _ [5] (by decide +kernel) (by decide +kernel)
set_option maxRecDepth 20000 in
theorem gX6_type_X6_isWithin : GoodIn wsX6_type (va_wsS RX6 95 yX6_isWithin wsX6_isWithin) := goodIn_app (goodIn_of _ (by decide +kernel)) ggX6_type_X6_isWithin
set_option maxRecDepth 20000 in
theorem ggX6_type_X6_refusal : GoodIn wsX6_type wsX6_refusal := goodIn_r _ [9, 10, 2, 3, 4, 5, 22, 23, 24, 25, 26, 27, 28, 29, 30, 31] (by decide +kernel) (by decide +kernel)
set_option maxRecDepth 20000 in
theorem gX6_type_X6_refusal : GoodIn wsX6_type (wsV RX6 79 RX6 yX6_refusal wsX6_refusal) := goodIn_app (goodIn_of _ (by decide +kernel)) ggX6_type_X6_refusal
set_option maxRecDepth 20000 in
theorem ggX6_type_X5_append : GoodIn wsX6_type wsX5_append := goodIn_r _ [15, 16, 17, 32, 33, 34, 35, 36, 37, 38] (by decide +kernel) (by decide +kernel)
set_option maxRecDepth 20000 in
theorem gX6_type_X5_append : GoodIn wsX6_type (wsV RX6 135 RX5 yX5_append wsX5_append) := goodIn_app (goodIn_of _ (by decide +kernel)) ggX6_type_X5_append
set_option maxRecDepth 20000 in
theorem ggX6_type_X5_length : GoodIn wsX6_type wsX5_length := goodIn_r _ [21, 16, 32, 33, 34, 35, 36, 37, 38] (by decide +kernel) (by decide +kernel)
set_option maxRecDepth 20000 in
theorem gX6_type_X5_length : GoodIn wsX6_type (wsV RX6 138 RX5 yX5_length wsX5_length) := goodIn_app (goodIn_of _ (by decide +kernel)) ggX6_type_X5_length
theorem dX6_type_0 : decode cX6_type 0 = .ok (.iload_n 1, 1) := by decide +kernel
theorem dX6_type_1 : decode cX6_type 1 = .ok (.iconst 0, 1) := by decide +kernel
theorem dX6_type_2 : decode cX6_type 2 = .ok (.bipush 127, 2) := by decide +kernel
theorem dX6_type_4 : decode cX6_type 4 = .ok (.invokestatic 95, 3) := by decide +kernel
theorem dX6_type_7 : decode cX6_type 7 = .ok (.ifCond .ne 10, 3) := by decide +kernel
theorem dX6_type_10 : decode cX6_type 10 = .ok (.aload_n 0, 1) := by decide +kernel
theorem dX6_type_11 : decode cX6_type 11 = .ok (.bipush (-2), 2) := by decide +kernel
theorem dX6_type_13 : decode cX6_type 13 = .ok (.invokevirtual 79, 3) := by decide +kernel
theorem dX6_type_16 : decode cX6_type 16 = .ok (.ireturn, 1) := by decide +kernel
theorem dX6_type_17 : decode cX6_type 17 = .ok (.aload_n 0, 1) := by decide +kernel
theorem dX6_type_18 : decode cX6_type 18 = .ok (.getfield 60, 3) := by decide +kernel
theorem dX6_type_21 : decode cX6_type 21 = .ok (.iload_n 1, 1) := by decide +kernel
theorem dX6_type_22 : decode cX6_type 22 = .ok (.invokevirtual 135, 3) := by decide +kernel
theorem dX6_type_25 : decode cX6_type 25 = .ok (.ifCond .eq 13, 3) := by decide +kernel
theorem dX6_type_28 : decode cX6_type 28 = .ok (.aload_n 0, 1) := by decide +kernel
theorem dX6_type_29 : decode cX6_type 29 = .ok (.getfield 60, 3) := by decide +kernel
theorem dX6_type_32 : decode cX6_type 32 = .ok (.invokevirtual 138, 3) := by decide +kernel
theorem dX6_type_35 : decode cX6_type 35 = .ok (.goto 9, 3) := by decide +kernel
theorem dX6_type_38 : decode cX6_type 38 = .ok (.aload_n 0, 1) := by decide +kernel
theorem dX6_type_39 : decode cX6_type 39 = .ok (.bipush (-4), 2) := by decide +kernel
theorem dX6_type_41 : decode cX6_type 41 = .ok (.invokevirtual 79, 3) := by decide +kernel
theorem dX6_type_44 : decode cX6_type 44 = .ok (.ireturn, 1) := by decide +kernel
set_option maxRecDepth 20000 in
theorem ggX6_clear_X5_empty : GoodIn wsX6_clear wsX5_empty := goodIn_r _ [6, 7, 18, 19, 20, 21, 22, 23, 24] (by decide +kernel) (by decide +kernel)
set_option maxRecDepth 20000 in
theorem gX6_clear_X5_empty : GoodIn wsX6_clear (wsV RX6 141 RX5 yX5_empty wsX5_empty) := goodIn_app (goodIn_of _ (by decide +kernel)) ggX6_clear_X5_empty
theorem dX6_clear_0 : decode cX6_clear 0 = .ok (.aload_n 0, 1) := by decide +kernel
theorem dX6_clear_1 : decode cX6_clear 1 = .ok (.getfield 60, 3) := by decide +kernel
theorem dX6_clear_4 : decode cX6_clear 4 = .ok (.invokevirtual 141, 3) := by decide +kernel
theorem dX6_clear_7 : decode cX6_clear 7 = .ok (.ireturn, 1) := by decide +kernel
set_option maxRecDepth 20000 in
theorem ggX6_reads_X5_parse : GoodIn wsX6_reads wsX5_parse := goodIn_r _ [10, 11, 12, 13, 14, 15, 16, 9, 17, 18, 19, 20, 21, 22, 23, 24, 25, 26, 27, 28, 29, 30, 31, 32, 33, 34, 35, 36, 37, 38, 39, 40, 41, 42, 43, 44, 45, 46, 47, 48, 49, 50, 51, 52, 53, 54, 55, 56, 57, 58, 59, 60, 61, 62, 63, 64, 65, 66, 67, 68, 69, 70, 71, 72, 73, 74, 75, 76, 77, 78, 79, 80, 81, 82, 83, 84, 85, 86, 87, 88, 89, 90, 91, 92, 93, 94, 95, 96, 97, 98, 99, 100, 101, 102, 103, 104, 105, 106, 107, 108, 109, 110, 111, 112, 113, 114, 115, 116, 117, 118, 119, 120, 121, 122, 123, 124, 125, 126, 127, 128, 129, 130, 314, 315, 316, 317, 318, 319, 320] (by decide +kernel) (by decide +kernel)
set_option maxRecDepth 20000 in
theorem gX6_reads_X5_parse : GoodIn wsX6_reads (wsV RX6 144 RX5 yX5_parse wsX5_parse) := goodIn_app (goodIn_of _ (by decide +kernel)) ggX6_reads_X5_parse
set_option maxRecDepth 20000 in
theorem ggX6_reads_X4_draft : GoodIn wsX6_reads wsX4_draft := goodIn_r _ [135, 136, 137, 138, 139, 140, 141, 142, 321, 322, 323, 324] (by decide +kernel) (by decide +kernel)
set_option maxRecDepth 20000 in
theorem gX6_reads_X4_draft : GoodIn wsX6_reads (wsV RX6 147 RX4 yX4_draft wsX4_draft) := goodIn_app (goodIn_of _ (by decide +kernel)) ggX6_reads_X4_draft
set_option maxRecDepth 20000 in
theorem ggX6_reads_X5_orders : GoodIn wsX6_reads wsX5_orders := goodIn_r _ [146, 11, 314, 315, 316, 317, 318, 319, 320] (by decide +kernel) (by decide +kernel)
set_option maxRecDepth 20000 in
theorem gX6_reads_X5_orders : GoodIn wsX6_reads (wsV RX6 150 RX5 yX5_orders wsX5_orders) := goodIn_app (goodIn_of _ (by decide +kernel)) ggX6_reads_X5_orders
set_option maxRecDepth 20000 in
theorem ggX6_reads_X5_kindOf : GoodIn wsX6_reads wsX5_kindOf := goodIn_r _ [150, 11, 128, 314, 315, 316, 317, 318, 319, 320] (by decide +kernel) (by decide +kernel)
set_option maxRecDepth 20000 in
theorem gX6_reads_X5_kindOf : GoodIn wsX6_reads (wsV RX6 152 RX5 yX5_kindOf wsX5_kindOf) := goodIn_app (goodIn_of _ (by decide +kernel)) ggX6_reads_X5_kindOf
set_option maxRecDepth 20000 in
theorem ggX6_reads_X5_firstOf : GoodIn wsX6_reads wsX5_firstOf := goodIn_r _ [154, 11, 129, 314, 315, 316, 317, 318, 319, 320] (by decide +kernel) (by decide +kernel)
set_option maxRecDepth 20000 in
theorem gX6_reads_X5_firstOf : GoodIn wsX6_reads (wsV RX6 155 RX5 yX5_firstOf wsX5_firstOf) := goodIn_app (goodIn_of _ (by decide +kernel)) ggX6_reads_X5_firstOf
set_option maxRecDepth 20000 in
theorem ggX6_reads_X5_secondOf : GoodIn wsX6_reads wsX5_secondOf := goodIn_r _ [158, 11, 130, 314, 315, 316, 317, 318, 319, 320] (by decide +kernel) (by decide +kernel)
set_option maxRecDepth 20000 in
theorem gX6_reads_X5_secondOf : GoodIn wsX6_reads (wsV RX6 158 RX5 yX5_secondOf wsX5_secondOf) := goodIn_app (goodIn_of _ (by decide +kernel)) ggX6_reads_X5_secondOf
set_option maxRecDepth 20000 in
theorem ggX6_reads_X2_obey : GoodIn wsX6_reads wsX2_obey := goodIn_r _ [163, 164, 165, 166, 167, 162, 168, 169, 170, 171, 172, 173, 174, 175, 176, 177, 178, 179, 180, 181, 182, 183, 184, 185, 186, 187, 188, 189, 190, 191, 192, 193, 194, 195, 196, 197, 198, 199, 200, 201, 202, 203, 204, 205, 206, 207, 208, 209, 56, 57, 58, 210, 211, 212, 213, 214, 215, 216, 217, 218, 219, 220, 221, 222, 223, 224, 225, 226, 227, 228, 229, 230, 231, 232, 233, 234, 235, 236, 237, 238, 239, 240, 241, 242, 243, 244, 245, 246, 247, 248, 249, 250, 251, 252, 253, 254, 255, 256, 257, 258, 259, 260, 261, 262, 263, 264, 265, 266, 267, 268, 60, 61, 269, 270, 271, 272, 273, 274, 275, 276, 277, 278, 279, 280, 281, 282, 283, 284, 285, 286, 287, 288, 289, 290, 291, 292, 293, 325, 326, 327, 328, 329, 330, 331, 332, 333, 334] (by decide +kernel) (by decide +kernel)
set_option maxRecDepth 20000 in
theorem gX6_reads_X2_obey : GoodIn wsX6_reads (wsV RX6 161 RX2 yX2_obey wsX2_obey) := goodIn_app (goodIn_of _ (by decide +kernel)) ggX6_reads_X2_obey
set_option maxRecDepth 20000 in
theorem ggX6_reads_X4_takeDraft : GoodIn wsX6_reads wsX4_takeDraft := goodIn_r _ [297, 137, 138, 136, 139, 140, 141, 142, 321, 322, 323, 324] (by decide +kernel) (by decide +kernel)
set_option maxRecDepth 20000 in
theorem gX6_reads_X4_takeDraft : GoodIn wsX6_reads (wsV RX6 164 RX4 yX4_takeDraft wsX4_takeDraft) := goodIn_app (goodIn_of _ (by decide +kernel)) ggX6_reads_X4_takeDraft
set_option maxRecDepth 20000 in
theorem ggX6_reads_X4_keepDraft : GoodIn wsX6_reads wsX4_keepDraft := goodIn_r _ [301, 138, 302, 303, 60, 57, 61, 321, 322, 323, 324] (by decide +kernel) (by decide +kernel)
set_option maxRecDepth 20000 in
theorem gX6_reads_X4_keepDraft : GoodIn wsX6_reads (wsV RX6 167 RX4 yX4_keepDraft wsX4_keepDraft) := goodIn_app (goodIn_of _ (by decide +kernel)) ggX6_reads_X4_keepDraft
theorem dX6_reads_0 : decode cX6_reads 0 = .ok (.aload_n 0, 1) := by decide +kernel
theorem dX6_reads_1 : decode cX6_reads 1 = .ok (.getfield 60, 3) := by decide +kernel
theorem dX6_reads_4 : decode cX6_reads 4 = .ok (.invokevirtual 144, 3) := by decide +kernel
theorem dX6_reads_7 : decode cX6_reads 7 = .ok (.istore_n 1, 1) := by decide +kernel
theorem dX6_reads_8 : decode cX6_reads 8 = .ok (.iload_n 1, 1) := by decide +kernel
theorem dX6_reads_9 : decode cX6_reads 9 = .ok (.iconst (-1), 1) := by decide +kernel
theorem dX6_reads_10 : decode cX6_reads 10 = .ok (.if_icmp .eq 8, 3) := by decide +kernel
theorem dX6_reads_13 : decode cX6_reads 13 = .ok (.bipush (-10), 2) := by decide +kernel
theorem dX6_reads_15 : decode cX6_reads 15 = .ok (.iload_n 1, 1) := by decide +kernel
theorem dX6_reads_16 : decode cX6_reads 16 = .ok (.isub, 1) := by decide +kernel
theorem dX6_reads_17 : decode cX6_reads 17 = .ok (.ireturn, 1) := by decide +kernel
theorem dX6_reads_18 : decode cX6_reads 18 = .ok (.aload_n 0, 1) := by decide +kernel
theorem dX6_reads_19 : decode cX6_reads 19 = .ok (.getfield 53, 3) := by decide +kernel
theorem dX6_reads_22 : decode cX6_reads 22 = .ok (.invokevirtual 147, 3) := by decide +kernel
theorem dX6_reads_25 : decode cX6_reads 25 = .ok (.iconst 0, 1) := by decide +kernel
theorem dX6_reads_26 : decode cX6_reads 26 = .ok (.istore_n 2, 1) := by decide +kernel
theorem dX6_reads_27 : decode cX6_reads 27 = .ok (.iload_n 2, 1) := by decide +kernel
theorem dX6_reads_28 : decode cX6_reads 28 = .ok (.aload_n 0, 1) := by decide +kernel
theorem dX6_reads_29 : decode cX6_reads 29 = .ok (.getfield 60, 3) := by decide +kernel
theorem dX6_reads_32 : decode cX6_reads 32 = .ok (.invokevirtual 150, 3) := by decide +kernel
theorem dX6_reads_35 : decode cX6_reads 35 = .ok (.if_icmp .ge 69, 3) := by decide +kernel
theorem dX6_reads_38 : decode cX6_reads 38 = .ok (.aload_n 0, 1) := by decide +kernel
theorem dX6_reads_39 : decode cX6_reads 39 = .ok (.getfield 46, 3) := by decide +kernel
theorem dX6_reads_42 : decode cX6_reads 42 = .ok (.aload_n 0, 1) := by decide +kernel
theorem dX6_reads_43 : decode cX6_reads 43 = .ok (.getfield 60, 3) := by decide +kernel
theorem dX6_reads_46 : decode cX6_reads 46 = .ok (.iload_n 2, 1) := by decide +kernel
theorem dX6_reads_47 : decode cX6_reads 47 = .ok (.invokevirtual 152, 3) := by decide +kernel
theorem dX6_reads_50 : decode cX6_reads 50 = .ok (.aload_n 0, 1) := by decide +kernel
theorem dX6_reads_51 : decode cX6_reads 51 = .ok (.getfield 60, 3) := by decide +kernel
theorem dX6_reads_54 : decode cX6_reads 54 = .ok (.iload_n 2, 1) := by decide +kernel
theorem dX6_reads_55 : decode cX6_reads 55 = .ok (.invokevirtual 155, 3) := by decide +kernel
theorem dX6_reads_58 : decode cX6_reads 58 = .ok (.aload_n 0, 1) := by decide +kernel
theorem dX6_reads_59 : decode cX6_reads 59 = .ok (.getfield 60, 3) := by decide +kernel
theorem dX6_reads_62 : decode cX6_reads 62 = .ok (.iload_n 2, 1) := by decide +kernel
theorem dX6_reads_63 : decode cX6_reads 63 = .ok (.invokevirtual 158, 3) := by decide +kernel
theorem dX6_reads_66 : decode cX6_reads 66 = .ok (.invokevirtual 161, 3) := by decide +kernel
theorem dX6_reads_69 : decode cX6_reads 69 = .ok (.istore_n 3, 1) := by decide +kernel
theorem dX6_reads_70 : decode cX6_reads 70 = .ok (.iload_n 3, 1) := by decide +kernel
theorem dX6_reads_71 : decode cX6_reads 71 = .ok (.ifCond .ge 27, 3) := by decide +kernel
theorem dX6_reads_74 : decode cX6_reads 74 = .ok (.aload_n 0, 1) := by decide +kernel
theorem dX6_reads_75 : decode cX6_reads 75 = .ok (.getfield 53, 3) := by decide +kernel
theorem dX6_reads_78 : decode cX6_reads 78 = .ok (.invokevirtual 164, 3) := by decide +kernel
theorem dX6_reads_81 : decode cX6_reads 81 = .ok (.aload_n 0, 1) := by decide +kernel
theorem dX6_reads_82 : decode cX6_reads 82 = .ok (.iload_n 3, 1) := by decide +kernel
theorem dX6_reads_83 : decode cX6_reads 83 = .ok (.ineg, 1) := by decide +kernel
theorem dX6_reads_84 : decode cX6_reads 84 = .ok (.putfield 64, 3) := by decide +kernel
theorem dX6_reads_87 : decode cX6_reads 87 = .ok (.aload_n 0, 1) := by decide +kernel
theorem dX6_reads_88 : decode cX6_reads 88 = .ok (.iload_n 2, 1) := by decide +kernel
theorem dX6_reads_89 : decode cX6_reads 89 = .ok (.putfield 68, 3) := by decide +kernel
theorem dX6_reads_92 : decode cX6_reads 92 = .ok (.sipush (-1000), 3) := by decide +kernel
theorem dX6_reads_95 : decode cX6_reads 95 = .ok (.iload_n 2, 1) := by decide +kernel
theorem dX6_reads_96 : decode cX6_reads 96 = .ok (.isub, 1) := by decide +kernel
theorem dX6_reads_97 : decode cX6_reads 97 = .ok (.ireturn, 1) := by decide +kernel
theorem dX6_reads_98 : decode cX6_reads 98 = .ok (.iinc 2 1, 3) := by decide +kernel
theorem dX6_reads_101 : decode cX6_reads 101 = .ok (.goto (-74), 3) := by decide +kernel
theorem dX6_reads_104 : decode cX6_reads 104 = .ok (.aload_n 0, 1) := by decide +kernel
theorem dX6_reads_105 : decode cX6_reads 105 = .ok (.getfield 53, 3) := by decide +kernel
theorem dX6_reads_108 : decode cX6_reads 108 = .ok (.invokevirtual 167, 3) := by decide +kernel
theorem dX6_reads_111 : decode cX6_reads 111 = .ok (.aload_n 0, 1) := by decide +kernel
theorem dX6_reads_112 : decode cX6_reads 112 = .ok (.getfield 60, 3) := by decide +kernel
theorem dX6_reads_115 : decode cX6_reads 115 = .ok (.invokevirtual 150, 3) := by decide +kernel
theorem dX6_reads_118 : decode cX6_reads 118 = .ok (.ireturn, 1) := by decide +kernel
set_option maxRecDepth 20000 in
theorem ggX6_why_X6_isWithin : GoodIn wsX6_why wsX6_isWithin := goodIn_r _ [6] (by decide +kernel) (by decide +kernel)
set_option maxRecDepth 20000 in
theorem gX6_why_X6_isWithin : GoodIn wsX6_why (va_wsS RX6 95 yX6_isWithin wsX6_isWithin) := goodIn_app (goodIn_of _ (by decide +kernel)) ggX6_why_X6_isWithin
set_option maxRecDepth 20000 in
theorem ggX6_why_X6_refusal : GoodIn wsX6_why wsX6_refusal := goodIn_r _ [10, 11, 3, 4, 5, 6, 12, 13, 14, 15, 16, 17, 18, 19, 20, 21] (by decide +kernel) (by decide +kernel)
set_option maxRecDepth 20000 in
theorem gX6_why_X6_refusal : GoodIn wsX6_why (wsV RX6 79 RX6 yX6_refusal wsX6_refusal) := goodIn_app (goodIn_of _ (by decide +kernel)) ggX6_why_X6_refusal
theorem dX6_why_0 : decode cX6_why 0 = .ok (.iload_n 1, 1) := by decide +kernel
theorem dX6_why_1 : decode cX6_why 1 = .ok (.iconst 0, 1) := by decide +kernel
theorem dX6_why_2 : decode cX6_why 2 = .ok (.iconst 1, 1) := by decide +kernel
theorem dX6_why_3 : decode cX6_why 3 = .ok (.invokestatic 95, 3) := by decide +kernel
theorem dX6_why_6 : decode cX6_why 6 = .ok (.ifCond .ne 10, 3) := by decide +kernel
theorem dX6_why_9 : decode cX6_why 9 = .ok (.aload_n 0, 1) := by decide +kernel
theorem dX6_why_10 : decode cX6_why 10 = .ok (.bipush (-2), 2) := by decide +kernel
theorem dX6_why_12 : decode cX6_why 12 = .ok (.invokevirtual 79, 3) := by decide +kernel
theorem dX6_why_15 : decode cX6_why 15 = .ok (.ireturn, 1) := by decide +kernel
theorem dX6_why_16 : decode cX6_why 16 = .ok (.iload_n 1, 1) := by decide +kernel
theorem dX6_why_17 : decode cX6_why 17 = .ok (.ifCond .ne 10, 3) := by decide +kernel
theorem dX6_why_20 : decode cX6_why 20 = .ok (.aload_n 0, 1) := by decide +kernel
theorem dX6_why_21 : decode cX6_why 21 = .ok (.getfield 64, 3) := by decide +kernel
theorem dX6_why_24 : decode cX6_why 24 = .ok (.goto 7, 3) := by decide +kernel
theorem dX6_why_27 : decode cX6_why 27 = .ok (.aload_n 0, 1) := by decide +kernel
theorem dX6_why_28 : decode cX6_why 28 = .ok (.getfield 68, 3) := by decide +kernel
theorem dX6_why_31 : decode cX6_why 31 = .ok (.ireturn, 1) := by decide +kernel
set_option maxRecDepth 20000 in
theorem ggX6_back_X4_goBack : GoodIn wsX6_back wsX4_goBack := goodIn_r _ [6, 7, 8, 9, 10, 11, 5, 12, 13, 14, 15, 16, 17, 18, 42, 43, 44, 45] (by decide +kernel) (by decide +kernel)
set_option maxRecDepth 20000 in
theorem gX6_back_X4_goBack : GoodIn wsX6_back (wsV RX6 170 RX4 yX4_goBack wsX4_goBack) := goodIn_app (goodIn_of _ (by decide +kernel)) ggX6_back_X4_goBack
set_option maxRecDepth 20000 in
theorem ggX6_back_X4_count : GoodIn wsX6_back wsX4_count := goodIn_r _ [22, 7, 42, 43, 44, 45] (by decide +kernel) (by decide +kernel)
set_option maxRecDepth 20000 in
theorem gX6_back_X4_count : GoodIn wsX6_back (wsV RX6 174 RX4 yX4_count wsX4_count) := goodIn_app (goodIn_of _ (by decide +kernel)) ggX6_back_X4_count
set_option maxRecDepth 20000 in
theorem ggX6_back_X6_refusal : GoodIn wsX6_back wsX6_refusal := goodIn_r _ [27, 28, 29, 30, 26, 31, 32, 33, 34, 35, 36, 37, 38, 39, 40, 41] (by decide +kernel) (by decide +kernel)
set_option maxRecDepth 20000 in
theorem gX6_back_X6_refusal : GoodIn wsX6_back (wsV RX6 79 RX6 yX6_refusal wsX6_refusal) := goodIn_app (goodIn_of _ (by decide +kernel)) ggX6_back_X6_refusal
theorem dX6_back_0 : decode cX6_back 0 = .ok (.aload_n 0, 1) := by decide +kernel
theorem dX6_back_1 : decode cX6_back 1 = .ok (.getfield 53, 3) := by decide +kernel
theorem dX6_back_4 : decode cX6_back 4 = .ok (.invokevirtual 170, 3) := by decide +kernel
theorem dX6_back_7 : decode cX6_back 7 = .ok (.ifCond .eq 13, 3) := by decide +kernel
theorem dX6_back_10 : decode cX6_back 10 = .ok (.aload_n 0, 1) := by decide +kernel
theorem dX6_back_11 : decode cX6_back 11 = .ok (.getfield 53, 3) := by decide +kernel
theorem dX6_back_14 : decode cX6_back 14 = .ok (.invokevirtual 174, 3) := by decide +kernel
theorem dX6_back_17 : decode cX6_back 17 = .ok (.goto 9, 3) := by decide +kernel
theorem dX6_back_20 : decode cX6_back 20 = .ok (.aload_n 0, 1) := by decide +kernel
theorem dX6_back_21 : decode cX6_back 21 = .ok (.bipush (-3), 2) := by decide +kernel
theorem dX6_back_23 : decode cX6_back 23 = .ok (.invokevirtual 79, 3) := by decide +kernel
theorem dX6_back_26 : decode cX6_back 26 = .ok (.ireturn, 1) := by decide +kernel
set_option maxRecDepth 20000 in
theorem ggX6_told_X5_length : GoodIn wsX6_told wsX5_length := goodIn_r _ [8, 9, 34, 35, 36, 37, 38, 39, 40] (by decide +kernel) (by decide +kernel)
set_option maxRecDepth 20000 in
theorem gX6_told_X5_length : GoodIn wsX6_told (wsV RX6 138 RX5 yX5_length wsX5_length) := goodIn_app (goodIn_of _ (by decide +kernel)) ggX6_told_X5_length
set_option maxRecDepth 20000 in
theorem ggX6_told_X4_count : GoodIn wsX6_told wsX4_count := goodIn_r _ [14, 15, 41, 42, 43, 44] (by decide +kernel) (by decide +kernel)
set_option maxRecDepth 20000 in
theorem gX6_told_X4_count : GoodIn wsX6_told (wsV RX6 174 RX4 yX4_count wsX4_count) := goodIn_app (goodIn_of _ (by decide +kernel)) ggX6_told_X4_count
set_option maxRecDepth 20000 in
theorem ggX6_told_X6_refusal : GoodIn wsX6_told wsX6_refusal := goodIn_r _ [20, 1, 21, 22, 19, 23, 24, 25, 26, 27, 28, 29, 30, 31, 32, 33] (by decide +kernel) (by decide +kernel)
set_option maxRecDepth 20000 in
theorem gX6_told_X6_refusal : GoodIn wsX6_told (wsV RX6 79 RX6 yX6_refusal wsX6_refusal) := goodIn_app (goodIn_of _ (by decide +kernel)) ggX6_told_X6_refusal
theorem dX6_told_0 : decode cX6_told 0 = .ok (.iload_n 1, 1) := by decide +kernel
theorem dX6_told_1 : decode cX6_told 1 = .ok (.tableswitch 58 0 4 #[35, 35, 35, 42, 50], 35) := by decide +kernel
theorem dX6_told_36 : decode cX6_told 36 = .ok (.aload_n 0, 1) := by decide +kernel
theorem dX6_told_37 : decode cX6_told 37 = .ok (.getfield 13, 3) := by decide +kernel
theorem dX6_told_40 : decode cX6_told 40 = .ok (.iload_n 1, 1) := by decide +kernel
theorem dX6_told_41 : decode cX6_told 41 = .ok (.iaload, 1) := by decide +kernel
theorem dX6_told_42 : decode cX6_told 42 = .ok (.ireturn, 1) := by decide +kernel
theorem dX6_told_43 : decode cX6_told 43 = .ok (.aload_n 0, 1) := by decide +kernel
theorem dX6_told_44 : decode cX6_told 44 = .ok (.getfield 60, 3) := by decide +kernel
theorem dX6_told_47 : decode cX6_told 47 = .ok (.invokevirtual 138, 3) := by decide +kernel
theorem dX6_told_50 : decode cX6_told 50 = .ok (.ireturn, 1) := by decide +kernel
theorem dX6_told_51 : decode cX6_told 51 = .ok (.aload_n 0, 1) := by decide +kernel
theorem dX6_told_52 : decode cX6_told 52 = .ok (.getfield 53, 3) := by decide +kernel
theorem dX6_told_55 : decode cX6_told 55 = .ok (.invokevirtual 174, 3) := by decide +kernel
theorem dX6_told_58 : decode cX6_told 58 = .ok (.ireturn, 1) := by decide +kernel
theorem dX6_told_59 : decode cX6_told 59 = .ok (.aload_n 0, 1) := by decide +kernel
theorem dX6_told_60 : decode cX6_told 60 = .ok (.bipush (-2), 2) := by decide +kernel
theorem dX6_told_62 : decode cX6_told 62 = .ok (.invokevirtual 79, 3) := by decide +kernel
theorem dX6_told_65 : decode cX6_told 65 = .ok (.ireturn, 1) := by decide +kernel
set_option maxRecDepth 20000 in
theorem ggX6_digest_X6_told : GoodIn wsX6_digest wsX6_told := goodIn_r _ [7, 8, 9, 10, 11, 12, 13, 14, 15, 16, 17, 18, 19, 20, 21, 22, 23, 24, 25, 6, 26, 27, 28, 29, 89, 90, 91, 92, 93, 94, 95, 96, 97, 98, 99, 100, 101, 102, 103, 104, 105, 106, 107, 108, 109] (by decide +kernel) (by decide +kernel)
set_option maxRecDepth 20000 in
theorem gX6_digest_X6_told : GoodIn wsX6_digest (wsV RX6 181 RX6 yX6_told wsX6_told) := goodIn_app (goodIn_of _ (by decide +kernel)) ggX6_digest_X6_told
set_option maxRecDepth 20000 in
theorem ggX6_digest_X6_why : GoodIn wsX6_digest wsX6_why := goodIn_r _ [33, 34, 35, 27, 28, 6, 29, 23, 24, 25, 26, 8, 89, 90, 91, 92, 93, 94, 95, 96, 97, 98] (by decide +kernel) (by decide +kernel)
set_option maxRecDepth 20000 in
theorem gX6_digest_X6_why : GoodIn wsX6_digest (wsV RX6 184 RX6 yX6_why wsX6_why) := goodIn_app (goodIn_of _ (by decide +kernel)) ggX6_digest_X6_why
set_option maxRecDepth 20000 in
theorem ggX6_digest_X6_of : GoodIn wsX6_digest wsX6_of := goodIn_r _ [39, 40, 41, 42, 43, 6, 44, 23, 24, 25, 26, 8, 27, 28, 29, 45, 46, 47, 48, 49, 50, 51, 52, 53, 54, 55, 56, 57, 58, 59, 60, 61, 62, 63, 64, 65, 66, 67, 68, 69, 89, 90, 91, 92, 93, 94, 95, 96, 97, 98, 110, 111, 112] (by decide +kernel) (by decide +kernel)
set_option maxRecDepth 20000 in
theorem gX6_digest_X6_of : GoodIn wsX6_digest (wsV RX6 187 RX6 yX6_of wsX6_of) := goodIn_app (goodIn_of _ (by decide +kernel)) ggX6_digest_X6_of
set_option maxRecDepth 20000 in
theorem ggX6_digest_X6_clutch : GoodIn wsX6_digest wsX6_clutch := goodIn_r _ [73, 40, 41, 74, 75, 6, 76, 23, 24, 25, 26, 8, 27, 28, 29, 77, 78, 79, 48, 80, 50, 89, 90, 91, 92, 93, 94, 95, 96, 97, 98, 110, 111, 112] (by decide +kernel) (by decide +kernel)
set_option maxRecDepth 20000 in
theorem gX6_digest_X6_clutch : GoodIn wsX6_digest (wsV RX6 190 RX6 yX6_clutch wsX6_clutch) := goodIn_app (goodIn_of _ (by decide +kernel)) ggX6_digest_X6_clutch
set_option maxRecDepth 20000 in
theorem ggX6_digest_X6_state : GoodIn wsX6_digest wsX6_state := goodIn_r _ [84, 41, 40, 85, 86, 87, 48, 88, 59, 46, 47, 49, 50, 27, 28, 6, 29, 23, 24, 25, 26, 8, 89, 90, 91, 92, 93, 94, 95, 96, 97, 98, 110, 111, 112] (by decide +kernel) (by decide +kernel)
set_option maxRecDepth 20000 in
theorem gX6_digest_X6_state : GoodIn wsX6_digest (wsV RX6 193 RX6 yX6_state wsX6_state) := goodIn_app (goodIn_of _ (by decide +kernel)) ggX6_digest_X6_state
theorem dX6_digest_0 : decode cX6_digest 0 = .ok (.ldc2_w 177, 3) := by decide +kernel
theorem dX6_digest_3 : decode cX6_digest 3 = .ok (.lstore_n 1, 1) := by decide +kernel
theorem dX6_digest_4 : decode cX6_digest 4 = .ok (.iconst 0, 1) := by decide +kernel
theorem dX6_digest_5 : decode cX6_digest 5 = .ok (.istore_n 3, 1) := by decide +kernel
theorem dX6_digest_6 : decode cX6_digest 6 = .ok (.iload_n 3, 1) := by decide +kernel
theorem dX6_digest_7 : decode cX6_digest 7 = .ok (.iconst 4, 1) := by decide +kernel
theorem dX6_digest_8 : decode cX6_digest 8 = .ok (.if_icmp .gt 22, 3) := by decide +kernel
theorem dX6_digest_11 : decode cX6_digest 11 = .ok (.ldc2_w 179, 3) := by decide +kernel
theorem dX6_digest_14 : decode cX6_digest 14 = .ok (.lload_n 1, 1) := by decide +kernel
theorem dX6_digest_15 : decode cX6_digest 15 = .ok (.lmul, 1) := by decide +kernel
theorem dX6_digest_16 : decode cX6_digest 16 = .ok (.aload_n 0, 1) := by decide +kernel
theorem dX6_digest_17 : decode cX6_digest 17 = .ok (.iload_n 3, 1) := by decide +kernel
theorem dX6_digest_18 : decode cX6_digest 18 = .ok (.invokevirtual 181, 3) := by decide +kernel
theorem dX6_digest_21 : decode cX6_digest 21 = .ok (.i2l, 1) := by decide +kernel
theorem dX6_digest_22 : decode cX6_digest 22 = .ok (.ladd, 1) := by decide +kernel
theorem dX6_digest_23 : decode cX6_digest 23 = .ok (.lstore_n 1, 1) := by decide +kernel
theorem dX6_digest_24 : decode cX6_digest 24 = .ok (.iinc 3 1, 3) := by decide +kernel
theorem dX6_digest_27 : decode cX6_digest 27 = .ok (.goto (-21), 3) := by decide +kernel
theorem dX6_digest_30 : decode cX6_digest 30 = .ok (.iconst 0, 1) := by decide +kernel
theorem dX6_digest_31 : decode cX6_digest 31 = .ok (.istore_n 3, 1) := by decide +kernel
theorem dX6_digest_32 : decode cX6_digest 32 = .ok (.iload_n 3, 1) := by decide +kernel
theorem dX6_digest_33 : decode cX6_digest 33 = .ok (.iconst 1, 1) := by decide +kernel
theorem dX6_digest_34 : decode cX6_digest 34 = .ok (.if_icmp .gt 22, 3) := by decide +kernel
theorem dX6_digest_37 : decode cX6_digest 37 = .ok (.ldc2_w 179, 3) := by decide +kernel
theorem dX6_digest_40 : decode cX6_digest 40 = .ok (.lload_n 1, 1) := by decide +kernel
theorem dX6_digest_41 : decode cX6_digest 41 = .ok (.lmul, 1) := by decide +kernel
theorem dX6_digest_42 : decode cX6_digest 42 = .ok (.aload_n 0, 1) := by decide +kernel
theorem dX6_digest_43 : decode cX6_digest 43 = .ok (.iload_n 3, 1) := by decide +kernel
theorem dX6_digest_44 : decode cX6_digest 44 = .ok (.invokevirtual 184, 3) := by decide +kernel
theorem dX6_digest_47 : decode cX6_digest 47 = .ok (.i2l, 1) := by decide +kernel
theorem dX6_digest_48 : decode cX6_digest 48 = .ok (.ladd, 1) := by decide +kernel
theorem dX6_digest_49 : decode cX6_digest 49 = .ok (.lstore_n 1, 1) := by decide +kernel
theorem dX6_digest_50 : decode cX6_digest 50 = .ok (.iinc 3 1, 3) := by decide +kernel
theorem dX6_digest_53 : decode cX6_digest 53 = .ok (.goto (-21), 3) := by decide +kernel
theorem dX6_digest_56 : decode cX6_digest 56 = .ok (.iconst 1, 1) := by decide +kernel
theorem dX6_digest_57 : decode cX6_digest 57 = .ok (.istore_n 3, 1) := by decide +kernel
theorem dX6_digest_58 : decode cX6_digest 58 = .ok (.iload_n 3, 1) := by decide +kernel
theorem dX6_digest_59 : decode cX6_digest 59 = .ok (.bipush 7, 2) := by decide +kernel
theorem dX6_digest_61 : decode cX6_digest 61 = .ok (.if_icmp .gt 39, 3) := by decide +kernel
theorem dX6_digest_64 : decode cX6_digest 64 = .ok (.iconst 0, 1) := by decide +kernel
theorem dX6_digest_65 : decode cX6_digest 65 = .ok (.istore 4, 2) := by decide +kernel
theorem dX6_digest_67 : decode cX6_digest 67 = .ok (.iload 4, 2) := by decide +kernel
theorem dX6_digest_69 : decode cX6_digest 69 = .ok (.iconst 4, 1) := by decide +kernel
theorem dX6_digest_70 : decode cX6_digest 70 = .ok (.if_icmp .gt 24, 3) := by decide +kernel
theorem dX6_digest_73 : decode cX6_digest 73 = .ok (.ldc2_w 179, 3) := by decide +kernel
theorem dX6_digest_76 : decode cX6_digest 76 = .ok (.lload_n 1, 1) := by decide +kernel
theorem dX6_digest_77 : decode cX6_digest 77 = .ok (.lmul, 1) := by decide +kernel
theorem dX6_digest_78 : decode cX6_digest 78 = .ok (.aload_n 0, 1) := by decide +kernel
theorem dX6_digest_79 : decode cX6_digest 79 = .ok (.iload_n 3, 1) := by decide +kernel
theorem dX6_digest_80 : decode cX6_digest 80 = .ok (.iload 4, 2) := by decide +kernel
theorem dX6_digest_82 : decode cX6_digest 82 = .ok (.invokevirtual 187, 3) := by decide +kernel
theorem dX6_digest_85 : decode cX6_digest 85 = .ok (.i2l, 1) := by decide +kernel
theorem dX6_digest_86 : decode cX6_digest 86 = .ok (.ladd, 1) := by decide +kernel
theorem dX6_digest_87 : decode cX6_digest 87 = .ok (.lstore_n 1, 1) := by decide +kernel
theorem dX6_digest_88 : decode cX6_digest 88 = .ok (.iinc 4 1, 3) := by decide +kernel
theorem dX6_digest_91 : decode cX6_digest 91 = .ok (.goto (-24), 3) := by decide +kernel
theorem dX6_digest_94 : decode cX6_digest 94 = .ok (.iinc 3 1, 3) := by decide +kernel
theorem dX6_digest_97 : decode cX6_digest 97 = .ok (.goto (-39), 3) := by decide +kernel
theorem dX6_digest_100 : decode cX6_digest 100 = .ok (.iconst 0, 1) := by decide +kernel
theorem dX6_digest_101 : decode cX6_digest 101 = .ok (.istore_n 3, 1) := by decide +kernel
theorem dX6_digest_102 : decode cX6_digest 102 = .ok (.iload_n 3, 1) := by decide +kernel
theorem dX6_digest_103 : decode cX6_digest 103 = .ok (.iconst 5, 1) := by decide +kernel
theorem dX6_digest_104 : decode cX6_digest 104 = .ok (.if_icmp .ge 39, 3) := by decide +kernel
theorem dX6_digest_107 : decode cX6_digest 107 = .ok (.iconst 0, 1) := by decide +kernel
theorem dX6_digest_108 : decode cX6_digest 108 = .ok (.istore 4, 2) := by decide +kernel
theorem dX6_digest_110 : decode cX6_digest 110 = .ok (.iload 4, 2) := by decide +kernel
theorem dX6_digest_112 : decode cX6_digest 112 = .ok (.iconst 3, 1) := by decide +kernel
theorem dX6_digest_113 : decode cX6_digest 113 = .ok (.if_icmp .gt 24, 3) := by decide +kernel
theorem dX6_digest_116 : decode cX6_digest 116 = .ok (.ldc2_w 179, 3) := by decide +kernel
theorem dX6_digest_119 : decode cX6_digest 119 = .ok (.lload_n 1, 1) := by decide +kernel
theorem dX6_digest_120 : decode cX6_digest 120 = .ok (.lmul, 1) := by decide +kernel
theorem dX6_digest_121 : decode cX6_digest 121 = .ok (.aload_n 0, 1) := by decide +kernel
theorem dX6_digest_122 : decode cX6_digest 122 = .ok (.iload_n 3, 1) := by decide +kernel
theorem dX6_digest_123 : decode cX6_digest 123 = .ok (.iload 4, 2) := by decide +kernel
theorem dX6_digest_125 : decode cX6_digest 125 = .ok (.invokevirtual 190, 3) := by decide +kernel
theorem dX6_digest_128 : decode cX6_digest 128 = .ok (.i2l, 1) := by decide +kernel
theorem dX6_digest_129 : decode cX6_digest 129 = .ok (.ladd, 1) := by decide +kernel
theorem dX6_digest_130 : decode cX6_digest 130 = .ok (.lstore_n 1, 1) := by decide +kernel
theorem dX6_digest_131 : decode cX6_digest 131 = .ok (.iinc 4 1, 3) := by decide +kernel
theorem dX6_digest_134 : decode cX6_digest 134 = .ok (.goto (-24), 3) := by decide +kernel
theorem dX6_digest_137 : decode cX6_digest 137 = .ok (.iinc 3 1, 3) := by decide +kernel
theorem dX6_digest_140 : decode cX6_digest 140 = .ok (.goto (-38), 3) := by decide +kernel
theorem dX6_digest_143 : decode cX6_digest 143 = .ok (.iconst 0, 1) := by decide +kernel
theorem dX6_digest_144 : decode cX6_digest 144 = .ok (.istore_n 3, 1) := by decide +kernel
theorem dX6_digest_145 : decode cX6_digest 145 = .ok (.iload_n 3, 1) := by decide +kernel
theorem dX6_digest_146 : decode cX6_digest 146 = .ok (.bipush 12, 2) := by decide +kernel
theorem dX6_digest_148 : decode cX6_digest 148 = .ok (.if_icmp .gt 22, 3) := by decide +kernel
theorem dX6_digest_151 : decode cX6_digest 151 = .ok (.ldc2_w 179, 3) := by decide +kernel
theorem dX6_digest_154 : decode cX6_digest 154 = .ok (.lload_n 1, 1) := by decide +kernel
theorem dX6_digest_155 : decode cX6_digest 155 = .ok (.lmul, 1) := by decide +kernel
theorem dX6_digest_156 : decode cX6_digest 156 = .ok (.aload_n 0, 1) := by decide +kernel
theorem dX6_digest_157 : decode cX6_digest 157 = .ok (.iload_n 3, 1) := by decide +kernel
theorem dX6_digest_158 : decode cX6_digest 158 = .ok (.invokevirtual 193, 3) := by decide +kernel
theorem dX6_digest_161 : decode cX6_digest 161 = .ok (.i2l, 1) := by decide +kernel
theorem dX6_digest_162 : decode cX6_digest 162 = .ok (.ladd, 1) := by decide +kernel
theorem dX6_digest_163 : decode cX6_digest 163 = .ok (.lstore_n 1, 1) := by decide +kernel
theorem dX6_digest_164 : decode cX6_digest 164 = .ok (.iinc 3 1, 3) := by decide +kernel
theorem dX6_digest_167 : decode cX6_digest 167 = .ok (.goto (-22), 3) := by decide +kernel
theorem dX6_digest_170 : decode cX6_digest 170 = .ok (.lload_n 1, 1) := by decide +kernel
theorem dX6_digest_171 : decode cX6_digest 171 = .ok (.lreturn, 1) := by decide +kernel
set_option maxRecDepth 20000 in
theorem ggX6_changed_X4_draft : GoodIn wsX6_changed wsX4_draft := goodIn_r _ [7, 8, 9, 10, 11, 12, 13, 14, 177, 178, 179, 180] (by decide +kernel) (by decide +kernel)
set_option maxRecDepth 20000 in
theorem gX6_changed_X4_draft : GoodIn wsX6_changed (wsV RX6 147 RX4 yX4_draft wsX4_draft) := goodIn_app (goodIn_of _ (by decide +kernel)) ggX6_changed_X4_draft
set_option maxRecDepth 20000 in
theorem ggX6_changed_X2_obey : GoodIn wsX6_changed wsX2_obey := goodIn_r _ [19, 20, 21, 22, 23, 18, 24, 25, 26, 27, 28, 29, 30, 31, 32, 33, 34, 35, 36, 37, 38, 39, 40, 41, 42, 43, 44, 45, 46, 47, 48, 49, 50, 51, 52, 53, 54, 55, 56, 57, 58, 59, 60, 61, 62, 63, 64, 65, 66, 67, 68, 69, 70, 71, 72, 73, 74, 75, 76, 77, 78, 79, 80, 81, 82, 83, 84, 85, 86, 87, 88, 89, 90, 91, 92, 93, 94, 95, 96, 97, 98, 99, 100, 101, 102, 103, 104, 105, 106, 107, 108, 109, 110, 111, 112, 113, 114, 115, 116, 117, 118, 119, 120, 121, 122, 123, 124, 125, 126, 127, 128, 129, 130, 131, 132, 133, 134, 135, 136, 137, 138, 139, 140, 141, 142, 143, 144, 145, 146, 147, 148, 149, 150, 151, 152, 153, 154, 181, 182, 183, 184, 185, 186, 187, 188, 189, 190] (by decide +kernel) (by decide +kernel)
set_option maxRecDepth 20000 in
theorem gX6_changed_X2_obey : GoodIn wsX6_changed (wsV RX6 161 RX2 yX2_obey wsX2_obey) := goodIn_app (goodIn_of _ (by decide +kernel)) ggX6_changed_X2_obey
set_option maxRecDepth 20000 in
theorem ggX6_changed_X6_refusal : GoodIn wsX6_changed wsX6_refusal := goodIn_r _ [158, 159, 160, 29, 27, 30, 167, 168, 169, 170, 171, 172, 173, 174, 175, 176] (by decide +kernel) (by decide +kernel)
set_option maxRecDepth 20000 in
theorem gX6_changed_X6_refusal : GoodIn wsX6_changed (wsV RX6 79 RX6 yX6_refusal wsX6_refusal) := goodIn_app (goodIn_of _ (by decide +kernel)) ggX6_changed_X6_refusal
set_option maxRecDepth 20000 in
theorem ggX6_changed_X4_keepDraft : GoodIn wsX6_changed wsX4_keepDraft := goodIn_r _ [164, 10, 165, 166, 128, 67, 129, 177, 178, 179, 180] (by decide +kernel) (by decide +kernel)
set_option maxRecDepth 20000 in
theorem gX6_changed_X4_keepDraft : GoodIn wsX6_changed (wsV RX6 167 RX4 yX4_keepDraft wsX4_keepDraft) := goodIn_app (goodIn_of _ (by decide +kernel)) ggX6_changed_X4_keepDraft
theorem dX6_changed_0 : decode cX6_changed 0 = .ok (.aload_n 0, 1) := by decide +kernel
theorem dX6_changed_1 : decode cX6_changed 1 = .ok (.getfield 53, 3) := by decide +kernel
theorem dX6_changed_4 : decode cX6_changed 4 = .ok (.invokevirtual 147, 3) := by decide +kernel
theorem dX6_changed_7 : decode cX6_changed 7 = .ok (.aload_n 0, 1) := by decide +kernel
theorem dX6_changed_8 : decode cX6_changed 8 = .ok (.getfield 46, 3) := by decide +kernel
theorem dX6_changed_11 : decode cX6_changed 11 = .ok (.iload_n 1, 1) := by decide +kernel
theorem dX6_changed_12 : decode cX6_changed 12 = .ok (.iload_n 2, 1) := by decide +kernel
theorem dX6_changed_13 : decode cX6_changed 13 = .ok (.iload_n 3, 1) := by decide +kernel
theorem dX6_changed_14 : decode cX6_changed 14 = .ok (.invokevirtual 161, 3) := by decide +kernel
theorem dX6_changed_17 : decode cX6_changed 17 = .ok (.istore 4, 2) := by decide +kernel
theorem dX6_changed_19 : decode cX6_changed 19 = .ok (.iload 4, 2) := by decide +kernel
theorem dX6_changed_21 : decode cX6_changed 21 = .ok (.ifCond .ge 10, 3) := by decide +kernel
theorem dX6_changed_24 : decode cX6_changed 24 = .ok (.aload_n 0, 1) := by decide +kernel
theorem dX6_changed_25 : decode cX6_changed 25 = .ok (.iload 4, 2) := by decide +kernel
theorem dX6_changed_27 : decode cX6_changed 27 = .ok (.invokevirtual 79, 3) := by decide +kernel
theorem dX6_changed_30 : decode cX6_changed 30 = .ok (.ireturn, 1) := by decide +kernel
theorem dX6_changed_31 : decode cX6_changed 31 = .ok (.aload_n 0, 1) := by decide +kernel
theorem dX6_changed_32 : decode cX6_changed 32 = .ok (.getfield 53, 3) := by decide +kernel
theorem dX6_changed_35 : decode cX6_changed 35 = .ok (.invokevirtual 167, 3) := by decide +kernel
theorem dX6_changed_38 : decode cX6_changed 38 = .ok (.iload 4, 2) := by decide +kernel
theorem dX6_changed_40 : decode cX6_changed 40 = .ok (.ireturn, 1) := by decide +kernel
set_option maxRecDepth 20000 in
theorem ggX6_refusal_X6_isWithin : GoodIn wsX6_refusal wsX6_isWithin := goodIn_r _ [5] (by decide +kernel) (by decide +kernel)
set_option maxRecDepth 20000 in
theorem gX6_refusal_X6_isWithin : GoodIn wsX6_refusal (va_wsS RX6 95 yX6_isWithin wsX6_isWithin) := goodIn_app (goodIn_of _ (by decide +kernel)) ggX6_refusal_X6_isWithin
theorem dX6_refusal_0 : decode cX6_refusal 0 = .ok (.iload_n 1, 1) := by decide +kernel
theorem dX6_refusal_1 : decode cX6_refusal 1 = .ok (.bipush (-4), 2) := by decide +kernel
theorem dX6_refusal_3 : decode cX6_refusal 3 = .ok (.bipush (-2), 2) := by decide +kernel
theorem dX6_refusal_5 : decode cX6_refusal 5 = .ok (.invokestatic 95, 3) := by decide +kernel
theorem dX6_refusal_8 : decode cX6_refusal 8 = .ok (.ifCond .eq 16, 3) := by decide +kernel
theorem dX6_refusal_11 : decode cX6_refusal 11 = .ok (.aload_n 0, 1) := by decide +kernel
theorem dX6_refusal_12 : decode cX6_refusal 12 = .ok (.getfield 13, 3) := by decide +kernel
theorem dX6_refusal_15 : decode cX6_refusal 15 = .ok (.bipush (-2), 2) := by decide +kernel
theorem dX6_refusal_17 : decode cX6_refusal 17 = .ok (.iload_n 1, 1) := by decide +kernel
theorem dX6_refusal_18 : decode cX6_refusal 18 = .ok (.isub, 1) := by decide +kernel
theorem dX6_refusal_19 : decode cX6_refusal 19 = .ok (.dup2, 1) := by decide +kernel
theorem dX6_refusal_20 : decode cX6_refusal 20 = .ok (.iaload, 1) := by decide +kernel
theorem dX6_refusal_21 : decode cX6_refusal 21 = .ok (.iconst 1, 1) := by decide +kernel
theorem dX6_refusal_22 : decode cX6_refusal 22 = .ok (.iadd, 1) := by decide +kernel
theorem dX6_refusal_23 : decode cX6_refusal 23 = .ok (.iastore, 1) := by decide +kernel
theorem dX6_refusal_24 : decode cX6_refusal 24 = .ok (.iload_n 1, 1) := by decide +kernel
theorem dX6_refusal_25 : decode cX6_refusal 25 = .ok (.ireturn, 1) := by decide +kernel
theorem dX6_isWithin_0 : decode cX6_isWithin 0 = .ok (.iload_n 0, 1) := by decide +kernel
theorem dX6_isWithin_1 : decode cX6_isWithin 1 = .ok (.iload_n 1, 1) := by decide +kernel
theorem dX6_isWithin_2 : decode cX6_isWithin 2 = .ok (.if_icmp .lt 12, 3) := by decide +kernel
theorem dX6_isWithin_5 : decode cX6_isWithin 5 = .ok (.iload_n 0, 1) := by decide +kernel
theorem dX6_isWithin_6 : decode cX6_isWithin 6 = .ok (.iload_n 2, 1) := by decide +kernel
theorem dX6_isWithin_7 : decode cX6_isWithin 7 = .ok (.if_icmp .gt 7, 3) := by decide +kernel
theorem dX6_isWithin_10 : decode cX6_isWithin 10 = .ok (.iconst 1, 1) := by decide +kernel
theorem dX6_isWithin_11 : decode cX6_isWithin 11 = .ok (.goto 4, 3) := by decide +kernel
theorem dX6_isWithin_14 : decode cX6_isWithin 14 = .ok (.iconst 0, 1) := by decide +kernel
theorem dX6_isWithin_15 : decode cX6_isWithin 15 = .ok (.ireturn, 1) := by decide +kernel
theorem dX6_isGear_0 : decode cX6_isGear 0 = .ok (.iload_n 0, 1) := by decide +kernel
theorem dX6_isGear_1 : decode cX6_isGear 1 = .ok (.iconst 1, 1) := by decide +kernel
theorem dX6_isGear_2 : decode cX6_isGear 2 = .ok (.if_icmp .lt 13, 3) := by decide +kernel
theorem dX6_isGear_5 : decode cX6_isGear 5 = .ok (.iload_n 0, 1) := by decide +kernel
theorem dX6_isGear_6 : decode cX6_isGear 6 = .ok (.bipush 7, 2) := by decide +kernel
theorem dX6_isGear_8 : decode cX6_isGear 8 = .ok (.if_icmp .gt 7, 3) := by decide +kernel
theorem dX6_isGear_11 : decode cX6_isGear 11 = .ok (.iconst 1, 1) := by decide +kernel
theorem dX6_isGear_12 : decode cX6_isGear 12 = .ok (.goto 4, 3) := by decide +kernel
theorem dX6_isGear_15 : decode cX6_isGear 15 = .ok (.iconst 0, 1) := by decide +kernel
theorem dX6_isGear_16 : decode cX6_isGear 16 = .ok (.ireturn, 1) := by decide +kernel
theorem dX6_isClutch_0 : decode cX6_isClutch 0 = .ok (.iload_n 0, 1) := by decide +kernel
theorem dX6_isClutch_1 : decode cX6_isClutch 1 = .ok (.ifCond .lt 12, 3) := by decide +kernel
theorem dX6_isClutch_4 : decode cX6_isClutch 4 = .ok (.iload_n 0, 1) := by decide +kernel
theorem dX6_isClutch_5 : decode cX6_isClutch 5 = .ok (.iconst 5, 1) := by decide +kernel
theorem dX6_isClutch_6 : decode cX6_isClutch 6 = .ok (.if_icmp .ge 7, 3) := by decide +kernel
theorem dX6_isClutch_9 : decode cX6_isClutch 9 = .ok (.iconst 1, 1) := by decide +kernel
theorem dX6_isClutch_10 : decode cX6_isClutch 10 = .ok (.goto 4, 3) := by decide +kernel
theorem dX6_isClutch_13 : decode cX6_isClutch 13 = .ok (.iconst 0, 1) := by decide +kernel
theorem dX6_isClutch_14 : decode cX6_isClutch 14 = .ok (.ireturn, 1) := by decide +kernel
set_option maxRecDepth 20000 in
theorem ggX6_arePair_X6_isGear : GoodIn wsX6_arePair wsX6_isGear := goodIn_r _ [4] (by decide +kernel) (by decide +kernel)
set_option maxRecDepth 20000 in
theorem gX6_arePair_X6_isGear : GoodIn wsX6_arePair (va_wsS RX6 75 yX6_isGear wsX6_isGear) := goodIn_app (goodIn_of _ (by decide +kernel)) ggX6_arePair_X6_isGear
theorem dX6_arePair_0 : decode cX6_arePair 0 = .ok (.iload_n 0, 1) := by decide +kernel
theorem dX6_arePair_1 : decode cX6_arePair 1 = .ok (.invokestatic 75, 3) := by decide +kernel
theorem dX6_arePair_4 : decode cX6_arePair 4 = .ok (.ifCond .eq 19, 3) := by decide +kernel
theorem dX6_arePair_7 : decode cX6_arePair 7 = .ok (.iload_n 1, 1) := by decide +kernel
theorem dX6_arePair_8 : decode cX6_arePair 8 = .ok (.invokestatic 75, 3) := by decide +kernel
theorem dX6_arePair_11 : decode cX6_arePair 11 = .ok (.ifCond .eq 12, 3) := by decide +kernel
theorem dX6_arePair_14 : decode cX6_arePair 14 = .ok (.iload_n 0, 1) := by decide +kernel
theorem dX6_arePair_15 : decode cX6_arePair 15 = .ok (.iload_n 1, 1) := by decide +kernel
theorem dX6_arePair_16 : decode cX6_arePair 16 = .ok (.if_icmp .eq 7, 3) := by decide +kernel
theorem dX6_arePair_19 : decode cX6_arePair 19 = .ok (.iconst 1, 1) := by decide +kernel
theorem dX6_arePair_20 : decode cX6_arePair 20 = .ok (.goto 4, 3) := by decide +kernel
theorem dX6_arePair_23 : decode cX6_arePair 23 = .ok (.iconst 0, 1) := by decide +kernel
theorem dX6_arePair_24 : decode cX6_arePair 24 = .ok (.ireturn, 1) := by decide +kernel
theorem dX7_init_0 : decode cX7_init 0 = .ok (.aload_n 0, 1) := by decide +kernel
theorem dX7_init_1 : decode cX7_init 1 = .ok (.invokespecial 1, 3) := by decide +kernel
theorem dX7_init_4 : decode cX7_init 4 = .ok (.aload_n 0, 1) := by decide +kernel
theorem dX7_init_5 : decode cX7_init 5 = .ok (.bipush 51, 2) := by decide +kernel
theorem dX7_init_7 : decode cX7_init 7 = .ok (.newarray .int, 2) := by decide +kernel
theorem dX7_init_9 : decode cX7_init 9 = .ok (.putfield 7, 3) := by decide +kernel
theorem dX7_init_12 : decode cX7_init 12 = .ok (.aload_n 0, 1) := by decide +kernel
theorem dX7_init_13 : decode cX7_init 13 = .ok (.bipush 51, 2) := by decide +kernel
theorem dX7_init_15 : decode cX7_init 15 = .ok (.newarray .int, 2) := by decide +kernel
theorem dX7_init_17 : decode cX7_init 17 = .ok (.putfield 13, 3) := by decide +kernel
theorem dX7_init_20 : decode cX7_init 20 = .ok (.aload_n 0, 1) := by decide +kernel
theorem dX7_init_21 : decode cX7_init 21 = .ok (.sipush 255, 3) := by decide +kernel
theorem dX7_init_24 : decode cX7_init 24 = .ok (.newarray .int, 2) := by decide +kernel
theorem dX7_init_26 : decode cX7_init 26 = .ok (.putfield 16, 3) := by decide +kernel
theorem dX7_init_29 : decode cX7_init 29 = .ok (.aload_n 0, 1) := by decide +kernel
theorem dX7_init_30 : decode cX7_init 30 = .ok (.iconst 3, 1) := by decide +kernel
theorem dX7_init_31 : decode cX7_init 31 = .ok (.newarray .int, 2) := by decide +kernel
theorem dX7_init_33 : decode cX7_init 33 = .ok (.putfield 19, 3) := by decide +kernel
theorem dX7_init_36 : decode cX7_init 36 = .ok (.aload_n 0, 1) := by decide +kernel
theorem dX7_init_37 : decode cX7_init 37 = .ok (.iconst (-1), 1) := by decide +kernel
theorem dX7_init_38 : decode cX7_init 38 = .ok (.putfield 22, 3) := by decide +kernel
theorem dX7_init_41 : decode cX7_init 41 = .ok (.aload_n 0, 1) := by decide +kernel
theorem dX7_init_42 : decode cX7_init 42 = .ok (.sipush 150, 3) := by decide +kernel
theorem dX7_init_45 : decode cX7_init 45 = .ok (.newarray .int, 2) := by decide +kernel
theorem dX7_init_47 : decode cX7_init 47 = .ok (.putfield 26, 3) := by decide +kernel
theorem dX7_init_50 : decode cX7_init 50 = .ok (.aload_n 0, 1) := by decide +kernel
theorem dX7_init_51 : decode cX7_init 51 = .ok (.sipush 150, 3) := by decide +kernel
theorem dX7_init_54 : decode cX7_init 54 = .ok (.newarray .int, 2) := by decide +kernel
theorem dX7_init_56 : decode cX7_init 56 = .ok (.putfield 29, 3) := by decide +kernel
theorem dX7_init_59 : decode cX7_init 59 = .ok (.aload_n 0, 1) := by decide +kernel
theorem dX7_init_60 : decode cX7_init 60 = .ok (.sipush 151, 3) := by decide +kernel
theorem dX7_init_63 : decode cX7_init 63 = .ok (.newarray .int, 2) := by decide +kernel
theorem dX7_init_65 : decode cX7_init 65 = .ok (.putfield 32, 3) := by decide +kernel
theorem dX7_init_68 : decode cX7_init 68 = .ok (.aload_n 0, 1) := by decide +kernel
theorem dX7_init_69 : decode cX7_init 69 = .ok (.sipush 150, 3) := by decide +kernel
theorem dX7_init_72 : decode cX7_init 72 = .ok (.newarray .int, 2) := by decide +kernel
theorem dX7_init_74 : decode cX7_init 74 = .ok (.putfield 35, 3) := by decide +kernel
theorem dX7_init_77 : decode cX7_init 77 = .ok (.aload_n 0, 1) := by decide +kernel
theorem dX7_init_78 : decode cX7_init 78 = .ok (.bipush 8, 2) := by decide +kernel
theorem dX7_init_80 : decode cX7_init 80 = .ok (.newarray .int, 2) := by decide +kernel
theorem dX7_init_82 : decode cX7_init 82 = .ok (.putfield 38, 3) := by decide +kernel
theorem dX7_init_85 : decode cX7_init 85 = .ok (.aload_n 0, 1) := by decide +kernel
theorem dX7_init_86 : decode cX7_init 86 = .ok (.bipush 8, 2) := by decide +kernel
theorem dX7_init_88 : decode cX7_init 88 = .ok (.newarray .int, 2) := by decide +kernel
theorem dX7_init_90 : decode cX7_init 90 = .ok (.putfield 41, 3) := by decide +kernel
theorem dX7_init_93 : decode cX7_init 93 = .ok (.iconst 0, 1) := by decide +kernel
theorem dX7_init_94 : decode cX7_init 94 = .ok (.istore_n 1, 1) := by decide +kernel
theorem dX7_init_95 : decode cX7_init 95 = .ok (.iload_n 1, 1) := by decide +kernel
theorem dX7_init_96 : decode cX7_init 96 = .ok (.iconst 5, 1) := by decide +kernel
theorem dX7_init_97 : decode cX7_init 97 = .ok (.if_icmp .ge 31, 3) := by decide +kernel
theorem dX7_init_100 : decode cX7_init 100 = .ok (.aload_n 0, 1) := by decide +kernel
theorem dX7_init_101 : decode cX7_init 101 = .ok (.getfield 7, 3) := by decide +kernel
theorem dX7_init_104 : decode cX7_init 104 = .ok (.bipush 13, 2) := by decide +kernel
theorem dX7_init_106 : decode cX7_init 106 = .ok (.iload_n 1, 1) := by decide +kernel
theorem dX7_init_107 : decode cX7_init 107 = .ok (.iadd, 1) := by decide +kernel
theorem dX7_init_108 : decode cX7_init 108 = .ok (.bipush 8, 2) := by decide +kernel
theorem dX7_init_110 : decode cX7_init 110 = .ok (.iastore, 1) := by decide +kernel
theorem dX7_init_111 : decode cX7_init 111 = .ok (.aload_n 0, 1) := by decide +kernel
theorem dX7_init_112 : decode cX7_init 112 = .ok (.getfield 7, 3) := by decide +kernel
theorem dX7_init_115 : decode cX7_init 115 = .ok (.bipush 18, 2) := by decide +kernel
theorem dX7_init_117 : decode cX7_init 117 = .ok (.iload_n 1, 1) := by decide +kernel
theorem dX7_init_118 : decode cX7_init 118 = .ok (.iadd, 1) := by decide +kernel
theorem dX7_init_119 : decode cX7_init 119 = .ok (.bipush 8, 2) := by decide +kernel
theorem dX7_init_121 : decode cX7_init 121 = .ok (.iastore, 1) := by decide +kernel
theorem dX7_init_122 : decode cX7_init 122 = .ok (.iinc 1 1, 3) := by decide +kernel
theorem dX7_init_125 : decode cX7_init 125 = .ok (.goto (-30), 3) := by decide +kernel
theorem dX7_init_128 : decode cX7_init 128 = .ok (.iconst 1, 1) := by decide +kernel
theorem dX7_init_129 : decode cX7_init 129 = .ok (.istore_n 1, 1) := by decide +kernel
theorem dX7_init_130 : decode cX7_init 130 = .ok (.iload_n 1, 1) := by decide +kernel
theorem dX7_init_131 : decode cX7_init 131 = .ok (.bipush 7, 2) := by decide +kernel
theorem dX7_init_133 : decode cX7_init 133 = .ok (.if_icmp .gt 38, 3) := by decide +kernel
theorem dX7_init_136 : decode cX7_init 136 = .ok (.aload_n 0, 1) := by decide +kernel
theorem dX7_init_137 : decode cX7_init 137 = .ok (.getfield 7, 3) := by decide +kernel
theorem dX7_init_140 : decode cX7_init 140 = .ok (.bipush 23, 2) := by decide +kernel
theorem dX7_init_142 : decode cX7_init 142 = .ok (.iload_n 1, 1) := by decide +kernel
theorem dX7_init_143 : decode cX7_init 143 = .ok (.iadd, 1) := by decide +kernel
theorem dX7_init_144 : decode cX7_init 144 = .ok (.bipush 20, 2) := by decide +kernel
theorem dX7_init_146 : decode cX7_init 146 = .ok (.iload_n 1, 1) := by decide +kernel
theorem dX7_init_147 : decode cX7_init 147 = .ok (.imul, 1) := by decide +kernel
theorem dX7_init_148 : decode cX7_init 148 = .ok (.iastore, 1) := by decide +kernel
theorem dX7_init_149 : decode cX7_init 149 = .ok (.aload_n 0, 1) := by decide +kernel
theorem dX7_init_150 : decode cX7_init 150 = .ok (.getfield 7, 3) := by decide +kernel
theorem dX7_init_153 : decode cX7_init 153 = .ok (.bipush 31, 2) := by decide +kernel
theorem dX7_init_155 : decode cX7_init 155 = .ok (.iload_n 1, 1) := by decide +kernel
theorem dX7_init_156 : decode cX7_init 156 = .ok (.iadd, 1) := by decide +kernel
theorem dX7_init_157 : decode cX7_init 157 = .ok (.bipush 20, 2) := by decide +kernel
theorem dX7_init_159 : decode cX7_init 159 = .ok (.iload_n 1, 1) := by decide +kernel
theorem dX7_init_160 : decode cX7_init 160 = .ok (.imul, 1) := by decide +kernel
theorem dX7_init_161 : decode cX7_init 161 = .ok (.bipush 15, 2) := by decide +kernel
theorem dX7_init_163 : decode cX7_init 163 = .ok (.isub, 1) := by decide +kernel
theorem dX7_init_164 : decode cX7_init 164 = .ok (.iastore, 1) := by decide +kernel
theorem dX7_init_165 : decode cX7_init 165 = .ok (.iinc 1 1, 3) := by decide +kernel
theorem dX7_init_168 : decode cX7_init 168 = .ok (.goto (-38), 3) := by decide +kernel
theorem dX7_init_171 : decode cX7_init 171 = .ok (.aload_n 0, 1) := by decide +kernel
theorem dX7_init_172 : decode cX7_init 172 = .ok (.getfield 7, 3) := by decide +kernel
theorem dX7_init_175 : decode cX7_init 175 = .ok (.bipush 41, 2) := by decide +kernel
theorem dX7_init_177 : decode cX7_init 177 = .ok (.iconst 5, 1) := by decide +kernel
theorem dX7_init_178 : decode cX7_init 178 = .ok (.iastore, 1) := by decide +kernel
theorem dX7_init_179 : decode cX7_init 179 = .ok (.aload_n 0, 1) := by decide +kernel
theorem dX7_init_180 : decode cX7_init 180 = .ok (.getfield 7, 3) := by decide +kernel
theorem dX7_init_183 : decode cX7_init 183 = .ok (.bipush 42, 2) := by decide +kernel
theorem dX7_init_185 : decode cX7_init 185 = .ok (.bipush 100, 2) := by decide +kernel
theorem dX7_init_187 : decode cX7_init 187 = .ok (.iastore, 1) := by decide +kernel
theorem dX7_init_188 : decode cX7_init 188 = .ok (.aload_n 0, 1) := by decide +kernel
theorem dX7_init_189 : decode cX7_init 189 = .ok (.getfield 7, 3) := by decide +kernel
theorem dX7_init_192 : decode cX7_init 192 = .ok (.bipush 46, 2) := by decide +kernel
theorem dX7_init_194 : decode cX7_init 194 = .ok (.iconst (-1), 1) := by decide +kernel
theorem dX7_init_195 : decode cX7_init 195 = .ok (.iastore, 1) := by decide +kernel
theorem dX7_init_196 : decode cX7_init 196 = .ok (.return_, 1) := by decide +kernel
theorem dX7_in_0 : decode cX7_in 0 = .ok (.iload_n 0, 1) := by decide +kernel
theorem dX7_in_1 : decode cX7_in 1 = .ok (.iload_n 1, 1) := by decide +kernel
theorem dX7_in_2 : decode cX7_in 2 = .ok (.if_icmp .lt 12, 3) := by decide +kernel
theorem dX7_in_5 : decode cX7_in 5 = .ok (.iload_n 0, 1) := by decide +kernel
theorem dX7_in_6 : decode cX7_in 6 = .ok (.iload_n 2, 1) := by decide +kernel
theorem dX7_in_7 : decode cX7_in 7 = .ok (.if_icmp .gt 7, 3) := by decide +kernel
theorem dX7_in_10 : decode cX7_in 10 = .ok (.iconst 1, 1) := by decide +kernel
theorem dX7_in_11 : decode cX7_in 11 = .ok (.goto 4, 3) := by decide +kernel
theorem dX7_in_14 : decode cX7_in 14 = .ok (.iconst 0, 1) := by decide +kernel
theorem dX7_in_15 : decode cX7_in 15 = .ok (.ireturn, 1) := by decide +kernel
theorem dX7_bring_0 : decode cX7_bring 0 = .ok (.iconst 0, 1) := by decide +kernel
theorem dX7_bring_1 : decode cX7_bring 1 = .ok (.istore 4, 2) := by decide +kernel
theorem dX7_bring_3 : decode cX7_bring 3 = .ok (.iload 4, 2) := by decide +kernel
theorem dX7_bring_5 : decode cX7_bring 5 = .ok (.bipush 51, 2) := by decide +kernel
theorem dX7_bring_7 : decode cX7_bring 7 = .ok (.if_icmp .ge 21, 3) := by decide +kernel
theorem dX7_bring_10 : decode cX7_bring 10 = .ok (.aload_n 2, 1) := by decide +kernel
theorem dX7_bring_11 : decode cX7_bring 11 = .ok (.iload_n 3, 1) := by decide +kernel
theorem dX7_bring_12 : decode cX7_bring 12 = .ok (.iload 4, 2) := by decide +kernel
theorem dX7_bring_14 : decode cX7_bring 14 = .ok (.iadd, 1) := by decide +kernel
theorem dX7_bring_15 : decode cX7_bring 15 = .ok (.aload_n 0, 1) := by decide +kernel
theorem dX7_bring_16 : decode cX7_bring 16 = .ok (.iload_n 1, 1) := by decide +kernel
theorem dX7_bring_17 : decode cX7_bring 17 = .ok (.iload 4, 2) := by decide +kernel
theorem dX7_bring_19 : decode cX7_bring 19 = .ok (.iadd, 1) := by decide +kernel
theorem dX7_bring_20 : decode cX7_bring 20 = .ok (.iaload, 1) := by decide +kernel
theorem dX7_bring_21 : decode cX7_bring 21 = .ok (.iastore, 1) := by decide +kernel
theorem dX7_bring_22 : decode cX7_bring 22 = .ok (.iinc 4 1, 3) := by decide +kernel
theorem dX7_bring_25 : decode cX7_bring 25 = .ok (.goto (-22), 3) := by decide +kernel
theorem dX7_bring_28 : decode cX7_bring 28 = .ok (.return_, 1) := by decide +kernel
theorem dX7_refuse_0 : decode cX7_refuse 0 = .ok (.aload_n 0, 1) := by decide +kernel
theorem dX7_refuse_1 : decode cX7_refuse 1 = .ok (.getfield 19, 3) := by decide +kernel
theorem dX7_refuse_4 : decode cX7_refuse 4 = .ok (.bipush (-2), 2) := by decide +kernel
theorem dX7_refuse_6 : decode cX7_refuse 6 = .ok (.iload_n 1, 1) := by decide +kernel
theorem dX7_refuse_7 : decode cX7_refuse 7 = .ok (.isub, 1) := by decide +kernel
theorem dX7_refuse_8 : decode cX7_refuse 8 = .ok (.dup2, 1) := by decide +kernel
theorem dX7_refuse_9 : decode cX7_refuse 9 = .ok (.iaload, 1) := by decide +kernel
theorem dX7_refuse_10 : decode cX7_refuse 10 = .ok (.iconst 1, 1) := by decide +kernel
theorem dX7_refuse_11 : decode cX7_refuse 11 = .ok (.iadd, 1) := by decide +kernel
theorem dX7_refuse_12 : decode cX7_refuse 12 = .ok (.iastore, 1) := by decide +kernel
theorem dX7_refuse_13 : decode cX7_refuse 13 = .ok (.iload_n 1, 1) := by decide +kernel
theorem dX7_refuse_14 : decode cX7_refuse 14 = .ok (.ireturn, 1) := by decide +kernel
set_option maxRecDepth 20000 in
theorem ggX7_save_X7_bring : GoodIn wsX7_save wsX7_bring := goodIn_r _ [6] (by decide +kernel) (by decide +kernel)
set_option maxRecDepth 20000 in
theorem gX7_save_X7_bring : GoodIn wsX7_save (va_wsS RX7 44 yX7_bring wsX7_bring) := goodIn_app (goodIn_of _ (by decide +kernel)) ggX7_save_X7_bring
theorem dX7_save_0 : decode cX7_save 0 = .ok (.aload_n 0, 1) := by decide +kernel
theorem dX7_save_1 : decode cX7_save 1 = .ok (.getfield 7, 3) := by decide +kernel
theorem dX7_save_4 : decode cX7_save 4 = .ok (.iconst 0, 1) := by decide +kernel
theorem dX7_save_5 : decode cX7_save 5 = .ok (.aload_n 0, 1) := by decide +kernel
theorem dX7_save_6 : decode cX7_save 6 = .ok (.getfield 13, 3) := by decide +kernel
theorem dX7_save_9 : decode cX7_save 9 = .ok (.iconst 0, 1) := by decide +kernel
theorem dX7_save_10 : decode cX7_save 10 = .ok (.invokestatic 44, 3) := by decide +kernel
theorem dX7_save_13 : decode cX7_save 13 = .ok (.return_, 1) := by decide +kernel
set_option maxRecDepth 20000 in
theorem ggX7_finish_X7_refuse : GoodIn wsX7_finish wsX7_refuse := goodIn_r _ [8, 9, 13, 14, 15, 16, 17, 18, 19, 20, 21, 22, 23, 24, 25, 26, 27, 28, 29, 30, 31, 32, 33] (by decide +kernel) (by decide +kernel)
set_option maxRecDepth 20000 in
theorem gX7_finish_X7_refuse : GoodIn wsX7_finish (wsV RX7 48 RX7 yX7_refuse wsX7_refuse) := goodIn_app (goodIn_of _ (by decide +kernel)) ggX7_finish_X7_refuse
set_option maxRecDepth 20000 in
theorem ggX7_finish_X7_bring : GoodIn wsX7_finish wsX7_bring := goodIn_r _ [12] (by decide +kernel) (by decide +kernel)
set_option maxRecDepth 20000 in
theorem gX7_finish_X7_bring : GoodIn wsX7_finish (va_wsS RX7 44 yX7_bring wsX7_bring) := goodIn_app (goodIn_of _ (by decide +kernel)) ggX7_finish_X7_bring
theorem dX7_finish_0 : decode cX7_finish 0 = .ok (.iload_n 1, 1) := by decide +kernel
theorem dX7_finish_1 : decode cX7_finish 1 = .ok (.bipush (-2), 2) := by decide +kernel
theorem dX7_finish_3 : decode cX7_finish 3 = .ok (.if_icmp .eq 9, 3) := by decide +kernel
theorem dX7_finish_6 : decode cX7_finish 6 = .ok (.iload_n 1, 1) := by decide +kernel
theorem dX7_finish_7 : decode cX7_finish 7 = .ok (.bipush (-3), 2) := by decide +kernel
theorem dX7_finish_9 : decode cX7_finish 9 = .ok (.if_icmp .ne 9, 3) := by decide +kernel
theorem dX7_finish_12 : decode cX7_finish 12 = .ok (.aload_n 0, 1) := by decide +kernel
theorem dX7_finish_13 : decode cX7_finish 13 = .ok (.iload_n 1, 1) := by decide +kernel
theorem dX7_finish_14 : decode cX7_finish 14 = .ok (.invokevirtual 48, 3) := by decide +kernel
theorem dX7_finish_17 : decode cX7_finish 17 = .ok (.ireturn, 1) := by decide +kernel
theorem dX7_finish_18 : decode cX7_finish 18 = .ok (.aload_n 0, 1) := by decide +kernel
theorem dX7_finish_19 : decode cX7_finish 19 = .ok (.getfield 52, 3) := by decide +kernel
theorem dX7_finish_22 : decode cX7_finish 22 = .ok (.iconst 5, 1) := by decide +kernel
theorem dX7_finish_23 : decode cX7_finish 23 = .ok (.if_icmp .ne 43, 3) := by decide +kernel
theorem dX7_finish_26 : decode cX7_finish 26 = .ok (.iconst 0, 1) := by decide +kernel
theorem dX7_finish_27 : decode cX7_finish 27 = .ok (.istore_n 2, 1) := by decide +kernel
theorem dX7_finish_28 : decode cX7_finish 28 = .ok (.iload_n 2, 1) := by decide +kernel
theorem dX7_finish_29 : decode cX7_finish 29 = .ok (.sipush 204, 3) := by decide +kernel
theorem dX7_finish_32 : decode cX7_finish 32 = .ok (.if_icmp .ge 24, 3) := by decide +kernel
theorem dX7_finish_35 : decode cX7_finish 35 = .ok (.aload_n 0, 1) := by decide +kernel
theorem dX7_finish_36 : decode cX7_finish 36 = .ok (.getfield 16, 3) := by decide +kernel
theorem dX7_finish_39 : decode cX7_finish 39 = .ok (.iload_n 2, 1) := by decide +kernel
theorem dX7_finish_40 : decode cX7_finish 40 = .ok (.aload_n 0, 1) := by decide +kernel
theorem dX7_finish_41 : decode cX7_finish 41 = .ok (.getfield 16, 3) := by decide +kernel
theorem dX7_finish_44 : decode cX7_finish 44 = .ok (.iload_n 2, 1) := by decide +kernel
theorem dX7_finish_45 : decode cX7_finish 45 = .ok (.bipush 51, 2) := by decide +kernel
theorem dX7_finish_47 : decode cX7_finish 47 = .ok (.iadd, 1) := by decide +kernel
theorem dX7_finish_48 : decode cX7_finish 48 = .ok (.iaload, 1) := by decide +kernel
theorem dX7_finish_49 : decode cX7_finish 49 = .ok (.iastore, 1) := by decide +kernel
theorem dX7_finish_50 : decode cX7_finish 50 = .ok (.iinc 2 1, 3) := by decide +kernel
theorem dX7_finish_53 : decode cX7_finish 53 = .ok (.goto (-25), 3) := by decide +kernel
theorem dX7_finish_56 : decode cX7_finish 56 = .ok (.aload_n 0, 1) := by decide +kernel
theorem dX7_finish_57 : decode cX7_finish 57 = .ok (.dup, 1) := by decide +kernel
