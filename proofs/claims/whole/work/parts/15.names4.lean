theorem dX7_finish_58 : decode cX7_finish 58 = .ok (.getfield 52, 3) := by decide +kernel
theorem dX7_finish_61 : decode cX7_finish 61 = .ok (.iconst 1, 1) := by decide +kernel
theorem dX7_finish_62 : decode cX7_finish 62 = .ok (.isub, 1) := by decide +kernel
theorem dX7_finish_63 : decode cX7_finish 63 = .ok (.putfield 52, 3) := by decide +kernel
theorem dX7_finish_66 : decode cX7_finish 66 = .ok (.aload_n 0, 1) := by decide +kernel
theorem dX7_finish_67 : decode cX7_finish 67 = .ok (.getfield 13, 3) := by decide +kernel
theorem dX7_finish_70 : decode cX7_finish 70 = .ok (.iconst 0, 1) := by decide +kernel
theorem dX7_finish_71 : decode cX7_finish 71 = .ok (.aload_n 0, 1) := by decide +kernel
theorem dX7_finish_72 : decode cX7_finish 72 = .ok (.getfield 16, 3) := by decide +kernel
theorem dX7_finish_75 : decode cX7_finish 75 = .ok (.bipush 51, 2) := by decide +kernel
theorem dX7_finish_77 : decode cX7_finish 77 = .ok (.aload_n 0, 1) := by decide +kernel
theorem dX7_finish_78 : decode cX7_finish 78 = .ok (.getfield 52, 3) := by decide +kernel
theorem dX7_finish_81 : decode cX7_finish 81 = .ok (.imul, 1) := by decide +kernel
theorem dX7_finish_82 : decode cX7_finish 82 = .ok (.invokestatic 44, 3) := by decide +kernel
theorem dX7_finish_85 : decode cX7_finish 85 = .ok (.aload_n 0, 1) := by decide +kernel
theorem dX7_finish_86 : decode cX7_finish 86 = .ok (.dup, 1) := by decide +kernel
theorem dX7_finish_87 : decode cX7_finish 87 = .ok (.getfield 52, 3) := by decide +kernel
theorem dX7_finish_90 : decode cX7_finish 90 = .ok (.iconst 1, 1) := by decide +kernel
theorem dX7_finish_91 : decode cX7_finish 91 = .ok (.iadd, 1) := by decide +kernel
theorem dX7_finish_92 : decode cX7_finish 92 = .ok (.putfield 52, 3) := by decide +kernel
theorem dX7_finish_95 : decode cX7_finish 95 = .ok (.iload_n 1, 1) := by decide +kernel
theorem dX7_finish_96 : decode cX7_finish 96 = .ok (.ireturn, 1) := by decide +kernel
set_option maxRecDepth 20000 in
theorem ggX7_isGear_X7_in : GoodIn wsX7_isGear wsX7_in := goodIn_r _ [4] (by decide +kernel) (by decide +kernel)
set_option maxRecDepth 20000 in
theorem gX7_isGear_X7_in : GoodIn wsX7_isGear (va_wsS RX7 55 yX7_in wsX7_in) := goodIn_app (goodIn_of _ (by decide +kernel)) ggX7_isGear_X7_in
theorem dX7_isGear_0 : decode cX7_isGear 0 = .ok (.iload_n 0, 1) := by decide +kernel
theorem dX7_isGear_1 : decode cX7_isGear 1 = .ok (.iconst 1, 1) := by decide +kernel
theorem dX7_isGear_2 : decode cX7_isGear 2 = .ok (.bipush 7, 2) := by decide +kernel
theorem dX7_isGear_4 : decode cX7_isGear 4 = .ok (.invokestatic 55, 3) := by decide +kernel
theorem dX7_isGear_7 : decode cX7_isGear 7 = .ok (.ireturn, 1) := by decide +kernel
set_option maxRecDepth 20000 in
theorem ggX7_isClutch_X7_in : GoodIn wsX7_isClutch wsX7_in := goodIn_r _ [4] (by decide +kernel) (by decide +kernel)
set_option maxRecDepth 20000 in
theorem gX7_isClutch_X7_in : GoodIn wsX7_isClutch (va_wsS RX7 55 yX7_in wsX7_in) := goodIn_app (goodIn_of _ (by decide +kernel)) ggX7_isClutch_X7_in
theorem dX7_isClutch_0 : decode cX7_isClutch 0 = .ok (.iload_n 0, 1) := by decide +kernel
theorem dX7_isClutch_1 : decode cX7_isClutch 1 = .ok (.iconst 0, 1) := by decide +kernel
theorem dX7_isClutch_2 : decode cX7_isClutch 2 = .ok (.iconst 4, 1) := by decide +kernel
theorem dX7_isClutch_3 : decode cX7_isClutch 3 = .ok (.invokestatic 55, 3) := by decide +kernel
theorem dX7_isClutch_6 : decode cX7_isClutch 6 = .ok (.ireturn, 1) := by decide +kernel
theorem dX7_ones_0 : decode cX7_ones 0 = .ok (.iconst 0, 1) := by decide +kernel
theorem dX7_ones_1 : decode cX7_ones 1 = .ok (.istore_n 1, 1) := by decide +kernel
theorem dX7_ones_2 : decode cX7_ones 2 = .ok (.iconst 0, 1) := by decide +kernel
theorem dX7_ones_3 : decode cX7_ones 3 = .ok (.istore_n 2, 1) := by decide +kernel
theorem dX7_ones_4 : decode cX7_ones 4 = .ok (.iload_n 2, 1) := by decide +kernel
theorem dX7_ones_5 : decode cX7_ones 5 = .ok (.iconst 5, 1) := by decide +kernel
theorem dX7_ones_6 : decode cX7_ones 6 = .ok (.if_icmp .ge 17, 3) := by decide +kernel
theorem dX7_ones_9 : decode cX7_ones 9 = .ok (.iload_n 1, 1) := by decide +kernel
theorem dX7_ones_10 : decode cX7_ones 10 = .ok (.iload_n 0, 1) := by decide +kernel
theorem dX7_ones_11 : decode cX7_ones 11 = .ok (.iload_n 2, 1) := by decide +kernel
theorem dX7_ones_12 : decode cX7_ones 12 = .ok (.ishr, 1) := by decide +kernel
theorem dX7_ones_13 : decode cX7_ones 13 = .ok (.iconst 1, 1) := by decide +kernel
theorem dX7_ones_14 : decode cX7_ones 14 = .ok (.iand, 1) := by decide +kernel
theorem dX7_ones_15 : decode cX7_ones 15 = .ok (.iadd, 1) := by decide +kernel
theorem dX7_ones_16 : decode cX7_ones 16 = .ok (.istore_n 1, 1) := by decide +kernel
theorem dX7_ones_17 : decode cX7_ones 17 = .ok (.iinc 2 1, 3) := by decide +kernel
theorem dX7_ones_20 : decode cX7_ones 20 = .ok (.goto (-16), 3) := by decide +kernel
theorem dX7_ones_23 : decode cX7_ones 23 = .ok (.iload_n 1, 1) := by decide +kernel
theorem dX7_ones_24 : decode cX7_ones 24 = .ok (.ireturn, 1) := by decide +kernel
theorem dX7_isFit_0 : decode cX7_isFit 0 = .ok (.aload_n 0, 1) := by decide +kernel
theorem dX7_isFit_1 : decode cX7_isFit 1 = .ok (.getfield 7, 3) := by decide +kernel
theorem dX7_isFit_4 : decode cX7_isFit 4 = .ok (.iconst 0, 1) := by decide +kernel
theorem dX7_isFit_5 : decode cX7_isFit 5 = .ok (.iload_n 1, 1) := by decide +kernel
theorem dX7_isFit_6 : decode cX7_isFit 6 = .ok (.iadd, 1) := by decide +kernel
theorem dX7_isFit_7 : decode cX7_isFit 7 = .ok (.iaload, 1) := by decide +kernel
theorem dX7_isFit_8 : decode cX7_isFit 8 = .ok (.istore_n 2, 1) := by decide +kernel
theorem dX7_isFit_9 : decode cX7_isFit 9 = .ok (.iload_n 2, 1) := by decide +kernel
theorem dX7_isFit_10 : decode cX7_isFit 10 = .ok (.ifCond .eq 7, 3) := by decide +kernel
theorem dX7_isFit_13 : decode cX7_isFit 13 = .ok (.iconst 1, 1) := by decide +kernel
theorem dX7_isFit_14 : decode cX7_isFit 14 = .ok (.goto 4, 3) := by decide +kernel
theorem dX7_isFit_17 : decode cX7_isFit 17 = .ok (.iconst 0, 1) := by decide +kernel
theorem dX7_isFit_18 : decode cX7_isFit 18 = .ok (.istore_n 3, 1) := by decide +kernel
theorem dX7_isFit_19 : decode cX7_isFit 19 = .ok (.iconst 0, 1) := by decide +kernel
theorem dX7_isFit_20 : decode cX7_isFit 20 = .ok (.istore 4, 2) := by decide +kernel
theorem dX7_isFit_22 : decode cX7_isFit 22 = .ok (.iload 4, 2) := by decide +kernel
theorem dX7_isFit_24 : decode cX7_isFit 24 = .ok (.iconst 5, 1) := by decide +kernel
theorem dX7_isFit_25 : decode cX7_isFit 25 = .ok (.if_icmp .ge 74, 3) := by decide +kernel
theorem dX7_isFit_28 : decode cX7_isFit 28 = .ok (.iload_n 2, 1) := by decide +kernel
theorem dX7_isFit_29 : decode cX7_isFit 29 = .ok (.iload 4, 2) := by decide +kernel
theorem dX7_isFit_31 : decode cX7_isFit 31 = .ok (.ishr, 1) := by decide +kernel
theorem dX7_isFit_32 : decode cX7_isFit 32 = .ok (.iconst 1, 1) := by decide +kernel
theorem dX7_isFit_33 : decode cX7_isFit 33 = .ok (.iand, 1) := by decide +kernel
theorem dX7_isFit_34 : decode cX7_isFit 34 = .ok (.iconst 1, 1) := by decide +kernel
theorem dX7_isFit_35 : decode cX7_isFit 35 = .ok (.if_icmp .ne 7, 3) := by decide +kernel
theorem dX7_isFit_38 : decode cX7_isFit 38 = .ok (.iconst 1, 1) := by decide +kernel
theorem dX7_isFit_39 : decode cX7_isFit 39 = .ok (.goto 4, 3) := by decide +kernel
theorem dX7_isFit_42 : decode cX7_isFit 42 = .ok (.iconst 0, 1) := by decide +kernel
theorem dX7_isFit_43 : decode cX7_isFit 43 = .ok (.istore 5, 2) := by decide +kernel
theorem dX7_isFit_45 : decode cX7_isFit 45 = .ok (.iload_n 3, 1) := by decide +kernel
theorem dX7_isFit_46 : decode cX7_isFit 46 = .ok (.ifCond .eq 45, 3) := by decide +kernel
theorem dX7_isFit_49 : decode cX7_isFit 49 = .ok (.iload 5, 2) := by decide +kernel
theorem dX7_isFit_51 : decode cX7_isFit 51 = .ok (.ifCond .eq 17, 3) := by decide +kernel
theorem dX7_isFit_54 : decode cX7_isFit 54 = .ok (.aload_n 0, 1) := by decide +kernel
theorem dX7_isFit_55 : decode cX7_isFit 55 = .ok (.getfield 7, 3) := by decide +kernel
theorem dX7_isFit_58 : decode cX7_isFit 58 = .ok (.bipush 8, 2) := by decide +kernel
theorem dX7_isFit_60 : decode cX7_isFit 60 = .ok (.iload 4, 2) := by decide +kernel
theorem dX7_isFit_62 : decode cX7_isFit 62 = .ok (.iadd, 1) := by decide +kernel
theorem dX7_isFit_63 : decode cX7_isFit 63 = .ok (.iaload, 1) := by decide +kernel
theorem dX7_isFit_64 : decode cX7_isFit 64 = .ok (.iconst 1, 1) := by decide +kernel
theorem dX7_isFit_65 : decode cX7_isFit 65 = .ok (.if_icmp .eq 26, 3) := by decide +kernel
theorem dX7_isFit_68 : decode cX7_isFit 68 = .ok (.iload 5, 2) := by decide +kernel
theorem dX7_isFit_70 : decode cX7_isFit 70 = .ok (.ifCond .ne 17, 3) := by decide +kernel
theorem dX7_isFit_73 : decode cX7_isFit 73 = .ok (.aload_n 0, 1) := by decide +kernel
theorem dX7_isFit_74 : decode cX7_isFit 74 = .ok (.getfield 7, 3) := by decide +kernel
theorem dX7_isFit_77 : decode cX7_isFit 77 = .ok (.bipush 8, 2) := by decide +kernel
theorem dX7_isFit_79 : decode cX7_isFit 79 = .ok (.iload 4, 2) := by decide +kernel
theorem dX7_isFit_81 : decode cX7_isFit 81 = .ok (.iadd, 1) := by decide +kernel
theorem dX7_isFit_82 : decode cX7_isFit 82 = .ok (.iaload, 1) := by decide +kernel
theorem dX7_isFit_83 : decode cX7_isFit 83 = .ok (.iconst 2, 1) := by decide +kernel
theorem dX7_isFit_84 : decode cX7_isFit 84 = .ok (.if_icmp .eq 7, 3) := by decide +kernel
theorem dX7_isFit_87 : decode cX7_isFit 87 = .ok (.iconst 1, 1) := by decide +kernel
theorem dX7_isFit_88 : decode cX7_isFit 88 = .ok (.goto 4, 3) := by decide +kernel
theorem dX7_isFit_91 : decode cX7_isFit 91 = .ok (.iconst 0, 1) := by decide +kernel
theorem dX7_isFit_92 : decode cX7_isFit 92 = .ok (.istore_n 3, 1) := by decide +kernel
theorem dX7_isFit_93 : decode cX7_isFit 93 = .ok (.iinc 4 1, 3) := by decide +kernel
theorem dX7_isFit_96 : decode cX7_isFit 96 = .ok (.goto (-74), 3) := by decide +kernel
theorem dX7_isFit_99 : decode cX7_isFit 99 = .ok (.iload_n 3, 1) := by decide +kernel
theorem dX7_isFit_100 : decode cX7_isFit 100 = .ok (.ireturn, 1) := by decide +kernel
set_option maxRecDepth 20000 in
theorem ggX7_letGo_X7_isFit : GoodIn wsX7_letGo wsX7_isFit := goodIn_r _ [6, 1, 7, 8, 9, 10, 11, 12, 13, 14, 15, 16, 17, 18, 19, 20, 21, 22, 23, 24, 25, 26, 27] (by decide +kernel) (by decide +kernel)
set_option maxRecDepth 20000 in
theorem gX7_letGo_X7_isFit : GoodIn wsX7_letGo (wsV RX7 59 RX7 yX7_isFit wsX7_isFit) := goodIn_app (goodIn_of _ (by decide +kernel)) ggX7_letGo_X7_isFit
theorem dX7_letGo_0 : decode cX7_letGo 0 = .ok (.aload_n 0, 1) := by decide +kernel
theorem dX7_letGo_1 : decode cX7_letGo 1 = .ok (.getfield 7, 3) := by decide +kernel
theorem dX7_letGo_4 : decode cX7_letGo 4 = .ok (.bipush 43, 2) := by decide +kernel
theorem dX7_letGo_6 : decode cX7_letGo 6 = .ok (.aload_n 0, 1) := by decide +kernel
theorem dX7_letGo_7 : decode cX7_letGo 7 = .ok (.getfield 7, 3) := by decide +kernel
theorem dX7_letGo_10 : decode cX7_letGo 10 = .ok (.bipush 43, 2) := by decide +kernel
theorem dX7_letGo_12 : decode cX7_letGo 12 = .ok (.iaload, 1) := by decide +kernel
theorem dX7_letGo_13 : decode cX7_letGo 13 = .ok (.ifCond .le 27, 3) := by decide +kernel
theorem dX7_letGo_16 : decode cX7_letGo 16 = .ok (.aload_n 0, 1) := by decide +kernel
theorem dX7_letGo_17 : decode cX7_letGo 17 = .ok (.aload_n 0, 1) := by decide +kernel
theorem dX7_letGo_18 : decode cX7_letGo 18 = .ok (.getfield 7, 3) := by decide +kernel
theorem dX7_letGo_21 : decode cX7_letGo 21 = .ok (.bipush 43, 2) := by decide +kernel
theorem dX7_letGo_23 : decode cX7_letGo 23 = .ok (.iaload, 1) := by decide +kernel
theorem dX7_letGo_24 : decode cX7_letGo 24 = .ok (.invokevirtual 59, 3) := by decide +kernel
theorem dX7_letGo_27 : decode cX7_letGo 27 = .ok (.ifCond .eq 13, 3) := by decide +kernel
theorem dX7_letGo_30 : decode cX7_letGo 30 = .ok (.aload_n 0, 1) := by decide +kernel
theorem dX7_letGo_31 : decode cX7_letGo 31 = .ok (.getfield 7, 3) := by decide +kernel
theorem dX7_letGo_34 : decode cX7_letGo 34 = .ok (.bipush 43, 2) := by decide +kernel
theorem dX7_letGo_36 : decode cX7_letGo 36 = .ok (.iaload, 1) := by decide +kernel
theorem dX7_letGo_37 : decode cX7_letGo 37 = .ok (.goto 4, 3) := by decide +kernel
theorem dX7_letGo_40 : decode cX7_letGo 40 = .ok (.iconst 0, 1) := by decide +kernel
theorem dX7_letGo_41 : decode cX7_letGo 41 = .ok (.iastore, 1) := by decide +kernel
theorem dX7_letGo_42 : decode cX7_letGo 42 = .ok (.return_, 1) := by decide +kernel
theorem dX7_change_0 : decode cX7_change 0 = .ok (.aload_n 0, 1) := by decide +kernel
theorem dX7_change_1 : decode cX7_change 1 = .ok (.getfield 7, 3) := by decide +kernel
theorem dX7_change_4 : decode cX7_change 4 = .ok (.iload_n 1, 1) := by decide +kernel
theorem dX7_change_5 : decode cX7_change 5 = .ok (.iaload, 1) := by decide +kernel
theorem dX7_change_6 : decode cX7_change 6 = .ok (.istore_n 3, 1) := by decide +kernel
theorem dX7_change_7 : decode cX7_change 7 = .ok (.aload_n 0, 1) := by decide +kernel
theorem dX7_change_8 : decode cX7_change 8 = .ok (.getfield 7, 3) := by decide +kernel
theorem dX7_change_11 : decode cX7_change 11 = .ok (.iload_n 1, 1) := by decide +kernel
theorem dX7_change_12 : decode cX7_change 12 = .ok (.iload_n 2, 1) := by decide +kernel
theorem dX7_change_13 : decode cX7_change 13 = .ok (.iastore, 1) := by decide +kernel
theorem dX7_change_14 : decode cX7_change 14 = .ok (.iload_n 3, 1) := by decide +kernel
theorem dX7_change_15 : decode cX7_change 15 = .ok (.ireturn, 1) := by decide +kernel
set_option maxRecDepth 20000 in
theorem ggX7_putSet_X7_isGear : GoodIn wsX7_putSet wsX7_isGear := goodIn_r _ [5, 6, 7, 4, 8] (by decide +kernel) (by decide +kernel)
set_option maxRecDepth 20000 in
theorem gX7_putSet_X7_isGear : GoodIn wsX7_putSet (va_wsS RX7 63 yX7_isGear wsX7_isGear) := goodIn_app (goodIn_of _ (by decide +kernel)) ggX7_putSet_X7_isGear
set_option maxRecDepth 20000 in
theorem ggX7_putSet_X7_in : GoodIn wsX7_putSet wsX7_in := goodIn_r _ [8] (by decide +kernel) (by decide +kernel)
set_option maxRecDepth 20000 in
theorem gX7_putSet_X7_in : GoodIn wsX7_putSet (va_wsS RX7 55 yX7_in wsX7_in) := goodIn_app (goodIn_of _ (by decide +kernel)) ggX7_putSet_X7_in
set_option maxRecDepth 20000 in
theorem ggX7_putSet_X7_change : GoodIn wsX7_putSet wsX7_change := goodIn_r _ [12, 1, 21, 22, 23, 24, 25, 26, 27, 28, 29, 30, 31, 32, 33, 34, 35, 36, 37, 38, 39, 40, 41] (by decide +kernel) (by decide +kernel)
set_option maxRecDepth 20000 in
theorem gX7_putSet_X7_change : GoodIn wsX7_putSet (wsV RX7 66 RX7 yX7_change wsX7_change) := goodIn_app (goodIn_of _ (by decide +kernel)) ggX7_putSet_X7_change
set_option maxRecDepth 20000 in
theorem ggX7_putSet_X7_letGo : GoodIn wsX7_putSet wsX7_letGo := goodIn_r _ [16, 1, 17, 18, 19, 4, 20, 21, 22, 23, 24, 25, 26, 27, 28, 29, 30, 31, 32, 33, 34, 35, 36, 37, 38, 39, 40, 41] (by decide +kernel) (by decide +kernel)
set_option maxRecDepth 20000 in
theorem gX7_putSet_X7_letGo : GoodIn wsX7_putSet (wsV RX7 70 RX7 yX7_letGo wsX7_letGo) := goodIn_app (goodIn_of _ (by decide +kernel)) ggX7_putSet_X7_letGo
theorem dX7_putSet_0 : decode cX7_putSet 0 = .ok (.iload_n 1, 1) := by decide +kernel
theorem dX7_putSet_1 : decode cX7_putSet 1 = .ok (.invokestatic 63, 3) := by decide +kernel
theorem dX7_putSet_4 : decode cX7_putSet 4 = .ok (.ifCond .eq 13, 3) := by decide +kernel
theorem dX7_putSet_7 : decode cX7_putSet 7 = .ok (.iload_n 2, 1) := by decide +kernel
theorem dX7_putSet_8 : decode cX7_putSet 8 = .ok (.iconst 0, 1) := by decide +kernel
theorem dX7_putSet_9 : decode cX7_putSet 9 = .ok (.bipush 31, 2) := by decide +kernel
theorem dX7_putSet_11 : decode cX7_putSet 11 = .ok (.invokestatic 55, 3) := by decide +kernel
theorem dX7_putSet_14 : decode cX7_putSet 14 = .ok (.ifCond .ne 6, 3) := by decide +kernel
theorem dX7_putSet_17 : decode cX7_putSet 17 = .ok (.bipush (-2), 2) := by decide +kernel
theorem dX7_putSet_19 : decode cX7_putSet 19 = .ok (.ireturn, 1) := by decide +kernel
theorem dX7_putSet_20 : decode cX7_putSet 20 = .ok (.iconst 1, 1) := by decide +kernel
theorem dX7_putSet_21 : decode cX7_putSet 21 = .ok (.istore_n 3, 1) := by decide +kernel
theorem dX7_putSet_22 : decode cX7_putSet 22 = .ok (.iload_n 3, 1) := by decide +kernel
theorem dX7_putSet_23 : decode cX7_putSet 23 = .ok (.bipush 7, 2) := by decide +kernel
theorem dX7_putSet_25 : decode cX7_putSet 25 = .ok (.if_icmp .gt 33, 3) := by decide +kernel
theorem dX7_putSet_28 : decode cX7_putSet 28 = .ok (.iload_n 3, 1) := by decide +kernel
theorem dX7_putSet_29 : decode cX7_putSet 29 = .ok (.iload_n 1, 1) := by decide +kernel
theorem dX7_putSet_30 : decode cX7_putSet 30 = .ok (.if_icmp .eq 22, 3) := by decide +kernel
theorem dX7_putSet_33 : decode cX7_putSet 33 = .ok (.iload_n 2, 1) := by decide +kernel
theorem dX7_putSet_34 : decode cX7_putSet 34 = .ok (.ifCond .eq 18, 3) := by decide +kernel
theorem dX7_putSet_37 : decode cX7_putSet 37 = .ok (.aload_n 0, 1) := by decide +kernel
theorem dX7_putSet_38 : decode cX7_putSet 38 = .ok (.getfield 7, 3) := by decide +kernel
theorem dX7_putSet_41 : decode cX7_putSet 41 = .ok (.iconst 0, 1) := by decide +kernel
theorem dX7_putSet_42 : decode cX7_putSet 42 = .ok (.iload_n 3, 1) := by decide +kernel
theorem dX7_putSet_43 : decode cX7_putSet 43 = .ok (.iadd, 1) := by decide +kernel
theorem dX7_putSet_44 : decode cX7_putSet 44 = .ok (.iaload, 1) := by decide +kernel
theorem dX7_putSet_45 : decode cX7_putSet 45 = .ok (.iload_n 2, 1) := by decide +kernel
theorem dX7_putSet_46 : decode cX7_putSet 46 = .ok (.if_icmp .ne 6, 3) := by decide +kernel
theorem dX7_putSet_49 : decode cX7_putSet 49 = .ok (.bipush (-3), 2) := by decide +kernel
theorem dX7_putSet_51 : decode cX7_putSet 51 = .ok (.ireturn, 1) := by decide +kernel
theorem dX7_putSet_52 : decode cX7_putSet 52 = .ok (.iinc 3 1, 3) := by decide +kernel
theorem dX7_putSet_55 : decode cX7_putSet 55 = .ok (.goto (-33), 3) := by decide +kernel
theorem dX7_putSet_58 : decode cX7_putSet 58 = .ok (.aload_n 0, 1) := by decide +kernel
theorem dX7_putSet_59 : decode cX7_putSet 59 = .ok (.iconst 0, 1) := by decide +kernel
theorem dX7_putSet_60 : decode cX7_putSet 60 = .ok (.iload_n 1, 1) := by decide +kernel
theorem dX7_putSet_61 : decode cX7_putSet 61 = .ok (.iadd, 1) := by decide +kernel
theorem dX7_putSet_62 : decode cX7_putSet 62 = .ok (.iload_n 2, 1) := by decide +kernel
theorem dX7_putSet_63 : decode cX7_putSet 63 = .ok (.invokevirtual 66, 3) := by decide +kernel
theorem dX7_putSet_66 : decode cX7_putSet 66 = .ok (.istore_n 3, 1) := by decide +kernel
theorem dX7_putSet_67 : decode cX7_putSet 67 = .ok (.aload_n 0, 1) := by decide +kernel
theorem dX7_putSet_68 : decode cX7_putSet 68 = .ok (.invokevirtual 70, 3) := by decide +kernel
theorem dX7_putSet_71 : decode cX7_putSet 71 = .ok (.iload_n 3, 1) := by decide +kernel
theorem dX7_putSet_72 : decode cX7_putSet 72 = .ok (.ireturn, 1) := by decide +kernel
set_option maxRecDepth 20000 in
theorem ggX7_putState_X7_isClutch : GoodIn wsX7_putState wsX7_isClutch := goodIn_r _ [4, 5, 6, 3, 7] (by decide +kernel) (by decide +kernel)
set_option maxRecDepth 20000 in
theorem gX7_putState_X7_isClutch : GoodIn wsX7_putState (va_wsS RX7 73 yX7_isClutch wsX7_isClutch) := goodIn_app (goodIn_of _ (by decide +kernel)) ggX7_putState_X7_isClutch
set_option maxRecDepth 20000 in
theorem ggX7_putState_X7_in : GoodIn wsX7_putState wsX7_in := goodIn_r _ [7] (by decide +kernel) (by decide +kernel)
set_option maxRecDepth 20000 in
theorem gX7_putState_X7_in : GoodIn wsX7_putState (va_wsS RX7 55 yX7_in wsX7_in) := goodIn_app (goodIn_of _ (by decide +kernel)) ggX7_putState_X7_in
set_option maxRecDepth 20000 in
theorem ggX7_putState_X7_change : GoodIn wsX7_putState wsX7_change := goodIn_r _ [11, 12, 21, 22, 23, 24, 25, 26, 27, 28, 29, 30, 31, 32, 33, 34, 35, 36, 37, 38, 39, 40, 41] (by decide +kernel) (by decide +kernel)
set_option maxRecDepth 20000 in
theorem gX7_putState_X7_change : GoodIn wsX7_putState (wsV RX7 66 RX7 yX7_change wsX7_change) := goodIn_app (goodIn_of _ (by decide +kernel)) ggX7_putState_X7_change
set_option maxRecDepth 20000 in
theorem ggX7_putState_X7_letGo : GoodIn wsX7_putState wsX7_letGo := goodIn_r _ [16, 12, 17, 18, 19, 3, 20, 21, 22, 23, 24, 25, 26, 27, 28, 29, 30, 31, 32, 33, 34, 35, 36, 37, 38, 39, 40, 41] (by decide +kernel) (by decide +kernel)
set_option maxRecDepth 20000 in
theorem gX7_putState_X7_letGo : GoodIn wsX7_putState (wsV RX7 70 RX7 yX7_letGo wsX7_letGo) := goodIn_app (goodIn_of _ (by decide +kernel)) ggX7_putState_X7_letGo
theorem dX7_putState_0 : decode cX7_putState 0 = .ok (.iload_n 1, 1) := by decide +kernel
theorem dX7_putState_1 : decode cX7_putState 1 = .ok (.invokestatic 73, 3) := by decide +kernel
theorem dX7_putState_4 : decode cX7_putState 4 = .ok (.ifCond .eq 12, 3) := by decide +kernel
theorem dX7_putState_7 : decode cX7_putState 7 = .ok (.iload_n 2, 1) := by decide +kernel
theorem dX7_putState_8 : decode cX7_putState 8 = .ok (.iconst 0, 1) := by decide +kernel
theorem dX7_putState_9 : decode cX7_putState 9 = .ok (.iconst 2, 1) := by decide +kernel
theorem dX7_putState_10 : decode cX7_putState 10 = .ok (.invokestatic 55, 3) := by decide +kernel
theorem dX7_putState_13 : decode cX7_putState 13 = .ok (.ifCond .ne 6, 3) := by decide +kernel
theorem dX7_putState_16 : decode cX7_putState 16 = .ok (.bipush (-2), 2) := by decide +kernel
theorem dX7_putState_18 : decode cX7_putState 18 = .ok (.ireturn, 1) := by decide +kernel
theorem dX7_putState_19 : decode cX7_putState 19 = .ok (.aload_n 0, 1) := by decide +kernel
theorem dX7_putState_20 : decode cX7_putState 20 = .ok (.bipush 8, 2) := by decide +kernel
theorem dX7_putState_22 : decode cX7_putState 22 = .ok (.iload_n 1, 1) := by decide +kernel
theorem dX7_putState_23 : decode cX7_putState 23 = .ok (.iadd, 1) := by decide +kernel
theorem dX7_putState_24 : decode cX7_putState 24 = .ok (.iload_n 2, 1) := by decide +kernel
theorem dX7_putState_25 : decode cX7_putState 25 = .ok (.invokevirtual 66, 3) := by decide +kernel
theorem dX7_putState_28 : decode cX7_putState 28 = .ok (.istore_n 3, 1) := by decide +kernel
theorem dX7_putState_29 : decode cX7_putState 29 = .ok (.aload_n 0, 1) := by decide +kernel
theorem dX7_putState_30 : decode cX7_putState 30 = .ok (.invokevirtual 70, 3) := by decide +kernel
theorem dX7_putState_33 : decode cX7_putState 33 = .ok (.iload_n 3, 1) := by decide +kernel
theorem dX7_putState_34 : decode cX7_putState 34 = .ok (.ireturn, 1) := by decide +kernel
set_option maxRecDepth 20000 in
theorem ggX7_putTrue_X7_isClutch : GoodIn wsX7_putTrue wsX7_isClutch := goodIn_r _ [4, 5, 6, 3, 7] (by decide +kernel) (by decide +kernel)
set_option maxRecDepth 20000 in
theorem gX7_putTrue_X7_isClutch : GoodIn wsX7_putTrue (va_wsS RX7 73 yX7_isClutch wsX7_isClutch) := goodIn_app (goodIn_of _ (by decide +kernel)) ggX7_putTrue_X7_isClutch
set_option maxRecDepth 20000 in
theorem ggX7_putTrue_X7_in : GoodIn wsX7_putTrue wsX7_in := goodIn_r _ [7] (by decide +kernel) (by decide +kernel)
set_option maxRecDepth 20000 in
theorem gX7_putTrue_X7_in : GoodIn wsX7_putTrue (va_wsS RX7 55 yX7_in wsX7_in) := goodIn_app (goodIn_of _ (by decide +kernel)) ggX7_putTrue_X7_in
set_option maxRecDepth 20000 in
theorem ggX7_putTrue_X7_change : GoodIn wsX7_putTrue wsX7_change := goodIn_r _ [11, 12, 13, 14, 15, 16, 17, 18, 19, 20, 21, 22, 23, 24, 25, 26, 27, 28, 29, 30, 31, 32, 33] (by decide +kernel) (by decide +kernel)
set_option maxRecDepth 20000 in
theorem gX7_putTrue_X7_change : GoodIn wsX7_putTrue (wsV RX7 66 RX7 yX7_change wsX7_change) := goodIn_app (goodIn_of _ (by decide +kernel)) ggX7_putTrue_X7_change
theorem dX7_putTrue_0 : decode cX7_putTrue 0 = .ok (.iload_n 1, 1) := by decide +kernel
theorem dX7_putTrue_1 : decode cX7_putTrue 1 = .ok (.invokestatic 73, 3) := by decide +kernel
theorem dX7_putTrue_4 : decode cX7_putTrue 4 = .ok (.ifCond .eq 25, 3) := by decide +kernel
theorem dX7_putTrue_7 : decode cX7_putTrue 7 = .ok (.iload_n 2, 1) := by decide +kernel
theorem dX7_putTrue_8 : decode cX7_putTrue 8 = .ok (.iconst 1, 1) := by decide +kernel
theorem dX7_putTrue_9 : decode cX7_putTrue 9 = .ok (.bipush 20, 2) := by decide +kernel
theorem dX7_putTrue_11 : decode cX7_putTrue 11 = .ok (.invokestatic 55, 3) := by decide +kernel
theorem dX7_putTrue_14 : decode cX7_putTrue 14 = .ok (.ifCond .eq 15, 3) := by decide +kernel
theorem dX7_putTrue_17 : decode cX7_putTrue 17 = .ok (.aload_n 0, 1) := by decide +kernel
theorem dX7_putTrue_18 : decode cX7_putTrue 18 = .ok (.bipush 13, 2) := by decide +kernel
theorem dX7_putTrue_20 : decode cX7_putTrue 20 = .ok (.iload_n 1, 1) := by decide +kernel
theorem dX7_putTrue_21 : decode cX7_putTrue 21 = .ok (.iadd, 1) := by decide +kernel
theorem dX7_putTrue_22 : decode cX7_putTrue 22 = .ok (.iload_n 2, 1) := by decide +kernel
theorem dX7_putTrue_23 : decode cX7_putTrue 23 = .ok (.invokevirtual 66, 3) := by decide +kernel
theorem dX7_putTrue_26 : decode cX7_putTrue 26 = .ok (.goto 5, 3) := by decide +kernel
theorem dX7_putTrue_29 : decode cX7_putTrue 29 = .ok (.bipush (-2), 2) := by decide +kernel
theorem dX7_putTrue_31 : decode cX7_putTrue 31 = .ok (.ireturn, 1) := by decide +kernel
set_option maxRecDepth 20000 in
theorem ggX7_putUp_X7_isGear : GoodIn wsX7_putUp wsX7_isGear := goodIn_r _ [4, 5, 6, 3, 7] (by decide +kernel) (by decide +kernel)
set_option maxRecDepth 20000 in
theorem gX7_putUp_X7_isGear : GoodIn wsX7_putUp (va_wsS RX7 63 yX7_isGear wsX7_isGear) := goodIn_app (goodIn_of _ (by decide +kernel)) ggX7_putUp_X7_isGear
set_option maxRecDepth 20000 in
theorem ggX7_putUp_X7_in : GoodIn wsX7_putUp wsX7_in := goodIn_r _ [7] (by decide +kernel) (by decide +kernel)
set_option maxRecDepth 20000 in
theorem gX7_putUp_X7_in : GoodIn wsX7_putUp (va_wsS RX7 55 yX7_in wsX7_in) := goodIn_app (goodIn_of _ (by decide +kernel)) ggX7_putUp_X7_in
set_option maxRecDepth 20000 in
theorem ggX7_putUp_X7_change : GoodIn wsX7_putUp wsX7_change := goodIn_r _ [11, 12, 13, 14, 15, 16, 17, 18, 19, 20, 21, 22, 23, 24, 25, 26, 27, 28, 29, 30, 31, 32, 33] (by decide +kernel) (by decide +kernel)
set_option maxRecDepth 20000 in
theorem gX7_putUp_X7_change : GoodIn wsX7_putUp (wsV RX7 66 RX7 yX7_change wsX7_change) := goodIn_app (goodIn_of _ (by decide +kernel)) ggX7_putUp_X7_change
theorem dX7_putUp_0 : decode cX7_putUp 0 = .ok (.iload_n 1, 1) := by decide +kernel
theorem dX7_putUp_1 : decode cX7_putUp 1 = .ok (.invokestatic 63, 3) := by decide +kernel
theorem dX7_putUp_4 : decode cX7_putUp 4 = .ok (.ifCond .eq 26, 3) := by decide +kernel
theorem dX7_putUp_7 : decode cX7_putUp 7 = .ok (.iload_n 2, 1) := by decide +kernel
theorem dX7_putUp_8 : decode cX7_putUp 8 = .ok (.iconst 0, 1) := by decide +kernel
theorem dX7_putUp_9 : decode cX7_putUp 9 = .ok (.sipush 300, 3) := by decide +kernel
theorem dX7_putUp_12 : decode cX7_putUp 12 = .ok (.invokestatic 55, 3) := by decide +kernel
theorem dX7_putUp_15 : decode cX7_putUp 15 = .ok (.ifCond .eq 15, 3) := by decide +kernel
theorem dX7_putUp_18 : decode cX7_putUp 18 = .ok (.aload_n 0, 1) := by decide +kernel
theorem dX7_putUp_19 : decode cX7_putUp 19 = .ok (.bipush 23, 2) := by decide +kernel
theorem dX7_putUp_21 : decode cX7_putUp 21 = .ok (.iload_n 1, 1) := by decide +kernel
theorem dX7_putUp_22 : decode cX7_putUp 22 = .ok (.iadd, 1) := by decide +kernel
theorem dX7_putUp_23 : decode cX7_putUp 23 = .ok (.iload_n 2, 1) := by decide +kernel
theorem dX7_putUp_24 : decode cX7_putUp 24 = .ok (.invokevirtual 66, 3) := by decide +kernel
theorem dX7_putUp_27 : decode cX7_putUp 27 = .ok (.goto 5, 3) := by decide +kernel
theorem dX7_putUp_30 : decode cX7_putUp 30 = .ok (.bipush (-2), 2) := by decide +kernel
theorem dX7_putUp_32 : decode cX7_putUp 32 = .ok (.ireturn, 1) := by decide +kernel
set_option maxRecDepth 20000 in
theorem ggX7_putDown_X7_isGear : GoodIn wsX7_putDown wsX7_isGear := goodIn_r _ [4, 5, 6, 3, 7] (by decide +kernel) (by decide +kernel)
set_option maxRecDepth 20000 in
theorem gX7_putDown_X7_isGear : GoodIn wsX7_putDown (va_wsS RX7 63 yX7_isGear wsX7_isGear) := goodIn_app (goodIn_of _ (by decide +kernel)) ggX7_putDown_X7_isGear
set_option maxRecDepth 20000 in
theorem ggX7_putDown_X7_in : GoodIn wsX7_putDown wsX7_in := goodIn_r _ [7] (by decide +kernel) (by decide +kernel)
set_option maxRecDepth 20000 in
theorem gX7_putDown_X7_in : GoodIn wsX7_putDown (va_wsS RX7 55 yX7_in wsX7_in) := goodIn_app (goodIn_of _ (by decide +kernel)) ggX7_putDown_X7_in
set_option maxRecDepth 20000 in
theorem ggX7_putDown_X7_change : GoodIn wsX7_putDown wsX7_change := goodIn_r _ [11, 12, 13, 14, 15, 16, 17, 18, 19, 20, 21, 22, 23, 24, 25, 26, 27, 28, 29, 30, 31, 32, 33] (by decide +kernel) (by decide +kernel)
set_option maxRecDepth 20000 in
theorem gX7_putDown_X7_change : GoodIn wsX7_putDown (wsV RX7 66 RX7 yX7_change wsX7_change) := goodIn_app (goodIn_of _ (by decide +kernel)) ggX7_putDown_X7_change
theorem dX7_putDown_0 : decode cX7_putDown 0 = .ok (.iload_n 1, 1) := by decide +kernel
theorem dX7_putDown_1 : decode cX7_putDown 1 = .ok (.invokestatic 63, 3) := by decide +kernel
theorem dX7_putDown_4 : decode cX7_putDown 4 = .ok (.ifCond .eq 26, 3) := by decide +kernel
theorem dX7_putDown_7 : decode cX7_putDown 7 = .ok (.iload_n 2, 1) := by decide +kernel
theorem dX7_putDown_8 : decode cX7_putDown 8 = .ok (.iconst 0, 1) := by decide +kernel
theorem dX7_putDown_9 : decode cX7_putDown 9 = .ok (.sipush 300, 3) := by decide +kernel
theorem dX7_putDown_12 : decode cX7_putDown 12 = .ok (.invokestatic 55, 3) := by decide +kernel
theorem dX7_putDown_15 : decode cX7_putDown 15 = .ok (.ifCond .eq 15, 3) := by decide +kernel
theorem dX7_putDown_18 : decode cX7_putDown 18 = .ok (.aload_n 0, 1) := by decide +kernel
theorem dX7_putDown_19 : decode cX7_putDown 19 = .ok (.bipush 31, 2) := by decide +kernel
theorem dX7_putDown_21 : decode cX7_putDown 21 = .ok (.iload_n 1, 1) := by decide +kernel
theorem dX7_putDown_22 : decode cX7_putDown 22 = .ok (.iadd, 1) := by decide +kernel
theorem dX7_putDown_23 : decode cX7_putDown 23 = .ok (.iload_n 2, 1) := by decide +kernel
theorem dX7_putDown_24 : decode cX7_putDown 24 = .ok (.invokevirtual 66, 3) := by decide +kernel
theorem dX7_putDown_27 : decode cX7_putDown 27 = .ok (.goto 5, 3) := by decide +kernel
theorem dX7_putDown_30 : decode cX7_putDown 30 = .ok (.bipush (-2), 2) := by decide +kernel
theorem dX7_putDown_32 : decode cX7_putDown 32 = .ok (.ireturn, 1) := by decide +kernel
set_option maxRecDepth 20000 in
theorem ggX7_putSlope_X7_in : GoodIn wsX7_putSlope wsX7_in := goodIn_r _ [4] (by decide +kernel) (by decide +kernel)
set_option maxRecDepth 20000 in
theorem gX7_putSlope_X7_in : GoodIn wsX7_putSlope (va_wsS RX7 55 yX7_in wsX7_in) := goodIn_app (goodIn_of _ (by decide +kernel)) ggX7_putSlope_X7_in
set_option maxRecDepth 20000 in
theorem ggX7_putSlope_X7_change : GoodIn wsX7_putSlope wsX7_change := goodIn_r _ [8, 9, 10, 11, 12, 13, 14, 15, 16, 17, 18, 19, 20, 21, 22, 23, 24, 25, 26, 27, 28, 29, 30] (by decide +kernel) (by decide +kernel)
set_option maxRecDepth 20000 in
theorem gX7_putSlope_X7_change : GoodIn wsX7_putSlope (wsV RX7 66 RX7 yX7_change wsX7_change) := goodIn_app (goodIn_of _ (by decide +kernel)) ggX7_putSlope_X7_change
theorem dX7_putSlope_0 : decode cX7_putSlope 0 = .ok (.iload_n 1, 1) := by decide +kernel
theorem dX7_putSlope_1 : decode cX7_putSlope 1 = .ok (.bipush (-3), 2) := by decide +kernel
theorem dX7_putSlope_3 : decode cX7_putSlope 3 = .ok (.iconst 3, 1) := by decide +kernel
theorem dX7_putSlope_4 : decode cX7_putSlope 4 = .ok (.invokestatic 55, 3) := by decide +kernel
theorem dX7_putSlope_7 : decode cX7_putSlope 7 = .ok (.ifCond .eq 15, 3) := by decide +kernel
theorem dX7_putSlope_10 : decode cX7_putSlope 10 = .ok (.aload_n 0, 1) := by decide +kernel
theorem dX7_putSlope_11 : decode cX7_putSlope 11 = .ok (.bipush 39, 2) := by decide +kernel
theorem dX7_putSlope_13 : decode cX7_putSlope 13 = .ok (.iload_n 1, 1) := by decide +kernel
theorem dX7_putSlope_14 : decode cX7_putSlope 14 = .ok (.invokevirtual 66, 3) := by decide +kernel
theorem dX7_putSlope_17 : decode cX7_putSlope 17 = .ok (.iconst 3, 1) := by decide +kernel
theorem dX7_putSlope_18 : decode cX7_putSlope 18 = .ok (.iadd, 1) := by decide +kernel
theorem dX7_putSlope_19 : decode cX7_putSlope 19 = .ok (.goto 5, 3) := by decide +kernel
theorem dX7_putSlope_22 : decode cX7_putSlope 22 = .ok (.bipush (-2), 2) := by decide +kernel
theorem dX7_putSlope_24 : decode cX7_putSlope 24 = .ok (.ireturn, 1) := by decide +kernel
set_option maxRecDepth 20000 in
theorem ggX7_putDriver_X7_in : GoodIn wsX7_putDriver wsX7_in := goodIn_r _ [4] (by decide +kernel) (by decide +kernel)
set_option maxRecDepth 20000 in
theorem gX7_putDriver_X7_in : GoodIn wsX7_putDriver (va_wsS RX7 55 yX7_in wsX7_in) := goodIn_app (goodIn_of _ (by decide +kernel)) ggX7_putDriver_X7_in
set_option maxRecDepth 20000 in
theorem ggX7_putDriver_X7_change : GoodIn wsX7_putDriver wsX7_change := goodIn_r _ [8, 9, 10, 11, 12, 13, 14, 15, 16, 17, 18, 19, 20, 21, 22, 23, 24, 25, 26, 27, 28, 29, 30] (by decide +kernel) (by decide +kernel)
set_option maxRecDepth 20000 in
theorem gX7_putDriver_X7_change : GoodIn wsX7_putDriver (wsV RX7 66 RX7 yX7_change wsX7_change) := goodIn_app (goodIn_of _ (by decide +kernel)) ggX7_putDriver_X7_change
theorem dX7_putDriver_0 : decode cX7_putDriver 0 = .ok (.iload_n 1, 1) := by decide +kernel
theorem dX7_putDriver_1 : decode cX7_putDriver 1 = .ok (.iconst 0, 1) := by decide +kernel
theorem dX7_putDriver_2 : decode cX7_putDriver 2 = .ok (.iconst 3, 1) := by decide +kernel
theorem dX7_putDriver_3 : decode cX7_putDriver 3 = .ok (.invokestatic 55, 3) := by decide +kernel
theorem dX7_putDriver_6 : decode cX7_putDriver 6 = .ok (.ifCond .eq 13, 3) := by decide +kernel
theorem dX7_putDriver_9 : decode cX7_putDriver 9 = .ok (.aload_n 0, 1) := by decide +kernel
theorem dX7_putDriver_10 : decode cX7_putDriver 10 = .ok (.bipush 40, 2) := by decide +kernel
theorem dX7_putDriver_12 : decode cX7_putDriver 12 = .ok (.iload_n 1, 1) := by decide +kernel
theorem dX7_putDriver_13 : decode cX7_putDriver 13 = .ok (.invokevirtual 66, 3) := by decide +kernel
theorem dX7_putDriver_16 : decode cX7_putDriver 16 = .ok (.goto 5, 3) := by decide +kernel
theorem dX7_putDriver_19 : decode cX7_putDriver 19 = .ok (.bipush (-2), 2) := by decide +kernel
theorem dX7_putDriver_21 : decode cX7_putDriver 21 = .ok (.ireturn, 1) := by decide +kernel
set_option maxRecDepth 20000 in
theorem ggX7_gear_X7_save : GoodIn wsX7_gear wsX7_save := goodIn_r _ [5, 6, 7, 8, 9, 4, 10, 44, 45, 46, 47, 48, 49, 50, 51, 52, 53, 54, 55, 56, 57, 58, 59, 60, 61, 62, 63, 64] (by decide +kernel) (by decide +kernel)
set_option maxRecDepth 20000 in
theorem gX7_gear_X7_save : GoodIn wsX7_gear (wsV RX7 76 RX7 yX7_save wsX7_save) := goodIn_app (goodIn_of _ (by decide +kernel)) ggX7_gear_X7_save
set_option maxRecDepth 20000 in
theorem ggX7_gear_X7_putSet : GoodIn wsX7_gear wsX7_putSet := goodIn_r _ [14, 6, 15, 16, 4, 17, 18, 19, 20, 21, 22, 23, 24, 25, 26, 27, 28, 29, 30, 31, 32, 44, 45, 46, 47, 48, 49, 50, 51, 52, 53, 54, 55, 56, 57, 58, 59, 60, 61, 62, 63, 64] (by decide +kernel) (by decide +kernel)
set_option maxRecDepth 20000 in
theorem gX7_gear_X7_putSet : GoodIn wsX7_gear (wsV RX7 79 RX7 yX7_putSet wsX7_putSet) := goodIn_app (goodIn_of _ (by decide +kernel)) ggX7_gear_X7_putSet
set_option maxRecDepth 20000 in
theorem ggX7_gear_X7_finish : GoodIn wsX7_gear wsX7_finish := goodIn_r _ [36, 37, 38, 7, 39, 40, 41, 4, 42, 43, 8, 9, 10, 44, 45, 46, 47, 48, 49, 50, 51, 52, 53, 54, 55, 56, 57, 58, 59, 60, 61, 62, 63, 64] (by decide +kernel) (by decide +kernel)
set_option maxRecDepth 20000 in
theorem gX7_gear_X7_finish : GoodIn wsX7_gear (wsV RX7 82 RX7 yX7_finish wsX7_finish) := goodIn_app (goodIn_of _ (by decide +kernel)) ggX7_gear_X7_finish
theorem dX7_gear_0 : decode cX7_gear 0 = .ok (.aload_n 0, 1) := by decide +kernel
theorem dX7_gear_1 : decode cX7_gear 1 = .ok (.invokevirtual 76, 3) := by decide +kernel
theorem dX7_gear_4 : decode cX7_gear 4 = .ok (.aload_n 0, 1) := by decide +kernel
theorem dX7_gear_5 : decode cX7_gear 5 = .ok (.aload_n 0, 1) := by decide +kernel
theorem dX7_gear_6 : decode cX7_gear 6 = .ok (.iload_n 1, 1) := by decide +kernel
theorem dX7_gear_7 : decode cX7_gear 7 = .ok (.iload_n 2, 1) := by decide +kernel
theorem dX7_gear_8 : decode cX7_gear 8 = .ok (.invokevirtual 79, 3) := by decide +kernel
theorem dX7_gear_11 : decode cX7_gear 11 = .ok (.invokevirtual 82, 3) := by decide +kernel
theorem dX7_gear_14 : decode cX7_gear 14 = .ok (.ireturn, 1) := by decide +kernel
set_option maxRecDepth 20000 in
theorem ggX7_fails_X7_save : GoodIn wsX7_fails wsX7_save := goodIn_r _ [5, 6, 7, 8, 9, 4, 10, 44, 45, 46, 47, 48, 49, 50, 51, 52, 53, 54, 55, 56, 57, 58, 59, 60, 61, 62, 63, 64] (by decide +kernel) (by decide +kernel)
set_option maxRecDepth 20000 in
theorem gX7_fails_X7_save : GoodIn wsX7_fails (wsV RX7 76 RX7 yX7_save wsX7_save) := goodIn_app (goodIn_of _ (by decide +kernel)) ggX7_fails_X7_save
set_option maxRecDepth 20000 in
theorem ggX7_fails_X7_putState : GoodIn wsX7_fails wsX7_putState := goodIn_r _ [14, 15, 16, 4, 17, 18, 19, 20, 21, 22, 23, 24, 6, 25, 26, 27, 28, 29, 30, 31, 32, 44, 45, 46, 47, 48, 49, 50, 51, 52, 53, 54, 55, 56, 57, 58, 59, 60, 61, 62, 63, 64] (by decide +kernel) (by decide +kernel)
set_option maxRecDepth 20000 in
theorem gX7_fails_X7_putState : GoodIn wsX7_fails (wsV RX7 85 RX7 yX7_putState wsX7_putState) := goodIn_app (goodIn_of _ (by decide +kernel)) ggX7_fails_X7_putState
set_option maxRecDepth 20000 in
theorem ggX7_fails_X7_finish : GoodIn wsX7_fails wsX7_finish := goodIn_r _ [36, 37, 38, 7, 39, 40, 41, 4, 42, 43, 8, 9, 10, 44, 45, 46, 47, 48, 49, 50, 51, 52, 53, 54, 55, 56, 57, 58, 59, 60, 61, 62, 63, 64] (by decide +kernel) (by decide +kernel)
set_option maxRecDepth 20000 in
theorem gX7_fails_X7_finish : GoodIn wsX7_fails (wsV RX7 82 RX7 yX7_finish wsX7_finish) := goodIn_app (goodIn_of _ (by decide +kernel)) ggX7_fails_X7_finish
theorem dX7_fails_0 : decode cX7_fails 0 = .ok (.aload_n 0, 1) := by decide +kernel
theorem dX7_fails_1 : decode cX7_fails 1 = .ok (.invokevirtual 76, 3) := by decide +kernel
theorem dX7_fails_4 : decode cX7_fails 4 = .ok (.aload_n 0, 1) := by decide +kernel
theorem dX7_fails_5 : decode cX7_fails 5 = .ok (.aload_n 0, 1) := by decide +kernel
theorem dX7_fails_6 : decode cX7_fails 6 = .ok (.iload_n 1, 1) := by decide +kernel
theorem dX7_fails_7 : decode cX7_fails 7 = .ok (.iload_n 2, 1) := by decide +kernel
theorem dX7_fails_8 : decode cX7_fails 8 = .ok (.invokevirtual 85, 3) := by decide +kernel
theorem dX7_fails_11 : decode cX7_fails 11 = .ok (.invokevirtual 82, 3) := by decide +kernel
theorem dX7_fails_14 : decode cX7_fails 14 = .ok (.ireturn, 1) := by decide +kernel
set_option maxRecDepth 20000 in
theorem ggX7_trues_X7_save : GoodIn wsX7_trues wsX7_save := goodIn_r _ [5, 6, 7, 8, 9, 4, 10, 36, 37, 38, 39, 40, 41, 42, 43, 44, 45, 46, 47, 48, 49, 50, 51, 52, 53, 54, 55, 56] (by decide +kernel) (by decide +kernel)
set_option maxRecDepth 20000 in
theorem gX7_trues_X7_save : GoodIn wsX7_trues (wsV RX7 76 RX7 yX7_save wsX7_save) := goodIn_app (goodIn_of _ (by decide +kernel)) ggX7_trues_X7_save
set_option maxRecDepth 20000 in
theorem ggX7_trues_X7_putTrue : GoodIn wsX7_trues wsX7_putTrue := goodIn_r _ [14, 15, 16, 4, 17, 18, 19, 20, 21, 22, 23, 24, 6, 36, 37, 38, 39, 40, 41, 42, 43, 44, 45, 46, 47, 48, 49, 50, 51, 52, 53, 54, 55, 56] (by decide +kernel) (by decide +kernel)
set_option maxRecDepth 20000 in
theorem gX7_trues_X7_putTrue : GoodIn wsX7_trues (wsV RX7 88 RX7 yX7_putTrue wsX7_putTrue) := goodIn_app (goodIn_of _ (by decide +kernel)) ggX7_trues_X7_putTrue
set_option maxRecDepth 20000 in
theorem ggX7_trues_X7_finish : GoodIn wsX7_trues wsX7_finish := goodIn_r _ [28, 29, 30, 7, 31, 32, 33, 4, 34, 35, 8, 9, 10, 36, 37, 38, 39, 40, 41, 42, 43, 44, 45, 46, 47, 48, 49, 50, 51, 52, 53, 54, 55, 56] (by decide +kernel) (by decide +kernel)
set_option maxRecDepth 20000 in
theorem gX7_trues_X7_finish : GoodIn wsX7_trues (wsV RX7 82 RX7 yX7_finish wsX7_finish) := goodIn_app (goodIn_of _ (by decide +kernel)) ggX7_trues_X7_finish
theorem dX7_trues_0 : decode cX7_trues 0 = .ok (.aload_n 0, 1) := by decide +kernel
theorem dX7_trues_1 : decode cX7_trues 1 = .ok (.invokevirtual 76, 3) := by decide +kernel
theorem dX7_trues_4 : decode cX7_trues 4 = .ok (.aload_n 0, 1) := by decide +kernel
theorem dX7_trues_5 : decode cX7_trues 5 = .ok (.aload_n 0, 1) := by decide +kernel
theorem dX7_trues_6 : decode cX7_trues 6 = .ok (.iload_n 1, 1) := by decide +kernel
theorem dX7_trues_7 : decode cX7_trues 7 = .ok (.iload_n 2, 1) := by decide +kernel
theorem dX7_trues_8 : decode cX7_trues 8 = .ok (.invokevirtual 88, 3) := by decide +kernel
theorem dX7_trues_11 : decode cX7_trues 11 = .ok (.invokevirtual 82, 3) := by decide +kernel
theorem dX7_trues_14 : decode cX7_trues 14 = .ok (.ireturn, 1) := by decide +kernel
set_option maxRecDepth 20000 in
theorem ggX7_up_X7_save : GoodIn wsX7_up wsX7_save := goodIn_r _ [5, 6, 7, 8, 9, 4, 10, 36, 37, 38, 39, 40, 41, 42, 43, 44, 45, 46, 47, 48, 49, 50, 51, 52, 53, 54, 55, 56] (by decide +kernel) (by decide +kernel)
set_option maxRecDepth 20000 in
theorem gX7_up_X7_save : GoodIn wsX7_up (wsV RX7 76 RX7 yX7_save wsX7_save) := goodIn_app (goodIn_of _ (by decide +kernel)) ggX7_up_X7_save
set_option maxRecDepth 20000 in
theorem ggX7_up_X7_putUp : GoodIn wsX7_up wsX7_putUp := goodIn_r _ [14, 15, 16, 4, 17, 18, 19, 20, 21, 22, 23, 24, 6, 36, 37, 38, 39, 40, 41, 42, 43, 44, 45, 46, 47, 48, 49, 50, 51, 52, 53, 54, 55, 56] (by decide +kernel) (by decide +kernel)
set_option maxRecDepth 20000 in
theorem gX7_up_X7_putUp : GoodIn wsX7_up (wsV RX7 91 RX7 yX7_putUp wsX7_putUp) := goodIn_app (goodIn_of _ (by decide +kernel)) ggX7_up_X7_putUp
set_option maxRecDepth 20000 in
theorem ggX7_up_X7_finish : GoodIn wsX7_up wsX7_finish := goodIn_r _ [28, 29, 30, 7, 31, 32, 33, 4, 34, 35, 8, 9, 10, 36, 37, 38, 39, 40, 41, 42, 43, 44, 45, 46, 47, 48, 49, 50, 51, 52, 53, 54, 55, 56] (by decide +kernel) (by decide +kernel)
set_option maxRecDepth 20000 in
theorem gX7_up_X7_finish : GoodIn wsX7_up (wsV RX7 82 RX7 yX7_finish wsX7_finish) := goodIn_app (goodIn_of _ (by decide +kernel)) ggX7_up_X7_finish
theorem dX7_up_0 : decode cX7_up 0 = .ok (.aload_n 0, 1) := by decide +kernel
theorem dX7_up_1 : decode cX7_up 1 = .ok (.invokevirtual 76, 3) := by decide +kernel
theorem dX7_up_4 : decode cX7_up 4 = .ok (.aload_n 0, 1) := by decide +kernel
theorem dX7_up_5 : decode cX7_up 5 = .ok (.aload_n 0, 1) := by decide +kernel
theorem dX7_up_6 : decode cX7_up 6 = .ok (.iload_n 1, 1) := by decide +kernel
theorem dX7_up_7 : decode cX7_up 7 = .ok (.iload_n 2, 1) := by decide +kernel
theorem dX7_up_8 : decode cX7_up 8 = .ok (.invokevirtual 91, 3) := by decide +kernel
theorem dX7_up_11 : decode cX7_up 11 = .ok (.invokevirtual 82, 3) := by decide +kernel
theorem dX7_up_14 : decode cX7_up 14 = .ok (.ireturn, 1) := by decide +kernel
set_option maxRecDepth 20000 in
theorem ggX7_down_X7_save : GoodIn wsX7_down wsX7_save := goodIn_r _ [5, 6, 7, 8, 9, 4, 10, 36, 37, 38, 39, 40, 41, 42, 43, 44, 45, 46, 47, 48, 49, 50, 51, 52, 53, 54, 55, 56] (by decide +kernel) (by decide +kernel)
set_option maxRecDepth 20000 in
theorem gX7_down_X7_save : GoodIn wsX7_down (wsV RX7 76 RX7 yX7_save wsX7_save) := goodIn_app (goodIn_of _ (by decide +kernel)) ggX7_down_X7_save
set_option maxRecDepth 20000 in
theorem ggX7_down_X7_putDown : GoodIn wsX7_down wsX7_putDown := goodIn_r _ [14, 15, 16, 4, 17, 18, 19, 20, 21, 22, 23, 24, 6, 36, 37, 38, 39, 40, 41, 42, 43, 44, 45, 46, 47, 48, 49, 50, 51, 52, 53, 54, 55, 56] (by decide +kernel) (by decide +kernel)
set_option maxRecDepth 20000 in
theorem gX7_down_X7_putDown : GoodIn wsX7_down (wsV RX7 94 RX7 yX7_putDown wsX7_putDown) := goodIn_app (goodIn_of _ (by decide +kernel)) ggX7_down_X7_putDown
set_option maxRecDepth 20000 in
theorem ggX7_down_X7_finish : GoodIn wsX7_down wsX7_finish := goodIn_r _ [28, 29, 30, 7, 31, 32, 33, 4, 34, 35, 8, 9, 10, 36, 37, 38, 39, 40, 41, 42, 43, 44, 45, 46, 47, 48, 49, 50, 51, 52, 53, 54, 55, 56] (by decide +kernel) (by decide +kernel)
set_option maxRecDepth 20000 in
theorem gX7_down_X7_finish : GoodIn wsX7_down (wsV RX7 82 RX7 yX7_finish wsX7_finish) := goodIn_app (goodIn_of _ (by decide +kernel)) ggX7_down_X7_finish
theorem dX7_down_0 : decode cX7_down 0 = .ok (.aload_n 0, 1) := by decide +kernel
theorem dX7_down_1 : decode cX7_down 1 = .ok (.invokevirtual 76, 3) := by decide +kernel
theorem dX7_down_4 : decode cX7_down 4 = .ok (.aload_n 0, 1) := by decide +kernel
theorem dX7_down_5 : decode cX7_down 5 = .ok (.aload_n 0, 1) := by decide +kernel
theorem dX7_down_6 : decode cX7_down 6 = .ok (.iload_n 1, 1) := by decide +kernel
theorem dX7_down_7 : decode cX7_down 7 = .ok (.iload_n 2, 1) := by decide +kernel
theorem dX7_down_8 : decode cX7_down 8 = .ok (.invokevirtual 94, 3) := by decide +kernel
theorem dX7_down_11 : decode cX7_down 11 = .ok (.invokevirtual 82, 3) := by decide +kernel
theorem dX7_down_14 : decode cX7_down 14 = .ok (.ireturn, 1) := by decide +kernel
set_option maxRecDepth 20000 in
theorem ggX7_slope_X7_save : GoodIn wsX7_slope wsX7_save := goodIn_r _ [5, 6, 7, 8, 9, 4, 10, 33, 34, 35, 36, 37, 38, 39, 40, 41, 42, 43, 44, 45, 46, 47, 48, 49, 50, 51, 52, 53] (by decide +kernel) (by decide +kernel)
set_option maxRecDepth 20000 in
theorem gX7_slope_X7_save : GoodIn wsX7_slope (wsV RX7 76 RX7 yX7_save wsX7_save) := goodIn_app (goodIn_of _ (by decide +kernel)) ggX7_slope_X7_save
set_option maxRecDepth 20000 in
theorem ggX7_slope_X7_putSlope : GoodIn wsX7_slope wsX7_putSlope := goodIn_r _ [14, 15, 16, 4, 17, 18, 19, 20, 21, 6, 33, 34, 35, 36, 37, 38, 39, 40, 41, 42, 43, 44, 45, 46, 47, 48, 49, 50, 51, 52, 53] (by decide +kernel) (by decide +kernel)
set_option maxRecDepth 20000 in
theorem gX7_slope_X7_putSlope : GoodIn wsX7_slope (wsV RX7 97 RX7 yX7_putSlope wsX7_putSlope) := goodIn_app (goodIn_of _ (by decide +kernel)) ggX7_slope_X7_putSlope
set_option maxRecDepth 20000 in
theorem ggX7_slope_X7_finish : GoodIn wsX7_slope wsX7_finish := goodIn_r _ [25, 26, 27, 7, 28, 29, 30, 4, 31, 32, 8, 9, 10, 33, 34, 35, 36, 37, 38, 39, 40, 41, 42, 43, 44, 45, 46, 47, 48, 49, 50, 51, 52, 53] (by decide +kernel) (by decide +kernel)
set_option maxRecDepth 20000 in
theorem gX7_slope_X7_finish : GoodIn wsX7_slope (wsV RX7 82 RX7 yX7_finish wsX7_finish) := goodIn_app (goodIn_of _ (by decide +kernel)) ggX7_slope_X7_finish
theorem dX7_slope_0 : decode cX7_slope 0 = .ok (.aload_n 0, 1) := by decide +kernel
theorem dX7_slope_1 : decode cX7_slope 1 = .ok (.invokevirtual 76, 3) := by decide +kernel
theorem dX7_slope_4 : decode cX7_slope 4 = .ok (.aload_n 0, 1) := by decide +kernel
theorem dX7_slope_5 : decode cX7_slope 5 = .ok (.aload_n 0, 1) := by decide +kernel
theorem dX7_slope_6 : decode cX7_slope 6 = .ok (.iload_n 1, 1) := by decide +kernel
theorem dX7_slope_7 : decode cX7_slope 7 = .ok (.invokevirtual 97, 3) := by decide +kernel
theorem dX7_slope_10 : decode cX7_slope 10 = .ok (.invokevirtual 82, 3) := by decide +kernel
theorem dX7_slope_13 : decode cX7_slope 13 = .ok (.ireturn, 1) := by decide +kernel
set_option maxRecDepth 20000 in
theorem ggX7_driver_X7_save : GoodIn wsX7_driver wsX7_save := goodIn_r _ [5, 6, 7, 8, 9, 4, 10, 33, 34, 35, 36, 37, 38, 39, 40, 41, 42, 43, 44, 45, 46, 47, 48, 49, 50, 51, 52, 53] (by decide +kernel) (by decide +kernel)
set_option maxRecDepth 20000 in
theorem gX7_driver_X7_save : GoodIn wsX7_driver (wsV RX7 76 RX7 yX7_save wsX7_save) := goodIn_app (goodIn_of _ (by decide +kernel)) ggX7_driver_X7_save
set_option maxRecDepth 20000 in
theorem ggX7_driver_X7_putDriver : GoodIn wsX7_driver wsX7_putDriver := goodIn_r _ [14, 15, 16, 4, 17, 18, 19, 20, 21, 6, 33, 34, 35, 36, 37, 38, 39, 40, 41, 42, 43, 44, 45, 46, 47, 48, 49, 50, 51, 52, 53] (by decide +kernel) (by decide +kernel)
set_option maxRecDepth 20000 in
theorem gX7_driver_X7_putDriver : GoodIn wsX7_driver (wsV RX7 100 RX7 yX7_putDriver wsX7_putDriver) := goodIn_app (goodIn_of _ (by decide +kernel)) ggX7_driver_X7_putDriver
set_option maxRecDepth 20000 in
theorem ggX7_driver_X7_finish : GoodIn wsX7_driver wsX7_finish := goodIn_r _ [25, 26, 27, 7, 28, 29, 30, 4, 31, 32, 8, 9, 10, 33, 34, 35, 36, 37, 38, 39, 40, 41, 42, 43, 44, 45, 46, 47, 48, 49, 50, 51, 52, 53] (by decide +kernel) (by decide +kernel)
set_option maxRecDepth 20000 in
theorem gX7_driver_X7_finish : GoodIn wsX7_driver (wsV RX7 82 RX7 yX7_finish wsX7_finish) := goodIn_app (goodIn_of _ (by decide +kernel)) ggX7_driver_X7_finish
theorem dX7_driver_0 : decode cX7_driver 0 = .ok (.aload_n 0, 1) := by decide +kernel
theorem dX7_driver_1 : decode cX7_driver 1 = .ok (.invokevirtual 76, 3) := by decide +kernel
theorem dX7_driver_4 : decode cX7_driver 4 = .ok (.aload_n 0, 1) := by decide +kernel
theorem dX7_driver_5 : decode cX7_driver 5 = .ok (.aload_n 0, 1) := by decide +kernel
theorem dX7_driver_6 : decode cX7_driver 6 = .ok (.iload_n 1, 1) := by decide +kernel
theorem dX7_driver_7 : decode cX7_driver 7 = .ok (.invokevirtual 100, 3) := by decide +kernel
theorem dX7_driver_10 : decode cX7_driver 10 = .ok (.invokevirtual 82, 3) := by decide +kernel
theorem dX7_driver_13 : decode cX7_driver 13 = .ok (.ireturn, 1) := by decide +kernel
set_option maxRecDepth 20000 in
theorem ggX7_sets_X7_save : GoodIn wsX7_sets wsX7_save := goodIn_r _ [5, 6, 7, 8, 9, 4, 10, 29, 30, 31, 32, 33, 34, 35, 36, 37, 38, 39, 40, 41, 42, 43, 44, 45, 46, 47, 48, 49] (by decide +kernel) (by decide +kernel)
set_option maxRecDepth 20000 in
theorem gX7_sets_X7_save : GoodIn wsX7_sets (wsV RX7 76 RX7 yX7_save wsX7_save) := goodIn_app (goodIn_of _ (by decide +kernel)) ggX7_sets_X7_save
set_option maxRecDepth 20000 in
theorem ggX7_sets_X7_in : GoodIn wsX7_sets wsX7_in := goodIn_r _ [13] (by decide +kernel) (by decide +kernel)
set_option maxRecDepth 20000 in
theorem gX7_sets_X7_in : GoodIn wsX7_sets (va_wsS RX7 55 yX7_in wsX7_in) := goodIn_app (goodIn_of _ (by decide +kernel)) ggX7_sets_X7_in
set_option maxRecDepth 20000 in
theorem ggX7_sets_X7_change : GoodIn wsX7_sets wsX7_change := goodIn_r _ [17, 6, 29, 30, 31, 32, 33, 34, 35, 36, 37, 38, 39, 40, 41, 42, 43, 44, 45, 46, 47, 48, 49] (by decide +kernel) (by decide +kernel)
set_option maxRecDepth 20000 in
theorem gX7_sets_X7_change : GoodIn wsX7_sets (wsV RX7 66 RX7 yX7_change wsX7_change) := goodIn_app (goodIn_of _ (by decide +kernel)) ggX7_sets_X7_change
set_option maxRecDepth 20000 in
theorem ggX7_sets_X7_finish : GoodIn wsX7_sets wsX7_finish := goodIn_r _ [21, 22, 23, 7, 24, 25, 26, 4, 27, 28, 8, 9, 10, 29, 30, 31, 32, 33, 34, 35, 36, 37, 38, 39, 40, 41, 42, 43, 44, 45, 46, 47, 48, 49] (by decide +kernel) (by decide +kernel)
set_option maxRecDepth 20000 in
theorem gX7_sets_X7_finish : GoodIn wsX7_sets (wsV RX7 82 RX7 yX7_finish wsX7_finish) := goodIn_app (goodIn_of _ (by decide +kernel)) ggX7_sets_X7_finish
theorem dX7_sets_0 : decode cX7_sets 0 = .ok (.aload_n 0, 1) := by decide +kernel
theorem dX7_sets_1 : decode cX7_sets 1 = .ok (.invokevirtual 76, 3) := by decide +kernel
theorem dX7_sets_4 : decode cX7_sets 4 = .ok (.iload_n 1, 1) := by decide +kernel
theorem dX7_sets_5 : decode cX7_sets 5 = .ok (.ifCond .ne 13, 3) := by decide +kernel
theorem dX7_sets_8 : decode cX7_sets 8 = .ok (.iload_n 2, 1) := by decide +kernel
theorem dX7_sets_9 : decode cX7_sets 9 = .ok (.iconst 1, 1) := by decide +kernel
theorem dX7_sets_10 : decode cX7_sets 10 = .ok (.bipush 12, 2) := by decide +kernel
theorem dX7_sets_12 : decode cX7_sets 12 = .ok (.invokestatic 55, 3) := by decide +kernel
theorem dX7_sets_15 : decode cX7_sets 15 = .ok (.goto 24, 3) := by decide +kernel
theorem dX7_sets_18 : decode cX7_sets 18 = .ok (.iload_n 1, 1) := by decide +kernel
theorem dX7_sets_19 : decode cX7_sets 19 = .ok (.iconst 1, 1) := by decide +kernel
theorem dX7_sets_20 : decode cX7_sets 20 = .ok (.if_icmp .ne 18, 3) := by decide +kernel
theorem dX7_sets_23 : decode cX7_sets 23 = .ok (.iload_n 2, 1) := by decide +kernel
theorem dX7_sets_24 : decode cX7_sets 24 = .ok (.iconst 0, 1) := by decide +kernel
theorem dX7_sets_25 : decode cX7_sets 25 = .ok (.sipush 999, 3) := by decide +kernel
theorem dX7_sets_28 : decode cX7_sets 28 = .ok (.invokestatic 55, 3) := by decide +kernel
theorem dX7_sets_31 : decode cX7_sets 31 = .ok (.ifCond .eq 7, 3) := by decide +kernel
theorem dX7_sets_34 : decode cX7_sets 34 = .ok (.iconst 1, 1) := by decide +kernel
theorem dX7_sets_35 : decode cX7_sets 35 = .ok (.goto 4, 3) := by decide +kernel
theorem dX7_sets_38 : decode cX7_sets 38 = .ok (.iconst 0, 1) := by decide +kernel
theorem dX7_sets_39 : decode cX7_sets 39 = .ok (.istore_n 3, 1) := by decide +kernel
theorem dX7_sets_40 : decode cX7_sets 40 = .ok (.aload_n 0, 1) := by decide +kernel
theorem dX7_sets_41 : decode cX7_sets 41 = .ok (.iload_n 3, 1) := by decide +kernel
theorem dX7_sets_42 : decode cX7_sets 42 = .ok (.ifCond .eq 15, 3) := by decide +kernel
theorem dX7_sets_45 : decode cX7_sets 45 = .ok (.aload_n 0, 1) := by decide +kernel
theorem dX7_sets_46 : decode cX7_sets 46 = .ok (.bipush 41, 2) := by decide +kernel
theorem dX7_sets_48 : decode cX7_sets 48 = .ok (.iload_n 1, 1) := by decide +kernel
theorem dX7_sets_49 : decode cX7_sets 49 = .ok (.iadd, 1) := by decide +kernel
theorem dX7_sets_50 : decode cX7_sets 50 = .ok (.iload_n 2, 1) := by decide +kernel
theorem dX7_sets_51 : decode cX7_sets 51 = .ok (.invokevirtual 66, 3) := by decide +kernel
theorem dX7_sets_54 : decode cX7_sets 54 = .ok (.goto 5, 3) := by decide +kernel
theorem dX7_sets_57 : decode cX7_sets 57 = .ok (.bipush (-2), 2) := by decide +kernel
theorem dX7_sets_59 : decode cX7_sets 59 = .ok (.invokevirtual 82, 3) := by decide +kernel
theorem dX7_sets_62 : decode cX7_sets 62 = .ok (.ireturn, 1) := by decide +kernel
set_option maxRecDepth 20000 in
theorem ggX7_areSimple_X7_isFit : GoodIn wsX7_areSimple wsX7_isFit := goodIn_r _ [6, 1, 10, 11, 12, 13, 14, 15, 16, 17, 18, 19, 20, 21, 22, 23, 24, 25, 26, 27, 28, 29, 30] (by decide +kernel) (by decide +kernel)
set_option maxRecDepth 20000 in
theorem gX7_areSimple_X7_isFit : GoodIn wsX7_areSimple (wsV RX7 59 RX7 yX7_isFit wsX7_isFit) := goodIn_app (goodIn_of _ (by decide +kernel)) ggX7_areSimple_X7_isFit
set_option maxRecDepth 20000 in
theorem ggX7_areSimple_X7_ones : GoodIn wsX7_areSimple wsX7_ones := goodIn_r _ [9] (by decide +kernel) (by decide +kernel)
set_option maxRecDepth 20000 in
theorem gX7_areSimple_X7_ones : GoodIn wsX7_areSimple (va_wsS RX7 103 yX7_ones wsX7_ones) := goodIn_app (goodIn_of _ (by decide +kernel)) ggX7_areSimple_X7_ones
theorem dX7_areSimple_0 : decode cX7_areSimple 0 = .ok (.aload_n 0, 1) := by decide +kernel
theorem dX7_areSimple_1 : decode cX7_areSimple 1 = .ok (.getfield 7, 3) := by decide +kernel
theorem dX7_areSimple_4 : decode cX7_areSimple 4 = .ok (.iconst 0, 1) := by decide +kernel
theorem dX7_areSimple_5 : decode cX7_areSimple 5 = .ok (.iload_n 1, 1) := by decide +kernel
theorem dX7_areSimple_6 : decode cX7_areSimple 6 = .ok (.iadd, 1) := by decide +kernel
theorem dX7_areSimple_7 : decode cX7_areSimple 7 = .ok (.iaload, 1) := by decide +kernel
theorem dX7_areSimple_8 : decode cX7_areSimple 8 = .ok (.istore_n 3, 1) := by decide +kernel
theorem dX7_areSimple_9 : decode cX7_areSimple 9 = .ok (.aload_n 0, 1) := by decide +kernel
theorem dX7_areSimple_10 : decode cX7_areSimple 10 = .ok (.getfield 7, 3) := by decide +kernel
theorem dX7_areSimple_13 : decode cX7_areSimple 13 = .ok (.iconst 0, 1) := by decide +kernel
theorem dX7_areSimple_14 : decode cX7_areSimple 14 = .ok (.iload_n 2, 1) := by decide +kernel
theorem dX7_areSimple_15 : decode cX7_areSimple 15 = .ok (.iadd, 1) := by decide +kernel
theorem dX7_areSimple_16 : decode cX7_areSimple 16 = .ok (.iaload, 1) := by decide +kernel
theorem dX7_areSimple_17 : decode cX7_areSimple 17 = .ok (.istore 4, 2) := by decide +kernel
theorem dX7_areSimple_19 : decode cX7_areSimple 19 = .ok (.iload_n 1, 1) := by decide +kernel
theorem dX7_areSimple_20 : decode cX7_areSimple 20 = .ok (.iload_n 2, 1) := by decide +kernel
theorem dX7_areSimple_21 : decode cX7_areSimple 21 = .ok (.if_icmp .eq 49, 3) := by decide +kernel
theorem dX7_areSimple_24 : decode cX7_areSimple 24 = .ok (.aload_n 0, 1) := by decide +kernel
theorem dX7_areSimple_25 : decode cX7_areSimple 25 = .ok (.iload_n 1, 1) := by decide +kernel
theorem dX7_areSimple_26 : decode cX7_areSimple 26 = .ok (.invokevirtual 59, 3) := by decide +kernel
theorem dX7_areSimple_29 : decode cX7_areSimple 29 = .ok (.ifCond .eq 41, 3) := by decide +kernel
theorem dX7_areSimple_32 : decode cX7_areSimple 32 = .ok (.aload_n 0, 1) := by decide +kernel
theorem dX7_areSimple_33 : decode cX7_areSimple 33 = .ok (.iload_n 2, 1) := by decide +kernel
theorem dX7_areSimple_34 : decode cX7_areSimple 34 = .ok (.invokevirtual 59, 3) := by decide +kernel
theorem dX7_areSimple_37 : decode cX7_areSimple 37 = .ok (.ifCond .eq 33, 3) := by decide +kernel
theorem dX7_areSimple_40 : decode cX7_areSimple 40 = .ok (.iload_n 3, 1) := by decide +kernel
theorem dX7_areSimple_41 : decode cX7_areSimple 41 = .ok (.iload 4, 2) := by decide +kernel
theorem dX7_areSimple_43 : decode cX7_areSimple 43 = .ok (.iconst (-1), 1) := by decide +kernel
theorem dX7_areSimple_44 : decode cX7_areSimple 44 = .ok (.ixor, 1) := by decide +kernel
theorem dX7_areSimple_45 : decode cX7_areSimple 45 = .ok (.iand, 1) := by decide +kernel
theorem dX7_areSimple_46 : decode cX7_areSimple 46 = .ok (.invokestatic 103, 3) := by decide +kernel
theorem dX7_areSimple_49 : decode cX7_areSimple 49 = .ok (.iconst 1, 1) := by decide +kernel
theorem dX7_areSimple_50 : decode cX7_areSimple 50 = .ok (.if_icmp .ne 20, 3) := by decide +kernel
theorem dX7_areSimple_53 : decode cX7_areSimple 53 = .ok (.iload 4, 2) := by decide +kernel
theorem dX7_areSimple_55 : decode cX7_areSimple 55 = .ok (.iload_n 3, 1) := by decide +kernel
theorem dX7_areSimple_56 : decode cX7_areSimple 56 = .ok (.iconst (-1), 1) := by decide +kernel
theorem dX7_areSimple_57 : decode cX7_areSimple 57 = .ok (.ixor, 1) := by decide +kernel
theorem dX7_areSimple_58 : decode cX7_areSimple 58 = .ok (.iand, 1) := by decide +kernel
theorem dX7_areSimple_59 : decode cX7_areSimple 59 = .ok (.invokestatic 103, 3) := by decide +kernel
theorem dX7_areSimple_62 : decode cX7_areSimple 62 = .ok (.iconst 1, 1) := by decide +kernel
theorem dX7_areSimple_63 : decode cX7_areSimple 63 = .ok (.if_icmp .ne 7, 3) := by decide +kernel
theorem dX7_areSimple_66 : decode cX7_areSimple 66 = .ok (.iconst 1, 1) := by decide +kernel
theorem dX7_areSimple_67 : decode cX7_areSimple 67 = .ok (.goto 4, 3) := by decide +kernel
theorem dX7_areSimple_70 : decode cX7_areSimple 70 = .ok (.iconst 0, 1) := by decide +kernel
theorem dX7_areSimple_71 : decode cX7_areSimple 71 = .ok (.ireturn, 1) := by decide +kernel
theorem dX7_placeOf_0 : decode cX7_placeOf 0 = .ok (.iconst 0, 1) := by decide +kernel
theorem dX7_placeOf_1 : decode cX7_placeOf 1 = .ok (.istore_n 1, 1) := by decide +kernel
theorem dX7_placeOf_2 : decode cX7_placeOf 2 = .ok (.iload_n 0, 1) := by decide +kernel
theorem dX7_placeOf_3 : decode cX7_placeOf 3 = .ok (.iload_n 1, 1) := by decide +kernel
theorem dX7_placeOf_4 : decode cX7_placeOf 4 = .ok (.ishr, 1) := by decide +kernel
theorem dX7_placeOf_5 : decode cX7_placeOf 5 = .ok (.iconst 1, 1) := by decide +kernel
theorem dX7_placeOf_6 : decode cX7_placeOf 6 = .ok (.if_icmp .le 9, 3) := by decide +kernel
theorem dX7_placeOf_9 : decode cX7_placeOf 9 = .ok (.iinc 1 1, 3) := by decide +kernel
theorem dX7_placeOf_12 : decode cX7_placeOf 12 = .ok (.goto (-10), 3) := by decide +kernel
theorem dX7_placeOf_15 : decode cX7_placeOf 15 = .ok (.iload_n 1, 1) := by decide +kernel
theorem dX7_placeOf_16 : decode cX7_placeOf 16 = .ok (.ireturn, 1) := by decide +kernel
set_option maxRecDepth 20000 in
theorem ggX7_coming_X7_placeOf : GoodIn wsX7_coming wsX7_placeOf := goodIn_r _ [5] (by decide +kernel) (by decide +kernel)
set_option maxRecDepth 20000 in
theorem gX7_coming_X7_placeOf : GoodIn wsX7_coming (va_wsS RX7 106 yX7_placeOf wsX7_placeOf) := goodIn_app (goodIn_of _ (by decide +kernel)) ggX7_coming_X7_placeOf
theorem dX7_coming_0 : decode cX7_coming 0 = .ok (.aload_n 0, 1) := by decide +kernel
theorem dX7_coming_1 : decode cX7_coming 1 = .ok (.getfield 7, 3) := by decide +kernel
theorem dX7_coming_4 : decode cX7_coming 4 = .ok (.iconst 0, 1) := by decide +kernel
theorem dX7_coming_5 : decode cX7_coming 5 = .ok (.iload_n 2, 1) := by decide +kernel
theorem dX7_coming_6 : decode cX7_coming 6 = .ok (.iadd, 1) := by decide +kernel
theorem dX7_coming_7 : decode cX7_coming 7 = .ok (.iaload, 1) := by decide +kernel
theorem dX7_coming_8 : decode cX7_coming 8 = .ok (.aload_n 0, 1) := by decide +kernel
theorem dX7_coming_9 : decode cX7_coming 9 = .ok (.getfield 7, 3) := by decide +kernel
theorem dX7_coming_12 : decode cX7_coming 12 = .ok (.iconst 0, 1) := by decide +kernel
theorem dX7_coming_13 : decode cX7_coming 13 = .ok (.iload_n 1, 1) := by decide +kernel
theorem dX7_coming_14 : decode cX7_coming 14 = .ok (.iadd, 1) := by decide +kernel
theorem dX7_coming_15 : decode cX7_coming 15 = .ok (.iaload, 1) := by decide +kernel
theorem dX7_coming_16 : decode cX7_coming 16 = .ok (.iconst (-1), 1) := by decide +kernel
theorem dX7_coming_17 : decode cX7_coming 17 = .ok (.ixor, 1) := by decide +kernel
theorem dX7_coming_18 : decode cX7_coming 18 = .ok (.iand, 1) := by decide +kernel
theorem dX7_coming_19 : decode cX7_coming 19 = .ok (.invokestatic 106, 3) := by decide +kernel
theorem dX7_coming_22 : decode cX7_coming 22 = .ok (.ireturn, 1) := by decide +kernel
set_option maxRecDepth 20000 in
theorem ggX7_simpleMany_X7_areSimple : GoodIn wsX7_simpleMany wsX7_areSimple := goodIn_r _ [5, 6, 7, 8, 9, 4, 10, 11, 12, 13, 14, 15, 16, 17, 18, 19, 20, 21, 22, 23, 24, 25, 26, 27, 28, 29, 30, 31, 32, 33, 34] (by decide +kernel) (by decide +kernel)
set_option maxRecDepth 20000 in
theorem gX7_simpleMany_X7_areSimple : GoodIn wsX7_simpleMany (wsV RX7 109 RX7 yX7_areSimple wsX7_areSimple) := goodIn_app (goodIn_of _ (by decide +kernel)) ggX7_simpleMany_X7_areSimple
theorem dX7_simpleMany_0 : decode cX7_simpleMany 0 = .ok (.iconst 0, 1) := by decide +kernel
theorem dX7_simpleMany_1 : decode cX7_simpleMany 1 = .ok (.istore_n 2, 1) := by decide +kernel
theorem dX7_simpleMany_2 : decode cX7_simpleMany 2 = .ok (.iconst 1, 1) := by decide +kernel
theorem dX7_simpleMany_3 : decode cX7_simpleMany 3 = .ok (.istore_n 3, 1) := by decide +kernel
theorem dX7_simpleMany_4 : decode cX7_simpleMany 4 = .ok (.iload_n 3, 1) := by decide +kernel
theorem dX7_simpleMany_5 : decode cX7_simpleMany 5 = .ok (.bipush 7, 2) := by decide +kernel
theorem dX7_simpleMany_7 : decode cX7_simpleMany 7 = .ok (.if_icmp .gt 26, 3) := by decide +kernel
theorem dX7_simpleMany_10 : decode cX7_simpleMany 10 = .ok (.iload_n 2, 1) := by decide +kernel
theorem dX7_simpleMany_11 : decode cX7_simpleMany 11 = .ok (.aload_n 0, 1) := by decide +kernel
theorem dX7_simpleMany_12 : decode cX7_simpleMany 12 = .ok (.iload_n 1, 1) := by decide +kernel
theorem dX7_simpleMany_13 : decode cX7_simpleMany 13 = .ok (.iload_n 3, 1) := by decide +kernel
theorem dX7_simpleMany_14 : decode cX7_simpleMany 14 = .ok (.invokevirtual 109, 3) := by decide +kernel
theorem dX7_simpleMany_17 : decode cX7_simpleMany 17 = .ok (.ifCond .eq 7, 3) := by decide +kernel
theorem dX7_simpleMany_20 : decode cX7_simpleMany 20 = .ok (.iconst 1, 1) := by decide +kernel
theorem dX7_simpleMany_21 : decode cX7_simpleMany 21 = .ok (.goto 4, 3) := by decide +kernel
theorem dX7_simpleMany_24 : decode cX7_simpleMany 24 = .ok (.iconst 0, 1) := by decide +kernel
theorem dX7_simpleMany_25 : decode cX7_simpleMany 25 = .ok (.iadd, 1) := by decide +kernel
theorem dX7_simpleMany_26 : decode cX7_simpleMany 26 = .ok (.istore_n 2, 1) := by decide +kernel
theorem dX7_simpleMany_27 : decode cX7_simpleMany 27 = .ok (.iinc 3 1, 3) := by decide +kernel
theorem dX7_simpleMany_30 : decode cX7_simpleMany 30 = .ok (.goto (-26), 3) := by decide +kernel
theorem dX7_simpleMany_33 : decode cX7_simpleMany 33 = .ok (.iload_n 2, 1) := by decide +kernel
theorem dX7_simpleMany_34 : decode cX7_simpleMany 34 = .ok (.ireturn, 1) := by decide +kernel
set_option maxRecDepth 20000 in
theorem ggX7_findWay_X7_areSimple : GoodIn wsX7_findWay wsX7_areSimple := goodIn_r _ [8, 9, 10, 11, 12, 7, 13, 14, 15, 16, 17, 18, 19, 20, 21, 22, 23, 24, 25, 26, 27, 28, 29, 30, 31, 32, 33, 34, 35, 36, 37] (by decide +kernel) (by decide +kernel)
set_option maxRecDepth 20000 in
theorem gX7_findWay_X7_areSimple : GoodIn wsX7_findWay (wsV RX7 109 RX7 yX7_areSimple wsX7_areSimple) := goodIn_app (goodIn_of _ (by decide +kernel)) ggX7_findWay_X7_areSimple
theorem dX7_findWay_0 : decode cX7_findWay 0 = .ok (.iconst 1, 1) := by decide +kernel
theorem dX7_findWay_1 : decode cX7_findWay 1 = .ok (.istore_n 3, 1) := by decide +kernel
theorem dX7_findWay_2 : decode cX7_findWay 2 = .ok (.iload_n 3, 1) := by decide +kernel
theorem dX7_findWay_3 : decode cX7_findWay 3 = .ok (.bipush 7, 2) := by decide +kernel
theorem dX7_findWay_5 : decode cX7_findWay 5 = .ok (.if_icmp .gt 26, 3) := by decide +kernel
theorem dX7_findWay_8 : decode cX7_findWay 8 = .ok (.aload_n 0, 1) := by decide +kernel
theorem dX7_findWay_9 : decode cX7_findWay 9 = .ok (.getfield 38, 3) := by decide +kernel
theorem dX7_findWay_12 : decode cX7_findWay 12 = .ok (.iload_n 3, 1) := by decide +kernel
theorem dX7_findWay_13 : decode cX7_findWay 13 = .ok (.iload_n 3, 1) := by decide +kernel
theorem dX7_findWay_14 : decode cX7_findWay 14 = .ok (.iload_n 2, 1) := by decide +kernel
theorem dX7_findWay_15 : decode cX7_findWay 15 = .ok (.if_icmp .ne 7, 3) := by decide +kernel
theorem dX7_findWay_18 : decode cX7_findWay 18 = .ok (.iconst 0, 1) := by decide +kernel
theorem dX7_findWay_19 : decode cX7_findWay 19 = .ok (.goto 5, 3) := by decide +kernel
theorem dX7_findWay_22 : decode cX7_findWay 22 = .ok (.bipush 100, 2) := by decide +kernel
theorem dX7_findWay_24 : decode cX7_findWay 24 = .ok (.iastore, 1) := by decide +kernel
theorem dX7_findWay_25 : decode cX7_findWay 25 = .ok (.iinc 3 1, 3) := by decide +kernel
theorem dX7_findWay_28 : decode cX7_findWay 28 = .ok (.goto (-26), 3) := by decide +kernel
theorem dX7_findWay_31 : decode cX7_findWay 31 = .ok (.iconst 0, 1) := by decide +kernel
theorem dX7_findWay_32 : decode cX7_findWay 32 = .ok (.istore_n 3, 1) := by decide +kernel
theorem dX7_findWay_33 : decode cX7_findWay 33 = .ok (.iload_n 3, 1) := by decide +kernel
theorem dX7_findWay_34 : decode cX7_findWay 34 = .ok (.bipush 7, 2) := by decide +kernel
theorem dX7_findWay_36 : decode cX7_findWay 36 = .ok (.if_icmp .ge 97, 3) := by decide +kernel
theorem dX7_findWay_39 : decode cX7_findWay 39 = .ok (.iconst 1, 1) := by decide +kernel
theorem dX7_findWay_40 : decode cX7_findWay 40 = .ok (.istore 4, 2) := by decide +kernel
theorem dX7_findWay_42 : decode cX7_findWay 42 = .ok (.iload 4, 2) := by decide +kernel
theorem dX7_findWay_44 : decode cX7_findWay 44 = .ok (.bipush 7, 2) := by decide +kernel
theorem dX7_findWay_46 : decode cX7_findWay 46 = .ok (.if_icmp .gt 81, 3) := by decide +kernel
theorem dX7_findWay_49 : decode cX7_findWay 49 = .ok (.iconst 1, 1) := by decide +kernel
theorem dX7_findWay_50 : decode cX7_findWay 50 = .ok (.istore 5, 2) := by decide +kernel
theorem dX7_findWay_52 : decode cX7_findWay 52 = .ok (.iload 5, 2) := by decide +kernel
theorem dX7_findWay_54 : decode cX7_findWay 54 = .ok (.bipush 7, 2) := by decide +kernel
theorem dX7_findWay_56 : decode cX7_findWay 56 = .ok (.if_icmp .gt 65, 3) := by decide +kernel
theorem dX7_findWay_59 : decode cX7_findWay 59 = .ok (.aload_n 0, 1) := by decide +kernel
theorem dX7_findWay_60 : decode cX7_findWay 60 = .ok (.getfield 38, 3) := by decide +kernel
theorem dX7_findWay_63 : decode cX7_findWay 63 = .ok (.iload 4, 2) := by decide +kernel
theorem dX7_findWay_65 : decode cX7_findWay 65 = .ok (.aload_n 0, 1) := by decide +kernel
theorem dX7_findWay_66 : decode cX7_findWay 66 = .ok (.iload 4, 2) := by decide +kernel
theorem dX7_findWay_68 : decode cX7_findWay 68 = .ok (.iload 5, 2) := by decide +kernel
theorem dX7_findWay_70 : decode cX7_findWay 70 = .ok (.invokevirtual 109, 3) := by decide +kernel
theorem dX7_findWay_73 : decode cX7_findWay 73 = .ok (.ifCond .eq 34, 3) := by decide +kernel
theorem dX7_findWay_76 : decode cX7_findWay 76 = .ok (.aload_n 0, 1) := by decide +kernel
theorem dX7_findWay_77 : decode cX7_findWay 77 = .ok (.getfield 38, 3) := by decide +kernel
theorem dX7_findWay_80 : decode cX7_findWay 80 = .ok (.iload 5, 2) := by decide +kernel
theorem dX7_findWay_82 : decode cX7_findWay 82 = .ok (.iaload, 1) := by decide +kernel
theorem dX7_findWay_83 : decode cX7_findWay 83 = .ok (.iconst 1, 1) := by decide +kernel
theorem dX7_findWay_84 : decode cX7_findWay 84 = .ok (.iadd, 1) := by decide +kernel
theorem dX7_findWay_85 : decode cX7_findWay 85 = .ok (.aload_n 0, 1) := by decide +kernel
theorem dX7_findWay_86 : decode cX7_findWay 86 = .ok (.getfield 38, 3) := by decide +kernel
theorem dX7_findWay_89 : decode cX7_findWay 89 = .ok (.iload 4, 2) := by decide +kernel
theorem dX7_findWay_91 : decode cX7_findWay 91 = .ok (.iaload, 1) := by decide +kernel
theorem dX7_findWay_92 : decode cX7_findWay 92 = .ok (.if_icmp .ge 15, 3) := by decide +kernel
theorem dX7_findWay_95 : decode cX7_findWay 95 = .ok (.aload_n 0, 1) := by decide +kernel
theorem dX7_findWay_96 : decode cX7_findWay 96 = .ok (.getfield 38, 3) := by decide +kernel
theorem dX7_findWay_99 : decode cX7_findWay 99 = .ok (.iload 5, 2) := by decide +kernel
theorem dX7_findWay_101 : decode cX7_findWay 101 = .ok (.iaload, 1) := by decide +kernel
theorem dX7_findWay_102 : decode cX7_findWay 102 = .ok (.iconst 1, 1) := by decide +kernel
theorem dX7_findWay_103 : decode cX7_findWay 103 = .ok (.iadd, 1) := by decide +kernel
theorem dX7_findWay_104 : decode cX7_findWay 104 = .ok (.goto 10, 3) := by decide +kernel
theorem dX7_findWay_107 : decode cX7_findWay 107 = .ok (.aload_n 0, 1) := by decide +kernel
theorem dX7_findWay_108 : decode cX7_findWay 108 = .ok (.getfield 38, 3) := by decide +kernel
theorem dX7_findWay_111 : decode cX7_findWay 111 = .ok (.iload 4, 2) := by decide +kernel
theorem dX7_findWay_113 : decode cX7_findWay 113 = .ok (.iaload, 1) := by decide +kernel
theorem dX7_findWay_114 : decode cX7_findWay 114 = .ok (.iastore, 1) := by decide +kernel
theorem dX7_findWay_115 : decode cX7_findWay 115 = .ok (.iinc 5 1, 3) := by decide +kernel
theorem dX7_findWay_118 : decode cX7_findWay 118 = .ok (.goto (-66), 3) := by decide +kernel
theorem dX7_findWay_121 : decode cX7_findWay 121 = .ok (.iinc 4 1, 3) := by decide +kernel
theorem dX7_findWay_124 : decode cX7_findWay 124 = .ok (.goto (-82), 3) := by decide +kernel
theorem dX7_findWay_127 : decode cX7_findWay 127 = .ok (.iinc 3 1, 3) := by decide +kernel
theorem dX7_findWay_130 : decode cX7_findWay 130 = .ok (.goto (-97), 3) := by decide +kernel
theorem dX7_findWay_133 : decode cX7_findWay 133 = .ok (.aload_n 0, 1) := by decide +kernel
theorem dX7_findWay_134 : decode cX7_findWay 134 = .ok (.iconst 0, 1) := by decide +kernel
theorem dX7_findWay_135 : decode cX7_findWay 135 = .ok (.putfield 113, 3) := by decide +kernel
theorem dX7_findWay_138 : decode cX7_findWay 138 = .ok (.iload_n 1, 1) := by decide +kernel
theorem dX7_findWay_139 : decode cX7_findWay 139 = .ok (.istore_n 3, 1) := by decide +kernel
theorem dX7_findWay_140 : decode cX7_findWay 140 = .ok (.aload_n 0, 1) := by decide +kernel
theorem dX7_findWay_141 : decode cX7_findWay 141 = .ok (.getfield 38, 3) := by decide +kernel
theorem dX7_findWay_144 : decode cX7_findWay 144 = .ok (.iload_n 3, 1) := by decide +kernel
theorem dX7_findWay_145 : decode cX7_findWay 145 = .ok (.iaload, 1) := by decide +kernel
theorem dX7_findWay_146 : decode cX7_findWay 146 = .ok (.ifCond .le 78, 3) := by decide +kernel
theorem dX7_findWay_149 : decode cX7_findWay 149 = .ok (.aload_n 0, 1) := by decide +kernel
theorem dX7_findWay_150 : decode cX7_findWay 150 = .ok (.getfield 38, 3) := by decide +kernel
theorem dX7_findWay_153 : decode cX7_findWay 153 = .ok (.iload_n 3, 1) := by decide +kernel
theorem dX7_findWay_154 : decode cX7_findWay 154 = .ok (.iaload, 1) := by decide +kernel
theorem dX7_findWay_155 : decode cX7_findWay 155 = .ok (.bipush 100, 2) := by decide +kernel
theorem dX7_findWay_157 : decode cX7_findWay 157 = .ok (.if_icmp .ge 67, 3) := by decide +kernel
theorem dX7_findWay_160 : decode cX7_findWay 160 = .ok (.iconst 1, 1) := by decide +kernel
theorem dX7_findWay_161 : decode cX7_findWay 161 = .ok (.istore 4, 2) := by decide +kernel
theorem dX7_findWay_163 : decode cX7_findWay 163 = .ok (.aload_n 0, 1) := by decide +kernel
theorem dX7_findWay_164 : decode cX7_findWay 164 = .ok (.iload_n 3, 1) := by decide +kernel
theorem dX7_findWay_165 : decode cX7_findWay 165 = .ok (.iload 4, 2) := by decide +kernel
theorem dX7_findWay_167 : decode cX7_findWay 167 = .ok (.invokevirtual 109, 3) := by decide +kernel
theorem dX7_findWay_170 : decode cX7_findWay 170 = .ok (.ifCond .eq 21, 3) := by decide +kernel
theorem dX7_findWay_173 : decode cX7_findWay 173 = .ok (.aload_n 0, 1) := by decide +kernel
theorem dX7_findWay_174 : decode cX7_findWay 174 = .ok (.getfield 38, 3) := by decide +kernel
theorem dX7_findWay_177 : decode cX7_findWay 177 = .ok (.iload 4, 2) := by decide +kernel
theorem dX7_findWay_179 : decode cX7_findWay 179 = .ok (.iaload, 1) := by decide +kernel
theorem dX7_findWay_180 : decode cX7_findWay 180 = .ok (.iconst 1, 1) := by decide +kernel
theorem dX7_findWay_181 : decode cX7_findWay 181 = .ok (.iadd, 1) := by decide +kernel
theorem dX7_findWay_182 : decode cX7_findWay 182 = .ok (.aload_n 0, 1) := by decide +kernel
theorem dX7_findWay_183 : decode cX7_findWay 183 = .ok (.getfield 38, 3) := by decide +kernel
theorem dX7_findWay_186 : decode cX7_findWay 186 = .ok (.iload_n 3, 1) := by decide +kernel
theorem dX7_findWay_187 : decode cX7_findWay 187 = .ok (.iaload, 1) := by decide +kernel
theorem dX7_findWay_188 : decode cX7_findWay 188 = .ok (.if_icmp .eq 9, 3) := by decide +kernel
theorem dX7_findWay_191 : decode cX7_findWay 191 = .ok (.iinc 4 1, 3) := by decide +kernel
theorem dX7_findWay_194 : decode cX7_findWay 194 = .ok (.goto (-31), 3) := by decide +kernel
theorem dX7_findWay_197 : decode cX7_findWay 197 = .ok (.aload_n 0, 1) := by decide +kernel
theorem dX7_findWay_198 : decode cX7_findWay 198 = .ok (.getfield 41, 3) := by decide +kernel
theorem dX7_findWay_201 : decode cX7_findWay 201 = .ok (.aload_n 0, 1) := by decide +kernel
theorem dX7_findWay_202 : decode cX7_findWay 202 = .ok (.getfield 113, 3) := by decide +kernel
theorem dX7_findWay_205 : decode cX7_findWay 205 = .ok (.iload 4, 2) := by decide +kernel
theorem dX7_findWay_207 : decode cX7_findWay 207 = .ok (.iastore, 1) := by decide +kernel
theorem dX7_findWay_208 : decode cX7_findWay 208 = .ok (.aload_n 0, 1) := by decide +kernel
theorem dX7_findWay_209 : decode cX7_findWay 209 = .ok (.dup, 1) := by decide +kernel
theorem dX7_findWay_210 : decode cX7_findWay 210 = .ok (.getfield 113, 3) := by decide +kernel
theorem dX7_findWay_213 : decode cX7_findWay 213 = .ok (.iconst 1, 1) := by decide +kernel
theorem dX7_findWay_214 : decode cX7_findWay 214 = .ok (.iadd, 1) := by decide +kernel
theorem dX7_findWay_215 : decode cX7_findWay 215 = .ok (.putfield 113, 3) := by decide +kernel
theorem dX7_findWay_218 : decode cX7_findWay 218 = .ok (.iload 4, 2) := by decide +kernel
theorem dX7_findWay_220 : decode cX7_findWay 220 = .ok (.istore_n 3, 1) := by decide +kernel
theorem dX7_findWay_221 : decode cX7_findWay 221 = .ok (.goto (-81), 3) := by decide +kernel
theorem dX7_findWay_224 : decode cX7_findWay 224 = .ok (.return_, 1) := by decide +kernel
set_option maxRecDepth 20000 in
theorem ggX7_ofGear_X7_isFit : GoodIn wsX7_ofGear wsX7_isFit := goodIn_r _ [6, 1, 18, 19, 20, 21, 22, 23, 24, 25, 26, 27, 28, 29, 30, 31, 32, 33, 34, 35, 36, 37, 38] (by decide +kernel) (by decide +kernel)
set_option maxRecDepth 20000 in
theorem gX7_ofGear_X7_isFit : GoodIn wsX7_ofGear (wsV RX7 59 RX7 yX7_isFit wsX7_isFit) := goodIn_app (goodIn_of _ (by decide +kernel)) ggX7_ofGear_X7_isFit
set_option maxRecDepth 20000 in
theorem ggX7_ofGear_X7_simpleMany : GoodIn wsX7_ofGear wsX7_simpleMany := goodIn_r _ [10, 11, 12, 13, 5, 14, 1, 2, 3, 4, 6, 15, 16, 17, 18, 19, 20, 21, 22, 23, 24, 25, 26, 27, 28, 29, 30, 31, 32, 33, 34, 35, 36, 37, 38] (by decide +kernel) (by decide +kernel)
set_option maxRecDepth 20000 in
theorem gX7_ofGear_X7_simpleMany : GoodIn wsX7_ofGear (wsV RX7 116 RX7 yX7_simpleMany wsX7_simpleMany) := goodIn_app (goodIn_of _ (by decide +kernel)) ggX7_ofGear_X7_simpleMany
theorem dX7_ofGear_0 : decode cX7_ofGear 0 = .ok (.iload_n 2, 1) := by decide +kernel
theorem dX7_ofGear_1 : decode cX7_ofGear 1 = .ok (.ifCond .ne 14, 3) := by decide +kernel
theorem dX7_ofGear_4 : decode cX7_ofGear 4 = .ok (.aload_n 0, 1) := by decide +kernel
theorem dX7_ofGear_5 : decode cX7_ofGear 5 = .ok (.getfield 7, 3) := by decide +kernel
theorem dX7_ofGear_8 : decode cX7_ofGear 8 = .ok (.iconst 0, 1) := by decide +kernel
theorem dX7_ofGear_9 : decode cX7_ofGear 9 = .ok (.iload_n 1, 1) := by decide +kernel
theorem dX7_ofGear_10 : decode cX7_ofGear 10 = .ok (.iadd, 1) := by decide +kernel
theorem dX7_ofGear_11 : decode cX7_ofGear 11 = .ok (.iaload, 1) := by decide +kernel
theorem dX7_ofGear_12 : decode cX7_ofGear 12 = .ok (.goto 63, 3) := by decide +kernel
theorem dX7_ofGear_15 : decode cX7_ofGear 15 = .ok (.iload_n 2, 1) := by decide +kernel
theorem dX7_ofGear_16 : decode cX7_ofGear 16 = .ok (.iconst 1, 1) := by decide +kernel
theorem dX7_ofGear_17 : decode cX7_ofGear 17 = .ok (.if_icmp .ne 19, 3) := by decide +kernel
theorem dX7_ofGear_20 : decode cX7_ofGear 20 = .ok (.aload_n 0, 1) := by decide +kernel
theorem dX7_ofGear_21 : decode cX7_ofGear 21 = .ok (.iload_n 1, 1) := by decide +kernel
theorem dX7_ofGear_22 : decode cX7_ofGear 22 = .ok (.invokevirtual 59, 3) := by decide +kernel
theorem dX7_ofGear_25 : decode cX7_ofGear 25 = .ok (.ifCond .eq 7, 3) := by decide +kernel
theorem dX7_ofGear_28 : decode cX7_ofGear 28 = .ok (.iconst 1, 1) := by decide +kernel
theorem dX7_ofGear_29 : decode cX7_ofGear 29 = .ok (.goto 46, 3) := by decide +kernel
theorem dX7_ofGear_32 : decode cX7_ofGear 32 = .ok (.iconst 0, 1) := by decide +kernel
theorem dX7_ofGear_33 : decode cX7_ofGear 33 = .ok (.goto 42, 3) := by decide +kernel
theorem dX7_ofGear_36 : decode cX7_ofGear 36 = .ok (.iload_n 2, 1) := by decide +kernel
theorem dX7_ofGear_37 : decode cX7_ofGear 37 = .ok (.iconst 2, 1) := by decide +kernel
theorem dX7_ofGear_38 : decode cX7_ofGear 38 = .ok (.if_icmp .ne 15, 3) := by decide +kernel
theorem dX7_ofGear_41 : decode cX7_ofGear 41 = .ok (.aload_n 0, 1) := by decide +kernel
theorem dX7_ofGear_42 : decode cX7_ofGear 42 = .ok (.getfield 7, 3) := by decide +kernel
theorem dX7_ofGear_45 : decode cX7_ofGear 45 = .ok (.bipush 23, 2) := by decide +kernel
theorem dX7_ofGear_47 : decode cX7_ofGear 47 = .ok (.iload_n 1, 1) := by decide +kernel
theorem dX7_ofGear_48 : decode cX7_ofGear 48 = .ok (.iadd, 1) := by decide +kernel
theorem dX7_ofGear_49 : decode cX7_ofGear 49 = .ok (.iaload, 1) := by decide +kernel
theorem dX7_ofGear_50 : decode cX7_ofGear 50 = .ok (.goto 25, 3) := by decide +kernel
theorem dX7_ofGear_53 : decode cX7_ofGear 53 = .ok (.iload_n 2, 1) := by decide +kernel
theorem dX7_ofGear_54 : decode cX7_ofGear 54 = .ok (.iconst 3, 1) := by decide +kernel
theorem dX7_ofGear_55 : decode cX7_ofGear 55 = .ok (.if_icmp .ne 15, 3) := by decide +kernel
theorem dX7_ofGear_58 : decode cX7_ofGear 58 = .ok (.aload_n 0, 1) := by decide +kernel
theorem dX7_ofGear_59 : decode cX7_ofGear 59 = .ok (.getfield 7, 3) := by decide +kernel
theorem dX7_ofGear_62 : decode cX7_ofGear 62 = .ok (.bipush 31, 2) := by decide +kernel
theorem dX7_ofGear_64 : decode cX7_ofGear 64 = .ok (.iload_n 1, 1) := by decide +kernel
theorem dX7_ofGear_65 : decode cX7_ofGear 65 = .ok (.iadd, 1) := by decide +kernel
theorem dX7_ofGear_66 : decode cX7_ofGear 66 = .ok (.iaload, 1) := by decide +kernel
theorem dX7_ofGear_67 : decode cX7_ofGear 67 = .ok (.goto 8, 3) := by decide +kernel
theorem dX7_ofGear_70 : decode cX7_ofGear 70 = .ok (.aload_n 0, 1) := by decide +kernel
theorem dX7_ofGear_71 : decode cX7_ofGear 71 = .ok (.iload_n 1, 1) := by decide +kernel
theorem dX7_ofGear_72 : decode cX7_ofGear 72 = .ok (.invokevirtual 116, 3) := by decide +kernel
theorem dX7_ofGear_75 : decode cX7_ofGear 75 = .ok (.ireturn, 1) := by decide +kernel
set_option maxRecDepth 20000 in
theorem ggX7_of_X7_isGear : GoodIn wsX7_of wsX7_isGear := goodIn_r _ [4, 5, 6, 3, 7] (by decide +kernel) (by decide +kernel)
set_option maxRecDepth 20000 in
theorem gX7_of_X7_isGear : GoodIn wsX7_of (va_wsS RX7 63 yX7_isGear wsX7_isGear) := goodIn_app (goodIn_of _ (by decide +kernel)) ggX7_of_X7_isGear
set_option maxRecDepth 20000 in
theorem ggX7_of_X7_in : GoodIn wsX7_of wsX7_in := goodIn_r _ [7] (by decide +kernel) (by decide +kernel)
set_option maxRecDepth 20000 in
theorem gX7_of_X7_in : GoodIn wsX7_of (va_wsS RX7 55 yX7_in wsX7_in) := goodIn_app (goodIn_of _ (by decide +kernel)) ggX7_of_X7_in
set_option maxRecDepth 20000 in
theorem ggX7_of_X7_ofGear : GoodIn wsX7_of wsX7_ofGear := goodIn_r _ [11, 12, 13, 14, 15, 3, 16, 17, 18, 19, 20, 21, 22, 23, 24, 25, 26, 27, 33, 34, 35, 36, 37, 38, 39, 40, 41, 42, 43, 44, 45, 46, 47, 48, 49, 50, 51, 52, 53] (by decide +kernel) (by decide +kernel)
set_option maxRecDepth 20000 in
theorem gX7_of_X7_ofGear : GoodIn wsX7_of (wsV RX7 119 RX7 yX7_ofGear wsX7_ofGear) := goodIn_app (goodIn_of _ (by decide +kernel)) ggX7_of_X7_ofGear
set_option maxRecDepth 20000 in
theorem ggX7_of_X7_refuse : GoodIn wsX7_of wsX7_refuse := goodIn_r _ [31, 32, 33, 34, 35, 36, 37, 38, 39, 40, 41, 42, 43, 44, 45, 46, 47, 48, 49, 50, 51, 52, 53] (by decide +kernel) (by decide +kernel)
set_option maxRecDepth 20000 in
theorem gX7_of_X7_refuse : GoodIn wsX7_of (wsV RX7 48 RX7 yX7_refuse wsX7_refuse) := goodIn_app (goodIn_of _ (by decide +kernel)) ggX7_of_X7_refuse
theorem dX7_of_0 : decode cX7_of 0 = .ok (.iload_n 1, 1) := by decide +kernel
theorem dX7_of_1 : decode cX7_of 1 = .ok (.invokestatic 63, 3) := by decide +kernel
theorem dX7_of_4 : decode cX7_of 4 = .ok (.ifCond .eq 21, 3) := by decide +kernel
theorem dX7_of_7 : decode cX7_of 7 = .ok (.iload_n 2, 1) := by decide +kernel
theorem dX7_of_8 : decode cX7_of 8 = .ok (.iconst 0, 1) := by decide +kernel
theorem dX7_of_9 : decode cX7_of 9 = .ok (.iconst 4, 1) := by decide +kernel
theorem dX7_of_10 : decode cX7_of 10 = .ok (.invokestatic 55, 3) := by decide +kernel
theorem dX7_of_13 : decode cX7_of 13 = .ok (.ifCond .eq 12, 3) := by decide +kernel
theorem dX7_of_16 : decode cX7_of 16 = .ok (.aload_n 0, 1) := by decide +kernel
theorem dX7_of_17 : decode cX7_of 17 = .ok (.iload_n 1, 1) := by decide +kernel
theorem dX7_of_18 : decode cX7_of 18 = .ok (.iload_n 2, 1) := by decide +kernel
theorem dX7_of_19 : decode cX7_of 19 = .ok (.invokevirtual 119, 3) := by decide +kernel
theorem dX7_of_22 : decode cX7_of 22 = .ok (.goto 9, 3) := by decide +kernel
theorem dX7_of_25 : decode cX7_of 25 = .ok (.aload_n 0, 1) := by decide +kernel
theorem dX7_of_26 : decode cX7_of 26 = .ok (.bipush (-2), 2) := by decide +kernel
theorem dX7_of_28 : decode cX7_of 28 = .ok (.invokevirtual 48, 3) := by decide +kernel
theorem dX7_of_31 : decode cX7_of 31 = .ok (.ireturn, 1) := by decide +kernel
theorem dX7_ofClutch_0 : decode cX7_ofClutch 0 = .ok (.iload_n 2, 1) := by decide +kernel
theorem dX7_ofClutch_1 : decode cX7_ofClutch 1 = .ok (.iconst 3, 1) := by decide +kernel
theorem dX7_ofClutch_2 : decode cX7_ofClutch 2 = .ok (.if_icmp .ge 36, 3) := by decide +kernel
theorem dX7_ofClutch_5 : decode cX7_ofClutch 5 = .ok (.aload_n 0, 1) := by decide +kernel
theorem dX7_ofClutch_6 : decode cX7_ofClutch 6 = .ok (.getfield 7, 3) := by decide +kernel
theorem dX7_ofClutch_9 : decode cX7_ofClutch 9 = .ok (.iload_n 2, 1) := by decide +kernel
theorem dX7_ofClutch_10 : decode cX7_ofClutch 10 = .ok (.ifCond .ne 10, 3) := by decide +kernel
theorem dX7_ofClutch_13 : decode cX7_ofClutch 13 = .ok (.bipush 8, 2) := by decide +kernel
theorem dX7_ofClutch_15 : decode cX7_ofClutch 15 = .ok (.iload_n 1, 1) := by decide +kernel
theorem dX7_ofClutch_16 : decode cX7_ofClutch 16 = .ok (.iadd, 1) := by decide +kernel
theorem dX7_ofClutch_17 : decode cX7_ofClutch 17 = .ok (.goto 19, 3) := by decide +kernel
theorem dX7_ofClutch_20 : decode cX7_ofClutch 20 = .ok (.iload_n 2, 1) := by decide +kernel
theorem dX7_ofClutch_21 : decode cX7_ofClutch 21 = .ok (.iconst 1, 1) := by decide +kernel
theorem dX7_ofClutch_22 : decode cX7_ofClutch 22 = .ok (.if_icmp .ne 10, 3) := by decide +kernel
theorem dX7_ofClutch_25 : decode cX7_ofClutch 25 = .ok (.bipush 13, 2) := by decide +kernel
theorem dX7_ofClutch_27 : decode cX7_ofClutch 27 = .ok (.iload_n 1, 1) := by decide +kernel
theorem dX7_ofClutch_28 : decode cX7_ofClutch 28 = .ok (.iadd, 1) := by decide +kernel
theorem dX7_ofClutch_29 : decode cX7_ofClutch 29 = .ok (.goto 7, 3) := by decide +kernel
theorem dX7_ofClutch_32 : decode cX7_ofClutch 32 = .ok (.bipush 18, 2) := by decide +kernel
theorem dX7_ofClutch_34 : decode cX7_ofClutch 34 = .ok (.iload_n 1, 1) := by decide +kernel
theorem dX7_ofClutch_35 : decode cX7_ofClutch 35 = .ok (.iadd, 1) := by decide +kernel
theorem dX7_ofClutch_36 : decode cX7_ofClutch 36 = .ok (.iaload, 1) := by decide +kernel
theorem dX7_ofClutch_37 : decode cX7_ofClutch 37 = .ok (.ireturn, 1) := by decide +kernel
theorem dX7_ofClutch_38 : decode cX7_ofClutch 38 = .ok (.iconst 0, 1) := by decide +kernel
theorem dX7_ofClutch_39 : decode cX7_ofClutch 39 = .ok (.istore_n 3, 1) := by decide +kernel
theorem dX7_ofClutch_40 : decode cX7_ofClutch 40 = .ok (.iconst 1, 1) := by decide +kernel
theorem dX7_ofClutch_41 : decode cX7_ofClutch 41 = .ok (.istore 4, 2) := by decide +kernel
theorem dX7_ofClutch_43 : decode cX7_ofClutch 43 = .ok (.iload 4, 2) := by decide +kernel
theorem dX7_ofClutch_45 : decode cX7_ofClutch 45 = .ok (.bipush 7, 2) := by decide +kernel
theorem dX7_ofClutch_47 : decode cX7_ofClutch 47 = .ok (.if_icmp .gt 25, 3) := by decide +kernel
theorem dX7_ofClutch_50 : decode cX7_ofClutch 50 = .ok (.iload_n 3, 1) := by decide +kernel
theorem dX7_ofClutch_51 : decode cX7_ofClutch 51 = .ok (.aload_n 0, 1) := by decide +kernel
theorem dX7_ofClutch_52 : decode cX7_ofClutch 52 = .ok (.getfield 7, 3) := by decide +kernel
theorem dX7_ofClutch_55 : decode cX7_ofClutch 55 = .ok (.iconst 0, 1) := by decide +kernel
theorem dX7_ofClutch_56 : decode cX7_ofClutch 56 = .ok (.iload 4, 2) := by decide +kernel
theorem dX7_ofClutch_58 : decode cX7_ofClutch 58 = .ok (.iadd, 1) := by decide +kernel
theorem dX7_ofClutch_59 : decode cX7_ofClutch 59 = .ok (.iaload, 1) := by decide +kernel
theorem dX7_ofClutch_60 : decode cX7_ofClutch 60 = .ok (.iload_n 1, 1) := by decide +kernel
theorem dX7_ofClutch_61 : decode cX7_ofClutch 61 = .ok (.ishr, 1) := by decide +kernel
theorem dX7_ofClutch_62 : decode cX7_ofClutch 62 = .ok (.iconst 1, 1) := by decide +kernel
theorem dX7_ofClutch_63 : decode cX7_ofClutch 63 = .ok (.iand, 1) := by decide +kernel
theorem dX7_ofClutch_64 : decode cX7_ofClutch 64 = .ok (.iadd, 1) := by decide +kernel
theorem dX7_ofClutch_65 : decode cX7_ofClutch 65 = .ok (.istore_n 3, 1) := by decide +kernel
theorem dX7_ofClutch_66 : decode cX7_ofClutch 66 = .ok (.iinc 4 1, 3) := by decide +kernel
theorem dX7_ofClutch_69 : decode cX7_ofClutch 69 = .ok (.goto (-26), 3) := by decide +kernel
theorem dX7_ofClutch_72 : decode cX7_ofClutch 72 = .ok (.iload_n 3, 1) := by decide +kernel
theorem dX7_ofClutch_73 : decode cX7_ofClutch 73 = .ok (.ireturn, 1) := by decide +kernel
set_option maxRecDepth 20000 in
theorem ggX7_clutch_X7_isClutch : GoodIn wsX7_clutch wsX7_isClutch := goodIn_r _ [4, 5, 6, 3, 7] (by decide +kernel) (by decide +kernel)
set_option maxRecDepth 20000 in
theorem gX7_clutch_X7_isClutch : GoodIn wsX7_clutch (va_wsS RX7 73 yX7_isClutch wsX7_isClutch) := goodIn_app (goodIn_of _ (by decide +kernel)) ggX7_clutch_X7_isClutch
set_option maxRecDepth 20000 in
theorem ggX7_clutch_X7_in : GoodIn wsX7_clutch wsX7_in := goodIn_r _ [7] (by decide +kernel) (by decide +kernel)
set_option maxRecDepth 20000 in
theorem gX7_clutch_X7_in : GoodIn wsX7_clutch (va_wsS RX7 55 yX7_in wsX7_in) := goodIn_app (goodIn_of _ (by decide +kernel)) ggX7_clutch_X7_in
set_option maxRecDepth 20000 in
theorem ggX7_clutch_X7_ofClutch : GoodIn wsX7_clutch wsX7_ofClutch := goodIn_r _ [11, 12, 18, 19, 20, 21, 22, 23, 24, 25, 26, 27, 28, 29, 30, 31, 32, 33, 34, 35, 36, 37, 38] (by decide +kernel) (by decide +kernel)
set_option maxRecDepth 20000 in
theorem gX7_clutch_X7_ofClutch : GoodIn wsX7_clutch (wsV RX7 122 RX7 yX7_ofClutch wsX7_ofClutch) := goodIn_app (goodIn_of _ (by decide +kernel)) ggX7_clutch_X7_ofClutch
set_option maxRecDepth 20000 in
theorem ggX7_clutch_X7_refuse : GoodIn wsX7_clutch wsX7_refuse := goodIn_r _ [16, 17, 18, 19, 20, 21, 22, 23, 24, 25, 26, 27, 28, 29, 30, 31, 32, 33, 34, 35, 36, 37, 38] (by decide +kernel) (by decide +kernel)
set_option maxRecDepth 20000 in
theorem gX7_clutch_X7_refuse : GoodIn wsX7_clutch (wsV RX7 48 RX7 yX7_refuse wsX7_refuse) := goodIn_app (goodIn_of _ (by decide +kernel)) ggX7_clutch_X7_refuse
theorem dX7_clutch_0 : decode cX7_clutch 0 = .ok (.iload_n 1, 1) := by decide +kernel
theorem dX7_clutch_1 : decode cX7_clutch 1 = .ok (.invokestatic 73, 3) := by decide +kernel
theorem dX7_clutch_4 : decode cX7_clutch 4 = .ok (.ifCond .eq 21, 3) := by decide +kernel
theorem dX7_clutch_7 : decode cX7_clutch 7 = .ok (.iload_n 2, 1) := by decide +kernel
theorem dX7_clutch_8 : decode cX7_clutch 8 = .ok (.iconst 0, 1) := by decide +kernel
theorem dX7_clutch_9 : decode cX7_clutch 9 = .ok (.iconst 3, 1) := by decide +kernel
theorem dX7_clutch_10 : decode cX7_clutch 10 = .ok (.invokestatic 55, 3) := by decide +kernel
theorem dX7_clutch_13 : decode cX7_clutch 13 = .ok (.ifCond .eq 12, 3) := by decide +kernel
theorem dX7_clutch_16 : decode cX7_clutch 16 = .ok (.aload_n 0, 1) := by decide +kernel
theorem dX7_clutch_17 : decode cX7_clutch 17 = .ok (.iload_n 1, 1) := by decide +kernel
theorem dX7_clutch_18 : decode cX7_clutch 18 = .ok (.iload_n 2, 1) := by decide +kernel
theorem dX7_clutch_19 : decode cX7_clutch 19 = .ok (.invokevirtual 122, 3) := by decide +kernel
theorem dX7_clutch_22 : decode cX7_clutch 22 = .ok (.goto 9, 3) := by decide +kernel
theorem dX7_clutch_25 : decode cX7_clutch 25 = .ok (.aload_n 0, 1) := by decide +kernel
theorem dX7_clutch_26 : decode cX7_clutch 26 = .ok (.bipush (-2), 2) := by decide +kernel
theorem dX7_clutch_28 : decode cX7_clutch 28 = .ok (.invokevirtual 48, 3) := by decide +kernel
theorem dX7_clutch_31 : decode cX7_clutch 31 = .ok (.ireturn, 1) := by decide +kernel
set_option maxRecDepth 20000 in
theorem ggX7_ties_X7_in : GoodIn wsX7_ties wsX7_in := goodIn_r _ [5] (by decide +kernel) (by decide +kernel)
set_option maxRecDepth 20000 in
theorem gX7_ties_X7_in : GoodIn wsX7_ties (va_wsS RX7 55 yX7_in wsX7_in) := goodIn_app (goodIn_of _ (by decide +kernel)) ggX7_ties_X7_in
set_option maxRecDepth 20000 in
theorem ggX7_ties_X7_refuse : GoodIn wsX7_ties wsX7_refuse := goodIn_r _ [9, 10, 11, 12, 13, 14, 15, 16, 17, 18, 19, 20, 21, 22, 23, 24, 25, 26, 27, 28, 29, 30, 31] (by decide +kernel) (by decide +kernel)
set_option maxRecDepth 20000 in
theorem gX7_ties_X7_refuse : GoodIn wsX7_ties (wsV RX7 48 RX7 yX7_refuse wsX7_refuse) := goodIn_app (goodIn_of _ (by decide +kernel)) ggX7_ties_X7_refuse
theorem dX7_ties_0 : decode cX7_ties 0 = .ok (.iload_n 1, 1) := by decide +kernel
theorem dX7_ties_1 : decode cX7_ties 1 = .ok (.iconst 0, 1) := by decide +kernel
theorem dX7_ties_2 : decode cX7_ties 2 = .ok (.bipush 31, 2) := by decide +kernel
theorem dX7_ties_4 : decode cX7_ties 4 = .ok (.invokestatic 55, 3) := by decide +kernel
theorem dX7_ties_7 : decode cX7_ties 7 = .ok (.ifCond .ne 10, 3) := by decide +kernel
theorem dX7_ties_10 : decode cX7_ties 10 = .ok (.aload_n 0, 1) := by decide +kernel
theorem dX7_ties_11 : decode cX7_ties 11 = .ok (.bipush (-2), 2) := by decide +kernel
theorem dX7_ties_13 : decode cX7_ties 13 = .ok (.invokevirtual 48, 3) := by decide +kernel
theorem dX7_ties_16 : decode cX7_ties 16 = .ok (.ireturn, 1) := by decide +kernel
theorem dX7_ties_17 : decode cX7_ties 17 = .ok (.iconst 0, 1) := by decide +kernel
theorem dX7_ties_18 : decode cX7_ties 18 = .ok (.istore_n 2, 1) := by decide +kernel
theorem dX7_ties_19 : decode cX7_ties 19 = .ok (.iconst 1, 1) := by decide +kernel
theorem dX7_ties_20 : decode cX7_ties 20 = .ok (.istore_n 3, 1) := by decide +kernel
theorem dX7_ties_21 : decode cX7_ties 21 = .ok (.iload_n 3, 1) := by decide +kernel
theorem dX7_ties_22 : decode cX7_ties 22 = .ok (.bipush 7, 2) := by decide +kernel
theorem dX7_ties_24 : decode cX7_ties 24 = .ok (.if_icmp .gt 43, 3) := by decide +kernel
theorem dX7_ties_27 : decode cX7_ties 27 = .ok (.iload_n 2, 1) := by decide +kernel
theorem dX7_ties_28 : decode cX7_ties 28 = .ok (.aload_n 0, 1) := by decide +kernel
theorem dX7_ties_29 : decode cX7_ties 29 = .ok (.getfield 7, 3) := by decide +kernel
theorem dX7_ties_32 : decode cX7_ties 32 = .ok (.iconst 0, 1) := by decide +kernel
theorem dX7_ties_33 : decode cX7_ties 33 = .ok (.iload_n 3, 1) := by decide +kernel
theorem dX7_ties_34 : decode cX7_ties 34 = .ok (.iadd, 1) := by decide +kernel
theorem dX7_ties_35 : decode cX7_ties 35 = .ok (.iaload, 1) := by decide +kernel
theorem dX7_ties_36 : decode cX7_ties 36 = .ok (.ifCond .eq 22, 3) := by decide +kernel
theorem dX7_ties_39 : decode cX7_ties 39 = .ok (.aload_n 0, 1) := by decide +kernel
theorem dX7_ties_40 : decode cX7_ties 40 = .ok (.getfield 7, 3) := by decide +kernel
theorem dX7_ties_43 : decode cX7_ties 43 = .ok (.iconst 0, 1) := by decide +kernel
theorem dX7_ties_44 : decode cX7_ties 44 = .ok (.iload_n 3, 1) := by decide +kernel
theorem dX7_ties_45 : decode cX7_ties 45 = .ok (.iadd, 1) := by decide +kernel
theorem dX7_ties_46 : decode cX7_ties 46 = .ok (.iaload, 1) := by decide +kernel
theorem dX7_ties_47 : decode cX7_ties 47 = .ok (.iload_n 1, 1) := by decide +kernel
theorem dX7_ties_48 : decode cX7_ties 48 = .ok (.iconst (-1), 1) := by decide +kernel
theorem dX7_ties_49 : decode cX7_ties 49 = .ok (.ixor, 1) := by decide +kernel
theorem dX7_ties_50 : decode cX7_ties 50 = .ok (.iand, 1) := by decide +kernel
theorem dX7_ties_51 : decode cX7_ties 51 = .ok (.ifCond .ne 7, 3) := by decide +kernel
theorem dX7_ties_54 : decode cX7_ties 54 = .ok (.iconst 1, 1) := by decide +kernel
theorem dX7_ties_55 : decode cX7_ties 55 = .ok (.goto 4, 3) := by decide +kernel
theorem dX7_ties_58 : decode cX7_ties 58 = .ok (.iconst 0, 1) := by decide +kernel
theorem dX7_ties_59 : decode cX7_ties 59 = .ok (.iadd, 1) := by decide +kernel
theorem dX7_ties_60 : decode cX7_ties 60 = .ok (.istore_n 2, 1) := by decide +kernel
theorem dX7_ties_61 : decode cX7_ties 61 = .ok (.iinc 3 1, 3) := by decide +kernel
theorem dX7_ties_64 : decode cX7_ties 64 = .ok (.goto (-43), 3) := by decide +kernel
theorem dX7_ties_67 : decode cX7_ties 67 = .ok (.iload_n 2, 1) := by decide +kernel
theorem dX7_ties_68 : decode cX7_ties 68 = .ok (.iconst 1, 1) := by decide +kernel
theorem dX7_ties_69 : decode cX7_ties 69 = .ok (.if_icmp .le 7, 3) := by decide +kernel
theorem dX7_ties_72 : decode cX7_ties 72 = .ok (.iconst 1, 1) := by decide +kernel
theorem dX7_ties_73 : decode cX7_ties 73 = .ok (.goto 4, 3) := by decide +kernel
theorem dX7_ties_76 : decode cX7_ties 76 = .ok (.iconst 0, 1) := by decide +kernel
theorem dX7_ties_77 : decode cX7_ties 77 = .ok (.ireturn, 1) := by decide +kernel
set_option maxRecDepth 20000 in
theorem ggX7_areTwo_X7_isGear : GoodIn wsX7_areTwo wsX7_isGear := goodIn_r _ [4, 5, 6, 3, 7] (by decide +kernel) (by decide +kernel)
set_option maxRecDepth 20000 in
theorem gX7_areTwo_X7_isGear : GoodIn wsX7_areTwo (va_wsS RX7 63 yX7_isGear wsX7_isGear) := goodIn_app (goodIn_of _ (by decide +kernel)) ggX7_areTwo_X7_isGear
theorem dX7_areTwo_0 : decode cX7_areTwo 0 = .ok (.iload_n 0, 1) := by decide +kernel
theorem dX7_areTwo_1 : decode cX7_areTwo 1 = .ok (.invokestatic 63, 3) := by decide +kernel
theorem dX7_areTwo_4 : decode cX7_areTwo 4 = .ok (.ifCond .eq 19, 3) := by decide +kernel
theorem dX7_areTwo_7 : decode cX7_areTwo 7 = .ok (.iload_n 1, 1) := by decide +kernel
theorem dX7_areTwo_8 : decode cX7_areTwo 8 = .ok (.invokestatic 63, 3) := by decide +kernel
theorem dX7_areTwo_11 : decode cX7_areTwo 11 = .ok (.ifCond .eq 12, 3) := by decide +kernel
theorem dX7_areTwo_14 : decode cX7_areTwo 14 = .ok (.iload_n 0, 1) := by decide +kernel
theorem dX7_areTwo_15 : decode cX7_areTwo 15 = .ok (.iload_n 1, 1) := by decide +kernel
theorem dX7_areTwo_16 : decode cX7_areTwo 16 = .ok (.if_icmp .eq 7, 3) := by decide +kernel
theorem dX7_areTwo_19 : decode cX7_areTwo 19 = .ok (.iconst 1, 1) := by decide +kernel
theorem dX7_areTwo_20 : decode cX7_areTwo 20 = .ok (.goto 4, 3) := by decide +kernel
theorem dX7_areTwo_23 : decode cX7_areTwo 23 = .ok (.iconst 0, 1) := by decide +kernel
theorem dX7_areTwo_24 : decode cX7_areTwo 24 = .ok (.ireturn, 1) := by decide +kernel
set_option maxRecDepth 20000 in
theorem ggX7_simple_X7_areTwo : GoodIn wsX7_simple wsX7_areTwo := goodIn_r _ [4, 5, 6, 3, 7, 8, 9, 10] (by decide +kernel) (by decide +kernel)
set_option maxRecDepth 20000 in
theorem gX7_simple_X7_areTwo : GoodIn wsX7_simple (va_wsS RX7 125 yX7_areTwo wsX7_areTwo) := goodIn_app (goodIn_of _ (by decide +kernel)) ggX7_simple_X7_areTwo
set_option maxRecDepth 20000 in
theorem ggX7_simple_X7_in : GoodIn wsX7_simple wsX7_in := goodIn_r _ [10] (by decide +kernel) (by decide +kernel)
set_option maxRecDepth 20000 in
theorem gX7_simple_X7_in : GoodIn wsX7_simple (va_wsS RX7 55 yX7_in wsX7_in) := goodIn_app (goodIn_of _ (by decide +kernel)) ggX7_simple_X7_in
set_option maxRecDepth 20000 in
theorem ggX7_simple_X7_refuse : GoodIn wsX7_simple wsX7_refuse := goodIn_r _ [14, 15, 35, 36, 37, 38, 39, 40, 41, 42, 43, 44, 45, 46, 47, 48, 49, 50, 51, 52, 53, 54, 55] (by decide +kernel) (by decide +kernel)
set_option maxRecDepth 20000 in
theorem gX7_simple_X7_refuse : GoodIn wsX7_simple (wsV RX7 48 RX7 yX7_refuse wsX7_refuse) := goodIn_app (goodIn_of _ (by decide +kernel)) ggX7_simple_X7_refuse
set_option maxRecDepth 20000 in
theorem ggX7_simple_X7_areSimple : GoodIn wsX7_simple wsX7_areSimple := goodIn_r _ [19, 20, 21, 22, 23, 3, 24, 25, 26, 27, 35, 36, 37, 38, 39, 40, 41, 42, 43, 44, 45, 46, 47, 48, 49, 50, 51, 52, 53, 54, 55] (by decide +kernel) (by decide +kernel)
set_option maxRecDepth 20000 in
theorem gX7_simple_X7_areSimple : GoodIn wsX7_simple (wsV RX7 109 RX7 yX7_areSimple wsX7_areSimple) := goodIn_app (goodIn_of _ (by decide +kernel)) ggX7_simple_X7_areSimple
set_option maxRecDepth 20000 in
theorem ggX7_simple_X7_coming : GoodIn wsX7_simple wsX7_coming := goodIn_r _ [31, 20, 32, 33, 3, 34, 35, 36, 37, 38, 39, 40, 41, 42, 43, 44, 45, 46, 47, 48, 49, 50, 51, 52, 53, 54, 55] (by decide +kernel) (by decide +kernel)
set_option maxRecDepth 20000 in
theorem gX7_simple_X7_coming : GoodIn wsX7_simple (wsV RX7 128 RX7 yX7_coming wsX7_coming) := goodIn_app (goodIn_of _ (by decide +kernel)) ggX7_simple_X7_coming
theorem dX7_simple_0 : decode cX7_simple 0 = .ok (.iload_n 1, 1) := by decide +kernel
theorem dX7_simple_1 : decode cX7_simple 1 = .ok (.iload_n 2, 1) := by decide +kernel
theorem dX7_simple_2 : decode cX7_simple 2 = .ok (.invokestatic 125, 3) := by decide +kernel
theorem dX7_simple_5 : decode cX7_simple 5 = .ok (.ifCond .eq 12, 3) := by decide +kernel
theorem dX7_simple_8 : decode cX7_simple 8 = .ok (.iload_n 3, 1) := by decide +kernel
theorem dX7_simple_9 : decode cX7_simple 9 = .ok (.iconst 0, 1) := by decide +kernel
theorem dX7_simple_10 : decode cX7_simple 10 = .ok (.iconst 2, 1) := by decide +kernel
theorem dX7_simple_11 : decode cX7_simple 11 = .ok (.invokestatic 55, 3) := by decide +kernel
theorem dX7_simple_14 : decode cX7_simple 14 = .ok (.ifCond .ne 10, 3) := by decide +kernel
theorem dX7_simple_17 : decode cX7_simple 17 = .ok (.aload_n 0, 1) := by decide +kernel
theorem dX7_simple_18 : decode cX7_simple 18 = .ok (.bipush (-2), 2) := by decide +kernel
theorem dX7_simple_20 : decode cX7_simple 20 = .ok (.invokevirtual 48, 3) := by decide +kernel
theorem dX7_simple_23 : decode cX7_simple 23 = .ok (.ireturn, 1) := by decide +kernel
theorem dX7_simple_24 : decode cX7_simple 24 = .ok (.aload_n 0, 1) := by decide +kernel
theorem dX7_simple_25 : decode cX7_simple 25 = .ok (.iload_n 1, 1) := by decide +kernel
theorem dX7_simple_26 : decode cX7_simple 26 = .ok (.iload_n 2, 1) := by decide +kernel
theorem dX7_simple_27 : decode cX7_simple 27 = .ok (.invokevirtual 109, 3) := by decide +kernel
theorem dX7_simple_30 : decode cX7_simple 30 = .ok (.istore 4, 2) := by decide +kernel
theorem dX7_simple_32 : decode cX7_simple 32 = .ok (.iload_n 3, 1) := by decide +kernel
theorem dX7_simple_33 : decode cX7_simple 33 = .ok (.ifCond .ne 16, 3) := by decide +kernel
theorem dX7_simple_36 : decode cX7_simple 36 = .ok (.iload 4, 2) := by decide +kernel
theorem dX7_simple_38 : decode cX7_simple 38 = .ok (.ifCond .eq 7, 3) := by decide +kernel
theorem dX7_simple_41 : decode cX7_simple 41 = .ok (.iconst 1, 1) := by decide +kernel
theorem dX7_simple_42 : decode cX7_simple 42 = .ok (.goto 36, 3) := by decide +kernel
theorem dX7_simple_45 : decode cX7_simple 45 = .ok (.iconst 0, 1) := by decide +kernel
theorem dX7_simple_46 : decode cX7_simple 46 = .ok (.goto 32, 3) := by decide +kernel
theorem dX7_simple_49 : decode cX7_simple 49 = .ok (.iload 4, 2) := by decide +kernel
theorem dX7_simple_51 : decode cX7_simple 51 = .ok (.ifCond .ne 7, 3) := by decide +kernel
theorem dX7_simple_54 : decode cX7_simple 54 = .ok (.iconst (-1), 1) := by decide +kernel
theorem dX7_simple_55 : decode cX7_simple 55 = .ok (.goto 23, 3) := by decide +kernel
theorem dX7_simple_58 : decode cX7_simple 58 = .ok (.iload_n 3, 1) := by decide +kernel
theorem dX7_simple_59 : decode cX7_simple 59 = .ok (.iconst 1, 1) := by decide +kernel
theorem dX7_simple_60 : decode cX7_simple 60 = .ok (.if_icmp .ne 12, 3) := by decide +kernel
theorem dX7_simple_63 : decode cX7_simple 63 = .ok (.aload_n 0, 1) := by decide +kernel
theorem dX7_simple_64 : decode cX7_simple 64 = .ok (.iload_n 1, 1) := by decide +kernel
theorem dX7_simple_65 : decode cX7_simple 65 = .ok (.iload_n 2, 1) := by decide +kernel
theorem dX7_simple_66 : decode cX7_simple 66 = .ok (.invokevirtual 128, 3) := by decide +kernel
theorem dX7_simple_69 : decode cX7_simple 69 = .ok (.goto 9, 3) := by decide +kernel
theorem dX7_simple_72 : decode cX7_simple 72 = .ok (.aload_n 0, 1) := by decide +kernel
theorem dX7_simple_73 : decode cX7_simple 73 = .ok (.iload_n 2, 1) := by decide +kernel
theorem dX7_simple_74 : decode cX7_simple 74 = .ok (.iload_n 1, 1) := by decide +kernel
theorem dX7_simple_75 : decode cX7_simple 75 = .ok (.invokevirtual 128, 3) := by decide +kernel
theorem dX7_simple_78 : decode cX7_simple 78 = .ok (.ireturn, 1) := by decide +kernel
set_option maxRecDepth 20000 in
theorem ggX7_way_X7_areTwo : GoodIn wsX7_way wsX7_areTwo := goodIn_r _ [6, 7, 8, 5, 9, 10, 11, 12] (by decide +kernel) (by decide +kernel)
set_option maxRecDepth 20000 in
theorem gX7_way_X7_areTwo : GoodIn wsX7_way (va_wsS RX7 125 yX7_areTwo wsX7_areTwo) := goodIn_app (goodIn_of _ (by decide +kernel)) ggX7_way_X7_areTwo
set_option maxRecDepth 20000 in
theorem ggX7_way_X7_refuse : GoodIn wsX7_way wsX7_refuse := goodIn_r _ [16, 17, 35, 36, 37, 38, 39, 40, 41, 42, 43, 44, 45, 46, 47, 48, 49, 50, 51, 52, 53, 54, 55] (by decide +kernel) (by decide +kernel)
set_option maxRecDepth 20000 in
theorem gX7_way_X7_refuse : GoodIn wsX7_way (wsV RX7 48 RX7 yX7_refuse wsX7_refuse) := goodIn_app (goodIn_of _ (by decide +kernel)) ggX7_way_X7_refuse
set_option maxRecDepth 20000 in
theorem ggX7_way_X7_isFit : GoodIn wsX7_way wsX7_isFit := goodIn_r _ [21, 22, 35, 36, 37, 38, 39, 40, 41, 42, 43, 44, 45, 46, 47, 48, 49, 50, 51, 52, 53, 54, 55] (by decide +kernel) (by decide +kernel)
set_option maxRecDepth 20000 in
theorem gX7_way_X7_isFit : GoodIn wsX7_way (wsV RX7 59 RX7 yX7_isFit wsX7_isFit) := goodIn_app (goodIn_of _ (by decide +kernel)) ggX7_way_X7_isFit
set_option maxRecDepth 20000 in
theorem ggX7_way_X7_findWay : GoodIn wsX7_way wsX7_findWay := goodIn_r _ [26, 27, 1, 2, 28, 29, 30, 5, 31, 22, 18, 19, 20, 21, 32, 33, 34, 35, 36, 37, 38, 39, 40, 41, 42, 43, 44, 45, 46, 47, 48, 49, 50, 51, 52, 53, 54, 55] (by decide +kernel) (by decide +kernel)
set_option maxRecDepth 20000 in
theorem gX7_way_X7_findWay : GoodIn wsX7_way (wsV RX7 131 RX7 yX7_findWay wsX7_findWay) := goodIn_app (goodIn_of _ (by decide +kernel)) ggX7_way_X7_findWay
theorem dX7_way_0 : decode cX7_way 0 = .ok (.iload_n 1, 1) := by decide +kernel
theorem dX7_way_1 : decode cX7_way 1 = .ok (.iload_n 2, 1) := by decide +kernel
theorem dX7_way_2 : decode cX7_way 2 = .ok (.invokestatic 125, 3) := by decide +kernel
theorem dX7_way_5 : decode cX7_way 5 = .ok (.ifCond .eq 8, 3) := by decide +kernel
theorem dX7_way_8 : decode cX7_way 8 = .ok (.iload_n 3, 1) := by decide +kernel
theorem dX7_way_9 : decode cX7_way 9 = .ok (.iconst (-1), 1) := by decide +kernel
theorem dX7_way_10 : decode cX7_way 10 = .ok (.if_icmp .ge 10, 3) := by decide +kernel
theorem dX7_way_13 : decode cX7_way 13 = .ok (.aload_n 0, 1) := by decide +kernel
theorem dX7_way_14 : decode cX7_way 14 = .ok (.bipush (-2), 2) := by decide +kernel
theorem dX7_way_16 : decode cX7_way 16 = .ok (.invokevirtual 48, 3) := by decide +kernel
theorem dX7_way_19 : decode cX7_way 19 = .ok (.ireturn, 1) := by decide +kernel
theorem dX7_way_20 : decode cX7_way 20 = .ok (.aload_n 0, 1) := by decide +kernel
theorem dX7_way_21 : decode cX7_way 21 = .ok (.iload_n 1, 1) := by decide +kernel
theorem dX7_way_22 : decode cX7_way 22 = .ok (.invokevirtual 59, 3) := by decide +kernel
theorem dX7_way_25 : decode cX7_way 25 = .ok (.ifCond .eq 11, 3) := by decide +kernel
theorem dX7_way_28 : decode cX7_way 28 = .ok (.aload_n 0, 1) := by decide +kernel
theorem dX7_way_29 : decode cX7_way 29 = .ok (.iload_n 2, 1) := by decide +kernel
theorem dX7_way_30 : decode cX7_way 30 = .ok (.invokevirtual 59, 3) := by decide +kernel
theorem dX7_way_33 : decode cX7_way 33 = .ok (.ifCond .ne 10, 3) := by decide +kernel
theorem dX7_way_36 : decode cX7_way 36 = .ok (.aload_n 0, 1) := by decide +kernel
theorem dX7_way_37 : decode cX7_way 37 = .ok (.bipush (-3), 2) := by decide +kernel
theorem dX7_way_39 : decode cX7_way 39 = .ok (.invokevirtual 48, 3) := by decide +kernel
theorem dX7_way_42 : decode cX7_way 42 = .ok (.ireturn, 1) := by decide +kernel
theorem dX7_way_43 : decode cX7_way 43 = .ok (.aload_n 0, 1) := by decide +kernel
theorem dX7_way_44 : decode cX7_way 44 = .ok (.iload_n 1, 1) := by decide +kernel
theorem dX7_way_45 : decode cX7_way 45 = .ok (.iload_n 2, 1) := by decide +kernel
theorem dX7_way_46 : decode cX7_way 46 = .ok (.invokevirtual 131, 3) := by decide +kernel
theorem dX7_way_49 : decode cX7_way 49 = .ok (.aload_n 0, 1) := by decide +kernel
theorem dX7_way_50 : decode cX7_way 50 = .ok (.getfield 113, 3) := by decide +kernel
theorem dX7_way_53 : decode cX7_way 53 = .ok (.ifCond .eq 11, 3) := by decide +kernel
theorem dX7_way_56 : decode cX7_way 56 = .ok (.iload_n 3, 1) := by decide +kernel
theorem dX7_way_57 : decode cX7_way 57 = .ok (.aload_n 0, 1) := by decide +kernel
theorem dX7_way_58 : decode cX7_way 58 = .ok (.getfield 113, 3) := by decide +kernel
theorem dX7_way_61 : decode cX7_way 61 = .ok (.if_icmp .lt 8, 3) := by decide +kernel
theorem dX7_way_64 : decode cX7_way 64 = .ok (.bipush (-5), 2) := by decide +kernel
theorem dX7_way_66 : decode cX7_way 66 = .ok (.goto 21, 3) := by decide +kernel
theorem dX7_way_69 : decode cX7_way 69 = .ok (.iload_n 3, 1) := by decide +kernel
theorem dX7_way_70 : decode cX7_way 70 = .ok (.iconst (-1), 1) := by decide +kernel
theorem dX7_way_71 : decode cX7_way 71 = .ok (.if_icmp .ne 10, 3) := by decide +kernel
theorem dX7_way_74 : decode cX7_way 74 = .ok (.aload_n 0, 1) := by decide +kernel
theorem dX7_way_75 : decode cX7_way 75 = .ok (.getfield 113, 3) := by decide +kernel
theorem dX7_way_78 : decode cX7_way 78 = .ok (.goto 9, 3) := by decide +kernel
theorem dX7_way_81 : decode cX7_way 81 = .ok (.aload_n 0, 1) := by decide +kernel
theorem dX7_way_82 : decode cX7_way 82 = .ok (.getfield 41, 3) := by decide +kernel
theorem dX7_way_85 : decode cX7_way 85 = .ok (.iload_n 3, 1) := by decide +kernel
theorem dX7_way_86 : decode cX7_way 86 = .ok (.iaload, 1) := by decide +kernel
theorem dX7_way_87 : decode cX7_way 87 = .ok (.ireturn, 1) := by decide +kernel
theorem dX7_share_0 : decode cX7_share 0 = .ok (.sipush 1000, 3) := by decide +kernel
theorem dX7_share_3 : decode cX7_share 3 = .ok (.iload_n 1, 1) := by decide +kernel
theorem dX7_share_4 : decode cX7_share 4 = .ok (.imul, 1) := by decide +kernel
theorem dX7_share_5 : decode cX7_share 5 = .ok (.aload_n 0, 1) := by decide +kernel
theorem dX7_share_6 : decode cX7_share 6 = .ok (.getfield 7, 3) := by decide +kernel
theorem dX7_share_9 : decode cX7_share 9 = .ok (.bipush 41, 2) := by decide +kernel
theorem dX7_share_11 : decode cX7_share 11 = .ok (.iaload, 1) := by decide +kernel
theorem dX7_share_12 : decode cX7_share 12 = .ok (.idiv, 1) := by decide +kernel
theorem dX7_share_13 : decode cX7_share 13 = .ok (.istore_n 2, 1) := by decide +kernel
theorem dX7_share_14 : decode cX7_share 14 = .ok (.iload_n 2, 1) := by decide +kernel
theorem dX7_share_15 : decode cX7_share 15 = .ok (.ifCond .ge 7, 3) := by decide +kernel
theorem dX7_share_18 : decode cX7_share 18 = .ok (.iconst 0, 1) := by decide +kernel
theorem dX7_share_19 : decode cX7_share 19 = .ok (.goto 17, 3) := by decide +kernel
theorem dX7_share_22 : decode cX7_share 22 = .ok (.iload_n 2, 1) := by decide +kernel
theorem dX7_share_23 : decode cX7_share 23 = .ok (.sipush 1000, 3) := by decide +kernel
theorem dX7_share_26 : decode cX7_share 26 = .ok (.if_icmp .le 9, 3) := by decide +kernel
theorem dX7_share_29 : decode cX7_share 29 = .ok (.sipush 1000, 3) := by decide +kernel
theorem dX7_share_32 : decode cX7_share 32 = .ok (.goto 4, 3) := by decide +kernel
theorem dX7_share_35 : decode cX7_share 35 = .ok (.iload_n 2, 1) := by decide +kernel
theorem dX7_share_36 : decode cX7_share 36 = .ok (.ireturn, 1) := by decide +kernel
set_option maxRecDepth 20000 in
theorem ggX7_overAt_X7_share : GoodIn wsX7_overAt wsX7_share := goodIn_r _ [6, 1, 7, 8, 9, 10, 11, 12, 13, 14, 15, 16, 17, 18, 19, 20, 21, 22, 23, 24, 25, 26, 27] (by decide +kernel) (by decide +kernel)
set_option maxRecDepth 20000 in
theorem gX7_overAt_X7_share : GoodIn wsX7_overAt (wsV RX7 135 RX7 yX7_share wsX7_share) := goodIn_app (goodIn_of _ (by decide +kernel)) ggX7_overAt_X7_share
theorem dX7_overAt_0 : decode cX7_overAt 0 = .ok (.aload_n 0, 1) := by decide +kernel
theorem dX7_overAt_1 : decode cX7_overAt 1 = .ok (.iload_n 2, 1) := by decide +kernel
theorem dX7_overAt_2 : decode cX7_overAt 2 = .ok (.aload_n 0, 1) := by decide +kernel
theorem dX7_overAt_3 : decode cX7_overAt 3 = .ok (.getfield 7, 3) := by decide +kernel
theorem dX7_overAt_6 : decode cX7_overAt 6 = .ok (.bipush 13, 2) := by decide +kernel
theorem dX7_overAt_8 : decode cX7_overAt 8 = .ok (.iload_n 1, 1) := by decide +kernel
theorem dX7_overAt_9 : decode cX7_overAt 9 = .ok (.iadd, 1) := by decide +kernel
theorem dX7_overAt_10 : decode cX7_overAt 10 = .ok (.iaload, 1) := by decide +kernel
theorem dX7_overAt_11 : decode cX7_overAt 11 = .ok (.isub, 1) := by decide +kernel
theorem dX7_overAt_12 : decode cX7_overAt 12 = .ok (.invokevirtual 135, 3) := by decide +kernel
theorem dX7_overAt_15 : decode cX7_overAt 15 = .ok (.aload_n 0, 1) := by decide +kernel
theorem dX7_overAt_16 : decode cX7_overAt 16 = .ok (.iload_n 2, 1) := by decide +kernel
theorem dX7_overAt_17 : decode cX7_overAt 17 = .ok (.aload_n 0, 1) := by decide +kernel
theorem dX7_overAt_18 : decode cX7_overAt 18 = .ok (.getfield 7, 3) := by decide +kernel
theorem dX7_overAt_21 : decode cX7_overAt 21 = .ok (.bipush 18, 2) := by decide +kernel
theorem dX7_overAt_23 : decode cX7_overAt 23 = .ok (.iload_n 1, 1) := by decide +kernel
theorem dX7_overAt_24 : decode cX7_overAt 24 = .ok (.iadd, 1) := by decide +kernel
theorem dX7_overAt_25 : decode cX7_overAt 25 = .ok (.iaload, 1) := by decide +kernel
theorem dX7_overAt_26 : decode cX7_overAt 26 = .ok (.isub, 1) := by decide +kernel
theorem dX7_overAt_27 : decode cX7_overAt 27 = .ok (.invokevirtual 135, 3) := by decide +kernel
theorem dX7_overAt_30 : decode cX7_overAt 30 = .ok (.isub, 1) := by decide +kernel
theorem dX7_overAt_31 : decode cX7_overAt 31 = .ok (.ireturn, 1) := by decide +kernel
set_option maxRecDepth 20000 in
theorem ggX7_over_X7_areTwo : GoodIn wsX7_over wsX7_areTwo := goodIn_r _ [4, 5, 6, 3, 7, 8, 9, 10] (by decide +kernel) (by decide +kernel)
set_option maxRecDepth 20000 in
theorem gX7_over_X7_areTwo : GoodIn wsX7_over (va_wsS RX7 125 yX7_areTwo wsX7_areTwo) := goodIn_app (goodIn_of _ (by decide +kernel)) ggX7_over_X7_areTwo
set_option maxRecDepth 20000 in
theorem ggX7_over_X7_in : GoodIn wsX7_over wsX7_in := goodIn_r _ [10] (by decide +kernel) (by decide +kernel)
set_option maxRecDepth 20000 in
theorem gX7_over_X7_in : GoodIn wsX7_over (va_wsS RX7 55 yX7_in wsX7_in) := goodIn_app (goodIn_of _ (by decide +kernel)) ggX7_over_X7_in
set_option maxRecDepth 20000 in
theorem ggX7_over_X7_refuse : GoodIn wsX7_over wsX7_refuse := goodIn_r _ [14, 15, 43, 44, 45, 46, 47, 48, 49, 50, 51, 52, 53, 54, 55, 56, 57, 58, 59, 60, 61, 62, 63] (by decide +kernel) (by decide +kernel)
set_option maxRecDepth 20000 in
theorem gX7_over_X7_refuse : GoodIn wsX7_over (wsV RX7 48 RX7 yX7_refuse wsX7_refuse) := goodIn_app (goodIn_of _ (by decide +kernel)) ggX7_over_X7_refuse
set_option maxRecDepth 20000 in
theorem ggX7_over_X7_areSimple : GoodIn wsX7_over wsX7_areSimple := goodIn_r _ [19, 20, 21, 22, 23, 3, 24, 25, 26, 27, 43, 44, 45, 46, 47, 48, 49, 50, 51, 52, 53, 54, 55, 56, 57, 58, 59, 60, 61, 62, 63] (by decide +kernel) (by decide +kernel)
set_option maxRecDepth 20000 in
theorem gX7_over_X7_areSimple : GoodIn wsX7_over (wsV RX7 109 RX7 yX7_areSimple wsX7_areSimple) := goodIn_app (goodIn_of _ (by decide +kernel)) ggX7_over_X7_areSimple
set_option maxRecDepth 20000 in
theorem ggX7_over_X7_coming : GoodIn wsX7_over wsX7_coming := goodIn_r _ [31, 20, 32, 33, 3, 34, 43, 44, 45, 46, 47, 48, 49, 50, 51, 52, 53, 54, 55, 56, 57, 58, 59, 60, 61, 62, 63] (by decide +kernel) (by decide +kernel)
set_option maxRecDepth 20000 in
theorem gX7_over_X7_coming : GoodIn wsX7_over (wsV RX7 128 RX7 yX7_coming wsX7_coming) := goodIn_app (goodIn_of _ (by decide +kernel)) ggX7_over_X7_coming
set_option maxRecDepth 20000 in
theorem ggX7_over_X7_overAt : GoodIn wsX7_over wsX7_overAt := goodIn_r _ [38, 20, 39, 40, 41, 3, 42, 43, 44, 45, 46, 47, 48, 49, 50, 51, 52, 53, 54, 55, 56, 57, 58, 59, 60, 61, 62, 63] (by decide +kernel) (by decide +kernel)
set_option maxRecDepth 20000 in
theorem gX7_over_X7_overAt : GoodIn wsX7_over (wsV RX7 138 RX7 yX7_overAt wsX7_overAt) := goodIn_app (goodIn_of _ (by decide +kernel)) ggX7_over_X7_overAt
theorem dX7_over_0 : decode cX7_over 0 = .ok (.iload_n 1, 1) := by decide +kernel
theorem dX7_over_1 : decode cX7_over 1 = .ok (.iload_n 2, 1) := by decide +kernel
theorem dX7_over_2 : decode cX7_over 2 = .ok (.invokestatic 125, 3) := by decide +kernel
theorem dX7_over_5 : decode cX7_over 5 = .ok (.ifCond .eq 13, 3) := by decide +kernel
theorem dX7_over_8 : decode cX7_over 8 = .ok (.iload_n 3, 1) := by decide +kernel
theorem dX7_over_9 : decode cX7_over 9 = .ok (.iconst 0, 1) := by decide +kernel
theorem dX7_over_10 : decode cX7_over 10 = .ok (.bipush 40, 2) := by decide +kernel
theorem dX7_over_12 : decode cX7_over 12 = .ok (.invokestatic 55, 3) := by decide +kernel
theorem dX7_over_15 : decode cX7_over 15 = .ok (.ifCond .ne 10, 3) := by decide +kernel
theorem dX7_over_18 : decode cX7_over 18 = .ok (.aload_n 0, 1) := by decide +kernel
theorem dX7_over_19 : decode cX7_over 19 = .ok (.bipush (-2), 2) := by decide +kernel
theorem dX7_over_21 : decode cX7_over 21 = .ok (.invokevirtual 48, 3) := by decide +kernel
theorem dX7_over_24 : decode cX7_over 24 = .ok (.ireturn, 1) := by decide +kernel
theorem dX7_over_25 : decode cX7_over 25 = .ok (.aload_n 0, 1) := by decide +kernel
theorem dX7_over_26 : decode cX7_over 26 = .ok (.iload_n 1, 1) := by decide +kernel
theorem dX7_over_27 : decode cX7_over 27 = .ok (.iload_n 2, 1) := by decide +kernel
theorem dX7_over_28 : decode cX7_over 28 = .ok (.invokevirtual 109, 3) := by decide +kernel
theorem dX7_over_31 : decode cX7_over 31 = .ok (.ifCond .eq 21, 3) := by decide +kernel
theorem dX7_over_34 : decode cX7_over 34 = .ok (.aload_n 0, 1) := by decide +kernel
theorem dX7_over_35 : decode cX7_over 35 = .ok (.aload_n 0, 1) := by decide +kernel
theorem dX7_over_36 : decode cX7_over 36 = .ok (.iload_n 1, 1) := by decide +kernel
theorem dX7_over_37 : decode cX7_over 37 = .ok (.iload_n 2, 1) := by decide +kernel
theorem dX7_over_38 : decode cX7_over 38 = .ok (.invokevirtual 128, 3) := by decide +kernel
theorem dX7_over_41 : decode cX7_over 41 = .ok (.iload_n 3, 1) := by decide +kernel
theorem dX7_over_42 : decode cX7_over 42 = .ok (.invokevirtual 138, 3) := by decide +kernel
theorem dX7_over_45 : decode cX7_over 45 = .ok (.sipush 1000, 3) := by decide +kernel
theorem dX7_over_48 : decode cX7_over 48 = .ok (.iadd, 1) := by decide +kernel
theorem dX7_over_49 : decode cX7_over 49 = .ok (.goto 9, 3) := by decide +kernel
theorem dX7_over_52 : decode cX7_over 52 = .ok (.aload_n 0, 1) := by decide +kernel
theorem dX7_over_53 : decode cX7_over 53 = .ok (.bipush (-3), 2) := by decide +kernel
theorem dX7_over_55 : decode cX7_over 55 = .ok (.invokevirtual 48, 3) := by decide +kernel
theorem dX7_over_58 : decode cX7_over 58 = .ok (.ireturn, 1) := by decide +kernel
set_option maxRecDepth 20000 in
theorem ggX7_worstOf_X7_overAt : GoodIn wsX7_worstOf wsX7_overAt := goodIn_r _ [5, 6, 7, 8, 9, 4, 10, 11, 12, 13, 14, 15, 16, 17, 18, 19, 20, 21, 22, 23, 24, 25, 26, 27, 28, 29, 30, 31] (by decide +kernel) (by decide +kernel)
set_option maxRecDepth 20000 in
theorem gX7_worstOf_X7_overAt : GoodIn wsX7_worstOf (wsV RX7 138 RX7 yX7_overAt wsX7_overAt) := goodIn_app (goodIn_of _ (by decide +kernel)) ggX7_worstOf_X7_overAt
theorem dX7_worstOf_0 : decode cX7_worstOf 0 = .ok (.iconst 0, 1) := by decide +kernel
theorem dX7_worstOf_1 : decode cX7_worstOf 1 = .ok (.istore_n 3, 1) := by decide +kernel
theorem dX7_worstOf_2 : decode cX7_worstOf 2 = .ok (.iconst 0, 1) := by decide +kernel
theorem dX7_worstOf_3 : decode cX7_worstOf 3 = .ok (.istore 4, 2) := by decide +kernel
theorem dX7_worstOf_5 : decode cX7_worstOf 5 = .ok (.iload 4, 2) := by decide +kernel
theorem dX7_worstOf_7 : decode cX7_worstOf 7 = .ok (.bipush 40, 2) := by decide +kernel
theorem dX7_worstOf_9 : decode cX7_worstOf 9 = .ok (.if_icmp .gt 46, 3) := by decide +kernel
theorem dX7_worstOf_12 : decode cX7_worstOf 12 = .ok (.iload_n 2, 1) := by decide +kernel
theorem dX7_worstOf_13 : decode cX7_worstOf 13 = .ok (.ifCond .ne 14, 3) := by decide +kernel
theorem dX7_worstOf_16 : decode cX7_worstOf 16 = .ok (.aload_n 0, 1) := by decide +kernel
theorem dX7_worstOf_17 : decode cX7_worstOf 17 = .ok (.iload_n 1, 1) := by decide +kernel
theorem dX7_worstOf_18 : decode cX7_worstOf 18 = .ok (.iload 4, 2) := by decide +kernel
theorem dX7_worstOf_20 : decode cX7_worstOf 20 = .ok (.invokevirtual 138, 3) := by decide +kernel
theorem dX7_worstOf_23 : decode cX7_worstOf 23 = .ok (.ineg, 1) := by decide +kernel
theorem dX7_worstOf_24 : decode cX7_worstOf 24 = .ok (.goto 10, 3) := by decide +kernel
theorem dX7_worstOf_27 : decode cX7_worstOf 27 = .ok (.aload_n 0, 1) := by decide +kernel
theorem dX7_worstOf_28 : decode cX7_worstOf 28 = .ok (.iload_n 1, 1) := by decide +kernel
theorem dX7_worstOf_29 : decode cX7_worstOf 29 = .ok (.iload 4, 2) := by decide +kernel
theorem dX7_worstOf_31 : decode cX7_worstOf 31 = .ok (.invokevirtual 138, 3) := by decide +kernel
theorem dX7_worstOf_34 : decode cX7_worstOf 34 = .ok (.istore 5, 2) := by decide +kernel
theorem dX7_worstOf_36 : decode cX7_worstOf 36 = .ok (.iload 5, 2) := by decide +kernel
theorem dX7_worstOf_38 : decode cX7_worstOf 38 = .ok (.iload_n 3, 1) := by decide +kernel
theorem dX7_worstOf_39 : decode cX7_worstOf 39 = .ok (.if_icmp .le 8, 3) := by decide +kernel
theorem dX7_worstOf_42 : decode cX7_worstOf 42 = .ok (.iload 5, 2) := by decide +kernel
theorem dX7_worstOf_44 : decode cX7_worstOf 44 = .ok (.goto 4, 3) := by decide +kernel
theorem dX7_worstOf_47 : decode cX7_worstOf 47 = .ok (.iload_n 3, 1) := by decide +kernel
theorem dX7_worstOf_48 : decode cX7_worstOf 48 = .ok (.istore_n 3, 1) := by decide +kernel
theorem dX7_worstOf_49 : decode cX7_worstOf 49 = .ok (.iinc 4 1, 3) := by decide +kernel
theorem dX7_worstOf_52 : decode cX7_worstOf 52 = .ok (.goto (-47), 3) := by decide +kernel
theorem dX7_worstOf_55 : decode cX7_worstOf 55 = .ok (.iload_n 3, 1) := by decide +kernel
theorem dX7_worstOf_56 : decode cX7_worstOf 56 = .ok (.ireturn, 1) := by decide +kernel
set_option maxRecDepth 20000 in
theorem ggX7_worst_X7_areTwo : GoodIn wsX7_worst wsX7_areTwo := goodIn_r _ [4, 5, 6, 3, 7, 8, 9, 10] (by decide +kernel) (by decide +kernel)
set_option maxRecDepth 20000 in
theorem gX7_worst_X7_areTwo : GoodIn wsX7_worst (va_wsS RX7 125 yX7_areTwo wsX7_areTwo) := goodIn_app (goodIn_of _ (by decide +kernel)) ggX7_worst_X7_areTwo
set_option maxRecDepth 20000 in
theorem ggX7_worst_X7_in : GoodIn wsX7_worst wsX7_in := goodIn_r _ [10] (by decide +kernel) (by decide +kernel)
set_option maxRecDepth 20000 in
theorem gX7_worst_X7_in : GoodIn wsX7_worst (va_wsS RX7 55 yX7_in wsX7_in) := goodIn_app (goodIn_of _ (by decide +kernel)) ggX7_worst_X7_in
set_option maxRecDepth 20000 in
theorem ggX7_worst_X7_refuse : GoodIn wsX7_worst wsX7_refuse := goodIn_r _ [14, 15, 47, 48, 49, 50, 51, 52, 53, 54, 55, 56, 57, 58, 59, 60, 61, 62, 63, 64, 65, 66, 67] (by decide +kernel) (by decide +kernel)
set_option maxRecDepth 20000 in
theorem gX7_worst_X7_refuse : GoodIn wsX7_worst (wsV RX7 48 RX7 yX7_refuse wsX7_refuse) := goodIn_app (goodIn_of _ (by decide +kernel)) ggX7_worst_X7_refuse
set_option maxRecDepth 20000 in
theorem ggX7_worst_X7_areSimple : GoodIn wsX7_worst wsX7_areSimple := goodIn_r _ [19, 20, 21, 22, 23, 3, 24, 25, 26, 27, 47, 48, 49, 50, 51, 52, 53, 54, 55, 56, 57, 58, 59, 60, 61, 62, 63, 64, 65, 66, 67] (by decide +kernel) (by decide +kernel)
set_option maxRecDepth 20000 in
theorem gX7_worst_X7_areSimple : GoodIn wsX7_worst (wsV RX7 109 RX7 yX7_areSimple wsX7_areSimple) := goodIn_app (goodIn_of _ (by decide +kernel)) ggX7_worst_X7_areSimple
set_option maxRecDepth 20000 in
theorem ggX7_worst_X7_coming : GoodIn wsX7_worst wsX7_coming := goodIn_r _ [31, 20, 32, 33, 3, 34, 47, 48, 49, 50, 51, 52, 53, 54, 55, 56, 57, 58, 59, 60, 61, 62, 63, 64, 65, 66, 67] (by decide +kernel) (by decide +kernel)
set_option maxRecDepth 20000 in
theorem gX7_worst_X7_coming : GoodIn wsX7_worst (wsV RX7 128 RX7 yX7_coming wsX7_coming) := goodIn_app (goodIn_of _ (by decide +kernel)) ggX7_worst_X7_coming
set_option maxRecDepth 20000 in
theorem ggX7_worst_X7_worstOf : GoodIn wsX7_worst wsX7_worstOf := goodIn_r _ [38, 39, 40, 41, 3, 42, 20, 43, 44, 45, 46, 47, 48, 49, 50, 51, 52, 53, 54, 55, 56, 57, 58, 59, 60, 61, 62, 63, 64, 65, 66, 67] (by decide +kernel) (by decide +kernel)
set_option maxRecDepth 20000 in
theorem gX7_worst_X7_worstOf : GoodIn wsX7_worst (wsV RX7 141 RX7 yX7_worstOf wsX7_worstOf) := goodIn_app (goodIn_of _ (by decide +kernel)) ggX7_worst_X7_worstOf
theorem dX7_worst_0 : decode cX7_worst 0 = .ok (.iload_n 1, 1) := by decide +kernel
theorem dX7_worst_1 : decode cX7_worst 1 = .ok (.iload_n 2, 1) := by decide +kernel
theorem dX7_worst_2 : decode cX7_worst 2 = .ok (.invokestatic 125, 3) := by decide +kernel
theorem dX7_worst_5 : decode cX7_worst 5 = .ok (.ifCond .eq 12, 3) := by decide +kernel
theorem dX7_worst_8 : decode cX7_worst 8 = .ok (.iload_n 3, 1) := by decide +kernel
theorem dX7_worst_9 : decode cX7_worst 9 = .ok (.iconst 0, 1) := by decide +kernel
theorem dX7_worst_10 : decode cX7_worst 10 = .ok (.iconst 1, 1) := by decide +kernel
theorem dX7_worst_11 : decode cX7_worst 11 = .ok (.invokestatic 55, 3) := by decide +kernel
theorem dX7_worst_14 : decode cX7_worst 14 = .ok (.ifCond .ne 10, 3) := by decide +kernel
theorem dX7_worst_17 : decode cX7_worst 17 = .ok (.aload_n 0, 1) := by decide +kernel
theorem dX7_worst_18 : decode cX7_worst 18 = .ok (.bipush (-2), 2) := by decide +kernel
theorem dX7_worst_20 : decode cX7_worst 20 = .ok (.invokevirtual 48, 3) := by decide +kernel
theorem dX7_worst_23 : decode cX7_worst 23 = .ok (.ireturn, 1) := by decide +kernel
theorem dX7_worst_24 : decode cX7_worst 24 = .ok (.aload_n 0, 1) := by decide +kernel
theorem dX7_worst_25 : decode cX7_worst 25 = .ok (.iload_n 1, 1) := by decide +kernel
theorem dX7_worst_26 : decode cX7_worst 26 = .ok (.iload_n 2, 1) := by decide +kernel
theorem dX7_worst_27 : decode cX7_worst 27 = .ok (.invokevirtual 109, 3) := by decide +kernel
theorem dX7_worst_30 : decode cX7_worst 30 = .ok (.ifCond .eq 17, 3) := by decide +kernel
theorem dX7_worst_33 : decode cX7_worst 33 = .ok (.aload_n 0, 1) := by decide +kernel
theorem dX7_worst_34 : decode cX7_worst 34 = .ok (.aload_n 0, 1) := by decide +kernel
theorem dX7_worst_35 : decode cX7_worst 35 = .ok (.iload_n 1, 1) := by decide +kernel
theorem dX7_worst_36 : decode cX7_worst 36 = .ok (.iload_n 2, 1) := by decide +kernel
theorem dX7_worst_37 : decode cX7_worst 37 = .ok (.invokevirtual 128, 3) := by decide +kernel
theorem dX7_worst_40 : decode cX7_worst 40 = .ok (.iload_n 3, 1) := by decide +kernel
theorem dX7_worst_41 : decode cX7_worst 41 = .ok (.invokevirtual 141, 3) := by decide +kernel
theorem dX7_worst_44 : decode cX7_worst 44 = .ok (.goto 9, 3) := by decide +kernel
theorem dX7_worst_47 : decode cX7_worst 47 = .ok (.aload_n 0, 1) := by decide +kernel
theorem dX7_worst_48 : decode cX7_worst 48 = .ok (.bipush (-3), 2) := by decide +kernel
theorem dX7_worst_50 : decode cX7_worst 50 = .ok (.invokevirtual 48, 3) := by decide +kernel
theorem dX7_worst_53 : decode cX7_worst 53 = .ok (.ireturn, 1) := by decide +kernel
set_option maxRecDepth 20000 in
theorem ggX7_shift_X7_coming : GoodIn wsX7_shift wsX7_coming := goodIn_r _ [6, 1, 7, 8, 5, 9, 22, 23, 24, 25, 26, 27, 28, 29, 30, 31, 32, 33, 34, 35, 36, 37, 38, 39, 40, 41, 42] (by decide +kernel) (by decide +kernel)
set_option maxRecDepth 20000 in
theorem gX7_shift_X7_coming : GoodIn wsX7_shift (wsV RX7 128 RX7 yX7_coming wsX7_coming) := goodIn_app (goodIn_of _ (by decide +kernel)) ggX7_shift_X7_coming
set_option maxRecDepth 20000 in
theorem ggX7_shift_X7_worstOf : GoodIn wsX7_shift wsX7_worstOf := goodIn_r _ [13, 14, 15, 16, 5, 17, 1, 18, 19, 20, 21, 22, 23, 24, 25, 26, 27, 28, 29, 30, 31, 32, 33, 34, 35, 36, 37, 38, 39, 40, 41, 42] (by decide +kernel) (by decide +kernel)
set_option maxRecDepth 20000 in
theorem gX7_shift_X7_worstOf : GoodIn wsX7_shift (wsV RX7 141 RX7 yX7_worstOf wsX7_worstOf) := goodIn_app (goodIn_of _ (by decide +kernel)) ggX7_shift_X7_worstOf
theorem dX7_shift_0 : decode cX7_shift 0 = .ok (.aload_n 0, 1) := by decide +kernel
theorem dX7_shift_1 : decode cX7_shift 1 = .ok (.iload_n 1, 1) := by decide +kernel
theorem dX7_shift_2 : decode cX7_shift 2 = .ok (.iload_n 2, 1) := by decide +kernel
theorem dX7_shift_3 : decode cX7_shift 3 = .ok (.invokevirtual 128, 3) := by decide +kernel
theorem dX7_shift_6 : decode cX7_shift 6 = .ok (.istore_n 3, 1) := by decide +kernel
theorem dX7_shift_7 : decode cX7_shift 7 = .ok (.aload_n 0, 1) := by decide +kernel
theorem dX7_shift_8 : decode cX7_shift 8 = .ok (.iload_n 3, 1) := by decide +kernel
theorem dX7_shift_9 : decode cX7_shift 9 = .ok (.iconst 0, 1) := by decide +kernel
theorem dX7_shift_10 : decode cX7_shift 10 = .ok (.invokevirtual 141, 3) := by decide +kernel
theorem dX7_shift_13 : decode cX7_shift 13 = .ok (.aload_n 0, 1) := by decide +kernel
theorem dX7_shift_14 : decode cX7_shift 14 = .ok (.getfield 7, 3) := by decide +kernel
theorem dX7_shift_17 : decode cX7_shift 17 = .ok (.bipush 42, 2) := by decide +kernel
theorem dX7_shift_19 : decode cX7_shift 19 = .ok (.iaload, 1) := by decide +kernel
theorem dX7_shift_20 : decode cX7_shift 20 = .ok (.if_icmp .le 7, 3) := by decide +kernel
theorem dX7_shift_23 : decode cX7_shift 23 = .ok (.iconst 1, 1) := by decide +kernel
theorem dX7_shift_24 : decode cX7_shift 24 = .ok (.goto 4, 3) := by decide +kernel
theorem dX7_shift_27 : decode cX7_shift 27 = .ok (.iconst 0, 1) := by decide +kernel
theorem dX7_shift_28 : decode cX7_shift 28 = .ok (.istore 4, 2) := by decide +kernel
theorem dX7_shift_30 : decode cX7_shift 30 = .ok (.aload_n 0, 1) := by decide +kernel
theorem dX7_shift_31 : decode cX7_shift 31 = .ok (.iload_n 3, 1) := by decide +kernel
theorem dX7_shift_32 : decode cX7_shift 32 = .ok (.iconst 1, 1) := by decide +kernel
theorem dX7_shift_33 : decode cX7_shift 33 = .ok (.invokevirtual 141, 3) := by decide +kernel
theorem dX7_shift_36 : decode cX7_shift 36 = .ok (.aload_n 0, 1) := by decide +kernel
theorem dX7_shift_37 : decode cX7_shift 37 = .ok (.getfield 7, 3) := by decide +kernel
theorem dX7_shift_40 : decode cX7_shift 40 = .ok (.bipush 42, 2) := by decide +kernel
theorem dX7_shift_42 : decode cX7_shift 42 = .ok (.iaload, 1) := by decide +kernel
theorem dX7_shift_43 : decode cX7_shift 43 = .ok (.if_icmp .le 7, 3) := by decide +kernel
theorem dX7_shift_46 : decode cX7_shift 46 = .ok (.iconst 1, 1) := by decide +kernel
theorem dX7_shift_47 : decode cX7_shift 47 = .ok (.goto 4, 3) := by decide +kernel
theorem dX7_shift_50 : decode cX7_shift 50 = .ok (.iconst 0, 1) := by decide +kernel
theorem dX7_shift_51 : decode cX7_shift 51 = .ok (.istore 5, 2) := by decide +kernel
theorem dX7_shift_53 : decode cX7_shift 53 = .ok (.aload_n 0, 1) := by decide +kernel
theorem dX7_shift_54 : decode cX7_shift 54 = .ok (.getfield 7, 3) := by decide +kernel
theorem dX7_shift_57 : decode cX7_shift 57 = .ok (.bipush 18, 2) := by decide +kernel
theorem dX7_shift_59 : decode cX7_shift 59 = .ok (.iload_n 3, 1) := by decide +kernel
theorem dX7_shift_60 : decode cX7_shift 60 = .ok (.iadd, 1) := by decide +kernel
theorem dX7_shift_61 : decode cX7_shift 61 = .ok (.iaload, 1) := by decide +kernel
theorem dX7_shift_62 : decode cX7_shift 62 = .ok (.iload 4, 2) := by decide +kernel
theorem dX7_shift_64 : decode cX7_shift 64 = .ok (.ifCond .eq 7, 3) := by decide +kernel
theorem dX7_shift_67 : decode cX7_shift 67 = .ok (.iconst 1, 1) := by decide +kernel
theorem dX7_shift_68 : decode cX7_shift 68 = .ok (.goto 13, 3) := by decide +kernel
theorem dX7_shift_71 : decode cX7_shift 71 = .ok (.iload 5, 2) := by decide +kernel
theorem dX7_shift_73 : decode cX7_shift 73 = .ok (.ifCond .eq 7, 3) := by decide +kernel
theorem dX7_shift_76 : decode cX7_shift 76 = .ok (.iconst (-1), 1) := by decide +kernel
theorem dX7_shift_77 : decode cX7_shift 77 = .ok (.goto 4, 3) := by decide +kernel
theorem dX7_shift_80 : decode cX7_shift 80 = .ok (.iconst 0, 1) := by decide +kernel
theorem dX7_shift_81 : decode cX7_shift 81 = .ok (.iadd, 1) := by decide +kernel
theorem dX7_shift_82 : decode cX7_shift 82 = .ok (.istore 6, 2) := by decide +kernel
theorem dX7_shift_84 : decode cX7_shift 84 = .ok (.aload_n 0, 1) := by decide +kernel
theorem dX7_shift_85 : decode cX7_shift 85 = .ok (.getfield 7, 3) := by decide +kernel
theorem dX7_shift_88 : decode cX7_shift 88 = .ok (.bipush 18, 2) := by decide +kernel
theorem dX7_shift_90 : decode cX7_shift 90 = .ok (.iload_n 3, 1) := by decide +kernel
theorem dX7_shift_91 : decode cX7_shift 91 = .ok (.iadd, 1) := by decide +kernel
theorem dX7_shift_92 : decode cX7_shift 92 = .ok (.iload 6, 2) := by decide +kernel
theorem dX7_shift_94 : decode cX7_shift 94 = .ok (.bipush 20, 2) := by decide +kernel
theorem dX7_shift_96 : decode cX7_shift 96 = .ok (.if_icmp .le 8, 3) := by decide +kernel
theorem dX7_shift_99 : decode cX7_shift 99 = .ok (.bipush 20, 2) := by decide +kernel
theorem dX7_shift_101 : decode cX7_shift 101 = .ok (.goto 15, 3) := by decide +kernel
theorem dX7_shift_104 : decode cX7_shift 104 = .ok (.iload 6, 2) := by decide +kernel
theorem dX7_shift_106 : decode cX7_shift 106 = .ok (.iconst 1, 1) := by decide +kernel
theorem dX7_shift_107 : decode cX7_shift 107 = .ok (.if_icmp .ge 7, 3) := by decide +kernel
theorem dX7_shift_110 : decode cX7_shift 110 = .ok (.iconst 1, 1) := by decide +kernel
theorem dX7_shift_111 : decode cX7_shift 111 = .ok (.goto 5, 3) := by decide +kernel
theorem dX7_shift_114 : decode cX7_shift 114 = .ok (.iload 6, 2) := by decide +kernel
theorem dX7_shift_116 : decode cX7_shift 116 = .ok (.iastore, 1) := by decide +kernel
theorem dX7_shift_117 : decode cX7_shift 117 = .ok (.aload_n 0, 1) := by decide +kernel
theorem dX7_shift_118 : decode cX7_shift 118 = .ok (.getfield 7, 3) := by decide +kernel
theorem dX7_shift_121 : decode cX7_shift 121 = .ok (.bipush 47, 2) := by decide +kernel
theorem dX7_shift_123 : decode cX7_shift 123 = .ok (.dup2, 1) := by decide +kernel
theorem dX7_shift_124 : decode cX7_shift 124 = .ok (.iaload, 1) := by decide +kernel
theorem dX7_shift_125 : decode cX7_shift 125 = .ok (.iconst 1, 1) := by decide +kernel
theorem dX7_shift_126 : decode cX7_shift 126 = .ok (.iadd, 1) := by decide +kernel
theorem dX7_shift_127 : decode cX7_shift 127 = .ok (.iastore, 1) := by decide +kernel
theorem dX7_shift_128 : decode cX7_shift 128 = .ok (.aload_n 0, 1) := by decide +kernel
theorem dX7_shift_129 : decode cX7_shift 129 = .ok (.getfield 7, 3) := by decide +kernel
theorem dX7_shift_132 : decode cX7_shift 132 = .ok (.bipush 48, 2) := by decide +kernel
theorem dX7_shift_134 : decode cX7_shift 134 = .ok (.dup2, 1) := by decide +kernel
theorem dX7_shift_135 : decode cX7_shift 135 = .ok (.iaload, 1) := by decide +kernel
theorem dX7_shift_136 : decode cX7_shift 136 = .ok (.iload 4, 2) := by decide +kernel
theorem dX7_shift_138 : decode cX7_shift 138 = .ok (.ifCond .eq 7, 3) := by decide +kernel
theorem dX7_shift_141 : decode cX7_shift 141 = .ok (.iconst 1, 1) := by decide +kernel
theorem dX7_shift_142 : decode cX7_shift 142 = .ok (.goto 4, 3) := by decide +kernel
theorem dX7_shift_145 : decode cX7_shift 145 = .ok (.iconst 0, 1) := by decide +kernel
theorem dX7_shift_146 : decode cX7_shift 146 = .ok (.iadd, 1) := by decide +kernel
theorem dX7_shift_147 : decode cX7_shift 147 = .ok (.iastore, 1) := by decide +kernel
theorem dX7_shift_148 : decode cX7_shift 148 = .ok (.aload_n 0, 1) := by decide +kernel
theorem dX7_shift_149 : decode cX7_shift 149 = .ok (.getfield 7, 3) := by decide +kernel
theorem dX7_shift_152 : decode cX7_shift 152 = .ok (.bipush 49, 2) := by decide +kernel
theorem dX7_shift_154 : decode cX7_shift 154 = .ok (.dup2, 1) := by decide +kernel
theorem dX7_shift_155 : decode cX7_shift 155 = .ok (.iaload, 1) := by decide +kernel
theorem dX7_shift_156 : decode cX7_shift 156 = .ok (.iload 5, 2) := by decide +kernel
theorem dX7_shift_158 : decode cX7_shift 158 = .ok (.ifCond .eq 7, 3) := by decide +kernel
theorem dX7_shift_161 : decode cX7_shift 161 = .ok (.iconst 1, 1) := by decide +kernel
theorem dX7_shift_162 : decode cX7_shift 162 = .ok (.goto 4, 3) := by decide +kernel
theorem dX7_shift_165 : decode cX7_shift 165 = .ok (.iconst 0, 1) := by decide +kernel
theorem dX7_shift_166 : decode cX7_shift 166 = .ok (.iadd, 1) := by decide +kernel
theorem dX7_shift_167 : decode cX7_shift 167 = .ok (.iastore, 1) := by decide +kernel
theorem dX7_shift_168 : decode cX7_shift 168 = .ok (.return_, 1) := by decide +kernel
set_option maxRecDepth 20000 in
theorem ggX7_nextFit_X7_isGear : GoodIn wsX7_nextFit wsX7_isGear := goodIn_r _ [4, 5, 6, 3, 7] (by decide +kernel) (by decide +kernel)
set_option maxRecDepth 20000 in
theorem gX7_nextFit_X7_isGear : GoodIn wsX7_nextFit (va_wsS RX7 63 yX7_isGear wsX7_isGear) := goodIn_app (goodIn_of _ (by decide +kernel)) ggX7_nextFit_X7_isGear
set_option maxRecDepth 20000 in
theorem ggX7_nextFit_X7_isFit : GoodIn wsX7_nextFit wsX7_isFit := goodIn_r _ [11, 12, 13, 14, 15, 16, 17, 18, 19, 20, 21, 22, 23, 24, 25, 26, 27, 28, 29, 30, 31, 32, 33] (by decide +kernel) (by decide +kernel)
set_option maxRecDepth 20000 in
theorem gX7_nextFit_X7_isFit : GoodIn wsX7_nextFit (wsV RX7 59 RX7 yX7_isFit wsX7_isFit) := goodIn_app (goodIn_of _ (by decide +kernel)) ggX7_nextFit_X7_isFit
theorem dX7_nextFit_0 : decode cX7_nextFit 0 = .ok (.iload_n 1, 1) := by decide +kernel
theorem dX7_nextFit_1 : decode cX7_nextFit 1 = .ok (.iload_n 2, 1) := by decide +kernel
theorem dX7_nextFit_2 : decode cX7_nextFit 2 = .ok (.iadd, 1) := by decide +kernel
theorem dX7_nextFit_3 : decode cX7_nextFit 3 = .ok (.istore_n 3, 1) := by decide +kernel
theorem dX7_nextFit_4 : decode cX7_nextFit 4 = .ok (.iload_n 3, 1) := by decide +kernel
theorem dX7_nextFit_5 : decode cX7_nextFit 5 = .ok (.invokestatic 63, 3) := by decide +kernel
theorem dX7_nextFit_8 : decode cX7_nextFit 8 = .ok (.ifCond .eq 18, 3) := by decide +kernel
theorem dX7_nextFit_11 : decode cX7_nextFit 11 = .ok (.aload_n 0, 1) := by decide +kernel
theorem dX7_nextFit_12 : decode cX7_nextFit 12 = .ok (.iload_n 3, 1) := by decide +kernel
theorem dX7_nextFit_13 : decode cX7_nextFit 13 = .ok (.invokevirtual 59, 3) := by decide +kernel
theorem dX7_nextFit_16 : decode cX7_nextFit 16 = .ok (.ifCond .ne 10, 3) := by decide +kernel
theorem dX7_nextFit_19 : decode cX7_nextFit 19 = .ok (.iload_n 3, 1) := by decide +kernel
theorem dX7_nextFit_20 : decode cX7_nextFit 20 = .ok (.iload_n 2, 1) := by decide +kernel
theorem dX7_nextFit_21 : decode cX7_nextFit 21 = .ok (.iadd, 1) := by decide +kernel
theorem dX7_nextFit_22 : decode cX7_nextFit 22 = .ok (.istore_n 3, 1) := by decide +kernel
theorem dX7_nextFit_23 : decode cX7_nextFit 23 = .ok (.goto (-19), 3) := by decide +kernel
theorem dX7_nextFit_26 : decode cX7_nextFit 26 = .ok (.iload_n 3, 1) := by decide +kernel
theorem dX7_nextFit_27 : decode cX7_nextFit 27 = .ok (.invokestatic 63, 3) := by decide +kernel
theorem dX7_nextFit_30 : decode cX7_nextFit 30 = .ok (.ifCond .eq 7, 3) := by decide +kernel
theorem dX7_nextFit_33 : decode cX7_nextFit 33 = .ok (.iload_n 3, 1) := by decide +kernel
theorem dX7_nextFit_34 : decode cX7_nextFit 34 = .ok (.goto 4, 3) := by decide +kernel
theorem dX7_nextFit_37 : decode cX7_nextFit 37 = .ok (.iconst 0, 1) := by decide +kernel
theorem dX7_nextFit_38 : decode cX7_nextFit 38 = .ok (.ireturn, 1) := by decide +kernel
set_option maxRecDepth 20000 in
theorem ggX7_wantAt_X7_nextFit : GoodIn wsX7_wantAt wsX7_nextFit := goodIn_r _ [6, 7, 8, 5, 9, 10, 11, 12, 13, 14, 15, 16, 1, 17, 18, 19, 20, 21, 22, 23, 24, 25, 26, 27, 28, 29, 30, 31, 32, 33, 34, 35, 36, 37] (by decide +kernel) (by decide +kernel)
set_option maxRecDepth 20000 in
theorem gX7_wantAt_X7_nextFit : GoodIn wsX7_wantAt (wsV RX7 144 RX7 yX7_nextFit wsX7_nextFit) := goodIn_app (goodIn_of _ (by decide +kernel)) ggX7_wantAt_X7_nextFit
theorem dX7_wantAt_0 : decode cX7_wantAt 0 = .ok (.aload_n 0, 1) := by decide +kernel
theorem dX7_wantAt_1 : decode cX7_wantAt 1 = .ok (.getfield 7, 3) := by decide +kernel
theorem dX7_wantAt_4 : decode cX7_wantAt 4 = .ok (.bipush 43, 2) := by decide +kernel
theorem dX7_wantAt_6 : decode cX7_wantAt 6 = .ok (.iaload, 1) := by decide +kernel
theorem dX7_wantAt_7 : decode cX7_wantAt 7 = .ok (.istore_n 2, 1) := by decide +kernel
theorem dX7_wantAt_8 : decode cX7_wantAt 8 = .ok (.iload_n 2, 1) := by decide +kernel
theorem dX7_wantAt_9 : decode cX7_wantAt 9 = .ok (.ifCond .ne 10, 3) := by decide +kernel
theorem dX7_wantAt_12 : decode cX7_wantAt 12 = .ok (.aload_n 0, 1) := by decide +kernel
theorem dX7_wantAt_13 : decode cX7_wantAt 13 = .ok (.iconst 0, 1) := by decide +kernel
theorem dX7_wantAt_14 : decode cX7_wantAt 14 = .ok (.iconst 1, 1) := by decide +kernel
theorem dX7_wantAt_15 : decode cX7_wantAt 15 = .ok (.invokevirtual 144, 3) := by decide +kernel
theorem dX7_wantAt_18 : decode cX7_wantAt 18 = .ok (.ireturn, 1) := by decide +kernel
theorem dX7_wantAt_19 : decode cX7_wantAt 19 = .ok (.iconst 5, 1) := by decide +kernel
theorem dX7_wantAt_20 : decode cX7_wantAt 20 = .ok (.aload_n 0, 1) := by decide +kernel
theorem dX7_wantAt_21 : decode cX7_wantAt 21 = .ok (.getfield 7, 3) := by decide +kernel
theorem dX7_wantAt_24 : decode cX7_wantAt 24 = .ok (.bipush 39, 2) := by decide +kernel
theorem dX7_wantAt_26 : decode cX7_wantAt 26 = .ok (.iaload, 1) := by decide +kernel
theorem dX7_wantAt_27 : decode cX7_wantAt 27 = .ok (.imul, 1) := by decide +kernel
theorem dX7_wantAt_28 : decode cX7_wantAt 28 = .ok (.bipush 10, 2) := by decide +kernel
theorem dX7_wantAt_30 : decode cX7_wantAt 30 = .ok (.aload_n 0, 1) := by decide +kernel
theorem dX7_wantAt_31 : decode cX7_wantAt 31 = .ok (.getfield 7, 3) := by decide +kernel
theorem dX7_wantAt_34 : decode cX7_wantAt 34 = .ok (.bipush 40, 2) := by decide +kernel
theorem dX7_wantAt_36 : decode cX7_wantAt 36 = .ok (.iaload, 1) := by decide +kernel
theorem dX7_wantAt_37 : decode cX7_wantAt 37 = .ok (.imul, 1) := by decide +kernel
theorem dX7_wantAt_38 : decode cX7_wantAt 38 = .ok (.iadd, 1) := by decide +kernel
theorem dX7_wantAt_39 : decode cX7_wantAt 39 = .ok (.istore_n 3, 1) := by decide +kernel
theorem dX7_wantAt_40 : decode cX7_wantAt 40 = .ok (.aload_n 0, 1) := by decide +kernel
theorem dX7_wantAt_41 : decode cX7_wantAt 41 = .ok (.iload_n 2, 1) := by decide +kernel
theorem dX7_wantAt_42 : decode cX7_wantAt 42 = .ok (.iconst 1, 1) := by decide +kernel
theorem dX7_wantAt_43 : decode cX7_wantAt 43 = .ok (.invokevirtual 144, 3) := by decide +kernel
theorem dX7_wantAt_46 : decode cX7_wantAt 46 = .ok (.istore 4, 2) := by decide +kernel
theorem dX7_wantAt_48 : decode cX7_wantAt 48 = .ok (.aload_n 0, 1) := by decide +kernel
theorem dX7_wantAt_49 : decode cX7_wantAt 49 = .ok (.iload_n 2, 1) := by decide +kernel
theorem dX7_wantAt_50 : decode cX7_wantAt 50 = .ok (.iconst (-1), 1) := by decide +kernel
theorem dX7_wantAt_51 : decode cX7_wantAt 51 = .ok (.invokevirtual 144, 3) := by decide +kernel
theorem dX7_wantAt_54 : decode cX7_wantAt 54 = .ok (.istore 5, 2) := by decide +kernel
theorem dX7_wantAt_56 : decode cX7_wantAt 56 = .ok (.iload_n 1, 1) := by decide +kernel
theorem dX7_wantAt_57 : decode cX7_wantAt 57 = .ok (.aload_n 0, 1) := by decide +kernel
theorem dX7_wantAt_58 : decode cX7_wantAt 58 = .ok (.getfield 7, 3) := by decide +kernel
theorem dX7_wantAt_61 : decode cX7_wantAt 61 = .ok (.bipush 23, 2) := by decide +kernel
theorem dX7_wantAt_63 : decode cX7_wantAt 63 = .ok (.iload_n 2, 1) := by decide +kernel
theorem dX7_wantAt_64 : decode cX7_wantAt 64 = .ok (.iadd, 1) := by decide +kernel
theorem dX7_wantAt_65 : decode cX7_wantAt 65 = .ok (.iaload, 1) := by decide +kernel
theorem dX7_wantAt_66 : decode cX7_wantAt 66 = .ok (.iload_n 3, 1) := by decide +kernel
theorem dX7_wantAt_67 : decode cX7_wantAt 67 = .ok (.iadd, 1) := by decide +kernel
theorem dX7_wantAt_68 : decode cX7_wantAt 68 = .ok (.if_icmp .lt 13, 3) := by decide +kernel
theorem dX7_wantAt_71 : decode cX7_wantAt 71 = .ok (.iload 4, 2) := by decide +kernel
theorem dX7_wantAt_73 : decode cX7_wantAt 73 = .ok (.ifCond .le 8, 3) := by decide +kernel
theorem dX7_wantAt_76 : decode cX7_wantAt 76 = .ok (.iload 4, 2) := by decide +kernel
theorem dX7_wantAt_78 : decode cX7_wantAt 78 = .ok (.goto 29, 3) := by decide +kernel
theorem dX7_wantAt_81 : decode cX7_wantAt 81 = .ok (.iload_n 1, 1) := by decide +kernel
theorem dX7_wantAt_82 : decode cX7_wantAt 82 = .ok (.aload_n 0, 1) := by decide +kernel
theorem dX7_wantAt_83 : decode cX7_wantAt 83 = .ok (.getfield 7, 3) := by decide +kernel
theorem dX7_wantAt_86 : decode cX7_wantAt 86 = .ok (.bipush 31, 2) := by decide +kernel
theorem dX7_wantAt_88 : decode cX7_wantAt 88 = .ok (.iload_n 2, 1) := by decide +kernel
theorem dX7_wantAt_89 : decode cX7_wantAt 89 = .ok (.iadd, 1) := by decide +kernel
theorem dX7_wantAt_90 : decode cX7_wantAt 90 = .ok (.iaload, 1) := by decide +kernel
theorem dX7_wantAt_91 : decode cX7_wantAt 91 = .ok (.iload_n 3, 1) := by decide +kernel
theorem dX7_wantAt_92 : decode cX7_wantAt 92 = .ok (.iadd, 1) := by decide +kernel
theorem dX7_wantAt_93 : decode cX7_wantAt 93 = .ok (.if_icmp .ge 13, 3) := by decide +kernel
theorem dX7_wantAt_96 : decode cX7_wantAt 96 = .ok (.iload 5, 2) := by decide +kernel
theorem dX7_wantAt_98 : decode cX7_wantAt 98 = .ok (.ifCond .le 8, 3) := by decide +kernel
theorem dX7_wantAt_101 : decode cX7_wantAt 101 = .ok (.iload 5, 2) := by decide +kernel
theorem dX7_wantAt_103 : decode cX7_wantAt 103 = .ok (.goto 4, 3) := by decide +kernel
theorem dX7_wantAt_106 : decode cX7_wantAt 106 = .ok (.iload_n 2, 1) := by decide +kernel
