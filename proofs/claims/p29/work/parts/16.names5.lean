theorem dX6_simple_57 : decode cX6_simple 57 = .ok (.goto 4, 3) := by decide +kernel
theorem dX6_simple_60 : decode cX6_simple 60 = .ok (.iconst 0, 1) := by decide +kernel
theorem dX6_simple_61 : decode cX6_simple 61 = .ok (.ireturn, 1) := by decide +kernel
theorem dX6_simple_62 : decode cX6_simple 62 = .ok (.aload_n 0, 1) := by decide +kernel
theorem dX6_simple_63 : decode cX6_simple 63 = .ok (.getfield 21, 3) := by decide +kernel
theorem dX6_simple_66 : decode cX6_simple 66 = .ok (.iload_n 1, 1) := by decide +kernel
theorem dX6_simple_67 : decode cX6_simple 67 = .ok (.iload_n 2, 1) := by decide +kernel
theorem dX6_simple_68 : decode cX6_simple 68 = .ok (.invokevirtual 109, 3) := by decide +kernel
theorem dX6_simple_71 : decode cX6_simple 71 = .ok (.ireturn, 1) := by decide +kernel
theorem dX6_simple_72 : decode cX6_simple 72 = .ok (.aload_n 0, 1) := by decide +kernel
theorem dX6_simple_73 : decode cX6_simple 73 = .ok (.getfield 21, 3) := by decide +kernel
theorem dX6_simple_76 : decode cX6_simple 76 = .ok (.iload_n 2, 1) := by decide +kernel
theorem dX6_simple_77 : decode cX6_simple 77 = .ok (.iload_n 1, 1) := by decide +kernel
theorem dX6_simple_78 : decode cX6_simple 78 = .ok (.invokevirtual 109, 3) := by decide +kernel
theorem dX6_simple_81 : decode cX6_simple 81 = .ok (.ireturn, 1) := by decide +kernel
theorem dX6_simple_82 : decode cX6_simple 82 = .ok (.aload_n 0, 1) := by decide +kernel
theorem dX6_simple_83 : decode cX6_simple 83 = .ok (.bipush (-2), 2) := by decide +kernel
theorem dX6_simple_85 : decode cX6_simple 85 = .ok (.invokevirtual 79, 3) := by decide +kernel
theorem dX6_simple_88 : decode cX6_simple 88 = .ok (.ireturn, 1) := by decide +kernel
set_option maxRecDepth 20000 in
theorem ggX6_way_X6_arePair : GoodIn wsX6_way wsX6_arePair := goodIn_r _ [5, 6, 7, 4, 8] (by decide +kernel) (by decide +kernel)
set_option maxRecDepth 20000 in
theorem gX6_way_X6_arePair : GoodIn wsX6_way (va_wsS RX6 102 yX6_arePair wsX6_arePair) := goodIn_app (goodIn_of _ (by decide +kernel)) ggX6_way_X6_arePair
set_option maxRecDepth 20000 in
theorem ggX6_way_X6_refusal : GoodIn wsX6_way wsX6_refusal := goodIn_r _ [12, 13, 14, 15, 4, 16, 56, 57, 58, 59, 60, 61, 62, 63, 64, 65] (by decide +kernel) (by decide +kernel)
set_option maxRecDepth 20000 in
theorem gX6_way_X6_refusal : GoodIn wsX6_way (wsV RX6 79 RX6 yX6_refusal wsX6_refusal) := goodIn_app (goodIn_of _ (by decide +kernel)) ggX6_way_X6_refusal
set_option maxRecDepth 20000 in
theorem ggX6_way_X1_isFit : GoodIn wsX6_way wsX1_isFit := goodIn_r _ [21, 22, 66, 67, 68] (by decide +kernel) (by decide +kernel)
set_option maxRecDepth 20000 in
theorem gX6_way_X1_isFit : GoodIn wsX6_way (wsV RX6 83 RX1 yX1_isFit wsX1_isFit) := goodIn_app (goodIn_of _ (by decide +kernel)) ggX6_way_X1_isFit
set_option maxRecDepth 20000 in
theorem ggX6_way_X1_findWay : GoodIn wsX6_way wsX1_findWay := goodIn_r _ [26, 27, 28, 29, 30, 31, 32, 33, 34, 35, 20, 36, 37, 18, 19, 21, 22, 38, 39, 40, 41, 42, 43, 44, 45, 46, 47, 48, 49, 50, 51, 7, 4, 8, 66, 67, 68] (by decide +kernel) (by decide +kernel)
set_option maxRecDepth 20000 in
theorem gX6_way_X1_findWay : GoodIn wsX6_way (wsV RX6 113 RX1 yX1_findWay wsX1_findWay) := goodIn_app (goodIn_of _ (by decide +kernel)) ggX6_way_X1_findWay
set_option maxRecDepth 20000 in
theorem ggX6_way_X1_onWay : GoodIn wsX6_way wsX1_onWay := goodIn_r _ [55, 32, 66, 67, 68] (by decide +kernel) (by decide +kernel)
set_option maxRecDepth 20000 in
theorem gX6_way_X1_onWay : GoodIn wsX6_way (wsV RX6 116 RX1 yX1_onWay wsX1_onWay) := goodIn_app (goodIn_of _ (by decide +kernel)) ggX6_way_X1_onWay
theorem dX6_way_0 : decode cX6_way 0 = .ok (.iload_n 1, 1) := by decide +kernel
theorem dX6_way_1 : decode cX6_way 1 = .ok (.iload_n 2, 1) := by decide +kernel
theorem dX6_way_2 : decode cX6_way 2 = .ok (.invokestatic 102, 3) := by decide +kernel
theorem dX6_way_5 : decode cX6_way 5 = .ok (.ifCond .eq 8, 3) := by decide +kernel
theorem dX6_way_8 : decode cX6_way 8 = .ok (.iload_n 3, 1) := by decide +kernel
theorem dX6_way_9 : decode cX6_way 9 = .ok (.iconst (-1), 1) := by decide +kernel
theorem dX6_way_10 : decode cX6_way 10 = .ok (.if_icmp .ge 10, 3) := by decide +kernel
theorem dX6_way_13 : decode cX6_way 13 = .ok (.aload_n 0, 1) := by decide +kernel
theorem dX6_way_14 : decode cX6_way 14 = .ok (.bipush (-2), 2) := by decide +kernel
theorem dX6_way_16 : decode cX6_way 16 = .ok (.invokevirtual 79, 3) := by decide +kernel
theorem dX6_way_19 : decode cX6_way 19 = .ok (.ireturn, 1) := by decide +kernel
theorem dX6_way_20 : decode cX6_way 20 = .ok (.aload_n 0, 1) := by decide +kernel
theorem dX6_way_21 : decode cX6_way 21 = .ok (.getfield 21, 3) := by decide +kernel
theorem dX6_way_24 : decode cX6_way 24 = .ok (.iload_n 1, 1) := by decide +kernel
theorem dX6_way_25 : decode cX6_way 25 = .ok (.invokevirtual 83, 3) := by decide +kernel
theorem dX6_way_28 : decode cX6_way 28 = .ok (.ifCond .eq 14, 3) := by decide +kernel
theorem dX6_way_31 : decode cX6_way 31 = .ok (.aload_n 0, 1) := by decide +kernel
theorem dX6_way_32 : decode cX6_way 32 = .ok (.getfield 21, 3) := by decide +kernel
theorem dX6_way_35 : decode cX6_way 35 = .ok (.iload_n 2, 1) := by decide +kernel
theorem dX6_way_36 : decode cX6_way 36 = .ok (.invokevirtual 83, 3) := by decide +kernel
theorem dX6_way_39 : decode cX6_way 39 = .ok (.ifCond .ne 10, 3) := by decide +kernel
theorem dX6_way_42 : decode cX6_way 42 = .ok (.aload_n 0, 1) := by decide +kernel
theorem dX6_way_43 : decode cX6_way 43 = .ok (.bipush (-3), 2) := by decide +kernel
theorem dX6_way_45 : decode cX6_way 45 = .ok (.invokevirtual 79, 3) := by decide +kernel
theorem dX6_way_48 : decode cX6_way 48 = .ok (.ireturn, 1) := by decide +kernel
theorem dX6_way_49 : decode cX6_way 49 = .ok (.aload_n 0, 1) := by decide +kernel
theorem dX6_way_50 : decode cX6_way 50 = .ok (.getfield 21, 3) := by decide +kernel
theorem dX6_way_53 : decode cX6_way 53 = .ok (.iload_n 1, 1) := by decide +kernel
theorem dX6_way_54 : decode cX6_way 54 = .ok (.iload_n 2, 1) := by decide +kernel
theorem dX6_way_55 : decode cX6_way 55 = .ok (.invokevirtual 113, 3) := by decide +kernel
theorem dX6_way_58 : decode cX6_way 58 = .ok (.istore 4, 2) := by decide +kernel
theorem dX6_way_60 : decode cX6_way 60 = .ok (.iload 4, 2) := by decide +kernel
theorem dX6_way_62 : decode cX6_way 62 = .ok (.ifCond .eq 9, 3) := by decide +kernel
theorem dX6_way_65 : decode cX6_way 65 = .ok (.iload_n 3, 1) := by decide +kernel
theorem dX6_way_66 : decode cX6_way 66 = .ok (.iload 4, 2) := by decide +kernel
theorem dX6_way_68 : decode cX6_way 68 = .ok (.if_icmp .lt 6, 3) := by decide +kernel
theorem dX6_way_71 : decode cX6_way 71 = .ok (.bipush (-5), 2) := by decide +kernel
theorem dX6_way_73 : decode cX6_way 73 = .ok (.ireturn, 1) := by decide +kernel
theorem dX6_way_74 : decode cX6_way 74 = .ok (.iload_n 3, 1) := by decide +kernel
theorem dX6_way_75 : decode cX6_way 75 = .ok (.iconst (-1), 1) := by decide +kernel
theorem dX6_way_76 : decode cX6_way 76 = .ok (.if_icmp .ne 8, 3) := by decide +kernel
theorem dX6_way_79 : decode cX6_way 79 = .ok (.iload 4, 2) := by decide +kernel
theorem dX6_way_81 : decode cX6_way 81 = .ok (.goto 11, 3) := by decide +kernel
theorem dX6_way_84 : decode cX6_way 84 = .ok (.aload_n 0, 1) := by decide +kernel
theorem dX6_way_85 : decode cX6_way 85 = .ok (.getfield 21, 3) := by decide +kernel
theorem dX6_way_88 : decode cX6_way 88 = .ok (.iload_n 3, 1) := by decide +kernel
theorem dX6_way_89 : decode cX6_way 89 = .ok (.invokevirtual 116, 3) := by decide +kernel
theorem dX6_way_92 : decode cX6_way 92 = .ok (.ireturn, 1) := by decide +kernel
set_option maxRecDepth 20000 in
theorem ggX6_over_X6_arePair : GoodIn wsX6_over wsX6_arePair := goodIn_r _ [6, 7, 8, 5, 9] (by decide +kernel) (by decide +kernel)
set_option maxRecDepth 20000 in
theorem gX6_over_X6_arePair : GoodIn wsX6_over (va_wsS RX6 102 yX6_arePair wsX6_arePair) := goodIn_app (goodIn_of _ (by decide +kernel)) ggX6_over_X6_arePair
set_option maxRecDepth 20000 in
theorem ggX6_over_X6_isWithin : GoodIn wsX6_over wsX6_isWithin := goodIn_r _ [12] (by decide +kernel) (by decide +kernel)
set_option maxRecDepth 20000 in
theorem gX6_over_X6_isWithin : GoodIn wsX6_over (va_wsS RX6 95 yX6_isWithin wsX6_isWithin) := goodIn_app (goodIn_of _ (by decide +kernel)) ggX6_over_X6_isWithin
set_option maxRecDepth 20000 in
theorem ggX6_over_X6_refusal : GoodIn wsX6_over wsX6_refusal := goodIn_r _ [16, 17, 10, 11, 5, 12, 62, 63, 64, 65, 66, 67, 68, 69, 70, 71] (by decide +kernel) (by decide +kernel)
set_option maxRecDepth 20000 in
theorem gX6_over_X6_refusal : GoodIn wsX6_over (wsV RX6 79 RX6 yX6_refusal wsX6_refusal) := goodIn_app (goodIn_of _ (by decide +kernel)) ggX6_over_X6_refusal
set_option maxRecDepth 20000 in
theorem ggX6_over_X1_coming : GoodIn wsX6_over wsX1_coming := goodIn_r _ [22, 23, 24, 25, 26, 21, 27, 28, 29, 30, 31, 32, 33, 34, 35, 36, 37, 38, 39, 40, 41, 42, 43, 44, 45, 72, 73, 74] (by decide +kernel) (by decide +kernel)
set_option maxRecDepth 20000 in
theorem gX6_over_X1_coming : GoodIn wsX6_over (wsV RX6 109 RX1 yX1_coming wsX1_coming) := goodIn_app (goodIn_of _ (by decide +kernel)) ggX6_over_X1_coming
set_option maxRecDepth 20000 in
theorem ggX6_over_X6_isClutch : GoodIn wsX6_over wsX6_isClutch := goodIn_r _ [48] (by decide +kernel) (by decide +kernel)
set_option maxRecDepth 20000 in
theorem gX6_over_X6_isClutch : GoodIn wsX6_over (va_wsS RX6 89 yX6_isClutch wsX6_isClutch) := goodIn_app (goodIn_of _ (by decide +kernel)) ggX6_over_X6_isClutch
set_option maxRecDepth 20000 in
theorem ggX6_over_X3_overAt : GoodIn wsX6_over wsX3_overAt := goodIn_r _ [53, 54, 55, 56, 57, 58, 59, 60, 61, 47, 5, 48, 75] (by decide +kernel) (by decide +kernel)
set_option maxRecDepth 20000 in
theorem gX6_over_X3_overAt : GoodIn wsX6_over (wsV RX6 119 RX3 yX3_overAt wsX3_overAt) := goodIn_app (goodIn_of _ (by decide +kernel)) ggX6_over_X3_overAt
theorem dX6_over_0 : decode cX6_over 0 = .ok (.iload_n 1, 1) := by decide +kernel
theorem dX6_over_1 : decode cX6_over 1 = .ok (.iload_n 2, 1) := by decide +kernel
theorem dX6_over_2 : decode cX6_over 2 = .ok (.invokestatic 102, 3) := by decide +kernel
theorem dX6_over_5 : decode cX6_over 5 = .ok (.ifCond .eq 13, 3) := by decide +kernel
theorem dX6_over_8 : decode cX6_over 8 = .ok (.iload_n 3, 1) := by decide +kernel
theorem dX6_over_9 : decode cX6_over 9 = .ok (.iconst 0, 1) := by decide +kernel
theorem dX6_over_10 : decode cX6_over 10 = .ok (.bipush 40, 2) := by decide +kernel
theorem dX6_over_12 : decode cX6_over 12 = .ok (.invokestatic 95, 3) := by decide +kernel
theorem dX6_over_15 : decode cX6_over 15 = .ok (.ifCond .ne 10, 3) := by decide +kernel
theorem dX6_over_18 : decode cX6_over 18 = .ok (.aload_n 0, 1) := by decide +kernel
theorem dX6_over_19 : decode cX6_over 19 = .ok (.bipush (-2), 2) := by decide +kernel
theorem dX6_over_21 : decode cX6_over 21 = .ok (.invokevirtual 79, 3) := by decide +kernel
theorem dX6_over_24 : decode cX6_over 24 = .ok (.ireturn, 1) := by decide +kernel
theorem dX6_over_25 : decode cX6_over 25 = .ok (.aload_n 0, 1) := by decide +kernel
theorem dX6_over_26 : decode cX6_over 26 = .ok (.getfield 21, 3) := by decide +kernel
theorem dX6_over_29 : decode cX6_over 29 = .ok (.iload_n 1, 1) := by decide +kernel
theorem dX6_over_30 : decode cX6_over 30 = .ok (.iload_n 2, 1) := by decide +kernel
theorem dX6_over_31 : decode cX6_over 31 = .ok (.invokevirtual 109, 3) := by decide +kernel
theorem dX6_over_34 : decode cX6_over 34 = .ok (.istore 4, 2) := by decide +kernel
theorem dX6_over_36 : decode cX6_over 36 = .ok (.iload 4, 2) := by decide +kernel
theorem dX6_over_38 : decode cX6_over 38 = .ok (.invokestatic 89, 3) := by decide +kernel
theorem dX6_over_41 : decode cX6_over 41 = .ok (.ifCond .eq 20, 3) := by decide +kernel
theorem dX6_over_44 : decode cX6_over 44 = .ok (.aload_n 0, 1) := by decide +kernel
theorem dX6_over_45 : decode cX6_over 45 = .ok (.getfield 28, 3) := by decide +kernel
theorem dX6_over_48 : decode cX6_over 48 = .ok (.iload 4, 2) := by decide +kernel
theorem dX6_over_50 : decode cX6_over 50 = .ok (.iload_n 3, 1) := by decide +kernel
theorem dX6_over_51 : decode cX6_over 51 = .ok (.invokevirtual 119, 3) := by decide +kernel
theorem dX6_over_54 : decode cX6_over 54 = .ok (.sipush 1000, 3) := by decide +kernel
theorem dX6_over_57 : decode cX6_over 57 = .ok (.iadd, 1) := by decide +kernel
theorem dX6_over_58 : decode cX6_over 58 = .ok (.goto 9, 3) := by decide +kernel
theorem dX6_over_61 : decode cX6_over 61 = .ok (.aload_n 0, 1) := by decide +kernel
theorem dX6_over_62 : decode cX6_over 62 = .ok (.bipush (-3), 2) := by decide +kernel
theorem dX6_over_64 : decode cX6_over 64 = .ok (.invokevirtual 79, 3) := by decide +kernel
theorem dX6_over_67 : decode cX6_over 67 = .ok (.ireturn, 1) := by decide +kernel
set_option maxRecDepth 20000 in
theorem ggX6_worst_X6_arePair : GoodIn wsX6_worst wsX6_arePair := goodIn_r _ [6, 7, 8, 5, 9] (by decide +kernel) (by decide +kernel)
set_option maxRecDepth 20000 in
theorem gX6_worst_X6_arePair : GoodIn wsX6_worst (va_wsS RX6 102 yX6_arePair wsX6_arePair) := goodIn_app (goodIn_of _ (by decide +kernel)) ggX6_worst_X6_arePair
set_option maxRecDepth 20000 in
theorem ggX6_worst_X6_isWithin : GoodIn wsX6_worst wsX6_isWithin := goodIn_r _ [12] (by decide +kernel) (by decide +kernel)
set_option maxRecDepth 20000 in
theorem gX6_worst_X6_isWithin : GoodIn wsX6_worst (va_wsS RX6 95 yX6_isWithin wsX6_isWithin) := goodIn_app (goodIn_of _ (by decide +kernel)) ggX6_worst_X6_isWithin
set_option maxRecDepth 20000 in
theorem ggX6_worst_X6_refusal : GoodIn wsX6_worst wsX6_refusal := goodIn_r _ [16, 17, 10, 11, 5, 12, 70, 71, 72, 73, 74, 75, 76, 77, 78, 79] (by decide +kernel) (by decide +kernel)
set_option maxRecDepth 20000 in
theorem gX6_worst_X6_refusal : GoodIn wsX6_worst (wsV RX6 79 RX6 yX6_refusal wsX6_refusal) := goodIn_app (goodIn_of _ (by decide +kernel)) ggX6_worst_X6_refusal
set_option maxRecDepth 20000 in
theorem ggX6_worst_X1_coming : GoodIn wsX6_worst wsX1_coming := goodIn_r _ [22, 23, 24, 25, 26, 21, 27, 28, 29, 30, 31, 32, 33, 34, 35, 36, 37, 38, 39, 40, 41, 42, 43, 44, 45, 80, 81, 82] (by decide +kernel) (by decide +kernel)
set_option maxRecDepth 20000 in
theorem gX6_worst_X1_coming : GoodIn wsX6_worst (wsV RX6 109 RX1 yX1_coming wsX1_coming) := goodIn_app (goodIn_of _ (by decide +kernel)) ggX6_worst_X1_coming
set_option maxRecDepth 20000 in
theorem ggX6_worst_X6_isClutch : GoodIn wsX6_worst wsX6_isClutch := goodIn_r _ [48] (by decide +kernel) (by decide +kernel)
set_option maxRecDepth 20000 in
theorem gX6_worst_X6_isClutch : GoodIn wsX6_worst (va_wsS RX6 89 yX6_isClutch wsX6_isClutch) := goodIn_app (goodIn_of _ (by decide +kernel)) ggX6_worst_X6_isClutch
set_option maxRecDepth 20000 in
theorem ggX6_worst_X3_flare : GoodIn wsX6_worst wsX3_flare := goodIn_r _ [53, 54, 55, 56, 57, 58, 59, 60, 52, 61, 62, 63, 64, 65, 47, 5, 48, 83] (by decide +kernel) (by decide +kernel)
set_option maxRecDepth 20000 in
theorem gX6_worst_X3_flare : GoodIn wsX6_worst (wsV RX6 122 RX3 yX3_flare wsX3_flare) := goodIn_app (goodIn_of _ (by decide +kernel)) ggX6_worst_X3_flare
set_option maxRecDepth 20000 in
theorem ggX6_worst_X3_bind : GoodIn wsX6_worst wsX3_bind := goodIn_r _ [69, 63, 64, 56, 65, 58, 59, 60, 52, 61, 62, 54, 55, 57, 47, 5, 48, 83] (by decide +kernel) (by decide +kernel)
set_option maxRecDepth 20000 in
theorem gX6_worst_X3_bind : GoodIn wsX6_worst (wsV RX6 125 RX3 yX3_bind wsX3_bind) := goodIn_app (goodIn_of _ (by decide +kernel)) ggX6_worst_X3_bind
theorem dX6_worst_0 : decode cX6_worst 0 = .ok (.iload_n 1, 1) := by decide +kernel
theorem dX6_worst_1 : decode cX6_worst 1 = .ok (.iload_n 2, 1) := by decide +kernel
theorem dX6_worst_2 : decode cX6_worst 2 = .ok (.invokestatic 102, 3) := by decide +kernel
theorem dX6_worst_5 : decode cX6_worst 5 = .ok (.ifCond .eq 12, 3) := by decide +kernel
theorem dX6_worst_8 : decode cX6_worst 8 = .ok (.iload_n 3, 1) := by decide +kernel
theorem dX6_worst_9 : decode cX6_worst 9 = .ok (.iconst 0, 1) := by decide +kernel
theorem dX6_worst_10 : decode cX6_worst 10 = .ok (.iconst 1, 1) := by decide +kernel
theorem dX6_worst_11 : decode cX6_worst 11 = .ok (.invokestatic 95, 3) := by decide +kernel
theorem dX6_worst_14 : decode cX6_worst 14 = .ok (.ifCond .ne 10, 3) := by decide +kernel
theorem dX6_worst_17 : decode cX6_worst 17 = .ok (.aload_n 0, 1) := by decide +kernel
theorem dX6_worst_18 : decode cX6_worst 18 = .ok (.bipush (-2), 2) := by decide +kernel
theorem dX6_worst_20 : decode cX6_worst 20 = .ok (.invokevirtual 79, 3) := by decide +kernel
theorem dX6_worst_23 : decode cX6_worst 23 = .ok (.ireturn, 1) := by decide +kernel
theorem dX6_worst_24 : decode cX6_worst 24 = .ok (.aload_n 0, 1) := by decide +kernel
theorem dX6_worst_25 : decode cX6_worst 25 = .ok (.getfield 21, 3) := by decide +kernel
theorem dX6_worst_28 : decode cX6_worst 28 = .ok (.iload_n 1, 1) := by decide +kernel
theorem dX6_worst_29 : decode cX6_worst 29 = .ok (.iload_n 2, 1) := by decide +kernel
theorem dX6_worst_30 : decode cX6_worst 30 = .ok (.invokevirtual 109, 3) := by decide +kernel
theorem dX6_worst_33 : decode cX6_worst 33 = .ok (.istore 4, 2) := by decide +kernel
theorem dX6_worst_35 : decode cX6_worst 35 = .ok (.iload 4, 2) := by decide +kernel
theorem dX6_worst_37 : decode cX6_worst 37 = .ok (.invokestatic 89, 3) := by decide +kernel
theorem dX6_worst_40 : decode cX6_worst 40 = .ok (.ifCond .ne 10, 3) := by decide +kernel
theorem dX6_worst_43 : decode cX6_worst 43 = .ok (.aload_n 0, 1) := by decide +kernel
theorem dX6_worst_44 : decode cX6_worst 44 = .ok (.bipush (-3), 2) := by decide +kernel
theorem dX6_worst_46 : decode cX6_worst 46 = .ok (.invokevirtual 79, 3) := by decide +kernel
theorem dX6_worst_49 : decode cX6_worst 49 = .ok (.ireturn, 1) := by decide +kernel
theorem dX6_worst_50 : decode cX6_worst 50 = .ok (.iload_n 3, 1) := by decide +kernel
theorem dX6_worst_51 : decode cX6_worst 51 = .ok (.ifCond .ne 15, 3) := by decide +kernel
theorem dX6_worst_54 : decode cX6_worst 54 = .ok (.aload_n 0, 1) := by decide +kernel
theorem dX6_worst_55 : decode cX6_worst 55 = .ok (.getfield 28, 3) := by decide +kernel
theorem dX6_worst_58 : decode cX6_worst 58 = .ok (.iload 4, 2) := by decide +kernel
theorem dX6_worst_60 : decode cX6_worst 60 = .ok (.invokevirtual 122, 3) := by decide +kernel
theorem dX6_worst_63 : decode cX6_worst 63 = .ok (.goto 12, 3) := by decide +kernel
theorem dX6_worst_66 : decode cX6_worst 66 = .ok (.aload_n 0, 1) := by decide +kernel
theorem dX6_worst_67 : decode cX6_worst 67 = .ok (.getfield 28, 3) := by decide +kernel
theorem dX6_worst_70 : decode cX6_worst 70 = .ok (.iload 4, 2) := by decide +kernel
theorem dX6_worst_72 : decode cX6_worst 72 = .ok (.invokevirtual 125, 3) := by decide +kernel
theorem dX6_worst_75 : decode cX6_worst 75 = .ok (.ireturn, 1) := by decide +kernel
set_option maxRecDepth 20000 in
theorem ggX6_want_X6_isWithin : GoodIn wsX6_want wsX6_isWithin := goodIn_r _ [5] (by decide +kernel) (by decide +kernel)
set_option maxRecDepth 20000 in
theorem gX6_want_X6_isWithin : GoodIn wsX6_want (va_wsS RX6 95 yX6_isWithin wsX6_isWithin) := goodIn_app (goodIn_of _ (by decide +kernel)) ggX6_want_X6_isWithin
set_option maxRecDepth 20000 in
theorem ggX6_want_X0_wanted : GoodIn wsX6_want wsX0_wanted := goodIn_r _ [10, 11, 12, 13, 4, 14, 15, 16, 17, 18, 19, 20, 21, 22, 23, 24, 40, 41, 42, 43, 44, 45] (by decide +kernel) (by decide +kernel)
set_option maxRecDepth 20000 in
theorem gX6_want_X0_wanted : GoodIn wsX6_want (wsV RX6 128 RX0 yX0_wanted wsX0_wanted) := goodIn_app (goodIn_of _ (by decide +kernel)) ggX6_want_X0_wanted
set_option maxRecDepth 20000 in
theorem ggX6_want_X6_refusal : GoodIn wsX6_want wsX6_refusal := goodIn_r _ [28, 29, 2, 3, 4, 5, 30, 31, 32, 33, 34, 35, 36, 37, 38, 39] (by decide +kernel) (by decide +kernel)
set_option maxRecDepth 20000 in
theorem gX6_want_X6_refusal : GoodIn wsX6_want (wsV RX6 79 RX6 yX6_refusal wsX6_refusal) := goodIn_app (goodIn_of _ (by decide +kernel)) ggX6_want_X6_refusal
theorem dX6_want_0 : decode cX6_want 0 = .ok (.iload_n 1, 1) := by decide +kernel
theorem dX6_want_1 : decode cX6_want 1 = .ok (.iconst 0, 1) := by decide +kernel
theorem dX6_want_2 : decode cX6_want 2 = .ok (.sipush 300, 3) := by decide +kernel
theorem dX6_want_5 : decode cX6_want 5 = .ok (.invokestatic 95, 3) := by decide +kernel
theorem dX6_want_8 : decode cX6_want 8 = .ok (.ifCond .eq 14, 3) := by decide +kernel
theorem dX6_want_11 : decode cX6_want 11 = .ok (.aload_n 0, 1) := by decide +kernel
theorem dX6_want_12 : decode cX6_want 12 = .ok (.getfield 37, 3) := by decide +kernel
theorem dX6_want_15 : decode cX6_want 15 = .ok (.iload_n 1, 1) := by decide +kernel
theorem dX6_want_16 : decode cX6_want 16 = .ok (.invokevirtual 128, 3) := by decide +kernel
theorem dX6_want_19 : decode cX6_want 19 = .ok (.goto 9, 3) := by decide +kernel
theorem dX6_want_22 : decode cX6_want 22 = .ok (.aload_n 0, 1) := by decide +kernel
theorem dX6_want_23 : decode cX6_want 23 = .ok (.bipush (-2), 2) := by decide +kernel
theorem dX6_want_25 : decode cX6_want 25 = .ok (.invokevirtual 79, 3) := by decide +kernel
theorem dX6_want_28 : decode cX6_want 28 = .ok (.ireturn, 1) := by decide +kernel
set_option maxRecDepth 20000 in
theorem ggX6_drives_X6_changed : GoodIn wsX6_drives wsX6_changed := goodIn_r _ [5, 6, 7, 8, 9, 10, 11, 12, 13, 14, 15, 16, 17, 18, 19, 20, 21, 22, 23, 24, 25, 26, 27, 28, 29, 30, 31, 4, 32, 33, 34, 35, 36, 37, 38, 39, 40, 41, 42, 43, 44, 45, 46, 47, 48, 49, 50, 51, 52, 53, 54, 55, 56, 57, 58, 59, 60, 61, 62, 63, 64, 65, 66, 67, 68, 69, 70, 71, 72, 73, 74, 75, 76, 77, 78, 79, 80, 81, 82, 83, 84, 85, 86, 87, 88, 89, 90, 91, 92, 93, 94, 95, 96, 97, 98, 99, 100, 101, 102, 103, 104, 105, 106, 107, 108, 109, 110, 111, 112, 113, 114, 115, 116, 117, 118, 119, 120, 121, 122, 123, 124, 125, 126, 127, 128, 129, 130, 131, 132, 133, 134, 135, 136, 137, 138, 139, 140, 141, 142, 143, 144, 145, 146, 147, 148, 149, 150, 151, 152, 153, 154, 155, 156, 157, 158, 159, 160, 161, 162, 163, 164, 165, 166, 167, 168, 169, 170, 171, 172, 173, 174, 175, 176, 177, 178, 179, 180, 181, 182, 183, 184, 185, 186, 187, 188, 189, 190, 191, 192, 193, 194] (by decide +kernel) (by decide +kernel)
set_option maxRecDepth 20000 in
theorem gX6_drives_X6_changed : GoodIn wsX6_drives (wsV RX6 71 RX6 yX6_changed wsX6_changed) := goodIn_app (goodIn_of _ (by decide +kernel)) ggX6_drives_X6_changed
theorem dX6_drives_0 : decode cX6_drives 0 = .ok (.aload_n 0, 1) := by decide +kernel
theorem dX6_drives_1 : decode cX6_drives 1 = .ok (.bipush 7, 2) := by decide +kernel
theorem dX6_drives_3 : decode cX6_drives 3 = .ok (.iload_n 1, 1) := by decide +kernel
theorem dX6_drives_4 : decode cX6_drives 4 = .ok (.iload_n 2, 1) := by decide +kernel
theorem dX6_drives_5 : decode cX6_drives 5 = .ok (.invokevirtual 71, 3) := by decide +kernel
theorem dX6_drives_8 : decode cX6_drives 8 = .ok (.ireturn, 1) := by decide +kernel
set_option maxRecDepth 20000 in
theorem ggX6_puts_X6_changed : GoodIn wsX6_puts wsX6_changed := goodIn_r _ [5, 6, 7, 8, 9, 10, 11, 12, 13, 14, 15, 16, 17, 18, 19, 20, 21, 22, 23, 24, 25, 26, 27, 28, 29, 30, 31, 4, 32, 33, 34, 35, 36, 37, 38, 39, 40, 41, 42, 43, 44, 45, 46, 47, 48, 49, 50, 51, 52, 53, 54, 55, 56, 57, 58, 59, 60, 61, 62, 63, 64, 65, 66, 67, 68, 69, 70, 71, 72, 73, 74, 75, 76, 77, 78, 79, 80, 81, 82, 83, 84, 85, 86, 87, 88, 89, 90, 91, 92, 93, 94, 95, 96, 97, 98, 99, 100, 101, 102, 103, 104, 105, 106, 107, 108, 109, 110, 111, 112, 113, 114, 115, 116, 117, 118, 119, 120, 121, 122, 123, 124, 125, 126, 127, 128, 129, 130, 131, 132, 133, 134, 135, 136, 137, 138, 139, 140, 141, 142, 143, 144, 145, 146, 147, 148, 149, 150, 151, 152, 153, 154, 155, 156, 157, 158, 159, 160, 161, 162, 163, 164, 165, 166, 167, 168, 169, 170, 171, 172, 173, 174, 175, 176, 177, 178, 179, 180, 181, 182, 183, 184, 185, 186, 187, 188, 189, 190, 191, 192, 193, 194] (by decide +kernel) (by decide +kernel)
set_option maxRecDepth 20000 in
theorem gX6_puts_X6_changed : GoodIn wsX6_puts (wsV RX6 71 RX6 yX6_changed wsX6_changed) := goodIn_app (goodIn_of _ (by decide +kernel)) ggX6_puts_X6_changed
theorem dX6_puts_0 : decode cX6_puts 0 = .ok (.aload_n 0, 1) := by decide +kernel
theorem dX6_puts_1 : decode cX6_puts 1 = .ok (.bipush 9, 2) := by decide +kernel
theorem dX6_puts_3 : decode cX6_puts 3 = .ok (.iload_n 1, 1) := by decide +kernel
theorem dX6_puts_4 : decode cX6_puts 4 = .ok (.iconst 0, 1) := by decide +kernel
theorem dX6_puts_5 : decode cX6_puts 5 = .ok (.invokevirtual 71, 3) := by decide +kernel
theorem dX6_puts_8 : decode cX6_puts 8 = .ok (.ireturn, 1) := by decide +kernel
set_option maxRecDepth 20000 in
theorem ggX6_state_X1_fitBits : GoodIn wsX6_state wsX1_fitBits := goodIn_r _ [7, 8, 9, 10, 6, 11, 12, 32, 33, 34] (by decide +kernel) (by decide +kernel)
set_option maxRecDepth 20000 in
theorem gX6_state_X1_fitBits : GoodIn wsX6_state (wsV RX6 131 RX1 yX1_fitBits wsX1_fitBits) := goodIn_app (goodIn_of _ (by decide +kernel)) ggX6_state_X1_fitBits
set_option maxRecDepth 20000 in
theorem ggX6_state_X6_isWithin : GoodIn wsX6_state wsX6_isWithin := goodIn_r _ [16] (by decide +kernel) (by decide +kernel)
set_option maxRecDepth 20000 in
theorem gX6_state_X6_isWithin : GoodIn wsX6_state (va_wsS RX6 95 yX6_isWithin wsX6_isWithin) := goodIn_app (goodIn_of _ (by decide +kernel)) ggX6_state_X6_isWithin
set_option maxRecDepth 20000 in
theorem ggX6_state_X6_refusal : GoodIn wsX6_state wsX6_refusal := goodIn_r _ [20, 21, 13, 14, 15, 16, 22, 23, 24, 25, 26, 27, 28, 29, 30, 31] (by decide +kernel) (by decide +kernel)
set_option maxRecDepth 20000 in
theorem gX6_state_X6_refusal : GoodIn wsX6_state (wsV RX6 79 RX6 yX6_refusal wsX6_refusal) := goodIn_app (goodIn_of _ (by decide +kernel)) ggX6_state_X6_refusal
theorem dX6_state_0 : decode cX6_state 0 = .ok (.iload_n 1, 1) := by decide +kernel
theorem dX6_state_1 : decode cX6_state 1 = .ok (.bipush 12, 2) := by decide +kernel
theorem dX6_state_3 : decode cX6_state 3 = .ok (.if_icmp .ne 11, 3) := by decide +kernel
theorem dX6_state_6 : decode cX6_state 6 = .ok (.aload_n 0, 1) := by decide +kernel
theorem dX6_state_7 : decode cX6_state 7 = .ok (.getfield 21, 3) := by decide +kernel
theorem dX6_state_10 : decode cX6_state 10 = .ok (.invokevirtual 131, 3) := by decide +kernel
theorem dX6_state_13 : decode cX6_state 13 = .ok (.ireturn, 1) := by decide +kernel
theorem dX6_state_14 : decode cX6_state 14 = .ok (.iload_n 1, 1) := by decide +kernel
theorem dX6_state_15 : decode cX6_state 15 = .ok (.iconst 0, 1) := by decide +kernel
theorem dX6_state_16 : decode cX6_state 16 = .ok (.bipush 11, 2) := by decide +kernel
theorem dX6_state_18 : decode cX6_state 18 = .ok (.invokestatic 95, 3) := by decide +kernel
theorem dX6_state_21 : decode cX6_state 21 = .ok (.ifCond .eq 15, 3) := by decide +kernel
theorem dX6_state_24 : decode cX6_state 24 = .ok (.aload_n 0, 1) := by decide +kernel
theorem dX6_state_25 : decode cX6_state 25 = .ok (.getfield 9, 3) := by decide +kernel
theorem dX6_state_28 : decode cX6_state 28 = .ok (.bipush 39, 2) := by decide +kernel
theorem dX6_state_30 : decode cX6_state 30 = .ok (.iload_n 1, 1) := by decide +kernel
theorem dX6_state_31 : decode cX6_state 31 = .ok (.iadd, 1) := by decide +kernel
theorem dX6_state_32 : decode cX6_state 32 = .ok (.iaload, 1) := by decide +kernel
theorem dX6_state_33 : decode cX6_state 33 = .ok (.goto 9, 3) := by decide +kernel
theorem dX6_state_36 : decode cX6_state 36 = .ok (.aload_n 0, 1) := by decide +kernel
theorem dX6_state_37 : decode cX6_state 37 = .ok (.bipush (-2), 2) := by decide +kernel
theorem dX6_state_39 : decode cX6_state 39 = .ok (.invokevirtual 79, 3) := by decide +kernel
theorem dX6_state_42 : decode cX6_state 42 = .ok (.ireturn, 1) := by decide +kernel
set_option maxRecDepth 20000 in
theorem ggX6_type_X6_isWithin : GoodIn wsX6_type wsX6_isWithin := goodIn_r _ [5] (by decide +kernel) (by decide +kernel)
set_option maxRecDepth 20000 in
theorem gX6_type_X6_isWithin : GoodIn wsX6_type (va_wsS RX6 95 yX6_isWithin wsX6_isWithin) := goodIn_app (goodIn_of _ (by decide +kernel)) ggX6_type_X6_isWithin
set_option maxRecDepth 20000 in
theorem ggX6_type_X6_refusal : GoodIn wsX6_type wsX6_refusal := goodIn_r _ [9, 10, 2, 3, 4, 5, 22, 23, 24, 25, 26, 27, 28, 29, 30, 31] (by decide +kernel) (by decide +kernel)
set_option maxRecDepth 20000 in
theorem gX6_type_X6_refusal : GoodIn wsX6_type (wsV RX6 79 RX6 yX6_refusal wsX6_refusal) := goodIn_app (goodIn_of _ (by decide +kernel)) ggX6_type_X6_refusal
set_option maxRecDepth 20000 in
theorem ggX6_type_X5_append : GoodIn wsX6_type wsX5_append := goodIn_r _ [15, 16, 17, 32, 33, 34, 35, 36, 37, 38] (by decide +kernel) (by decide +kernel)
set_option maxRecDepth 20000 in
theorem gX6_type_X5_append : GoodIn wsX6_type (wsV RX6 135 RX5 yX5_append wsX5_append) := goodIn_app (goodIn_of _ (by decide +kernel)) ggX6_type_X5_append
set_option maxRecDepth 20000 in
theorem ggX6_type_X5_length : GoodIn wsX6_type wsX5_length := goodIn_r _ [21, 16, 32, 33, 34, 35, 36, 37, 38] (by decide +kernel) (by decide +kernel)
set_option maxRecDepth 20000 in
theorem gX6_type_X5_length : GoodIn wsX6_type (wsV RX6 138 RX5 yX5_length wsX5_length) := goodIn_app (goodIn_of _ (by decide +kernel)) ggX6_type_X5_length
theorem dX6_type_0 : decode cX6_type 0 = .ok (.iload_n 1, 1) := by decide +kernel
theorem dX6_type_1 : decode cX6_type 1 = .ok (.iconst 0, 1) := by decide +kernel
theorem dX6_type_2 : decode cX6_type 2 = .ok (.bipush 127, 2) := by decide +kernel
theorem dX6_type_4 : decode cX6_type 4 = .ok (.invokestatic 95, 3) := by decide +kernel
theorem dX6_type_7 : decode cX6_type 7 = .ok (.ifCond .ne 10, 3) := by decide +kernel
theorem dX6_type_10 : decode cX6_type 10 = .ok (.aload_n 0, 1) := by decide +kernel
theorem dX6_type_11 : decode cX6_type 11 = .ok (.bipush (-2), 2) := by decide +kernel
theorem dX6_type_13 : decode cX6_type 13 = .ok (.invokevirtual 79, 3) := by decide +kernel
theorem dX6_type_16 : decode cX6_type 16 = .ok (.ireturn, 1) := by decide +kernel
theorem dX6_type_17 : decode cX6_type 17 = .ok (.aload_n 0, 1) := by decide +kernel
theorem dX6_type_18 : decode cX6_type 18 = .ok (.getfield 60, 3) := by decide +kernel
theorem dX6_type_21 : decode cX6_type 21 = .ok (.iload_n 1, 1) := by decide +kernel
theorem dX6_type_22 : decode cX6_type 22 = .ok (.invokevirtual 135, 3) := by decide +kernel
theorem dX6_type_25 : decode cX6_type 25 = .ok (.ifCond .eq 13, 3) := by decide +kernel
theorem dX6_type_28 : decode cX6_type 28 = .ok (.aload_n 0, 1) := by decide +kernel
theorem dX6_type_29 : decode cX6_type 29 = .ok (.getfield 60, 3) := by decide +kernel
theorem dX6_type_32 : decode cX6_type 32 = .ok (.invokevirtual 138, 3) := by decide +kernel
theorem dX6_type_35 : decode cX6_type 35 = .ok (.goto 9, 3) := by decide +kernel
theorem dX6_type_38 : decode cX6_type 38 = .ok (.aload_n 0, 1) := by decide +kernel
theorem dX6_type_39 : decode cX6_type 39 = .ok (.bipush (-4), 2) := by decide +kernel
theorem dX6_type_41 : decode cX6_type 41 = .ok (.invokevirtual 79, 3) := by decide +kernel
theorem dX6_type_44 : decode cX6_type 44 = .ok (.ireturn, 1) := by decide +kernel
set_option maxRecDepth 20000 in
theorem ggX6_why_X6_isWithin : GoodIn wsX6_why wsX6_isWithin := goodIn_r _ [6] (by decide +kernel) (by decide +kernel)
set_option maxRecDepth 20000 in
theorem gX6_why_X6_isWithin : GoodIn wsX6_why (va_wsS RX6 95 yX6_isWithin wsX6_isWithin) := goodIn_app (goodIn_of _ (by decide +kernel)) ggX6_why_X6_isWithin
set_option maxRecDepth 20000 in
theorem ggX6_why_X6_refusal : GoodIn wsX6_why wsX6_refusal := goodIn_r _ [10, 11, 3, 4, 5, 6, 12, 13, 14, 15, 16, 17, 18, 19, 20, 21] (by decide +kernel) (by decide +kernel)
set_option maxRecDepth 20000 in
theorem gX6_why_X6_refusal : GoodIn wsX6_why (wsV RX6 79 RX6 yX6_refusal wsX6_refusal) := goodIn_app (goodIn_of _ (by decide +kernel)) ggX6_why_X6_refusal
theorem dX6_why_0 : decode cX6_why 0 = .ok (.iload_n 1, 1) := by decide +kernel
theorem dX6_why_1 : decode cX6_why 1 = .ok (.iconst 0, 1) := by decide +kernel
theorem dX6_why_2 : decode cX6_why 2 = .ok (.iconst 1, 1) := by decide +kernel
theorem dX6_why_3 : decode cX6_why 3 = .ok (.invokestatic 95, 3) := by decide +kernel
theorem dX6_why_6 : decode cX6_why 6 = .ok (.ifCond .ne 10, 3) := by decide +kernel
theorem dX6_why_9 : decode cX6_why 9 = .ok (.aload_n 0, 1) := by decide +kernel
theorem dX6_why_10 : decode cX6_why 10 = .ok (.bipush (-2), 2) := by decide +kernel
theorem dX6_why_12 : decode cX6_why 12 = .ok (.invokevirtual 79, 3) := by decide +kernel
theorem dX6_why_15 : decode cX6_why 15 = .ok (.ireturn, 1) := by decide +kernel
theorem dX6_why_16 : decode cX6_why 16 = .ok (.iload_n 1, 1) := by decide +kernel
theorem dX6_why_17 : decode cX6_why 17 = .ok (.ifCond .ne 10, 3) := by decide +kernel
theorem dX6_why_20 : decode cX6_why 20 = .ok (.aload_n 0, 1) := by decide +kernel
theorem dX6_why_21 : decode cX6_why 21 = .ok (.getfield 64, 3) := by decide +kernel
theorem dX6_why_24 : decode cX6_why 24 = .ok (.goto 7, 3) := by decide +kernel
theorem dX6_why_27 : decode cX6_why 27 = .ok (.aload_n 0, 1) := by decide +kernel
theorem dX6_why_28 : decode cX6_why 28 = .ok (.getfield 68, 3) := by decide +kernel
theorem dX6_why_31 : decode cX6_why 31 = .ok (.ireturn, 1) := by decide +kernel
set_option maxRecDepth 20000 in
theorem ggX6_back_X4_goBack : GoodIn wsX6_back wsX4_goBack := goodIn_r _ [6, 7, 8, 9, 10, 11, 5, 12, 13, 14, 15, 16, 17, 18, 42, 43, 44, 45] (by decide +kernel) (by decide +kernel)
set_option maxRecDepth 20000 in
theorem gX6_back_X4_goBack : GoodIn wsX6_back (wsV RX6 170 RX4 yX4_goBack wsX4_goBack) := goodIn_app (goodIn_of _ (by decide +kernel)) ggX6_back_X4_goBack
set_option maxRecDepth 20000 in
theorem ggX6_back_X4_count : GoodIn wsX6_back wsX4_count := goodIn_r _ [22, 7, 42, 43, 44, 45] (by decide +kernel) (by decide +kernel)
set_option maxRecDepth 20000 in
theorem gX6_back_X4_count : GoodIn wsX6_back (wsV RX6 174 RX4 yX4_count wsX4_count) := goodIn_app (goodIn_of _ (by decide +kernel)) ggX6_back_X4_count
set_option maxRecDepth 20000 in
theorem ggX6_back_X6_refusal : GoodIn wsX6_back wsX6_refusal := goodIn_r _ [27, 28, 29, 30, 26, 31, 32, 33, 34, 35, 36, 37, 38, 39, 40, 41] (by decide +kernel) (by decide +kernel)
set_option maxRecDepth 20000 in
theorem gX6_back_X6_refusal : GoodIn wsX6_back (wsV RX6 79 RX6 yX6_refusal wsX6_refusal) := goodIn_app (goodIn_of _ (by decide +kernel)) ggX6_back_X6_refusal
theorem dX6_back_0 : decode cX6_back 0 = .ok (.aload_n 0, 1) := by decide +kernel
theorem dX6_back_1 : decode cX6_back 1 = .ok (.getfield 53, 3) := by decide +kernel
theorem dX6_back_4 : decode cX6_back 4 = .ok (.invokevirtual 170, 3) := by decide +kernel
theorem dX6_back_7 : decode cX6_back 7 = .ok (.ifCond .eq 13, 3) := by decide +kernel
theorem dX6_back_10 : decode cX6_back 10 = .ok (.aload_n 0, 1) := by decide +kernel
theorem dX6_back_11 : decode cX6_back 11 = .ok (.getfield 53, 3) := by decide +kernel
theorem dX6_back_14 : decode cX6_back 14 = .ok (.invokevirtual 174, 3) := by decide +kernel
theorem dX6_back_17 : decode cX6_back 17 = .ok (.goto 9, 3) := by decide +kernel
theorem dX6_back_20 : decode cX6_back 20 = .ok (.aload_n 0, 1) := by decide +kernel
theorem dX6_back_21 : decode cX6_back 21 = .ok (.bipush (-3), 2) := by decide +kernel
theorem dX6_back_23 : decode cX6_back 23 = .ok (.invokevirtual 79, 3) := by decide +kernel
theorem dX6_back_26 : decode cX6_back 26 = .ok (.ireturn, 1) := by decide +kernel
set_option maxRecDepth 20000 in
theorem ggX6_told_X5_length : GoodIn wsX6_told wsX5_length := goodIn_r _ [8, 9, 34, 35, 36, 37, 38, 39, 40] (by decide +kernel) (by decide +kernel)
set_option maxRecDepth 20000 in
theorem gX6_told_X5_length : GoodIn wsX6_told (wsV RX6 138 RX5 yX5_length wsX5_length) := goodIn_app (goodIn_of _ (by decide +kernel)) ggX6_told_X5_length
set_option maxRecDepth 20000 in
theorem ggX6_told_X4_count : GoodIn wsX6_told wsX4_count := goodIn_r _ [14, 15, 41, 42, 43, 44] (by decide +kernel) (by decide +kernel)
set_option maxRecDepth 20000 in
theorem gX6_told_X4_count : GoodIn wsX6_told (wsV RX6 174 RX4 yX4_count wsX4_count) := goodIn_app (goodIn_of _ (by decide +kernel)) ggX6_told_X4_count
set_option maxRecDepth 20000 in
theorem ggX6_told_X6_refusal : GoodIn wsX6_told wsX6_refusal := goodIn_r _ [20, 1, 21, 22, 19, 23, 24, 25, 26, 27, 28, 29, 30, 31, 32, 33] (by decide +kernel) (by decide +kernel)
set_option maxRecDepth 20000 in
theorem gX6_told_X6_refusal : GoodIn wsX6_told (wsV RX6 79 RX6 yX6_refusal wsX6_refusal) := goodIn_app (goodIn_of _ (by decide +kernel)) ggX6_told_X6_refusal
theorem dX6_told_0 : decode cX6_told 0 = .ok (.iload_n 1, 1) := by decide +kernel
theorem dX6_told_1 : decode cX6_told 1 = .ok (.tableswitch 58 0 4 #[35, 35, 35, 42, 50], 35) := by decide +kernel
theorem dX6_told_36 : decode cX6_told 36 = .ok (.aload_n 0, 1) := by decide +kernel
theorem dX6_told_37 : decode cX6_told 37 = .ok (.getfield 13, 3) := by decide +kernel
theorem dX6_told_40 : decode cX6_told 40 = .ok (.iload_n 1, 1) := by decide +kernel
theorem dX6_told_41 : decode cX6_told 41 = .ok (.iaload, 1) := by decide +kernel
theorem dX6_told_42 : decode cX6_told 42 = .ok (.ireturn, 1) := by decide +kernel
theorem dX6_told_43 : decode cX6_told 43 = .ok (.aload_n 0, 1) := by decide +kernel
theorem dX6_told_44 : decode cX6_told 44 = .ok (.getfield 60, 3) := by decide +kernel
theorem dX6_told_47 : decode cX6_told 47 = .ok (.invokevirtual 138, 3) := by decide +kernel
theorem dX6_told_50 : decode cX6_told 50 = .ok (.ireturn, 1) := by decide +kernel
theorem dX6_told_51 : decode cX6_told 51 = .ok (.aload_n 0, 1) := by decide +kernel
theorem dX6_told_52 : decode cX6_told 52 = .ok (.getfield 53, 3) := by decide +kernel
theorem dX6_told_55 : decode cX6_told 55 = .ok (.invokevirtual 174, 3) := by decide +kernel
theorem dX6_told_58 : decode cX6_told 58 = .ok (.ireturn, 1) := by decide +kernel
theorem dX6_told_59 : decode cX6_told 59 = .ok (.aload_n 0, 1) := by decide +kernel
theorem dX6_told_60 : decode cX6_told 60 = .ok (.bipush (-2), 2) := by decide +kernel
theorem dX6_told_62 : decode cX6_told 62 = .ok (.invokevirtual 79, 3) := by decide +kernel
theorem dX6_told_65 : decode cX6_told 65 = .ok (.ireturn, 1) := by decide +kernel
set_option maxRecDepth 20000 in
theorem ggX6_changed_X4_draft : GoodIn wsX6_changed wsX4_draft := goodIn_r _ [7, 8, 9, 10, 11, 12, 13, 14, 177, 178, 179, 180] (by decide +kernel) (by decide +kernel)
set_option maxRecDepth 20000 in
theorem gX6_changed_X4_draft : GoodIn wsX6_changed (wsV RX6 147 RX4 yX4_draft wsX4_draft) := goodIn_app (goodIn_of _ (by decide +kernel)) ggX6_changed_X4_draft
set_option maxRecDepth 20000 in
theorem ggX6_changed_X2_obey : GoodIn wsX6_changed wsX2_obey := goodIn_r _ [19, 20, 21, 22, 23, 18, 24, 25, 26, 27, 28, 29, 30, 31, 32, 33, 34, 35, 36, 37, 38, 39, 40, 41, 42, 43, 44, 45, 46, 47, 48, 49, 50, 51, 52, 53, 54, 55, 56, 57, 58, 59, 60, 61, 62, 63, 64, 65, 66, 67, 68, 69, 70, 71, 72, 73, 74, 75, 76, 77, 78, 79, 80, 81, 82, 83, 84, 85, 86, 87, 88, 89, 90, 91, 92, 93, 94, 95, 96, 97, 98, 99, 100, 101, 102, 103, 104, 105, 106, 107, 108, 109, 110, 111, 112, 113, 114, 115, 116, 117, 118, 119, 120, 121, 122, 123, 124, 125, 126, 127, 128, 129, 130, 131, 132, 133, 134, 135, 136, 137, 138, 139, 140, 141, 142, 143, 144, 145, 146, 147, 148, 149, 150, 151, 152, 153, 154, 181, 182, 183, 184, 185, 186, 187, 188, 189, 190] (by decide +kernel) (by decide +kernel)
set_option maxRecDepth 20000 in
theorem gX6_changed_X2_obey : GoodIn wsX6_changed (wsV RX6 161 RX2 yX2_obey wsX2_obey) := goodIn_app (goodIn_of _ (by decide +kernel)) ggX6_changed_X2_obey
set_option maxRecDepth 20000 in
theorem ggX6_changed_X6_refusal : GoodIn wsX6_changed wsX6_refusal := goodIn_r _ [158, 159, 160, 29, 27, 30, 167, 168, 169, 170, 171, 172, 173, 174, 175, 176] (by decide +kernel) (by decide +kernel)
set_option maxRecDepth 20000 in
theorem gX6_changed_X6_refusal : GoodIn wsX6_changed (wsV RX6 79 RX6 yX6_refusal wsX6_refusal) := goodIn_app (goodIn_of _ (by decide +kernel)) ggX6_changed_X6_refusal
set_option maxRecDepth 20000 in
theorem ggX6_changed_X4_keepDraft : GoodIn wsX6_changed wsX4_keepDraft := goodIn_r _ [164, 10, 165, 166, 128, 67, 129, 177, 178, 179, 180] (by decide +kernel) (by decide +kernel)
set_option maxRecDepth 20000 in
theorem gX6_changed_X4_keepDraft : GoodIn wsX6_changed (wsV RX6 167 RX4 yX4_keepDraft wsX4_keepDraft) := goodIn_app (goodIn_of _ (by decide +kernel)) ggX6_changed_X4_keepDraft
theorem dX6_changed_0 : decode cX6_changed 0 = .ok (.aload_n 0, 1) := by decide +kernel
theorem dX6_changed_1 : decode cX6_changed 1 = .ok (.getfield 53, 3) := by decide +kernel
theorem dX6_changed_4 : decode cX6_changed 4 = .ok (.invokevirtual 147, 3) := by decide +kernel
theorem dX6_changed_7 : decode cX6_changed 7 = .ok (.aload_n 0, 1) := by decide +kernel
theorem dX6_changed_8 : decode cX6_changed 8 = .ok (.getfield 46, 3) := by decide +kernel
theorem dX6_changed_11 : decode cX6_changed 11 = .ok (.iload_n 1, 1) := by decide +kernel
theorem dX6_changed_12 : decode cX6_changed 12 = .ok (.iload_n 2, 1) := by decide +kernel
theorem dX6_changed_13 : decode cX6_changed 13 = .ok (.iload_n 3, 1) := by decide +kernel
theorem dX6_changed_14 : decode cX6_changed 14 = .ok (.invokevirtual 161, 3) := by decide +kernel
theorem dX6_changed_17 : decode cX6_changed 17 = .ok (.istore 4, 2) := by decide +kernel
theorem dX6_changed_19 : decode cX6_changed 19 = .ok (.iload 4, 2) := by decide +kernel
theorem dX6_changed_21 : decode cX6_changed 21 = .ok (.ifCond .ge 10, 3) := by decide +kernel
theorem dX6_changed_24 : decode cX6_changed 24 = .ok (.aload_n 0, 1) := by decide +kernel
theorem dX6_changed_25 : decode cX6_changed 25 = .ok (.iload 4, 2) := by decide +kernel
theorem dX6_changed_27 : decode cX6_changed 27 = .ok (.invokevirtual 79, 3) := by decide +kernel
theorem dX6_changed_30 : decode cX6_changed 30 = .ok (.ireturn, 1) := by decide +kernel
theorem dX6_changed_31 : decode cX6_changed 31 = .ok (.aload_n 0, 1) := by decide +kernel
theorem dX6_changed_32 : decode cX6_changed 32 = .ok (.getfield 53, 3) := by decide +kernel
theorem dX6_changed_35 : decode cX6_changed 35 = .ok (.invokevirtual 167, 3) := by decide +kernel
theorem dX6_changed_38 : decode cX6_changed 38 = .ok (.iload 4, 2) := by decide +kernel
theorem dX6_changed_40 : decode cX6_changed 40 = .ok (.ireturn, 1) := by decide +kernel
set_option maxRecDepth 20000 in
theorem ggX6_refusal_X6_isWithin : GoodIn wsX6_refusal wsX6_isWithin := goodIn_r _ [5] (by decide +kernel) (by decide +kernel)
set_option maxRecDepth 20000 in
theorem gX6_refusal_X6_isWithin : GoodIn wsX6_refusal (va_wsS RX6 95 yX6_isWithin wsX6_isWithin) := goodIn_app (goodIn_of _ (by decide +kernel)) ggX6_refusal_X6_isWithin
theorem dX6_refusal_0 : decode cX6_refusal 0 = .ok (.iload_n 1, 1) := by decide +kernel
theorem dX6_refusal_1 : decode cX6_refusal 1 = .ok (.bipush (-4), 2) := by decide +kernel
theorem dX6_refusal_3 : decode cX6_refusal 3 = .ok (.bipush (-2), 2) := by decide +kernel
theorem dX6_refusal_5 : decode cX6_refusal 5 = .ok (.invokestatic 95, 3) := by decide +kernel
theorem dX6_refusal_8 : decode cX6_refusal 8 = .ok (.ifCond .eq 16, 3) := by decide +kernel
theorem dX6_refusal_11 : decode cX6_refusal 11 = .ok (.aload_n 0, 1) := by decide +kernel
theorem dX6_refusal_12 : decode cX6_refusal 12 = .ok (.getfield 13, 3) := by decide +kernel
theorem dX6_refusal_15 : decode cX6_refusal 15 = .ok (.bipush (-2), 2) := by decide +kernel
theorem dX6_refusal_17 : decode cX6_refusal 17 = .ok (.iload_n 1, 1) := by decide +kernel
theorem dX6_refusal_18 : decode cX6_refusal 18 = .ok (.isub, 1) := by decide +kernel
theorem dX6_refusal_19 : decode cX6_refusal 19 = .ok (.dup2, 1) := by decide +kernel
theorem dX6_refusal_20 : decode cX6_refusal 20 = .ok (.iaload, 1) := by decide +kernel
theorem dX6_refusal_21 : decode cX6_refusal 21 = .ok (.iconst 1, 1) := by decide +kernel
theorem dX6_refusal_22 : decode cX6_refusal 22 = .ok (.iadd, 1) := by decide +kernel
theorem dX6_refusal_23 : decode cX6_refusal 23 = .ok (.iastore, 1) := by decide +kernel
theorem dX6_refusal_24 : decode cX6_refusal 24 = .ok (.iload_n 1, 1) := by decide +kernel
theorem dX6_refusal_25 : decode cX6_refusal 25 = .ok (.ireturn, 1) := by decide +kernel
theorem dX6_isWithin_0 : decode cX6_isWithin 0 = .ok (.iload_n 0, 1) := by decide +kernel
theorem dX6_isWithin_1 : decode cX6_isWithin 1 = .ok (.iload_n 1, 1) := by decide +kernel
theorem dX6_isWithin_2 : decode cX6_isWithin 2 = .ok (.if_icmp .lt 12, 3) := by decide +kernel
theorem dX6_isWithin_5 : decode cX6_isWithin 5 = .ok (.iload_n 0, 1) := by decide +kernel
theorem dX6_isWithin_6 : decode cX6_isWithin 6 = .ok (.iload_n 2, 1) := by decide +kernel
theorem dX6_isWithin_7 : decode cX6_isWithin 7 = .ok (.if_icmp .gt 7, 3) := by decide +kernel
theorem dX6_isWithin_10 : decode cX6_isWithin 10 = .ok (.iconst 1, 1) := by decide +kernel
theorem dX6_isWithin_11 : decode cX6_isWithin 11 = .ok (.goto 4, 3) := by decide +kernel
theorem dX6_isWithin_14 : decode cX6_isWithin 14 = .ok (.iconst 0, 1) := by decide +kernel
theorem dX6_isWithin_15 : decode cX6_isWithin 15 = .ok (.ireturn, 1) := by decide +kernel
theorem dX6_isGear_0 : decode cX6_isGear 0 = .ok (.iload_n 0, 1) := by decide +kernel
theorem dX6_isGear_1 : decode cX6_isGear 1 = .ok (.iconst 1, 1) := by decide +kernel
theorem dX6_isGear_2 : decode cX6_isGear 2 = .ok (.if_icmp .lt 13, 3) := by decide +kernel
theorem dX6_isGear_5 : decode cX6_isGear 5 = .ok (.iload_n 0, 1) := by decide +kernel
theorem dX6_isGear_6 : decode cX6_isGear 6 = .ok (.bipush 7, 2) := by decide +kernel
theorem dX6_isGear_8 : decode cX6_isGear 8 = .ok (.if_icmp .gt 7, 3) := by decide +kernel
theorem dX6_isGear_11 : decode cX6_isGear 11 = .ok (.iconst 1, 1) := by decide +kernel
theorem dX6_isGear_12 : decode cX6_isGear 12 = .ok (.goto 4, 3) := by decide +kernel
theorem dX6_isGear_15 : decode cX6_isGear 15 = .ok (.iconst 0, 1) := by decide +kernel
theorem dX6_isGear_16 : decode cX6_isGear 16 = .ok (.ireturn, 1) := by decide +kernel
theorem dX6_isClutch_0 : decode cX6_isClutch 0 = .ok (.iload_n 0, 1) := by decide +kernel
theorem dX6_isClutch_1 : decode cX6_isClutch 1 = .ok (.ifCond .lt 12, 3) := by decide +kernel
theorem dX6_isClutch_4 : decode cX6_isClutch 4 = .ok (.iload_n 0, 1) := by decide +kernel
theorem dX6_isClutch_5 : decode cX6_isClutch 5 = .ok (.iconst 5, 1) := by decide +kernel
theorem dX6_isClutch_6 : decode cX6_isClutch 6 = .ok (.if_icmp .ge 7, 3) := by decide +kernel
theorem dX6_isClutch_9 : decode cX6_isClutch 9 = .ok (.iconst 1, 1) := by decide +kernel
theorem dX6_isClutch_10 : decode cX6_isClutch 10 = .ok (.goto 4, 3) := by decide +kernel
theorem dX6_isClutch_13 : decode cX6_isClutch 13 = .ok (.iconst 0, 1) := by decide +kernel
theorem dX6_isClutch_14 : decode cX6_isClutch 14 = .ok (.ireturn, 1) := by decide +kernel
set_option maxRecDepth 20000 in
theorem ggX6_arePair_X6_isGear : GoodIn wsX6_arePair wsX6_isGear := goodIn_r _ [4] (by decide +kernel) (by decide +kernel)
set_option maxRecDepth 20000 in
theorem gX6_arePair_X6_isGear : GoodIn wsX6_arePair (va_wsS RX6 75 yX6_isGear wsX6_isGear) := goodIn_app (goodIn_of _ (by decide +kernel)) ggX6_arePair_X6_isGear
theorem dX6_arePair_0 : decode cX6_arePair 0 = .ok (.iload_n 0, 1) := by decide +kernel
theorem dX6_arePair_1 : decode cX6_arePair 1 = .ok (.invokestatic 75, 3) := by decide +kernel
theorem dX6_arePair_4 : decode cX6_arePair 4 = .ok (.ifCond .eq 19, 3) := by decide +kernel
theorem dX6_arePair_7 : decode cX6_arePair 7 = .ok (.iload_n 1, 1) := by decide +kernel
theorem dX6_arePair_8 : decode cX6_arePair 8 = .ok (.invokestatic 75, 3) := by decide +kernel
theorem dX6_arePair_11 : decode cX6_arePair 11 = .ok (.ifCond .eq 12, 3) := by decide +kernel
theorem dX6_arePair_14 : decode cX6_arePair 14 = .ok (.iload_n 0, 1) := by decide +kernel
theorem dX6_arePair_15 : decode cX6_arePair 15 = .ok (.iload_n 1, 1) := by decide +kernel
theorem dX6_arePair_16 : decode cX6_arePair 16 = .ok (.if_icmp .eq 7, 3) := by decide +kernel
theorem dX6_arePair_19 : decode cX6_arePair 19 = .ok (.iconst 1, 1) := by decide +kernel
theorem dX6_arePair_20 : decode cX6_arePair 20 = .ok (.goto 4, 3) := by decide +kernel
theorem dX6_arePair_23 : decode cX6_arePair 23 = .ok (.iconst 0, 1) := by decide +kernel
theorem dX6_arePair_24 : decode cX6_arePair 24 = .ok (.ireturn, 1) := by decide +kernel
theorem dJ6_numberOfTrailingZeros_0f7a4_0 : decode cJ6_numberOfTrailingZeros_0f7a4 0 = .ok (.iload_n 0, 1) := by decide +kernel
theorem dJ6_numberOfTrailingZeros_0f7a4_1 : decode cJ6_numberOfTrailingZeros_0f7a4 1 = .ok (.iconst (-1), 1) := by decide +kernel
theorem dJ6_numberOfTrailingZeros_0f7a4_2 : decode cJ6_numberOfTrailingZeros_0f7a4 2 = .ok (.ixor, 1) := by decide +kernel
theorem dJ6_numberOfTrailingZeros_0f7a4_3 : decode cJ6_numberOfTrailingZeros_0f7a4 3 = .ok (.iload_n 0, 1) := by decide +kernel
theorem dJ6_numberOfTrailingZeros_0f7a4_4 : decode cJ6_numberOfTrailingZeros_0f7a4 4 = .ok (.iconst 1, 1) := by decide +kernel
theorem dJ6_numberOfTrailingZeros_0f7a4_5 : decode cJ6_numberOfTrailingZeros_0f7a4 5 = .ok (.isub, 1) := by decide +kernel
theorem dJ6_numberOfTrailingZeros_0f7a4_6 : decode cJ6_numberOfTrailingZeros_0f7a4 6 = .ok (.iand, 1) := by decide +kernel
theorem dJ6_numberOfTrailingZeros_0f7a4_7 : decode cJ6_numberOfTrailingZeros_0f7a4 7 = .ok (.istore_n 0, 1) := by decide +kernel
theorem dJ6_numberOfTrailingZeros_0f7a4_8 : decode cJ6_numberOfTrailingZeros_0f7a4 8 = .ok (.iload_n 0, 1) := by decide +kernel
theorem dJ6_numberOfTrailingZeros_0f7a4_9 : decode cJ6_numberOfTrailingZeros_0f7a4 9 = .ok (.ifCond .gt 8, 3) := by decide +kernel
theorem dJ6_numberOfTrailingZeros_0f7a4_12 : decode cJ6_numberOfTrailingZeros_0f7a4 12 = .ok (.iload_n 0, 1) := by decide +kernel
theorem dJ6_numberOfTrailingZeros_0f7a4_13 : decode cJ6_numberOfTrailingZeros_0f7a4 13 = .ok (.bipush 32, 2) := by decide +kernel
theorem dJ6_numberOfTrailingZeros_0f7a4_15 : decode cJ6_numberOfTrailingZeros_0f7a4 15 = .ok (.iand, 1) := by decide +kernel
theorem dJ6_numberOfTrailingZeros_0f7a4_16 : decode cJ6_numberOfTrailingZeros_0f7a4 16 = .ok (.ireturn, 1) := by decide +kernel
theorem dJ6_numberOfTrailingZeros_0f7a4_17 : decode cJ6_numberOfTrailingZeros_0f7a4 17 = .ok (.iconst 1, 1) := by decide +kernel
theorem dJ6_numberOfTrailingZeros_0f7a4_18 : decode cJ6_numberOfTrailingZeros_0f7a4 18 = .ok (.istore_n 1, 1) := by decide +kernel
theorem dJ6_numberOfTrailingZeros_0f7a4_19 : decode cJ6_numberOfTrailingZeros_0f7a4 19 = .ok (.iload_n 0, 1) := by decide +kernel
theorem dJ6_numberOfTrailingZeros_0f7a4_20 : decode cJ6_numberOfTrailingZeros_0f7a4 20 = .ok (.ldc_w 264, 3) := by decide +kernel
theorem dJ6_numberOfTrailingZeros_0f7a4_23 : decode cJ6_numberOfTrailingZeros_0f7a4 23 = .ok (.if_icmp .le 11, 3) := by decide +kernel
theorem dJ6_numberOfTrailingZeros_0f7a4_26 : decode cJ6_numberOfTrailingZeros_0f7a4 26 = .ok (.iinc 1 16, 3) := by decide +kernel
theorem dJ6_numberOfTrailingZeros_0f7a4_29 : decode cJ6_numberOfTrailingZeros_0f7a4 29 = .ok (.iload_n 0, 1) := by decide +kernel
theorem dJ6_numberOfTrailingZeros_0f7a4_30 : decode cJ6_numberOfTrailingZeros_0f7a4 30 = .ok (.bipush 16, 2) := by decide +kernel
theorem dJ6_numberOfTrailingZeros_0f7a4_32 : decode cJ6_numberOfTrailingZeros_0f7a4 32 = .ok (.iushr, 1) := by decide +kernel
theorem dJ6_numberOfTrailingZeros_0f7a4_33 : decode cJ6_numberOfTrailingZeros_0f7a4 33 = .ok (.istore_n 0, 1) := by decide +kernel
theorem dJ6_numberOfTrailingZeros_0f7a4_34 : decode cJ6_numberOfTrailingZeros_0f7a4 34 = .ok (.iload_n 0, 1) := by decide +kernel
theorem dJ6_numberOfTrailingZeros_0f7a4_35 : decode cJ6_numberOfTrailingZeros_0f7a4 35 = .ok (.sipush 256, 3) := by decide +kernel
theorem dJ6_numberOfTrailingZeros_0f7a4_38 : decode cJ6_numberOfTrailingZeros_0f7a4 38 = .ok (.if_icmp .le 11, 3) := by decide +kernel
theorem dJ6_numberOfTrailingZeros_0f7a4_41 : decode cJ6_numberOfTrailingZeros_0f7a4 41 = .ok (.iinc 1 8, 3) := by decide +kernel
theorem dJ6_numberOfTrailingZeros_0f7a4_44 : decode cJ6_numberOfTrailingZeros_0f7a4 44 = .ok (.iload_n 0, 1) := by decide +kernel
theorem dJ6_numberOfTrailingZeros_0f7a4_45 : decode cJ6_numberOfTrailingZeros_0f7a4 45 = .ok (.bipush 8, 2) := by decide +kernel
theorem dJ6_numberOfTrailingZeros_0f7a4_47 : decode cJ6_numberOfTrailingZeros_0f7a4 47 = .ok (.iushr, 1) := by decide +kernel
theorem dJ6_numberOfTrailingZeros_0f7a4_48 : decode cJ6_numberOfTrailingZeros_0f7a4 48 = .ok (.istore_n 0, 1) := by decide +kernel
theorem dJ6_numberOfTrailingZeros_0f7a4_49 : decode cJ6_numberOfTrailingZeros_0f7a4 49 = .ok (.iload_n 0, 1) := by decide +kernel
theorem dJ6_numberOfTrailingZeros_0f7a4_50 : decode cJ6_numberOfTrailingZeros_0f7a4 50 = .ok (.bipush 16, 2) := by decide +kernel
theorem dJ6_numberOfTrailingZeros_0f7a4_52 : decode cJ6_numberOfTrailingZeros_0f7a4 52 = .ok (.if_icmp .le 10, 3) := by decide +kernel
theorem dJ6_numberOfTrailingZeros_0f7a4_55 : decode cJ6_numberOfTrailingZeros_0f7a4 55 = .ok (.iinc 1 4, 3) := by decide +kernel
theorem dJ6_numberOfTrailingZeros_0f7a4_58 : decode cJ6_numberOfTrailingZeros_0f7a4 58 = .ok (.iload_n 0, 1) := by decide +kernel
theorem dJ6_numberOfTrailingZeros_0f7a4_59 : decode cJ6_numberOfTrailingZeros_0f7a4 59 = .ok (.iconst 4, 1) := by decide +kernel
theorem dJ6_numberOfTrailingZeros_0f7a4_60 : decode cJ6_numberOfTrailingZeros_0f7a4 60 = .ok (.iushr, 1) := by decide +kernel
theorem dJ6_numberOfTrailingZeros_0f7a4_61 : decode cJ6_numberOfTrailingZeros_0f7a4 61 = .ok (.istore_n 0, 1) := by decide +kernel
theorem dJ6_numberOfTrailingZeros_0f7a4_62 : decode cJ6_numberOfTrailingZeros_0f7a4 62 = .ok (.iload_n 0, 1) := by decide +kernel
theorem dJ6_numberOfTrailingZeros_0f7a4_63 : decode cJ6_numberOfTrailingZeros_0f7a4 63 = .ok (.iconst 4, 1) := by decide +kernel
theorem dJ6_numberOfTrailingZeros_0f7a4_64 : decode cJ6_numberOfTrailingZeros_0f7a4 64 = .ok (.if_icmp .le 10, 3) := by decide +kernel
theorem dJ6_numberOfTrailingZeros_0f7a4_67 : decode cJ6_numberOfTrailingZeros_0f7a4 67 = .ok (.iinc 1 2, 3) := by decide +kernel
theorem dJ6_numberOfTrailingZeros_0f7a4_70 : decode cJ6_numberOfTrailingZeros_0f7a4 70 = .ok (.iload_n 0, 1) := by decide +kernel
theorem dJ6_numberOfTrailingZeros_0f7a4_71 : decode cJ6_numberOfTrailingZeros_0f7a4 71 = .ok (.iconst 2, 1) := by decide +kernel
theorem dJ6_numberOfTrailingZeros_0f7a4_72 : decode cJ6_numberOfTrailingZeros_0f7a4 72 = .ok (.iushr, 1) := by decide +kernel
theorem dJ6_numberOfTrailingZeros_0f7a4_73 : decode cJ6_numberOfTrailingZeros_0f7a4 73 = .ok (.istore_n 0, 1) := by decide +kernel
theorem dJ6_numberOfTrailingZeros_0f7a4_74 : decode cJ6_numberOfTrailingZeros_0f7a4 74 = .ok (.iload_n 1, 1) := by decide +kernel
theorem dJ6_numberOfTrailingZeros_0f7a4_75 : decode cJ6_numberOfTrailingZeros_0f7a4 75 = .ok (.iload_n 0, 1) := by decide +kernel
theorem dJ6_numberOfTrailingZeros_0f7a4_76 : decode cJ6_numberOfTrailingZeros_0f7a4 76 = .ok (.iconst 1, 1) := by decide +kernel
theorem dJ6_numberOfTrailingZeros_0f7a4_77 : decode cJ6_numberOfTrailingZeros_0f7a4 77 = .ok (.iushr, 1) := by decide +kernel
theorem dJ6_numberOfTrailingZeros_0f7a4_78 : decode cJ6_numberOfTrailingZeros_0f7a4 78 = .ok (.iadd, 1) := by decide +kernel
theorem dJ6_numberOfTrailingZeros_0f7a4_79 : decode cJ6_numberOfTrailingZeros_0f7a4 79 = .ok (.ireturn, 1) := by decide +kernel
theorem dJ6_bitCount_0f7a4_0 : decode cJ6_bitCount_0f7a4 0 = .ok (.iload_n 0, 1) := by decide +kernel
theorem dJ6_bitCount_0f7a4_1 : decode cJ6_bitCount_0f7a4 1 = .ok (.iload_n 0, 1) := by decide +kernel
theorem dJ6_bitCount_0f7a4_2 : decode cJ6_bitCount_0f7a4 2 = .ok (.iconst 1, 1) := by decide +kernel
theorem dJ6_bitCount_0f7a4_3 : decode cJ6_bitCount_0f7a4 3 = .ok (.iushr, 1) := by decide +kernel
theorem dJ6_bitCount_0f7a4_4 : decode cJ6_bitCount_0f7a4 4 = .ok (.ldc_w 265, 3) := by decide +kernel
theorem dJ6_bitCount_0f7a4_7 : decode cJ6_bitCount_0f7a4 7 = .ok (.iand, 1) := by decide +kernel
theorem dJ6_bitCount_0f7a4_8 : decode cJ6_bitCount_0f7a4 8 = .ok (.isub, 1) := by decide +kernel
theorem dJ6_bitCount_0f7a4_9 : decode cJ6_bitCount_0f7a4 9 = .ok (.istore_n 0, 1) := by decide +kernel
theorem dJ6_bitCount_0f7a4_10 : decode cJ6_bitCount_0f7a4 10 = .ok (.iload_n 0, 1) := by decide +kernel
theorem dJ6_bitCount_0f7a4_11 : decode cJ6_bitCount_0f7a4 11 = .ok (.ldc_w 266, 3) := by decide +kernel
theorem dJ6_bitCount_0f7a4_14 : decode cJ6_bitCount_0f7a4 14 = .ok (.iand, 1) := by decide +kernel
theorem dJ6_bitCount_0f7a4_15 : decode cJ6_bitCount_0f7a4 15 = .ok (.iload_n 0, 1) := by decide +kernel
theorem dJ6_bitCount_0f7a4_16 : decode cJ6_bitCount_0f7a4 16 = .ok (.iconst 2, 1) := by decide +kernel
theorem dJ6_bitCount_0f7a4_17 : decode cJ6_bitCount_0f7a4 17 = .ok (.iushr, 1) := by decide +kernel
theorem dJ6_bitCount_0f7a4_18 : decode cJ6_bitCount_0f7a4 18 = .ok (.ldc_w 266, 3) := by decide +kernel
theorem dJ6_bitCount_0f7a4_21 : decode cJ6_bitCount_0f7a4 21 = .ok (.iand, 1) := by decide +kernel
theorem dJ6_bitCount_0f7a4_22 : decode cJ6_bitCount_0f7a4 22 = .ok (.iadd, 1) := by decide +kernel
theorem dJ6_bitCount_0f7a4_23 : decode cJ6_bitCount_0f7a4 23 = .ok (.istore_n 0, 1) := by decide +kernel
theorem dJ6_bitCount_0f7a4_24 : decode cJ6_bitCount_0f7a4 24 = .ok (.iload_n 0, 1) := by decide +kernel
theorem dJ6_bitCount_0f7a4_25 : decode cJ6_bitCount_0f7a4 25 = .ok (.iload_n 0, 1) := by decide +kernel
theorem dJ6_bitCount_0f7a4_26 : decode cJ6_bitCount_0f7a4 26 = .ok (.iconst 4, 1) := by decide +kernel
theorem dJ6_bitCount_0f7a4_27 : decode cJ6_bitCount_0f7a4 27 = .ok (.iushr, 1) := by decide +kernel
theorem dJ6_bitCount_0f7a4_28 : decode cJ6_bitCount_0f7a4 28 = .ok (.iadd, 1) := by decide +kernel
theorem dJ6_bitCount_0f7a4_29 : decode cJ6_bitCount_0f7a4 29 = .ok (.ldc_w 267, 3) := by decide +kernel
theorem dJ6_bitCount_0f7a4_32 : decode cJ6_bitCount_0f7a4 32 = .ok (.iand, 1) := by decide +kernel
theorem dJ6_bitCount_0f7a4_33 : decode cJ6_bitCount_0f7a4 33 = .ok (.istore_n 0, 1) := by decide +kernel
theorem dJ6_bitCount_0f7a4_34 : decode cJ6_bitCount_0f7a4 34 = .ok (.iload_n 0, 1) := by decide +kernel
theorem dJ6_bitCount_0f7a4_35 : decode cJ6_bitCount_0f7a4 35 = .ok (.iload_n 0, 1) := by decide +kernel
theorem dJ6_bitCount_0f7a4_36 : decode cJ6_bitCount_0f7a4 36 = .ok (.bipush 8, 2) := by decide +kernel
theorem dJ6_bitCount_0f7a4_38 : decode cJ6_bitCount_0f7a4 38 = .ok (.iushr, 1) := by decide +kernel
theorem dJ6_bitCount_0f7a4_39 : decode cJ6_bitCount_0f7a4 39 = .ok (.iadd, 1) := by decide +kernel
theorem dJ6_bitCount_0f7a4_40 : decode cJ6_bitCount_0f7a4 40 = .ok (.istore_n 0, 1) := by decide +kernel
theorem dJ6_bitCount_0f7a4_41 : decode cJ6_bitCount_0f7a4 41 = .ok (.iload_n 0, 1) := by decide +kernel
theorem dJ6_bitCount_0f7a4_42 : decode cJ6_bitCount_0f7a4 42 = .ok (.iload_n 0, 1) := by decide +kernel
theorem dJ6_bitCount_0f7a4_43 : decode cJ6_bitCount_0f7a4 43 = .ok (.bipush 16, 2) := by decide +kernel
theorem dJ6_bitCount_0f7a4_45 : decode cJ6_bitCount_0f7a4 45 = .ok (.iushr, 1) := by decide +kernel
theorem dJ6_bitCount_0f7a4_46 : decode cJ6_bitCount_0f7a4 46 = .ok (.iadd, 1) := by decide +kernel
theorem dJ6_bitCount_0f7a4_47 : decode cJ6_bitCount_0f7a4 47 = .ok (.istore_n 0, 1) := by decide +kernel
theorem dJ6_bitCount_0f7a4_48 : decode cJ6_bitCount_0f7a4 48 = .ok (.iload_n 0, 1) := by decide +kernel
theorem dJ6_bitCount_0f7a4_49 : decode cJ6_bitCount_0f7a4 49 = .ok (.bipush 63, 2) := by decide +kernel
theorem dJ6_bitCount_0f7a4_51 : decode cJ6_bitCount_0f7a4 51 = .ok (.iand, 1) := by decide +kernel
theorem dJ6_bitCount_0f7a4_52 : decode cJ6_bitCount_0f7a4 52 = .ok (.ireturn, 1) := by decide +kernel
theorem dJ9_max_7cf53_0 : decode cJ9_max_7cf53 0 = .ok (.iload_n 0, 1) := by decide +kernel
theorem dJ9_max_7cf53_1 : decode cJ9_max_7cf53 1 = .ok (.iload_n 1, 1) := by decide +kernel
theorem dJ9_max_7cf53_2 : decode cJ9_max_7cf53 2 = .ok (.if_icmp .lt 7, 3) := by decide +kernel
theorem dJ9_max_7cf53_5 : decode cJ9_max_7cf53 5 = .ok (.iload_n 0, 1) := by decide +kernel
theorem dJ9_max_7cf53_6 : decode cJ9_max_7cf53 6 = .ok (.goto 4, 3) := by decide +kernel
theorem dJ9_max_7cf53_9 : decode cJ9_max_7cf53 9 = .ok (.iload_n 1, 1) := by decide +kernel
theorem dJ9_max_7cf53_10 : decode cJ9_max_7cf53 10 = .ok (.ireturn, 1) := by decide +kernel
theorem dJ9_min_7cf53_0 : decode cJ9_min_7cf53 0 = .ok (.iload_n 0, 1) := by decide +kernel
theorem dJ9_min_7cf53_1 : decode cJ9_min_7cf53 1 = .ok (.iload_n 1, 1) := by decide +kernel
theorem dJ9_min_7cf53_2 : decode cJ9_min_7cf53 2 = .ok (.if_icmp .gt 7, 3) := by decide +kernel
theorem dJ9_min_7cf53_5 : decode cJ9_min_7cf53 5 = .ok (.iload_n 0, 1) := by decide +kernel
theorem dJ9_min_7cf53_6 : decode cJ9_min_7cf53 6 = .ok (.goto 4, 3) := by decide +kernel
theorem dJ9_min_7cf53_9 : decode cJ9_min_7cf53 9 = .ok (.iload_n 1, 1) := by decide +kernel
theorem dJ9_min_7cf53_10 : decode cJ9_min_7cf53 10 = .ok (.ireturn, 1) := by decide +kernel
