theorem dX3_learn_18 : decode cX3_learn 18 = .ok (.iastore, 1) := by decide +kernel
theorem dX3_learn_19 : decode cX3_learn 19 = .ok (.aload_n 0, 1) := by decide +kernel
theorem dX3_learn_20 : decode cX3_learn 20 = .ok (.iload_n 1, 1) := by decide +kernel
theorem dX3_learn_21 : decode cX3_learn 21 = .ok (.invokevirtual 31, 3) := by decide +kernel
theorem dX3_learn_24 : decode cX3_learn 24 = .ok (.aload_n 0, 1) := by decide +kernel
theorem dX3_learn_25 : decode cX3_learn 25 = .ok (.getfield 9, 3) := by decide +kernel
theorem dX3_learn_28 : decode cX3_learn 28 = .ok (.bipush 50, 2) := by decide +kernel
theorem dX3_learn_30 : decode cX3_learn 30 = .ok (.iaload, 1) := by decide +kernel
theorem dX3_learn_31 : decode cX3_learn 31 = .ok (.if_icmp .le 42, 3) := by decide +kernel
theorem dX3_learn_34 : decode cX3_learn 34 = .ok (.aload_n 0, 1) := by decide +kernel
theorem dX3_learn_35 : decode cX3_learn 35 = .ok (.getfield 9, 3) := by decide +kernel
theorem dX3_learn_38 : decode cX3_learn 38 = .ok (.bipush 44, 2) := by decide +kernel
theorem dX3_learn_40 : decode cX3_learn 40 = .ok (.dup2, 1) := by decide +kernel
theorem dX3_learn_41 : decode cX3_learn 41 = .ok (.iaload, 1) := by decide +kernel
theorem dX3_learn_42 : decode cX3_learn 42 = .ok (.iconst 1, 1) := by decide +kernel
theorem dX3_learn_43 : decode cX3_learn 43 = .ok (.iadd, 1) := by decide +kernel
theorem dX3_learn_44 : decode cX3_learn 44 = .ok (.iastore, 1) := by decide +kernel
theorem dX3_learn_45 : decode cX3_learn 45 = .ok (.aload_n 0, 1) := by decide +kernel
theorem dX3_learn_46 : decode cX3_learn 46 = .ok (.getfield 9, 3) := by decide +kernel
theorem dX3_learn_49 : decode cX3_learn 49 = .ok (.bipush 34, 2) := by decide +kernel
theorem dX3_learn_51 : decode cX3_learn 51 = .ok (.iload_n 1, 1) := by decide +kernel
theorem dX3_learn_52 : decode cX3_learn 52 = .ok (.iadd, 1) := by decide +kernel
theorem dX3_learn_53 : decode cX3_learn 53 = .ok (.bipush 20, 2) := by decide +kernel
theorem dX3_learn_55 : decode cX3_learn 55 = .ok (.aload_n 0, 1) := by decide +kernel
theorem dX3_learn_56 : decode cX3_learn 56 = .ok (.getfield 9, 3) := by decide +kernel
theorem dX3_learn_59 : decode cX3_learn 59 = .ok (.bipush 34, 2) := by decide +kernel
theorem dX3_learn_61 : decode cX3_learn 61 = .ok (.iload_n 1, 1) := by decide +kernel
theorem dX3_learn_62 : decode cX3_learn 62 = .ok (.iadd, 1) := by decide +kernel
theorem dX3_learn_63 : decode cX3_learn 63 = .ok (.iaload, 1) := by decide +kernel
theorem dX3_learn_64 : decode cX3_learn 64 = .ok (.iconst 1, 1) := by decide +kernel
theorem dX3_learn_65 : decode cX3_learn 65 = .ok (.iadd, 1) := by decide +kernel
theorem dX3_learn_66 : decode cX3_learn 66 = .ok (.invokestatic 25, 3) := by decide +kernel
theorem dX3_learn_69 : decode cX3_learn 69 = .ok (.iastore, 1) := by decide +kernel
theorem dX3_learn_70 : decode cX3_learn 70 = .ok (.goto 53, 3) := by decide +kernel
theorem dX3_learn_73 : decode cX3_learn 73 = .ok (.aload_n 0, 1) := by decide +kernel
theorem dX3_learn_74 : decode cX3_learn 74 = .ok (.iload_n 1, 1) := by decide +kernel
theorem dX3_learn_75 : decode cX3_learn 75 = .ok (.invokevirtual 35, 3) := by decide +kernel
theorem dX3_learn_78 : decode cX3_learn 78 = .ok (.aload_n 0, 1) := by decide +kernel
theorem dX3_learn_79 : decode cX3_learn 79 = .ok (.getfield 9, 3) := by decide +kernel
theorem dX3_learn_82 : decode cX3_learn 82 = .ok (.bipush 50, 2) := by decide +kernel
theorem dX3_learn_84 : decode cX3_learn 84 = .ok (.iaload, 1) := by decide +kernel
theorem dX3_learn_85 : decode cX3_learn 85 = .ok (.if_icmp .le 38, 3) := by decide +kernel
theorem dX3_learn_88 : decode cX3_learn 88 = .ok (.aload_n 0, 1) := by decide +kernel
theorem dX3_learn_89 : decode cX3_learn 89 = .ok (.getfield 9, 3) := by decide +kernel
theorem dX3_learn_92 : decode cX3_learn 92 = .ok (.bipush 45, 2) := by decide +kernel
theorem dX3_learn_94 : decode cX3_learn 94 = .ok (.dup2, 1) := by decide +kernel
theorem dX3_learn_95 : decode cX3_learn 95 = .ok (.iaload, 1) := by decide +kernel
theorem dX3_learn_96 : decode cX3_learn 96 = .ok (.iconst 1, 1) := by decide +kernel
theorem dX3_learn_97 : decode cX3_learn 97 = .ok (.iadd, 1) := by decide +kernel
theorem dX3_learn_98 : decode cX3_learn 98 = .ok (.iastore, 1) := by decide +kernel
theorem dX3_learn_99 : decode cX3_learn 99 = .ok (.aload_n 0, 1) := by decide +kernel
theorem dX3_learn_100 : decode cX3_learn 100 = .ok (.getfield 9, 3) := by decide +kernel
theorem dX3_learn_103 : decode cX3_learn 103 = .ok (.bipush 34, 2) := by decide +kernel
theorem dX3_learn_105 : decode cX3_learn 105 = .ok (.iload_n 1, 1) := by decide +kernel
theorem dX3_learn_106 : decode cX3_learn 106 = .ok (.iadd, 1) := by decide +kernel
theorem dX3_learn_107 : decode cX3_learn 107 = .ok (.iconst 1, 1) := by decide +kernel
theorem dX3_learn_108 : decode cX3_learn 108 = .ok (.aload_n 0, 1) := by decide +kernel
theorem dX3_learn_109 : decode cX3_learn 109 = .ok (.getfield 9, 3) := by decide +kernel
theorem dX3_learn_112 : decode cX3_learn 112 = .ok (.bipush 34, 2) := by decide +kernel
theorem dX3_learn_114 : decode cX3_learn 114 = .ok (.iload_n 1, 1) := by decide +kernel
theorem dX3_learn_115 : decode cX3_learn 115 = .ok (.iadd, 1) := by decide +kernel
theorem dX3_learn_116 : decode cX3_learn 116 = .ok (.iaload, 1) := by decide +kernel
theorem dX3_learn_117 : decode cX3_learn 117 = .ok (.iconst 1, 1) := by decide +kernel
theorem dX3_learn_118 : decode cX3_learn 118 = .ok (.isub, 1) := by decide +kernel
theorem dX3_learn_119 : decode cX3_learn 119 = .ok (.invokestatic 19, 3) := by decide +kernel
theorem dX3_learn_122 : decode cX3_learn 122 = .ok (.iastore, 1) := by decide +kernel
theorem dX3_learn_123 : decode cX3_learn 123 = .ok (.return_, 1) := by decide +kernel
theorem dX4_init_0 : decode cX4_init 0 = .ok (.aload_n 0, 1) := by decide +kernel
theorem dX4_init_1 : decode cX4_init 1 = .ok (.invokespecial 5, 3) := by decide +kernel
theorem dX4_init_4 : decode cX4_init 4 = .ok (.aload_n 0, 1) := by decide +kernel
theorem dX4_init_5 : decode cX4_init 5 = .ok (.bipush 6, 2) := by decide +kernel
theorem dX4_init_7 : decode cX4_init 7 = .ok (.bipush 51, 2) := by decide +kernel
theorem dX4_init_9 : decode cX4_init 9 = .ok (.multianewarray 11 2, 4) := by decide +kernel
theorem dX4_init_13 : decode cX4_init 13 = .ok (.putfield 13, 3) := by decide +kernel
theorem dX4_init_16 : decode cX4_init 16 = .ok (.aload_n 0, 1) := by decide +kernel
theorem dX4_init_17 : decode cX4_init 17 = .ok (.iconst 0, 1) := by decide +kernel
theorem dX4_init_18 : decode cX4_init 18 = .ok (.putfield 16, 3) := by decide +kernel
theorem dX4_init_21 : decode cX4_init 21 = .ok (.aload_n 0, 1) := by decide +kernel
theorem dX4_init_22 : decode cX4_init 22 = .ok (.iconst 0, 1) := by decide +kernel
theorem dX4_init_23 : decode cX4_init 23 = .ok (.putfield 20, 3) := by decide +kernel
theorem dX4_init_26 : decode cX4_init 26 = .ok (.aload_n 0, 1) := by decide +kernel
theorem dX4_init_27 : decode cX4_init 27 = .ok (.aload_n 1, 1) := by decide +kernel
theorem dX4_init_28 : decode cX4_init 28 = .ok (.putfield 23, 3) := by decide +kernel
theorem dX4_init_31 : decode cX4_init 31 = .ok (.return_, 1) := by decide +kernel
theorem dX4_count_0 : decode cX4_count 0 = .ok (.aload_n 0, 1) := by decide +kernel
theorem dX4_count_1 : decode cX4_count 1 = .ok (.getfield 20, 3) := by decide +kernel
theorem dX4_count_4 : decode cX4_count 4 = .ok (.ireturn, 1) := by decide +kernel
theorem dX4_draft_0 : decode cX4_draft 0 = .ok (.aload_n 0, 1) := by decide +kernel
theorem dX4_draft_1 : decode cX4_draft 1 = .ok (.getfield 23, 3) := by decide +kernel
theorem dX4_draft_4 : decode cX4_draft 4 = .ok (.iconst 0, 1) := by decide +kernel
theorem dX4_draft_5 : decode cX4_draft 5 = .ok (.aload_n 0, 1) := by decide +kernel
theorem dX4_draft_6 : decode cX4_draft 6 = .ok (.getfield 13, 3) := by decide +kernel
theorem dX4_draft_9 : decode cX4_draft 9 = .ok (.aload_n 0, 1) := by decide +kernel
theorem dX4_draft_10 : decode cX4_draft 10 = .ok (.getfield 16, 3) := by decide +kernel
theorem dX4_draft_13 : decode cX4_draft 13 = .ok (.aaload, 1) := by decide +kernel
theorem dX4_draft_14 : decode cX4_draft 14 = .ok (.iconst 0, 1) := by decide +kernel
theorem dX4_draft_15 : decode cX4_draft 15 = .ok (.bipush 51, 2) := by decide +kernel
theorem dX4_draft_17 : decode cX4_draft 17 = .ok (.invokestatic 27, 3) := by decide +kernel
theorem dX4_draft_20 : decode cX4_draft 20 = .ok (.return_, 1) := by decide +kernel
theorem dX4_keepDraft_0 : decode cX4_keepDraft 0 = .ok (.aload_n 0, 1) := by decide +kernel
theorem dX4_keepDraft_1 : decode cX4_keepDraft 1 = .ok (.aload_n 0, 1) := by decide +kernel
theorem dX4_keepDraft_2 : decode cX4_keepDraft 2 = .ok (.getfield 16, 3) := by decide +kernel
theorem dX4_keepDraft_5 : decode cX4_keepDraft 5 = .ok (.iconst 1, 1) := by decide +kernel
theorem dX4_keepDraft_6 : decode cX4_keepDraft 6 = .ok (.iadd, 1) := by decide +kernel
theorem dX4_keepDraft_7 : decode cX4_keepDraft 7 = .ok (.bipush 6, 2) := by decide +kernel
theorem dX4_keepDraft_9 : decode cX4_keepDraft 9 = .ok (.irem, 1) := by decide +kernel
theorem dX4_keepDraft_10 : decode cX4_keepDraft 10 = .ok (.putfield 16, 3) := by decide +kernel
theorem dX4_keepDraft_13 : decode cX4_keepDraft 13 = .ok (.aload_n 0, 1) := by decide +kernel
theorem dX4_keepDraft_14 : decode cX4_keepDraft 14 = .ok (.aload_n 0, 1) := by decide +kernel
theorem dX4_keepDraft_15 : decode cX4_keepDraft 15 = .ok (.getfield 20, 3) := by decide +kernel
theorem dX4_keepDraft_18 : decode cX4_keepDraft 18 = .ok (.iconst 1, 1) := by decide +kernel
theorem dX4_keepDraft_19 : decode cX4_keepDraft 19 = .ok (.iadd, 1) := by decide +kernel
theorem dX4_keepDraft_20 : decode cX4_keepDraft 20 = .ok (.iconst 5, 1) := by decide +kernel
theorem dX4_keepDraft_21 : decode cX4_keepDraft 21 = .ok (.invokestatic 33, 3) := by decide +kernel
theorem dX4_keepDraft_24 : decode cX4_keepDraft 24 = .ok (.putfield 20, 3) := by decide +kernel
theorem dX4_keepDraft_27 : decode cX4_keepDraft 27 = .ok (.return_, 1) := by decide +kernel
theorem dX4_takeDraft_0 : decode cX4_takeDraft 0 = .ok (.aload_n 0, 1) := by decide +kernel
theorem dX4_takeDraft_1 : decode cX4_takeDraft 1 = .ok (.getfield 13, 3) := by decide +kernel
theorem dX4_takeDraft_4 : decode cX4_takeDraft 4 = .ok (.aload_n 0, 1) := by decide +kernel
theorem dX4_takeDraft_5 : decode cX4_takeDraft 5 = .ok (.getfield 16, 3) := by decide +kernel
theorem dX4_takeDraft_8 : decode cX4_takeDraft 8 = .ok (.aaload, 1) := by decide +kernel
theorem dX4_takeDraft_9 : decode cX4_takeDraft 9 = .ok (.iconst 0, 1) := by decide +kernel
theorem dX4_takeDraft_10 : decode cX4_takeDraft 10 = .ok (.aload_n 0, 1) := by decide +kernel
theorem dX4_takeDraft_11 : decode cX4_takeDraft 11 = .ok (.getfield 23, 3) := by decide +kernel
theorem dX4_takeDraft_14 : decode cX4_takeDraft 14 = .ok (.iconst 0, 1) := by decide +kernel
theorem dX4_takeDraft_15 : decode cX4_takeDraft 15 = .ok (.bipush 51, 2) := by decide +kernel
theorem dX4_takeDraft_17 : decode cX4_takeDraft 17 = .ok (.invokestatic 27, 3) := by decide +kernel
theorem dX4_takeDraft_20 : decode cX4_takeDraft 20 = .ok (.return_, 1) := by decide +kernel
set_option maxRecDepth 20000 in
theorem ggX4_goBack_X4_takeDraft : GoodIn wsX4_goBack wsX4_takeDraft := goodIn_r _ [7, 8, 2, 9, 10, 11, 12, 13, 14, 15, 16, 17] (by decide +kernel) (by decide +kernel)
set_option maxRecDepth 20000 in
theorem gX4_goBack_X4_takeDraft : GoodIn wsX4_goBack (wsV RX4 39 RX4 yX4_takeDraft wsX4_takeDraft) := goodIn_app (goodIn_of _ (by decide +kernel)) ggX4_goBack_X4_takeDraft
theorem dX4_goBack_0 : decode cX4_goBack 0 = .ok (.aload_n 0, 1) := by decide +kernel
theorem dX4_goBack_1 : decode cX4_goBack 1 = .ok (.getfield 20, 3) := by decide +kernel
theorem dX4_goBack_4 : decode cX4_goBack 4 = .ok (.ifCond .ne 5, 3) := by decide +kernel
theorem dX4_goBack_7 : decode cX4_goBack 7 = .ok (.iconst 0, 1) := by decide +kernel
theorem dX4_goBack_8 : decode cX4_goBack 8 = .ok (.ireturn, 1) := by decide +kernel
theorem dX4_goBack_9 : decode cX4_goBack 9 = .ok (.aload_n 0, 1) := by decide +kernel
theorem dX4_goBack_10 : decode cX4_goBack 10 = .ok (.dup, 1) := by decide +kernel
theorem dX4_goBack_11 : decode cX4_goBack 11 = .ok (.getfield 20, 3) := by decide +kernel
theorem dX4_goBack_14 : decode cX4_goBack 14 = .ok (.iconst 1, 1) := by decide +kernel
theorem dX4_goBack_15 : decode cX4_goBack 15 = .ok (.isub, 1) := by decide +kernel
theorem dX4_goBack_16 : decode cX4_goBack 16 = .ok (.putfield 20, 3) := by decide +kernel
theorem dX4_goBack_19 : decode cX4_goBack 19 = .ok (.aload_n 0, 1) := by decide +kernel
theorem dX4_goBack_20 : decode cX4_goBack 20 = .ok (.aload_n 0, 1) := by decide +kernel
theorem dX4_goBack_21 : decode cX4_goBack 21 = .ok (.getfield 16, 3) := by decide +kernel
theorem dX4_goBack_24 : decode cX4_goBack 24 = .ok (.bipush 6, 2) := by decide +kernel
theorem dX4_goBack_26 : decode cX4_goBack 26 = .ok (.iadd, 1) := by decide +kernel
theorem dX4_goBack_27 : decode cX4_goBack 27 = .ok (.iconst 1, 1) := by decide +kernel
theorem dX4_goBack_28 : decode cX4_goBack 28 = .ok (.isub, 1) := by decide +kernel
theorem dX4_goBack_29 : decode cX4_goBack 29 = .ok (.bipush 6, 2) := by decide +kernel
theorem dX4_goBack_31 : decode cX4_goBack 31 = .ok (.irem, 1) := by decide +kernel
theorem dX4_goBack_32 : decode cX4_goBack 32 = .ok (.putfield 16, 3) := by decide +kernel
theorem dX4_goBack_35 : decode cX4_goBack 35 = .ok (.aload_n 0, 1) := by decide +kernel
theorem dX4_goBack_36 : decode cX4_goBack 36 = .ok (.invokevirtual 39, 3) := by decide +kernel
theorem dX4_goBack_39 : decode cX4_goBack 39 = .ok (.iconst 1, 1) := by decide +kernel
theorem dX4_goBack_40 : decode cX4_goBack 40 = .ok (.ireturn, 1) := by decide +kernel
theorem dX5_init_0 : decode cX5_init 0 = .ok (.aload_n 0, 1) := by decide +kernel
theorem dX5_init_1 : decode cX5_init 1 = .ok (.invokespecial 5, 3) := by decide +kernel
theorem dX5_init_4 : decode cX5_init 4 = .ok (.aload_n 0, 1) := by decide +kernel
theorem dX5_init_5 : decode cX5_init 5 = .ok (.sipush 150, 3) := by decide +kernel
theorem dX5_init_8 : decode cX5_init 8 = .ok (.newarray .int, 2) := by decide +kernel
theorem dX5_init_10 : decode cX5_init 10 = .ok (.putfield 11, 3) := by decide +kernel
theorem dX5_init_13 : decode cX5_init 13 = .ok (.aload_n 0, 1) := by decide +kernel
theorem dX5_init_14 : decode cX5_init 14 = .ok (.bipush 50, 2) := by decide +kernel
theorem dX5_init_16 : decode cX5_init 16 = .ok (.newarray .int, 2) := by decide +kernel
theorem dX5_init_18 : decode cX5_init 18 = .ok (.putfield 15, 3) := by decide +kernel
theorem dX5_init_21 : decode cX5_init 21 = .ok (.aload_n 0, 1) := by decide +kernel
theorem dX5_init_22 : decode cX5_init 22 = .ok (.bipush 50, 2) := by decide +kernel
theorem dX5_init_24 : decode cX5_init 24 = .ok (.newarray .int, 2) := by decide +kernel
theorem dX5_init_26 : decode cX5_init 26 = .ok (.putfield 18, 3) := by decide +kernel
theorem dX5_init_29 : decode cX5_init 29 = .ok (.aload_n 0, 1) := by decide +kernel
theorem dX5_init_30 : decode cX5_init 30 = .ok (.bipush 50, 2) := by decide +kernel
theorem dX5_init_32 : decode cX5_init 32 = .ok (.newarray .int, 2) := by decide +kernel
theorem dX5_init_34 : decode cX5_init 34 = .ok (.putfield 21, 3) := by decide +kernel
theorem dX5_init_37 : decode cX5_init 37 = .ok (.aload_n 0, 1) := by decide +kernel
theorem dX5_init_38 : decode cX5_init 38 = .ok (.iconst 0, 1) := by decide +kernel
theorem dX5_init_39 : decode cX5_init 39 = .ok (.putfield 24, 3) := by decide +kernel
theorem dX5_init_42 : decode cX5_init 42 = .ok (.aload_n 0, 1) := by decide +kernel
theorem dX5_init_43 : decode cX5_init 43 = .ok (.iconst 0, 1) := by decide +kernel
theorem dX5_init_44 : decode cX5_init 44 = .ok (.putfield 28, 3) := by decide +kernel
theorem dX5_init_47 : decode cX5_init 47 = .ok (.aload_n 0, 1) := by decide +kernel
theorem dX5_init_48 : decode cX5_init 48 = .ok (.iconst 0, 1) := by decide +kernel
theorem dX5_init_49 : decode cX5_init 49 = .ok (.putfield 31, 3) := by decide +kernel
theorem dX5_init_52 : decode cX5_init 52 = .ok (.return_, 1) := by decide +kernel
theorem dX5_length_0 : decode cX5_length 0 = .ok (.aload_n 0, 1) := by decide +kernel
theorem dX5_length_1 : decode cX5_length 1 = .ok (.getfield 24, 3) := by decide +kernel
theorem dX5_length_4 : decode cX5_length 4 = .ok (.ireturn, 1) := by decide +kernel
theorem dX5_append_0 : decode cX5_append 0 = .ok (.aload_n 0, 1) := by decide +kernel
theorem dX5_append_1 : decode cX5_append 1 = .ok (.getfield 24, 3) := by decide +kernel
theorem dX5_append_4 : decode cX5_append 4 = .ok (.sipush 150, 3) := by decide +kernel
theorem dX5_append_7 : decode cX5_append 7 = .ok (.if_icmp .lt 5, 3) := by decide +kernel
theorem dX5_append_10 : decode cX5_append 10 = .ok (.iconst 0, 1) := by decide +kernel
theorem dX5_append_11 : decode cX5_append 11 = .ok (.ireturn, 1) := by decide +kernel
theorem dX5_append_12 : decode cX5_append 12 = .ok (.aload_n 0, 1) := by decide +kernel
theorem dX5_append_13 : decode cX5_append 13 = .ok (.getfield 11, 3) := by decide +kernel
theorem dX5_append_16 : decode cX5_append 16 = .ok (.aload_n 0, 1) := by decide +kernel
theorem dX5_append_17 : decode cX5_append 17 = .ok (.getfield 24, 3) := by decide +kernel
theorem dX5_append_20 : decode cX5_append 20 = .ok (.iload_n 1, 1) := by decide +kernel
theorem dX5_append_21 : decode cX5_append 21 = .ok (.iastore, 1) := by decide +kernel
theorem dX5_append_22 : decode cX5_append 22 = .ok (.aload_n 0, 1) := by decide +kernel
theorem dX5_append_23 : decode cX5_append 23 = .ok (.dup, 1) := by decide +kernel
theorem dX5_append_24 : decode cX5_append 24 = .ok (.getfield 24, 3) := by decide +kernel
theorem dX5_append_27 : decode cX5_append 27 = .ok (.iconst 1, 1) := by decide +kernel
theorem dX5_append_28 : decode cX5_append 28 = .ok (.iadd, 1) := by decide +kernel
theorem dX5_append_29 : decode cX5_append 29 = .ok (.putfield 24, 3) := by decide +kernel
theorem dX5_append_32 : decode cX5_append 32 = .ok (.iconst 1, 1) := by decide +kernel
theorem dX5_append_33 : decode cX5_append 33 = .ok (.ireturn, 1) := by decide +kernel
set_option maxRecDepth 20000 in
theorem ggX6_init_X1_init : GoodIn wsX6_init wsX1_init := goodIn_r _ [35, 36, 2, 3, 4, 37, 38, 39, 88, 89, 90] (by decide +kernel) (by decide +kernel)
set_option maxRecDepth 20000 in
theorem gX6_init_X1_init : GoodIn wsX6_init (wsX1_init) := ggX6_init_X1_init
set_option maxRecDepth 20000 in
theorem ggX6_init_X3_init : GoodIn wsX6_init wsX3_init := goodIn_r _ [42, 43, 2, 3, 44, 91] (by decide +kernel) (by decide +kernel)
set_option maxRecDepth 20000 in
theorem gX6_init_X3_init : GoodIn wsX6_init (wsX3_init) := ggX6_init_X3_init
set_option maxRecDepth 20000 in
theorem ggX6_init_X0_init : GoodIn wsX6_init wsX0_init := goodIn_r _ [47, 48, 2, 3, 49, 50, 51, 92, 93, 94] (by decide +kernel) (by decide +kernel)
set_option maxRecDepth 20000 in
theorem gX6_init_X0_init : GoodIn wsX6_init (wsX0_init) := ggX6_init_X0_init
set_option maxRecDepth 20000 in
theorem ggX6_init_X2_init : GoodIn wsX6_init wsX2_init := goodIn_r _ [54, 55, 2, 3, 56, 57, 58, 95, 96, 97] (by decide +kernel) (by decide +kernel)
set_option maxRecDepth 20000 in
theorem gX6_init_X2_init : GoodIn wsX6_init (wsX2_init) := ggX6_init_X2_init
set_option maxRecDepth 20000 in
theorem ggX6_init_X4_init : GoodIn wsX6_init wsX4_init := goodIn_r _ [61, 62, 2, 3, 63, 4, 64, 65, 66, 67, 98, 99, 100, 101] (by decide +kernel) (by decide +kernel)
set_option maxRecDepth 20000 in
theorem gX6_init_X4_init : GoodIn wsX6_init (wsX4_init) := ggX6_init_X4_init
set_option maxRecDepth 20000 in
theorem ggX6_init_X5_init : GoodIn wsX6_init wsX5_init := goodIn_r _ [69, 70, 2, 3, 4, 71, 72, 73, 74, 75, 76, 77, 102, 103, 104, 105, 106, 107, 108] (by decide +kernel) (by decide +kernel)
set_option maxRecDepth 20000 in
theorem gX6_init_X5_init_n59 : GoodIn wsX6_init (wsX5_init) := ggX6_init_X5_init
theorem dX6_init_0 : decode cX6_init 0 = .ok (.aload_n 0, 1) := by decide +kernel
theorem dX6_init_1 : decode cX6_init 1 = .ok (.invokespecial 1, 3) := by decide +kernel
theorem dX6_init_4 : decode cX6_init 4 = .ok (.aload_n 0, 1) := by decide +kernel
theorem dX6_init_5 : decode cX6_init 5 = .ok (.bipush 51, 2) := by decide +kernel
theorem dX6_init_7 : decode cX6_init 7 = .ok (.newarray .int, 2) := by decide +kernel
theorem dX6_init_9 : decode cX6_init 9 = .ok (.putfield 9, 3) := by decide +kernel
theorem dX6_init_12 : decode cX6_init 12 = .ok (.aload_n 0, 1) := by decide +kernel
theorem dX6_init_13 : decode cX6_init 13 = .ok (.iconst 3, 1) := by decide +kernel
theorem dX6_init_14 : decode cX6_init 14 = .ok (.newarray .int, 2) := by decide +kernel
theorem dX6_init_16 : decode cX6_init 16 = .ok (.putfield 13, 3) := by decide +kernel
theorem dX6_init_19 : decode cX6_init 19 = .ok (.aload_n 0, 1) := by decide +kernel
theorem dX6_init_20 : decode cX6_init 20 = .ok (.new 16, 3) := by decide +kernel
theorem dX6_init_23 : decode cX6_init 23 = .ok (.dup, 1) := by decide +kernel
theorem dX6_init_24 : decode cX6_init 24 = .ok (.aload_n 0, 1) := by decide +kernel
theorem dX6_init_25 : decode cX6_init 25 = .ok (.getfield 9, 3) := by decide +kernel
theorem dX6_init_28 : decode cX6_init 28 = .ok (.invokespecial 18, 3) := by decide +kernel
theorem dX6_init_31 : decode cX6_init 31 = .ok (.putfield 21, 3) := by decide +kernel
theorem dX6_init_34 : decode cX6_init 34 = .ok (.aload_n 0, 1) := by decide +kernel
theorem dX6_init_35 : decode cX6_init 35 = .ok (.new 25, 3) := by decide +kernel
theorem dX6_init_38 : decode cX6_init 38 = .ok (.dup, 1) := by decide +kernel
theorem dX6_init_39 : decode cX6_init 39 = .ok (.aload_n 0, 1) := by decide +kernel
theorem dX6_init_40 : decode cX6_init 40 = .ok (.getfield 9, 3) := by decide +kernel
theorem dX6_init_43 : decode cX6_init 43 = .ok (.invokespecial 27, 3) := by decide +kernel
theorem dX6_init_46 : decode cX6_init 46 = .ok (.putfield 28, 3) := by decide +kernel
theorem dX6_init_49 : decode cX6_init 49 = .ok (.aload_n 0, 1) := by decide +kernel
theorem dX6_init_50 : decode cX6_init 50 = .ok (.new 32, 3) := by decide +kernel
theorem dX6_init_53 : decode cX6_init 53 = .ok (.dup, 1) := by decide +kernel
theorem dX6_init_54 : decode cX6_init 54 = .ok (.aload_n 0, 1) := by decide +kernel
theorem dX6_init_55 : decode cX6_init 55 = .ok (.getfield 9, 3) := by decide +kernel
theorem dX6_init_58 : decode cX6_init 58 = .ok (.aload_n 0, 1) := by decide +kernel
theorem dX6_init_59 : decode cX6_init 59 = .ok (.getfield 21, 3) := by decide +kernel
theorem dX6_init_62 : decode cX6_init 62 = .ok (.aload_n 0, 1) := by decide +kernel
theorem dX6_init_63 : decode cX6_init 63 = .ok (.getfield 28, 3) := by decide +kernel
theorem dX6_init_66 : decode cX6_init 66 = .ok (.invokespecial 34, 3) := by decide +kernel
theorem dX6_init_69 : decode cX6_init 69 = .ok (.putfield 37, 3) := by decide +kernel
theorem dX6_init_72 : decode cX6_init 72 = .ok (.aload_n 0, 1) := by decide +kernel
theorem dX6_init_73 : decode cX6_init 73 = .ok (.new 41, 3) := by decide +kernel
theorem dX6_init_76 : decode cX6_init 76 = .ok (.dup, 1) := by decide +kernel
theorem dX6_init_77 : decode cX6_init 77 = .ok (.aload_n 0, 1) := by decide +kernel
theorem dX6_init_78 : decode cX6_init 78 = .ok (.getfield 9, 3) := by decide +kernel
theorem dX6_init_81 : decode cX6_init 81 = .ok (.aload_n 0, 1) := by decide +kernel
theorem dX6_init_82 : decode cX6_init 82 = .ok (.getfield 21, 3) := by decide +kernel
theorem dX6_init_85 : decode cX6_init 85 = .ok (.aload_n 0, 1) := by decide +kernel
theorem dX6_init_86 : decode cX6_init 86 = .ok (.getfield 37, 3) := by decide +kernel
theorem dX6_init_89 : decode cX6_init 89 = .ok (.invokespecial 43, 3) := by decide +kernel
theorem dX6_init_92 : decode cX6_init 92 = .ok (.putfield 46, 3) := by decide +kernel
theorem dX6_init_95 : decode cX6_init 95 = .ok (.aload_n 0, 1) := by decide +kernel
theorem dX6_init_96 : decode cX6_init 96 = .ok (.new 50, 3) := by decide +kernel
theorem dX6_init_99 : decode cX6_init 99 = .ok (.dup, 1) := by decide +kernel
theorem dX6_init_100 : decode cX6_init 100 = .ok (.aload_n 0, 1) := by decide +kernel
theorem dX6_init_101 : decode cX6_init 101 = .ok (.getfield 9, 3) := by decide +kernel
theorem dX6_init_104 : decode cX6_init 104 = .ok (.invokespecial 52, 3) := by decide +kernel
theorem dX6_init_107 : decode cX6_init 107 = .ok (.putfield 53, 3) := by decide +kernel
theorem dX6_init_110 : decode cX6_init 110 = .ok (.aload_n 0, 1) := by decide +kernel
theorem dX6_init_111 : decode cX6_init 111 = .ok (.new 57, 3) := by decide +kernel
theorem dX6_init_114 : decode cX6_init 114 = .ok (.dup, 1) := by decide +kernel
theorem dX6_init_115 : decode cX6_init 115 = .ok (.invokespecial 59, 3) := by decide +kernel
theorem dX6_init_118 : decode cX6_init 118 = .ok (.putfield 60, 3) := by decide +kernel
theorem dX6_init_121 : decode cX6_init 121 = .ok (.aload_n 0, 1) := by decide +kernel
theorem dX6_init_122 : decode cX6_init 122 = .ok (.iconst 0, 1) := by decide +kernel
theorem dX6_init_123 : decode cX6_init 123 = .ok (.putfield 64, 3) := by decide +kernel
theorem dX6_init_126 : decode cX6_init 126 = .ok (.aload_n 0, 1) := by decide +kernel
theorem dX6_init_127 : decode cX6_init 127 = .ok (.iconst (-1), 1) := by decide +kernel
theorem dX6_init_128 : decode cX6_init 128 = .ok (.putfield 68, 3) := by decide +kernel
theorem dX6_init_131 : decode cX6_init 131 = .ok (.iconst 1, 1) := by decide +kernel
theorem dX6_init_132 : decode cX6_init 132 = .ok (.istore_n 1, 1) := by decide +kernel
theorem dX6_init_133 : decode cX6_init 133 = .ok (.iload_n 1, 1) := by decide +kernel
theorem dX6_init_134 : decode cX6_init 134 = .ok (.bipush 7, 2) := by decide +kernel
theorem dX6_init_136 : decode cX6_init 136 = .ok (.if_icmp .gt 38, 3) := by decide +kernel
theorem dX6_init_139 : decode cX6_init 139 = .ok (.aload_n 0, 1) := by decide +kernel
theorem dX6_init_140 : decode cX6_init 140 = .ok (.getfield 9, 3) := by decide +kernel
theorem dX6_init_143 : decode cX6_init 143 = .ok (.bipush 8, 2) := by decide +kernel
theorem dX6_init_145 : decode cX6_init 145 = .ok (.iload_n 1, 1) := by decide +kernel
theorem dX6_init_146 : decode cX6_init 146 = .ok (.iadd, 1) := by decide +kernel
theorem dX6_init_147 : decode cX6_init 147 = .ok (.bipush 20, 2) := by decide +kernel
theorem dX6_init_149 : decode cX6_init 149 = .ok (.iload_n 1, 1) := by decide +kernel
theorem dX6_init_150 : decode cX6_init 150 = .ok (.imul, 1) := by decide +kernel
theorem dX6_init_151 : decode cX6_init 151 = .ok (.iastore, 1) := by decide +kernel
theorem dX6_init_152 : decode cX6_init 152 = .ok (.aload_n 0, 1) := by decide +kernel
theorem dX6_init_153 : decode cX6_init 153 = .ok (.getfield 9, 3) := by decide +kernel
theorem dX6_init_156 : decode cX6_init 156 = .ok (.bipush 16, 2) := by decide +kernel
theorem dX6_init_158 : decode cX6_init 158 = .ok (.iload_n 1, 1) := by decide +kernel
theorem dX6_init_159 : decode cX6_init 159 = .ok (.iadd, 1) := by decide +kernel
theorem dX6_init_160 : decode cX6_init 160 = .ok (.bipush 20, 2) := by decide +kernel
theorem dX6_init_162 : decode cX6_init 162 = .ok (.iload_n 1, 1) := by decide +kernel
theorem dX6_init_163 : decode cX6_init 163 = .ok (.imul, 1) := by decide +kernel
theorem dX6_init_164 : decode cX6_init 164 = .ok (.bipush 15, 2) := by decide +kernel
theorem dX6_init_166 : decode cX6_init 166 = .ok (.isub, 1) := by decide +kernel
theorem dX6_init_167 : decode cX6_init 167 = .ok (.iastore, 1) := by decide +kernel
theorem dX6_init_168 : decode cX6_init 168 = .ok (.iinc 1 1, 3) := by decide +kernel
theorem dX6_init_171 : decode cX6_init 171 = .ok (.goto (-38), 3) := by decide +kernel
theorem dX6_init_174 : decode cX6_init 174 = .ok (.iconst 0, 1) := by decide +kernel
theorem dX6_init_175 : decode cX6_init 175 = .ok (.istore_n 1, 1) := by decide +kernel
theorem dX6_init_176 : decode cX6_init 176 = .ok (.iload_n 1, 1) := by decide +kernel
theorem dX6_init_177 : decode cX6_init 177 = .ok (.iconst 5, 1) := by decide +kernel
theorem dX6_init_178 : decode cX6_init 178 = .ok (.if_icmp .ge 31, 3) := by decide +kernel
theorem dX6_init_181 : decode cX6_init 181 = .ok (.aload_n 0, 1) := by decide +kernel
theorem dX6_init_182 : decode cX6_init 182 = .ok (.getfield 9, 3) := by decide +kernel
theorem dX6_init_185 : decode cX6_init 185 = .ok (.bipush 29, 2) := by decide +kernel
theorem dX6_init_187 : decode cX6_init 187 = .ok (.iload_n 1, 1) := by decide +kernel
theorem dX6_init_188 : decode cX6_init 188 = .ok (.iadd, 1) := by decide +kernel
theorem dX6_init_189 : decode cX6_init 189 = .ok (.bipush 8, 2) := by decide +kernel
theorem dX6_init_191 : decode cX6_init 191 = .ok (.iastore, 1) := by decide +kernel
theorem dX6_init_192 : decode cX6_init 192 = .ok (.aload_n 0, 1) := by decide +kernel
theorem dX6_init_193 : decode cX6_init 193 = .ok (.getfield 9, 3) := by decide +kernel
theorem dX6_init_196 : decode cX6_init 196 = .ok (.bipush 34, 2) := by decide +kernel
theorem dX6_init_198 : decode cX6_init 198 = .ok (.iload_n 1, 1) := by decide +kernel
theorem dX6_init_199 : decode cX6_init 199 = .ok (.iadd, 1) := by decide +kernel
theorem dX6_init_200 : decode cX6_init 200 = .ok (.bipush 8, 2) := by decide +kernel
theorem dX6_init_202 : decode cX6_init 202 = .ok (.iastore, 1) := by decide +kernel
theorem dX6_init_203 : decode cX6_init 203 = .ok (.iinc 1 1, 3) := by decide +kernel
theorem dX6_init_206 : decode cX6_init 206 = .ok (.goto (-30), 3) := by decide +kernel
theorem dX6_init_209 : decode cX6_init 209 = .ok (.aload_n 0, 1) := by decide +kernel
theorem dX6_init_210 : decode cX6_init 210 = .ok (.getfield 9, 3) := by decide +kernel
theorem dX6_init_213 : decode cX6_init 213 = .ok (.bipush 42, 2) := by decide +kernel
theorem dX6_init_215 : decode cX6_init 215 = .ok (.iconst (-1), 1) := by decide +kernel
theorem dX6_init_216 : decode cX6_init 216 = .ok (.iastore, 1) := by decide +kernel
theorem dX6_init_217 : decode cX6_init 217 = .ok (.aload_n 0, 1) := by decide +kernel
theorem dX6_init_218 : decode cX6_init 218 = .ok (.getfield 9, 3) := by decide +kernel
theorem dX6_init_221 : decode cX6_init 221 = .ok (.bipush 47, 2) := by decide +kernel
theorem dX6_init_223 : decode cX6_init 223 = .ok (.iconst 3, 1) := by decide +kernel
theorem dX6_init_224 : decode cX6_init 224 = .ok (.iastore, 1) := by decide +kernel
theorem dX6_init_225 : decode cX6_init 225 = .ok (.aload_n 0, 1) := by decide +kernel
theorem dX6_init_226 : decode cX6_init 226 = .ok (.getfield 9, 3) := by decide +kernel
theorem dX6_init_229 : decode cX6_init 229 = .ok (.bipush 49, 2) := by decide +kernel
theorem dX6_init_231 : decode cX6_init 231 = .ok (.iconst 5, 1) := by decide +kernel
theorem dX6_init_232 : decode cX6_init 232 = .ok (.iastore, 1) := by decide +kernel
theorem dX6_init_233 : decode cX6_init 233 = .ok (.aload_n 0, 1) := by decide +kernel
theorem dX6_init_234 : decode cX6_init 234 = .ok (.getfield 9, 3) := by decide +kernel
theorem dX6_init_237 : decode cX6_init 237 = .ok (.bipush 50, 2) := by decide +kernel
theorem dX6_init_239 : decode cX6_init 239 = .ok (.bipush 100, 2) := by decide +kernel
theorem dX6_init_241 : decode cX6_init 241 = .ok (.iastore, 1) := by decide +kernel
theorem dX6_init_242 : decode cX6_init 242 = .ok (.return_, 1) := by decide +kernel
set_option maxRecDepth 20000 in
theorem ggX6_gear_X6_changed : GoodIn wsX6_gear wsX6_changed := goodIn_r _ [5, 6, 7, 8, 9, 10, 11, 12, 13, 14, 15, 16, 17, 18, 19, 20, 21, 22, 23, 24, 25, 26, 27, 28, 29, 30, 31, 4, 32, 33, 34, 35, 36, 37, 38, 39, 40, 41, 42, 43, 44, 45, 46, 47, 48, 49, 50, 51, 52, 53, 54, 55, 56, 57, 58, 59, 60, 61, 62, 63, 64, 65, 66, 67, 68, 69, 70, 71, 72, 73, 74, 75, 76, 77, 78, 79, 80, 81, 82, 83, 84, 85, 86, 87, 88, 89, 90, 91, 92, 93, 94, 95, 96, 97, 98, 99, 100, 101, 102, 103, 104, 105, 106, 107, 108, 109, 110, 111, 112, 113, 114, 115, 116, 117, 118, 119, 120, 121, 122, 123, 124, 125, 126, 127, 128, 129, 130, 131, 132, 133, 134, 135, 136, 137, 138, 139, 140, 141, 142, 143, 144, 145, 146, 147, 148, 149, 150, 151, 152, 153, 154, 155, 156, 157, 158, 159, 160, 161, 162, 163, 164, 165, 166, 167, 168, 169, 170, 171, 172, 173, 174, 175, 176, 177, 178, 179, 180, 181, 182, 183, 184, 185, 186, 187, 188, 189, 190, 191, 192, 193, 194] (by decide +kernel) (by decide +kernel)
set_option maxRecDepth 20000 in
theorem gX6_gear_X6_changed : GoodIn wsX6_gear (wsV RX6 71 RX6 yX6_changed wsX6_changed) := goodIn_app (goodIn_of _ (by decide +kernel)) ggX6_gear_X6_changed
theorem dX6_gear_0 : decode cX6_gear 0 = .ok (.aload_n 0, 1) := by decide +kernel
theorem dX6_gear_1 : decode cX6_gear 1 = .ok (.iconst 0, 1) := by decide +kernel
theorem dX6_gear_2 : decode cX6_gear 2 = .ok (.iload_n 1, 1) := by decide +kernel
theorem dX6_gear_3 : decode cX6_gear 3 = .ok (.iload_n 2, 1) := by decide +kernel
theorem dX6_gear_4 : decode cX6_gear 4 = .ok (.invokevirtual 71, 3) := by decide +kernel
theorem dX6_gear_7 : decode cX6_gear 7 = .ok (.ireturn, 1) := by decide +kernel
set_option maxRecDepth 20000 in
theorem ggX6_fails_X6_changed : GoodIn wsX6_fails wsX6_changed := goodIn_r _ [5, 6, 7, 8, 9, 10, 11, 12, 13, 14, 15, 16, 17, 18, 19, 20, 21, 22, 23, 24, 25, 26, 27, 28, 29, 30, 31, 4, 32, 33, 34, 35, 36, 37, 38, 39, 40, 41, 42, 43, 44, 45, 46, 47, 48, 49, 50, 51, 52, 53, 54, 55, 56, 57, 58, 59, 60, 61, 62, 63, 64, 65, 66, 67, 68, 69, 70, 71, 72, 73, 74, 75, 76, 77, 78, 79, 80, 81, 82, 83, 84, 85, 86, 87, 88, 89, 90, 91, 92, 93, 94, 95, 96, 97, 98, 99, 100, 101, 102, 103, 104, 105, 106, 107, 108, 109, 110, 111, 112, 113, 114, 115, 116, 117, 118, 119, 120, 121, 122, 123, 124, 125, 126, 127, 128, 129, 130, 131, 132, 133, 134, 135, 136, 137, 138, 139, 140, 141, 142, 143, 144, 145, 146, 147, 148, 149, 150, 151, 152, 153, 154, 155, 156, 157, 158, 159, 160, 161, 162, 163, 164, 165, 166, 167, 168, 169, 170, 171, 172, 173, 174, 175, 176, 177, 178, 179, 180, 181, 182, 183, 184, 185, 186, 187, 188, 189, 190, 191, 192, 193, 194] (by decide +kernel) (by decide +kernel)
set_option maxRecDepth 20000 in
theorem gX6_fails_X6_changed : GoodIn wsX6_fails (wsV RX6 71 RX6 yX6_changed wsX6_changed) := goodIn_app (goodIn_of _ (by decide +kernel)) ggX6_fails_X6_changed
theorem dX6_fails_0 : decode cX6_fails 0 = .ok (.aload_n 0, 1) := by decide +kernel
theorem dX6_fails_1 : decode cX6_fails 1 = .ok (.iconst 1, 1) := by decide +kernel
theorem dX6_fails_2 : decode cX6_fails 2 = .ok (.iload_n 1, 1) := by decide +kernel
theorem dX6_fails_3 : decode cX6_fails 3 = .ok (.iload_n 2, 1) := by decide +kernel
theorem dX6_fails_4 : decode cX6_fails 4 = .ok (.invokevirtual 71, 3) := by decide +kernel
theorem dX6_fails_7 : decode cX6_fails 7 = .ok (.ireturn, 1) := by decide +kernel
set_option maxRecDepth 20000 in
theorem ggX6_trues_X6_changed : GoodIn wsX6_trues wsX6_changed := goodIn_r _ [5, 6, 7, 8, 9, 10, 11, 12, 13, 14, 15, 16, 17, 18, 19, 20, 21, 22, 23, 24, 25, 26, 27, 28, 29, 30, 31, 4, 32, 33, 34, 35, 36, 37, 38, 39, 40, 41, 42, 43, 44, 45, 46, 47, 48, 49, 50, 51, 52, 53, 54, 55, 56, 57, 58, 59, 60, 61, 62, 63, 64, 65, 66, 67, 68, 69, 70, 71, 72, 73, 74, 75, 76, 77, 78, 79, 80, 81, 82, 83, 84, 85, 86, 87, 88, 89, 90, 91, 92, 93, 94, 95, 96, 97, 98, 99, 100, 101, 102, 103, 104, 105, 106, 107, 108, 109, 110, 111, 112, 113, 114, 115, 116, 117, 118, 119, 120, 121, 122, 123, 124, 125, 126, 127, 128, 129, 130, 131, 132, 133, 134, 135, 136, 137, 138, 139, 140, 141, 142, 143, 144, 145, 146, 147, 148, 149, 150, 151, 152, 153, 154, 155, 156, 157, 158, 159, 160, 161, 162, 163, 164, 165, 166, 167, 168, 169, 170, 171, 172, 173, 174, 175, 176, 177, 178, 179, 180, 181, 182, 183, 184, 185, 186, 187, 188, 189, 190, 191, 192, 193, 194] (by decide +kernel) (by decide +kernel)
set_option maxRecDepth 20000 in
theorem gX6_trues_X6_changed : GoodIn wsX6_trues (wsV RX6 71 RX6 yX6_changed wsX6_changed) := goodIn_app (goodIn_of _ (by decide +kernel)) ggX6_trues_X6_changed
theorem dX6_trues_0 : decode cX6_trues 0 = .ok (.aload_n 0, 1) := by decide +kernel
theorem dX6_trues_1 : decode cX6_trues 1 = .ok (.iconst 2, 1) := by decide +kernel
theorem dX6_trues_2 : decode cX6_trues 2 = .ok (.iload_n 1, 1) := by decide +kernel
theorem dX6_trues_3 : decode cX6_trues 3 = .ok (.iload_n 2, 1) := by decide +kernel
theorem dX6_trues_4 : decode cX6_trues 4 = .ok (.invokevirtual 71, 3) := by decide +kernel
theorem dX6_trues_7 : decode cX6_trues 7 = .ok (.ireturn, 1) := by decide +kernel
set_option maxRecDepth 20000 in
theorem ggX6_up_X6_changed : GoodIn wsX6_up wsX6_changed := goodIn_r _ [5, 6, 7, 8, 9, 10, 11, 12, 13, 14, 15, 16, 17, 18, 19, 20, 21, 22, 23, 24, 25, 26, 27, 28, 29, 30, 31, 4, 32, 33, 34, 35, 36, 37, 38, 39, 40, 41, 42, 43, 44, 45, 46, 47, 48, 49, 50, 51, 52, 53, 54, 55, 56, 57, 58, 59, 60, 61, 62, 63, 64, 65, 66, 67, 68, 69, 70, 71, 72, 73, 74, 75, 76, 77, 78, 79, 80, 81, 82, 83, 84, 85, 86, 87, 88, 89, 90, 91, 92, 93, 94, 95, 96, 97, 98, 99, 100, 101, 102, 103, 104, 105, 106, 107, 108, 109, 110, 111, 112, 113, 114, 115, 116, 117, 118, 119, 120, 121, 122, 123, 124, 125, 126, 127, 128, 129, 130, 131, 132, 133, 134, 135, 136, 137, 138, 139, 140, 141, 142, 143, 144, 145, 146, 147, 148, 149, 150, 151, 152, 153, 154, 155, 156, 157, 158, 159, 160, 161, 162, 163, 164, 165, 166, 167, 168, 169, 170, 171, 172, 173, 174, 175, 176, 177, 178, 179, 180, 181, 182, 183, 184, 185, 186, 187, 188, 189, 190, 191, 192, 193, 194] (by decide +kernel) (by decide +kernel)
set_option maxRecDepth 20000 in
theorem gX6_up_X6_changed : GoodIn wsX6_up (wsV RX6 71 RX6 yX6_changed wsX6_changed) := goodIn_app (goodIn_of _ (by decide +kernel)) ggX6_up_X6_changed
theorem dX6_up_0 : decode cX6_up 0 = .ok (.aload_n 0, 1) := by decide +kernel
theorem dX6_up_1 : decode cX6_up 1 = .ok (.iconst 3, 1) := by decide +kernel
theorem dX6_up_2 : decode cX6_up 2 = .ok (.iload_n 1, 1) := by decide +kernel
theorem dX6_up_3 : decode cX6_up 3 = .ok (.iload_n 2, 1) := by decide +kernel
theorem dX6_up_4 : decode cX6_up 4 = .ok (.invokevirtual 71, 3) := by decide +kernel
theorem dX6_up_7 : decode cX6_up 7 = .ok (.ireturn, 1) := by decide +kernel
set_option maxRecDepth 20000 in
theorem ggX6_down_X6_changed : GoodIn wsX6_down wsX6_changed := goodIn_r _ [5, 6, 7, 8, 9, 10, 11, 12, 13, 14, 15, 16, 17, 18, 19, 20, 21, 22, 23, 24, 25, 26, 27, 28, 29, 30, 31, 4, 32, 33, 34, 35, 36, 37, 38, 39, 40, 41, 42, 43, 44, 45, 46, 47, 48, 49, 50, 51, 52, 53, 54, 55, 56, 57, 58, 59, 60, 61, 62, 63, 64, 65, 66, 67, 68, 69, 70, 71, 72, 73, 74, 75, 76, 77, 78, 79, 80, 81, 82, 83, 84, 85, 86, 87, 88, 89, 90, 91, 92, 93, 94, 95, 96, 97, 98, 99, 100, 101, 102, 103, 104, 105, 106, 107, 108, 109, 110, 111, 112, 113, 114, 115, 116, 117, 118, 119, 120, 121, 122, 123, 124, 125, 126, 127, 128, 129, 130, 131, 132, 133, 134, 135, 136, 137, 138, 139, 140, 141, 142, 143, 144, 145, 146, 147, 148, 149, 150, 151, 152, 153, 154, 155, 156, 157, 158, 159, 160, 161, 162, 163, 164, 165, 166, 167, 168, 169, 170, 171, 172, 173, 174, 175, 176, 177, 178, 179, 180, 181, 182, 183, 184, 185, 186, 187, 188, 189, 190, 191, 192, 193, 194] (by decide +kernel) (by decide +kernel)
set_option maxRecDepth 20000 in
theorem gX6_down_X6_changed : GoodIn wsX6_down (wsV RX6 71 RX6 yX6_changed wsX6_changed) := goodIn_app (goodIn_of _ (by decide +kernel)) ggX6_down_X6_changed
theorem dX6_down_0 : decode cX6_down 0 = .ok (.aload_n 0, 1) := by decide +kernel
theorem dX6_down_1 : decode cX6_down 1 = .ok (.iconst 4, 1) := by decide +kernel
theorem dX6_down_2 : decode cX6_down 2 = .ok (.iload_n 1, 1) := by decide +kernel
theorem dX6_down_3 : decode cX6_down 3 = .ok (.iload_n 2, 1) := by decide +kernel
theorem dX6_down_4 : decode cX6_down 4 = .ok (.invokevirtual 71, 3) := by decide +kernel
theorem dX6_down_7 : decode cX6_down 7 = .ok (.ireturn, 1) := by decide +kernel
set_option maxRecDepth 20000 in
theorem ggX6_slope_X6_changed : GoodIn wsX6_slope wsX6_changed := goodIn_r _ [5, 6, 7, 8, 9, 10, 11, 12, 13, 14, 15, 16, 17, 18, 19, 20, 21, 22, 23, 24, 25, 26, 27, 28, 29, 30, 31, 4, 32, 33, 34, 35, 36, 37, 38, 39, 40, 41, 42, 43, 44, 45, 46, 47, 48, 49, 50, 51, 52, 53, 54, 55, 56, 57, 58, 59, 60, 61, 62, 63, 64, 65, 66, 67, 68, 69, 70, 71, 72, 73, 74, 75, 76, 77, 78, 79, 80, 81, 82, 83, 84, 85, 86, 87, 88, 89, 90, 91, 92, 93, 94, 95, 96, 97, 98, 99, 100, 101, 102, 103, 104, 105, 106, 107, 108, 109, 110, 111, 112, 113, 114, 115, 116, 117, 118, 119, 120, 121, 122, 123, 124, 125, 126, 127, 128, 129, 130, 131, 132, 133, 134, 135, 136, 137, 138, 139, 140, 141, 142, 143, 144, 145, 146, 147, 148, 149, 150, 151, 152, 153, 154, 155, 156, 157, 158, 159, 160, 161, 162, 163, 164, 165, 166, 167, 168, 169, 170, 171, 172, 173, 174, 175, 176, 177, 178, 179, 180, 181, 182, 183, 184, 185, 186, 187, 188, 189, 190, 191, 192, 193, 194] (by decide +kernel) (by decide +kernel)
set_option maxRecDepth 20000 in
theorem gX6_slope_X6_changed : GoodIn wsX6_slope (wsV RX6 71 RX6 yX6_changed wsX6_changed) := goodIn_app (goodIn_of _ (by decide +kernel)) ggX6_slope_X6_changed
theorem dX6_slope_0 : decode cX6_slope 0 = .ok (.aload_n 0, 1) := by decide +kernel
theorem dX6_slope_1 : decode cX6_slope 1 = .ok (.iconst 5, 1) := by decide +kernel
theorem dX6_slope_2 : decode cX6_slope 2 = .ok (.iload_n 1, 1) := by decide +kernel
theorem dX6_slope_3 : decode cX6_slope 3 = .ok (.iconst 0, 1) := by decide +kernel
theorem dX6_slope_4 : decode cX6_slope 4 = .ok (.invokevirtual 71, 3) := by decide +kernel
theorem dX6_slope_7 : decode cX6_slope 7 = .ok (.ireturn, 1) := by decide +kernel
set_option maxRecDepth 20000 in
theorem ggX6_driver_X6_changed : GoodIn wsX6_driver wsX6_changed := goodIn_r _ [5, 6, 7, 8, 9, 10, 11, 12, 13, 14, 15, 16, 17, 18, 19, 20, 21, 22, 23, 24, 25, 26, 27, 28, 29, 30, 31, 4, 32, 33, 34, 35, 36, 37, 38, 39, 40, 41, 42, 43, 44, 45, 46, 47, 48, 49, 50, 51, 52, 53, 54, 55, 56, 57, 58, 59, 60, 61, 62, 63, 64, 65, 66, 67, 68, 69, 70, 71, 72, 73, 74, 75, 76, 77, 78, 79, 80, 81, 82, 83, 84, 85, 86, 87, 88, 89, 90, 91, 92, 93, 94, 95, 96, 97, 98, 99, 100, 101, 102, 103, 104, 105, 106, 107, 108, 109, 110, 111, 112, 113, 114, 115, 116, 117, 118, 119, 120, 121, 122, 123, 124, 125, 126, 127, 128, 129, 130, 131, 132, 133, 134, 135, 136, 137, 138, 139, 140, 141, 142, 143, 144, 145, 146, 147, 148, 149, 150, 151, 152, 153, 154, 155, 156, 157, 158, 159, 160, 161, 162, 163, 164, 165, 166, 167, 168, 169, 170, 171, 172, 173, 174, 175, 176, 177, 178, 179, 180, 181, 182, 183, 184, 185, 186, 187, 188, 189, 190, 191, 192, 193, 194] (by decide +kernel) (by decide +kernel)
set_option maxRecDepth 20000 in
theorem gX6_driver_X6_changed : GoodIn wsX6_driver (wsV RX6 71 RX6 yX6_changed wsX6_changed) := goodIn_app (goodIn_of _ (by decide +kernel)) ggX6_driver_X6_changed
theorem dX6_driver_0 : decode cX6_driver 0 = .ok (.aload_n 0, 1) := by decide +kernel
theorem dX6_driver_1 : decode cX6_driver 1 = .ok (.bipush 6, 2) := by decide +kernel
theorem dX6_driver_3 : decode cX6_driver 3 = .ok (.iload_n 1, 1) := by decide +kernel
theorem dX6_driver_4 : decode cX6_driver 4 = .ok (.iconst 0, 1) := by decide +kernel
theorem dX6_driver_5 : decode cX6_driver 5 = .ok (.invokevirtual 71, 3) := by decide +kernel
theorem dX6_driver_8 : decode cX6_driver 8 = .ok (.ireturn, 1) := by decide +kernel
set_option maxRecDepth 20000 in
theorem ggX6_sets_X6_changed : GoodIn wsX6_sets wsX6_changed := goodIn_r _ [5, 6, 7, 8, 9, 10, 11, 12, 13, 14, 15, 16, 17, 18, 19, 20, 21, 22, 23, 24, 25, 26, 27, 28, 29, 30, 31, 4, 32, 33, 34, 35, 36, 37, 38, 39, 40, 41, 42, 43, 44, 45, 46, 47, 48, 49, 50, 51, 52, 53, 54, 55, 56, 57, 58, 59, 60, 61, 62, 63, 64, 65, 66, 67, 68, 69, 70, 71, 72, 73, 74, 75, 76, 77, 78, 79, 80, 81, 82, 83, 84, 85, 86, 87, 88, 89, 90, 91, 92, 93, 94, 95, 96, 97, 98, 99, 100, 101, 102, 103, 104, 105, 106, 107, 108, 109, 110, 111, 112, 113, 114, 115, 116, 117, 118, 119, 120, 121, 122, 123, 124, 125, 126, 127, 128, 129, 130, 131, 132, 133, 134, 135, 136, 137, 138, 139, 140, 141, 142, 143, 144, 145, 146, 147, 148, 149, 150, 151, 152, 153, 154, 155, 156, 157, 158, 159, 160, 161, 162, 163, 164, 165, 166, 167, 168, 169, 170, 171, 172, 173, 174, 175, 176, 177, 178, 179, 180, 181, 182, 183, 184, 185, 186, 187, 188, 189, 190, 191, 192, 193, 194] (by decide +kernel) (by decide +kernel)
set_option maxRecDepth 20000 in
theorem gX6_sets_X6_changed : GoodIn wsX6_sets (wsV RX6 71 RX6 yX6_changed wsX6_changed) := goodIn_app (goodIn_of _ (by decide +kernel)) ggX6_sets_X6_changed
theorem dX6_sets_0 : decode cX6_sets 0 = .ok (.aload_n 0, 1) := by decide +kernel
theorem dX6_sets_1 : decode cX6_sets 1 = .ok (.bipush 8, 2) := by decide +kernel
theorem dX6_sets_3 : decode cX6_sets 3 = .ok (.iload_n 1, 1) := by decide +kernel
theorem dX6_sets_4 : decode cX6_sets 4 = .ok (.iload_n 2, 1) := by decide +kernel
theorem dX6_sets_5 : decode cX6_sets 5 = .ok (.invokevirtual 71, 3) := by decide +kernel
theorem dX6_sets_8 : decode cX6_sets 8 = .ok (.ireturn, 1) := by decide +kernel
set_option maxRecDepth 20000 in
theorem ggX6_of_X6_isGear : GoodIn wsX6_of wsX6_isGear := goodIn_r _ [6] (by decide +kernel) (by decide +kernel)
set_option maxRecDepth 20000 in
theorem gX6_of_X6_isGear : GoodIn wsX6_of (va_wsS RX6 75 yX6_isGear wsX6_isGear) := goodIn_app (goodIn_of _ (by decide +kernel)) ggX6_of_X6_isGear
set_option maxRecDepth 20000 in
theorem ggX6_of_X6_refusal : GoodIn wsX6_of wsX6_refusal := goodIn_r _ [10, 11, 12, 13, 5, 14, 40, 41, 42, 43, 44, 45, 46, 47, 48, 49] (by decide +kernel) (by decide +kernel)
set_option maxRecDepth 20000 in
theorem gX6_of_X6_refusal : GoodIn wsX6_of (wsV RX6 79 RX6 yX6_refusal wsX6_refusal) := goodIn_app (goodIn_of _ (by decide +kernel)) ggX6_of_X6_refusal
set_option maxRecDepth 20000 in
theorem ggX6_of_X1_isFit : GoodIn wsX6_of wsX1_isFit := goodIn_r _ [19, 20, 50, 51, 52] (by decide +kernel) (by decide +kernel)
set_option maxRecDepth 20000 in
theorem gX6_of_X1_isFit : GoodIn wsX6_of (wsV RX6 83 RX1 yX1_isFit wsX1_isFit) := goodIn_app (goodIn_of _ (by decide +kernel)) ggX6_of_X1_isFit
set_option maxRecDepth 20000 in
theorem ggX6_of_X1_countSimple : GoodIn wsX6_of wsX1_countSimple := goodIn_r _ [24, 25, 26, 27, 18, 28, 20, 29, 16, 17, 19, 30, 31, 32, 33, 34, 35, 36, 37, 38, 39, 50, 51, 52] (by decide +kernel) (by decide +kernel)
set_option maxRecDepth 20000 in
theorem gX6_of_X1_countSimple : GoodIn wsX6_of (wsV RX6 86 RX1 yX1_countSimple wsX1_countSimple) := goodIn_app (goodIn_of _ (by decide +kernel)) ggX6_of_X1_countSimple
theorem dX6_of_0 : decode cX6_of 0 = .ok (.iload_n 1, 1) := by decide +kernel
theorem dX6_of_1 : decode cX6_of 1 = .ok (.invokestatic 75, 3) := by decide +kernel
theorem dX6_of_4 : decode cX6_of 4 = .ok (.ifCond .ne 10, 3) := by decide +kernel
theorem dX6_of_7 : decode cX6_of 7 = .ok (.aload_n 0, 1) := by decide +kernel
theorem dX6_of_8 : decode cX6_of 8 = .ok (.bipush (-2), 2) := by decide +kernel
theorem dX6_of_10 : decode cX6_of 10 = .ok (.invokevirtual 79, 3) := by decide +kernel
theorem dX6_of_13 : decode cX6_of 13 = .ok (.ireturn, 1) := by decide +kernel
theorem dX6_of_14 : decode cX6_of 14 = .ok (.iload_n 2, 1) := by decide +kernel
theorem dX6_of_15 : decode cX6_of 15 = .ok (.tableswitch 88 0 4 #[33, 42, 59, 69, 79], 33) := by decide +kernel
theorem dX6_of_48 : decode cX6_of 48 = .ok (.aload_n 0, 1) := by decide +kernel
theorem dX6_of_49 : decode cX6_of 49 = .ok (.getfield 9, 3) := by decide +kernel
theorem dX6_of_52 : decode cX6_of 52 = .ok (.iconst 0, 1) := by decide +kernel
theorem dX6_of_53 : decode cX6_of 53 = .ok (.iload_n 1, 1) := by decide +kernel
theorem dX6_of_54 : decode cX6_of 54 = .ok (.iadd, 1) := by decide +kernel
theorem dX6_of_55 : decode cX6_of 55 = .ok (.iaload, 1) := by decide +kernel
theorem dX6_of_56 : decode cX6_of 56 = .ok (.ireturn, 1) := by decide +kernel
theorem dX6_of_57 : decode cX6_of 57 = .ok (.aload_n 0, 1) := by decide +kernel
theorem dX6_of_58 : decode cX6_of 58 = .ok (.getfield 21, 3) := by decide +kernel
theorem dX6_of_61 : decode cX6_of 61 = .ok (.iload_n 1, 1) := by decide +kernel
theorem dX6_of_62 : decode cX6_of 62 = .ok (.invokevirtual 83, 3) := by decide +kernel
theorem dX6_of_65 : decode cX6_of 65 = .ok (.ifCond .eq 7, 3) := by decide +kernel
theorem dX6_of_68 : decode cX6_of 68 = .ok (.iconst 1, 1) := by decide +kernel
theorem dX6_of_69 : decode cX6_of 69 = .ok (.goto 4, 3) := by decide +kernel
theorem dX6_of_72 : decode cX6_of 72 = .ok (.iconst 0, 1) := by decide +kernel
theorem dX6_of_73 : decode cX6_of 73 = .ok (.ireturn, 1) := by decide +kernel
theorem dX6_of_74 : decode cX6_of 74 = .ok (.aload_n 0, 1) := by decide +kernel
theorem dX6_of_75 : decode cX6_of 75 = .ok (.getfield 9, 3) := by decide +kernel
theorem dX6_of_78 : decode cX6_of 78 = .ok (.bipush 8, 2) := by decide +kernel
theorem dX6_of_80 : decode cX6_of 80 = .ok (.iload_n 1, 1) := by decide +kernel
theorem dX6_of_81 : decode cX6_of 81 = .ok (.iadd, 1) := by decide +kernel
theorem dX6_of_82 : decode cX6_of 82 = .ok (.iaload, 1) := by decide +kernel
theorem dX6_of_83 : decode cX6_of 83 = .ok (.ireturn, 1) := by decide +kernel
theorem dX6_of_84 : decode cX6_of 84 = .ok (.aload_n 0, 1) := by decide +kernel
theorem dX6_of_85 : decode cX6_of 85 = .ok (.getfield 9, 3) := by decide +kernel
theorem dX6_of_88 : decode cX6_of 88 = .ok (.bipush 16, 2) := by decide +kernel
theorem dX6_of_90 : decode cX6_of 90 = .ok (.iload_n 1, 1) := by decide +kernel
theorem dX6_of_91 : decode cX6_of 91 = .ok (.iadd, 1) := by decide +kernel
theorem dX6_of_92 : decode cX6_of 92 = .ok (.iaload, 1) := by decide +kernel
theorem dX6_of_93 : decode cX6_of 93 = .ok (.ireturn, 1) := by decide +kernel
theorem dX6_of_94 : decode cX6_of 94 = .ok (.aload_n 0, 1) := by decide +kernel
theorem dX6_of_95 : decode cX6_of 95 = .ok (.getfield 21, 3) := by decide +kernel
theorem dX6_of_98 : decode cX6_of 98 = .ok (.iload_n 1, 1) := by decide +kernel
theorem dX6_of_99 : decode cX6_of 99 = .ok (.invokevirtual 86, 3) := by decide +kernel
theorem dX6_of_102 : decode cX6_of 102 = .ok (.ireturn, 1) := by decide +kernel
theorem dX6_of_103 : decode cX6_of 103 = .ok (.aload_n 0, 1) := by decide +kernel
theorem dX6_of_104 : decode cX6_of 104 = .ok (.bipush (-2), 2) := by decide +kernel
theorem dX6_of_106 : decode cX6_of 106 = .ok (.invokevirtual 79, 3) := by decide +kernel
theorem dX6_of_109 : decode cX6_of 109 = .ok (.ireturn, 1) := by decide +kernel
set_option maxRecDepth 20000 in
theorem ggX6_clutch_X6_isClutch : GoodIn wsX6_clutch wsX6_isClutch := goodIn_r _ [6] (by decide +kernel) (by decide +kernel)
set_option maxRecDepth 20000 in
theorem gX6_clutch_X6_isClutch : GoodIn wsX6_clutch (va_wsS RX6 89 yX6_isClutch wsX6_isClutch) := goodIn_app (goodIn_of _ (by decide +kernel)) ggX6_clutch_X6_isClutch
set_option maxRecDepth 20000 in
theorem ggX6_clutch_X6_refusal : GoodIn wsX6_clutch wsX6_refusal := goodIn_r _ [10, 11, 12, 13, 5, 14, 21, 22, 23, 24, 25, 26, 27, 28, 29, 30] (by decide +kernel) (by decide +kernel)
set_option maxRecDepth 20000 in
theorem gX6_clutch_X6_refusal : GoodIn wsX6_clutch (wsV RX6 79 RX6 yX6_refusal wsX6_refusal) := goodIn_app (goodIn_of _ (by decide +kernel)) ggX6_clutch_X6_refusal
set_option maxRecDepth 20000 in
theorem ggX6_clutch_X1_countClosing : GoodIn wsX6_clutch wsX1_countClosing := goodIn_r _ [19, 20, 31, 32, 33] (by decide +kernel) (by decide +kernel)
set_option maxRecDepth 20000 in
theorem gX6_clutch_X1_countClosing : GoodIn wsX6_clutch (wsV RX6 92 RX1 yX1_countClosing wsX1_countClosing) := goodIn_app (goodIn_of _ (by decide +kernel)) ggX6_clutch_X1_countClosing
theorem dX6_clutch_0 : decode cX6_clutch 0 = .ok (.iload_n 1, 1) := by decide +kernel
theorem dX6_clutch_1 : decode cX6_clutch 1 = .ok (.invokestatic 89, 3) := by decide +kernel
theorem dX6_clutch_4 : decode cX6_clutch 4 = .ok (.ifCond .ne 10, 3) := by decide +kernel
theorem dX6_clutch_7 : decode cX6_clutch 7 = .ok (.aload_n 0, 1) := by decide +kernel
theorem dX6_clutch_8 : decode cX6_clutch 8 = .ok (.bipush (-2), 2) := by decide +kernel
theorem dX6_clutch_10 : decode cX6_clutch 10 = .ok (.invokevirtual 79, 3) := by decide +kernel
theorem dX6_clutch_13 : decode cX6_clutch 13 = .ok (.ireturn, 1) := by decide +kernel
theorem dX6_clutch_14 : decode cX6_clutch 14 = .ok (.iload_n 2, 1) := by decide +kernel
theorem dX6_clutch_15 : decode cX6_clutch 15 = .ok (.tableswitch 68 0 3 #[29, 39, 49, 59], 29) := by decide +kernel
theorem dX6_clutch_44 : decode cX6_clutch 44 = .ok (.aload_n 0, 1) := by decide +kernel
theorem dX6_clutch_45 : decode cX6_clutch 45 = .ok (.getfield 9, 3) := by decide +kernel
theorem dX6_clutch_48 : decode cX6_clutch 48 = .ok (.bipush 24, 2) := by decide +kernel
theorem dX6_clutch_50 : decode cX6_clutch 50 = .ok (.iload_n 1, 1) := by decide +kernel
theorem dX6_clutch_51 : decode cX6_clutch 51 = .ok (.iadd, 1) := by decide +kernel
theorem dX6_clutch_52 : decode cX6_clutch 52 = .ok (.iaload, 1) := by decide +kernel
theorem dX6_clutch_53 : decode cX6_clutch 53 = .ok (.ireturn, 1) := by decide +kernel
theorem dX6_clutch_54 : decode cX6_clutch 54 = .ok (.aload_n 0, 1) := by decide +kernel
theorem dX6_clutch_55 : decode cX6_clutch 55 = .ok (.getfield 9, 3) := by decide +kernel
theorem dX6_clutch_58 : decode cX6_clutch 58 = .ok (.bipush 29, 2) := by decide +kernel
theorem dX6_clutch_60 : decode cX6_clutch 60 = .ok (.iload_n 1, 1) := by decide +kernel
theorem dX6_clutch_61 : decode cX6_clutch 61 = .ok (.iadd, 1) := by decide +kernel
theorem dX6_clutch_62 : decode cX6_clutch 62 = .ok (.iaload, 1) := by decide +kernel
theorem dX6_clutch_63 : decode cX6_clutch 63 = .ok (.ireturn, 1) := by decide +kernel
theorem dX6_clutch_64 : decode cX6_clutch 64 = .ok (.aload_n 0, 1) := by decide +kernel
theorem dX6_clutch_65 : decode cX6_clutch 65 = .ok (.getfield 9, 3) := by decide +kernel
theorem dX6_clutch_68 : decode cX6_clutch 68 = .ok (.bipush 34, 2) := by decide +kernel
theorem dX6_clutch_70 : decode cX6_clutch 70 = .ok (.iload_n 1, 1) := by decide +kernel
theorem dX6_clutch_71 : decode cX6_clutch 71 = .ok (.iadd, 1) := by decide +kernel
theorem dX6_clutch_72 : decode cX6_clutch 72 = .ok (.iaload, 1) := by decide +kernel
theorem dX6_clutch_73 : decode cX6_clutch 73 = .ok (.ireturn, 1) := by decide +kernel
theorem dX6_clutch_74 : decode cX6_clutch 74 = .ok (.aload_n 0, 1) := by decide +kernel
theorem dX6_clutch_75 : decode cX6_clutch 75 = .ok (.getfield 21, 3) := by decide +kernel
theorem dX6_clutch_78 : decode cX6_clutch 78 = .ok (.iload_n 1, 1) := by decide +kernel
theorem dX6_clutch_79 : decode cX6_clutch 79 = .ok (.invokevirtual 92, 3) := by decide +kernel
theorem dX6_clutch_82 : decode cX6_clutch 82 = .ok (.ireturn, 1) := by decide +kernel
theorem dX6_clutch_83 : decode cX6_clutch 83 = .ok (.aload_n 0, 1) := by decide +kernel
theorem dX6_clutch_84 : decode cX6_clutch 84 = .ok (.bipush (-2), 2) := by decide +kernel
theorem dX6_clutch_86 : decode cX6_clutch 86 = .ok (.invokevirtual 79, 3) := by decide +kernel
theorem dX6_clutch_89 : decode cX6_clutch 89 = .ok (.ireturn, 1) := by decide +kernel
set_option maxRecDepth 20000 in
theorem ggX6_ties_X6_isWithin : GoodIn wsX6_ties wsX6_isWithin := goodIn_r _ [5] (by decide +kernel) (by decide +kernel)
set_option maxRecDepth 20000 in
theorem gX6_ties_X6_isWithin : GoodIn wsX6_ties (va_wsS RX6 95 yX6_isWithin wsX6_isWithin) := goodIn_app (goodIn_of _ (by decide +kernel)) ggX6_ties_X6_isWithin
set_option maxRecDepth 20000 in
theorem ggX6_ties_X6_refusal : GoodIn wsX6_ties wsX6_refusal := goodIn_r _ [9, 10, 2, 3, 4, 5, 17, 18, 19, 20, 21, 22, 23, 24, 25, 26] (by decide +kernel) (by decide +kernel)
set_option maxRecDepth 20000 in
theorem gX6_ties_X6_refusal : GoodIn wsX6_ties (wsV RX6 79 RX6 yX6_refusal wsX6_refusal) := goodIn_app (goodIn_of _ (by decide +kernel)) ggX6_ties_X6_refusal
set_option maxRecDepth 20000 in
theorem ggX6_ties_X1_countWithin : GoodIn wsX6_ties wsX1_countWithin := goodIn_r _ [15, 16, 27, 28, 29] (by decide +kernel) (by decide +kernel)
set_option maxRecDepth 20000 in
theorem gX6_ties_X1_countWithin : GoodIn wsX6_ties (wsV RX6 99 RX1 yX1_countWithin wsX1_countWithin) := goodIn_app (goodIn_of _ (by decide +kernel)) ggX6_ties_X1_countWithin
theorem dX6_ties_0 : decode cX6_ties 0 = .ok (.iload_n 1, 1) := by decide +kernel
theorem dX6_ties_1 : decode cX6_ties 1 = .ok (.iconst 0, 1) := by decide +kernel
theorem dX6_ties_2 : decode cX6_ties 2 = .ok (.bipush 31, 2) := by decide +kernel
theorem dX6_ties_4 : decode cX6_ties 4 = .ok (.invokestatic 95, 3) := by decide +kernel
theorem dX6_ties_7 : decode cX6_ties 7 = .ok (.ifCond .ne 10, 3) := by decide +kernel
theorem dX6_ties_10 : decode cX6_ties 10 = .ok (.aload_n 0, 1) := by decide +kernel
theorem dX6_ties_11 : decode cX6_ties 11 = .ok (.bipush (-2), 2) := by decide +kernel
theorem dX6_ties_13 : decode cX6_ties 13 = .ok (.invokevirtual 79, 3) := by decide +kernel
theorem dX6_ties_16 : decode cX6_ties 16 = .ok (.ireturn, 1) := by decide +kernel
theorem dX6_ties_17 : decode cX6_ties 17 = .ok (.aload_n 0, 1) := by decide +kernel
theorem dX6_ties_18 : decode cX6_ties 18 = .ok (.getfield 21, 3) := by decide +kernel
theorem dX6_ties_21 : decode cX6_ties 21 = .ok (.iload_n 1, 1) := by decide +kernel
theorem dX6_ties_22 : decode cX6_ties 22 = .ok (.invokevirtual 99, 3) := by decide +kernel
theorem dX6_ties_25 : decode cX6_ties 25 = .ok (.iconst 2, 1) := by decide +kernel
theorem dX6_ties_26 : decode cX6_ties 26 = .ok (.if_icmp .lt 7, 3) := by decide +kernel
theorem dX6_ties_29 : decode cX6_ties 29 = .ok (.iconst 1, 1) := by decide +kernel
theorem dX6_ties_30 : decode cX6_ties 30 = .ok (.goto 4, 3) := by decide +kernel
theorem dX6_ties_33 : decode cX6_ties 33 = .ok (.iconst 0, 1) := by decide +kernel
theorem dX6_ties_34 : decode cX6_ties 34 = .ok (.ireturn, 1) := by decide +kernel
set_option maxRecDepth 20000 in
theorem ggX6_simple_X6_arePair : GoodIn wsX6_simple wsX6_arePair := goodIn_r _ [5, 6, 7, 4, 8] (by decide +kernel) (by decide +kernel)
set_option maxRecDepth 20000 in
theorem gX6_simple_X6_arePair : GoodIn wsX6_simple (va_wsS RX6 102 yX6_arePair wsX6_arePair) := goodIn_app (goodIn_of _ (by decide +kernel)) ggX6_simple_X6_arePair
set_option maxRecDepth 20000 in
theorem ggX6_simple_X6_refusal : GoodIn wsX6_simple wsX6_refusal := goodIn_r _ [12, 13, 14, 15, 4, 16, 46, 47, 48, 49, 50, 51, 52, 53, 54, 55] (by decide +kernel) (by decide +kernel)
set_option maxRecDepth 20000 in
theorem gX6_simple_X6_refusal : GoodIn wsX6_simple (wsV RX6 79 RX6 yX6_refusal wsX6_refusal) := goodIn_app (goodIn_of _ (by decide +kernel)) ggX6_simple_X6_refusal
set_option maxRecDepth 20000 in
theorem ggX6_simple_X1_isSimple : GoodIn wsX6_simple wsX1_isSimple := goodIn_r _ [21, 22, 23, 24, 25, 20, 26, 27, 28, 29, 30, 31, 32, 33, 34, 35, 36, 56, 57, 58] (by decide +kernel) (by decide +kernel)
set_option maxRecDepth 20000 in
theorem gX6_simple_X1_isSimple : GoodIn wsX6_simple (wsV RX6 106 RX1 yX1_isSimple wsX1_isSimple) := goodIn_app (goodIn_of _ (by decide +kernel)) ggX6_simple_X1_isSimple
set_option maxRecDepth 20000 in
theorem ggX6_simple_X1_coming : GoodIn wsX6_simple wsX1_coming := goodIn_r _ [40, 22, 41, 18, 19, 20, 21, 23, 24, 25, 26, 27, 28, 29, 30, 31, 32, 33, 34, 35, 36, 42, 43, 44, 45, 56, 57, 58] (by decide +kernel) (by decide +kernel)
set_option maxRecDepth 20000 in
theorem gX6_simple_X1_coming : GoodIn wsX6_simple (wsV RX6 109 RX1 yX1_coming wsX1_coming) := goodIn_app (goodIn_of _ (by decide +kernel)) ggX6_simple_X1_coming
theorem dX6_simple_0 : decode cX6_simple 0 = .ok (.iload_n 1, 1) := by decide +kernel
theorem dX6_simple_1 : decode cX6_simple 1 = .ok (.iload_n 2, 1) := by decide +kernel
theorem dX6_simple_2 : decode cX6_simple 2 = .ok (.invokestatic 102, 3) := by decide +kernel
theorem dX6_simple_5 : decode cX6_simple 5 = .ok (.ifCond .ne 10, 3) := by decide +kernel
theorem dX6_simple_8 : decode cX6_simple 8 = .ok (.aload_n 0, 1) := by decide +kernel
theorem dX6_simple_9 : decode cX6_simple 9 = .ok (.bipush (-2), 2) := by decide +kernel
theorem dX6_simple_11 : decode cX6_simple 11 = .ok (.invokevirtual 79, 3) := by decide +kernel
theorem dX6_simple_14 : decode cX6_simple 14 = .ok (.ireturn, 1) := by decide +kernel
theorem dX6_simple_15 : decode cX6_simple 15 = .ok (.iload_n 3, 1) := by decide +kernel
theorem dX6_simple_16 : decode cX6_simple 16 = .ok (.tableswitch 66 0 2 #[28, 46, 56], 28) := by decide +kernel
theorem dX6_simple_44 : decode cX6_simple 44 = .ok (.aload_n 0, 1) := by decide +kernel
theorem dX6_simple_45 : decode cX6_simple 45 = .ok (.getfield 21, 3) := by decide +kernel
theorem dX6_simple_48 : decode cX6_simple 48 = .ok (.iload_n 1, 1) := by decide +kernel
theorem dX6_simple_49 : decode cX6_simple 49 = .ok (.iload_n 2, 1) := by decide +kernel
theorem dX6_simple_50 : decode cX6_simple 50 = .ok (.invokevirtual 106, 3) := by decide +kernel
theorem dX6_simple_53 : decode cX6_simple 53 = .ok (.ifCond .eq 7, 3) := by decide +kernel
theorem dX6_simple_56 : decode cX6_simple 56 = .ok (.iconst 1, 1) := by decide +kernel
