theorem dX6_digest_171 : decode cX6_digest 171 = .ok (.lreturn, 1) := by decide +kernel
set_option maxRecDepth 20000 in
theorem ggX6_changed_X4_draft : GoodIn wsX6_changed wsX4_draft := goodIn_r _ [7, 8, 9, 10, 11, 12, 13, 14, 180, 181, 182, 183] (by decide +kernel) (by decide +kernel)
set_option maxRecDepth 20000 in
theorem gX6_changed_X4_draft : GoodIn wsX6_changed (wsV RX6 147 RX4 yX4_draft wsX4_draft) := goodIn_app (goodIn_of _ (by decide +kernel)) ggX6_changed_X4_draft
set_option maxRecDepth 20000 in
theorem ggX6_changed_X2_obey : GoodIn wsX6_changed wsX2_obey := goodIn_r _ [19, 20, 21, 22, 23, 18, 24, 25, 26, 27, 28, 29, 30, 31, 32, 33, 34, 35, 36, 37, 38, 39, 40, 41, 42, 43, 44, 45, 46, 47, 48, 49, 50, 51, 52, 53, 54, 55, 56, 57, 58, 59, 60, 61, 62, 63, 64, 65, 66, 67, 68, 69, 70, 71, 72, 73, 74, 75, 76, 77, 78, 79, 80, 81, 82, 83, 84, 85, 86, 87, 88, 89, 90, 91, 92, 93, 94, 95, 96, 97, 98, 99, 100, 101, 102, 103, 104, 105, 106, 107, 108, 109, 110, 111, 112, 113, 114, 115, 116, 117, 118, 119, 120, 121, 122, 123, 124, 125, 126, 127, 128, 129, 130, 131, 132, 133, 134, 135, 136, 137, 138, 139, 140, 141, 142, 143, 144, 145, 146, 147, 148, 149, 150, 151, 152, 153, 154, 155, 156, 157, 184, 185, 186, 187, 188, 189, 190, 191, 192, 193] (by decide +kernel) (by decide +kernel)
set_option maxRecDepth 20000 in
theorem gX6_changed_X2_obey : GoodIn wsX6_changed (wsV RX6 161 RX2 yX2_obey wsX2_obey) := goodIn_app (goodIn_of _ (by decide +kernel)) ggX6_changed_X2_obey
set_option maxRecDepth 20000 in
theorem ggX6_changed_X6_refusal : GoodIn wsX6_changed wsX6_refusal := goodIn_r _ [161, 162, 163, 29, 27, 30, 170, 171, 172, 173, 174, 175, 176, 177, 178, 179] (by decide +kernel) (by decide +kernel)
set_option maxRecDepth 20000 in
theorem gX6_changed_X6_refusal : GoodIn wsX6_changed (wsV RX6 79 RX6 yX6_refusal wsX6_refusal) := goodIn_app (goodIn_of _ (by decide +kernel)) ggX6_changed_X6_refusal
set_option maxRecDepth 20000 in
theorem ggX6_changed_X4_keepDraft : GoodIn wsX6_changed wsX4_keepDraft := goodIn_r _ [167, 10, 168, 169, 131, 87, 132, 180, 181, 182, 183] (by decide +kernel) (by decide +kernel)
set_option maxRecDepth 20000 in
theorem gX6_changed_X4_keepDraft : GoodIn wsX6_changed (wsV RX6 167 RX4 yX4_keepDraft wsX4_keepDraft) := goodIn_app (goodIn_of _ (by decide +kernel)) ggX6_changed_X4_keepDraft
theorem dX6_changed_0 : decode cX6_changed 0 = .ok (.aload_n 0, 1) := by decide +kernel
theorem dX6_changed_1 : decode cX6_changed 1 = .ok (.getfield 53, 3) := by decide +kernel
theorem dX6_changed_4 : decode cX6_changed 4 = .ok (.invokevirtual 147, 3) := by decide +kernel
theorem dX6_changed_7 : decode cX6_changed 7 = .ok (.aload_n 0, 1) := by decide +kernel
theorem dX6_changed_8 : decode cX6_changed 8 = .ok (.getfield 46, 3) := by decide +kernel
theorem dX6_changed_11 : decode cX6_changed 11 = .ok (.iload_n 1, 1) := by decide +kernel
theorem dX6_changed_12 : decode cX6_changed 12 = .ok (.iload_n 2, 1) := by decide +kernel
theorem dX6_changed_13 : decode cX6_changed 13 = .ok (.iload_n 3, 1) := by decide +kernel
theorem dX6_changed_14 : decode cX6_changed 14 = .ok (.invokevirtual 161, 3) := by decide +kernel
theorem dX6_changed_17 : decode cX6_changed 17 = .ok (.istore 4, 2) := by decide +kernel
theorem dX6_changed_19 : decode cX6_changed 19 = .ok (.iload 4, 2) := by decide +kernel
theorem dX6_changed_21 : decode cX6_changed 21 = .ok (.ifCond .ge 10, 3) := by decide +kernel
theorem dX6_changed_24 : decode cX6_changed 24 = .ok (.aload_n 0, 1) := by decide +kernel
theorem dX6_changed_25 : decode cX6_changed 25 = .ok (.iload 4, 2) := by decide +kernel
theorem dX6_changed_27 : decode cX6_changed 27 = .ok (.invokevirtual 79, 3) := by decide +kernel
theorem dX6_changed_30 : decode cX6_changed 30 = .ok (.ireturn, 1) := by decide +kernel
theorem dX6_changed_31 : decode cX6_changed 31 = .ok (.aload_n 0, 1) := by decide +kernel
theorem dX6_changed_32 : decode cX6_changed 32 = .ok (.getfield 53, 3) := by decide +kernel
theorem dX6_changed_35 : decode cX6_changed 35 = .ok (.invokevirtual 167, 3) := by decide +kernel
theorem dX6_changed_38 : decode cX6_changed 38 = .ok (.iload 4, 2) := by decide +kernel
theorem dX6_changed_40 : decode cX6_changed 40 = .ok (.ireturn, 1) := by decide +kernel
set_option maxRecDepth 20000 in
theorem ggX6_refusal_X6_isWithin : GoodIn wsX6_refusal wsX6_isWithin := goodIn_r _ [5] (by decide +kernel) (by decide +kernel)
set_option maxRecDepth 20000 in
theorem gX6_refusal_X6_isWithin : GoodIn wsX6_refusal (va_wsS RX6 95 yX6_isWithin wsX6_isWithin) := goodIn_app (goodIn_of _ (by decide +kernel)) ggX6_refusal_X6_isWithin
theorem dX6_refusal_0 : decode cX6_refusal 0 = .ok (.iload_n 1, 1) := by decide +kernel
theorem dX6_refusal_1 : decode cX6_refusal 1 = .ok (.bipush (-4), 2) := by decide +kernel
theorem dX6_refusal_3 : decode cX6_refusal 3 = .ok (.bipush (-2), 2) := by decide +kernel
theorem dX6_refusal_5 : decode cX6_refusal 5 = .ok (.invokestatic 95, 3) := by decide +kernel
theorem dX6_refusal_8 : decode cX6_refusal 8 = .ok (.ifCond .eq 16, 3) := by decide +kernel
theorem dX6_refusal_11 : decode cX6_refusal 11 = .ok (.aload_n 0, 1) := by decide +kernel
theorem dX6_refusal_12 : decode cX6_refusal 12 = .ok (.getfield 13, 3) := by decide +kernel
theorem dX6_refusal_15 : decode cX6_refusal 15 = .ok (.bipush (-2), 2) := by decide +kernel
theorem dX6_refusal_17 : decode cX6_refusal 17 = .ok (.iload_n 1, 1) := by decide +kernel
theorem dX6_refusal_18 : decode cX6_refusal 18 = .ok (.isub, 1) := by decide +kernel
theorem dX6_refusal_19 : decode cX6_refusal 19 = .ok (.dup2, 1) := by decide +kernel
theorem dX6_refusal_20 : decode cX6_refusal 20 = .ok (.iaload, 1) := by decide +kernel
theorem dX6_refusal_21 : decode cX6_refusal 21 = .ok (.iconst 1, 1) := by decide +kernel
theorem dX6_refusal_22 : decode cX6_refusal 22 = .ok (.iadd, 1) := by decide +kernel
theorem dX6_refusal_23 : decode cX6_refusal 23 = .ok (.iastore, 1) := by decide +kernel
theorem dX6_refusal_24 : decode cX6_refusal 24 = .ok (.iload_n 1, 1) := by decide +kernel
theorem dX6_refusal_25 : decode cX6_refusal 25 = .ok (.ireturn, 1) := by decide +kernel
theorem dX6_isWithin_0 : decode cX6_isWithin 0 = .ok (.iload_n 0, 1) := by decide +kernel
theorem dX6_isWithin_1 : decode cX6_isWithin 1 = .ok (.iload_n 1, 1) := by decide +kernel
theorem dX6_isWithin_2 : decode cX6_isWithin 2 = .ok (.if_icmp .lt 12, 3) := by decide +kernel
theorem dX6_isWithin_5 : decode cX6_isWithin 5 = .ok (.iload_n 0, 1) := by decide +kernel
theorem dX6_isWithin_6 : decode cX6_isWithin 6 = .ok (.iload_n 2, 1) := by decide +kernel
theorem dX6_isWithin_7 : decode cX6_isWithin 7 = .ok (.if_icmp .gt 7, 3) := by decide +kernel
theorem dX6_isWithin_10 : decode cX6_isWithin 10 = .ok (.iconst 1, 1) := by decide +kernel
theorem dX6_isWithin_11 : decode cX6_isWithin 11 = .ok (.goto 4, 3) := by decide +kernel
theorem dX6_isWithin_14 : decode cX6_isWithin 14 = .ok (.iconst 0, 1) := by decide +kernel
theorem dX6_isWithin_15 : decode cX6_isWithin 15 = .ok (.ireturn, 1) := by decide +kernel
theorem dX6_isGear_0 : decode cX6_isGear 0 = .ok (.iload_n 0, 1) := by decide +kernel
theorem dX6_isGear_1 : decode cX6_isGear 1 = .ok (.iconst 1, 1) := by decide +kernel
theorem dX6_isGear_2 : decode cX6_isGear 2 = .ok (.if_icmp .lt 13, 3) := by decide +kernel
theorem dX6_isGear_5 : decode cX6_isGear 5 = .ok (.iload_n 0, 1) := by decide +kernel
theorem dX6_isGear_6 : decode cX6_isGear 6 = .ok (.bipush 7, 2) := by decide +kernel
theorem dX6_isGear_8 : decode cX6_isGear 8 = .ok (.if_icmp .gt 7, 3) := by decide +kernel
theorem dX6_isGear_11 : decode cX6_isGear 11 = .ok (.iconst 1, 1) := by decide +kernel
theorem dX6_isGear_12 : decode cX6_isGear 12 = .ok (.goto 4, 3) := by decide +kernel
theorem dX6_isGear_15 : decode cX6_isGear 15 = .ok (.iconst 0, 1) := by decide +kernel
theorem dX6_isGear_16 : decode cX6_isGear 16 = .ok (.ireturn, 1) := by decide +kernel
theorem dX6_isClutch_0 : decode cX6_isClutch 0 = .ok (.iload_n 0, 1) := by decide +kernel
theorem dX6_isClutch_1 : decode cX6_isClutch 1 = .ok (.ifCond .lt 12, 3) := by decide +kernel
theorem dX6_isClutch_4 : decode cX6_isClutch 4 = .ok (.iload_n 0, 1) := by decide +kernel
theorem dX6_isClutch_5 : decode cX6_isClutch 5 = .ok (.iconst 5, 1) := by decide +kernel
theorem dX6_isClutch_6 : decode cX6_isClutch 6 = .ok (.if_icmp .ge 7, 3) := by decide +kernel
theorem dX6_isClutch_9 : decode cX6_isClutch 9 = .ok (.iconst 1, 1) := by decide +kernel
theorem dX6_isClutch_10 : decode cX6_isClutch 10 = .ok (.goto 4, 3) := by decide +kernel
theorem dX6_isClutch_13 : decode cX6_isClutch 13 = .ok (.iconst 0, 1) := by decide +kernel
theorem dX6_isClutch_14 : decode cX6_isClutch 14 = .ok (.ireturn, 1) := by decide +kernel
set_option maxRecDepth 20000 in
theorem ggX6_arePair_X6_isGear : GoodIn wsX6_arePair wsX6_isGear := goodIn_r _ [4] (by decide +kernel) (by decide +kernel)
set_option maxRecDepth 20000 in
theorem gX6_arePair_X6_isGear : GoodIn wsX6_arePair (va_wsS RX6 75 yX6_isGear wsX6_isGear) := goodIn_app (goodIn_of _ (by decide +kernel)) ggX6_arePair_X6_isGear
theorem dX6_arePair_0 : decode cX6_arePair 0 = .ok (.iload_n 0, 1) := by decide +kernel
theorem dX6_arePair_1 : decode cX6_arePair 1 = .ok (.invokestatic 75, 3) := by decide +kernel
theorem dX6_arePair_4 : decode cX6_arePair 4 = .ok (.ifCond .eq 19, 3) := by decide +kernel
theorem dX6_arePair_7 : decode cX6_arePair 7 = .ok (.iload_n 1, 1) := by decide +kernel
theorem dX6_arePair_8 : decode cX6_arePair 8 = .ok (.invokestatic 75, 3) := by decide +kernel
theorem dX6_arePair_11 : decode cX6_arePair 11 = .ok (.ifCond .eq 12, 3) := by decide +kernel
theorem dX6_arePair_14 : decode cX6_arePair 14 = .ok (.iload_n 0, 1) := by decide +kernel
theorem dX6_arePair_15 : decode cX6_arePair 15 = .ok (.iload_n 1, 1) := by decide +kernel
theorem dX6_arePair_16 : decode cX6_arePair 16 = .ok (.if_icmp .eq 7, 3) := by decide +kernel
theorem dX6_arePair_19 : decode cX6_arePair 19 = .ok (.iconst 1, 1) := by decide +kernel
theorem dX6_arePair_20 : decode cX6_arePair 20 = .ok (.goto 4, 3) := by decide +kernel
theorem dX6_arePair_23 : decode cX6_arePair 23 = .ok (.iconst 0, 1) := by decide +kernel
theorem dX6_arePair_24 : decode cX6_arePair 24 = .ok (.ireturn, 1) := by decide +kernel
theorem dX7_init_0 : decode cX7_init 0 = .ok (.aload_n 0, 1) := by decide +kernel
theorem dX7_init_1 : decode cX7_init 1 = .ok (.invokespecial 1, 3) := by decide +kernel
theorem dX7_init_4 : decode cX7_init 4 = .ok (.aload_n 0, 1) := by decide +kernel
theorem dX7_init_5 : decode cX7_init 5 = .ok (.bipush 51, 2) := by decide +kernel
theorem dX7_init_7 : decode cX7_init 7 = .ok (.newarray .int, 2) := by decide +kernel
theorem dX7_init_9 : decode cX7_init 9 = .ok (.putfield 7, 3) := by decide +kernel
theorem dX7_init_12 : decode cX7_init 12 = .ok (.aload_n 0, 1) := by decide +kernel
theorem dX7_init_13 : decode cX7_init 13 = .ok (.bipush 51, 2) := by decide +kernel
theorem dX7_init_15 : decode cX7_init 15 = .ok (.newarray .int, 2) := by decide +kernel
theorem dX7_init_17 : decode cX7_init 17 = .ok (.putfield 13, 3) := by decide +kernel
theorem dX7_init_20 : decode cX7_init 20 = .ok (.aload_n 0, 1) := by decide +kernel
theorem dX7_init_21 : decode cX7_init 21 = .ok (.sipush 255, 3) := by decide +kernel
theorem dX7_init_24 : decode cX7_init 24 = .ok (.newarray .int, 2) := by decide +kernel
theorem dX7_init_26 : decode cX7_init 26 = .ok (.putfield 16, 3) := by decide +kernel
theorem dX7_init_29 : decode cX7_init 29 = .ok (.aload_n 0, 1) := by decide +kernel
theorem dX7_init_30 : decode cX7_init 30 = .ok (.iconst 3, 1) := by decide +kernel
theorem dX7_init_31 : decode cX7_init 31 = .ok (.newarray .int, 2) := by decide +kernel
theorem dX7_init_33 : decode cX7_init 33 = .ok (.putfield 19, 3) := by decide +kernel
theorem dX7_init_36 : decode cX7_init 36 = .ok (.aload_n 0, 1) := by decide +kernel
theorem dX7_init_37 : decode cX7_init 37 = .ok (.iconst (-1), 1) := by decide +kernel
theorem dX7_init_38 : decode cX7_init 38 = .ok (.putfield 22, 3) := by decide +kernel
theorem dX7_init_41 : decode cX7_init 41 = .ok (.aload_n 0, 1) := by decide +kernel
theorem dX7_init_42 : decode cX7_init 42 = .ok (.sipush 150, 3) := by decide +kernel
theorem dX7_init_45 : decode cX7_init 45 = .ok (.newarray .int, 2) := by decide +kernel
theorem dX7_init_47 : decode cX7_init 47 = .ok (.putfield 26, 3) := by decide +kernel
theorem dX7_init_50 : decode cX7_init 50 = .ok (.aload_n 0, 1) := by decide +kernel
theorem dX7_init_51 : decode cX7_init 51 = .ok (.sipush 150, 3) := by decide +kernel
theorem dX7_init_54 : decode cX7_init 54 = .ok (.newarray .int, 2) := by decide +kernel
theorem dX7_init_56 : decode cX7_init 56 = .ok (.putfield 29, 3) := by decide +kernel
theorem dX7_init_59 : decode cX7_init 59 = .ok (.aload_n 0, 1) := by decide +kernel
theorem dX7_init_60 : decode cX7_init 60 = .ok (.sipush 151, 3) := by decide +kernel
theorem dX7_init_63 : decode cX7_init 63 = .ok (.newarray .int, 2) := by decide +kernel
theorem dX7_init_65 : decode cX7_init 65 = .ok (.putfield 32, 3) := by decide +kernel
theorem dX7_init_68 : decode cX7_init 68 = .ok (.aload_n 0, 1) := by decide +kernel
theorem dX7_init_69 : decode cX7_init 69 = .ok (.sipush 150, 3) := by decide +kernel
theorem dX7_init_72 : decode cX7_init 72 = .ok (.newarray .int, 2) := by decide +kernel
theorem dX7_init_74 : decode cX7_init 74 = .ok (.putfield 35, 3) := by decide +kernel
theorem dX7_init_77 : decode cX7_init 77 = .ok (.aload_n 0, 1) := by decide +kernel
theorem dX7_init_78 : decode cX7_init 78 = .ok (.bipush 8, 2) := by decide +kernel
theorem dX7_init_80 : decode cX7_init 80 = .ok (.newarray .int, 2) := by decide +kernel
theorem dX7_init_82 : decode cX7_init 82 = .ok (.putfield 38, 3) := by decide +kernel
theorem dX7_init_85 : decode cX7_init 85 = .ok (.aload_n 0, 1) := by decide +kernel
theorem dX7_init_86 : decode cX7_init 86 = .ok (.bipush 8, 2) := by decide +kernel
theorem dX7_init_88 : decode cX7_init 88 = .ok (.newarray .int, 2) := by decide +kernel
theorem dX7_init_90 : decode cX7_init 90 = .ok (.putfield 41, 3) := by decide +kernel
theorem dX7_init_93 : decode cX7_init 93 = .ok (.iconst 0, 1) := by decide +kernel
theorem dX7_init_94 : decode cX7_init 94 = .ok (.istore_n 1, 1) := by decide +kernel
theorem dX7_init_95 : decode cX7_init 95 = .ok (.iload_n 1, 1) := by decide +kernel
theorem dX7_init_96 : decode cX7_init 96 = .ok (.iconst 5, 1) := by decide +kernel
theorem dX7_init_97 : decode cX7_init 97 = .ok (.if_icmp .ge 31, 3) := by decide +kernel
theorem dX7_init_100 : decode cX7_init 100 = .ok (.aload_n 0, 1) := by decide +kernel
theorem dX7_init_101 : decode cX7_init 101 = .ok (.getfield 7, 3) := by decide +kernel
theorem dX7_init_104 : decode cX7_init 104 = .ok (.bipush 13, 2) := by decide +kernel
theorem dX7_init_106 : decode cX7_init 106 = .ok (.iload_n 1, 1) := by decide +kernel
theorem dX7_init_107 : decode cX7_init 107 = .ok (.iadd, 1) := by decide +kernel
theorem dX7_init_108 : decode cX7_init 108 = .ok (.bipush 8, 2) := by decide +kernel
theorem dX7_init_110 : decode cX7_init 110 = .ok (.iastore, 1) := by decide +kernel
theorem dX7_init_111 : decode cX7_init 111 = .ok (.aload_n 0, 1) := by decide +kernel
theorem dX7_init_112 : decode cX7_init 112 = .ok (.getfield 7, 3) := by decide +kernel
theorem dX7_init_115 : decode cX7_init 115 = .ok (.bipush 18, 2) := by decide +kernel
theorem dX7_init_117 : decode cX7_init 117 = .ok (.iload_n 1, 1) := by decide +kernel
theorem dX7_init_118 : decode cX7_init 118 = .ok (.iadd, 1) := by decide +kernel
theorem dX7_init_119 : decode cX7_init 119 = .ok (.bipush 8, 2) := by decide +kernel
theorem dX7_init_121 : decode cX7_init 121 = .ok (.iastore, 1) := by decide +kernel
theorem dX7_init_122 : decode cX7_init 122 = .ok (.iinc 1 1, 3) := by decide +kernel
theorem dX7_init_125 : decode cX7_init 125 = .ok (.goto (-30), 3) := by decide +kernel
theorem dX7_init_128 : decode cX7_init 128 = .ok (.iconst 1, 1) := by decide +kernel
theorem dX7_init_129 : decode cX7_init 129 = .ok (.istore_n 1, 1) := by decide +kernel
theorem dX7_init_130 : decode cX7_init 130 = .ok (.iload_n 1, 1) := by decide +kernel
theorem dX7_init_131 : decode cX7_init 131 = .ok (.bipush 7, 2) := by decide +kernel
theorem dX7_init_133 : decode cX7_init 133 = .ok (.if_icmp .gt 38, 3) := by decide +kernel
theorem dX7_init_136 : decode cX7_init 136 = .ok (.aload_n 0, 1) := by decide +kernel
theorem dX7_init_137 : decode cX7_init 137 = .ok (.getfield 7, 3) := by decide +kernel
theorem dX7_init_140 : decode cX7_init 140 = .ok (.bipush 23, 2) := by decide +kernel
theorem dX7_init_142 : decode cX7_init 142 = .ok (.iload_n 1, 1) := by decide +kernel
theorem dX7_init_143 : decode cX7_init 143 = .ok (.iadd, 1) := by decide +kernel
theorem dX7_init_144 : decode cX7_init 144 = .ok (.bipush 20, 2) := by decide +kernel
theorem dX7_init_146 : decode cX7_init 146 = .ok (.iload_n 1, 1) := by decide +kernel
theorem dX7_init_147 : decode cX7_init 147 = .ok (.imul, 1) := by decide +kernel
theorem dX7_init_148 : decode cX7_init 148 = .ok (.iastore, 1) := by decide +kernel
theorem dX7_init_149 : decode cX7_init 149 = .ok (.aload_n 0, 1) := by decide +kernel
theorem dX7_init_150 : decode cX7_init 150 = .ok (.getfield 7, 3) := by decide +kernel
theorem dX7_init_153 : decode cX7_init 153 = .ok (.bipush 31, 2) := by decide +kernel
theorem dX7_init_155 : decode cX7_init 155 = .ok (.iload_n 1, 1) := by decide +kernel
theorem dX7_init_156 : decode cX7_init 156 = .ok (.iadd, 1) := by decide +kernel
theorem dX7_init_157 : decode cX7_init 157 = .ok (.bipush 20, 2) := by decide +kernel
theorem dX7_init_159 : decode cX7_init 159 = .ok (.iload_n 1, 1) := by decide +kernel
theorem dX7_init_160 : decode cX7_init 160 = .ok (.imul, 1) := by decide +kernel
theorem dX7_init_161 : decode cX7_init 161 = .ok (.bipush 15, 2) := by decide +kernel
theorem dX7_init_163 : decode cX7_init 163 = .ok (.isub, 1) := by decide +kernel
theorem dX7_init_164 : decode cX7_init 164 = .ok (.iastore, 1) := by decide +kernel
theorem dX7_init_165 : decode cX7_init 165 = .ok (.iinc 1 1, 3) := by decide +kernel
theorem dX7_init_168 : decode cX7_init 168 = .ok (.goto (-38), 3) := by decide +kernel
theorem dX7_init_171 : decode cX7_init 171 = .ok (.aload_n 0, 1) := by decide +kernel
theorem dX7_init_172 : decode cX7_init 172 = .ok (.getfield 7, 3) := by decide +kernel
theorem dX7_init_175 : decode cX7_init 175 = .ok (.bipush 41, 2) := by decide +kernel
theorem dX7_init_177 : decode cX7_init 177 = .ok (.iconst 5, 1) := by decide +kernel
theorem dX7_init_178 : decode cX7_init 178 = .ok (.iastore, 1) := by decide +kernel
theorem dX7_init_179 : decode cX7_init 179 = .ok (.aload_n 0, 1) := by decide +kernel
theorem dX7_init_180 : decode cX7_init 180 = .ok (.getfield 7, 3) := by decide +kernel
theorem dX7_init_183 : decode cX7_init 183 = .ok (.bipush 42, 2) := by decide +kernel
theorem dX7_init_185 : decode cX7_init 185 = .ok (.bipush 100, 2) := by decide +kernel
theorem dX7_init_187 : decode cX7_init 187 = .ok (.iastore, 1) := by decide +kernel
theorem dX7_init_188 : decode cX7_init 188 = .ok (.aload_n 0, 1) := by decide +kernel
theorem dX7_init_189 : decode cX7_init 189 = .ok (.getfield 7, 3) := by decide +kernel
theorem dX7_init_192 : decode cX7_init 192 = .ok (.bipush 46, 2) := by decide +kernel
theorem dX7_init_194 : decode cX7_init 194 = .ok (.iconst (-1), 1) := by decide +kernel
theorem dX7_init_195 : decode cX7_init 195 = .ok (.iastore, 1) := by decide +kernel
theorem dX7_init_196 : decode cX7_init 196 = .ok (.return_, 1) := by decide +kernel
theorem dX7_in_0 : decode cX7_in 0 = .ok (.iload_n 0, 1) := by decide +kernel
theorem dX7_in_1 : decode cX7_in 1 = .ok (.iload_n 1, 1) := by decide +kernel
theorem dX7_in_2 : decode cX7_in 2 = .ok (.if_icmp .lt 12, 3) := by decide +kernel
theorem dX7_in_5 : decode cX7_in 5 = .ok (.iload_n 0, 1) := by decide +kernel
theorem dX7_in_6 : decode cX7_in 6 = .ok (.iload_n 2, 1) := by decide +kernel
theorem dX7_in_7 : decode cX7_in 7 = .ok (.if_icmp .gt 7, 3) := by decide +kernel
theorem dX7_in_10 : decode cX7_in 10 = .ok (.iconst 1, 1) := by decide +kernel
theorem dX7_in_11 : decode cX7_in 11 = .ok (.goto 4, 3) := by decide +kernel
theorem dX7_in_14 : decode cX7_in 14 = .ok (.iconst 0, 1) := by decide +kernel
theorem dX7_in_15 : decode cX7_in 15 = .ok (.ireturn, 1) := by decide +kernel
theorem dX7_bring_0 : decode cX7_bring 0 = .ok (.iconst 0, 1) := by decide +kernel
theorem dX7_bring_1 : decode cX7_bring 1 = .ok (.istore 4, 2) := by decide +kernel
theorem dX7_bring_3 : decode cX7_bring 3 = .ok (.iload 4, 2) := by decide +kernel
theorem dX7_bring_5 : decode cX7_bring 5 = .ok (.bipush 51, 2) := by decide +kernel
theorem dX7_bring_7 : decode cX7_bring 7 = .ok (.if_icmp .ge 21, 3) := by decide +kernel
theorem dX7_bring_10 : decode cX7_bring 10 = .ok (.aload_n 2, 1) := by decide +kernel
theorem dX7_bring_11 : decode cX7_bring 11 = .ok (.iload_n 3, 1) := by decide +kernel
theorem dX7_bring_12 : decode cX7_bring 12 = .ok (.iload 4, 2) := by decide +kernel
theorem dX7_bring_14 : decode cX7_bring 14 = .ok (.iadd, 1) := by decide +kernel
theorem dX7_bring_15 : decode cX7_bring 15 = .ok (.aload_n 0, 1) := by decide +kernel
theorem dX7_bring_16 : decode cX7_bring 16 = .ok (.iload_n 1, 1) := by decide +kernel
theorem dX7_bring_17 : decode cX7_bring 17 = .ok (.iload 4, 2) := by decide +kernel
theorem dX7_bring_19 : decode cX7_bring 19 = .ok (.iadd, 1) := by decide +kernel
theorem dX7_bring_20 : decode cX7_bring 20 = .ok (.iaload, 1) := by decide +kernel
theorem dX7_bring_21 : decode cX7_bring 21 = .ok (.iastore, 1) := by decide +kernel
theorem dX7_bring_22 : decode cX7_bring 22 = .ok (.iinc 4 1, 3) := by decide +kernel
theorem dX7_bring_25 : decode cX7_bring 25 = .ok (.goto (-22), 3) := by decide +kernel
theorem dX7_bring_28 : decode cX7_bring 28 = .ok (.return_, 1) := by decide +kernel
theorem dX7_refuse_0 : decode cX7_refuse 0 = .ok (.aload_n 0, 1) := by decide +kernel
theorem dX7_refuse_1 : decode cX7_refuse 1 = .ok (.getfield 19, 3) := by decide +kernel
theorem dX7_refuse_4 : decode cX7_refuse 4 = .ok (.bipush (-2), 2) := by decide +kernel
theorem dX7_refuse_6 : decode cX7_refuse 6 = .ok (.iload_n 1, 1) := by decide +kernel
theorem dX7_refuse_7 : decode cX7_refuse 7 = .ok (.isub, 1) := by decide +kernel
theorem dX7_refuse_8 : decode cX7_refuse 8 = .ok (.dup2, 1) := by decide +kernel
theorem dX7_refuse_9 : decode cX7_refuse 9 = .ok (.iaload, 1) := by decide +kernel
theorem dX7_refuse_10 : decode cX7_refuse 10 = .ok (.iconst 1, 1) := by decide +kernel
theorem dX7_refuse_11 : decode cX7_refuse 11 = .ok (.iadd, 1) := by decide +kernel
theorem dX7_refuse_12 : decode cX7_refuse 12 = .ok (.iastore, 1) := by decide +kernel
theorem dX7_refuse_13 : decode cX7_refuse 13 = .ok (.iload_n 1, 1) := by decide +kernel
theorem dX7_refuse_14 : decode cX7_refuse 14 = .ok (.ireturn, 1) := by decide +kernel
set_option maxRecDepth 20000 in
theorem ggX7_save_X7_bring : GoodIn wsX7_save wsX7_bring := goodIn_r _ [6] (by decide +kernel) (by decide +kernel)
set_option maxRecDepth 20000 in
theorem gX7_save_X7_bring : GoodIn wsX7_save (va_wsS RX7 44 yX7_bring wsX7_bring) := goodIn_app (goodIn_of _ (by decide +kernel)) ggX7_save_X7_bring
theorem dX7_save_0 : decode cX7_save 0 = .ok (.aload_n 0, 1) := by decide +kernel
theorem dX7_save_1 : decode cX7_save 1 = .ok (.getfield 7, 3) := by decide +kernel
theorem dX7_save_4 : decode cX7_save 4 = .ok (.iconst 0, 1) := by decide +kernel
theorem dX7_save_5 : decode cX7_save 5 = .ok (.aload_n 0, 1) := by decide +kernel
theorem dX7_save_6 : decode cX7_save 6 = .ok (.getfield 13, 3) := by decide +kernel
theorem dX7_save_9 : decode cX7_save 9 = .ok (.iconst 0, 1) := by decide +kernel
theorem dX7_save_10 : decode cX7_save 10 = .ok (.invokestatic 44, 3) := by decide +kernel
theorem dX7_save_13 : decode cX7_save 13 = .ok (.return_, 1) := by decide +kernel
set_option maxRecDepth 20000 in
theorem ggX7_finish_X7_refuse : GoodIn wsX7_finish wsX7_refuse := goodIn_r _ [8, 9, 13, 14, 15, 16, 17, 18, 19, 20, 21, 22, 23, 24, 25, 26, 27, 28, 29, 30, 31, 32, 33] (by decide +kernel) (by decide +kernel)
set_option maxRecDepth 20000 in
theorem gX7_finish_X7_refuse : GoodIn wsX7_finish (wsV RX7 48 RX7 yX7_refuse wsX7_refuse) := goodIn_app (goodIn_of _ (by decide +kernel)) ggX7_finish_X7_refuse
set_option maxRecDepth 20000 in
theorem ggX7_finish_X7_bring : GoodIn wsX7_finish wsX7_bring := goodIn_r _ [12] (by decide +kernel) (by decide +kernel)
set_option maxRecDepth 20000 in
theorem gX7_finish_X7_bring : GoodIn wsX7_finish (va_wsS RX7 44 yX7_bring wsX7_bring) := goodIn_app (goodIn_of _ (by decide +kernel)) ggX7_finish_X7_bring
theorem dX7_finish_0 : decode cX7_finish 0 = .ok (.iload_n 1, 1) := by decide +kernel
theorem dX7_finish_1 : decode cX7_finish 1 = .ok (.bipush (-2), 2) := by decide +kernel
theorem dX7_finish_3 : decode cX7_finish 3 = .ok (.if_icmp .eq 9, 3) := by decide +kernel
theorem dX7_finish_6 : decode cX7_finish 6 = .ok (.iload_n 1, 1) := by decide +kernel
theorem dX7_finish_7 : decode cX7_finish 7 = .ok (.bipush (-3), 2) := by decide +kernel
theorem dX7_finish_9 : decode cX7_finish 9 = .ok (.if_icmp .ne 9, 3) := by decide +kernel
theorem dX7_finish_12 : decode cX7_finish 12 = .ok (.aload_n 0, 1) := by decide +kernel
theorem dX7_finish_13 : decode cX7_finish 13 = .ok (.iload_n 1, 1) := by decide +kernel
theorem dX7_finish_14 : decode cX7_finish 14 = .ok (.invokevirtual 48, 3) := by decide +kernel
theorem dX7_finish_17 : decode cX7_finish 17 = .ok (.ireturn, 1) := by decide +kernel
theorem dX7_finish_18 : decode cX7_finish 18 = .ok (.aload_n 0, 1) := by decide +kernel
theorem dX7_finish_19 : decode cX7_finish 19 = .ok (.getfield 52, 3) := by decide +kernel
theorem dX7_finish_22 : decode cX7_finish 22 = .ok (.iconst 5, 1) := by decide +kernel
theorem dX7_finish_23 : decode cX7_finish 23 = .ok (.if_icmp .ne 43, 3) := by decide +kernel
theorem dX7_finish_26 : decode cX7_finish 26 = .ok (.iconst 0, 1) := by decide +kernel
theorem dX7_finish_27 : decode cX7_finish 27 = .ok (.istore_n 2, 1) := by decide +kernel
theorem dX7_finish_28 : decode cX7_finish 28 = .ok (.iload_n 2, 1) := by decide +kernel
theorem dX7_finish_29 : decode cX7_finish 29 = .ok (.sipush 204, 3) := by decide +kernel
theorem dX7_finish_32 : decode cX7_finish 32 = .ok (.if_icmp .ge 24, 3) := by decide +kernel
theorem dX7_finish_35 : decode cX7_finish 35 = .ok (.aload_n 0, 1) := by decide +kernel
theorem dX7_finish_36 : decode cX7_finish 36 = .ok (.getfield 16, 3) := by decide +kernel
theorem dX7_finish_39 : decode cX7_finish 39 = .ok (.iload_n 2, 1) := by decide +kernel
theorem dX7_finish_40 : decode cX7_finish 40 = .ok (.aload_n 0, 1) := by decide +kernel
theorem dX7_finish_41 : decode cX7_finish 41 = .ok (.getfield 16, 3) := by decide +kernel
theorem dX7_finish_44 : decode cX7_finish 44 = .ok (.iload_n 2, 1) := by decide +kernel
theorem dX7_finish_45 : decode cX7_finish 45 = .ok (.bipush 51, 2) := by decide +kernel
theorem dX7_finish_47 : decode cX7_finish 47 = .ok (.iadd, 1) := by decide +kernel
theorem dX7_finish_48 : decode cX7_finish 48 = .ok (.iaload, 1) := by decide +kernel
theorem dX7_finish_49 : decode cX7_finish 49 = .ok (.iastore, 1) := by decide +kernel
theorem dX7_finish_50 : decode cX7_finish 50 = .ok (.iinc 2 1, 3) := by decide +kernel
theorem dX7_finish_53 : decode cX7_finish 53 = .ok (.goto (-25), 3) := by decide +kernel
theorem dX7_finish_56 : decode cX7_finish 56 = .ok (.aload_n 0, 1) := by decide +kernel
theorem dX7_finish_57 : decode cX7_finish 57 = .ok (.dup, 1) := by decide +kernel
theorem dX7_finish_58 : decode cX7_finish 58 = .ok (.getfield 52, 3) := by decide +kernel
theorem dX7_finish_61 : decode cX7_finish 61 = .ok (.iconst 1, 1) := by decide +kernel
theorem dX7_finish_62 : decode cX7_finish 62 = .ok (.isub, 1) := by decide +kernel
theorem dX7_finish_63 : decode cX7_finish 63 = .ok (.putfield 52, 3) := by decide +kernel
theorem dX7_finish_66 : decode cX7_finish 66 = .ok (.aload_n 0, 1) := by decide +kernel
theorem dX7_finish_67 : decode cX7_finish 67 = .ok (.getfield 13, 3) := by decide +kernel
theorem dX7_finish_70 : decode cX7_finish 70 = .ok (.iconst 0, 1) := by decide +kernel
theorem dX7_finish_71 : decode cX7_finish 71 = .ok (.aload_n 0, 1) := by decide +kernel
theorem dX7_finish_72 : decode cX7_finish 72 = .ok (.getfield 16, 3) := by decide +kernel
theorem dX7_finish_75 : decode cX7_finish 75 = .ok (.bipush 51, 2) := by decide +kernel
theorem dX7_finish_77 : decode cX7_finish 77 = .ok (.aload_n 0, 1) := by decide +kernel
theorem dX7_finish_78 : decode cX7_finish 78 = .ok (.getfield 52, 3) := by decide +kernel
theorem dX7_finish_81 : decode cX7_finish 81 = .ok (.imul, 1) := by decide +kernel
theorem dX7_finish_82 : decode cX7_finish 82 = .ok (.invokestatic 44, 3) := by decide +kernel
theorem dX7_finish_85 : decode cX7_finish 85 = .ok (.aload_n 0, 1) := by decide +kernel
theorem dX7_finish_86 : decode cX7_finish 86 = .ok (.dup, 1) := by decide +kernel
theorem dX7_finish_87 : decode cX7_finish 87 = .ok (.getfield 52, 3) := by decide +kernel
theorem dX7_finish_90 : decode cX7_finish 90 = .ok (.iconst 1, 1) := by decide +kernel
theorem dX7_finish_91 : decode cX7_finish 91 = .ok (.iadd, 1) := by decide +kernel
theorem dX7_finish_92 : decode cX7_finish 92 = .ok (.putfield 52, 3) := by decide +kernel
theorem dX7_finish_95 : decode cX7_finish 95 = .ok (.iload_n 1, 1) := by decide +kernel
theorem dX7_finish_96 : decode cX7_finish 96 = .ok (.ireturn, 1) := by decide +kernel
set_option maxRecDepth 20000 in
theorem ggX7_isGear_X7_in : GoodIn wsX7_isGear wsX7_in := goodIn_r _ [4] (by decide +kernel) (by decide +kernel)
set_option maxRecDepth 20000 in
theorem gX7_isGear_X7_in : GoodIn wsX7_isGear (va_wsS RX7 55 yX7_in wsX7_in) := goodIn_app (goodIn_of _ (by decide +kernel)) ggX7_isGear_X7_in
theorem dX7_isGear_0 : decode cX7_isGear 0 = .ok (.iload_n 0, 1) := by decide +kernel
theorem dX7_isGear_1 : decode cX7_isGear 1 = .ok (.iconst 1, 1) := by decide +kernel
theorem dX7_isGear_2 : decode cX7_isGear 2 = .ok (.bipush 7, 2) := by decide +kernel
theorem dX7_isGear_4 : decode cX7_isGear 4 = .ok (.invokestatic 55, 3) := by decide +kernel
theorem dX7_isGear_7 : decode cX7_isGear 7 = .ok (.ireturn, 1) := by decide +kernel
set_option maxRecDepth 20000 in
theorem ggX7_isClutch_X7_in : GoodIn wsX7_isClutch wsX7_in := goodIn_r _ [4] (by decide +kernel) (by decide +kernel)
set_option maxRecDepth 20000 in
theorem gX7_isClutch_X7_in : GoodIn wsX7_isClutch (va_wsS RX7 55 yX7_in wsX7_in) := goodIn_app (goodIn_of _ (by decide +kernel)) ggX7_isClutch_X7_in
theorem dX7_isClutch_0 : decode cX7_isClutch 0 = .ok (.iload_n 0, 1) := by decide +kernel
theorem dX7_isClutch_1 : decode cX7_isClutch 1 = .ok (.iconst 0, 1) := by decide +kernel
theorem dX7_isClutch_2 : decode cX7_isClutch 2 = .ok (.iconst 4, 1) := by decide +kernel
theorem dX7_isClutch_3 : decode cX7_isClutch 3 = .ok (.invokestatic 55, 3) := by decide +kernel
theorem dX7_isClutch_6 : decode cX7_isClutch 6 = .ok (.ireturn, 1) := by decide +kernel
theorem dX7_ones_0 : decode cX7_ones 0 = .ok (.iconst 0, 1) := by decide +kernel
theorem dX7_ones_1 : decode cX7_ones 1 = .ok (.istore_n 1, 1) := by decide +kernel
theorem dX7_ones_2 : decode cX7_ones 2 = .ok (.iconst 0, 1) := by decide +kernel
theorem dX7_ones_3 : decode cX7_ones 3 = .ok (.istore_n 2, 1) := by decide +kernel
theorem dX7_ones_4 : decode cX7_ones 4 = .ok (.iload_n 2, 1) := by decide +kernel
theorem dX7_ones_5 : decode cX7_ones 5 = .ok (.iconst 5, 1) := by decide +kernel
theorem dX7_ones_6 : decode cX7_ones 6 = .ok (.if_icmp .ge 17, 3) := by decide +kernel
theorem dX7_ones_9 : decode cX7_ones 9 = .ok (.iload_n 1, 1) := by decide +kernel
theorem dX7_ones_10 : decode cX7_ones 10 = .ok (.iload_n 0, 1) := by decide +kernel
theorem dX7_ones_11 : decode cX7_ones 11 = .ok (.iload_n 2, 1) := by decide +kernel
theorem dX7_ones_12 : decode cX7_ones 12 = .ok (.ishr, 1) := by decide +kernel
theorem dX7_ones_13 : decode cX7_ones 13 = .ok (.iconst 1, 1) := by decide +kernel
theorem dX7_ones_14 : decode cX7_ones 14 = .ok (.iand, 1) := by decide +kernel
theorem dX7_ones_15 : decode cX7_ones 15 = .ok (.iadd, 1) := by decide +kernel
theorem dX7_ones_16 : decode cX7_ones 16 = .ok (.istore_n 1, 1) := by decide +kernel
theorem dX7_ones_17 : decode cX7_ones 17 = .ok (.iinc 2 1, 3) := by decide +kernel
theorem dX7_ones_20 : decode cX7_ones 20 = .ok (.goto (-16), 3) := by decide +kernel
theorem dX7_ones_23 : decode cX7_ones 23 = .ok (.iload_n 1, 1) := by decide +kernel
theorem dX7_ones_24 : decode cX7_ones 24 = .ok (.ireturn, 1) := by decide +kernel
theorem dX7_isFit_0 : decode cX7_isFit 0 = .ok (.aload_n 0, 1) := by decide +kernel
theorem dX7_isFit_1 : decode cX7_isFit 1 = .ok (.getfield 7, 3) := by decide +kernel
theorem dX7_isFit_4 : decode cX7_isFit 4 = .ok (.iconst 0, 1) := by decide +kernel
theorem dX7_isFit_5 : decode cX7_isFit 5 = .ok (.iload_n 1, 1) := by decide +kernel
theorem dX7_isFit_6 : decode cX7_isFit 6 = .ok (.iadd, 1) := by decide +kernel
theorem dX7_isFit_7 : decode cX7_isFit 7 = .ok (.iaload, 1) := by decide +kernel
theorem dX7_isFit_8 : decode cX7_isFit 8 = .ok (.istore_n 2, 1) := by decide +kernel
theorem dX7_isFit_9 : decode cX7_isFit 9 = .ok (.iload_n 2, 1) := by decide +kernel
theorem dX7_isFit_10 : decode cX7_isFit 10 = .ok (.ifCond .eq 7, 3) := by decide +kernel
theorem dX7_isFit_13 : decode cX7_isFit 13 = .ok (.iconst 1, 1) := by decide +kernel
theorem dX7_isFit_14 : decode cX7_isFit 14 = .ok (.goto 4, 3) := by decide +kernel
theorem dX7_isFit_17 : decode cX7_isFit 17 = .ok (.iconst 0, 1) := by decide +kernel
theorem dX7_isFit_18 : decode cX7_isFit 18 = .ok (.istore_n 3, 1) := by decide +kernel
theorem dX7_isFit_19 : decode cX7_isFit 19 = .ok (.iconst 0, 1) := by decide +kernel
theorem dX7_isFit_20 : decode cX7_isFit 20 = .ok (.istore 4, 2) := by decide +kernel
theorem dX7_isFit_22 : decode cX7_isFit 22 = .ok (.iload 4, 2) := by decide +kernel
theorem dX7_isFit_24 : decode cX7_isFit 24 = .ok (.iconst 5, 1) := by decide +kernel
theorem dX7_isFit_25 : decode cX7_isFit 25 = .ok (.if_icmp .ge 74, 3) := by decide +kernel
theorem dX7_isFit_28 : decode cX7_isFit 28 = .ok (.iload_n 2, 1) := by decide +kernel
theorem dX7_isFit_29 : decode cX7_isFit 29 = .ok (.iload 4, 2) := by decide +kernel
theorem dX7_isFit_31 : decode cX7_isFit 31 = .ok (.ishr, 1) := by decide +kernel
theorem dX7_isFit_32 : decode cX7_isFit 32 = .ok (.iconst 1, 1) := by decide +kernel
theorem dX7_isFit_33 : decode cX7_isFit 33 = .ok (.iand, 1) := by decide +kernel
theorem dX7_isFit_34 : decode cX7_isFit 34 = .ok (.iconst 1, 1) := by decide +kernel
theorem dX7_isFit_35 : decode cX7_isFit 35 = .ok (.if_icmp .ne 7, 3) := by decide +kernel
theorem dX7_isFit_38 : decode cX7_isFit 38 = .ok (.iconst 1, 1) := by decide +kernel
theorem dX7_isFit_39 : decode cX7_isFit 39 = .ok (.goto 4, 3) := by decide +kernel
theorem dX7_isFit_42 : decode cX7_isFit 42 = .ok (.iconst 0, 1) := by decide +kernel
theorem dX7_isFit_43 : decode cX7_isFit 43 = .ok (.istore 5, 2) := by decide +kernel
theorem dX7_isFit_45 : decode cX7_isFit 45 = .ok (.iload_n 3, 1) := by decide +kernel
theorem dX7_isFit_46 : decode cX7_isFit 46 = .ok (.ifCond .eq 45, 3) := by decide +kernel
theorem dX7_isFit_49 : decode cX7_isFit 49 = .ok (.iload 5, 2) := by decide +kernel
theorem dX7_isFit_51 : decode cX7_isFit 51 = .ok (.ifCond .eq 17, 3) := by decide +kernel
theorem dX7_isFit_54 : decode cX7_isFit 54 = .ok (.aload_n 0, 1) := by decide +kernel
theorem dX7_isFit_55 : decode cX7_isFit 55 = .ok (.getfield 7, 3) := by decide +kernel
theorem dX7_isFit_58 : decode cX7_isFit 58 = .ok (.bipush 8, 2) := by decide +kernel
theorem dX7_isFit_60 : decode cX7_isFit 60 = .ok (.iload 4, 2) := by decide +kernel
theorem dX7_isFit_62 : decode cX7_isFit 62 = .ok (.iadd, 1) := by decide +kernel
theorem dX7_isFit_63 : decode cX7_isFit 63 = .ok (.iaload, 1) := by decide +kernel
theorem dX7_isFit_64 : decode cX7_isFit 64 = .ok (.iconst 1, 1) := by decide +kernel
theorem dX7_isFit_65 : decode cX7_isFit 65 = .ok (.if_icmp .eq 26, 3) := by decide +kernel
theorem dX7_isFit_68 : decode cX7_isFit 68 = .ok (.iload 5, 2) := by decide +kernel
theorem dX7_isFit_70 : decode cX7_isFit 70 = .ok (.ifCond .ne 17, 3) := by decide +kernel
theorem dX7_isFit_73 : decode cX7_isFit 73 = .ok (.aload_n 0, 1) := by decide +kernel
theorem dX7_isFit_74 : decode cX7_isFit 74 = .ok (.getfield 7, 3) := by decide +kernel
theorem dX7_isFit_77 : decode cX7_isFit 77 = .ok (.bipush 8, 2) := by decide +kernel
theorem dX7_isFit_79 : decode cX7_isFit 79 = .ok (.iload 4, 2) := by decide +kernel
theorem dX7_isFit_81 : decode cX7_isFit 81 = .ok (.iadd, 1) := by decide +kernel
theorem dX7_isFit_82 : decode cX7_isFit 82 = .ok (.iaload, 1) := by decide +kernel
theorem dX7_isFit_83 : decode cX7_isFit 83 = .ok (.iconst 2, 1) := by decide +kernel
theorem dX7_isFit_84 : decode cX7_isFit 84 = .ok (.if_icmp .eq 7, 3) := by decide +kernel
theorem dX7_isFit_87 : decode cX7_isFit 87 = .ok (.iconst 1, 1) := by decide +kernel
theorem dX7_isFit_88 : decode cX7_isFit 88 = .ok (.goto 4, 3) := by decide +kernel
theorem dX7_isFit_91 : decode cX7_isFit 91 = .ok (.iconst 0, 1) := by decide +kernel
theorem dX7_isFit_92 : decode cX7_isFit 92 = .ok (.istore_n 3, 1) := by decide +kernel
theorem dX7_isFit_93 : decode cX7_isFit 93 = .ok (.iinc 4 1, 3) := by decide +kernel
theorem dX7_isFit_96 : decode cX7_isFit 96 = .ok (.goto (-74), 3) := by decide +kernel
theorem dX7_isFit_99 : decode cX7_isFit 99 = .ok (.iload_n 3, 1) := by decide +kernel
theorem dX7_isFit_100 : decode cX7_isFit 100 = .ok (.ireturn, 1) := by decide +kernel
set_option maxRecDepth 20000 in
theorem ggX7_letGo_X7_isFit : GoodIn wsX7_letGo wsX7_isFit := goodIn_r _ [6, 1, 7, 8, 9, 10, 11, 12, 13, 14, 15, 16, 17, 18, 19, 20, 21, 22, 23, 24, 25, 26, 27] (by decide +kernel) (by decide +kernel)
set_option maxRecDepth 20000 in
theorem gX7_letGo_X7_isFit : GoodIn wsX7_letGo (wsV RX7 59 RX7 yX7_isFit wsX7_isFit) := goodIn_app (goodIn_of _ (by decide +kernel)) ggX7_letGo_X7_isFit
theorem dX7_letGo_0 : decode cX7_letGo 0 = .ok (.aload_n 0, 1) := by decide +kernel
theorem dX7_letGo_1 : decode cX7_letGo 1 = .ok (.getfield 7, 3) := by decide +kernel
theorem dX7_letGo_4 : decode cX7_letGo 4 = .ok (.bipush 43, 2) := by decide +kernel
theorem dX7_letGo_6 : decode cX7_letGo 6 = .ok (.aload_n 0, 1) := by decide +kernel
theorem dX7_letGo_7 : decode cX7_letGo 7 = .ok (.getfield 7, 3) := by decide +kernel
theorem dX7_letGo_10 : decode cX7_letGo 10 = .ok (.bipush 43, 2) := by decide +kernel
theorem dX7_letGo_12 : decode cX7_letGo 12 = .ok (.iaload, 1) := by decide +kernel
theorem dX7_letGo_13 : decode cX7_letGo 13 = .ok (.ifCond .le 27, 3) := by decide +kernel
theorem dX7_letGo_16 : decode cX7_letGo 16 = .ok (.aload_n 0, 1) := by decide +kernel
theorem dX7_letGo_17 : decode cX7_letGo 17 = .ok (.aload_n 0, 1) := by decide +kernel
theorem dX7_letGo_18 : decode cX7_letGo 18 = .ok (.getfield 7, 3) := by decide +kernel
theorem dX7_letGo_21 : decode cX7_letGo 21 = .ok (.bipush 43, 2) := by decide +kernel
theorem dX7_letGo_23 : decode cX7_letGo 23 = .ok (.iaload, 1) := by decide +kernel
theorem dX7_letGo_24 : decode cX7_letGo 24 = .ok (.invokevirtual 59, 3) := by decide +kernel
theorem dX7_letGo_27 : decode cX7_letGo 27 = .ok (.ifCond .eq 13, 3) := by decide +kernel
theorem dX7_letGo_30 : decode cX7_letGo 30 = .ok (.aload_n 0, 1) := by decide +kernel
theorem dX7_letGo_31 : decode cX7_letGo 31 = .ok (.getfield 7, 3) := by decide +kernel
theorem dX7_letGo_34 : decode cX7_letGo 34 = .ok (.bipush 43, 2) := by decide +kernel
theorem dX7_letGo_36 : decode cX7_letGo 36 = .ok (.iaload, 1) := by decide +kernel
theorem dX7_letGo_37 : decode cX7_letGo 37 = .ok (.goto 4, 3) := by decide +kernel
theorem dX7_letGo_40 : decode cX7_letGo 40 = .ok (.iconst 0, 1) := by decide +kernel
theorem dX7_letGo_41 : decode cX7_letGo 41 = .ok (.iastore, 1) := by decide +kernel
theorem dX7_letGo_42 : decode cX7_letGo 42 = .ok (.return_, 1) := by decide +kernel
theorem dX7_change_0 : decode cX7_change 0 = .ok (.aload_n 0, 1) := by decide +kernel
theorem dX7_change_1 : decode cX7_change 1 = .ok (.getfield 7, 3) := by decide +kernel
theorem dX7_change_4 : decode cX7_change 4 = .ok (.iload_n 1, 1) := by decide +kernel
theorem dX7_change_5 : decode cX7_change 5 = .ok (.iaload, 1) := by decide +kernel
theorem dX7_change_6 : decode cX7_change 6 = .ok (.istore_n 3, 1) := by decide +kernel
theorem dX7_change_7 : decode cX7_change 7 = .ok (.aload_n 0, 1) := by decide +kernel
theorem dX7_change_8 : decode cX7_change 8 = .ok (.getfield 7, 3) := by decide +kernel
theorem dX7_change_11 : decode cX7_change 11 = .ok (.iload_n 1, 1) := by decide +kernel
theorem dX7_change_12 : decode cX7_change 12 = .ok (.iload_n 2, 1) := by decide +kernel
theorem dX7_change_13 : decode cX7_change 13 = .ok (.iastore, 1) := by decide +kernel
theorem dX7_change_14 : decode cX7_change 14 = .ok (.iload_n 3, 1) := by decide +kernel
theorem dX7_change_15 : decode cX7_change 15 = .ok (.ireturn, 1) := by decide +kernel
set_option maxRecDepth 20000 in
theorem ggX7_putSet_X7_isGear : GoodIn wsX7_putSet wsX7_isGear := goodIn_r _ [5, 6, 7, 4, 8] (by decide +kernel) (by decide +kernel)
set_option maxRecDepth 20000 in
theorem gX7_putSet_X7_isGear : GoodIn wsX7_putSet (va_wsS RX7 63 yX7_isGear wsX7_isGear) := goodIn_app (goodIn_of _ (by decide +kernel)) ggX7_putSet_X7_isGear
set_option maxRecDepth 20000 in
theorem ggX7_putSet_X7_in : GoodIn wsX7_putSet wsX7_in := goodIn_r _ [8] (by decide +kernel) (by decide +kernel)
set_option maxRecDepth 20000 in
theorem gX7_putSet_X7_in : GoodIn wsX7_putSet (va_wsS RX7 55 yX7_in wsX7_in) := goodIn_app (goodIn_of _ (by decide +kernel)) ggX7_putSet_X7_in
set_option maxRecDepth 20000 in
theorem ggX7_putSet_X7_change : GoodIn wsX7_putSet wsX7_change := goodIn_r _ [12, 1, 21, 22, 23, 24, 25, 26, 27, 28, 29, 30, 31, 32, 33, 34, 35, 36, 37, 38, 39, 40, 41] (by decide +kernel) (by decide +kernel)
set_option maxRecDepth 20000 in
theorem gX7_putSet_X7_change : GoodIn wsX7_putSet (wsV RX7 66 RX7 yX7_change wsX7_change) := goodIn_app (goodIn_of _ (by decide +kernel)) ggX7_putSet_X7_change
set_option maxRecDepth 20000 in
theorem ggX7_putSet_X7_letGo : GoodIn wsX7_putSet wsX7_letGo := goodIn_r _ [16, 1, 17, 18, 19, 4, 20, 21, 22, 23, 24, 25, 26, 27, 28, 29, 30, 31, 32, 33, 34, 35, 36, 37, 38, 39, 40, 41] (by decide +kernel) (by decide +kernel)
set_option maxRecDepth 20000 in
theorem gX7_putSet_X7_letGo : GoodIn wsX7_putSet (wsV RX7 70 RX7 yX7_letGo wsX7_letGo) := goodIn_app (goodIn_of _ (by decide +kernel)) ggX7_putSet_X7_letGo
theorem dX7_putSet_0 : decode cX7_putSet 0 = .ok (.iload_n 1, 1) := by decide +kernel
theorem dX7_putSet_1 : decode cX7_putSet 1 = .ok (.invokestatic 63, 3) := by decide +kernel
theorem dX7_putSet_4 : decode cX7_putSet 4 = .ok (.ifCond .eq 13, 3) := by decide +kernel
theorem dX7_putSet_7 : decode cX7_putSet 7 = .ok (.iload_n 2, 1) := by decide +kernel
theorem dX7_putSet_8 : decode cX7_putSet 8 = .ok (.iconst 0, 1) := by decide +kernel
theorem dX7_putSet_9 : decode cX7_putSet 9 = .ok (.bipush 31, 2) := by decide +kernel
theorem dX7_putSet_11 : decode cX7_putSet 11 = .ok (.invokestatic 55, 3) := by decide +kernel
theorem dX7_putSet_14 : decode cX7_putSet 14 = .ok (.ifCond .ne 6, 3) := by decide +kernel
theorem dX7_putSet_17 : decode cX7_putSet 17 = .ok (.bipush (-2), 2) := by decide +kernel
theorem dX7_putSet_19 : decode cX7_putSet 19 = .ok (.ireturn, 1) := by decide +kernel
theorem dX7_putSet_20 : decode cX7_putSet 20 = .ok (.iconst 1, 1) := by decide +kernel
theorem dX7_putSet_21 : decode cX7_putSet 21 = .ok (.istore_n 3, 1) := by decide +kernel
theorem dX7_putSet_22 : decode cX7_putSet 22 = .ok (.iload_n 3, 1) := by decide +kernel
theorem dX7_putSet_23 : decode cX7_putSet 23 = .ok (.bipush 7, 2) := by decide +kernel
theorem dX7_putSet_25 : decode cX7_putSet 25 = .ok (.if_icmp .gt 33, 3) := by decide +kernel
theorem dX7_putSet_28 : decode cX7_putSet 28 = .ok (.iload_n 3, 1) := by decide +kernel
theorem dX7_putSet_29 : decode cX7_putSet 29 = .ok (.iload_n 1, 1) := by decide +kernel
theorem dX7_putSet_30 : decode cX7_putSet 30 = .ok (.if_icmp .eq 22, 3) := by decide +kernel
theorem dX7_putSet_33 : decode cX7_putSet 33 = .ok (.iload_n 2, 1) := by decide +kernel
theorem dX7_putSet_34 : decode cX7_putSet 34 = .ok (.ifCond .eq 18, 3) := by decide +kernel
theorem dX7_putSet_37 : decode cX7_putSet 37 = .ok (.aload_n 0, 1) := by decide +kernel
theorem dX7_putSet_38 : decode cX7_putSet 38 = .ok (.getfield 7, 3) := by decide +kernel
theorem dX7_putSet_41 : decode cX7_putSet 41 = .ok (.iconst 0, 1) := by decide +kernel
theorem dX7_putSet_42 : decode cX7_putSet 42 = .ok (.iload_n 3, 1) := by decide +kernel
theorem dX7_putSet_43 : decode cX7_putSet 43 = .ok (.iadd, 1) := by decide +kernel
theorem dX7_putSet_44 : decode cX7_putSet 44 = .ok (.iaload, 1) := by decide +kernel
theorem dX7_putSet_45 : decode cX7_putSet 45 = .ok (.iload_n 2, 1) := by decide +kernel
theorem dX7_putSet_46 : decode cX7_putSet 46 = .ok (.if_icmp .ne 6, 3) := by decide +kernel
theorem dX7_putSet_49 : decode cX7_putSet 49 = .ok (.bipush (-3), 2) := by decide +kernel
theorem dX7_putSet_51 : decode cX7_putSet 51 = .ok (.ireturn, 1) := by decide +kernel
theorem dX7_putSet_52 : decode cX7_putSet 52 = .ok (.iinc 3 1, 3) := by decide +kernel
theorem dX7_putSet_55 : decode cX7_putSet 55 = .ok (.goto (-33), 3) := by decide +kernel
theorem dX7_putSet_58 : decode cX7_putSet 58 = .ok (.aload_n 0, 1) := by decide +kernel
theorem dX7_putSet_59 : decode cX7_putSet 59 = .ok (.iconst 0, 1) := by decide +kernel
theorem dX7_putSet_60 : decode cX7_putSet 60 = .ok (.iload_n 1, 1) := by decide +kernel
theorem dX7_putSet_61 : decode cX7_putSet 61 = .ok (.iadd, 1) := by decide +kernel
theorem dX7_putSet_62 : decode cX7_putSet 62 = .ok (.iload_n 2, 1) := by decide +kernel
theorem dX7_putSet_63 : decode cX7_putSet 63 = .ok (.invokevirtual 66, 3) := by decide +kernel
theorem dX7_putSet_66 : decode cX7_putSet 66 = .ok (.istore_n 3, 1) := by decide +kernel
theorem dX7_putSet_67 : decode cX7_putSet 67 = .ok (.aload_n 0, 1) := by decide +kernel
theorem dX7_putSet_68 : decode cX7_putSet 68 = .ok (.invokevirtual 70, 3) := by decide +kernel
theorem dX7_putSet_71 : decode cX7_putSet 71 = .ok (.iload_n 3, 1) := by decide +kernel
theorem dX7_putSet_72 : decode cX7_putSet 72 = .ok (.ireturn, 1) := by decide +kernel
set_option maxRecDepth 20000 in
theorem ggX7_putState_X7_isClutch : GoodIn wsX7_putState wsX7_isClutch := goodIn_r _ [4, 5, 6, 3, 7] (by decide +kernel) (by decide +kernel)
set_option maxRecDepth 20000 in
theorem gX7_putState_X7_isClutch : GoodIn wsX7_putState (va_wsS RX7 73 yX7_isClutch wsX7_isClutch) := goodIn_app (goodIn_of _ (by decide +kernel)) ggX7_putState_X7_isClutch
set_option maxRecDepth 20000 in
theorem ggX7_putState_X7_in : GoodIn wsX7_putState wsX7_in := goodIn_r _ [7] (by decide +kernel) (by decide +kernel)
set_option maxRecDepth 20000 in
theorem gX7_putState_X7_in : GoodIn wsX7_putState (va_wsS RX7 55 yX7_in wsX7_in) := goodIn_app (goodIn_of _ (by decide +kernel)) ggX7_putState_X7_in
set_option maxRecDepth 20000 in
theorem ggX7_putState_X7_change : GoodIn wsX7_putState wsX7_change := goodIn_r _ [11, 12, 21, 22, 23, 24, 25, 26, 27, 28, 29, 30, 31, 32, 33, 34, 35, 36, 37, 38, 39, 40, 41] (by decide +kernel) (by decide +kernel)
set_option maxRecDepth 20000 in
theorem gX7_putState_X7_change : GoodIn wsX7_putState (wsV RX7 66 RX7 yX7_change wsX7_change) := goodIn_app (goodIn_of _ (by decide +kernel)) ggX7_putState_X7_change
set_option maxRecDepth 20000 in
theorem ggX7_putState_X7_letGo : GoodIn wsX7_putState wsX7_letGo := goodIn_r _ [16, 12, 17, 18, 19, 3, 20, 21, 22, 23, 24, 25, 26, 27, 28, 29, 30, 31, 32, 33, 34, 35, 36, 37, 38, 39, 40, 41] (by decide +kernel) (by decide +kernel)
set_option maxRecDepth 20000 in
theorem gX7_putState_X7_letGo : GoodIn wsX7_putState (wsV RX7 70 RX7 yX7_letGo wsX7_letGo) := goodIn_app (goodIn_of _ (by decide +kernel)) ggX7_putState_X7_letGo
theorem dX7_putState_0 : decode cX7_putState 0 = .ok (.iload_n 1, 1) := by decide +kernel
theorem dX7_putState_1 : decode cX7_putState 1 = .ok (.invokestatic 73, 3) := by decide +kernel
theorem dX7_putState_4 : decode cX7_putState 4 = .ok (.ifCond .eq 12, 3) := by decide +kernel
theorem dX7_putState_7 : decode cX7_putState 7 = .ok (.iload_n 2, 1) := by decide +kernel
theorem dX7_putState_8 : decode cX7_putState 8 = .ok (.iconst 0, 1) := by decide +kernel
theorem dX7_putState_9 : decode cX7_putState 9 = .ok (.iconst 2, 1) := by decide +kernel
theorem dX7_putState_10 : decode cX7_putState 10 = .ok (.invokestatic 55, 3) := by decide +kernel
theorem dX7_putState_13 : decode cX7_putState 13 = .ok (.ifCond .ne 6, 3) := by decide +kernel
theorem dX7_putState_16 : decode cX7_putState 16 = .ok (.bipush (-2), 2) := by decide +kernel
theorem dX7_putState_18 : decode cX7_putState 18 = .ok (.ireturn, 1) := by decide +kernel
theorem dX7_putState_19 : decode cX7_putState 19 = .ok (.aload_n 0, 1) := by decide +kernel
theorem dX7_putState_20 : decode cX7_putState 20 = .ok (.bipush 8, 2) := by decide +kernel
theorem dX7_putState_22 : decode cX7_putState 22 = .ok (.iload_n 1, 1) := by decide +kernel
theorem dX7_putState_23 : decode cX7_putState 23 = .ok (.iadd, 1) := by decide +kernel
theorem dX7_putState_24 : decode cX7_putState 24 = .ok (.iload_n 2, 1) := by decide +kernel
theorem dX7_putState_25 : decode cX7_putState 25 = .ok (.invokevirtual 66, 3) := by decide +kernel
theorem dX7_putState_28 : decode cX7_putState 28 = .ok (.istore_n 3, 1) := by decide +kernel
theorem dX7_putState_29 : decode cX7_putState 29 = .ok (.aload_n 0, 1) := by decide +kernel
theorem dX7_putState_30 : decode cX7_putState 30 = .ok (.invokevirtual 70, 3) := by decide +kernel
theorem dX7_putState_33 : decode cX7_putState 33 = .ok (.iload_n 3, 1) := by decide +kernel
theorem dX7_putState_34 : decode cX7_putState 34 = .ok (.ireturn, 1) := by decide +kernel
set_option maxRecDepth 20000 in
theorem ggX7_putTrue_X7_isClutch : GoodIn wsX7_putTrue wsX7_isClutch := goodIn_r _ [4, 5, 6, 3, 7] (by decide +kernel) (by decide +kernel)
set_option maxRecDepth 20000 in
theorem gX7_putTrue_X7_isClutch : GoodIn wsX7_putTrue (va_wsS RX7 73 yX7_isClutch wsX7_isClutch) := goodIn_app (goodIn_of _ (by decide +kernel)) ggX7_putTrue_X7_isClutch
set_option maxRecDepth 20000 in
theorem ggX7_putTrue_X7_in : GoodIn wsX7_putTrue wsX7_in := goodIn_r _ [7] (by decide +kernel) (by decide +kernel)
set_option maxRecDepth 20000 in
theorem gX7_putTrue_X7_in : GoodIn wsX7_putTrue (va_wsS RX7 55 yX7_in wsX7_in) := goodIn_app (goodIn_of _ (by decide +kernel)) ggX7_putTrue_X7_in
set_option maxRecDepth 20000 in
theorem ggX7_putTrue_X7_change : GoodIn wsX7_putTrue wsX7_change := goodIn_r _ [11, 12, 13, 14, 15, 16, 17, 18, 19, 20, 21, 22, 23, 24, 25, 26, 27, 28, 29, 30, 31, 32, 33] (by decide +kernel) (by decide +kernel)
set_option maxRecDepth 20000 in
theorem gX7_putTrue_X7_change : GoodIn wsX7_putTrue (wsV RX7 66 RX7 yX7_change wsX7_change) := goodIn_app (goodIn_of _ (by decide +kernel)) ggX7_putTrue_X7_change
theorem dX7_putTrue_0 : decode cX7_putTrue 0 = .ok (.iload_n 1, 1) := by decide +kernel
theorem dX7_putTrue_1 : decode cX7_putTrue 1 = .ok (.invokestatic 73, 3) := by decide +kernel
theorem dX7_putTrue_4 : decode cX7_putTrue 4 = .ok (.ifCond .eq 25, 3) := by decide +kernel
theorem dX7_putTrue_7 : decode cX7_putTrue 7 = .ok (.iload_n 2, 1) := by decide +kernel
theorem dX7_putTrue_8 : decode cX7_putTrue 8 = .ok (.iconst 1, 1) := by decide +kernel
theorem dX7_putTrue_9 : decode cX7_putTrue 9 = .ok (.bipush 20, 2) := by decide +kernel
theorem dX7_putTrue_11 : decode cX7_putTrue 11 = .ok (.invokestatic 55, 3) := by decide +kernel
theorem dX7_putTrue_14 : decode cX7_putTrue 14 = .ok (.ifCond .eq 15, 3) := by decide +kernel
theorem dX7_putTrue_17 : decode cX7_putTrue 17 = .ok (.aload_n 0, 1) := by decide +kernel
theorem dX7_putTrue_18 : decode cX7_putTrue 18 = .ok (.bipush 13, 2) := by decide +kernel
theorem dX7_putTrue_20 : decode cX7_putTrue 20 = .ok (.iload_n 1, 1) := by decide +kernel
theorem dX7_putTrue_21 : decode cX7_putTrue 21 = .ok (.iadd, 1) := by decide +kernel
theorem dX7_putTrue_22 : decode cX7_putTrue 22 = .ok (.iload_n 2, 1) := by decide +kernel
theorem dX7_putTrue_23 : decode cX7_putTrue 23 = .ok (.invokevirtual 66, 3) := by decide +kernel
theorem dX7_putTrue_26 : decode cX7_putTrue 26 = .ok (.goto 5, 3) := by decide +kernel
theorem dX7_putTrue_29 : decode cX7_putTrue 29 = .ok (.bipush (-2), 2) := by decide +kernel
theorem dX7_putTrue_31 : decode cX7_putTrue 31 = .ok (.ireturn, 1) := by decide +kernel
set_option maxRecDepth 20000 in
theorem ggX7_putUp_X7_isGear : GoodIn wsX7_putUp wsX7_isGear := goodIn_r _ [4, 5, 6, 3, 7] (by decide +kernel) (by decide +kernel)
set_option maxRecDepth 20000 in
theorem gX7_putUp_X7_isGear : GoodIn wsX7_putUp (va_wsS RX7 63 yX7_isGear wsX7_isGear) := goodIn_app (goodIn_of _ (by decide +kernel)) ggX7_putUp_X7_isGear
set_option maxRecDepth 20000 in
theorem ggX7_putUp_X7_in : GoodIn wsX7_putUp wsX7_in := goodIn_r _ [7] (by decide +kernel) (by decide +kernel)
set_option maxRecDepth 20000 in
theorem gX7_putUp_X7_in : GoodIn wsX7_putUp (va_wsS RX7 55 yX7_in wsX7_in) := goodIn_app (goodIn_of _ (by decide +kernel)) ggX7_putUp_X7_in
set_option maxRecDepth 20000 in
theorem ggX7_putUp_X7_change : GoodIn wsX7_putUp wsX7_change := goodIn_r _ [11, 12, 13, 14, 15, 16, 17, 18, 19, 20, 21, 22, 23, 24, 25, 26, 27, 28, 29, 30, 31, 32, 33] (by decide +kernel) (by decide +kernel)
set_option maxRecDepth 20000 in
theorem gX7_putUp_X7_change : GoodIn wsX7_putUp (wsV RX7 66 RX7 yX7_change wsX7_change) := goodIn_app (goodIn_of _ (by decide +kernel)) ggX7_putUp_X7_change
theorem dX7_putUp_0 : decode cX7_putUp 0 = .ok (.iload_n 1, 1) := by decide +kernel
theorem dX7_putUp_1 : decode cX7_putUp 1 = .ok (.invokestatic 63, 3) := by decide +kernel
theorem dX7_putUp_4 : decode cX7_putUp 4 = .ok (.ifCond .eq 26, 3) := by decide +kernel
theorem dX7_putUp_7 : decode cX7_putUp 7 = .ok (.iload_n 2, 1) := by decide +kernel
theorem dX7_putUp_8 : decode cX7_putUp 8 = .ok (.iconst 0, 1) := by decide +kernel
theorem dX7_putUp_9 : decode cX7_putUp 9 = .ok (.sipush 300, 3) := by decide +kernel
theorem dX7_putUp_12 : decode cX7_putUp 12 = .ok (.invokestatic 55, 3) := by decide +kernel
theorem dX7_putUp_15 : decode cX7_putUp 15 = .ok (.ifCond .eq 15, 3) := by decide +kernel
theorem dX7_putUp_18 : decode cX7_putUp 18 = .ok (.aload_n 0, 1) := by decide +kernel
theorem dX7_putUp_19 : decode cX7_putUp 19 = .ok (.bipush 23, 2) := by decide +kernel
theorem dX7_putUp_21 : decode cX7_putUp 21 = .ok (.iload_n 1, 1) := by decide +kernel
theorem dX7_putUp_22 : decode cX7_putUp 22 = .ok (.iadd, 1) := by decide +kernel
theorem dX7_putUp_23 : decode cX7_putUp 23 = .ok (.iload_n 2, 1) := by decide +kernel
theorem dX7_putUp_24 : decode cX7_putUp 24 = .ok (.invokevirtual 66, 3) := by decide +kernel
theorem dX7_putUp_27 : decode cX7_putUp 27 = .ok (.goto 5, 3) := by decide +kernel
theorem dX7_putUp_30 : decode cX7_putUp 30 = .ok (.bipush (-2), 2) := by decide +kernel
theorem dX7_putUp_32 : decode cX7_putUp 32 = .ok (.ireturn, 1) := by decide +kernel
set_option maxRecDepth 20000 in
theorem ggX7_putDown_X7_isGear : GoodIn wsX7_putDown wsX7_isGear := goodIn_r _ [4, 5, 6, 3, 7] (by decide +kernel) (by decide +kernel)
set_option maxRecDepth 20000 in
theorem gX7_putDown_X7_isGear : GoodIn wsX7_putDown (va_wsS RX7 63 yX7_isGear wsX7_isGear) := goodIn_app (goodIn_of _ (by decide +kernel)) ggX7_putDown_X7_isGear
set_option maxRecDepth 20000 in
theorem ggX7_putDown_X7_in : GoodIn wsX7_putDown wsX7_in := goodIn_r _ [7] (by decide +kernel) (by decide +kernel)
set_option maxRecDepth 20000 in
theorem gX7_putDown_X7_in : GoodIn wsX7_putDown (va_wsS RX7 55 yX7_in wsX7_in) := goodIn_app (goodIn_of _ (by decide +kernel)) ggX7_putDown_X7_in
set_option maxRecDepth 20000 in
theorem ggX7_putDown_X7_change : GoodIn wsX7_putDown wsX7_change := goodIn_r _ [11, 12, 13, 14, 15, 16, 17, 18, 19, 20, 21, 22, 23, 24, 25, 26, 27, 28, 29, 30, 31, 32, 33] (by decide +kernel) (by decide +kernel)
set_option maxRecDepth 20000 in
theorem gX7_putDown_X7_change : GoodIn wsX7_putDown (wsV RX7 66 RX7 yX7_change wsX7_change) := goodIn_app (goodIn_of _ (by decide +kernel)) ggX7_putDown_X7_change
theorem dX7_putDown_0 : decode cX7_putDown 0 = .ok (.iload_n 1, 1) := by decide +kernel
theorem dX7_putDown_1 : decode cX7_putDown 1 = .ok (.invokestatic 63, 3) := by decide +kernel
theorem dX7_putDown_4 : decode cX7_putDown 4 = .ok (.ifCond .eq 26, 3) := by decide +kernel
theorem dX7_putDown_7 : decode cX7_putDown 7 = .ok (.iload_n 2, 1) := by decide +kernel
theorem dX7_putDown_8 : decode cX7_putDown 8 = .ok (.iconst 0, 1) := by decide +kernel
theorem dX7_putDown_9 : decode cX7_putDown 9 = .ok (.sipush 300, 3) := by decide +kernel
theorem dX7_putDown_12 : decode cX7_putDown 12 = .ok (.invokestatic 55, 3) := by decide +kernel
theorem dX7_putDown_15 : decode cX7_putDown 15 = .ok (.ifCond .eq 15, 3) := by decide +kernel
theorem dX7_putDown_18 : decode cX7_putDown 18 = .ok (.aload_n 0, 1) := by decide +kernel
theorem dX7_putDown_19 : decode cX7_putDown 19 = .ok (.bipush 31, 2) := by decide +kernel
theorem dX7_putDown_21 : decode cX7_putDown 21 = .ok (.iload_n 1, 1) := by decide +kernel
theorem dX7_putDown_22 : decode cX7_putDown 22 = .ok (.iadd, 1) := by decide +kernel
theorem dX7_putDown_23 : decode cX7_putDown 23 = .ok (.iload_n 2, 1) := by decide +kernel
theorem dX7_putDown_24 : decode cX7_putDown 24 = .ok (.invokevirtual 66, 3) := by decide +kernel
theorem dX7_putDown_27 : decode cX7_putDown 27 = .ok (.goto 5, 3) := by decide +kernel
theorem dX7_putDown_30 : decode cX7_putDown 30 = .ok (.bipush (-2), 2) := by decide +kernel
theorem dX7_putDown_32 : decode cX7_putDown 32 = .ok (.ireturn, 1) := by decide +kernel
set_option maxRecDepth 20000 in
theorem ggX7_putSlope_X7_in : GoodIn wsX7_putSlope wsX7_in := goodIn_r _ [4] (by decide +kernel) (by decide +kernel)
set_option maxRecDepth 20000 in
theorem gX7_putSlope_X7_in : GoodIn wsX7_putSlope (va_wsS RX7 55 yX7_in wsX7_in) := goodIn_app (goodIn_of _ (by decide +kernel)) ggX7_putSlope_X7_in
set_option maxRecDepth 20000 in
theorem ggX7_putSlope_X7_change : GoodIn wsX7_putSlope wsX7_change := goodIn_r _ [8, 9, 10, 11, 12, 13, 14, 15, 16, 17, 18, 19, 20, 21, 22, 23, 24, 25, 26, 27, 28, 29, 30] (by decide +kernel) (by decide +kernel)
set_option maxRecDepth 20000 in
theorem gX7_putSlope_X7_change : GoodIn wsX7_putSlope (wsV RX7 66 RX7 yX7_change wsX7_change) := goodIn_app (goodIn_of _ (by decide +kernel)) ggX7_putSlope_X7_change
theorem dX7_putSlope_0 : decode cX7_putSlope 0 = .ok (.iload_n 1, 1) := by decide +kernel
theorem dX7_putSlope_1 : decode cX7_putSlope 1 = .ok (.bipush (-3), 2) := by decide +kernel
theorem dX7_putSlope_3 : decode cX7_putSlope 3 = .ok (.iconst 3, 1) := by decide +kernel
theorem dX7_putSlope_4 : decode cX7_putSlope 4 = .ok (.invokestatic 55, 3) := by decide +kernel
theorem dX7_putSlope_7 : decode cX7_putSlope 7 = .ok (.ifCond .eq 15, 3) := by decide +kernel
theorem dX7_putSlope_10 : decode cX7_putSlope 10 = .ok (.aload_n 0, 1) := by decide +kernel
theorem dX7_putSlope_11 : decode cX7_putSlope 11 = .ok (.bipush 39, 2) := by decide +kernel
theorem dX7_putSlope_13 : decode cX7_putSlope 13 = .ok (.iload_n 1, 1) := by decide +kernel
theorem dX7_putSlope_14 : decode cX7_putSlope 14 = .ok (.invokevirtual 66, 3) := by decide +kernel
theorem dX7_putSlope_17 : decode cX7_putSlope 17 = .ok (.iconst 3, 1) := by decide +kernel
theorem dX7_putSlope_18 : decode cX7_putSlope 18 = .ok (.iadd, 1) := by decide +kernel
theorem dX7_putSlope_19 : decode cX7_putSlope 19 = .ok (.goto 5, 3) := by decide +kernel
theorem dX7_putSlope_22 : decode cX7_putSlope 22 = .ok (.bipush (-2), 2) := by decide +kernel
theorem dX7_putSlope_24 : decode cX7_putSlope 24 = .ok (.ireturn, 1) := by decide +kernel
set_option maxRecDepth 20000 in
theorem ggX7_putDriver_X7_in : GoodIn wsX7_putDriver wsX7_in := goodIn_r _ [4] (by decide +kernel) (by decide +kernel)
set_option maxRecDepth 20000 in
theorem gX7_putDriver_X7_in : GoodIn wsX7_putDriver (va_wsS RX7 55 yX7_in wsX7_in) := goodIn_app (goodIn_of _ (by decide +kernel)) ggX7_putDriver_X7_in
set_option maxRecDepth 20000 in
theorem ggX7_putDriver_X7_change : GoodIn wsX7_putDriver wsX7_change := goodIn_r _ [8, 9, 10, 11, 12, 13, 14, 15, 16, 17, 18, 19, 20, 21, 22, 23, 24, 25, 26, 27, 28, 29, 30] (by decide +kernel) (by decide +kernel)
set_option maxRecDepth 20000 in
theorem gX7_putDriver_X7_change : GoodIn wsX7_putDriver (wsV RX7 66 RX7 yX7_change wsX7_change) := goodIn_app (goodIn_of _ (by decide +kernel)) ggX7_putDriver_X7_change
theorem dX7_putDriver_0 : decode cX7_putDriver 0 = .ok (.iload_n 1, 1) := by decide +kernel
theorem dX7_putDriver_1 : decode cX7_putDriver 1 = .ok (.iconst 0, 1) := by decide +kernel
theorem dX7_putDriver_2 : decode cX7_putDriver 2 = .ok (.iconst 3, 1) := by decide +kernel
theorem dX7_putDriver_3 : decode cX7_putDriver 3 = .ok (.invokestatic 55, 3) := by decide +kernel
theorem dX7_putDriver_6 : decode cX7_putDriver 6 = .ok (.ifCond .eq 13, 3) := by decide +kernel
theorem dX7_putDriver_9 : decode cX7_putDriver 9 = .ok (.aload_n 0, 1) := by decide +kernel
theorem dX7_putDriver_10 : decode cX7_putDriver 10 = .ok (.bipush 40, 2) := by decide +kernel
theorem dX7_putDriver_12 : decode cX7_putDriver 12 = .ok (.iload_n 1, 1) := by decide +kernel
theorem dX7_putDriver_13 : decode cX7_putDriver 13 = .ok (.invokevirtual 66, 3) := by decide +kernel
theorem dX7_putDriver_16 : decode cX7_putDriver 16 = .ok (.goto 5, 3) := by decide +kernel
theorem dX7_putDriver_19 : decode cX7_putDriver 19 = .ok (.bipush (-2), 2) := by decide +kernel
theorem dX7_putDriver_21 : decode cX7_putDriver 21 = .ok (.ireturn, 1) := by decide +kernel
set_option maxRecDepth 20000 in
theorem ggX7_gear_X7_save : GoodIn wsX7_gear wsX7_save := goodIn_r _ [5, 6, 7, 8, 9, 4, 10, 44, 45, 46, 47, 48, 49, 50, 51, 52, 53, 54, 55, 56, 57, 58, 59, 60, 61, 62, 63, 64] (by decide +kernel) (by decide +kernel)
set_option maxRecDepth 20000 in
theorem gX7_gear_X7_save : GoodIn wsX7_gear (wsV RX7 76 RX7 yX7_save wsX7_save) := goodIn_app (goodIn_of _ (by decide +kernel)) ggX7_gear_X7_save
set_option maxRecDepth 20000 in
theorem ggX7_gear_X7_putSet : GoodIn wsX7_gear wsX7_putSet := goodIn_r _ [14, 6, 15, 16, 4, 17, 18, 19, 20, 21, 22, 23, 24, 25, 26, 27, 28, 29, 30, 31, 32, 44, 45, 46, 47, 48, 49, 50, 51, 52, 53, 54, 55, 56, 57, 58, 59, 60, 61, 62, 63, 64] (by decide +kernel) (by decide +kernel)
set_option maxRecDepth 20000 in
theorem gX7_gear_X7_putSet : GoodIn wsX7_gear (wsV RX7 79 RX7 yX7_putSet wsX7_putSet) := goodIn_app (goodIn_of _ (by decide +kernel)) ggX7_gear_X7_putSet
set_option maxRecDepth 20000 in
theorem ggX7_gear_X7_finish : GoodIn wsX7_gear wsX7_finish := goodIn_r _ [36, 37, 38, 7, 39, 40, 41, 4, 42, 43, 8, 9, 10, 44, 45, 46, 47, 48, 49, 50, 51, 52, 53, 54, 55, 56, 57, 58, 59, 60, 61, 62, 63, 64] (by decide +kernel) (by decide +kernel)
set_option maxRecDepth 20000 in
theorem gX7_gear_X7_finish : GoodIn wsX7_gear (wsV RX7 82 RX7 yX7_finish wsX7_finish) := goodIn_app (goodIn_of _ (by decide +kernel)) ggX7_gear_X7_finish
theorem dX7_gear_0 : decode cX7_gear 0 = .ok (.aload_n 0, 1) := by decide +kernel
theorem dX7_gear_1 : decode cX7_gear 1 = .ok (.invokevirtual 76, 3) := by decide +kernel
theorem dX7_gear_4 : decode cX7_gear 4 = .ok (.aload_n 0, 1) := by decide +kernel
theorem dX7_gear_5 : decode cX7_gear 5 = .ok (.aload_n 0, 1) := by decide +kernel
theorem dX7_gear_6 : decode cX7_gear 6 = .ok (.iload_n 1, 1) := by decide +kernel
theorem dX7_gear_7 : decode cX7_gear 7 = .ok (.iload_n 2, 1) := by decide +kernel
theorem dX7_gear_8 : decode cX7_gear 8 = .ok (.invokevirtual 79, 3) := by decide +kernel
theorem dX7_gear_11 : decode cX7_gear 11 = .ok (.invokevirtual 82, 3) := by decide +kernel
theorem dX7_gear_14 : decode cX7_gear 14 = .ok (.ireturn, 1) := by decide +kernel
set_option maxRecDepth 20000 in
theorem ggX7_fails_X7_save : GoodIn wsX7_fails wsX7_save := goodIn_r _ [5, 6, 7, 8, 9, 4, 10, 44, 45, 46, 47, 48, 49, 50, 51, 52, 53, 54, 55, 56, 57, 58, 59, 60, 61, 62, 63, 64] (by decide +kernel) (by decide +kernel)
set_option maxRecDepth 20000 in
theorem gX7_fails_X7_save : GoodIn wsX7_fails (wsV RX7 76 RX7 yX7_save wsX7_save) := goodIn_app (goodIn_of _ (by decide +kernel)) ggX7_fails_X7_save
set_option maxRecDepth 20000 in
theorem ggX7_fails_X7_putState : GoodIn wsX7_fails wsX7_putState := goodIn_r _ [14, 15, 16, 4, 17, 18, 19, 20, 21, 22, 23, 24, 6, 25, 26, 27, 28, 29, 30, 31, 32, 44, 45, 46, 47, 48, 49, 50, 51, 52, 53, 54, 55, 56, 57, 58, 59, 60, 61, 62, 63, 64] (by decide +kernel) (by decide +kernel)
set_option maxRecDepth 20000 in
theorem gX7_fails_X7_putState : GoodIn wsX7_fails (wsV RX7 85 RX7 yX7_putState wsX7_putState) := goodIn_app (goodIn_of _ (by decide +kernel)) ggX7_fails_X7_putState
set_option maxRecDepth 20000 in
theorem ggX7_fails_X7_finish : GoodIn wsX7_fails wsX7_finish := goodIn_r _ [36, 37, 38, 7, 39, 40, 41, 4, 42, 43, 8, 9, 10, 44, 45, 46, 47, 48, 49, 50, 51, 52, 53, 54, 55, 56, 57, 58, 59, 60, 61, 62, 63, 64] (by decide +kernel) (by decide +kernel)
set_option maxRecDepth 20000 in
theorem gX7_fails_X7_finish : GoodIn wsX7_fails (wsV RX7 82 RX7 yX7_finish wsX7_finish) := goodIn_app (goodIn_of _ (by decide +kernel)) ggX7_fails_X7_finish
theorem dX7_fails_0 : decode cX7_fails 0 = .ok (.aload_n 0, 1) := by decide +kernel
theorem dX7_fails_1 : decode cX7_fails 1 = .ok (.invokevirtual 76, 3) := by decide +kernel
theorem dX7_fails_4 : decode cX7_fails 4 = .ok (.aload_n 0, 1) := by decide +kernel
theorem dX7_fails_5 : decode cX7_fails 5 = .ok (.aload_n 0, 1) := by decide +kernel
theorem dX7_fails_6 : decode cX7_fails 6 = .ok (.iload_n 1, 1) := by decide +kernel
theorem dX7_fails_7 : decode cX7_fails 7 = .ok (.iload_n 2, 1) := by decide +kernel
theorem dX7_fails_8 : decode cX7_fails 8 = .ok (.invokevirtual 85, 3) := by decide +kernel
theorem dX7_fails_11 : decode cX7_fails 11 = .ok (.invokevirtual 82, 3) := by decide +kernel
theorem dX7_fails_14 : decode cX7_fails 14 = .ok (.ireturn, 1) := by decide +kernel
set_option maxRecDepth 20000 in
theorem ggX7_trues_X7_save : GoodIn wsX7_trues wsX7_save := goodIn_r _ [5, 6, 7, 8, 9, 4, 10, 36, 37, 38, 39, 40, 41, 42, 43, 44, 45, 46, 47, 48, 49, 50, 51, 52, 53, 54, 55, 56] (by decide +kernel) (by decide +kernel)
set_option maxRecDepth 20000 in
theorem gX7_trues_X7_save : GoodIn wsX7_trues (wsV RX7 76 RX7 yX7_save wsX7_save) := goodIn_app (goodIn_of _ (by decide +kernel)) ggX7_trues_X7_save
set_option maxRecDepth 20000 in
theorem ggX7_trues_X7_putTrue : GoodIn wsX7_trues wsX7_putTrue := goodIn_r _ [14, 15, 16, 4, 17, 18, 19, 20, 21, 22, 23, 24, 6, 36, 37, 38, 39, 40, 41, 42, 43, 44, 45, 46, 47, 48, 49, 50, 51, 52, 53, 54, 55, 56] (by decide +kernel) (by decide +kernel)
set_option maxRecDepth 20000 in
theorem gX7_trues_X7_putTrue : GoodIn wsX7_trues (wsV RX7 88 RX7 yX7_putTrue wsX7_putTrue) := goodIn_app (goodIn_of _ (by decide +kernel)) ggX7_trues_X7_putTrue
set_option maxRecDepth 20000 in
theorem ggX7_trues_X7_finish : GoodIn wsX7_trues wsX7_finish := goodIn_r _ [28, 29, 30, 7, 31, 32, 33, 4, 34, 35, 8, 9, 10, 36, 37, 38, 39, 40, 41, 42, 43, 44, 45, 46, 47, 48, 49, 50, 51, 52, 53, 54, 55, 56] (by decide +kernel) (by decide +kernel)
set_option maxRecDepth 20000 in
theorem gX7_trues_X7_finish : GoodIn wsX7_trues (wsV RX7 82 RX7 yX7_finish wsX7_finish) := goodIn_app (goodIn_of _ (by decide +kernel)) ggX7_trues_X7_finish
theorem dX7_trues_0 : decode cX7_trues 0 = .ok (.aload_n 0, 1) := by decide +kernel
theorem dX7_trues_1 : decode cX7_trues 1 = .ok (.invokevirtual 76, 3) := by decide +kernel
theorem dX7_trues_4 : decode cX7_trues 4 = .ok (.aload_n 0, 1) := by decide +kernel
theorem dX7_trues_5 : decode cX7_trues 5 = .ok (.aload_n 0, 1) := by decide +kernel
theorem dX7_trues_6 : decode cX7_trues 6 = .ok (.iload_n 1, 1) := by decide +kernel
theorem dX7_trues_7 : decode cX7_trues 7 = .ok (.iload_n 2, 1) := by decide +kernel
theorem dX7_trues_8 : decode cX7_trues 8 = .ok (.invokevirtual 88, 3) := by decide +kernel
theorem dX7_trues_11 : decode cX7_trues 11 = .ok (.invokevirtual 82, 3) := by decide +kernel
theorem dX7_trues_14 : decode cX7_trues 14 = .ok (.ireturn, 1) := by decide +kernel
set_option maxRecDepth 20000 in
theorem ggX7_up_X7_save : GoodIn wsX7_up wsX7_save := goodIn_r _ [5, 6, 7, 8, 9, 4, 10, 36, 37, 38, 39, 40, 41, 42, 43, 44, 45, 46, 47, 48, 49, 50, 51, 52, 53, 54, 55, 56] (by decide +kernel) (by decide +kernel)
set_option maxRecDepth 20000 in
theorem gX7_up_X7_save : GoodIn wsX7_up (wsV RX7 76 RX7 yX7_save wsX7_save) := goodIn_app (goodIn_of _ (by decide +kernel)) ggX7_up_X7_save
set_option maxRecDepth 20000 in
theorem ggX7_up_X7_putUp : GoodIn wsX7_up wsX7_putUp := goodIn_r _ [14, 15, 16, 4, 17, 18, 19, 20, 21, 22, 23, 24, 6, 36, 37, 38, 39, 40, 41, 42, 43, 44, 45, 46, 47, 48, 49, 50, 51, 52, 53, 54, 55, 56] (by decide +kernel) (by decide +kernel)
set_option maxRecDepth 20000 in
theorem gX7_up_X7_putUp : GoodIn wsX7_up (wsV RX7 91 RX7 yX7_putUp wsX7_putUp) := goodIn_app (goodIn_of _ (by decide +kernel)) ggX7_up_X7_putUp
set_option maxRecDepth 20000 in
theorem ggX7_up_X7_finish : GoodIn wsX7_up wsX7_finish := goodIn_r _ [28, 29, 30, 7, 31, 32, 33, 4, 34, 35, 8, 9, 10, 36, 37, 38, 39, 40, 41, 42, 43, 44, 45, 46, 47, 48, 49, 50, 51, 52, 53, 54, 55, 56] (by decide +kernel) (by decide +kernel)
set_option maxRecDepth 20000 in
theorem gX7_up_X7_finish : GoodIn wsX7_up (wsV RX7 82 RX7 yX7_finish wsX7_finish) := goodIn_app (goodIn_of _ (by decide +kernel)) ggX7_up_X7_finish
theorem dX7_up_0 : decode cX7_up 0 = .ok (.aload_n 0, 1) := by decide +kernel
theorem dX7_up_1 : decode cX7_up 1 = .ok (.invokevirtual 76, 3) := by decide +kernel
theorem dX7_up_4 : decode cX7_up 4 = .ok (.aload_n 0, 1) := by decide +kernel
theorem dX7_up_5 : decode cX7_up 5 = .ok (.aload_n 0, 1) := by decide +kernel
theorem dX7_up_6 : decode cX7_up 6 = .ok (.iload_n 1, 1) := by decide +kernel
theorem dX7_up_7 : decode cX7_up 7 = .ok (.iload_n 2, 1) := by decide +kernel
theorem dX7_up_8 : decode cX7_up 8 = .ok (.invokevirtual 91, 3) := by decide +kernel
theorem dX7_up_11 : decode cX7_up 11 = .ok (.invokevirtual 82, 3) := by decide +kernel
theorem dX7_up_14 : decode cX7_up 14 = .ok (.ireturn, 1) := by decide +kernel
set_option maxRecDepth 20000 in
theorem ggX7_down_X7_save : GoodIn wsX7_down wsX7_save := goodIn_r _ [5, 6, 7, 8, 9, 4, 10, 36, 37, 38, 39, 40, 41, 42, 43, 44, 45, 46, 47, 48, 49, 50, 51, 52, 53, 54, 55, 56] (by decide +kernel) (by decide +kernel)
set_option maxRecDepth 20000 in
theorem gX7_down_X7_save : GoodIn wsX7_down (wsV RX7 76 RX7 yX7_save wsX7_save) := goodIn_app (goodIn_of _ (by decide +kernel)) ggX7_down_X7_save
set_option maxRecDepth 20000 in
theorem ggX7_down_X7_putDown : GoodIn wsX7_down wsX7_putDown := goodIn_r _ [14, 15, 16, 4, 17, 18, 19, 20, 21, 22, 23, 24, 6, 36, 37, 38, 39, 40, 41, 42, 43, 44, 45, 46, 47, 48, 49, 50, 51, 52, 53, 54, 55, 56] (by decide +kernel) (by decide +kernel)
set_option maxRecDepth 20000 in
theorem gX7_down_X7_putDown : GoodIn wsX7_down (wsV RX7 94 RX7 yX7_putDown wsX7_putDown) := goodIn_app (goodIn_of _ (by decide +kernel)) ggX7_down_X7_putDown
set_option maxRecDepth 20000 in
theorem ggX7_down_X7_finish : GoodIn wsX7_down wsX7_finish := goodIn_r _ [28, 29, 30, 7, 31, 32, 33, 4, 34, 35, 8, 9, 10, 36, 37, 38, 39, 40, 41, 42, 43, 44, 45, 46, 47, 48, 49, 50, 51, 52, 53, 54, 55, 56] (by decide +kernel) (by decide +kernel)
set_option maxRecDepth 20000 in
theorem gX7_down_X7_finish : GoodIn wsX7_down (wsV RX7 82 RX7 yX7_finish wsX7_finish) := goodIn_app (goodIn_of _ (by decide +kernel)) ggX7_down_X7_finish
theorem dX7_down_0 : decode cX7_down 0 = .ok (.aload_n 0, 1) := by decide +kernel
theorem dX7_down_1 : decode cX7_down 1 = .ok (.invokevirtual 76, 3) := by decide +kernel
theorem dX7_down_4 : decode cX7_down 4 = .ok (.aload_n 0, 1) := by decide +kernel
theorem dX7_down_5 : decode cX7_down 5 = .ok (.aload_n 0, 1) := by decide +kernel
theorem dX7_down_6 : decode cX7_down 6 = .ok (.iload_n 1, 1) := by decide +kernel
theorem dX7_down_7 : decode cX7_down 7 = .ok (.iload_n 2, 1) := by decide +kernel
theorem dX7_down_8 : decode cX7_down 8 = .ok (.invokevirtual 94, 3) := by decide +kernel
theorem dX7_down_11 : decode cX7_down 11 = .ok (.invokevirtual 82, 3) := by decide +kernel
theorem dX7_down_14 : decode cX7_down 14 = .ok (.ireturn, 1) := by decide +kernel
set_option maxRecDepth 20000 in
theorem ggX7_slope_X7_save : GoodIn wsX7_slope wsX7_save := goodIn_r _ [5, 6, 7, 8, 9, 4, 10, 33, 34, 35, 36, 37, 38, 39, 40, 41, 42, 43, 44, 45, 46, 47, 48, 49, 50, 51, 52, 53] (by decide +kernel) (by decide +kernel)
set_option maxRecDepth 20000 in
theorem gX7_slope_X7_save : GoodIn wsX7_slope (wsV RX7 76 RX7 yX7_save wsX7_save) := goodIn_app (goodIn_of _ (by decide +kernel)) ggX7_slope_X7_save
set_option maxRecDepth 20000 in
theorem ggX7_slope_X7_putSlope : GoodIn wsX7_slope wsX7_putSlope := goodIn_r _ [14, 15, 16, 4, 17, 18, 19, 20, 21, 6, 33, 34, 35, 36, 37, 38, 39, 40, 41, 42, 43, 44, 45, 46, 47, 48, 49, 50, 51, 52, 53] (by decide +kernel) (by decide +kernel)
set_option maxRecDepth 20000 in
theorem gX7_slope_X7_putSlope : GoodIn wsX7_slope (wsV RX7 97 RX7 yX7_putSlope wsX7_putSlope) := goodIn_app (goodIn_of _ (by decide +kernel)) ggX7_slope_X7_putSlope
set_option maxRecDepth 20000 in
theorem ggX7_slope_X7_finish : GoodIn wsX7_slope wsX7_finish := goodIn_r _ [25, 26, 27, 7, 28, 29, 30, 4, 31, 32, 8, 9, 10, 33, 34, 35, 36, 37, 38, 39, 40, 41, 42, 43, 44, 45, 46, 47, 48, 49, 50, 51, 52, 53] (by decide +kernel) (by decide +kernel)
set_option maxRecDepth 20000 in
theorem gX7_slope_X7_finish : GoodIn wsX7_slope (wsV RX7 82 RX7 yX7_finish wsX7_finish) := goodIn_app (goodIn_of _ (by decide +kernel)) ggX7_slope_X7_finish
theorem dX7_slope_0 : decode cX7_slope 0 = .ok (.aload_n 0, 1) := by decide +kernel
theorem dX7_slope_1 : decode cX7_slope 1 = .ok (.invokevirtual 76, 3) := by decide +kernel
theorem dX7_slope_4 : decode cX7_slope 4 = .ok (.aload_n 0, 1) := by decide +kernel
theorem dX7_slope_5 : decode cX7_slope 5 = .ok (.aload_n 0, 1) := by decide +kernel
theorem dX7_slope_6 : decode cX7_slope 6 = .ok (.iload_n 1, 1) := by decide +kernel
theorem dX7_slope_7 : decode cX7_slope 7 = .ok (.invokevirtual 97, 3) := by decide +kernel
theorem dX7_slope_10 : decode cX7_slope 10 = .ok (.invokevirtual 82, 3) := by decide +kernel
theorem dX7_slope_13 : decode cX7_slope 13 = .ok (.ireturn, 1) := by decide +kernel
set_option maxRecDepth 20000 in
theorem ggX7_driver_X7_save : GoodIn wsX7_driver wsX7_save := goodIn_r _ [5, 6, 7, 8, 9, 4, 10, 33, 34, 35, 36, 37, 38, 39, 40, 41, 42, 43, 44, 45, 46, 47, 48, 49, 50, 51, 52, 53] (by decide +kernel) (by decide +kernel)
set_option maxRecDepth 20000 in
theorem gX7_driver_X7_save : GoodIn wsX7_driver (wsV RX7 76 RX7 yX7_save wsX7_save) := goodIn_app (goodIn_of _ (by decide +kernel)) ggX7_driver_X7_save
set_option maxRecDepth 20000 in
theorem ggX7_driver_X7_putDriver : GoodIn wsX7_driver wsX7_putDriver := goodIn_r _ [14, 15, 16, 4, 17, 18, 19, 20, 21, 6, 33, 34, 35, 36, 37, 38, 39, 40, 41, 42, 43, 44, 45, 46, 47, 48, 49, 50, 51, 52, 53] (by decide +kernel) (by decide +kernel)
set_option maxRecDepth 20000 in
theorem gX7_driver_X7_putDriver : GoodIn wsX7_driver (wsV RX7 100 RX7 yX7_putDriver wsX7_putDriver) := goodIn_app (goodIn_of _ (by decide +kernel)) ggX7_driver_X7_putDriver
set_option maxRecDepth 20000 in
theorem ggX7_driver_X7_finish : GoodIn wsX7_driver wsX7_finish := goodIn_r _ [25, 26, 27, 7, 28, 29, 30, 4, 31, 32, 8, 9, 10, 33, 34, 35, 36, 37, 38, 39, 40, 41, 42, 43, 44, 45, 46, 47, 48, 49, 50, 51, 52, 53] (by decide +kernel) (by decide +kernel)
set_option maxRecDepth 20000 in
theorem gX7_driver_X7_finish : GoodIn wsX7_driver (wsV RX7 82 RX7 yX7_finish wsX7_finish) := goodIn_app (goodIn_of _ (by decide +kernel)) ggX7_driver_X7_finish
theorem dX7_driver_0 : decode cX7_driver 0 = .ok (.aload_n 0, 1) := by decide +kernel
theorem dX7_driver_1 : decode cX7_driver 1 = .ok (.invokevirtual 76, 3) := by decide +kernel
theorem dX7_driver_4 : decode cX7_driver 4 = .ok (.aload_n 0, 1) := by decide +kernel
theorem dX7_driver_5 : decode cX7_driver 5 = .ok (.aload_n 0, 1) := by decide +kernel
theorem dX7_driver_6 : decode cX7_driver 6 = .ok (.iload_n 1, 1) := by decide +kernel
theorem dX7_driver_7 : decode cX7_driver 7 = .ok (.invokevirtual 100, 3) := by decide +kernel
theorem dX7_driver_10 : decode cX7_driver 10 = .ok (.invokevirtual 82, 3) := by decide +kernel
theorem dX7_driver_13 : decode cX7_driver 13 = .ok (.ireturn, 1) := by decide +kernel
set_option maxRecDepth 20000 in
theorem ggX7_sets_X7_save : GoodIn wsX7_sets wsX7_save := goodIn_r _ [5, 6, 7, 8, 9, 4, 10, 29, 30, 31, 32, 33, 34, 35, 36, 37, 38, 39, 40, 41, 42, 43, 44, 45, 46, 47, 48, 49] (by decide +kernel) (by decide +kernel)
set_option maxRecDepth 20000 in
theorem gX7_sets_X7_save : GoodIn wsX7_sets (wsV RX7 76 RX7 yX7_save wsX7_save) := goodIn_app (goodIn_of _ (by decide +kernel)) ggX7_sets_X7_save
set_option maxRecDepth 20000 in
theorem ggX7_sets_X7_in : GoodIn wsX7_sets wsX7_in := goodIn_r _ [13] (by decide +kernel) (by decide +kernel)
set_option maxRecDepth 20000 in
theorem gX7_sets_X7_in : GoodIn wsX7_sets (va_wsS RX7 55 yX7_in wsX7_in) := goodIn_app (goodIn_of _ (by decide +kernel)) ggX7_sets_X7_in
set_option maxRecDepth 20000 in
theorem ggX7_sets_X7_change : GoodIn wsX7_sets wsX7_change := goodIn_r _ [17, 6, 29, 30, 31, 32, 33, 34, 35, 36, 37, 38, 39, 40, 41, 42, 43, 44, 45, 46, 47, 48, 49] (by decide +kernel) (by decide +kernel)
set_option maxRecDepth 20000 in
theorem gX7_sets_X7_change : GoodIn wsX7_sets (wsV RX7 66 RX7 yX7_change wsX7_change) := goodIn_app (goodIn_of _ (by decide +kernel)) ggX7_sets_X7_change
set_option maxRecDepth 20000 in
theorem ggX7_sets_X7_finish : GoodIn wsX7_sets wsX7_finish := goodIn_r _ [21, 22, 23, 7, 24, 25, 26, 4, 27, 28, 8, 9, 10, 29, 30, 31, 32, 33, 34, 35, 36, 37, 38, 39, 40, 41, 42, 43, 44, 45, 46, 47, 48, 49] (by decide +kernel) (by decide +kernel)
set_option maxRecDepth 20000 in
theorem gX7_sets_X7_finish : GoodIn wsX7_sets (wsV RX7 82 RX7 yX7_finish wsX7_finish) := goodIn_app (goodIn_of _ (by decide +kernel)) ggX7_sets_X7_finish
theorem dX7_sets_0 : decode cX7_sets 0 = .ok (.aload_n 0, 1) := by decide +kernel
theorem dX7_sets_1 : decode cX7_sets 1 = .ok (.invokevirtual 76, 3) := by decide +kernel
theorem dX7_sets_4 : decode cX7_sets 4 = .ok (.iload_n 1, 1) := by decide +kernel
theorem dX7_sets_5 : decode cX7_sets 5 = .ok (.ifCond .ne 13, 3) := by decide +kernel
theorem dX7_sets_8 : decode cX7_sets 8 = .ok (.iload_n 2, 1) := by decide +kernel
theorem dX7_sets_9 : decode cX7_sets 9 = .ok (.iconst 1, 1) := by decide +kernel
theorem dX7_sets_10 : decode cX7_sets 10 = .ok (.bipush 12, 2) := by decide +kernel
theorem dX7_sets_12 : decode cX7_sets 12 = .ok (.invokestatic 55, 3) := by decide +kernel
theorem dX7_sets_15 : decode cX7_sets 15 = .ok (.goto 24, 3) := by decide +kernel
theorem dX7_sets_18 : decode cX7_sets 18 = .ok (.iload_n 1, 1) := by decide +kernel
theorem dX7_sets_19 : decode cX7_sets 19 = .ok (.iconst 1, 1) := by decide +kernel
theorem dX7_sets_20 : decode cX7_sets 20 = .ok (.if_icmp .ne 18, 3) := by decide +kernel
theorem dX7_sets_23 : decode cX7_sets 23 = .ok (.iload_n 2, 1) := by decide +kernel
theorem dX7_sets_24 : decode cX7_sets 24 = .ok (.iconst 0, 1) := by decide +kernel
theorem dX7_sets_25 : decode cX7_sets 25 = .ok (.sipush 999, 3) := by decide +kernel
theorem dX7_sets_28 : decode cX7_sets 28 = .ok (.invokestatic 55, 3) := by decide +kernel
theorem dX7_sets_31 : decode cX7_sets 31 = .ok (.ifCond .eq 7, 3) := by decide +kernel
theorem dX7_sets_34 : decode cX7_sets 34 = .ok (.iconst 1, 1) := by decide +kernel
theorem dX7_sets_35 : decode cX7_sets 35 = .ok (.goto 4, 3) := by decide +kernel
theorem dX7_sets_38 : decode cX7_sets 38 = .ok (.iconst 0, 1) := by decide +kernel
theorem dX7_sets_39 : decode cX7_sets 39 = .ok (.istore_n 3, 1) := by decide +kernel
theorem dX7_sets_40 : decode cX7_sets 40 = .ok (.aload_n 0, 1) := by decide +kernel
theorem dX7_sets_41 : decode cX7_sets 41 = .ok (.iload_n 3, 1) := by decide +kernel
theorem dX7_sets_42 : decode cX7_sets 42 = .ok (.ifCond .eq 15, 3) := by decide +kernel
theorem dX7_sets_45 : decode cX7_sets 45 = .ok (.aload_n 0, 1) := by decide +kernel
theorem dX7_sets_46 : decode cX7_sets 46 = .ok (.bipush 41, 2) := by decide +kernel
theorem dX7_sets_48 : decode cX7_sets 48 = .ok (.iload_n 1, 1) := by decide +kernel
theorem dX7_sets_49 : decode cX7_sets 49 = .ok (.iadd, 1) := by decide +kernel
theorem dX7_sets_50 : decode cX7_sets 50 = .ok (.iload_n 2, 1) := by decide +kernel
theorem dX7_sets_51 : decode cX7_sets 51 = .ok (.invokevirtual 66, 3) := by decide +kernel
theorem dX7_sets_54 : decode cX7_sets 54 = .ok (.goto 5, 3) := by decide +kernel
theorem dX7_sets_57 : decode cX7_sets 57 = .ok (.bipush (-2), 2) := by decide +kernel
theorem dX7_sets_59 : decode cX7_sets 59 = .ok (.invokevirtual 82, 3) := by decide +kernel
theorem dX7_sets_62 : decode cX7_sets 62 = .ok (.ireturn, 1) := by decide +kernel
set_option maxRecDepth 20000 in
theorem ggX7_areSimple_X7_isFit : GoodIn wsX7_areSimple wsX7_isFit := goodIn_r _ [6, 1, 10, 11, 12, 13, 14, 15, 16, 17, 18, 19, 20, 21, 22, 23, 24, 25, 26, 27, 28, 29, 30] (by decide +kernel) (by decide +kernel)
set_option maxRecDepth 20000 in
theorem gX7_areSimple_X7_isFit : GoodIn wsX7_areSimple (wsV RX7 59 RX7 yX7_isFit wsX7_isFit) := goodIn_app (goodIn_of _ (by decide +kernel)) ggX7_areSimple_X7_isFit
set_option maxRecDepth 20000 in
theorem ggX7_areSimple_X7_ones : GoodIn wsX7_areSimple wsX7_ones := goodIn_r _ [9] (by decide +kernel) (by decide +kernel)
set_option maxRecDepth 20000 in
theorem gX7_areSimple_X7_ones : GoodIn wsX7_areSimple (va_wsS RX7 103 yX7_ones wsX7_ones) := goodIn_app (goodIn_of _ (by decide +kernel)) ggX7_areSimple_X7_ones
theorem dX7_areSimple_0 : decode cX7_areSimple 0 = .ok (.aload_n 0, 1) := by decide +kernel
theorem dX7_areSimple_1 : decode cX7_areSimple 1 = .ok (.getfield 7, 3) := by decide +kernel
theorem dX7_areSimple_4 : decode cX7_areSimple 4 = .ok (.iconst 0, 1) := by decide +kernel
theorem dX7_areSimple_5 : decode cX7_areSimple 5 = .ok (.iload_n 1, 1) := by decide +kernel
theorem dX7_areSimple_6 : decode cX7_areSimple 6 = .ok (.iadd, 1) := by decide +kernel
theorem dX7_areSimple_7 : decode cX7_areSimple 7 = .ok (.iaload, 1) := by decide +kernel
theorem dX7_areSimple_8 : decode cX7_areSimple 8 = .ok (.istore_n 3, 1) := by decide +kernel
theorem dX7_areSimple_9 : decode cX7_areSimple 9 = .ok (.aload_n 0, 1) := by decide +kernel
theorem dX7_areSimple_10 : decode cX7_areSimple 10 = .ok (.getfield 7, 3) := by decide +kernel
theorem dX7_areSimple_13 : decode cX7_areSimple 13 = .ok (.iconst 0, 1) := by decide +kernel
theorem dX7_areSimple_14 : decode cX7_areSimple 14 = .ok (.iload_n 2, 1) := by decide +kernel
theorem dX7_areSimple_15 : decode cX7_areSimple 15 = .ok (.iadd, 1) := by decide +kernel
theorem dX7_areSimple_16 : decode cX7_areSimple 16 = .ok (.iaload, 1) := by decide +kernel
theorem dX7_areSimple_17 : decode cX7_areSimple 17 = .ok (.istore 4, 2) := by decide +kernel
theorem dX7_areSimple_19 : decode cX7_areSimple 19 = .ok (.iload_n 1, 1) := by decide +kernel
theorem dX7_areSimple_20 : decode cX7_areSimple 20 = .ok (.iload_n 2, 1) := by decide +kernel
theorem dX7_areSimple_21 : decode cX7_areSimple 21 = .ok (.if_icmp .eq 49, 3) := by decide +kernel
theorem dX7_areSimple_24 : decode cX7_areSimple 24 = .ok (.aload_n 0, 1) := by decide +kernel
theorem dX7_areSimple_25 : decode cX7_areSimple 25 = .ok (.iload_n 1, 1) := by decide +kernel
theorem dX7_areSimple_26 : decode cX7_areSimple 26 = .ok (.invokevirtual 59, 3) := by decide +kernel
theorem dX7_areSimple_29 : decode cX7_areSimple 29 = .ok (.ifCond .eq 41, 3) := by decide +kernel
theorem dX7_areSimple_32 : decode cX7_areSimple 32 = .ok (.aload_n 0, 1) := by decide +kernel
theorem dX7_areSimple_33 : decode cX7_areSimple 33 = .ok (.iload_n 2, 1) := by decide +kernel
theorem dX7_areSimple_34 : decode cX7_areSimple 34 = .ok (.invokevirtual 59, 3) := by decide +kernel
theorem dX7_areSimple_37 : decode cX7_areSimple 37 = .ok (.ifCond .eq 33, 3) := by decide +kernel
theorem dX7_areSimple_40 : decode cX7_areSimple 40 = .ok (.iload_n 3, 1) := by decide +kernel
theorem dX7_areSimple_41 : decode cX7_areSimple 41 = .ok (.iload 4, 2) := by decide +kernel
theorem dX7_areSimple_43 : decode cX7_areSimple 43 = .ok (.iconst (-1), 1) := by decide +kernel
theorem dX7_areSimple_44 : decode cX7_areSimple 44 = .ok (.ixor, 1) := by decide +kernel
theorem dX7_areSimple_45 : decode cX7_areSimple 45 = .ok (.iand, 1) := by decide +kernel
theorem dX7_areSimple_46 : decode cX7_areSimple 46 = .ok (.invokestatic 103, 3) := by decide +kernel
theorem dX7_areSimple_49 : decode cX7_areSimple 49 = .ok (.iconst 1, 1) := by decide +kernel
theorem dX7_areSimple_50 : decode cX7_areSimple 50 = .ok (.if_icmp .ne 20, 3) := by decide +kernel
theorem dX7_areSimple_53 : decode cX7_areSimple 53 = .ok (.iload 4, 2) := by decide +kernel
theorem dX7_areSimple_55 : decode cX7_areSimple 55 = .ok (.iload_n 3, 1) := by decide +kernel
theorem dX7_areSimple_56 : decode cX7_areSimple 56 = .ok (.iconst (-1), 1) := by decide +kernel
theorem dX7_areSimple_57 : decode cX7_areSimple 57 = .ok (.ixor, 1) := by decide +kernel
theorem dX7_areSimple_58 : decode cX7_areSimple 58 = .ok (.iand, 1) := by decide +kernel
theorem dX7_areSimple_59 : decode cX7_areSimple 59 = .ok (.invokestatic 103, 3) := by decide +kernel
theorem dX7_areSimple_62 : decode cX7_areSimple 62 = .ok (.iconst 1, 1) := by decide +kernel
theorem dX7_areSimple_63 : decode cX7_areSimple 63 = .ok (.if_icmp .ne 7, 3) := by decide +kernel
theorem dX7_areSimple_66 : decode cX7_areSimple 66 = .ok (.iconst 1, 1) := by decide +kernel
theorem dX7_areSimple_67 : decode cX7_areSimple 67 = .ok (.goto 4, 3) := by decide +kernel
theorem dX7_areSimple_70 : decode cX7_areSimple 70 = .ok (.iconst 0, 1) := by decide +kernel
theorem dX7_areSimple_71 : decode cX7_areSimple 71 = .ok (.ireturn, 1) := by decide +kernel
theorem dX7_placeOf_0 : decode cX7_placeOf 0 = .ok (.iconst 0, 1) := by decide +kernel
theorem dX7_placeOf_1 : decode cX7_placeOf 1 = .ok (.istore_n 1, 1) := by decide +kernel
theorem dX7_placeOf_2 : decode cX7_placeOf 2 = .ok (.iload_n 0, 1) := by decide +kernel
theorem dX7_placeOf_3 : decode cX7_placeOf 3 = .ok (.iload_n 1, 1) := by decide +kernel
theorem dX7_placeOf_4 : decode cX7_placeOf 4 = .ok (.ishr, 1) := by decide +kernel
theorem dX7_placeOf_5 : decode cX7_placeOf 5 = .ok (.iconst 1, 1) := by decide +kernel
theorem dX7_placeOf_6 : decode cX7_placeOf 6 = .ok (.if_icmp .le 9, 3) := by decide +kernel
theorem dX7_placeOf_9 : decode cX7_placeOf 9 = .ok (.iinc 1 1, 3) := by decide +kernel
theorem dX7_placeOf_12 : decode cX7_placeOf 12 = .ok (.goto (-10), 3) := by decide +kernel
theorem dX7_placeOf_15 : decode cX7_placeOf 15 = .ok (.iload_n 1, 1) := by decide +kernel
theorem dX7_placeOf_16 : decode cX7_placeOf 16 = .ok (.ireturn, 1) := by decide +kernel
set_option maxRecDepth 20000 in
theorem ggX7_coming_X7_placeOf : GoodIn wsX7_coming wsX7_placeOf := goodIn_r _ [5] (by decide +kernel) (by decide +kernel)
set_option maxRecDepth 20000 in
theorem gX7_coming_X7_placeOf : GoodIn wsX7_coming (va_wsS RX7 106 yX7_placeOf wsX7_placeOf) := goodIn_app (goodIn_of _ (by decide +kernel)) ggX7_coming_X7_placeOf
theorem dX7_coming_0 : decode cX7_coming 0 = .ok (.aload_n 0, 1) := by decide +kernel
theorem dX7_coming_1 : decode cX7_coming 1 = .ok (.getfield 7, 3) := by decide +kernel
theorem dX7_coming_4 : decode cX7_coming 4 = .ok (.iconst 0, 1) := by decide +kernel
theorem dX7_coming_5 : decode cX7_coming 5 = .ok (.iload_n 2, 1) := by decide +kernel
theorem dX7_coming_6 : decode cX7_coming 6 = .ok (.iadd, 1) := by decide +kernel
theorem dX7_coming_7 : decode cX7_coming 7 = .ok (.iaload, 1) := by decide +kernel
theorem dX7_coming_8 : decode cX7_coming 8 = .ok (.aload_n 0, 1) := by decide +kernel
theorem dX7_coming_9 : decode cX7_coming 9 = .ok (.getfield 7, 3) := by decide +kernel
theorem dX7_coming_12 : decode cX7_coming 12 = .ok (.iconst 0, 1) := by decide +kernel
theorem dX7_coming_13 : decode cX7_coming 13 = .ok (.iload_n 1, 1) := by decide +kernel
theorem dX7_coming_14 : decode cX7_coming 14 = .ok (.iadd, 1) := by decide +kernel
theorem dX7_coming_15 : decode cX7_coming 15 = .ok (.iaload, 1) := by decide +kernel
theorem dX7_coming_16 : decode cX7_coming 16 = .ok (.iconst (-1), 1) := by decide +kernel
theorem dX7_coming_17 : decode cX7_coming 17 = .ok (.ixor, 1) := by decide +kernel
theorem dX7_coming_18 : decode cX7_coming 18 = .ok (.iand, 1) := by decide +kernel
theorem dX7_coming_19 : decode cX7_coming 19 = .ok (.invokestatic 106, 3) := by decide +kernel
theorem dX7_coming_22 : decode cX7_coming 22 = .ok (.ireturn, 1) := by decide +kernel
set_option maxRecDepth 20000 in
theorem ggX7_simpleMany_X7_areSimple : GoodIn wsX7_simpleMany wsX7_areSimple := goodIn_r _ [5, 6, 7, 8, 9, 4, 10, 11, 12, 13, 14, 15, 16, 17, 18, 19, 20, 21, 22, 23, 24, 25, 26, 27, 28, 29, 30, 31, 32, 33, 34] (by decide +kernel) (by decide +kernel)
set_option maxRecDepth 20000 in
theorem gX7_simpleMany_X7_areSimple : GoodIn wsX7_simpleMany (wsV RX7 109 RX7 yX7_areSimple wsX7_areSimple) := goodIn_app (goodIn_of _ (by decide +kernel)) ggX7_simpleMany_X7_areSimple
theorem dX7_simpleMany_0 : decode cX7_simpleMany 0 = .ok (.iconst 0, 1) := by decide +kernel
theorem dX7_simpleMany_1 : decode cX7_simpleMany 1 = .ok (.istore_n 2, 1) := by decide +kernel
theorem dX7_simpleMany_2 : decode cX7_simpleMany 2 = .ok (.iconst 1, 1) := by decide +kernel
theorem dX7_simpleMany_3 : decode cX7_simpleMany 3 = .ok (.istore_n 3, 1) := by decide +kernel
theorem dX7_simpleMany_4 : decode cX7_simpleMany 4 = .ok (.iload_n 3, 1) := by decide +kernel
theorem dX7_simpleMany_5 : decode cX7_simpleMany 5 = .ok (.bipush 7, 2) := by decide +kernel
theorem dX7_simpleMany_7 : decode cX7_simpleMany 7 = .ok (.if_icmp .gt 26, 3) := by decide +kernel
theorem dX7_simpleMany_10 : decode cX7_simpleMany 10 = .ok (.iload_n 2, 1) := by decide +kernel
theorem dX7_simpleMany_11 : decode cX7_simpleMany 11 = .ok (.aload_n 0, 1) := by decide +kernel
theorem dX7_simpleMany_12 : decode cX7_simpleMany 12 = .ok (.iload_n 1, 1) := by decide +kernel
theorem dX7_simpleMany_13 : decode cX7_simpleMany 13 = .ok (.iload_n 3, 1) := by decide +kernel
theorem dX7_simpleMany_14 : decode cX7_simpleMany 14 = .ok (.invokevirtual 109, 3) := by decide +kernel
theorem dX7_simpleMany_17 : decode cX7_simpleMany 17 = .ok (.ifCond .eq 7, 3) := by decide +kernel
theorem dX7_simpleMany_20 : decode cX7_simpleMany 20 = .ok (.iconst 1, 1) := by decide +kernel
theorem dX7_simpleMany_21 : decode cX7_simpleMany 21 = .ok (.goto 4, 3) := by decide +kernel
theorem dX7_simpleMany_24 : decode cX7_simpleMany 24 = .ok (.iconst 0, 1) := by decide +kernel
theorem dX7_simpleMany_25 : decode cX7_simpleMany 25 = .ok (.iadd, 1) := by decide +kernel
theorem dX7_simpleMany_26 : decode cX7_simpleMany 26 = .ok (.istore_n 2, 1) := by decide +kernel
theorem dX7_simpleMany_27 : decode cX7_simpleMany 27 = .ok (.iinc 3 1, 3) := by decide +kernel
theorem dX7_simpleMany_30 : decode cX7_simpleMany 30 = .ok (.goto (-26), 3) := by decide +kernel
theorem dX7_simpleMany_33 : decode cX7_simpleMany 33 = .ok (.iload_n 2, 1) := by decide +kernel
theorem dX7_simpleMany_34 : decode cX7_simpleMany 34 = .ok (.ireturn, 1) := by decide +kernel
set_option maxRecDepth 20000 in
theorem ggX7_findWay_X7_areSimple : GoodIn wsX7_findWay wsX7_areSimple := goodIn_r _ [8, 9, 10, 11, 12, 7, 13, 14, 15, 16, 17, 18, 19, 20, 21, 22, 23, 24, 25, 26, 27, 28, 29, 30, 31, 32, 33, 34, 35, 36, 37] (by decide +kernel) (by decide +kernel)
set_option maxRecDepth 20000 in
theorem gX7_findWay_X7_areSimple : GoodIn wsX7_findWay (wsV RX7 109 RX7 yX7_areSimple wsX7_areSimple) := goodIn_app (goodIn_of _ (by decide +kernel)) ggX7_findWay_X7_areSimple
theorem dX7_findWay_0 : decode cX7_findWay 0 = .ok (.iconst 1, 1) := by decide +kernel
theorem dX7_findWay_1 : decode cX7_findWay 1 = .ok (.istore_n 3, 1) := by decide +kernel
theorem dX7_findWay_2 : decode cX7_findWay 2 = .ok (.iload_n 3, 1) := by decide +kernel
theorem dX7_findWay_3 : decode cX7_findWay 3 = .ok (.bipush 7, 2) := by decide +kernel
theorem dX7_findWay_5 : decode cX7_findWay 5 = .ok (.if_icmp .gt 26, 3) := by decide +kernel
theorem dX7_findWay_8 : decode cX7_findWay 8 = .ok (.aload_n 0, 1) := by decide +kernel
theorem dX7_findWay_9 : decode cX7_findWay 9 = .ok (.getfield 38, 3) := by decide +kernel
theorem dX7_findWay_12 : decode cX7_findWay 12 = .ok (.iload_n 3, 1) := by decide +kernel
theorem dX7_findWay_13 : decode cX7_findWay 13 = .ok (.iload_n 3, 1) := by decide +kernel
theorem dX7_findWay_14 : decode cX7_findWay 14 = .ok (.iload_n 2, 1) := by decide +kernel
theorem dX7_findWay_15 : decode cX7_findWay 15 = .ok (.if_icmp .ne 7, 3) := by decide +kernel
theorem dX7_findWay_18 : decode cX7_findWay 18 = .ok (.iconst 0, 1) := by decide +kernel
theorem dX7_findWay_19 : decode cX7_findWay 19 = .ok (.goto 5, 3) := by decide +kernel
theorem dX7_findWay_22 : decode cX7_findWay 22 = .ok (.bipush 100, 2) := by decide +kernel
theorem dX7_findWay_24 : decode cX7_findWay 24 = .ok (.iastore, 1) := by decide +kernel
theorem dX7_findWay_25 : decode cX7_findWay 25 = .ok (.iinc 3 1, 3) := by decide +kernel
theorem dX7_findWay_28 : decode cX7_findWay 28 = .ok (.goto (-26), 3) := by decide +kernel
theorem dX7_findWay_31 : decode cX7_findWay 31 = .ok (.iconst 0, 1) := by decide +kernel
theorem dX7_findWay_32 : decode cX7_findWay 32 = .ok (.istore_n 3, 1) := by decide +kernel
theorem dX7_findWay_33 : decode cX7_findWay 33 = .ok (.iload_n 3, 1) := by decide +kernel
theorem dX7_findWay_34 : decode cX7_findWay 34 = .ok (.bipush 7, 2) := by decide +kernel
theorem dX7_findWay_36 : decode cX7_findWay 36 = .ok (.if_icmp .ge 97, 3) := by decide +kernel
theorem dX7_findWay_39 : decode cX7_findWay 39 = .ok (.iconst 1, 1) := by decide +kernel
theorem dX7_findWay_40 : decode cX7_findWay 40 = .ok (.istore 4, 2) := by decide +kernel
theorem dX7_findWay_42 : decode cX7_findWay 42 = .ok (.iload 4, 2) := by decide +kernel
theorem dX7_findWay_44 : decode cX7_findWay 44 = .ok (.bipush 7, 2) := by decide +kernel
theorem dX7_findWay_46 : decode cX7_findWay 46 = .ok (.if_icmp .gt 81, 3) := by decide +kernel
theorem dX7_findWay_49 : decode cX7_findWay 49 = .ok (.iconst 1, 1) := by decide +kernel
theorem dX7_findWay_50 : decode cX7_findWay 50 = .ok (.istore 5, 2) := by decide +kernel
theorem dX7_findWay_52 : decode cX7_findWay 52 = .ok (.iload 5, 2) := by decide +kernel
theorem dX7_findWay_54 : decode cX7_findWay 54 = .ok (.bipush 7, 2) := by decide +kernel
theorem dX7_findWay_56 : decode cX7_findWay 56 = .ok (.if_icmp .gt 65, 3) := by decide +kernel
theorem dX7_findWay_59 : decode cX7_findWay 59 = .ok (.aload_n 0, 1) := by decide +kernel
theorem dX7_findWay_60 : decode cX7_findWay 60 = .ok (.getfield 38, 3) := by decide +kernel
theorem dX7_findWay_63 : decode cX7_findWay 63 = .ok (.iload 4, 2) := by decide +kernel
theorem dX7_findWay_65 : decode cX7_findWay 65 = .ok (.aload_n 0, 1) := by decide +kernel
theorem dX7_findWay_66 : decode cX7_findWay 66 = .ok (.iload 4, 2) := by decide +kernel
theorem dX7_findWay_68 : decode cX7_findWay 68 = .ok (.iload 5, 2) := by decide +kernel
theorem dX7_findWay_70 : decode cX7_findWay 70 = .ok (.invokevirtual 109, 3) := by decide +kernel
theorem dX7_findWay_73 : decode cX7_findWay 73 = .ok (.ifCond .eq 34, 3) := by decide +kernel
theorem dX7_findWay_76 : decode cX7_findWay 76 = .ok (.aload_n 0, 1) := by decide +kernel
theorem dX7_findWay_77 : decode cX7_findWay 77 = .ok (.getfield 38, 3) := by decide +kernel
theorem dX7_findWay_80 : decode cX7_findWay 80 = .ok (.iload 5, 2) := by decide +kernel
theorem dX7_findWay_82 : decode cX7_findWay 82 = .ok (.iaload, 1) := by decide +kernel
theorem dX7_findWay_83 : decode cX7_findWay 83 = .ok (.iconst 1, 1) := by decide +kernel
theorem dX7_findWay_84 : decode cX7_findWay 84 = .ok (.iadd, 1) := by decide +kernel
theorem dX7_findWay_85 : decode cX7_findWay 85 = .ok (.aload_n 0, 1) := by decide +kernel
theorem dX7_findWay_86 : decode cX7_findWay 86 = .ok (.getfield 38, 3) := by decide +kernel
theorem dX7_findWay_89 : decode cX7_findWay 89 = .ok (.iload 4, 2) := by decide +kernel
theorem dX7_findWay_91 : decode cX7_findWay 91 = .ok (.iaload, 1) := by decide +kernel
theorem dX7_findWay_92 : decode cX7_findWay 92 = .ok (.if_icmp .ge 15, 3) := by decide +kernel
theorem dX7_findWay_95 : decode cX7_findWay 95 = .ok (.aload_n 0, 1) := by decide +kernel
theorem dX7_findWay_96 : decode cX7_findWay 96 = .ok (.getfield 38, 3) := by decide +kernel
theorem dX7_findWay_99 : decode cX7_findWay 99 = .ok (.iload 5, 2) := by decide +kernel
theorem dX7_findWay_101 : decode cX7_findWay 101 = .ok (.iaload, 1) := by decide +kernel
theorem dX7_findWay_102 : decode cX7_findWay 102 = .ok (.iconst 1, 1) := by decide +kernel
theorem dX7_findWay_103 : decode cX7_findWay 103 = .ok (.iadd, 1) := by decide +kernel
theorem dX7_findWay_104 : decode cX7_findWay 104 = .ok (.goto 10, 3) := by decide +kernel
theorem dX7_findWay_107 : decode cX7_findWay 107 = .ok (.aload_n 0, 1) := by decide +kernel
theorem dX7_findWay_108 : decode cX7_findWay 108 = .ok (.getfield 38, 3) := by decide +kernel
theorem dX7_findWay_111 : decode cX7_findWay 111 = .ok (.iload 4, 2) := by decide +kernel
theorem dX7_findWay_113 : decode cX7_findWay 113 = .ok (.iaload, 1) := by decide +kernel
theorem dX7_findWay_114 : decode cX7_findWay 114 = .ok (.iastore, 1) := by decide +kernel
theorem dX7_findWay_115 : decode cX7_findWay 115 = .ok (.iinc 5 1, 3) := by decide +kernel
theorem dX7_findWay_118 : decode cX7_findWay 118 = .ok (.goto (-66), 3) := by decide +kernel
theorem dX7_findWay_121 : decode cX7_findWay 121 = .ok (.iinc 4 1, 3) := by decide +kernel
theorem dX7_findWay_124 : decode cX7_findWay 124 = .ok (.goto (-82), 3) := by decide +kernel
theorem dX7_findWay_127 : decode cX7_findWay 127 = .ok (.iinc 3 1, 3) := by decide +kernel
theorem dX7_findWay_130 : decode cX7_findWay 130 = .ok (.goto (-97), 3) := by decide +kernel
theorem dX7_findWay_133 : decode cX7_findWay 133 = .ok (.aload_n 0, 1) := by decide +kernel
theorem dX7_findWay_134 : decode cX7_findWay 134 = .ok (.iconst 0, 1) := by decide +kernel
theorem dX7_findWay_135 : decode cX7_findWay 135 = .ok (.putfield 113, 3) := by decide +kernel
theorem dX7_findWay_138 : decode cX7_findWay 138 = .ok (.iload_n 1, 1) := by decide +kernel
theorem dX7_findWay_139 : decode cX7_findWay 139 = .ok (.istore_n 3, 1) := by decide +kernel
theorem dX7_findWay_140 : decode cX7_findWay 140 = .ok (.aload_n 0, 1) := by decide +kernel
theorem dX7_findWay_141 : decode cX7_findWay 141 = .ok (.getfield 38, 3) := by decide +kernel
theorem dX7_findWay_144 : decode cX7_findWay 144 = .ok (.iload_n 3, 1) := by decide +kernel
theorem dX7_findWay_145 : decode cX7_findWay 145 = .ok (.iaload, 1) := by decide +kernel
theorem dX7_findWay_146 : decode cX7_findWay 146 = .ok (.ifCond .le 78, 3) := by decide +kernel
theorem dX7_findWay_149 : decode cX7_findWay 149 = .ok (.aload_n 0, 1) := by decide +kernel
theorem dX7_findWay_150 : decode cX7_findWay 150 = .ok (.getfield 38, 3) := by decide +kernel
theorem dX7_findWay_153 : decode cX7_findWay 153 = .ok (.iload_n 3, 1) := by decide +kernel
theorem dX7_findWay_154 : decode cX7_findWay 154 = .ok (.iaload, 1) := by decide +kernel
theorem dX7_findWay_155 : decode cX7_findWay 155 = .ok (.bipush 100, 2) := by decide +kernel
theorem dX7_findWay_157 : decode cX7_findWay 157 = .ok (.if_icmp .ge 67, 3) := by decide +kernel
theorem dX7_findWay_160 : decode cX7_findWay 160 = .ok (.iconst 1, 1) := by decide +kernel
theorem dX7_findWay_161 : decode cX7_findWay 161 = .ok (.istore 4, 2) := by decide +kernel
theorem dX7_findWay_163 : decode cX7_findWay 163 = .ok (.aload_n 0, 1) := by decide +kernel
theorem dX7_findWay_164 : decode cX7_findWay 164 = .ok (.iload_n 3, 1) := by decide +kernel
theorem dX7_findWay_165 : decode cX7_findWay 165 = .ok (.iload 4, 2) := by decide +kernel
theorem dX7_findWay_167 : decode cX7_findWay 167 = .ok (.invokevirtual 109, 3) := by decide +kernel
theorem dX7_findWay_170 : decode cX7_findWay 170 = .ok (.ifCond .eq 21, 3) := by decide +kernel
theorem dX7_findWay_173 : decode cX7_findWay 173 = .ok (.aload_n 0, 1) := by decide +kernel
theorem dX7_findWay_174 : decode cX7_findWay 174 = .ok (.getfield 38, 3) := by decide +kernel
theorem dX7_findWay_177 : decode cX7_findWay 177 = .ok (.iload 4, 2) := by decide +kernel
theorem dX7_findWay_179 : decode cX7_findWay 179 = .ok (.iaload, 1) := by decide +kernel
theorem dX7_findWay_180 : decode cX7_findWay 180 = .ok (.iconst 1, 1) := by decide +kernel
theorem dX7_findWay_181 : decode cX7_findWay 181 = .ok (.iadd, 1) := by decide +kernel
theorem dX7_findWay_182 : decode cX7_findWay 182 = .ok (.aload_n 0, 1) := by decide +kernel
theorem dX7_findWay_183 : decode cX7_findWay 183 = .ok (.getfield 38, 3) := by decide +kernel
theorem dX7_findWay_186 : decode cX7_findWay 186 = .ok (.iload_n 3, 1) := by decide +kernel
theorem dX7_findWay_187 : decode cX7_findWay 187 = .ok (.iaload, 1) := by decide +kernel
theorem dX7_findWay_188 : decode cX7_findWay 188 = .ok (.if_icmp .eq 9, 3) := by decide +kernel
theorem dX7_findWay_191 : decode cX7_findWay 191 = .ok (.iinc 4 1, 3) := by decide +kernel
theorem dX7_findWay_194 : decode cX7_findWay 194 = .ok (.goto (-31), 3) := by decide +kernel
theorem dX7_findWay_197 : decode cX7_findWay 197 = .ok (.aload_n 0, 1) := by decide +kernel
theorem dX7_findWay_198 : decode cX7_findWay 198 = .ok (.getfield 41, 3) := by decide +kernel
theorem dX7_findWay_201 : decode cX7_findWay 201 = .ok (.aload_n 0, 1) := by decide +kernel
theorem dX7_findWay_202 : decode cX7_findWay 202 = .ok (.getfield 113, 3) := by decide +kernel
theorem dX7_findWay_205 : decode cX7_findWay 205 = .ok (.iload 4, 2) := by decide +kernel
theorem dX7_findWay_207 : decode cX7_findWay 207 = .ok (.iastore, 1) := by decide +kernel
theorem dX7_findWay_208 : decode cX7_findWay 208 = .ok (.aload_n 0, 1) := by decide +kernel
theorem dX7_findWay_209 : decode cX7_findWay 209 = .ok (.dup, 1) := by decide +kernel
theorem dX7_findWay_210 : decode cX7_findWay 210 = .ok (.getfield 113, 3) := by decide +kernel
theorem dX7_findWay_213 : decode cX7_findWay 213 = .ok (.iconst 1, 1) := by decide +kernel
theorem dX7_findWay_214 : decode cX7_findWay 214 = .ok (.iadd, 1) := by decide +kernel
theorem dX7_findWay_215 : decode cX7_findWay 215 = .ok (.putfield 113, 3) := by decide +kernel
theorem dX7_findWay_218 : decode cX7_findWay 218 = .ok (.iload 4, 2) := by decide +kernel
theorem dX7_findWay_220 : decode cX7_findWay 220 = .ok (.istore_n 3, 1) := by decide +kernel
theorem dX7_findWay_221 : decode cX7_findWay 221 = .ok (.goto (-81), 3) := by decide +kernel
theorem dX7_findWay_224 : decode cX7_findWay 224 = .ok (.return_, 1) := by decide +kernel
set_option maxRecDepth 20000 in
theorem ggX7_ofGear_X7_isFit : GoodIn wsX7_ofGear wsX7_isFit := goodIn_r _ [6, 1, 18, 19, 20, 21, 22, 23, 24, 25, 26, 27, 28, 29, 30, 31, 32, 33, 34, 35, 36, 37, 38] (by decide +kernel) (by decide +kernel)
set_option maxRecDepth 20000 in
theorem gX7_ofGear_X7_isFit : GoodIn wsX7_ofGear (wsV RX7 59 RX7 yX7_isFit wsX7_isFit) := goodIn_app (goodIn_of _ (by decide +kernel)) ggX7_ofGear_X7_isFit
set_option maxRecDepth 20000 in
theorem ggX7_ofGear_X7_simpleMany : GoodIn wsX7_ofGear wsX7_simpleMany := goodIn_r _ [10, 11, 12, 13, 5, 14, 1, 2, 3, 4, 6, 15, 16, 17, 18, 19, 20, 21, 22, 23, 24, 25, 26, 27, 28, 29, 30, 31, 32, 33, 34, 35, 36, 37, 38] (by decide +kernel) (by decide +kernel)
set_option maxRecDepth 20000 in
theorem gX7_ofGear_X7_simpleMany : GoodIn wsX7_ofGear (wsV RX7 116 RX7 yX7_simpleMany wsX7_simpleMany) := goodIn_app (goodIn_of _ (by decide +kernel)) ggX7_ofGear_X7_simpleMany
theorem dX7_ofGear_0 : decode cX7_ofGear 0 = .ok (.iload_n 2, 1) := by decide +kernel
theorem dX7_ofGear_1 : decode cX7_ofGear 1 = .ok (.ifCond .ne 14, 3) := by decide +kernel
theorem dX7_ofGear_4 : decode cX7_ofGear 4 = .ok (.aload_n 0, 1) := by decide +kernel
theorem dX7_ofGear_5 : decode cX7_ofGear 5 = .ok (.getfield 7, 3) := by decide +kernel
theorem dX7_ofGear_8 : decode cX7_ofGear 8 = .ok (.iconst 0, 1) := by decide +kernel
theorem dX7_ofGear_9 : decode cX7_ofGear 9 = .ok (.iload_n 1, 1) := by decide +kernel
theorem dX7_ofGear_10 : decode cX7_ofGear 10 = .ok (.iadd, 1) := by decide +kernel
theorem dX7_ofGear_11 : decode cX7_ofGear 11 = .ok (.iaload, 1) := by decide +kernel
theorem dX7_ofGear_12 : decode cX7_ofGear 12 = .ok (.goto 63, 3) := by decide +kernel
theorem dX7_ofGear_15 : decode cX7_ofGear 15 = .ok (.iload_n 2, 1) := by decide +kernel
theorem dX7_ofGear_16 : decode cX7_ofGear 16 = .ok (.iconst 1, 1) := by decide +kernel
theorem dX7_ofGear_17 : decode cX7_ofGear 17 = .ok (.if_icmp .ne 19, 3) := by decide +kernel
theorem dX7_ofGear_20 : decode cX7_ofGear 20 = .ok (.aload_n 0, 1) := by decide +kernel
theorem dX7_ofGear_21 : decode cX7_ofGear 21 = .ok (.iload_n 1, 1) := by decide +kernel
theorem dX7_ofGear_22 : decode cX7_ofGear 22 = .ok (.invokevirtual 59, 3) := by decide +kernel
theorem dX7_ofGear_25 : decode cX7_ofGear 25 = .ok (.ifCond .eq 7, 3) := by decide +kernel
theorem dX7_ofGear_28 : decode cX7_ofGear 28 = .ok (.iconst 1, 1) := by decide +kernel
theorem dX7_ofGear_29 : decode cX7_ofGear 29 = .ok (.goto 46, 3) := by decide +kernel
theorem dX7_ofGear_32 : decode cX7_ofGear 32 = .ok (.iconst 0, 1) := by decide +kernel
theorem dX7_ofGear_33 : decode cX7_ofGear 33 = .ok (.goto 42, 3) := by decide +kernel
theorem dX7_ofGear_36 : decode cX7_ofGear 36 = .ok (.iload_n 2, 1) := by decide +kernel
theorem dX7_ofGear_37 : decode cX7_ofGear 37 = .ok (.iconst 2, 1) := by decide +kernel
theorem dX7_ofGear_38 : decode cX7_ofGear 38 = .ok (.if_icmp .ne 15, 3) := by decide +kernel
theorem dX7_ofGear_41 : decode cX7_ofGear 41 = .ok (.aload_n 0, 1) := by decide +kernel
theorem dX7_ofGear_42 : decode cX7_ofGear 42 = .ok (.getfield 7, 3) := by decide +kernel
theorem dX7_ofGear_45 : decode cX7_ofGear 45 = .ok (.bipush 23, 2) := by decide +kernel
theorem dX7_ofGear_47 : decode cX7_ofGear 47 = .ok (.iload_n 1, 1) := by decide +kernel
theorem dX7_ofGear_48 : decode cX7_ofGear 48 = .ok (.iadd, 1) := by decide +kernel
theorem dX7_ofGear_49 : decode cX7_ofGear 49 = .ok (.iaload, 1) := by decide +kernel
theorem dX7_ofGear_50 : decode cX7_ofGear 50 = .ok (.goto 25, 3) := by decide +kernel
theorem dX7_ofGear_53 : decode cX7_ofGear 53 = .ok (.iload_n 2, 1) := by decide +kernel
theorem dX7_ofGear_54 : decode cX7_ofGear 54 = .ok (.iconst 3, 1) := by decide +kernel
theorem dX7_ofGear_55 : decode cX7_ofGear 55 = .ok (.if_icmp .ne 15, 3) := by decide +kernel
theorem dX7_ofGear_58 : decode cX7_ofGear 58 = .ok (.aload_n 0, 1) := by decide +kernel
theorem dX7_ofGear_59 : decode cX7_ofGear 59 = .ok (.getfield 7, 3) := by decide +kernel
theorem dX7_ofGear_62 : decode cX7_ofGear 62 = .ok (.bipush 31, 2) := by decide +kernel
theorem dX7_ofGear_64 : decode cX7_ofGear 64 = .ok (.iload_n 1, 1) := by decide +kernel
theorem dX7_ofGear_65 : decode cX7_ofGear 65 = .ok (.iadd, 1) := by decide +kernel
theorem dX7_ofGear_66 : decode cX7_ofGear 66 = .ok (.iaload, 1) := by decide +kernel
theorem dX7_ofGear_67 : decode cX7_ofGear 67 = .ok (.goto 8, 3) := by decide +kernel
theorem dX7_ofGear_70 : decode cX7_ofGear 70 = .ok (.aload_n 0, 1) := by decide +kernel
theorem dX7_ofGear_71 : decode cX7_ofGear 71 = .ok (.iload_n 1, 1) := by decide +kernel
theorem dX7_ofGear_72 : decode cX7_ofGear 72 = .ok (.invokevirtual 116, 3) := by decide +kernel
theorem dX7_ofGear_75 : decode cX7_ofGear 75 = .ok (.ireturn, 1) := by decide +kernel
set_option maxRecDepth 20000 in
theorem ggX7_of_X7_isGear : GoodIn wsX7_of wsX7_isGear := goodIn_r _ [4, 5, 6, 3, 7] (by decide +kernel) (by decide +kernel)
set_option maxRecDepth 20000 in
theorem gX7_of_X7_isGear : GoodIn wsX7_of (va_wsS RX7 63 yX7_isGear wsX7_isGear) := goodIn_app (goodIn_of _ (by decide +kernel)) ggX7_of_X7_isGear
set_option maxRecDepth 20000 in
theorem ggX7_of_X7_in : GoodIn wsX7_of wsX7_in := goodIn_r _ [7] (by decide +kernel) (by decide +kernel)
set_option maxRecDepth 20000 in
theorem gX7_of_X7_in : GoodIn wsX7_of (va_wsS RX7 55 yX7_in wsX7_in) := goodIn_app (goodIn_of _ (by decide +kernel)) ggX7_of_X7_in
set_option maxRecDepth 20000 in
theorem ggX7_of_X7_ofGear : GoodIn wsX7_of wsX7_ofGear := goodIn_r _ [11, 12, 13, 14, 15, 3, 16, 17, 18, 19, 20, 21, 22, 23, 24, 25, 26, 27, 33, 34, 35, 36, 37, 38, 39, 40, 41, 42, 43, 44, 45, 46, 47, 48, 49, 50, 51, 52, 53] (by decide +kernel) (by decide +kernel)
set_option maxRecDepth 20000 in
theorem gX7_of_X7_ofGear : GoodIn wsX7_of (wsV RX7 119 RX7 yX7_ofGear wsX7_ofGear) := goodIn_app (goodIn_of _ (by decide +kernel)) ggX7_of_X7_ofGear
set_option maxRecDepth 20000 in
theorem ggX7_of_X7_refuse : GoodIn wsX7_of wsX7_refuse := goodIn_r _ [31, 32, 33, 34, 35, 36, 37, 38, 39, 40, 41, 42, 43, 44, 45, 46, 47, 48, 49, 50, 51, 52, 53] (by decide +kernel) (by decide +kernel)
set_option maxRecDepth 20000 in
theorem gX7_of_X7_refuse : GoodIn wsX7_of (wsV RX7 48 RX7 yX7_refuse wsX7_refuse) := goodIn_app (goodIn_of _ (by decide +kernel)) ggX7_of_X7_refuse
theorem dX7_of_0 : decode cX7_of 0 = .ok (.iload_n 1, 1) := by decide +kernel
theorem dX7_of_1 : decode cX7_of 1 = .ok (.invokestatic 63, 3) := by decide +kernel
theorem dX7_of_4 : decode cX7_of 4 = .ok (.ifCond .eq 21, 3) := by decide +kernel
theorem dX7_of_7 : decode cX7_of 7 = .ok (.iload_n 2, 1) := by decide +kernel
theorem dX7_of_8 : decode cX7_of 8 = .ok (.iconst 0, 1) := by decide +kernel
theorem dX7_of_9 : decode cX7_of 9 = .ok (.iconst 4, 1) := by decide +kernel
theorem dX7_of_10 : decode cX7_of 10 = .ok (.invokestatic 55, 3) := by decide +kernel
theorem dX7_of_13 : decode cX7_of 13 = .ok (.ifCond .eq 12, 3) := by decide +kernel
theorem dX7_of_16 : decode cX7_of 16 = .ok (.aload_n 0, 1) := by decide +kernel
theorem dX7_of_17 : decode cX7_of 17 = .ok (.iload_n 1, 1) := by decide +kernel
theorem dX7_of_18 : decode cX7_of 18 = .ok (.iload_n 2, 1) := by decide +kernel
theorem dX7_of_19 : decode cX7_of 19 = .ok (.invokevirtual 119, 3) := by decide +kernel
theorem dX7_of_22 : decode cX7_of 22 = .ok (.goto 9, 3) := by decide +kernel
theorem dX7_of_25 : decode cX7_of 25 = .ok (.aload_n 0, 1) := by decide +kernel
theorem dX7_of_26 : decode cX7_of 26 = .ok (.bipush (-2), 2) := by decide +kernel
theorem dX7_of_28 : decode cX7_of 28 = .ok (.invokevirtual 48, 3) := by decide +kernel
theorem dX7_of_31 : decode cX7_of 31 = .ok (.ireturn, 1) := by decide +kernel
theorem dX7_ofClutch_0 : decode cX7_ofClutch 0 = .ok (.iload_n 2, 1) := by decide +kernel
theorem dX7_ofClutch_1 : decode cX7_ofClutch 1 = .ok (.iconst 3, 1) := by decide +kernel
theorem dX7_ofClutch_2 : decode cX7_ofClutch 2 = .ok (.if_icmp .ge 36, 3) := by decide +kernel
theorem dX7_ofClutch_5 : decode cX7_ofClutch 5 = .ok (.aload_n 0, 1) := by decide +kernel
theorem dX7_ofClutch_6 : decode cX7_ofClutch 6 = .ok (.getfield 7, 3) := by decide +kernel
theorem dX7_ofClutch_9 : decode cX7_ofClutch 9 = .ok (.iload_n 2, 1) := by decide +kernel
theorem dX7_ofClutch_10 : decode cX7_ofClutch 10 = .ok (.ifCond .ne 10, 3) := by decide +kernel
theorem dX7_ofClutch_13 : decode cX7_ofClutch 13 = .ok (.bipush 8, 2) := by decide +kernel
theorem dX7_ofClutch_15 : decode cX7_ofClutch 15 = .ok (.iload_n 1, 1) := by decide +kernel
theorem dX7_ofClutch_16 : decode cX7_ofClutch 16 = .ok (.iadd, 1) := by decide +kernel
theorem dX7_ofClutch_17 : decode cX7_ofClutch 17 = .ok (.goto 19, 3) := by decide +kernel
theorem dX7_ofClutch_20 : decode cX7_ofClutch 20 = .ok (.iload_n 2, 1) := by decide +kernel
theorem dX7_ofClutch_21 : decode cX7_ofClutch 21 = .ok (.iconst 1, 1) := by decide +kernel
theorem dX7_ofClutch_22 : decode cX7_ofClutch 22 = .ok (.if_icmp .ne 10, 3) := by decide +kernel
theorem dX7_ofClutch_25 : decode cX7_ofClutch 25 = .ok (.bipush 13, 2) := by decide +kernel
theorem dX7_ofClutch_27 : decode cX7_ofClutch 27 = .ok (.iload_n 1, 1) := by decide +kernel
theorem dX7_ofClutch_28 : decode cX7_ofClutch 28 = .ok (.iadd, 1) := by decide +kernel
theorem dX7_ofClutch_29 : decode cX7_ofClutch 29 = .ok (.goto 7, 3) := by decide +kernel
theorem dX7_ofClutch_32 : decode cX7_ofClutch 32 = .ok (.bipush 18, 2) := by decide +kernel
theorem dX7_ofClutch_34 : decode cX7_ofClutch 34 = .ok (.iload_n 1, 1) := by decide +kernel
theorem dX7_ofClutch_35 : decode cX7_ofClutch 35 = .ok (.iadd, 1) := by decide +kernel
theorem dX7_ofClutch_36 : decode cX7_ofClutch 36 = .ok (.iaload, 1) := by decide +kernel
theorem dX7_ofClutch_37 : decode cX7_ofClutch 37 = .ok (.ireturn, 1) := by decide +kernel
theorem dX7_ofClutch_38 : decode cX7_ofClutch 38 = .ok (.iconst 0, 1) := by decide +kernel
theorem dX7_ofClutch_39 : decode cX7_ofClutch 39 = .ok (.istore_n 3, 1) := by decide +kernel
theorem dX7_ofClutch_40 : decode cX7_ofClutch 40 = .ok (.iconst 1, 1) := by decide +kernel
theorem dX7_ofClutch_41 : decode cX7_ofClutch 41 = .ok (.istore 4, 2) := by decide +kernel
theorem dX7_ofClutch_43 : decode cX7_ofClutch 43 = .ok (.iload 4, 2) := by decide +kernel
theorem dX7_ofClutch_45 : decode cX7_ofClutch 45 = .ok (.bipush 7, 2) := by decide +kernel
theorem dX7_ofClutch_47 : decode cX7_ofClutch 47 = .ok (.if_icmp .gt 25, 3) := by decide +kernel
theorem dX7_ofClutch_50 : decode cX7_ofClutch 50 = .ok (.iload_n 3, 1) := by decide +kernel
theorem dX7_ofClutch_51 : decode cX7_ofClutch 51 = .ok (.aload_n 0, 1) := by decide +kernel
theorem dX7_ofClutch_52 : decode cX7_ofClutch 52 = .ok (.getfield 7, 3) := by decide +kernel
theorem dX7_ofClutch_55 : decode cX7_ofClutch 55 = .ok (.iconst 0, 1) := by decide +kernel
theorem dX7_ofClutch_56 : decode cX7_ofClutch 56 = .ok (.iload 4, 2) := by decide +kernel
theorem dX7_ofClutch_58 : decode cX7_ofClutch 58 = .ok (.iadd, 1) := by decide +kernel
theorem dX7_ofClutch_59 : decode cX7_ofClutch 59 = .ok (.iaload, 1) := by decide +kernel
theorem dX7_ofClutch_60 : decode cX7_ofClutch 60 = .ok (.iload_n 1, 1) := by decide +kernel
theorem dX7_ofClutch_61 : decode cX7_ofClutch 61 = .ok (.ishr, 1) := by decide +kernel
theorem dX7_ofClutch_62 : decode cX7_ofClutch 62 = .ok (.iconst 1, 1) := by decide +kernel
theorem dX7_ofClutch_63 : decode cX7_ofClutch 63 = .ok (.iand, 1) := by decide +kernel
theorem dX7_ofClutch_64 : decode cX7_ofClutch 64 = .ok (.iadd, 1) := by decide +kernel
theorem dX7_ofClutch_65 : decode cX7_ofClutch 65 = .ok (.istore_n 3, 1) := by decide +kernel
theorem dX7_ofClutch_66 : decode cX7_ofClutch 66 = .ok (.iinc 4 1, 3) := by decide +kernel
theorem dX7_ofClutch_69 : decode cX7_ofClutch 69 = .ok (.goto (-26), 3) := by decide +kernel
theorem dX7_ofClutch_72 : decode cX7_ofClutch 72 = .ok (.iload_n 3, 1) := by decide +kernel
theorem dX7_ofClutch_73 : decode cX7_ofClutch 73 = .ok (.ireturn, 1) := by decide +kernel
set_option maxRecDepth 20000 in
theorem ggX7_clutch_X7_isClutch : GoodIn wsX7_clutch wsX7_isClutch := goodIn_r _ [4, 5, 6, 3, 7] (by decide +kernel) (by decide +kernel)
set_option maxRecDepth 20000 in
theorem gX7_clutch_X7_isClutch : GoodIn wsX7_clutch (va_wsS RX7 73 yX7_isClutch wsX7_isClutch) := goodIn_app (goodIn_of _ (by decide +kernel)) ggX7_clutch_X7_isClutch
set_option maxRecDepth 20000 in
theorem ggX7_clutch_X7_in : GoodIn wsX7_clutch wsX7_in := goodIn_r _ [7] (by decide +kernel) (by decide +kernel)
set_option maxRecDepth 20000 in
theorem gX7_clutch_X7_in : GoodIn wsX7_clutch (va_wsS RX7 55 yX7_in wsX7_in) := goodIn_app (goodIn_of _ (by decide +kernel)) ggX7_clutch_X7_in
set_option maxRecDepth 20000 in
theorem ggX7_clutch_X7_ofClutch : GoodIn wsX7_clutch wsX7_ofClutch := goodIn_r _ [11, 12, 18, 19, 20, 21, 22, 23, 24, 25, 26, 27, 28, 29, 30, 31, 32, 33, 34, 35, 36, 37, 38] (by decide +kernel) (by decide +kernel)
set_option maxRecDepth 20000 in
theorem gX7_clutch_X7_ofClutch : GoodIn wsX7_clutch (wsV RX7 122 RX7 yX7_ofClutch wsX7_ofClutch) := goodIn_app (goodIn_of _ (by decide +kernel)) ggX7_clutch_X7_ofClutch
set_option maxRecDepth 20000 in
theorem ggX7_clutch_X7_refuse : GoodIn wsX7_clutch wsX7_refuse := goodIn_r _ [16, 17, 18, 19, 20, 21, 22, 23, 24, 25, 26, 27, 28, 29, 30, 31, 32, 33, 34, 35, 36, 37, 38] (by decide +kernel) (by decide +kernel)
set_option maxRecDepth 20000 in
theorem gX7_clutch_X7_refuse : GoodIn wsX7_clutch (wsV RX7 48 RX7 yX7_refuse wsX7_refuse) := goodIn_app (goodIn_of _ (by decide +kernel)) ggX7_clutch_X7_refuse
theorem dX7_clutch_0 : decode cX7_clutch 0 = .ok (.iload_n 1, 1) := by decide +kernel
theorem dX7_clutch_1 : decode cX7_clutch 1 = .ok (.invokestatic 73, 3) := by decide +kernel
theorem dX7_clutch_4 : decode cX7_clutch 4 = .ok (.ifCond .eq 21, 3) := by decide +kernel
theorem dX7_clutch_7 : decode cX7_clutch 7 = .ok (.iload_n 2, 1) := by decide +kernel
theorem dX7_clutch_8 : decode cX7_clutch 8 = .ok (.iconst 0, 1) := by decide +kernel
theorem dX7_clutch_9 : decode cX7_clutch 9 = .ok (.iconst 3, 1) := by decide +kernel
theorem dX7_clutch_10 : decode cX7_clutch 10 = .ok (.invokestatic 55, 3) := by decide +kernel
theorem dX7_clutch_13 : decode cX7_clutch 13 = .ok (.ifCond .eq 12, 3) := by decide +kernel
theorem dX7_clutch_16 : decode cX7_clutch 16 = .ok (.aload_n 0, 1) := by decide +kernel
theorem dX7_clutch_17 : decode cX7_clutch 17 = .ok (.iload_n 1, 1) := by decide +kernel
theorem dX7_clutch_18 : decode cX7_clutch 18 = .ok (.iload_n 2, 1) := by decide +kernel
theorem dX7_clutch_19 : decode cX7_clutch 19 = .ok (.invokevirtual 122, 3) := by decide +kernel
theorem dX7_clutch_22 : decode cX7_clutch 22 = .ok (.goto 9, 3) := by decide +kernel
theorem dX7_clutch_25 : decode cX7_clutch 25 = .ok (.aload_n 0, 1) := by decide +kernel
theorem dX7_clutch_26 : decode cX7_clutch 26 = .ok (.bipush (-2), 2) := by decide +kernel
theorem dX7_clutch_28 : decode cX7_clutch 28 = .ok (.invokevirtual 48, 3) := by decide +kernel
theorem dX7_clutch_31 : decode cX7_clutch 31 = .ok (.ireturn, 1) := by decide +kernel
set_option maxRecDepth 20000 in
theorem ggX7_ties_X7_in : GoodIn wsX7_ties wsX7_in := goodIn_r _ [5] (by decide +kernel) (by decide +kernel)
set_option maxRecDepth 20000 in
theorem gX7_ties_X7_in : GoodIn wsX7_ties (va_wsS RX7 55 yX7_in wsX7_in) := goodIn_app (goodIn_of _ (by decide +kernel)) ggX7_ties_X7_in
set_option maxRecDepth 20000 in
theorem ggX7_ties_X7_refuse : GoodIn wsX7_ties wsX7_refuse := goodIn_r _ [9, 10, 11, 12, 13, 14, 15, 16, 17, 18, 19, 20, 21, 22, 23, 24, 25, 26, 27, 28, 29, 30, 31] (by decide +kernel) (by decide +kernel)
set_option maxRecDepth 20000 in
theorem gX7_ties_X7_refuse : GoodIn wsX7_ties (wsV RX7 48 RX7 yX7_refuse wsX7_refuse) := goodIn_app (goodIn_of _ (by decide +kernel)) ggX7_ties_X7_refuse
theorem dX7_ties_0 : decode cX7_ties 0 = .ok (.iload_n 1, 1) := by decide +kernel
theorem dX7_ties_1 : decode cX7_ties 1 = .ok (.iconst 0, 1) := by decide +kernel
theorem dX7_ties_2 : decode cX7_ties 2 = .ok (.bipush 31, 2) := by decide +kernel
theorem dX7_ties_4 : decode cX7_ties 4 = .ok (.invokestatic 55, 3) := by decide +kernel
theorem dX7_ties_7 : decode cX7_ties 7 = .ok (.ifCond .ne 10, 3) := by decide +kernel
theorem dX7_ties_10 : decode cX7_ties 10 = .ok (.aload_n 0, 1) := by decide +kernel
theorem dX7_ties_11 : decode cX7_ties 11 = .ok (.bipush (-2), 2) := by decide +kernel
theorem dX7_ties_13 : decode cX7_ties 13 = .ok (.invokevirtual 48, 3) := by decide +kernel
theorem dX7_ties_16 : decode cX7_ties 16 = .ok (.ireturn, 1) := by decide +kernel
theorem dX7_ties_17 : decode cX7_ties 17 = .ok (.iconst 0, 1) := by decide +kernel
theorem dX7_ties_18 : decode cX7_ties 18 = .ok (.istore_n 2, 1) := by decide +kernel
theorem dX7_ties_19 : decode cX7_ties 19 = .ok (.iconst 1, 1) := by decide +kernel
theorem dX7_ties_20 : decode cX7_ties 20 = .ok (.istore_n 3, 1) := by decide +kernel
theorem dX7_ties_21 : decode cX7_ties 21 = .ok (.iload_n 3, 1) := by decide +kernel
theorem dX7_ties_22 : decode cX7_ties 22 = .ok (.bipush 7, 2) := by decide +kernel
theorem dX7_ties_24 : decode cX7_ties 24 = .ok (.if_icmp .gt 43, 3) := by decide +kernel
theorem dX7_ties_27 : decode cX7_ties 27 = .ok (.iload_n 2, 1) := by decide +kernel
theorem dX7_ties_28 : decode cX7_ties 28 = .ok (.aload_n 0, 1) := by decide +kernel
theorem dX7_ties_29 : decode cX7_ties 29 = .ok (.getfield 7, 3) := by decide +kernel
theorem dX7_ties_32 : decode cX7_ties 32 = .ok (.iconst 0, 1) := by decide +kernel
theorem dX7_ties_33 : decode cX7_ties 33 = .ok (.iload_n 3, 1) := by decide +kernel
theorem dX7_ties_34 : decode cX7_ties 34 = .ok (.iadd, 1) := by decide +kernel
theorem dX7_ties_35 : decode cX7_ties 35 = .ok (.iaload, 1) := by decide +kernel
theorem dX7_ties_36 : decode cX7_ties 36 = .ok (.ifCond .eq 22, 3) := by decide +kernel
theorem dX7_ties_39 : decode cX7_ties 39 = .ok (.aload_n 0, 1) := by decide +kernel
theorem dX7_ties_40 : decode cX7_ties 40 = .ok (.getfield 7, 3) := by decide +kernel
theorem dX7_ties_43 : decode cX7_ties 43 = .ok (.iconst 0, 1) := by decide +kernel
theorem dX7_ties_44 : decode cX7_ties 44 = .ok (.iload_n 3, 1) := by decide +kernel
theorem dX7_ties_45 : decode cX7_ties 45 = .ok (.iadd, 1) := by decide +kernel
theorem dX7_ties_46 : decode cX7_ties 46 = .ok (.iaload, 1) := by decide +kernel
theorem dX7_ties_47 : decode cX7_ties 47 = .ok (.iload_n 1, 1) := by decide +kernel
theorem dX7_ties_48 : decode cX7_ties 48 = .ok (.iconst (-1), 1) := by decide +kernel
theorem dX7_ties_49 : decode cX7_ties 49 = .ok (.ixor, 1) := by decide +kernel
theorem dX7_ties_50 : decode cX7_ties 50 = .ok (.iand, 1) := by decide +kernel
theorem dX7_ties_51 : decode cX7_ties 51 = .ok (.ifCond .ne 7, 3) := by decide +kernel
theorem dX7_ties_54 : decode cX7_ties 54 = .ok (.iconst 1, 1) := by decide +kernel
theorem dX7_ties_55 : decode cX7_ties 55 = .ok (.goto 4, 3) := by decide +kernel
theorem dX7_ties_58 : decode cX7_ties 58 = .ok (.iconst 0, 1) := by decide +kernel
theorem dX7_ties_59 : decode cX7_ties 59 = .ok (.iadd, 1) := by decide +kernel
theorem dX7_ties_60 : decode cX7_ties 60 = .ok (.istore_n 2, 1) := by decide +kernel
theorem dX7_ties_61 : decode cX7_ties 61 = .ok (.iinc 3 1, 3) := by decide +kernel
theorem dX7_ties_64 : decode cX7_ties 64 = .ok (.goto (-43), 3) := by decide +kernel
theorem dX7_ties_67 : decode cX7_ties 67 = .ok (.iload_n 2, 1) := by decide +kernel
theorem dX7_ties_68 : decode cX7_ties 68 = .ok (.iconst 1, 1) := by decide +kernel
theorem dX7_ties_69 : decode cX7_ties 69 = .ok (.if_icmp .le 7, 3) := by decide +kernel
theorem dX7_ties_72 : decode cX7_ties 72 = .ok (.iconst 1, 1) := by decide +kernel
theorem dX7_ties_73 : decode cX7_ties 73 = .ok (.goto 4, 3) := by decide +kernel
theorem dX7_ties_76 : decode cX7_ties 76 = .ok (.iconst 0, 1) := by decide +kernel
theorem dX7_ties_77 : decode cX7_ties 77 = .ok (.ireturn, 1) := by decide +kernel
set_option maxRecDepth 20000 in
theorem ggX7_areTwo_X7_isGear : GoodIn wsX7_areTwo wsX7_isGear := goodIn_r _ [4, 5, 6, 3, 7] (by decide +kernel) (by decide +kernel)
set_option maxRecDepth 20000 in
theorem gX7_areTwo_X7_isGear : GoodIn wsX7_areTwo (va_wsS RX7 63 yX7_isGear wsX7_isGear) := goodIn_app (goodIn_of _ (by decide +kernel)) ggX7_areTwo_X7_isGear
theorem dX7_areTwo_0 : decode cX7_areTwo 0 = .ok (.iload_n 0, 1) := by decide +kernel
theorem dX7_areTwo_1 : decode cX7_areTwo 1 = .ok (.invokestatic 63, 3) := by decide +kernel
theorem dX7_areTwo_4 : decode cX7_areTwo 4 = .ok (.ifCond .eq 19, 3) := by decide +kernel
theorem dX7_areTwo_7 : decode cX7_areTwo 7 = .ok (.iload_n 1, 1) := by decide +kernel
theorem dX7_areTwo_8 : decode cX7_areTwo 8 = .ok (.invokestatic 63, 3) := by decide +kernel
theorem dX7_areTwo_11 : decode cX7_areTwo 11 = .ok (.ifCond .eq 12, 3) := by decide +kernel
theorem dX7_areTwo_14 : decode cX7_areTwo 14 = .ok (.iload_n 0, 1) := by decide +kernel
theorem dX7_areTwo_15 : decode cX7_areTwo 15 = .ok (.iload_n 1, 1) := by decide +kernel
theorem dX7_areTwo_16 : decode cX7_areTwo 16 = .ok (.if_icmp .eq 7, 3) := by decide +kernel
theorem dX7_areTwo_19 : decode cX7_areTwo 19 = .ok (.iconst 1, 1) := by decide +kernel
theorem dX7_areTwo_20 : decode cX7_areTwo 20 = .ok (.goto 4, 3) := by decide +kernel
theorem dX7_areTwo_23 : decode cX7_areTwo 23 = .ok (.iconst 0, 1) := by decide +kernel
theorem dX7_areTwo_24 : decode cX7_areTwo 24 = .ok (.ireturn, 1) := by decide +kernel
set_option maxRecDepth 20000 in
theorem ggX7_simple_X7_areTwo : GoodIn wsX7_simple wsX7_areTwo := goodIn_r _ [4, 5, 6, 3, 7, 8, 9, 10] (by decide +kernel) (by decide +kernel)
set_option maxRecDepth 20000 in
theorem gX7_simple_X7_areTwo : GoodIn wsX7_simple (va_wsS RX7 125 yX7_areTwo wsX7_areTwo) := goodIn_app (goodIn_of _ (by decide +kernel)) ggX7_simple_X7_areTwo
set_option maxRecDepth 20000 in
theorem ggX7_simple_X7_in : GoodIn wsX7_simple wsX7_in := goodIn_r _ [10] (by decide +kernel) (by decide +kernel)
set_option maxRecDepth 20000 in
theorem gX7_simple_X7_in : GoodIn wsX7_simple (va_wsS RX7 55 yX7_in wsX7_in) := goodIn_app (goodIn_of _ (by decide +kernel)) ggX7_simple_X7_in
set_option maxRecDepth 20000 in
theorem ggX7_simple_X7_refuse : GoodIn wsX7_simple wsX7_refuse := goodIn_r _ [14, 15, 35, 36, 37, 38, 39, 40, 41, 42, 43, 44, 45, 46, 47, 48, 49, 50, 51, 52, 53, 54, 55] (by decide +kernel) (by decide +kernel)
set_option maxRecDepth 20000 in
theorem gX7_simple_X7_refuse : GoodIn wsX7_simple (wsV RX7 48 RX7 yX7_refuse wsX7_refuse) := goodIn_app (goodIn_of _ (by decide +kernel)) ggX7_simple_X7_refuse
set_option maxRecDepth 20000 in
theorem ggX7_simple_X7_areSimple : GoodIn wsX7_simple wsX7_areSimple := goodIn_r _ [19, 20, 21, 22, 23, 3, 24, 25, 26, 27, 35, 36, 37, 38, 39, 40, 41, 42, 43, 44, 45, 46, 47, 48, 49, 50, 51, 52, 53, 54, 55] (by decide +kernel) (by decide +kernel)
set_option maxRecDepth 20000 in
theorem gX7_simple_X7_areSimple : GoodIn wsX7_simple (wsV RX7 109 RX7 yX7_areSimple wsX7_areSimple) := goodIn_app (goodIn_of _ (by decide +kernel)) ggX7_simple_X7_areSimple
set_option maxRecDepth 20000 in
theorem ggX7_simple_X7_coming : GoodIn wsX7_simple wsX7_coming := goodIn_r _ [31, 20, 32, 33, 3, 34, 35, 36, 37, 38, 39, 40, 41, 42, 43, 44, 45, 46, 47, 48, 49, 50, 51, 52, 53, 54, 55] (by decide +kernel) (by decide +kernel)
set_option maxRecDepth 20000 in
theorem gX7_simple_X7_coming : GoodIn wsX7_simple (wsV RX7 128 RX7 yX7_coming wsX7_coming) := goodIn_app (goodIn_of _ (by decide +kernel)) ggX7_simple_X7_coming
theorem dX7_simple_0 : decode cX7_simple 0 = .ok (.iload_n 1, 1) := by decide +kernel
theorem dX7_simple_1 : decode cX7_simple 1 = .ok (.iload_n 2, 1) := by decide +kernel
theorem dX7_simple_2 : decode cX7_simple 2 = .ok (.invokestatic 125, 3) := by decide +kernel
theorem dX7_simple_5 : decode cX7_simple 5 = .ok (.ifCond .eq 12, 3) := by decide +kernel
theorem dX7_simple_8 : decode cX7_simple 8 = .ok (.iload_n 3, 1) := by decide +kernel
theorem dX7_simple_9 : decode cX7_simple 9 = .ok (.iconst 0, 1) := by decide +kernel
theorem dX7_simple_10 : decode cX7_simple 10 = .ok (.iconst 2, 1) := by decide +kernel
theorem dX7_simple_11 : decode cX7_simple 11 = .ok (.invokestatic 55, 3) := by decide +kernel
theorem dX7_simple_14 : decode cX7_simple 14 = .ok (.ifCond .ne 10, 3) := by decide +kernel
theorem dX7_simple_17 : decode cX7_simple 17 = .ok (.aload_n 0, 1) := by decide +kernel
theorem dX7_simple_18 : decode cX7_simple 18 = .ok (.bipush (-2), 2) := by decide +kernel
theorem dX7_simple_20 : decode cX7_simple 20 = .ok (.invokevirtual 48, 3) := by decide +kernel
theorem dX7_simple_23 : decode cX7_simple 23 = .ok (.ireturn, 1) := by decide +kernel
theorem dX7_simple_24 : decode cX7_simple 24 = .ok (.aload_n 0, 1) := by decide +kernel
theorem dX7_simple_25 : decode cX7_simple 25 = .ok (.iload_n 1, 1) := by decide +kernel
theorem dX7_simple_26 : decode cX7_simple 26 = .ok (.iload_n 2, 1) := by decide +kernel
theorem dX7_simple_27 : decode cX7_simple 27 = .ok (.invokevirtual 109, 3) := by decide +kernel
theorem dX7_simple_30 : decode cX7_simple 30 = .ok (.istore 4, 2) := by decide +kernel
theorem dX7_simple_32 : decode cX7_simple 32 = .ok (.iload_n 3, 1) := by decide +kernel
theorem dX7_simple_33 : decode cX7_simple 33 = .ok (.ifCond .ne 16, 3) := by decide +kernel
theorem dX7_simple_36 : decode cX7_simple 36 = .ok (.iload 4, 2) := by decide +kernel
theorem dX7_simple_38 : decode cX7_simple 38 = .ok (.ifCond .eq 7, 3) := by decide +kernel
theorem dX7_simple_41 : decode cX7_simple 41 = .ok (.iconst 1, 1) := by decide +kernel
theorem dX7_simple_42 : decode cX7_simple 42 = .ok (.goto 36, 3) := by decide +kernel
theorem dX7_simple_45 : decode cX7_simple 45 = .ok (.iconst 0, 1) := by decide +kernel
theorem dX7_simple_46 : decode cX7_simple 46 = .ok (.goto 32, 3) := by decide +kernel
theorem dX7_simple_49 : decode cX7_simple 49 = .ok (.iload 4, 2) := by decide +kernel
theorem dX7_simple_51 : decode cX7_simple 51 = .ok (.ifCond .ne 7, 3) := by decide +kernel
theorem dX7_simple_54 : decode cX7_simple 54 = .ok (.iconst (-1), 1) := by decide +kernel
theorem dX7_simple_55 : decode cX7_simple 55 = .ok (.goto 23, 3) := by decide +kernel
theorem dX7_simple_58 : decode cX7_simple 58 = .ok (.iload_n 3, 1) := by decide +kernel
theorem dX7_simple_59 : decode cX7_simple 59 = .ok (.iconst 1, 1) := by decide +kernel
theorem dX7_simple_60 : decode cX7_simple 60 = .ok (.if_icmp .ne 12, 3) := by decide +kernel
theorem dX7_simple_63 : decode cX7_simple 63 = .ok (.aload_n 0, 1) := by decide +kernel
theorem dX7_simple_64 : decode cX7_simple 64 = .ok (.iload_n 1, 1) := by decide +kernel
theorem dX7_simple_65 : decode cX7_simple 65 = .ok (.iload_n 2, 1) := by decide +kernel
theorem dX7_simple_66 : decode cX7_simple 66 = .ok (.invokevirtual 128, 3) := by decide +kernel
theorem dX7_simple_69 : decode cX7_simple 69 = .ok (.goto 9, 3) := by decide +kernel
theorem dX7_simple_72 : decode cX7_simple 72 = .ok (.aload_n 0, 1) := by decide +kernel
theorem dX7_simple_73 : decode cX7_simple 73 = .ok (.iload_n 2, 1) := by decide +kernel
theorem dX7_simple_74 : decode cX7_simple 74 = .ok (.iload_n 1, 1) := by decide +kernel
theorem dX7_simple_75 : decode cX7_simple 75 = .ok (.invokevirtual 128, 3) := by decide +kernel
theorem dX7_simple_78 : decode cX7_simple 78 = .ok (.ireturn, 1) := by decide +kernel
set_option maxRecDepth 20000 in
theorem ggX7_way_X7_areTwo : GoodIn wsX7_way wsX7_areTwo := goodIn_r _ [6, 7, 8, 5, 9, 10, 11, 12] (by decide +kernel) (by decide +kernel)
set_option maxRecDepth 20000 in
theorem gX7_way_X7_areTwo : GoodIn wsX7_way (va_wsS RX7 125 yX7_areTwo wsX7_areTwo) := goodIn_app (goodIn_of _ (by decide +kernel)) ggX7_way_X7_areTwo
set_option maxRecDepth 20000 in
theorem ggX7_way_X7_refuse : GoodIn wsX7_way wsX7_refuse := goodIn_r _ [16, 17, 35, 36, 37, 38, 39, 40, 41, 42, 43, 44, 45, 46, 47, 48, 49, 50, 51, 52, 53, 54, 55] (by decide +kernel) (by decide +kernel)
set_option maxRecDepth 20000 in
theorem gX7_way_X7_refuse : GoodIn wsX7_way (wsV RX7 48 RX7 yX7_refuse wsX7_refuse) := goodIn_app (goodIn_of _ (by decide +kernel)) ggX7_way_X7_refuse
set_option maxRecDepth 20000 in
theorem ggX7_way_X7_isFit : GoodIn wsX7_way wsX7_isFit := goodIn_r _ [21, 22, 35, 36, 37, 38, 39, 40, 41, 42, 43, 44, 45, 46, 47, 48, 49, 50, 51, 52, 53, 54, 55] (by decide +kernel) (by decide +kernel)
set_option maxRecDepth 20000 in
theorem gX7_way_X7_isFit : GoodIn wsX7_way (wsV RX7 59 RX7 yX7_isFit wsX7_isFit) := goodIn_app (goodIn_of _ (by decide +kernel)) ggX7_way_X7_isFit
set_option maxRecDepth 20000 in
theorem ggX7_way_X7_findWay : GoodIn wsX7_way wsX7_findWay := goodIn_r _ [26, 27, 1, 2, 28, 29, 30, 5, 31, 22, 18, 19, 20, 21, 32, 33, 34, 35, 36, 37, 38, 39, 40, 41, 42, 43, 44, 45, 46, 47, 48, 49, 50, 51, 52, 53, 54, 55] (by decide +kernel) (by decide +kernel)
set_option maxRecDepth 20000 in
theorem gX7_way_X7_findWay : GoodIn wsX7_way (wsV RX7 131 RX7 yX7_findWay wsX7_findWay) := goodIn_app (goodIn_of _ (by decide +kernel)) ggX7_way_X7_findWay
