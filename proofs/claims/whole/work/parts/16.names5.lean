theorem dX7_wantAt_107 : decode cX7_wantAt 107 = .ok (.ireturn, 1) := by decide +kernel
set_option maxRecDepth 20000 in
theorem ggX7_tick_X7_wantAt : GoodIn wsX7_tick wsX7_wantAt := goodIn_r _ [8, 1, 9, 10, 11, 7, 12, 13, 14, 15, 16, 17, 18, 19, 20, 21, 22, 58, 59, 60, 61, 62, 63, 64, 65, 66, 67, 68, 69, 70, 71, 72, 73, 74, 75, 76, 77, 78] (by decide +kernel) (by decide +kernel)
set_option maxRecDepth 20000 in
theorem gX7_tick_X7_wantAt : GoodIn wsX7_tick (wsV RX7 147 RX7 yX7_wantAt wsX7_wantAt) := goodIn_app (goodIn_of _ (by decide +kernel)) ggX7_tick_X7_wantAt
set_option maxRecDepth 20000 in
theorem ggX7_tick_X7_findWay : GoodIn wsX7_tick wsX7_findWay := goodIn_r _ [26, 27, 2, 3, 28, 29, 30, 7, 31, 1, 19, 20, 21, 22, 32, 33, 34, 58, 59, 60, 61, 62, 63, 64, 65, 66, 67, 68, 69, 70, 71, 72, 73, 74, 75, 76, 77, 78] (by decide +kernel) (by decide +kernel)
set_option maxRecDepth 20000 in
theorem gX7_tick_X7_findWay : GoodIn wsX7_tick (wsV RX7 131 RX7 yX7_findWay wsX7_findWay) := goodIn_app (goodIn_of _ (by decide +kernel)) ggX7_tick_X7_findWay
set_option maxRecDepth 20000 in
theorem ggX7_tick_X7_shift : GoodIn wsX7_tick wsX7_shift := goodIn_r _ [38, 1, 39, 40, 41, 7, 42, 43, 44, 45, 46, 47, 48, 49, 50, 51, 52, 53, 54, 55, 56, 57, 58, 59, 60, 61, 62, 63, 64, 65, 66, 67, 68, 69, 70, 71, 72, 73, 74, 75, 76, 77, 78] (by decide +kernel) (by decide +kernel)
set_option maxRecDepth 20000 in
theorem gX7_tick_X7_shift : GoodIn wsX7_tick (wsV RX7 150 RX7 yX7_shift wsX7_shift) := goodIn_app (goodIn_of _ (by decide +kernel)) ggX7_tick_X7_shift
theorem dX7_tick_0 : decode cX7_tick 0 = .ok (.aload_n 0, 1) := by decide +kernel
theorem dX7_tick_1 : decode cX7_tick 1 = .ok (.getfield 7, 3) := by decide +kernel
theorem dX7_tick_4 : decode cX7_tick 4 = .ok (.bipush 44, 2) := by decide +kernel
theorem dX7_tick_6 : decode cX7_tick 6 = .ok (.dup2, 1) := by decide +kernel
theorem dX7_tick_7 : decode cX7_tick 7 = .ok (.iaload, 1) := by decide +kernel
theorem dX7_tick_8 : decode cX7_tick 8 = .ok (.iconst 1, 1) := by decide +kernel
theorem dX7_tick_9 : decode cX7_tick 9 = .ok (.iadd, 1) := by decide +kernel
theorem dX7_tick_10 : decode cX7_tick 10 = .ok (.iastore, 1) := by decide +kernel
theorem dX7_tick_11 : decode cX7_tick 11 = .ok (.aload_n 0, 1) := by decide +kernel
theorem dX7_tick_12 : decode cX7_tick 12 = .ok (.getfield 7, 3) := by decide +kernel
theorem dX7_tick_15 : decode cX7_tick 15 = .ok (.bipush 45, 2) := by decide +kernel
theorem dX7_tick_17 : decode cX7_tick 17 = .ok (.aload_n 0, 1) := by decide +kernel
theorem dX7_tick_18 : decode cX7_tick 18 = .ok (.getfield 7, 3) := by decide +kernel
theorem dX7_tick_21 : decode cX7_tick 21 = .ok (.bipush 45, 2) := by decide +kernel
theorem dX7_tick_23 : decode cX7_tick 23 = .ok (.iaload, 1) := by decide +kernel
theorem dX7_tick_24 : decode cX7_tick 24 = .ok (.ifCond .le 15, 3) := by decide +kernel
theorem dX7_tick_27 : decode cX7_tick 27 = .ok (.aload_n 0, 1) := by decide +kernel
theorem dX7_tick_28 : decode cX7_tick 28 = .ok (.getfield 7, 3) := by decide +kernel
theorem dX7_tick_31 : decode cX7_tick 31 = .ok (.bipush 45, 2) := by decide +kernel
theorem dX7_tick_33 : decode cX7_tick 33 = .ok (.iaload, 1) := by decide +kernel
theorem dX7_tick_34 : decode cX7_tick 34 = .ok (.iconst 1, 1) := by decide +kernel
theorem dX7_tick_35 : decode cX7_tick 35 = .ok (.isub, 1) := by decide +kernel
theorem dX7_tick_36 : decode cX7_tick 36 = .ok (.goto 4, 3) := by decide +kernel
theorem dX7_tick_39 : decode cX7_tick 39 = .ok (.iconst 0, 1) := by decide +kernel
theorem dX7_tick_40 : decode cX7_tick 40 = .ok (.iastore, 1) := by decide +kernel
theorem dX7_tick_41 : decode cX7_tick 41 = .ok (.aload_n 0, 1) := by decide +kernel
theorem dX7_tick_42 : decode cX7_tick 42 = .ok (.getfield 7, 3) := by decide +kernel
theorem dX7_tick_45 : decode cX7_tick 45 = .ok (.bipush 43, 2) := by decide +kernel
theorem dX7_tick_47 : decode cX7_tick 47 = .ok (.iaload, 1) := by decide +kernel
theorem dX7_tick_48 : decode cX7_tick 48 = .ok (.istore_n 2, 1) := by decide +kernel
theorem dX7_tick_49 : decode cX7_tick 49 = .ok (.aload_n 0, 1) := by decide +kernel
theorem dX7_tick_50 : decode cX7_tick 50 = .ok (.iload_n 1, 1) := by decide +kernel
theorem dX7_tick_51 : decode cX7_tick 51 = .ok (.invokevirtual 147, 3) := by decide +kernel
theorem dX7_tick_54 : decode cX7_tick 54 = .ok (.istore_n 3, 1) := by decide +kernel
theorem dX7_tick_55 : decode cX7_tick 55 = .ok (.iload_n 2, 1) := by decide +kernel
theorem dX7_tick_56 : decode cX7_tick 56 = .ok (.ifCond .eq 8, 3) := by decide +kernel
theorem dX7_tick_59 : decode cX7_tick 59 = .ok (.iload_n 3, 1) := by decide +kernel
theorem dX7_tick_60 : decode cX7_tick 60 = .ok (.iload_n 2, 1) := by decide +kernel
theorem dX7_tick_61 : decode cX7_tick 61 = .ok (.if_icmp .ne 12, 3) := by decide +kernel
theorem dX7_tick_64 : decode cX7_tick 64 = .ok (.aload_n 0, 1) := by decide +kernel
theorem dX7_tick_65 : decode cX7_tick 65 = .ok (.getfield 7, 3) := by decide +kernel
theorem dX7_tick_68 : decode cX7_tick 68 = .ok (.bipush 43, 2) := by decide +kernel
theorem dX7_tick_70 : decode cX7_tick 70 = .ok (.iload_n 3, 1) := by decide +kernel
theorem dX7_tick_71 : decode cX7_tick 71 = .ok (.iastore, 1) := by decide +kernel
theorem dX7_tick_72 : decode cX7_tick 72 = .ok (.return_, 1) := by decide +kernel
theorem dX7_tick_73 : decode cX7_tick 73 = .ok (.iload_n 3, 1) := by decide +kernel
theorem dX7_tick_74 : decode cX7_tick 74 = .ok (.iload_n 2, 1) := by decide +kernel
theorem dX7_tick_75 : decode cX7_tick 75 = .ok (.if_icmp .le 14, 3) := by decide +kernel
theorem dX7_tick_78 : decode cX7_tick 78 = .ok (.aload_n 0, 1) := by decide +kernel
theorem dX7_tick_79 : decode cX7_tick 79 = .ok (.getfield 7, 3) := by decide +kernel
theorem dX7_tick_82 : decode cX7_tick 82 = .ok (.bipush 45, 2) := by decide +kernel
theorem dX7_tick_84 : decode cX7_tick 84 = .ok (.iaload, 1) := by decide +kernel
theorem dX7_tick_85 : decode cX7_tick 85 = .ok (.ifCond .le 4, 3) := by decide +kernel
theorem dX7_tick_88 : decode cX7_tick 88 = .ok (.return_, 1) := by decide +kernel
theorem dX7_tick_89 : decode cX7_tick 89 = .ok (.aload_n 0, 1) := by decide +kernel
theorem dX7_tick_90 : decode cX7_tick 90 = .ok (.iload_n 2, 1) := by decide +kernel
theorem dX7_tick_91 : decode cX7_tick 91 = .ok (.iload_n 3, 1) := by decide +kernel
theorem dX7_tick_92 : decode cX7_tick 92 = .ok (.invokevirtual 131, 3) := by decide +kernel
theorem dX7_tick_95 : decode cX7_tick 95 = .ok (.aload_n 0, 1) := by decide +kernel
theorem dX7_tick_96 : decode cX7_tick 96 = .ok (.getfield 113, 3) := by decide +kernel
theorem dX7_tick_99 : decode cX7_tick 99 = .ok (.ifCond .ne 4, 3) := by decide +kernel
theorem dX7_tick_102 : decode cX7_tick 102 = .ok (.return_, 1) := by decide +kernel
theorem dX7_tick_103 : decode cX7_tick 103 = .ok (.iconst 0, 1) := by decide +kernel
theorem dX7_tick_104 : decode cX7_tick 104 = .ok (.istore 4, 2) := by decide +kernel
theorem dX7_tick_106 : decode cX7_tick 106 = .ok (.iload 4, 2) := by decide +kernel
theorem dX7_tick_108 : decode cX7_tick 108 = .ok (.aload_n 0, 1) := by decide +kernel
theorem dX7_tick_109 : decode cX7_tick 109 = .ok (.getfield 113, 3) := by decide +kernel
theorem dX7_tick_112 : decode cX7_tick 112 = .ok (.if_icmp .ge 38, 3) := by decide +kernel
theorem dX7_tick_115 : decode cX7_tick 115 = .ok (.aload_n 0, 1) := by decide +kernel
theorem dX7_tick_116 : decode cX7_tick 116 = .ok (.iload 4, 2) := by decide +kernel
theorem dX7_tick_118 : decode cX7_tick 118 = .ok (.ifCond .ne 7, 3) := by decide +kernel
theorem dX7_tick_121 : decode cX7_tick 121 = .ok (.iload_n 2, 1) := by decide +kernel
theorem dX7_tick_122 : decode cX7_tick 122 = .ok (.goto 12, 3) := by decide +kernel
theorem dX7_tick_125 : decode cX7_tick 125 = .ok (.aload_n 0, 1) := by decide +kernel
theorem dX7_tick_126 : decode cX7_tick 126 = .ok (.getfield 41, 3) := by decide +kernel
theorem dX7_tick_129 : decode cX7_tick 129 = .ok (.iload 4, 2) := by decide +kernel
theorem dX7_tick_131 : decode cX7_tick 131 = .ok (.iconst 1, 1) := by decide +kernel
theorem dX7_tick_132 : decode cX7_tick 132 = .ok (.isub, 1) := by decide +kernel
theorem dX7_tick_133 : decode cX7_tick 133 = .ok (.iaload, 1) := by decide +kernel
theorem dX7_tick_134 : decode cX7_tick 134 = .ok (.aload_n 0, 1) := by decide +kernel
theorem dX7_tick_135 : decode cX7_tick 135 = .ok (.getfield 41, 3) := by decide +kernel
theorem dX7_tick_138 : decode cX7_tick 138 = .ok (.iload 4, 2) := by decide +kernel
theorem dX7_tick_140 : decode cX7_tick 140 = .ok (.iaload, 1) := by decide +kernel
theorem dX7_tick_141 : decode cX7_tick 141 = .ok (.invokevirtual 150, 3) := by decide +kernel
theorem dX7_tick_144 : decode cX7_tick 144 = .ok (.iinc 4 1, 3) := by decide +kernel
theorem dX7_tick_147 : decode cX7_tick 147 = .ok (.goto (-41), 3) := by decide +kernel
theorem dX7_tick_150 : decode cX7_tick 150 = .ok (.aload_n 0, 1) := by decide +kernel
theorem dX7_tick_151 : decode cX7_tick 151 = .ok (.getfield 7, 3) := by decide +kernel
theorem dX7_tick_154 : decode cX7_tick 154 = .ok (.bipush 43, 2) := by decide +kernel
theorem dX7_tick_156 : decode cX7_tick 156 = .ok (.iload_n 3, 1) := by decide +kernel
theorem dX7_tick_157 : decode cX7_tick 157 = .ok (.iastore, 1) := by decide +kernel
theorem dX7_tick_158 : decode cX7_tick 158 = .ok (.iload_n 3, 1) := by decide +kernel
theorem dX7_tick_159 : decode cX7_tick 159 = .ok (.iload_n 2, 1) := by decide +kernel
theorem dX7_tick_160 : decode cX7_tick 160 = .ok (.if_icmp .le 20, 3) := by decide +kernel
theorem dX7_tick_163 : decode cX7_tick 163 = .ok (.aload_n 0, 1) := by decide +kernel
theorem dX7_tick_164 : decode cX7_tick 164 = .ok (.getfield 7, 3) := by decide +kernel
theorem dX7_tick_167 : decode cX7_tick 167 = .ok (.bipush 46, 2) := by decide +kernel
theorem dX7_tick_169 : decode cX7_tick 169 = .ok (.aload_n 0, 1) := by decide +kernel
theorem dX7_tick_170 : decode cX7_tick 170 = .ok (.getfield 7, 3) := by decide +kernel
theorem dX7_tick_173 : decode cX7_tick 173 = .ok (.bipush 44, 2) := by decide +kernel
theorem dX7_tick_175 : decode cX7_tick 175 = .ok (.iaload, 1) := by decide +kernel
theorem dX7_tick_176 : decode cX7_tick 176 = .ok (.iastore, 1) := by decide +kernel
theorem dX7_tick_177 : decode cX7_tick 177 = .ok (.goto 53, 3) := by decide +kernel
theorem dX7_tick_180 : decode cX7_tick 180 = .ok (.aload_n 0, 1) := by decide +kernel
theorem dX7_tick_181 : decode cX7_tick 181 = .ok (.getfield 7, 3) := by decide +kernel
theorem dX7_tick_184 : decode cX7_tick 184 = .ok (.bipush 46, 2) := by decide +kernel
theorem dX7_tick_186 : decode cX7_tick 186 = .ok (.iaload, 1) := by decide +kernel
theorem dX7_tick_187 : decode cX7_tick 187 = .ok (.iconst (-1), 1) := by decide +kernel
theorem dX7_tick_188 : decode cX7_tick 188 = .ok (.if_icmp .eq 42, 3) := by decide +kernel
theorem dX7_tick_191 : decode cX7_tick 191 = .ok (.aload_n 0, 1) := by decide +kernel
theorem dX7_tick_192 : decode cX7_tick 192 = .ok (.getfield 7, 3) := by decide +kernel
theorem dX7_tick_195 : decode cX7_tick 195 = .ok (.bipush 44, 2) := by decide +kernel
theorem dX7_tick_197 : decode cX7_tick 197 = .ok (.iaload, 1) := by decide +kernel
theorem dX7_tick_198 : decode cX7_tick 198 = .ok (.aload_n 0, 1) := by decide +kernel
theorem dX7_tick_199 : decode cX7_tick 199 = .ok (.getfield 7, 3) := by decide +kernel
theorem dX7_tick_202 : decode cX7_tick 202 = .ok (.bipush 46, 2) := by decide +kernel
theorem dX7_tick_204 : decode cX7_tick 204 = .ok (.iaload, 1) := by decide +kernel
theorem dX7_tick_205 : decode cX7_tick 205 = .ok (.isub, 1) := by decide +kernel
theorem dX7_tick_206 : decode cX7_tick 206 = .ok (.iconst 5, 1) := by decide +kernel
theorem dX7_tick_207 : decode cX7_tick 207 = .ok (.if_icmp .gt 23, 3) := by decide +kernel
theorem dX7_tick_210 : decode cX7_tick 210 = .ok (.aload_n 0, 1) := by decide +kernel
theorem dX7_tick_211 : decode cX7_tick 211 = .ok (.getfield 7, 3) := by decide +kernel
theorem dX7_tick_214 : decode cX7_tick 214 = .ok (.bipush 50, 2) := by decide +kernel
theorem dX7_tick_216 : decode cX7_tick 216 = .ok (.dup2, 1) := by decide +kernel
theorem dX7_tick_217 : decode cX7_tick 217 = .ok (.iaload, 1) := by decide +kernel
theorem dX7_tick_218 : decode cX7_tick 218 = .ok (.iconst 1, 1) := by decide +kernel
theorem dX7_tick_219 : decode cX7_tick 219 = .ok (.iadd, 1) := by decide +kernel
theorem dX7_tick_220 : decode cX7_tick 220 = .ok (.iastore, 1) := by decide +kernel
theorem dX7_tick_221 : decode cX7_tick 221 = .ok (.aload_n 0, 1) := by decide +kernel
theorem dX7_tick_222 : decode cX7_tick 222 = .ok (.getfield 7, 3) := by decide +kernel
theorem dX7_tick_225 : decode cX7_tick 225 = .ok (.bipush 45, 2) := by decide +kernel
theorem dX7_tick_227 : decode cX7_tick 227 = .ok (.bipush 10, 2) := by decide +kernel
theorem dX7_tick_229 : decode cX7_tick 229 = .ok (.iastore, 1) := by decide +kernel
theorem dX7_tick_230 : decode cX7_tick 230 = .ok (.return_, 1) := by decide +kernel
set_option maxRecDepth 20000 in
theorem ggX7_drive_X7_in : GoodIn wsX7_drive wsX7_in := goodIn_r _ [5] (by decide +kernel) (by decide +kernel)
set_option maxRecDepth 20000 in
theorem gX7_drive_X7_in : GoodIn wsX7_drive (va_wsS RX7 55 yX7_in wsX7_in) := goodIn_app (goodIn_of _ (by decide +kernel)) ggX7_drive_X7_in
set_option maxRecDepth 20000 in
theorem ggX7_drive_X7_tick : GoodIn wsX7_drive wsX7_tick := goodIn_r _ [9, 1, 10, 11, 12, 13, 14, 4, 15, 16, 17, 18, 19, 20, 21, 22, 2, 3, 5, 23, 24, 25, 26, 27, 28, 29, 30, 31, 32, 33, 34, 35, 36, 37, 38, 39, 40, 41, 42, 43, 44, 45, 46, 47, 48, 49, 50, 51, 52, 53, 54, 55, 56, 57, 58, 59, 60, 61, 62, 63, 64, 65, 66, 67, 68, 69, 70, 71, 72, 73, 74, 75, 76, 77, 78, 79, 80, 81, 82] (by decide +kernel) (by decide +kernel)
set_option maxRecDepth 20000 in
theorem gX7_drive_X7_tick : GoodIn wsX7_drive (wsV RX7 153 RX7 yX7_tick wsX7_tick) := goodIn_app (goodIn_of _ (by decide +kernel)) ggX7_drive_X7_tick
theorem dX7_drive_0 : decode cX7_drive 0 = .ok (.iload_n 1, 1) := by decide +kernel
theorem dX7_drive_1 : decode cX7_drive 1 = .ok (.iconst 0, 1) := by decide +kernel
theorem dX7_drive_2 : decode cX7_drive 2 = .ok (.sipush 300, 3) := by decide +kernel
theorem dX7_drive_5 : decode cX7_drive 5 = .ok (.invokestatic 55, 3) := by decide +kernel
theorem dX7_drive_8 : decode cX7_drive 8 = .ok (.ifCond .eq 13, 3) := by decide +kernel
theorem dX7_drive_11 : decode cX7_drive 11 = .ok (.iload_n 2, 1) := by decide +kernel
theorem dX7_drive_12 : decode cX7_drive 12 = .ok (.iconst 1, 1) := by decide +kernel
theorem dX7_drive_13 : decode cX7_drive 13 = .ok (.bipush 60, 2) := by decide +kernel
theorem dX7_drive_15 : decode cX7_drive 15 = .ok (.invokestatic 55, 3) := by decide +kernel
theorem dX7_drive_18 : decode cX7_drive 18 = .ok (.ifCond .ne 6, 3) := by decide +kernel
theorem dX7_drive_21 : decode cX7_drive 21 = .ok (.bipush (-2), 2) := by decide +kernel
theorem dX7_drive_23 : decode cX7_drive 23 = .ok (.ireturn, 1) := by decide +kernel
theorem dX7_drive_24 : decode cX7_drive 24 = .ok (.iconst 0, 1) := by decide +kernel
theorem dX7_drive_25 : decode cX7_drive 25 = .ok (.istore_n 3, 1) := by decide +kernel
theorem dX7_drive_26 : decode cX7_drive 26 = .ok (.iload_n 3, 1) := by decide +kernel
theorem dX7_drive_27 : decode cX7_drive 27 = .ok (.iload_n 2, 1) := by decide +kernel
theorem dX7_drive_28 : decode cX7_drive 28 = .ok (.if_icmp .ge 14, 3) := by decide +kernel
theorem dX7_drive_31 : decode cX7_drive 31 = .ok (.aload_n 0, 1) := by decide +kernel
theorem dX7_drive_32 : decode cX7_drive 32 = .ok (.iload_n 1, 1) := by decide +kernel
theorem dX7_drive_33 : decode cX7_drive 33 = .ok (.invokevirtual 153, 3) := by decide +kernel
theorem dX7_drive_36 : decode cX7_drive 36 = .ok (.iinc 3 1, 3) := by decide +kernel
theorem dX7_drive_39 : decode cX7_drive 39 = .ok (.goto (-13), 3) := by decide +kernel
theorem dX7_drive_42 : decode cX7_drive 42 = .ok (.aload_n 0, 1) := by decide +kernel
theorem dX7_drive_43 : decode cX7_drive 43 = .ok (.getfield 7, 3) := by decide +kernel
theorem dX7_drive_46 : decode cX7_drive 46 = .ok (.bipush 43, 2) := by decide +kernel
theorem dX7_drive_48 : decode cX7_drive 48 = .ok (.iaload, 1) := by decide +kernel
theorem dX7_drive_49 : decode cX7_drive 49 = .ok (.ireturn, 1) := by decide +kernel
set_option maxRecDepth 20000 in
theorem ggX7_want_X7_in : GoodIn wsX7_want wsX7_in := goodIn_r _ [4] (by decide +kernel) (by decide +kernel)
set_option maxRecDepth 20000 in
theorem gX7_want_X7_in : GoodIn wsX7_want (va_wsS RX7 55 yX7_in wsX7_in) := goodIn_app (goodIn_of _ (by decide +kernel)) ggX7_want_X7_in
set_option maxRecDepth 20000 in
theorem ggX7_want_X7_wantAt : GoodIn wsX7_want wsX7_wantAt := goodIn_r _ [8, 9, 10, 11, 12, 3, 13, 14, 15, 16, 1, 2, 4, 17, 18, 19, 20, 26, 27, 28, 29, 30, 31, 32, 33, 34, 35, 36, 37, 38, 39, 40, 41, 42, 43, 44, 45, 46] (by decide +kernel) (by decide +kernel)
set_option maxRecDepth 20000 in
theorem gX7_want_X7_wantAt : GoodIn wsX7_want (wsV RX7 147 RX7 yX7_wantAt wsX7_wantAt) := goodIn_app (goodIn_of _ (by decide +kernel)) ggX7_want_X7_wantAt
set_option maxRecDepth 20000 in
theorem ggX7_want_X7_refuse : GoodIn wsX7_want wsX7_refuse := goodIn_r _ [24, 25, 26, 27, 28, 29, 30, 31, 32, 33, 34, 35, 36, 37, 38, 39, 40, 41, 42, 43, 44, 45, 46] (by decide +kernel) (by decide +kernel)
set_option maxRecDepth 20000 in
theorem gX7_want_X7_refuse : GoodIn wsX7_want (wsV RX7 48 RX7 yX7_refuse wsX7_refuse) := goodIn_app (goodIn_of _ (by decide +kernel)) ggX7_want_X7_refuse
theorem dX7_want_0 : decode cX7_want 0 = .ok (.iload_n 1, 1) := by decide +kernel
theorem dX7_want_1 : decode cX7_want 1 = .ok (.iconst 0, 1) := by decide +kernel
theorem dX7_want_2 : decode cX7_want 2 = .ok (.sipush 300, 3) := by decide +kernel
theorem dX7_want_5 : decode cX7_want 5 = .ok (.invokestatic 55, 3) := by decide +kernel
theorem dX7_want_8 : decode cX7_want 8 = .ok (.ifCond .eq 11, 3) := by decide +kernel
theorem dX7_want_11 : decode cX7_want 11 = .ok (.aload_n 0, 1) := by decide +kernel
theorem dX7_want_12 : decode cX7_want 12 = .ok (.iload_n 1, 1) := by decide +kernel
theorem dX7_want_13 : decode cX7_want 13 = .ok (.invokevirtual 147, 3) := by decide +kernel
theorem dX7_want_16 : decode cX7_want 16 = .ok (.goto 9, 3) := by decide +kernel
theorem dX7_want_19 : decode cX7_want 19 = .ok (.aload_n 0, 1) := by decide +kernel
theorem dX7_want_20 : decode cX7_want 20 = .ok (.bipush (-2), 2) := by decide +kernel
theorem dX7_want_22 : decode cX7_want 22 = .ok (.invokevirtual 48, 3) := by decide +kernel
theorem dX7_want_25 : decode cX7_want 25 = .ok (.ireturn, 1) := by decide +kernel
set_option maxRecDepth 20000 in
theorem ggX7_drives_X7_save : GoodIn wsX7_drives wsX7_save := goodIn_r _ [5, 6, 7, 8, 9, 4, 10, 85, 86, 87, 88, 89, 90, 91, 92, 93, 94, 95, 96, 97, 98, 99, 100, 101, 102, 103, 104, 105] (by decide +kernel) (by decide +kernel)
set_option maxRecDepth 20000 in
theorem gX7_drives_X7_save : GoodIn wsX7_drives (wsV RX7 76 RX7 yX7_save wsX7_save) := goodIn_app (goodIn_of _ (by decide +kernel)) ggX7_drives_X7_save
set_option maxRecDepth 20000 in
theorem ggX7_drives_X7_drive : GoodIn wsX7_drives wsX7_drive := goodIn_r _ [14, 6, 15, 16, 4, 17, 18, 19, 20, 21, 22, 23, 24, 25, 26, 27, 28, 29, 30, 31, 32, 33, 34, 35, 36, 37, 38, 39, 40, 41, 42, 43, 44, 45, 46, 47, 48, 49, 50, 51, 52, 53, 54, 55, 56, 57, 58, 59, 60, 61, 62, 63, 64, 65, 66, 67, 68, 69, 70, 71, 72, 73, 85, 86, 87, 88, 89, 90, 91, 92, 93, 94, 95, 96, 97, 98, 99, 100, 101, 102, 103, 104, 105] (by decide +kernel) (by decide +kernel)
set_option maxRecDepth 20000 in
theorem gX7_drives_X7_drive : GoodIn wsX7_drives (wsV RX7 157 RX7 yX7_drive wsX7_drive) := goodIn_app (goodIn_of _ (by decide +kernel)) ggX7_drives_X7_drive
set_option maxRecDepth 20000 in
theorem ggX7_drives_X7_finish : GoodIn wsX7_drives wsX7_finish := goodIn_r _ [77, 78, 79, 7, 80, 81, 82, 4, 83, 84, 8, 9, 10, 85, 86, 87, 88, 89, 90, 91, 92, 93, 94, 95, 96, 97, 98, 99, 100, 101, 102, 103, 104, 105] (by decide +kernel) (by decide +kernel)
set_option maxRecDepth 20000 in
theorem gX7_drives_X7_finish : GoodIn wsX7_drives (wsV RX7 82 RX7 yX7_finish wsX7_finish) := goodIn_app (goodIn_of _ (by decide +kernel)) ggX7_drives_X7_finish
theorem dX7_drives_0 : decode cX7_drives 0 = .ok (.aload_n 0, 1) := by decide +kernel
theorem dX7_drives_1 : decode cX7_drives 1 = .ok (.invokevirtual 76, 3) := by decide +kernel
theorem dX7_drives_4 : decode cX7_drives 4 = .ok (.aload_n 0, 1) := by decide +kernel
theorem dX7_drives_5 : decode cX7_drives 5 = .ok (.aload_n 0, 1) := by decide +kernel
theorem dX7_drives_6 : decode cX7_drives 6 = .ok (.iload_n 1, 1) := by decide +kernel
theorem dX7_drives_7 : decode cX7_drives 7 = .ok (.iload_n 2, 1) := by decide +kernel
theorem dX7_drives_8 : decode cX7_drives 8 = .ok (.invokevirtual 157, 3) := by decide +kernel
theorem dX7_drives_11 : decode cX7_drives 11 = .ok (.invokevirtual 82, 3) := by decide +kernel
theorem dX7_drives_14 : decode cX7_drives 14 = .ok (.ireturn, 1) := by decide +kernel
set_option maxRecDepth 20000 in
theorem ggX7_puts_X7_save : GoodIn wsX7_puts wsX7_save := goodIn_r _ [5, 6, 7, 8, 9, 4, 10, 33, 34, 35, 36, 37, 38, 39, 40, 41, 42, 43, 44, 45, 46, 47, 48, 49, 50, 51, 52, 53] (by decide +kernel) (by decide +kernel)
set_option maxRecDepth 20000 in
theorem gX7_puts_X7_save : GoodIn wsX7_puts (wsV RX7 76 RX7 yX7_save wsX7_save) := goodIn_app (goodIn_of _ (by decide +kernel)) ggX7_puts_X7_save
set_option maxRecDepth 20000 in
theorem ggX7_puts_X7_in : GoodIn wsX7_puts wsX7_in := goodIn_r _ [13] (by decide +kernel) (by decide +kernel)
set_option maxRecDepth 20000 in
theorem gX7_puts_X7_in : GoodIn wsX7_puts (va_wsS RX7 55 yX7_in wsX7_in) := goodIn_app (goodIn_of _ (by decide +kernel)) ggX7_puts_X7_in
set_option maxRecDepth 20000 in
theorem ggX7_puts_X7_isFit : GoodIn wsX7_puts wsX7_isFit := goodIn_r _ [17, 6, 33, 34, 35, 36, 37, 38, 39, 40, 41, 42, 43, 44, 45, 46, 47, 48, 49, 50, 51, 52, 53] (by decide +kernel) (by decide +kernel)
set_option maxRecDepth 20000 in
theorem gX7_puts_X7_isFit : GoodIn wsX7_puts (wsV RX7 59 RX7 yX7_isFit wsX7_isFit) := goodIn_app (goodIn_of _ (by decide +kernel)) ggX7_puts_X7_isFit
set_option maxRecDepth 20000 in
theorem ggX7_puts_X7_change : GoodIn wsX7_puts wsX7_change := goodIn_r _ [21, 6, 33, 34, 35, 36, 37, 38, 39, 40, 41, 42, 43, 44, 45, 46, 47, 48, 49, 50, 51, 52, 53] (by decide +kernel) (by decide +kernel)
set_option maxRecDepth 20000 in
theorem gX7_puts_X7_change : GoodIn wsX7_puts (wsV RX7 66 RX7 yX7_change wsX7_change) := goodIn_app (goodIn_of _ (by decide +kernel)) ggX7_puts_X7_change
set_option maxRecDepth 20000 in
theorem ggX7_puts_X7_finish : GoodIn wsX7_puts wsX7_finish := goodIn_r _ [25, 26, 27, 7, 28, 29, 30, 4, 31, 32, 8, 9, 10, 33, 34, 35, 36, 37, 38, 39, 40, 41, 42, 43, 44, 45, 46, 47, 48, 49, 50, 51, 52, 53] (by decide +kernel) (by decide +kernel)
set_option maxRecDepth 20000 in
theorem gX7_puts_X7_finish : GoodIn wsX7_puts (wsV RX7 82 RX7 yX7_finish wsX7_finish) := goodIn_app (goodIn_of _ (by decide +kernel)) ggX7_puts_X7_finish
theorem dX7_puts_0 : decode cX7_puts 0 = .ok (.aload_n 0, 1) := by decide +kernel
theorem dX7_puts_1 : decode cX7_puts 1 = .ok (.invokevirtual 76, 3) := by decide +kernel
theorem dX7_puts_4 : decode cX7_puts 4 = .ok (.aload_n 0, 1) := by decide +kernel
theorem dX7_puts_5 : decode cX7_puts 5 = .ok (.iload_n 1, 1) := by decide +kernel
theorem dX7_puts_6 : decode cX7_puts 6 = .ok (.iconst 0, 1) := by decide +kernel
theorem dX7_puts_7 : decode cX7_puts 7 = .ok (.bipush 7, 2) := by decide +kernel
theorem dX7_puts_9 : decode cX7_puts 9 = .ok (.invokestatic 55, 3) := by decide +kernel
theorem dX7_puts_12 : decode cX7_puts 12 = .ok (.ifCond .ne 8, 3) := by decide +kernel
theorem dX7_puts_15 : decode cX7_puts 15 = .ok (.bipush (-2), 2) := by decide +kernel
theorem dX7_puts_17 : decode cX7_puts 17 = .ok (.goto 27, 3) := by decide +kernel
theorem dX7_puts_20 : decode cX7_puts 20 = .ok (.iload_n 1, 1) := by decide +kernel
theorem dX7_puts_21 : decode cX7_puts 21 = .ok (.ifCond .le 16, 3) := by decide +kernel
theorem dX7_puts_24 : decode cX7_puts 24 = .ok (.aload_n 0, 1) := by decide +kernel
theorem dX7_puts_25 : decode cX7_puts 25 = .ok (.iload_n 1, 1) := by decide +kernel
theorem dX7_puts_26 : decode cX7_puts 26 = .ok (.invokevirtual 59, 3) := by decide +kernel
theorem dX7_puts_29 : decode cX7_puts 29 = .ok (.ifCond .ne 8, 3) := by decide +kernel
theorem dX7_puts_32 : decode cX7_puts 32 = .ok (.bipush (-3), 2) := by decide +kernel
theorem dX7_puts_34 : decode cX7_puts 34 = .ok (.goto 10, 3) := by decide +kernel
theorem dX7_puts_37 : decode cX7_puts 37 = .ok (.aload_n 0, 1) := by decide +kernel
theorem dX7_puts_38 : decode cX7_puts 38 = .ok (.bipush 43, 2) := by decide +kernel
theorem dX7_puts_40 : decode cX7_puts 40 = .ok (.iload_n 1, 1) := by decide +kernel
theorem dX7_puts_41 : decode cX7_puts 41 = .ok (.invokevirtual 66, 3) := by decide +kernel
theorem dX7_puts_44 : decode cX7_puts 44 = .ok (.invokevirtual 82, 3) := by decide +kernel
theorem dX7_puts_47 : decode cX7_puts 47 = .ok (.ireturn, 1) := by decide +kernel
set_option maxRecDepth 20000 in
theorem ggX7_stateOf_X7_isFit : GoodIn wsX7_stateOf wsX7_isFit := goodIn_r _ [6, 1, 7, 8, 9, 10, 11, 12, 13, 14, 15, 16, 17, 18, 19, 20, 21, 22, 23, 24, 25, 26, 27] (by decide +kernel) (by decide +kernel)
set_option maxRecDepth 20000 in
theorem gX7_stateOf_X7_isFit : GoodIn wsX7_stateOf (wsV RX7 59 RX7 yX7_isFit wsX7_isFit) := goodIn_app (goodIn_of _ (by decide +kernel)) ggX7_stateOf_X7_isFit
theorem dX7_stateOf_0 : decode cX7_stateOf 0 = .ok (.iload_n 1, 1) := by decide +kernel
theorem dX7_stateOf_1 : decode cX7_stateOf 1 = .ok (.bipush 8, 2) := by decide +kernel
theorem dX7_stateOf_3 : decode cX7_stateOf 3 = .ok (.if_icmp .ge 13, 3) := by decide +kernel
theorem dX7_stateOf_6 : decode cX7_stateOf 6 = .ok (.aload_n 0, 1) := by decide +kernel
theorem dX7_stateOf_7 : decode cX7_stateOf 7 = .ok (.getfield 7, 3) := by decide +kernel
theorem dX7_stateOf_10 : decode cX7_stateOf 10 = .ok (.bipush 43, 2) := by decide +kernel
theorem dX7_stateOf_12 : decode cX7_stateOf 12 = .ok (.iload_n 1, 1) := by decide +kernel
theorem dX7_stateOf_13 : decode cX7_stateOf 13 = .ok (.iadd, 1) := by decide +kernel
theorem dX7_stateOf_14 : decode cX7_stateOf 14 = .ok (.iaload, 1) := by decide +kernel
theorem dX7_stateOf_15 : decode cX7_stateOf 15 = .ok (.ireturn, 1) := by decide +kernel
theorem dX7_stateOf_16 : decode cX7_stateOf 16 = .ok (.iload_n 1, 1) := by decide +kernel
theorem dX7_stateOf_17 : decode cX7_stateOf 17 = .ok (.bipush 12, 2) := by decide +kernel
theorem dX7_stateOf_19 : decode cX7_stateOf 19 = .ok (.if_icmp .ge 28, 3) := by decide +kernel
theorem dX7_stateOf_22 : decode cX7_stateOf 22 = .ok (.aload_n 0, 1) := by decide +kernel
theorem dX7_stateOf_23 : decode cX7_stateOf 23 = .ok (.getfield 7, 3) := by decide +kernel
theorem dX7_stateOf_26 : decode cX7_stateOf 26 = .ok (.bipush 39, 2) := by decide +kernel
theorem dX7_stateOf_28 : decode cX7_stateOf 28 = .ok (.iload_n 1, 1) := by decide +kernel
theorem dX7_stateOf_29 : decode cX7_stateOf 29 = .ok (.iadd, 1) := by decide +kernel
theorem dX7_stateOf_30 : decode cX7_stateOf 30 = .ok (.bipush 8, 2) := by decide +kernel
theorem dX7_stateOf_32 : decode cX7_stateOf 32 = .ok (.isub, 1) := by decide +kernel
theorem dX7_stateOf_33 : decode cX7_stateOf 33 = .ok (.iaload, 1) := by decide +kernel
theorem dX7_stateOf_34 : decode cX7_stateOf 34 = .ok (.iload_n 1, 1) := by decide +kernel
theorem dX7_stateOf_35 : decode cX7_stateOf 35 = .ok (.bipush 8, 2) := by decide +kernel
theorem dX7_stateOf_37 : decode cX7_stateOf 37 = .ok (.if_icmp .ne 7, 3) := by decide +kernel
theorem dX7_stateOf_40 : decode cX7_stateOf 40 = .ok (.iconst 3, 1) := by decide +kernel
theorem dX7_stateOf_41 : decode cX7_stateOf 41 = .ok (.goto 4, 3) := by decide +kernel
theorem dX7_stateOf_44 : decode cX7_stateOf 44 = .ok (.iconst 0, 1) := by decide +kernel
theorem dX7_stateOf_45 : decode cX7_stateOf 45 = .ok (.iadd, 1) := by decide +kernel
theorem dX7_stateOf_46 : decode cX7_stateOf 46 = .ok (.ireturn, 1) := by decide +kernel
theorem dX7_stateOf_47 : decode cX7_stateOf 47 = .ok (.iconst 0, 1) := by decide +kernel
theorem dX7_stateOf_48 : decode cX7_stateOf 48 = .ok (.istore_n 2, 1) := by decide +kernel
theorem dX7_stateOf_49 : decode cX7_stateOf 49 = .ok (.iconst 1, 1) := by decide +kernel
theorem dX7_stateOf_50 : decode cX7_stateOf 50 = .ok (.istore_n 3, 1) := by decide +kernel
theorem dX7_stateOf_51 : decode cX7_stateOf 51 = .ok (.iload_n 3, 1) := by decide +kernel
theorem dX7_stateOf_52 : decode cX7_stateOf 52 = .ok (.bipush 7, 2) := by decide +kernel
theorem dX7_stateOf_54 : decode cX7_stateOf 54 = .ok (.if_icmp .gt 27, 3) := by decide +kernel
theorem dX7_stateOf_57 : decode cX7_stateOf 57 = .ok (.iload_n 2, 1) := by decide +kernel
theorem dX7_stateOf_58 : decode cX7_stateOf 58 = .ok (.aload_n 0, 1) := by decide +kernel
theorem dX7_stateOf_59 : decode cX7_stateOf 59 = .ok (.iload_n 3, 1) := by decide +kernel
theorem dX7_stateOf_60 : decode cX7_stateOf 60 = .ok (.invokevirtual 59, 3) := by decide +kernel
theorem dX7_stateOf_63 : decode cX7_stateOf 63 = .ok (.ifCond .eq 9, 3) := by decide +kernel
theorem dX7_stateOf_66 : decode cX7_stateOf 66 = .ok (.iconst 1, 1) := by decide +kernel
theorem dX7_stateOf_67 : decode cX7_stateOf 67 = .ok (.iload_n 3, 1) := by decide +kernel
theorem dX7_stateOf_68 : decode cX7_stateOf 68 = .ok (.ishl, 1) := by decide +kernel
theorem dX7_stateOf_69 : decode cX7_stateOf 69 = .ok (.goto 4, 3) := by decide +kernel
theorem dX7_stateOf_72 : decode cX7_stateOf 72 = .ok (.iconst 0, 1) := by decide +kernel
theorem dX7_stateOf_73 : decode cX7_stateOf 73 = .ok (.ior, 1) := by decide +kernel
theorem dX7_stateOf_74 : decode cX7_stateOf 74 = .ok (.istore_n 2, 1) := by decide +kernel
theorem dX7_stateOf_75 : decode cX7_stateOf 75 = .ok (.iinc 3 1, 3) := by decide +kernel
theorem dX7_stateOf_78 : decode cX7_stateOf 78 = .ok (.goto (-27), 3) := by decide +kernel
theorem dX7_stateOf_81 : decode cX7_stateOf 81 = .ok (.iload_n 2, 1) := by decide +kernel
theorem dX7_stateOf_82 : decode cX7_stateOf 82 = .ok (.ireturn, 1) := by decide +kernel
set_option maxRecDepth 20000 in
theorem ggX7_state_X7_in : GoodIn wsX7_state wsX7_in := goodIn_r _ [4] (by decide +kernel) (by decide +kernel)
set_option maxRecDepth 20000 in
theorem gX7_state_X7_in : GoodIn wsX7_state (va_wsS RX7 55 yX7_in wsX7_in) := goodIn_app (goodIn_of _ (by decide +kernel)) ggX7_state_X7_in
set_option maxRecDepth 20000 in
theorem ggX7_state_X7_stateOf : GoodIn wsX7_state wsX7_stateOf := goodIn_r _ [8, 9, 10, 11, 12, 3, 13, 19, 20, 21, 22, 23, 24, 25, 26, 27, 28, 29, 30, 31, 32, 33, 34, 35, 36, 37, 38, 39] (by decide +kernel) (by decide +kernel)
set_option maxRecDepth 20000 in
theorem gX7_state_X7_stateOf : GoodIn wsX7_state (wsV RX7 160 RX7 yX7_stateOf wsX7_stateOf) := goodIn_app (goodIn_of _ (by decide +kernel)) ggX7_state_X7_stateOf
set_option maxRecDepth 20000 in
theorem ggX7_state_X7_refuse : GoodIn wsX7_state wsX7_refuse := goodIn_r _ [17, 18, 19, 20, 21, 22, 23, 24, 25, 26, 27, 28, 29, 30, 31, 32, 33, 34, 35, 36, 37, 38, 39] (by decide +kernel) (by decide +kernel)
set_option maxRecDepth 20000 in
theorem gX7_state_X7_refuse : GoodIn wsX7_state (wsV RX7 48 RX7 yX7_refuse wsX7_refuse) := goodIn_app (goodIn_of _ (by decide +kernel)) ggX7_state_X7_refuse
theorem dX7_state_0 : decode cX7_state 0 = .ok (.iload_n 1, 1) := by decide +kernel
theorem dX7_state_1 : decode cX7_state 1 = .ok (.iconst 0, 1) := by decide +kernel
theorem dX7_state_2 : decode cX7_state 2 = .ok (.bipush 12, 2) := by decide +kernel
theorem dX7_state_4 : decode cX7_state 4 = .ok (.invokestatic 55, 3) := by decide +kernel
theorem dX7_state_7 : decode cX7_state 7 = .ok (.ifCond .eq 11, 3) := by decide +kernel
theorem dX7_state_10 : decode cX7_state 10 = .ok (.aload_n 0, 1) := by decide +kernel
theorem dX7_state_11 : decode cX7_state 11 = .ok (.iload_n 1, 1) := by decide +kernel
theorem dX7_state_12 : decode cX7_state 12 = .ok (.invokevirtual 160, 3) := by decide +kernel
theorem dX7_state_15 : decode cX7_state 15 = .ok (.goto 9, 3) := by decide +kernel
theorem dX7_state_18 : decode cX7_state 18 = .ok (.aload_n 0, 1) := by decide +kernel
theorem dX7_state_19 : decode cX7_state 19 = .ok (.bipush (-2), 2) := by decide +kernel
theorem dX7_state_21 : decode cX7_state 21 = .ok (.invokevirtual 48, 3) := by decide +kernel
theorem dX7_state_24 : decode cX7_state 24 = .ok (.ireturn, 1) := by decide +kernel
set_option maxRecDepth 20000 in
theorem ggX7_type_X7_in : GoodIn wsX7_type wsX7_in := goodIn_r _ [6] (by decide +kernel) (by decide +kernel)
set_option maxRecDepth 20000 in
theorem gX7_type_X7_in : GoodIn wsX7_type (va_wsS RX7 55 yX7_in wsX7_in) := goodIn_app (goodIn_of _ (by decide +kernel)) ggX7_type_X7_in
set_option maxRecDepth 20000 in
theorem ggX7_type_X7_refuse : GoodIn wsX7_type wsX7_refuse := goodIn_r _ [10, 11, 12, 13, 14, 15, 16, 17, 18, 19, 20, 21, 22, 23, 24, 25, 26, 27, 28, 29, 30, 31, 32] (by decide +kernel) (by decide +kernel)
set_option maxRecDepth 20000 in
theorem gX7_type_X7_refuse : GoodIn wsX7_type (wsV RX7 48 RX7 yX7_refuse wsX7_refuse) := goodIn_app (goodIn_of _ (by decide +kernel)) ggX7_type_X7_refuse
theorem dX7_type_0 : decode cX7_type 0 = .ok (.iload_n 1, 1) := by decide +kernel
theorem dX7_type_1 : decode cX7_type 1 = .ok (.iconst 0, 1) := by decide +kernel
theorem dX7_type_2 : decode cX7_type 2 = .ok (.bipush 127, 2) := by decide +kernel
theorem dX7_type_4 : decode cX7_type 4 = .ok (.invokestatic 55, 3) := by decide +kernel
theorem dX7_type_7 : decode cX7_type 7 = .ok (.ifCond .ne 10, 3) := by decide +kernel
theorem dX7_type_10 : decode cX7_type 10 = .ok (.aload_n 0, 1) := by decide +kernel
theorem dX7_type_11 : decode cX7_type 11 = .ok (.bipush (-2), 2) := by decide +kernel
theorem dX7_type_13 : decode cX7_type 13 = .ok (.invokevirtual 48, 3) := by decide +kernel
theorem dX7_type_16 : decode cX7_type 16 = .ok (.ireturn, 1) := by decide +kernel
theorem dX7_type_17 : decode cX7_type 17 = .ok (.aload_n 0, 1) := by decide +kernel
theorem dX7_type_18 : decode cX7_type 18 = .ok (.getfield 163, 3) := by decide +kernel
theorem dX7_type_21 : decode cX7_type 21 = .ok (.sipush 150, 3) := by decide +kernel
theorem dX7_type_24 : decode cX7_type 24 = .ok (.if_icmp .ne 10, 3) := by decide +kernel
theorem dX7_type_27 : decode cX7_type 27 = .ok (.aload_n 0, 1) := by decide +kernel
theorem dX7_type_28 : decode cX7_type 28 = .ok (.bipush (-4), 2) := by decide +kernel
theorem dX7_type_30 : decode cX7_type 30 = .ok (.invokevirtual 48, 3) := by decide +kernel
theorem dX7_type_33 : decode cX7_type 33 = .ok (.ireturn, 1) := by decide +kernel
theorem dX7_type_34 : decode cX7_type 34 = .ok (.aload_n 0, 1) := by decide +kernel
theorem dX7_type_35 : decode cX7_type 35 = .ok (.getfield 26, 3) := by decide +kernel
theorem dX7_type_38 : decode cX7_type 38 = .ok (.aload_n 0, 1) := by decide +kernel
theorem dX7_type_39 : decode cX7_type 39 = .ok (.getfield 163, 3) := by decide +kernel
theorem dX7_type_42 : decode cX7_type 42 = .ok (.iload_n 1, 1) := by decide +kernel
theorem dX7_type_43 : decode cX7_type 43 = .ok (.iastore, 1) := by decide +kernel
theorem dX7_type_44 : decode cX7_type 44 = .ok (.aload_n 0, 1) := by decide +kernel
theorem dX7_type_45 : decode cX7_type 45 = .ok (.dup, 1) := by decide +kernel
theorem dX7_type_46 : decode cX7_type 46 = .ok (.getfield 163, 3) := by decide +kernel
theorem dX7_type_49 : decode cX7_type 49 = .ok (.iconst 1, 1) := by decide +kernel
theorem dX7_type_50 : decode cX7_type 50 = .ok (.iadd, 1) := by decide +kernel
theorem dX7_type_51 : decode cX7_type 51 = .ok (.putfield 163, 3) := by decide +kernel
theorem dX7_type_54 : decode cX7_type 54 = .ok (.aload_n 0, 1) := by decide +kernel
theorem dX7_type_55 : decode cX7_type 55 = .ok (.getfield 163, 3) := by decide +kernel
theorem dX7_type_58 : decode cX7_type 58 = .ok (.ireturn, 1) := by decide +kernel
theorem dX7_clear_0 : decode cX7_clear 0 = .ok (.aload_n 0, 1) := by decide +kernel
theorem dX7_clear_1 : decode cX7_clear 1 = .ok (.getfield 163, 3) := by decide +kernel
theorem dX7_clear_4 : decode cX7_clear 4 = .ok (.istore_n 1, 1) := by decide +kernel
theorem dX7_clear_5 : decode cX7_clear 5 = .ok (.aload_n 0, 1) := by decide +kernel
theorem dX7_clear_6 : decode cX7_clear 6 = .ok (.iconst 0, 1) := by decide +kernel
theorem dX7_clear_7 : decode cX7_clear 7 = .ok (.putfield 163, 3) := by decide +kernel
theorem dX7_clear_10 : decode cX7_clear 10 = .ok (.iload_n 1, 1) := by decide +kernel
theorem dX7_clear_11 : decode cX7_clear 11 = .ok (.ireturn, 1) := by decide +kernel
theorem dX7_wantsOf_0 : decode cX7_wantsOf 0 = .ok (.iload_n 0, 1) := by decide +kernel
theorem dX7_wantsOf_1 : decode cX7_wantsOf 1 = .ok (.tableswitch 95 100 118 #[93, 95, 93, 93, 95, 95, 95, 95, 95, 95, 95, 95, 95, 95, 91, 91, 93, 93, 93], 91) := by decide +kernel
theorem dX7_wantsOf_92 : decode cX7_wantsOf 92 = .ok (.iconst 1, 1) := by decide +kernel
theorem dX7_wantsOf_93 : decode cX7_wantsOf 93 = .ok (.ireturn, 1) := by decide +kernel
theorem dX7_wantsOf_94 : decode cX7_wantsOf 94 = .ok (.iconst 2, 1) := by decide +kernel
theorem dX7_wantsOf_95 : decode cX7_wantsOf 95 = .ok (.ireturn, 1) := by decide +kernel
theorem dX7_wantsOf_96 : decode cX7_wantsOf 96 = .ok (.iconst (-1), 1) := by decide +kernel
theorem dX7_wantsOf_97 : decode cX7_wantsOf 97 = .ok (.ireturn, 1) := by decide +kernel
set_option maxRecDepth 20000 in
theorem ggX7_beginNumber_X7_wantsOf : GoodIn wsX7_beginNumber wsX7_wantsOf := goodIn_r _ [11] (by decide +kernel) (by decide +kernel)
set_option maxRecDepth 20000 in
theorem gX7_beginNumber_X7_wantsOf : GoodIn wsX7_beginNumber (va_wsS RX7 172 yX7_wantsOf wsX7_wantsOf) := goodIn_app (goodIn_of _ (by decide +kernel)) ggX7_beginNumber_X7_wantsOf
theorem dX7_beginNumber_0 : decode cX7_beginNumber 0 = .ok (.aload_n 0, 1) := by decide +kernel
theorem dX7_beginNumber_1 : decode cX7_beginNumber 1 = .ok (.getfield 166, 3) := by decide +kernel
theorem dX7_beginNumber_4 : decode cX7_beginNumber 4 = .ok (.aload_n 0, 1) := by decide +kernel
theorem dX7_beginNumber_5 : decode cX7_beginNumber 5 = .ok (.getfield 169, 3) := by decide +kernel
theorem dX7_beginNumber_8 : decode cX7_beginNumber 8 = .ok (.invokestatic 172, 3) := by decide +kernel
theorem dX7_beginNumber_11 : decode cX7_beginNumber 11 = .ok (.if_icmp .eq 16, 3) := by decide +kernel
theorem dX7_beginNumber_14 : decode cX7_beginNumber 14 = .ok (.iload_n 1, 1) := by decide +kernel
theorem dX7_beginNumber_15 : decode cX7_beginNumber 15 = .ok (.ifCond .eq 14, 3) := by decide +kernel
theorem dX7_beginNumber_18 : decode cX7_beginNumber 18 = .ok (.aload_n 0, 1) := by decide +kernel
theorem dX7_beginNumber_19 : decode cX7_beginNumber 19 = .ok (.getfield 169, 3) := by decide +kernel
theorem dX7_beginNumber_22 : decode cX7_beginNumber 22 = .ok (.bipush 115, 2) := by decide +kernel
theorem dX7_beginNumber_24 : decode cX7_beginNumber 24 = .ok (.if_icmp .eq 5, 3) := by decide +kernel
theorem dX7_beginNumber_27 : decode cX7_beginNumber 27 = .ok (.iconst 0, 1) := by decide +kernel
theorem dX7_beginNumber_28 : decode cX7_beginNumber 28 = .ok (.ireturn, 1) := by decide +kernel
theorem dX7_beginNumber_29 : decode cX7_beginNumber 29 = .ok (.aload_n 0, 1) := by decide +kernel
theorem dX7_beginNumber_30 : decode cX7_beginNumber 30 = .ok (.getfield 35, 3) := by decide +kernel
theorem dX7_beginNumber_33 : decode cX7_beginNumber 33 = .ok (.aload_n 0, 1) := by decide +kernel
theorem dX7_beginNumber_34 : decode cX7_beginNumber 34 = .ok (.getfield 32, 3) := by decide +kernel
theorem dX7_beginNumber_37 : decode cX7_beginNumber 37 = .ok (.aload_n 0, 1) := by decide +kernel
theorem dX7_beginNumber_38 : decode cX7_beginNumber 38 = .ok (.getfield 175, 3) := by decide +kernel
theorem dX7_beginNumber_41 : decode cX7_beginNumber 41 = .ok (.iaload, 1) := by decide +kernel
theorem dX7_beginNumber_42 : decode cX7_beginNumber 42 = .ok (.aload_n 0, 1) := by decide +kernel
theorem dX7_beginNumber_43 : decode cX7_beginNumber 43 = .ok (.getfield 166, 3) := by decide +kernel
theorem dX7_beginNumber_46 : decode cX7_beginNumber 46 = .ok (.iadd, 1) := by decide +kernel
theorem dX7_beginNumber_47 : decode cX7_beginNumber 47 = .ok (.iconst 0, 1) := by decide +kernel
theorem dX7_beginNumber_48 : decode cX7_beginNumber 48 = .ok (.iastore, 1) := by decide +kernel
theorem dX7_beginNumber_49 : decode cX7_beginNumber 49 = .ok (.aload_n 0, 1) := by decide +kernel
theorem dX7_beginNumber_50 : decode cX7_beginNumber 50 = .ok (.dup, 1) := by decide +kernel
theorem dX7_beginNumber_51 : decode cX7_beginNumber 51 = .ok (.getfield 166, 3) := by decide +kernel
theorem dX7_beginNumber_54 : decode cX7_beginNumber 54 = .ok (.iconst 1, 1) := by decide +kernel
theorem dX7_beginNumber_55 : decode cX7_beginNumber 55 = .ok (.iadd, 1) := by decide +kernel
theorem dX7_beginNumber_56 : decode cX7_beginNumber 56 = .ok (.putfield 166, 3) := by decide +kernel
theorem dX7_beginNumber_59 : decode cX7_beginNumber 59 = .ok (.aload_n 0, 1) := by decide +kernel
theorem dX7_beginNumber_60 : decode cX7_beginNumber 60 = .ok (.iconst 0, 1) := by decide +kernel
theorem dX7_beginNumber_61 : decode cX7_beginNumber 61 = .ok (.putfield 178, 3) := by decide +kernel
theorem dX7_beginNumber_64 : decode cX7_beginNumber 64 = .ok (.aload_n 0, 1) := by decide +kernel
theorem dX7_beginNumber_65 : decode cX7_beginNumber 65 = .ok (.iload_n 1, 1) := by decide +kernel
theorem dX7_beginNumber_66 : decode cX7_beginNumber 66 = .ok (.putfield 181, 3) := by decide +kernel
theorem dX7_beginNumber_69 : decode cX7_beginNumber 69 = .ok (.iconst 1, 1) := by decide +kernel
theorem dX7_beginNumber_70 : decode cX7_beginNumber 70 = .ok (.ireturn, 1) := by decide +kernel
set_option maxRecDepth 20000 in
theorem ggX7_readByte_X7_wantsOf : GoodIn wsX7_readByte wsX7_wantsOf := goodIn_r _ [13] (by decide +kernel) (by decide +kernel)
set_option maxRecDepth 20000 in
theorem gX7_readByte_X7_wantsOf : GoodIn wsX7_readByte (va_wsS RX7 172 yX7_wantsOf wsX7_wantsOf) := goodIn_app (goodIn_of _ (by decide +kernel)) ggX7_readByte_X7_wantsOf
set_option maxRecDepth 20000 in
theorem ggX7_readByte_X7_in : GoodIn wsX7_readByte wsX7_in := goodIn_r _ [16] (by decide +kernel) (by decide +kernel)
set_option maxRecDepth 20000 in
theorem gX7_readByte_X7_in : GoodIn wsX7_readByte (va_wsS RX7 55 yX7_in wsX7_in) := goodIn_app (goodIn_of _ (by decide +kernel)) ggX7_readByte_X7_in
set_option maxRecDepth 20000 in
theorem ggX7_readByte_X7_beginNumber : GoodIn wsX7_readByte wsX7_beginNumber := goodIn_r _ [20, 2, 1, 8, 7, 5, 3, 9, 10, 11, 12, 13, 21, 22, 23, 24, 25, 26, 27, 28, 29, 30, 31, 32, 33, 34, 35, 36, 37, 38, 39, 40, 41] (by decide +kernel) (by decide +kernel)
set_option maxRecDepth 20000 in
theorem gX7_readByte_X7_beginNumber : GoodIn wsX7_readByte (wsV RX7 188 RX7 yX7_beginNumber wsX7_beginNumber) := goodIn_app (goodIn_of _ (by decide +kernel)) ggX7_readByte_X7_beginNumber
theorem dX7_readByte_0 : decode cX7_readByte 0 = .ok (.aload_n 0, 1) := by decide +kernel
theorem dX7_readByte_1 : decode cX7_readByte 1 = .ok (.getfield 169, 3) := by decide +kernel
theorem dX7_readByte_4 : decode cX7_readByte 4 = .ok (.ifCond .ne 58, 3) := by decide +kernel
theorem dX7_readByte_7 : decode cX7_readByte 7 = .ok (.aload_n 0, 1) := by decide +kernel
theorem dX7_readByte_8 : decode cX7_readByte 8 = .ok (.iload_n 1, 1) := by decide +kernel
theorem dX7_readByte_9 : decode cX7_readByte 9 = .ok (.bipush 32, 2) := by decide +kernel
theorem dX7_readByte_11 : decode cX7_readByte 11 = .ok (.if_icmp .ne 7, 3) := by decide +kernel
theorem dX7_readByte_14 : decode cX7_readByte 14 = .ok (.iconst 0, 1) := by decide +kernel
theorem dX7_readByte_15 : decode cX7_readByte 15 = .ok (.goto 4, 3) := by decide +kernel
theorem dX7_readByte_18 : decode cX7_readByte 18 = .ok (.iload_n 1, 1) := by decide +kernel
theorem dX7_readByte_19 : decode cX7_readByte 19 = .ok (.putfield 169, 3) := by decide +kernel
theorem dX7_readByte_22 : decode cX7_readByte 22 = .ok (.aload_n 0, 1) := by decide +kernel
theorem dX7_readByte_23 : decode cX7_readByte 23 = .ok (.iconst 0, 1) := by decide +kernel
theorem dX7_readByte_24 : decode cX7_readByte 24 = .ok (.putfield 166, 3) := by decide +kernel
theorem dX7_readByte_27 : decode cX7_readByte 27 = .ok (.aload_n 0, 1) := by decide +kernel
theorem dX7_readByte_28 : decode cX7_readByte 28 = .ok (.iconst 0, 1) := by decide +kernel
theorem dX7_readByte_29 : decode cX7_readByte 29 = .ok (.putfield 178, 3) := by decide +kernel
theorem dX7_readByte_32 : decode cX7_readByte 32 = .ok (.aload_n 0, 1) := by decide +kernel
theorem dX7_readByte_33 : decode cX7_readByte 33 = .ok (.getfield 29, 3) := by decide +kernel
theorem dX7_readByte_36 : decode cX7_readByte 36 = .ok (.aload_n 0, 1) := by decide +kernel
theorem dX7_readByte_37 : decode cX7_readByte 37 = .ok (.getfield 175, 3) := by decide +kernel
theorem dX7_readByte_40 : decode cX7_readByte 40 = .ok (.iload_n 1, 1) := by decide +kernel
theorem dX7_readByte_41 : decode cX7_readByte 41 = .ok (.iastore, 1) := by decide +kernel
theorem dX7_readByte_42 : decode cX7_readByte 42 = .ok (.iload_n 1, 1) := by decide +kernel
theorem dX7_readByte_43 : decode cX7_readByte 43 = .ok (.bipush 32, 2) := by decide +kernel
theorem dX7_readByte_45 : decode cX7_readByte 45 = .ok (.if_icmp .eq 11, 3) := by decide +kernel
theorem dX7_readByte_48 : decode cX7_readByte 48 = .ok (.iload_n 1, 1) := by decide +kernel
theorem dX7_readByte_49 : decode cX7_readByte 49 = .ok (.invokestatic 172, 3) := by decide +kernel
theorem dX7_readByte_52 : decode cX7_readByte 52 = .ok (.iconst (-1), 1) := by decide +kernel
theorem dX7_readByte_53 : decode cX7_readByte 53 = .ok (.if_icmp .eq 7, 3) := by decide +kernel
theorem dX7_readByte_56 : decode cX7_readByte 56 = .ok (.iconst 1, 1) := by decide +kernel
theorem dX7_readByte_57 : decode cX7_readByte 57 = .ok (.goto 4, 3) := by decide +kernel
theorem dX7_readByte_60 : decode cX7_readByte 60 = .ok (.iconst 0, 1) := by decide +kernel
theorem dX7_readByte_61 : decode cX7_readByte 61 = .ok (.ireturn, 1) := by decide +kernel
theorem dX7_readByte_62 : decode cX7_readByte 62 = .ok (.iload_n 1, 1) := by decide +kernel
theorem dX7_readByte_63 : decode cX7_readByte 63 = .ok (.bipush 48, 2) := by decide +kernel
theorem dX7_readByte_65 : decode cX7_readByte 65 = .ok (.bipush 57, 2) := by decide +kernel
theorem dX7_readByte_67 : decode cX7_readByte 67 = .ok (.invokestatic 55, 3) := by decide +kernel
theorem dX7_readByte_70 : decode cX7_readByte 70 = .ok (.ifCond .eq 116, 3) := by decide +kernel
theorem dX7_readByte_73 : decode cX7_readByte 73 = .ok (.aload_n 0, 1) := by decide +kernel
theorem dX7_readByte_74 : decode cX7_readByte 74 = .ok (.getfield 185, 3) := by decide +kernel
theorem dX7_readByte_77 : decode cX7_readByte 77 = .ok (.ifCond .ne 29, 3) := by decide +kernel
theorem dX7_readByte_80 : decode cX7_readByte 80 = .ok (.aload_n 0, 1) := by decide +kernel
theorem dX7_readByte_81 : decode cX7_readByte 81 = .ok (.getfield 178, 3) := by decide +kernel
theorem dX7_readByte_84 : decode cX7_readByte 84 = .ok (.ifCond .le 14, 3) := by decide +kernel
theorem dX7_readByte_87 : decode cX7_readByte 87 = .ok (.aload_n 0, 1) := by decide +kernel
theorem dX7_readByte_88 : decode cX7_readByte 88 = .ok (.getfield 178, 3) := by decide +kernel
theorem dX7_readByte_91 : decode cX7_readByte 91 = .ok (.iconst 3, 1) := by decide +kernel
theorem dX7_readByte_92 : decode cX7_readByte 92 = .ok (.if_icmp .ge 18, 3) := by decide +kernel
theorem dX7_readByte_95 : decode cX7_readByte 95 = .ok (.goto 11, 3) := by decide +kernel
theorem dX7_readByte_98 : decode cX7_readByte 98 = .ok (.aload_n 0, 1) := by decide +kernel
theorem dX7_readByte_99 : decode cX7_readByte 99 = .ok (.iconst 0, 1) := by decide +kernel
theorem dX7_readByte_100 : decode cX7_readByte 100 = .ok (.invokevirtual 188, 3) := by decide +kernel
theorem dX7_readByte_103 : decode cX7_readByte 103 = .ok (.ifCond .eq 7, 3) := by decide +kernel
theorem dX7_readByte_106 : decode cX7_readByte 106 = .ok (.iconst 1, 1) := by decide +kernel
theorem dX7_readByte_107 : decode cX7_readByte 107 = .ok (.goto 4, 3) := by decide +kernel
theorem dX7_readByte_110 : decode cX7_readByte 110 = .ok (.iconst 0, 1) := by decide +kernel
theorem dX7_readByte_111 : decode cX7_readByte 111 = .ok (.istore_n 2, 1) := by decide +kernel
theorem dX7_readByte_112 : decode cX7_readByte 112 = .ok (.iload_n 2, 1) := by decide +kernel
theorem dX7_readByte_113 : decode cX7_readByte 113 = .ok (.ifCond .ne 5, 3) := by decide +kernel
theorem dX7_readByte_116 : decode cX7_readByte 116 = .ok (.iconst 0, 1) := by decide +kernel
theorem dX7_readByte_117 : decode cX7_readByte 117 = .ok (.ireturn, 1) := by decide +kernel
theorem dX7_readByte_118 : decode cX7_readByte 118 = .ok (.aload_n 0, 1) := by decide +kernel
theorem dX7_readByte_119 : decode cX7_readByte 119 = .ok (.iconst 0, 1) := by decide +kernel
theorem dX7_readByte_120 : decode cX7_readByte 120 = .ok (.putfield 185, 3) := by decide +kernel
theorem dX7_readByte_123 : decode cX7_readByte 123 = .ok (.aload_n 0, 1) := by decide +kernel
theorem dX7_readByte_124 : decode cX7_readByte 124 = .ok (.getfield 32, 3) := by decide +kernel
theorem dX7_readByte_127 : decode cX7_readByte 127 = .ok (.aload_n 0, 1) := by decide +kernel
theorem dX7_readByte_128 : decode cX7_readByte 128 = .ok (.getfield 175, 3) := by decide +kernel
theorem dX7_readByte_131 : decode cX7_readByte 131 = .ok (.iaload, 1) := by decide +kernel
theorem dX7_readByte_132 : decode cX7_readByte 132 = .ok (.aload_n 0, 1) := by decide +kernel
theorem dX7_readByte_133 : decode cX7_readByte 133 = .ok (.getfield 166, 3) := by decide +kernel
theorem dX7_readByte_136 : decode cX7_readByte 136 = .ok (.iadd, 1) := by decide +kernel
theorem dX7_readByte_137 : decode cX7_readByte 137 = .ok (.iconst 1, 1) := by decide +kernel
theorem dX7_readByte_138 : decode cX7_readByte 138 = .ok (.isub, 1) := by decide +kernel
theorem dX7_readByte_139 : decode cX7_readByte 139 = .ok (.istore_n 3, 1) := by decide +kernel
theorem dX7_readByte_140 : decode cX7_readByte 140 = .ok (.aload_n 0, 1) := by decide +kernel
theorem dX7_readByte_141 : decode cX7_readByte 141 = .ok (.getfield 35, 3) := by decide +kernel
theorem dX7_readByte_144 : decode cX7_readByte 144 = .ok (.iload_n 3, 1) := by decide +kernel
theorem dX7_readByte_145 : decode cX7_readByte 145 = .ok (.bipush 10, 2) := by decide +kernel
theorem dX7_readByte_147 : decode cX7_readByte 147 = .ok (.aload_n 0, 1) := by decide +kernel
theorem dX7_readByte_148 : decode cX7_readByte 148 = .ok (.getfield 35, 3) := by decide +kernel
theorem dX7_readByte_151 : decode cX7_readByte 151 = .ok (.iload_n 3, 1) := by decide +kernel
theorem dX7_readByte_152 : decode cX7_readByte 152 = .ok (.iaload, 1) := by decide +kernel
theorem dX7_readByte_153 : decode cX7_readByte 153 = .ok (.imul, 1) := by decide +kernel
theorem dX7_readByte_154 : decode cX7_readByte 154 = .ok (.aload_n 0, 1) := by decide +kernel
theorem dX7_readByte_155 : decode cX7_readByte 155 = .ok (.getfield 181, 3) := by decide +kernel
theorem dX7_readByte_158 : decode cX7_readByte 158 = .ok (.ifCond .eq 10, 3) := by decide +kernel
theorem dX7_readByte_161 : decode cX7_readByte 161 = .ok (.bipush 48, 2) := by decide +kernel
theorem dX7_readByte_163 : decode cX7_readByte 163 = .ok (.iload_n 1, 1) := by decide +kernel
theorem dX7_readByte_164 : decode cX7_readByte 164 = .ok (.isub, 1) := by decide +kernel
theorem dX7_readByte_165 : decode cX7_readByte 165 = .ok (.goto 7, 3) := by decide +kernel
theorem dX7_readByte_168 : decode cX7_readByte 168 = .ok (.iload_n 1, 1) := by decide +kernel
theorem dX7_readByte_169 : decode cX7_readByte 169 = .ok (.bipush 48, 2) := by decide +kernel
theorem dX7_readByte_171 : decode cX7_readByte 171 = .ok (.isub, 1) := by decide +kernel
theorem dX7_readByte_172 : decode cX7_readByte 172 = .ok (.iadd, 1) := by decide +kernel
theorem dX7_readByte_173 : decode cX7_readByte 173 = .ok (.iastore, 1) := by decide +kernel
theorem dX7_readByte_174 : decode cX7_readByte 174 = .ok (.aload_n 0, 1) := by decide +kernel
theorem dX7_readByte_175 : decode cX7_readByte 175 = .ok (.dup, 1) := by decide +kernel
theorem dX7_readByte_176 : decode cX7_readByte 176 = .ok (.getfield 178, 3) := by decide +kernel
theorem dX7_readByte_179 : decode cX7_readByte 179 = .ok (.iconst 1, 1) := by decide +kernel
theorem dX7_readByte_180 : decode cX7_readByte 180 = .ok (.iadd, 1) := by decide +kernel
theorem dX7_readByte_181 : decode cX7_readByte 181 = .ok (.putfield 178, 3) := by decide +kernel
theorem dX7_readByte_184 : decode cX7_readByte 184 = .ok (.iconst 1, 1) := by decide +kernel
theorem dX7_readByte_185 : decode cX7_readByte 185 = .ok (.ireturn, 1) := by decide +kernel
theorem dX7_readByte_186 : decode cX7_readByte 186 = .ok (.aload_n 0, 1) := by decide +kernel
theorem dX7_readByte_187 : decode cX7_readByte 187 = .ok (.getfield 185, 3) := by decide +kernel
theorem dX7_readByte_190 : decode cX7_readByte 190 = .ok (.ifCond .eq 5, 3) := by decide +kernel
theorem dX7_readByte_193 : decode cX7_readByte 193 = .ok (.iconst 0, 1) := by decide +kernel
theorem dX7_readByte_194 : decode cX7_readByte 194 = .ok (.ireturn, 1) := by decide +kernel
theorem dX7_readByte_195 : decode cX7_readByte 195 = .ok (.iload_n 1, 1) := by decide +kernel
theorem dX7_readByte_196 : decode cX7_readByte 196 = .ok (.bipush 32, 2) := by decide +kernel
theorem dX7_readByte_198 : decode cX7_readByte 198 = .ok (.if_icmp .ne 10, 3) := by decide +kernel
theorem dX7_readByte_201 : decode cX7_readByte 201 = .ok (.aload_n 0, 1) := by decide +kernel
theorem dX7_readByte_202 : decode cX7_readByte 202 = .ok (.iconst 0, 1) := by decide +kernel
theorem dX7_readByte_203 : decode cX7_readByte 203 = .ok (.putfield 178, 3) := by decide +kernel
theorem dX7_readByte_206 : decode cX7_readByte 206 = .ok (.iconst 1, 1) := by decide +kernel
theorem dX7_readByte_207 : decode cX7_readByte 207 = .ok (.ireturn, 1) := by decide +kernel
theorem dX7_readByte_208 : decode cX7_readByte 208 = .ok (.iload_n 1, 1) := by decide +kernel
theorem dX7_readByte_209 : decode cX7_readByte 209 = .ok (.bipush 45, 2) := by decide +kernel
theorem dX7_readByte_211 : decode cX7_readByte 211 = .ok (.if_icmp .ne 17, 3) := by decide +kernel
theorem dX7_readByte_214 : decode cX7_readByte 214 = .ok (.aload_n 0, 1) := by decide +kernel
theorem dX7_readByte_215 : decode cX7_readByte 215 = .ok (.aload_n 0, 1) := by decide +kernel
theorem dX7_readByte_216 : decode cX7_readByte 216 = .ok (.iconst 1, 1) := by decide +kernel
theorem dX7_readByte_217 : decode cX7_readByte 217 = .ok (.invokevirtual 188, 3) := by decide +kernel
theorem dX7_readByte_220 : decode cX7_readByte 220 = .ok (.putfield 185, 3) := by decide +kernel
theorem dX7_readByte_223 : decode cX7_readByte 223 = .ok (.aload_n 0, 1) := by decide +kernel
theorem dX7_readByte_224 : decode cX7_readByte 224 = .ok (.getfield 185, 3) := by decide +kernel
theorem dX7_readByte_227 : decode cX7_readByte 227 = .ok (.ireturn, 1) := by decide +kernel
theorem dX7_readByte_228 : decode cX7_readByte 228 = .ok (.iload_n 1, 1) := by decide +kernel
theorem dX7_readByte_229 : decode cX7_readByte 229 = .ok (.bipush 59, 2) := by decide +kernel
theorem dX7_readByte_231 : decode cX7_readByte 231 = .ok (.if_icmp .ne 17, 3) := by decide +kernel
theorem dX7_readByte_234 : decode cX7_readByte 234 = .ok (.aload_n 0, 1) := by decide +kernel
theorem dX7_readByte_235 : decode cX7_readByte 235 = .ok (.getfield 166, 3) := by decide +kernel
theorem dX7_readByte_238 : decode cX7_readByte 238 = .ok (.aload_n 0, 1) := by decide +kernel
theorem dX7_readByte_239 : decode cX7_readByte 239 = .ok (.getfield 169, 3) := by decide +kernel
theorem dX7_readByte_242 : decode cX7_readByte 242 = .ok (.invokestatic 172, 3) := by decide +kernel
theorem dX7_readByte_245 : decode cX7_readByte 245 = .ok (.if_icmp .ge 5, 3) := by decide +kernel
theorem dX7_readByte_248 : decode cX7_readByte 248 = .ok (.iconst 0, 1) := by decide +kernel
theorem dX7_readByte_249 : decode cX7_readByte 249 = .ok (.ireturn, 1) := by decide +kernel
theorem dX7_readByte_250 : decode cX7_readByte 250 = .ok (.aload_n 0, 1) := by decide +kernel
theorem dX7_readByte_251 : decode cX7_readByte 251 = .ok (.iconst 0, 1) := by decide +kernel
theorem dX7_readByte_252 : decode cX7_readByte 252 = .ok (.putfield 169, 3) := by decide +kernel
theorem dX7_readByte_255 : decode cX7_readByte 255 = .ok (.aload_n 0, 1) := by decide +kernel
theorem dX7_readByte_256 : decode cX7_readByte 256 = .ok (.getfield 32, 3) := by decide +kernel
theorem dX7_readByte_259 : decode cX7_readByte 259 = .ok (.aload_n 0, 1) := by decide +kernel
theorem dX7_readByte_260 : decode cX7_readByte 260 = .ok (.getfield 175, 3) := by decide +kernel
theorem dX7_readByte_263 : decode cX7_readByte 263 = .ok (.iconst 1, 1) := by decide +kernel
theorem dX7_readByte_264 : decode cX7_readByte 264 = .ok (.iadd, 1) := by decide +kernel
theorem dX7_readByte_265 : decode cX7_readByte 265 = .ok (.aload_n 0, 1) := by decide +kernel
theorem dX7_readByte_266 : decode cX7_readByte 266 = .ok (.getfield 32, 3) := by decide +kernel
theorem dX7_readByte_269 : decode cX7_readByte 269 = .ok (.aload_n 0, 1) := by decide +kernel
theorem dX7_readByte_270 : decode cX7_readByte 270 = .ok (.getfield 175, 3) := by decide +kernel
theorem dX7_readByte_273 : decode cX7_readByte 273 = .ok (.iaload, 1) := by decide +kernel
theorem dX7_readByte_274 : decode cX7_readByte 274 = .ok (.aload_n 0, 1) := by decide +kernel
theorem dX7_readByte_275 : decode cX7_readByte 275 = .ok (.getfield 166, 3) := by decide +kernel
theorem dX7_readByte_278 : decode cX7_readByte 278 = .ok (.iadd, 1) := by decide +kernel
theorem dX7_readByte_279 : decode cX7_readByte 279 = .ok (.iastore, 1) := by decide +kernel
theorem dX7_readByte_280 : decode cX7_readByte 280 = .ok (.aload_n 0, 1) := by decide +kernel
theorem dX7_readByte_281 : decode cX7_readByte 281 = .ok (.dup, 1) := by decide +kernel
theorem dX7_readByte_282 : decode cX7_readByte 282 = .ok (.getfield 175, 3) := by decide +kernel
theorem dX7_readByte_285 : decode cX7_readByte 285 = .ok (.iconst 1, 1) := by decide +kernel
theorem dX7_readByte_286 : decode cX7_readByte 286 = .ok (.iadd, 1) := by decide +kernel
theorem dX7_readByte_287 : decode cX7_readByte 287 = .ok (.putfield 175, 3) := by decide +kernel
theorem dX7_readByte_290 : decode cX7_readByte 290 = .ok (.iconst 1, 1) := by decide +kernel
theorem dX7_readByte_291 : decode cX7_readByte 291 = .ok (.ireturn, 1) := by decide +kernel
set_option maxRecDepth 20000 in
theorem ggX7_readText_X7_readByte : GoodIn wsX7_readText wsX7_readByte := goodIn_r _ [11, 3, 12, 13, 14, 1, 4, 2, 15, 16, 17, 18, 10, 19, 20, 21, 22, 23, 24, 25, 26, 27, 28, 29, 30, 31, 32, 33, 34, 35, 36, 37, 38, 39, 40, 41, 42, 43, 44, 45, 46, 47] (by decide +kernel) (by decide +kernel)
set_option maxRecDepth 20000 in
theorem gX7_readText_X7_readByte : GoodIn wsX7_readText (wsV RX7 192 RX7 yX7_readByte wsX7_readByte) := goodIn_app (goodIn_of _ (by decide +kernel)) ggX7_readText_X7_readByte
theorem dX7_readText_0 : decode cX7_readText 0 = .ok (.aload_n 0, 1) := by decide +kernel
theorem dX7_readText_1 : decode cX7_readText 1 = .ok (.iconst 0, 1) := by decide +kernel
theorem dX7_readText_2 : decode cX7_readText 2 = .ok (.putfield 175, 3) := by decide +kernel
theorem dX7_readText_5 : decode cX7_readText 5 = .ok (.aload_n 0, 1) := by decide +kernel
theorem dX7_readText_6 : decode cX7_readText 6 = .ok (.getfield 32, 3) := by decide +kernel
theorem dX7_readText_9 : decode cX7_readText 9 = .ok (.iconst 0, 1) := by decide +kernel
theorem dX7_readText_10 : decode cX7_readText 10 = .ok (.iconst 0, 1) := by decide +kernel
theorem dX7_readText_11 : decode cX7_readText 11 = .ok (.iastore, 1) := by decide +kernel
theorem dX7_readText_12 : decode cX7_readText 12 = .ok (.aload_n 0, 1) := by decide +kernel
theorem dX7_readText_13 : decode cX7_readText 13 = .ok (.iconst 0, 1) := by decide +kernel
theorem dX7_readText_14 : decode cX7_readText 14 = .ok (.putfield 169, 3) := by decide +kernel
theorem dX7_readText_17 : decode cX7_readText 17 = .ok (.aload_n 0, 1) := by decide +kernel
theorem dX7_readText_18 : decode cX7_readText 18 = .ok (.iconst 0, 1) := by decide +kernel
theorem dX7_readText_19 : decode cX7_readText 19 = .ok (.putfield 185, 3) := by decide +kernel
theorem dX7_readText_22 : decode cX7_readText 22 = .ok (.iconst 0, 1) := by decide +kernel
theorem dX7_readText_23 : decode cX7_readText 23 = .ok (.istore_n 1, 1) := by decide +kernel
theorem dX7_readText_24 : decode cX7_readText 24 = .ok (.iload_n 1, 1) := by decide +kernel
theorem dX7_readText_25 : decode cX7_readText 25 = .ok (.aload_n 0, 1) := by decide +kernel
theorem dX7_readText_26 : decode cX7_readText 26 = .ok (.getfield 163, 3) := by decide +kernel
theorem dX7_readText_29 : decode cX7_readText 29 = .ok (.if_icmp .ge 24, 3) := by decide +kernel
theorem dX7_readText_32 : decode cX7_readText 32 = .ok (.aload_n 0, 1) := by decide +kernel
theorem dX7_readText_33 : decode cX7_readText 33 = .ok (.aload_n 0, 1) := by decide +kernel
theorem dX7_readText_34 : decode cX7_readText 34 = .ok (.getfield 26, 3) := by decide +kernel
theorem dX7_readText_37 : decode cX7_readText 37 = .ok (.iload_n 1, 1) := by decide +kernel
theorem dX7_readText_38 : decode cX7_readText 38 = .ok (.iaload, 1) := by decide +kernel
theorem dX7_readText_39 : decode cX7_readText 39 = .ok (.invokevirtual 192, 3) := by decide +kernel
theorem dX7_readText_42 : decode cX7_readText 42 = .ok (.ifCond .ne 5, 3) := by decide +kernel
theorem dX7_readText_45 : decode cX7_readText 45 = .ok (.iload_n 1, 1) := by decide +kernel
theorem dX7_readText_46 : decode cX7_readText 46 = .ok (.ireturn, 1) := by decide +kernel
theorem dX7_readText_47 : decode cX7_readText 47 = .ok (.iinc 1 1, 3) := by decide +kernel
theorem dX7_readText_50 : decode cX7_readText 50 = .ok (.goto (-26), 3) := by decide +kernel
theorem dX7_readText_53 : decode cX7_readText 53 = .ok (.aload_n 0, 1) := by decide +kernel
theorem dX7_readText_54 : decode cX7_readText 54 = .ok (.getfield 169, 3) := by decide +kernel
theorem dX7_readText_57 : decode cX7_readText 57 = .ok (.ifCond .ne 10, 3) := by decide +kernel
theorem dX7_readText_60 : decode cX7_readText 60 = .ok (.aload_n 0, 1) := by decide +kernel
theorem dX7_readText_61 : decode cX7_readText 61 = .ok (.getfield 175, 3) := by decide +kernel
theorem dX7_readText_64 : decode cX7_readText 64 = .ok (.ifCond .ne 10, 3) := by decide +kernel
theorem dX7_readText_67 : decode cX7_readText 67 = .ok (.aload_n 0, 1) := by decide +kernel
theorem dX7_readText_68 : decode cX7_readText 68 = .ok (.getfield 163, 3) := by decide +kernel
theorem dX7_readText_71 : decode cX7_readText 71 = .ok (.goto 4, 3) := by decide +kernel
theorem dX7_readText_74 : decode cX7_readText 74 = .ok (.iconst (-1), 1) := by decide +kernel
theorem dX7_readText_75 : decode cX7_readText 75 = .ok (.ireturn, 1) := by decide +kernel
set_option maxRecDepth 20000 in
theorem ggX7_doOrder_X7_putSet : GoodIn wsX7_doOrder wsX7_putSet := goodIn_r _ [8, 9, 10, 11, 7, 12, 13, 14, 15, 16, 17, 18, 19, 20, 21, 22, 23, 24, 25, 26, 27, 108, 109, 110, 111, 112, 113, 114, 115, 116, 117, 118, 119, 120, 121, 122, 123, 124, 125, 126, 127, 128] (by decide +kernel) (by decide +kernel)
set_option maxRecDepth 20000 in
theorem gX7_doOrder_X7_putSet : GoodIn wsX7_doOrder (wsV RX7 79 RX7 yX7_putSet wsX7_putSet) := goodIn_app (goodIn_of _ (by decide +kernel)) ggX7_doOrder_X7_putSet
set_option maxRecDepth 20000 in
theorem ggX7_doOrder_X7_putState : GoodIn wsX7_doOrder wsX7_putState := goodIn_r _ [31, 32, 33, 7, 34, 13, 14, 15, 16, 17, 18, 19, 9, 20, 21, 22, 23, 24, 25, 26, 27, 108, 109, 110, 111, 112, 113, 114, 115, 116, 117, 118, 119, 120, 121, 122, 123, 124, 125, 126, 127, 128] (by decide +kernel) (by decide +kernel)
set_option maxRecDepth 20000 in
theorem gX7_doOrder_X7_putState : GoodIn wsX7_doOrder (wsV RX7 85 RX7 yX7_putState wsX7_putState) := goodIn_app (goodIn_of _ (by decide +kernel)) ggX7_doOrder_X7_putState
set_option maxRecDepth 20000 in
theorem ggX7_doOrder_X7_putTrue : GoodIn wsX7_doOrder wsX7_putTrue := goodIn_r _ [38, 32, 33, 7, 34, 13, 14, 15, 16, 17, 18, 19, 9, 108, 109, 110, 111, 112, 113, 114, 115, 116, 117, 118, 119, 120, 121, 122, 123, 124, 125, 126, 127, 128] (by decide +kernel) (by decide +kernel)
set_option maxRecDepth 20000 in
theorem gX7_doOrder_X7_putTrue : GoodIn wsX7_doOrder (wsV RX7 88 RX7 yX7_putTrue wsX7_putTrue) := goodIn_app (goodIn_of _ (by decide +kernel)) ggX7_doOrder_X7_putTrue
set_option maxRecDepth 20000 in
theorem ggX7_doOrder_X7_putUp : GoodIn wsX7_doOrder wsX7_putUp := goodIn_r _ [42, 10, 11, 7, 12, 13, 14, 15, 16, 17, 18, 19, 9, 108, 109, 110, 111, 112, 113, 114, 115, 116, 117, 118, 119, 120, 121, 122, 123, 124, 125, 126, 127, 128] (by decide +kernel) (by decide +kernel)
set_option maxRecDepth 20000 in
theorem gX7_doOrder_X7_putUp : GoodIn wsX7_doOrder (wsV RX7 91 RX7 yX7_putUp wsX7_putUp) := goodIn_app (goodIn_of _ (by decide +kernel)) ggX7_doOrder_X7_putUp
set_option maxRecDepth 20000 in
theorem ggX7_doOrder_X7_putDown : GoodIn wsX7_doOrder wsX7_putDown := goodIn_r _ [46, 10, 11, 7, 12, 13, 14, 15, 16, 17, 18, 19, 9, 108, 109, 110, 111, 112, 113, 114, 115, 116, 117, 118, 119, 120, 121, 122, 123, 124, 125, 126, 127, 128] (by decide +kernel) (by decide +kernel)
set_option maxRecDepth 20000 in
theorem gX7_doOrder_X7_putDown : GoodIn wsX7_doOrder (wsV RX7 94 RX7 yX7_putDown wsX7_putDown) := goodIn_app (goodIn_of _ (by decide +kernel)) ggX7_doOrder_X7_putDown
set_option maxRecDepth 20000 in
theorem ggX7_doOrder_X7_putSlope : GoodIn wsX7_doOrder wsX7_putSlope := goodIn_r _ [50, 13, 14, 7, 15, 16, 17, 18, 19, 9, 108, 109, 110, 111, 112, 113, 114, 115, 116, 117, 118, 119, 120, 121, 122, 123, 124, 125, 126, 127, 128] (by decide +kernel) (by decide +kernel)
set_option maxRecDepth 20000 in
theorem gX7_doOrder_X7_putSlope : GoodIn wsX7_doOrder (wsV RX7 97 RX7 yX7_putSlope wsX7_putSlope) := goodIn_app (goodIn_of _ (by decide +kernel)) ggX7_doOrder_X7_putSlope
set_option maxRecDepth 20000 in
theorem ggX7_doOrder_X7_putDriver : GoodIn wsX7_doOrder wsX7_putDriver := goodIn_r _ [54, 13, 14, 7, 15, 16, 17, 18, 19, 9, 108, 109, 110, 111, 112, 113, 114, 115, 116, 117, 118, 119, 120, 121, 122, 123, 124, 125, 126, 127, 128] (by decide +kernel) (by decide +kernel)
set_option maxRecDepth 20000 in
theorem gX7_doOrder_X7_putDriver : GoodIn wsX7_doOrder (wsV RX7 100 RX7 yX7_putDriver wsX7_putDriver) := goodIn_app (goodIn_of _ (by decide +kernel)) ggX7_doOrder_X7_putDriver
set_option maxRecDepth 20000 in
theorem ggX7_doOrder_X7_drive : GoodIn wsX7_doOrder wsX7_drive := goodIn_r _ [58, 9, 13, 14, 7, 15, 59, 60, 61, 62, 63, 64, 65, 66, 67, 68, 69, 70, 71, 72, 10, 11, 12, 24, 25, 26, 27, 73, 74, 75, 76, 77, 78, 79, 80, 81, 82, 83, 84, 85, 86, 87, 88, 89, 90, 91, 92, 93, 94, 95, 96, 97, 98, 99, 100, 101, 102, 103, 104, 105, 106, 107, 108, 109, 110, 111, 112, 113, 114, 115, 116, 117, 118, 119, 120, 121, 122, 123, 124, 125, 126, 127, 128] (by decide +kernel) (by decide +kernel)
set_option maxRecDepth 20000 in
theorem gX7_doOrder_X7_drive : GoodIn wsX7_doOrder (wsV RX7 157 RX7 yX7_drive wsX7_drive) := goodIn_app (goodIn_of _ (by decide +kernel)) ggX7_doOrder_X7_drive
theorem dX7_doOrder_0 : decode cX7_doOrder 0 = .ok (.aload_n 0, 1) := by decide +kernel
theorem dX7_doOrder_1 : decode cX7_doOrder 1 = .ok (.getfield 35, 3) := by decide +kernel
theorem dX7_doOrder_4 : decode cX7_doOrder 4 = .ok (.aload_n 0, 1) := by decide +kernel
theorem dX7_doOrder_5 : decode cX7_doOrder 5 = .ok (.getfield 32, 3) := by decide +kernel
theorem dX7_doOrder_8 : decode cX7_doOrder 8 = .ok (.iload_n 1, 1) := by decide +kernel
theorem dX7_doOrder_9 : decode cX7_doOrder 9 = .ok (.iaload, 1) := by decide +kernel
theorem dX7_doOrder_10 : decode cX7_doOrder 10 = .ok (.iaload, 1) := by decide +kernel
theorem dX7_doOrder_11 : decode cX7_doOrder 11 = .ok (.istore_n 2, 1) := by decide +kernel
theorem dX7_doOrder_12 : decode cX7_doOrder 12 = .ok (.aload_n 0, 1) := by decide +kernel
theorem dX7_doOrder_13 : decode cX7_doOrder 13 = .ok (.getfield 32, 3) := by decide +kernel
theorem dX7_doOrder_16 : decode cX7_doOrder 16 = .ok (.iload_n 1, 1) := by decide +kernel
theorem dX7_doOrder_17 : decode cX7_doOrder 17 = .ok (.iaload, 1) := by decide +kernel
theorem dX7_doOrder_18 : decode cX7_doOrder 18 = .ok (.iconst 1, 1) := by decide +kernel
theorem dX7_doOrder_19 : decode cX7_doOrder 19 = .ok (.iadd, 1) := by decide +kernel
theorem dX7_doOrder_20 : decode cX7_doOrder 20 = .ok (.aload_n 0, 1) := by decide +kernel
theorem dX7_doOrder_21 : decode cX7_doOrder 21 = .ok (.getfield 32, 3) := by decide +kernel
theorem dX7_doOrder_24 : decode cX7_doOrder 24 = .ok (.iload_n 1, 1) := by decide +kernel
theorem dX7_doOrder_25 : decode cX7_doOrder 25 = .ok (.iconst 1, 1) := by decide +kernel
theorem dX7_doOrder_26 : decode cX7_doOrder 26 = .ok (.iadd, 1) := by decide +kernel
theorem dX7_doOrder_27 : decode cX7_doOrder 27 = .ok (.iaload, 1) := by decide +kernel
theorem dX7_doOrder_28 : decode cX7_doOrder 28 = .ok (.if_icmp .ge 19, 3) := by decide +kernel
theorem dX7_doOrder_31 : decode cX7_doOrder 31 = .ok (.aload_n 0, 1) := by decide +kernel
theorem dX7_doOrder_32 : decode cX7_doOrder 32 = .ok (.getfield 35, 3) := by decide +kernel
theorem dX7_doOrder_35 : decode cX7_doOrder 35 = .ok (.aload_n 0, 1) := by decide +kernel
theorem dX7_doOrder_36 : decode cX7_doOrder 36 = .ok (.getfield 32, 3) := by decide +kernel
theorem dX7_doOrder_39 : decode cX7_doOrder 39 = .ok (.iload_n 1, 1) := by decide +kernel
theorem dX7_doOrder_40 : decode cX7_doOrder 40 = .ok (.iaload, 1) := by decide +kernel
theorem dX7_doOrder_41 : decode cX7_doOrder 41 = .ok (.iconst 1, 1) := by decide +kernel
theorem dX7_doOrder_42 : decode cX7_doOrder 42 = .ok (.iadd, 1) := by decide +kernel
theorem dX7_doOrder_43 : decode cX7_doOrder 43 = .ok (.iaload, 1) := by decide +kernel
theorem dX7_doOrder_44 : decode cX7_doOrder 44 = .ok (.goto 4, 3) := by decide +kernel
theorem dX7_doOrder_47 : decode cX7_doOrder 47 = .ok (.iconst 0, 1) := by decide +kernel
theorem dX7_doOrder_48 : decode cX7_doOrder 48 = .ok (.istore_n 3, 1) := by decide +kernel
theorem dX7_doOrder_49 : decode cX7_doOrder 49 = .ok (.aload_n 0, 1) := by decide +kernel
theorem dX7_doOrder_50 : decode cX7_doOrder 50 = .ok (.getfield 29, 3) := by decide +kernel
theorem dX7_doOrder_53 : decode cX7_doOrder 53 = .ok (.iload_n 1, 1) := by decide +kernel
theorem dX7_doOrder_54 : decode cX7_doOrder 54 = .ok (.iaload, 1) := by decide +kernel
theorem dX7_doOrder_55 : decode cX7_doOrder 55 = .ok (.tableswitch 132 100 117 #[113, 132, 92, 85, 132, 132, 132, 132, 132, 132, 132, 132, 132, 132, 126, 120, 99, 106], 85) := by decide +kernel
theorem dX7_doOrder_140 : decode cX7_doOrder 140 = .ok (.aload_n 0, 1) := by decide +kernel
theorem dX7_doOrder_141 : decode cX7_doOrder 141 = .ok (.iload_n 2, 1) := by decide +kernel
theorem dX7_doOrder_142 : decode cX7_doOrder 142 = .ok (.iload_n 3, 1) := by decide +kernel
theorem dX7_doOrder_143 : decode cX7_doOrder 143 = .ok (.invokevirtual 79, 3) := by decide +kernel
theorem dX7_doOrder_146 : decode cX7_doOrder 146 = .ok (.ireturn, 1) := by decide +kernel
theorem dX7_doOrder_147 : decode cX7_doOrder 147 = .ok (.aload_n 0, 1) := by decide +kernel
theorem dX7_doOrder_148 : decode cX7_doOrder 148 = .ok (.iload_n 2, 1) := by decide +kernel
theorem dX7_doOrder_149 : decode cX7_doOrder 149 = .ok (.iload_n 3, 1) := by decide +kernel
theorem dX7_doOrder_150 : decode cX7_doOrder 150 = .ok (.invokevirtual 85, 3) := by decide +kernel
theorem dX7_doOrder_153 : decode cX7_doOrder 153 = .ok (.ireturn, 1) := by decide +kernel
theorem dX7_doOrder_154 : decode cX7_doOrder 154 = .ok (.aload_n 0, 1) := by decide +kernel
theorem dX7_doOrder_155 : decode cX7_doOrder 155 = .ok (.iload_n 2, 1) := by decide +kernel
theorem dX7_doOrder_156 : decode cX7_doOrder 156 = .ok (.iload_n 3, 1) := by decide +kernel
theorem dX7_doOrder_157 : decode cX7_doOrder 157 = .ok (.invokevirtual 88, 3) := by decide +kernel
theorem dX7_doOrder_160 : decode cX7_doOrder 160 = .ok (.ireturn, 1) := by decide +kernel
theorem dX7_doOrder_161 : decode cX7_doOrder 161 = .ok (.aload_n 0, 1) := by decide +kernel
theorem dX7_doOrder_162 : decode cX7_doOrder 162 = .ok (.iload_n 2, 1) := by decide +kernel
theorem dX7_doOrder_163 : decode cX7_doOrder 163 = .ok (.iload_n 3, 1) := by decide +kernel
theorem dX7_doOrder_164 : decode cX7_doOrder 164 = .ok (.invokevirtual 91, 3) := by decide +kernel
theorem dX7_doOrder_167 : decode cX7_doOrder 167 = .ok (.ireturn, 1) := by decide +kernel
theorem dX7_doOrder_168 : decode cX7_doOrder 168 = .ok (.aload_n 0, 1) := by decide +kernel
theorem dX7_doOrder_169 : decode cX7_doOrder 169 = .ok (.iload_n 2, 1) := by decide +kernel
theorem dX7_doOrder_170 : decode cX7_doOrder 170 = .ok (.iload_n 3, 1) := by decide +kernel
theorem dX7_doOrder_171 : decode cX7_doOrder 171 = .ok (.invokevirtual 94, 3) := by decide +kernel
theorem dX7_doOrder_174 : decode cX7_doOrder 174 = .ok (.ireturn, 1) := by decide +kernel
theorem dX7_doOrder_175 : decode cX7_doOrder 175 = .ok (.aload_n 0, 1) := by decide +kernel
theorem dX7_doOrder_176 : decode cX7_doOrder 176 = .ok (.iload_n 2, 1) := by decide +kernel
theorem dX7_doOrder_177 : decode cX7_doOrder 177 = .ok (.invokevirtual 97, 3) := by decide +kernel
theorem dX7_doOrder_180 : decode cX7_doOrder 180 = .ok (.ireturn, 1) := by decide +kernel
theorem dX7_doOrder_181 : decode cX7_doOrder 181 = .ok (.aload_n 0, 1) := by decide +kernel
theorem dX7_doOrder_182 : decode cX7_doOrder 182 = .ok (.iload_n 2, 1) := by decide +kernel
theorem dX7_doOrder_183 : decode cX7_doOrder 183 = .ok (.invokevirtual 100, 3) := by decide +kernel
theorem dX7_doOrder_186 : decode cX7_doOrder 186 = .ok (.ireturn, 1) := by decide +kernel
theorem dX7_doOrder_187 : decode cX7_doOrder 187 = .ok (.aload_n 0, 1) := by decide +kernel
theorem dX7_doOrder_188 : decode cX7_doOrder 188 = .ok (.iload_n 2, 1) := by decide +kernel
theorem dX7_doOrder_189 : decode cX7_doOrder 189 = .ok (.iload_n 3, 1) := by decide +kernel
theorem dX7_doOrder_190 : decode cX7_doOrder 190 = .ok (.invokevirtual 157, 3) := by decide +kernel
theorem dX7_doOrder_193 : decode cX7_doOrder 193 = .ok (.ireturn, 1) := by decide +kernel
set_option maxRecDepth 20000 in
theorem ggX7_reads_X7_readText : GoodIn wsX7_reads wsX7_readText := goodIn_r _ [10, 1, 11, 12, 13, 14, 15, 16, 17, 18, 9, 19, 20, 21, 22, 23, 24, 25, 26, 27, 28, 29, 30, 31, 32, 33, 34, 156, 157, 158, 159, 160, 161, 162, 163, 164, 165, 166, 167, 168, 169, 170, 171, 172, 173, 174, 175, 176] (by decide +kernel) (by decide +kernel)
set_option maxRecDepth 20000 in
theorem gX7_reads_X7_readText : GoodIn wsX7_reads (wsV RX7 195 RX7 yX7_readText wsX7_readText) := goodIn_app (goodIn_of _ (by decide +kernel)) ggX7_reads_X7_readText
set_option maxRecDepth 20000 in
theorem ggX7_reads_X7_save : GoodIn wsX7_reads wsX7_save := goodIn_r _ [38, 3, 2, 39, 40, 9, 41, 156, 157, 158, 159, 160, 161, 162, 163, 164, 165, 166, 167, 168, 169, 170, 171, 172, 173, 174, 175, 176] (by decide +kernel) (by decide +kernel)
set_option maxRecDepth 20000 in
theorem gX7_reads_X7_save : GoodIn wsX7_reads (wsV RX7 76 RX7 yX7_save wsX7_save) := goodIn_app (goodIn_of _ (by decide +kernel)) ggX7_reads_X7_save
set_option maxRecDepth 20000 in
theorem ggX7_reads_X7_doOrder : GoodIn wsX7_reads wsX7_doOrder := goodIn_r _ [45, 23, 11, 22, 46, 47, 48, 9, 49, 3, 50, 51, 52, 28, 29, 30, 53, 54, 55, 56, 57, 58, 59, 60, 61, 62, 63, 64, 65, 66, 67, 68, 69, 70, 71, 72, 73, 74, 75, 76, 77, 78, 79, 80, 81, 82, 83, 84, 85, 86, 87, 88, 89, 90, 91, 92, 93, 94, 95, 96, 97, 98, 99, 100, 101, 102, 103, 104, 105, 106, 107, 108, 109, 110, 111, 112, 113, 114, 115, 116, 117, 118, 119, 120, 121, 122, 123, 124, 125, 126, 127, 128, 129, 130, 131, 132, 133, 134, 135, 136, 137, 138, 139, 140, 141, 142, 143, 144, 156, 157, 158, 159, 160, 161, 162, 163, 164, 165, 166, 167, 168, 169, 170, 171, 172, 173, 174, 175, 176] (by decide +kernel) (by decide +kernel)
set_option maxRecDepth 20000 in
theorem gX7_reads_X7_doOrder : GoodIn wsX7_reads (wsV RX7 199 RX7 yX7_doOrder wsX7_doOrder) := goodIn_app (goodIn_of _ (by decide +kernel)) ggX7_reads_X7_doOrder
set_option maxRecDepth 20000 in
theorem ggX7_reads_X7_bring : GoodIn wsX7_reads wsX7_bring := goodIn_r _ [41] (by decide +kernel) (by decide +kernel)
set_option maxRecDepth 20000 in
theorem gX7_reads_X7_bring : GoodIn wsX7_reads (va_wsS RX7 44 yX7_bring wsX7_bring) := goodIn_app (goodIn_of _ (by decide +kernel)) ggX7_reads_X7_bring
set_option maxRecDepth 20000 in
theorem ggX7_reads_X7_finish : GoodIn wsX7_reads wsX7_finish := goodIn_r _ [148, 149, 150, 2, 151, 152, 153, 9, 154, 155, 39, 40, 41, 156, 157, 158, 159, 160, 161, 162, 163, 164, 165, 166, 167, 168, 169, 170, 171, 172, 173, 174, 175, 176] (by decide +kernel) (by decide +kernel)
set_option maxRecDepth 20000 in
theorem gX7_reads_X7_finish : GoodIn wsX7_reads (wsV RX7 82 RX7 yX7_finish wsX7_finish) := goodIn_app (goodIn_of _ (by decide +kernel)) ggX7_reads_X7_finish
theorem dX7_reads_0 : decode cX7_reads 0 = .ok (.aload_n 0, 1) := by decide +kernel
theorem dX7_reads_1 : decode cX7_reads 1 = .ok (.invokevirtual 195, 3) := by decide +kernel
theorem dX7_reads_4 : decode cX7_reads 4 = .ok (.istore_n 1, 1) := by decide +kernel
theorem dX7_reads_5 : decode cX7_reads 5 = .ok (.iload_n 1, 1) := by decide +kernel
theorem dX7_reads_6 : decode cX7_reads 6 = .ok (.iconst (-1), 1) := by decide +kernel
theorem dX7_reads_7 : decode cX7_reads 7 = .ok (.if_icmp .eq 8, 3) := by decide +kernel
theorem dX7_reads_10 : decode cX7_reads 10 = .ok (.bipush (-10), 2) := by decide +kernel
theorem dX7_reads_12 : decode cX7_reads 12 = .ok (.iload_n 1, 1) := by decide +kernel
theorem dX7_reads_13 : decode cX7_reads 13 = .ok (.isub, 1) := by decide +kernel
theorem dX7_reads_14 : decode cX7_reads 14 = .ok (.ireturn, 1) := by decide +kernel
theorem dX7_reads_15 : decode cX7_reads 15 = .ok (.aload_n 0, 1) := by decide +kernel
theorem dX7_reads_16 : decode cX7_reads 16 = .ok (.invokevirtual 76, 3) := by decide +kernel
theorem dX7_reads_19 : decode cX7_reads 19 = .ok (.iconst 0, 1) := by decide +kernel
theorem dX7_reads_20 : decode cX7_reads 20 = .ok (.istore_n 2, 1) := by decide +kernel
theorem dX7_reads_21 : decode cX7_reads 21 = .ok (.iload_n 2, 1) := by decide +kernel
theorem dX7_reads_22 : decode cX7_reads 22 = .ok (.aload_n 0, 1) := by decide +kernel
theorem dX7_reads_23 : decode cX7_reads 23 = .ok (.getfield 175, 3) := by decide +kernel
theorem dX7_reads_26 : decode cX7_reads 26 = .ok (.if_icmp .ge 57, 3) := by decide +kernel
theorem dX7_reads_29 : decode cX7_reads 29 = .ok (.aload_n 0, 1) := by decide +kernel
theorem dX7_reads_30 : decode cX7_reads 30 = .ok (.iload_n 2, 1) := by decide +kernel
theorem dX7_reads_31 : decode cX7_reads 31 = .ok (.invokevirtual 199, 3) := by decide +kernel
theorem dX7_reads_34 : decode cX7_reads 34 = .ok (.istore_n 3, 1) := by decide +kernel
theorem dX7_reads_35 : decode cX7_reads 35 = .ok (.iload_n 3, 1) := by decide +kernel
theorem dX7_reads_36 : decode cX7_reads 36 = .ok (.bipush (-2), 2) := by decide +kernel
theorem dX7_reads_38 : decode cX7_reads 38 = .ok (.if_icmp .eq 9, 3) := by decide +kernel
theorem dX7_reads_41 : decode cX7_reads 41 = .ok (.iload_n 3, 1) := by decide +kernel
theorem dX7_reads_42 : decode cX7_reads 42 = .ok (.bipush (-3), 2) := by decide +kernel
theorem dX7_reads_44 : decode cX7_reads 44 = .ok (.if_icmp .ne 33, 3) := by decide +kernel
theorem dX7_reads_47 : decode cX7_reads 47 = .ok (.aload_n 0, 1) := by decide +kernel
theorem dX7_reads_48 : decode cX7_reads 48 = .ok (.getfield 13, 3) := by decide +kernel
theorem dX7_reads_51 : decode cX7_reads 51 = .ok (.iconst 0, 1) := by decide +kernel
theorem dX7_reads_52 : decode cX7_reads 52 = .ok (.aload_n 0, 1) := by decide +kernel
theorem dX7_reads_53 : decode cX7_reads 53 = .ok (.getfield 7, 3) := by decide +kernel
theorem dX7_reads_56 : decode cX7_reads 56 = .ok (.iconst 0, 1) := by decide +kernel
theorem dX7_reads_57 : decode cX7_reads 57 = .ok (.invokestatic 44, 3) := by decide +kernel
theorem dX7_reads_60 : decode cX7_reads 60 = .ok (.aload_n 0, 1) := by decide +kernel
theorem dX7_reads_61 : decode cX7_reads 61 = .ok (.iload_n 3, 1) := by decide +kernel
theorem dX7_reads_62 : decode cX7_reads 62 = .ok (.ineg, 1) := by decide +kernel
theorem dX7_reads_63 : decode cX7_reads 63 = .ok (.putfield 202, 3) := by decide +kernel
theorem dX7_reads_66 : decode cX7_reads 66 = .ok (.aload_n 0, 1) := by decide +kernel
theorem dX7_reads_67 : decode cX7_reads 67 = .ok (.iload_n 2, 1) := by decide +kernel
theorem dX7_reads_68 : decode cX7_reads 68 = .ok (.putfield 22, 3) := by decide +kernel
theorem dX7_reads_71 : decode cX7_reads 71 = .ok (.sipush (-1000), 3) := by decide +kernel
theorem dX7_reads_74 : decode cX7_reads 74 = .ok (.iload_n 2, 1) := by decide +kernel
theorem dX7_reads_75 : decode cX7_reads 75 = .ok (.isub, 1) := by decide +kernel
theorem dX7_reads_76 : decode cX7_reads 76 = .ok (.ireturn, 1) := by decide +kernel
theorem dX7_reads_77 : decode cX7_reads 77 = .ok (.iinc 2 1, 3) := by decide +kernel
theorem dX7_reads_80 : decode cX7_reads 80 = .ok (.goto (-59), 3) := by decide +kernel
theorem dX7_reads_83 : decode cX7_reads 83 = .ok (.aload_n 0, 1) := by decide +kernel
theorem dX7_reads_84 : decode cX7_reads 84 = .ok (.aload_n 0, 1) := by decide +kernel
theorem dX7_reads_85 : decode cX7_reads 85 = .ok (.getfield 175, 3) := by decide +kernel
theorem dX7_reads_88 : decode cX7_reads 88 = .ok (.invokevirtual 82, 3) := by decide +kernel
theorem dX7_reads_91 : decode cX7_reads 91 = .ok (.ireturn, 1) := by decide +kernel
theorem dX7_causeOf_0 : decode cX7_causeOf 0 = .ok (.iload_n 1, 1) := by decide +kernel
theorem dX7_causeOf_1 : decode cX7_causeOf 1 = .ok (.ifCond .ne 10, 3) := by decide +kernel
theorem dX7_causeOf_4 : decode cX7_causeOf 4 = .ok (.aload_n 0, 1) := by decide +kernel
theorem dX7_causeOf_5 : decode cX7_causeOf 5 = .ok (.getfield 202, 3) := by decide +kernel
theorem dX7_causeOf_8 : decode cX7_causeOf 8 = .ok (.goto 7, 3) := by decide +kernel
theorem dX7_causeOf_11 : decode cX7_causeOf 11 = .ok (.aload_n 0, 1) := by decide +kernel
theorem dX7_causeOf_12 : decode cX7_causeOf 12 = .ok (.getfield 22, 3) := by decide +kernel
theorem dX7_causeOf_15 : decode cX7_causeOf 15 = .ok (.ireturn, 1) := by decide +kernel
set_option maxRecDepth 20000 in
theorem ggX7_why_X7_in : GoodIn wsX7_why wsX7_in := goodIn_r _ [4] (by decide +kernel) (by decide +kernel)
set_option maxRecDepth 20000 in
theorem gX7_why_X7_in : GoodIn wsX7_why (va_wsS RX7 55 yX7_in wsX7_in) := goodIn_app (goodIn_of _ (by decide +kernel)) ggX7_why_X7_in
set_option maxRecDepth 20000 in
theorem ggX7_why_X7_causeOf : GoodIn wsX7_why wsX7_causeOf := goodIn_r _ [8, 9, 10, 16, 17, 18, 19, 20, 21, 22, 23, 24, 25, 26, 27, 28, 29, 30, 31, 32, 33, 34, 35, 36] (by decide +kernel) (by decide +kernel)
set_option maxRecDepth 20000 in
theorem gX7_why_X7_causeOf : GoodIn wsX7_why (wsV RX7 205 RX7 yX7_causeOf wsX7_causeOf) := goodIn_app (goodIn_of _ (by decide +kernel)) ggX7_why_X7_causeOf
set_option maxRecDepth 20000 in
theorem ggX7_why_X7_refuse : GoodIn wsX7_why wsX7_refuse := goodIn_r _ [14, 15, 16, 17, 18, 19, 20, 21, 22, 23, 24, 25, 26, 27, 28, 29, 30, 31, 32, 33, 34, 35, 36] (by decide +kernel) (by decide +kernel)
set_option maxRecDepth 20000 in
theorem gX7_why_X7_refuse : GoodIn wsX7_why (wsV RX7 48 RX7 yX7_refuse wsX7_refuse) := goodIn_app (goodIn_of _ (by decide +kernel)) ggX7_why_X7_refuse
theorem dX7_why_0 : decode cX7_why 0 = .ok (.iload_n 1, 1) := by decide +kernel
theorem dX7_why_1 : decode cX7_why 1 = .ok (.iconst 0, 1) := by decide +kernel
theorem dX7_why_2 : decode cX7_why 2 = .ok (.iconst 1, 1) := by decide +kernel
theorem dX7_why_3 : decode cX7_why 3 = .ok (.invokestatic 55, 3) := by decide +kernel
theorem dX7_why_6 : decode cX7_why 6 = .ok (.ifCond .eq 11, 3) := by decide +kernel
theorem dX7_why_9 : decode cX7_why 9 = .ok (.aload_n 0, 1) := by decide +kernel
theorem dX7_why_10 : decode cX7_why 10 = .ok (.iload_n 1, 1) := by decide +kernel
theorem dX7_why_11 : decode cX7_why 11 = .ok (.invokevirtual 205, 3) := by decide +kernel
theorem dX7_why_14 : decode cX7_why 14 = .ok (.goto 9, 3) := by decide +kernel
theorem dX7_why_17 : decode cX7_why 17 = .ok (.aload_n 0, 1) := by decide +kernel
theorem dX7_why_18 : decode cX7_why 18 = .ok (.bipush (-2), 2) := by decide +kernel
theorem dX7_why_20 : decode cX7_why 20 = .ok (.invokevirtual 48, 3) := by decide +kernel
theorem dX7_why_23 : decode cX7_why 23 = .ok (.ireturn, 1) := by decide +kernel
set_option maxRecDepth 20000 in
theorem ggX7_back_X7_refuse : GoodIn wsX7_back wsX7_refuse := goodIn_r _ [8, 9, 13, 14, 15, 16, 17, 18, 19, 20, 21, 22, 23, 24, 25, 26, 27, 28, 29, 30, 31, 32, 33] (by decide +kernel) (by decide +kernel)
set_option maxRecDepth 20000 in
theorem gX7_back_X7_refuse : GoodIn wsX7_back (wsV RX7 48 RX7 yX7_refuse wsX7_refuse) := goodIn_app (goodIn_of _ (by decide +kernel)) ggX7_back_X7_refuse
set_option maxRecDepth 20000 in
theorem ggX7_back_X7_bring : GoodIn wsX7_back wsX7_bring := goodIn_r _ [12] (by decide +kernel) (by decide +kernel)
set_option maxRecDepth 20000 in
theorem gX7_back_X7_bring : GoodIn wsX7_back (va_wsS RX7 44 yX7_bring wsX7_bring) := goodIn_app (goodIn_of _ (by decide +kernel)) ggX7_back_X7_bring
theorem dX7_back_0 : decode cX7_back 0 = .ok (.aload_n 0, 1) := by decide +kernel
theorem dX7_back_1 : decode cX7_back 1 = .ok (.getfield 52, 3) := by decide +kernel
theorem dX7_back_4 : decode cX7_back 4 = .ok (.ifCond .ne 10, 3) := by decide +kernel
theorem dX7_back_7 : decode cX7_back 7 = .ok (.aload_n 0, 1) := by decide +kernel
theorem dX7_back_8 : decode cX7_back 8 = .ok (.bipush (-3), 2) := by decide +kernel
theorem dX7_back_10 : decode cX7_back 10 = .ok (.invokevirtual 48, 3) := by decide +kernel
theorem dX7_back_13 : decode cX7_back 13 = .ok (.ireturn, 1) := by decide +kernel
theorem dX7_back_14 : decode cX7_back 14 = .ok (.aload_n 0, 1) := by decide +kernel
theorem dX7_back_15 : decode cX7_back 15 = .ok (.dup, 1) := by decide +kernel
theorem dX7_back_16 : decode cX7_back 16 = .ok (.getfield 52, 3) := by decide +kernel
theorem dX7_back_19 : decode cX7_back 19 = .ok (.iconst 1, 1) := by decide +kernel
theorem dX7_back_20 : decode cX7_back 20 = .ok (.isub, 1) := by decide +kernel
theorem dX7_back_21 : decode cX7_back 21 = .ok (.putfield 52, 3) := by decide +kernel
theorem dX7_back_24 : decode cX7_back 24 = .ok (.aload_n 0, 1) := by decide +kernel
theorem dX7_back_25 : decode cX7_back 25 = .ok (.getfield 16, 3) := by decide +kernel
theorem dX7_back_28 : decode cX7_back 28 = .ok (.bipush 51, 2) := by decide +kernel
theorem dX7_back_30 : decode cX7_back 30 = .ok (.aload_n 0, 1) := by decide +kernel
theorem dX7_back_31 : decode cX7_back 31 = .ok (.getfield 52, 3) := by decide +kernel
theorem dX7_back_34 : decode cX7_back 34 = .ok (.imul, 1) := by decide +kernel
theorem dX7_back_35 : decode cX7_back 35 = .ok (.aload_n 0, 1) := by decide +kernel
theorem dX7_back_36 : decode cX7_back 36 = .ok (.getfield 7, 3) := by decide +kernel
theorem dX7_back_39 : decode cX7_back 39 = .ok (.iconst 0, 1) := by decide +kernel
theorem dX7_back_40 : decode cX7_back 40 = .ok (.invokestatic 44, 3) := by decide +kernel
theorem dX7_back_43 : decode cX7_back 43 = .ok (.aload_n 0, 1) := by decide +kernel
theorem dX7_back_44 : decode cX7_back 44 = .ok (.getfield 52, 3) := by decide +kernel
theorem dX7_back_47 : decode cX7_back 47 = .ok (.ireturn, 1) := by decide +kernel
theorem dX7_toldOf_0 : decode cX7_toldOf 0 = .ok (.iload_n 1, 1) := by decide +kernel
theorem dX7_toldOf_1 : decode cX7_toldOf 1 = .ok (.iconst 3, 1) := by decide +kernel
theorem dX7_toldOf_2 : decode cX7_toldOf 2 = .ok (.if_icmp .ge 12, 3) := by decide +kernel
theorem dX7_toldOf_5 : decode cX7_toldOf 5 = .ok (.aload_n 0, 1) := by decide +kernel
theorem dX7_toldOf_6 : decode cX7_toldOf 6 = .ok (.getfield 19, 3) := by decide +kernel
theorem dX7_toldOf_9 : decode cX7_toldOf 9 = .ok (.iload_n 1, 1) := by decide +kernel
theorem dX7_toldOf_10 : decode cX7_toldOf 10 = .ok (.iaload, 1) := by decide +kernel
theorem dX7_toldOf_11 : decode cX7_toldOf 11 = .ok (.goto 19, 3) := by decide +kernel
theorem dX7_toldOf_14 : decode cX7_toldOf 14 = .ok (.iload_n 1, 1) := by decide +kernel
theorem dX7_toldOf_15 : decode cX7_toldOf 15 = .ok (.iconst 3, 1) := by decide +kernel
theorem dX7_toldOf_16 : decode cX7_toldOf 16 = .ok (.if_icmp .ne 10, 3) := by decide +kernel
theorem dX7_toldOf_19 : decode cX7_toldOf 19 = .ok (.aload_n 0, 1) := by decide +kernel
theorem dX7_toldOf_20 : decode cX7_toldOf 20 = .ok (.getfield 163, 3) := by decide +kernel
theorem dX7_toldOf_23 : decode cX7_toldOf 23 = .ok (.goto 7, 3) := by decide +kernel
theorem dX7_toldOf_26 : decode cX7_toldOf 26 = .ok (.aload_n 0, 1) := by decide +kernel
theorem dX7_toldOf_27 : decode cX7_toldOf 27 = .ok (.getfield 52, 3) := by decide +kernel
theorem dX7_toldOf_30 : decode cX7_toldOf 30 = .ok (.ireturn, 1) := by decide +kernel
set_option maxRecDepth 20000 in
theorem ggX7_told_X7_in : GoodIn wsX7_told wsX7_in := goodIn_r _ [4] (by decide +kernel) (by decide +kernel)
set_option maxRecDepth 20000 in
theorem gX7_told_X7_in : GoodIn wsX7_told (va_wsS RX7 55 yX7_in wsX7_in) := goodIn_app (goodIn_of _ (by decide +kernel)) ggX7_told_X7_in
set_option maxRecDepth 20000 in
theorem ggX7_told_X7_toldOf : GoodIn wsX7_told wsX7_toldOf := goodIn_r _ [8, 9, 10, 11, 16, 17, 18, 19, 20, 21, 22, 23, 24, 25, 26, 27, 28, 29, 30, 31, 32, 33, 34, 35, 36] (by decide +kernel) (by decide +kernel)
set_option maxRecDepth 20000 in
theorem gX7_told_X7_toldOf : GoodIn wsX7_told (wsV RX7 208 RX7 yX7_toldOf wsX7_toldOf) := goodIn_app (goodIn_of _ (by decide +kernel)) ggX7_told_X7_toldOf
set_option maxRecDepth 20000 in
theorem ggX7_told_X7_refuse : GoodIn wsX7_told wsX7_refuse := goodIn_r _ [15, 9, 16, 17, 18, 19, 20, 21, 22, 23, 24, 25, 26, 27, 28, 29, 30, 31, 32, 33, 34, 35, 36] (by decide +kernel) (by decide +kernel)
set_option maxRecDepth 20000 in
theorem gX7_told_X7_refuse : GoodIn wsX7_told (wsV RX7 48 RX7 yX7_refuse wsX7_refuse) := goodIn_app (goodIn_of _ (by decide +kernel)) ggX7_told_X7_refuse
theorem dX7_told_0 : decode cX7_told 0 = .ok (.iload_n 1, 1) := by decide +kernel
theorem dX7_told_1 : decode cX7_told 1 = .ok (.iconst 0, 1) := by decide +kernel
theorem dX7_told_2 : decode cX7_told 2 = .ok (.iconst 4, 1) := by decide +kernel
theorem dX7_told_3 : decode cX7_told 3 = .ok (.invokestatic 55, 3) := by decide +kernel
theorem dX7_told_6 : decode cX7_told 6 = .ok (.ifCond .eq 11, 3) := by decide +kernel
theorem dX7_told_9 : decode cX7_told 9 = .ok (.aload_n 0, 1) := by decide +kernel
theorem dX7_told_10 : decode cX7_told 10 = .ok (.iload_n 1, 1) := by decide +kernel
theorem dX7_told_11 : decode cX7_told 11 = .ok (.invokevirtual 208, 3) := by decide +kernel
theorem dX7_told_14 : decode cX7_told 14 = .ok (.goto 9, 3) := by decide +kernel
theorem dX7_told_17 : decode cX7_told 17 = .ok (.aload_n 0, 1) := by decide +kernel
theorem dX7_told_18 : decode cX7_told 18 = .ok (.bipush (-2), 2) := by decide +kernel
theorem dX7_told_20 : decode cX7_told 20 = .ok (.invokevirtual 48, 3) := by decide +kernel
theorem dX7_told_23 : decode cX7_told 23 = .ok (.ireturn, 1) := by decide +kernel
set_option maxRecDepth 20000 in
theorem ggX7_digest_X7_toldOf : GoodIn wsX7_digest wsX7_toldOf := goodIn_r _ [7, 8, 9, 10, 45, 46, 47, 48, 49, 50, 51, 52, 53, 54, 55, 56, 57, 58, 59, 60, 61, 62, 63, 64, 65] (by decide +kernel) (by decide +kernel)
set_option maxRecDepth 20000 in
theorem gX7_digest_X7_toldOf : GoodIn wsX7_digest (wsV RX7 208 RX7 yX7_toldOf wsX7_toldOf) := goodIn_app (goodIn_of _ (by decide +kernel)) ggX7_digest_X7_toldOf
set_option maxRecDepth 20000 in
theorem ggX7_digest_X7_causeOf : GoodIn wsX7_digest wsX7_causeOf := goodIn_r _ [14, 15, 16, 45, 46, 47, 48, 49, 50, 51, 52, 53, 54, 55, 56, 57, 58, 59, 60, 61, 62, 63, 64, 65] (by decide +kernel) (by decide +kernel)
set_option maxRecDepth 20000 in
theorem gX7_digest_X7_causeOf : GoodIn wsX7_digest (wsV RX7 205 RX7 yX7_causeOf wsX7_causeOf) := goodIn_app (goodIn_of _ (by decide +kernel)) ggX7_digest_X7_causeOf
set_option maxRecDepth 20000 in
theorem ggX7_digest_X7_ofGear : GoodIn wsX7_digest wsX7_ofGear := goodIn_r _ [20, 21, 22, 23, 24, 6, 25, 26, 27, 28, 29, 30, 31, 32, 33, 34, 35, 36, 45, 46, 47, 48, 49, 50, 51, 52, 53, 54, 55, 56, 57, 58, 59, 60, 61, 62, 63, 64, 65] (by decide +kernel) (by decide +kernel)
set_option maxRecDepth 20000 in
theorem gX7_digest_X7_ofGear : GoodIn wsX7_digest (wsV RX7 119 RX7 yX7_ofGear wsX7_ofGear) := goodIn_app (goodIn_of _ (by decide +kernel)) ggX7_digest_X7_ofGear
set_option maxRecDepth 20000 in
theorem ggX7_digest_X7_ofClutch : GoodIn wsX7_digest wsX7_ofClutch := goodIn_r _ [40, 21, 45, 46, 47, 48, 49, 50, 51, 52, 53, 54, 55, 56, 57, 58, 59, 60, 61, 62, 63, 64, 65] (by decide +kernel) (by decide +kernel)
set_option maxRecDepth 20000 in
theorem gX7_digest_X7_ofClutch : GoodIn wsX7_digest (wsV RX7 122 RX7 yX7_ofClutch wsX7_ofClutch) := goodIn_app (goodIn_of _ (by decide +kernel)) ggX7_digest_X7_ofClutch
set_option maxRecDepth 20000 in
theorem ggX7_digest_X7_stateOf : GoodIn wsX7_digest wsX7_stateOf := goodIn_r _ [44, 21, 22, 23, 24, 6, 25, 45, 46, 47, 48, 49, 50, 51, 52, 53, 54, 55, 56, 57, 58, 59, 60, 61, 62, 63, 64, 65] (by decide +kernel) (by decide +kernel)
set_option maxRecDepth 20000 in
theorem gX7_digest_X7_stateOf : GoodIn wsX7_digest (wsV RX7 160 RX7 yX7_stateOf wsX7_stateOf) := goodIn_app (goodIn_of _ (by decide +kernel)) ggX7_digest_X7_stateOf
theorem dX7_digest_0 : decode cX7_digest 0 = .ok (.ldc2_w 211, 3) := by decide +kernel
theorem dX7_digest_3 : decode cX7_digest 3 = .ok (.lstore_n 1, 1) := by decide +kernel
theorem dX7_digest_4 : decode cX7_digest 4 = .ok (.iconst 0, 1) := by decide +kernel
theorem dX7_digest_5 : decode cX7_digest 5 = .ok (.istore_n 3, 1) := by decide +kernel
theorem dX7_digest_6 : decode cX7_digest 6 = .ok (.iload_n 3, 1) := by decide +kernel
theorem dX7_digest_7 : decode cX7_digest 7 = .ok (.iconst 5, 1) := by decide +kernel
theorem dX7_digest_8 : decode cX7_digest 8 = .ok (.if_icmp .ge 22, 3) := by decide +kernel
theorem dX7_digest_11 : decode cX7_digest 11 = .ok (.ldc2_w 213, 3) := by decide +kernel
theorem dX7_digest_14 : decode cX7_digest 14 = .ok (.lload_n 1, 1) := by decide +kernel
theorem dX7_digest_15 : decode cX7_digest 15 = .ok (.lmul, 1) := by decide +kernel
theorem dX7_digest_16 : decode cX7_digest 16 = .ok (.aload_n 0, 1) := by decide +kernel
theorem dX7_digest_17 : decode cX7_digest 17 = .ok (.iload_n 3, 1) := by decide +kernel
theorem dX7_digest_18 : decode cX7_digest 18 = .ok (.invokevirtual 208, 3) := by decide +kernel
theorem dX7_digest_21 : decode cX7_digest 21 = .ok (.i2l, 1) := by decide +kernel
theorem dX7_digest_22 : decode cX7_digest 22 = .ok (.ladd, 1) := by decide +kernel
theorem dX7_digest_23 : decode cX7_digest 23 = .ok (.lstore_n 1, 1) := by decide +kernel
theorem dX7_digest_24 : decode cX7_digest 24 = .ok (.iinc 3 1, 3) := by decide +kernel
theorem dX7_digest_27 : decode cX7_digest 27 = .ok (.goto (-21), 3) := by decide +kernel
theorem dX7_digest_30 : decode cX7_digest 30 = .ok (.ldc2_w 213, 3) := by decide +kernel
theorem dX7_digest_33 : decode cX7_digest 33 = .ok (.ldc2_w 213, 3) := by decide +kernel
theorem dX7_digest_36 : decode cX7_digest 36 = .ok (.lload_n 1, 1) := by decide +kernel
theorem dX7_digest_37 : decode cX7_digest 37 = .ok (.lmul, 1) := by decide +kernel
theorem dX7_digest_38 : decode cX7_digest 38 = .ok (.aload_n 0, 1) := by decide +kernel
theorem dX7_digest_39 : decode cX7_digest 39 = .ok (.iconst 0, 1) := by decide +kernel
theorem dX7_digest_40 : decode cX7_digest 40 = .ok (.invokevirtual 205, 3) := by decide +kernel
theorem dX7_digest_43 : decode cX7_digest 43 = .ok (.i2l, 1) := by decide +kernel
theorem dX7_digest_44 : decode cX7_digest 44 = .ok (.ladd, 1) := by decide +kernel
theorem dX7_digest_45 : decode cX7_digest 45 = .ok (.lmul, 1) := by decide +kernel
theorem dX7_digest_46 : decode cX7_digest 46 = .ok (.aload_n 0, 1) := by decide +kernel
theorem dX7_digest_47 : decode cX7_digest 47 = .ok (.iconst 1, 1) := by decide +kernel
theorem dX7_digest_48 : decode cX7_digest 48 = .ok (.invokevirtual 205, 3) := by decide +kernel
theorem dX7_digest_51 : decode cX7_digest 51 = .ok (.i2l, 1) := by decide +kernel
theorem dX7_digest_52 : decode cX7_digest 52 = .ok (.ladd, 1) := by decide +kernel
theorem dX7_digest_53 : decode cX7_digest 53 = .ok (.lstore_n 1, 1) := by decide +kernel
theorem dX7_digest_54 : decode cX7_digest 54 = .ok (.iconst 1, 1) := by decide +kernel
theorem dX7_digest_55 : decode cX7_digest 55 = .ok (.istore_n 3, 1) := by decide +kernel
theorem dX7_digest_56 : decode cX7_digest 56 = .ok (.iload_n 3, 1) := by decide +kernel
theorem dX7_digest_57 : decode cX7_digest 57 = .ok (.bipush 7, 2) := by decide +kernel
theorem dX7_digest_59 : decode cX7_digest 59 = .ok (.if_icmp .gt 39, 3) := by decide +kernel
theorem dX7_digest_62 : decode cX7_digest 62 = .ok (.iconst 0, 1) := by decide +kernel
theorem dX7_digest_63 : decode cX7_digest 63 = .ok (.istore 4, 2) := by decide +kernel
theorem dX7_digest_65 : decode cX7_digest 65 = .ok (.iload 4, 2) := by decide +kernel
theorem dX7_digest_67 : decode cX7_digest 67 = .ok (.iconst 5, 1) := by decide +kernel
theorem dX7_digest_68 : decode cX7_digest 68 = .ok (.if_icmp .ge 24, 3) := by decide +kernel
theorem dX7_digest_71 : decode cX7_digest 71 = .ok (.ldc2_w 213, 3) := by decide +kernel
theorem dX7_digest_74 : decode cX7_digest 74 = .ok (.lload_n 1, 1) := by decide +kernel
theorem dX7_digest_75 : decode cX7_digest 75 = .ok (.lmul, 1) := by decide +kernel
theorem dX7_digest_76 : decode cX7_digest 76 = .ok (.aload_n 0, 1) := by decide +kernel
theorem dX7_digest_77 : decode cX7_digest 77 = .ok (.iload_n 3, 1) := by decide +kernel
theorem dX7_digest_78 : decode cX7_digest 78 = .ok (.iload 4, 2) := by decide +kernel
theorem dX7_digest_80 : decode cX7_digest 80 = .ok (.invokevirtual 119, 3) := by decide +kernel
theorem dX7_digest_83 : decode cX7_digest 83 = .ok (.i2l, 1) := by decide +kernel
theorem dX7_digest_84 : decode cX7_digest 84 = .ok (.ladd, 1) := by decide +kernel
theorem dX7_digest_85 : decode cX7_digest 85 = .ok (.lstore_n 1, 1) := by decide +kernel
theorem dX7_digest_86 : decode cX7_digest 86 = .ok (.iinc 4 1, 3) := by decide +kernel
theorem dX7_digest_89 : decode cX7_digest 89 = .ok (.goto (-24), 3) := by decide +kernel
theorem dX7_digest_92 : decode cX7_digest 92 = .ok (.iinc 3 1, 3) := by decide +kernel
theorem dX7_digest_95 : decode cX7_digest 95 = .ok (.goto (-39), 3) := by decide +kernel
theorem dX7_digest_98 : decode cX7_digest 98 = .ok (.iconst 0, 1) := by decide +kernel
theorem dX7_digest_99 : decode cX7_digest 99 = .ok (.istore_n 3, 1) := by decide +kernel
theorem dX7_digest_100 : decode cX7_digest 100 = .ok (.iload_n 3, 1) := by decide +kernel
theorem dX7_digest_101 : decode cX7_digest 101 = .ok (.iconst 5, 1) := by decide +kernel
theorem dX7_digest_102 : decode cX7_digest 102 = .ok (.if_icmp .ge 39, 3) := by decide +kernel
theorem dX7_digest_105 : decode cX7_digest 105 = .ok (.iconst 0, 1) := by decide +kernel
theorem dX7_digest_106 : decode cX7_digest 106 = .ok (.istore 4, 2) := by decide +kernel
theorem dX7_digest_108 : decode cX7_digest 108 = .ok (.iload 4, 2) := by decide +kernel
theorem dX7_digest_110 : decode cX7_digest 110 = .ok (.iconst 4, 1) := by decide +kernel
theorem dX7_digest_111 : decode cX7_digest 111 = .ok (.if_icmp .ge 24, 3) := by decide +kernel
theorem dX7_digest_114 : decode cX7_digest 114 = .ok (.ldc2_w 213, 3) := by decide +kernel
theorem dX7_digest_117 : decode cX7_digest 117 = .ok (.lload_n 1, 1) := by decide +kernel
theorem dX7_digest_118 : decode cX7_digest 118 = .ok (.lmul, 1) := by decide +kernel
theorem dX7_digest_119 : decode cX7_digest 119 = .ok (.aload_n 0, 1) := by decide +kernel
theorem dX7_digest_120 : decode cX7_digest 120 = .ok (.iload_n 3, 1) := by decide +kernel
theorem dX7_digest_121 : decode cX7_digest 121 = .ok (.iload 4, 2) := by decide +kernel
theorem dX7_digest_123 : decode cX7_digest 123 = .ok (.invokevirtual 122, 3) := by decide +kernel
theorem dX7_digest_126 : decode cX7_digest 126 = .ok (.i2l, 1) := by decide +kernel
theorem dX7_digest_127 : decode cX7_digest 127 = .ok (.ladd, 1) := by decide +kernel
theorem dX7_digest_128 : decode cX7_digest 128 = .ok (.lstore_n 1, 1) := by decide +kernel
theorem dX7_digest_129 : decode cX7_digest 129 = .ok (.iinc 4 1, 3) := by decide +kernel
theorem dX7_digest_132 : decode cX7_digest 132 = .ok (.goto (-24), 3) := by decide +kernel
theorem dX7_digest_135 : decode cX7_digest 135 = .ok (.iinc 3 1, 3) := by decide +kernel
theorem dX7_digest_138 : decode cX7_digest 138 = .ok (.goto (-38), 3) := by decide +kernel
theorem dX7_digest_141 : decode cX7_digest 141 = .ok (.iconst 0, 1) := by decide +kernel
theorem dX7_digest_142 : decode cX7_digest 142 = .ok (.istore_n 3, 1) := by decide +kernel
theorem dX7_digest_143 : decode cX7_digest 143 = .ok (.iload_n 3, 1) := by decide +kernel
theorem dX7_digest_144 : decode cX7_digest 144 = .ok (.bipush 13, 2) := by decide +kernel
theorem dX7_digest_146 : decode cX7_digest 146 = .ok (.if_icmp .ge 22, 3) := by decide +kernel
theorem dX7_digest_149 : decode cX7_digest 149 = .ok (.ldc2_w 213, 3) := by decide +kernel
theorem dX7_digest_152 : decode cX7_digest 152 = .ok (.lload_n 1, 1) := by decide +kernel
theorem dX7_digest_153 : decode cX7_digest 153 = .ok (.lmul, 1) := by decide +kernel
theorem dX7_digest_154 : decode cX7_digest 154 = .ok (.aload_n 0, 1) := by decide +kernel
theorem dX7_digest_155 : decode cX7_digest 155 = .ok (.iload_n 3, 1) := by decide +kernel
theorem dX7_digest_156 : decode cX7_digest 156 = .ok (.invokevirtual 160, 3) := by decide +kernel
theorem dX7_digest_159 : decode cX7_digest 159 = .ok (.i2l, 1) := by decide +kernel
theorem dX7_digest_160 : decode cX7_digest 160 = .ok (.ladd, 1) := by decide +kernel
theorem dX7_digest_161 : decode cX7_digest 161 = .ok (.lstore_n 1, 1) := by decide +kernel
theorem dX7_digest_162 : decode cX7_digest 162 = .ok (.iinc 3 1, 3) := by decide +kernel
theorem dX7_digest_165 : decode cX7_digest 165 = .ok (.goto (-22), 3) := by decide +kernel
theorem dX7_digest_168 : decode cX7_digest 168 = .ok (.lload_n 1, 1) := by decide +kernel
theorem dX7_digest_169 : decode cX7_digest 169 = .ok (.lreturn, 1) := by decide +kernel
theorem dJ11_isValidCodePoint_9a6ad_0 : decode cJ11_isValidCodePoint_9a6ad 0 = .ok (.iload_n 0, 1) := by decide +kernel
theorem dJ11_isValidCodePoint_9a6ad_1 : decode cJ11_isValidCodePoint_9a6ad 1 = .ok (.bipush 16, 2) := by decide +kernel
theorem dJ11_isValidCodePoint_9a6ad_3 : decode cJ11_isValidCodePoint_9a6ad 3 = .ok (.iushr, 1) := by decide +kernel
theorem dJ11_isValidCodePoint_9a6ad_4 : decode cJ11_isValidCodePoint_9a6ad 4 = .ok (.istore_n 1, 1) := by decide +kernel
theorem dJ11_isValidCodePoint_9a6ad_5 : decode cJ11_isValidCodePoint_9a6ad 5 = .ok (.iload_n 1, 1) := by decide +kernel
theorem dJ11_isValidCodePoint_9a6ad_6 : decode cJ11_isValidCodePoint_9a6ad 6 = .ok (.bipush 17, 2) := by decide +kernel
theorem dJ11_isValidCodePoint_9a6ad_8 : decode cJ11_isValidCodePoint_9a6ad 8 = .ok (.if_icmp .ge 7, 3) := by decide +kernel
theorem dJ11_isValidCodePoint_9a6ad_11 : decode cJ11_isValidCodePoint_9a6ad 11 = .ok (.iconst 1, 1) := by decide +kernel
theorem dJ11_isValidCodePoint_9a6ad_12 : decode cJ11_isValidCodePoint_9a6ad 12 = .ok (.goto 4, 3) := by decide +kernel
theorem dJ11_isValidCodePoint_9a6ad_15 : decode cJ11_isValidCodePoint_9a6ad 15 = .ok (.iconst 0, 1) := by decide +kernel
theorem dJ11_isValidCodePoint_9a6ad_16 : decode cJ11_isValidCodePoint_9a6ad 16 = .ok (.ireturn, 1) := by decide +kernel
theorem dJ11_highSurrogate_5068e_0 : decode cJ11_highSurrogate_5068e 0 = .ok (.iload_n 0, 1) := by decide +kernel
theorem dJ11_highSurrogate_5068e_1 : decode cJ11_highSurrogate_5068e 1 = .ok (.bipush 10, 2) := by decide +kernel
theorem dJ11_highSurrogate_5068e_3 : decode cJ11_highSurrogate_5068e 3 = .ok (.iushr, 1) := by decide +kernel
theorem dJ11_highSurrogate_5068e_4 : decode cJ11_highSurrogate_5068e 4 = .ok (.ldc 110, 2) := by decide +kernel
theorem dJ11_highSurrogate_5068e_6 : decode cJ11_highSurrogate_5068e 6 = .ok (.iadd, 1) := by decide +kernel
theorem dJ11_highSurrogate_5068e_7 : decode cJ11_highSurrogate_5068e 7 = .ok (.i2c, 1) := by decide +kernel
theorem dJ11_highSurrogate_5068e_8 : decode cJ11_highSurrogate_5068e 8 = .ok (.ireturn, 1) := by decide +kernel
theorem dJ11_lowSurrogate_5068e_0 : decode cJ11_lowSurrogate_5068e 0 = .ok (.iload_n 0, 1) := by decide +kernel
theorem dJ11_lowSurrogate_5068e_1 : decode cJ11_lowSurrogate_5068e 1 = .ok (.sipush 1023, 3) := by decide +kernel
theorem dJ11_lowSurrogate_5068e_4 : decode cJ11_lowSurrogate_5068e 4 = .ok (.iand, 1) := by decide +kernel
theorem dJ11_lowSurrogate_5068e_5 : decode cJ11_lowSurrogate_5068e 5 = .ok (.ldc 76, 2) := by decide +kernel
theorem dJ11_lowSurrogate_5068e_7 : decode cJ11_lowSurrogate_5068e 7 = .ok (.iadd, 1) := by decide +kernel
theorem dJ11_lowSurrogate_5068e_8 : decode cJ11_lowSurrogate_5068e 8 = .ok (.i2c, 1) := by decide +kernel
theorem dJ11_lowSurrogate_5068e_9 : decode cJ11_lowSurrogate_5068e 9 = .ok (.ireturn, 1) := by decide +kernel
theorem dJ6_numberOfTrailingZeros_0f7a4_0 : decode cJ6_numberOfTrailingZeros_0f7a4 0 = .ok (.iload_n 0, 1) := by decide +kernel
theorem dJ6_numberOfTrailingZeros_0f7a4_1 : decode cJ6_numberOfTrailingZeros_0f7a4 1 = .ok (.iconst (-1), 1) := by decide +kernel
theorem dJ6_numberOfTrailingZeros_0f7a4_2 : decode cJ6_numberOfTrailingZeros_0f7a4 2 = .ok (.ixor, 1) := by decide +kernel
theorem dJ6_numberOfTrailingZeros_0f7a4_3 : decode cJ6_numberOfTrailingZeros_0f7a4 3 = .ok (.iload_n 0, 1) := by decide +kernel
theorem dJ6_numberOfTrailingZeros_0f7a4_4 : decode cJ6_numberOfTrailingZeros_0f7a4 4 = .ok (.iconst 1, 1) := by decide +kernel
theorem dJ6_numberOfTrailingZeros_0f7a4_5 : decode cJ6_numberOfTrailingZeros_0f7a4 5 = .ok (.isub, 1) := by decide +kernel
theorem dJ6_numberOfTrailingZeros_0f7a4_6 : decode cJ6_numberOfTrailingZeros_0f7a4 6 = .ok (.iand, 1) := by decide +kernel
theorem dJ6_numberOfTrailingZeros_0f7a4_7 : decode cJ6_numberOfTrailingZeros_0f7a4 7 = .ok (.istore_n 0, 1) := by decide +kernel
theorem dJ6_numberOfTrailingZeros_0f7a4_8 : decode cJ6_numberOfTrailingZeros_0f7a4 8 = .ok (.iload_n 0, 1) := by decide +kernel
theorem dJ6_numberOfTrailingZeros_0f7a4_9 : decode cJ6_numberOfTrailingZeros_0f7a4 9 = .ok (.ifCond .gt 8, 3) := by decide +kernel
theorem dJ6_numberOfTrailingZeros_0f7a4_12 : decode cJ6_numberOfTrailingZeros_0f7a4 12 = .ok (.iload_n 0, 1) := by decide +kernel
theorem dJ6_numberOfTrailingZeros_0f7a4_13 : decode cJ6_numberOfTrailingZeros_0f7a4 13 = .ok (.bipush 32, 2) := by decide +kernel
theorem dJ6_numberOfTrailingZeros_0f7a4_15 : decode cJ6_numberOfTrailingZeros_0f7a4 15 = .ok (.iand, 1) := by decide +kernel
theorem dJ6_numberOfTrailingZeros_0f7a4_16 : decode cJ6_numberOfTrailingZeros_0f7a4 16 = .ok (.ireturn, 1) := by decide +kernel
theorem dJ6_numberOfTrailingZeros_0f7a4_17 : decode cJ6_numberOfTrailingZeros_0f7a4 17 = .ok (.iconst 1, 1) := by decide +kernel
theorem dJ6_numberOfTrailingZeros_0f7a4_18 : decode cJ6_numberOfTrailingZeros_0f7a4 18 = .ok (.istore_n 1, 1) := by decide +kernel
theorem dJ6_numberOfTrailingZeros_0f7a4_19 : decode cJ6_numberOfTrailingZeros_0f7a4 19 = .ok (.iload_n 0, 1) := by decide +kernel
theorem dJ6_numberOfTrailingZeros_0f7a4_20 : decode cJ6_numberOfTrailingZeros_0f7a4 20 = .ok (.ldc_w 264, 3) := by decide +kernel
theorem dJ6_numberOfTrailingZeros_0f7a4_23 : decode cJ6_numberOfTrailingZeros_0f7a4 23 = .ok (.if_icmp .le 11, 3) := by decide +kernel
theorem dJ6_numberOfTrailingZeros_0f7a4_26 : decode cJ6_numberOfTrailingZeros_0f7a4 26 = .ok (.iinc 1 16, 3) := by decide +kernel
theorem dJ6_numberOfTrailingZeros_0f7a4_29 : decode cJ6_numberOfTrailingZeros_0f7a4 29 = .ok (.iload_n 0, 1) := by decide +kernel
theorem dJ6_numberOfTrailingZeros_0f7a4_30 : decode cJ6_numberOfTrailingZeros_0f7a4 30 = .ok (.bipush 16, 2) := by decide +kernel
theorem dJ6_numberOfTrailingZeros_0f7a4_32 : decode cJ6_numberOfTrailingZeros_0f7a4 32 = .ok (.iushr, 1) := by decide +kernel
theorem dJ6_numberOfTrailingZeros_0f7a4_33 : decode cJ6_numberOfTrailingZeros_0f7a4 33 = .ok (.istore_n 0, 1) := by decide +kernel
theorem dJ6_numberOfTrailingZeros_0f7a4_34 : decode cJ6_numberOfTrailingZeros_0f7a4 34 = .ok (.iload_n 0, 1) := by decide +kernel
theorem dJ6_numberOfTrailingZeros_0f7a4_35 : decode cJ6_numberOfTrailingZeros_0f7a4 35 = .ok (.sipush 256, 3) := by decide +kernel
theorem dJ6_numberOfTrailingZeros_0f7a4_38 : decode cJ6_numberOfTrailingZeros_0f7a4 38 = .ok (.if_icmp .le 11, 3) := by decide +kernel
theorem dJ6_numberOfTrailingZeros_0f7a4_41 : decode cJ6_numberOfTrailingZeros_0f7a4 41 = .ok (.iinc 1 8, 3) := by decide +kernel
theorem dJ6_numberOfTrailingZeros_0f7a4_44 : decode cJ6_numberOfTrailingZeros_0f7a4 44 = .ok (.iload_n 0, 1) := by decide +kernel
theorem dJ6_numberOfTrailingZeros_0f7a4_45 : decode cJ6_numberOfTrailingZeros_0f7a4 45 = .ok (.bipush 8, 2) := by decide +kernel
theorem dJ6_numberOfTrailingZeros_0f7a4_47 : decode cJ6_numberOfTrailingZeros_0f7a4 47 = .ok (.iushr, 1) := by decide +kernel
theorem dJ6_numberOfTrailingZeros_0f7a4_48 : decode cJ6_numberOfTrailingZeros_0f7a4 48 = .ok (.istore_n 0, 1) := by decide +kernel
theorem dJ6_numberOfTrailingZeros_0f7a4_49 : decode cJ6_numberOfTrailingZeros_0f7a4 49 = .ok (.iload_n 0, 1) := by decide +kernel
theorem dJ6_numberOfTrailingZeros_0f7a4_50 : decode cJ6_numberOfTrailingZeros_0f7a4 50 = .ok (.bipush 16, 2) := by decide +kernel
theorem dJ6_numberOfTrailingZeros_0f7a4_52 : decode cJ6_numberOfTrailingZeros_0f7a4 52 = .ok (.if_icmp .le 10, 3) := by decide +kernel
theorem dJ6_numberOfTrailingZeros_0f7a4_55 : decode cJ6_numberOfTrailingZeros_0f7a4 55 = .ok (.iinc 1 4, 3) := by decide +kernel
theorem dJ6_numberOfTrailingZeros_0f7a4_58 : decode cJ6_numberOfTrailingZeros_0f7a4 58 = .ok (.iload_n 0, 1) := by decide +kernel
theorem dJ6_numberOfTrailingZeros_0f7a4_59 : decode cJ6_numberOfTrailingZeros_0f7a4 59 = .ok (.iconst 4, 1) := by decide +kernel
theorem dJ6_numberOfTrailingZeros_0f7a4_60 : decode cJ6_numberOfTrailingZeros_0f7a4 60 = .ok (.iushr, 1) := by decide +kernel
theorem dJ6_numberOfTrailingZeros_0f7a4_61 : decode cJ6_numberOfTrailingZeros_0f7a4 61 = .ok (.istore_n 0, 1) := by decide +kernel
theorem dJ6_numberOfTrailingZeros_0f7a4_62 : decode cJ6_numberOfTrailingZeros_0f7a4 62 = .ok (.iload_n 0, 1) := by decide +kernel
theorem dJ6_numberOfTrailingZeros_0f7a4_63 : decode cJ6_numberOfTrailingZeros_0f7a4 63 = .ok (.iconst 4, 1) := by decide +kernel
theorem dJ6_numberOfTrailingZeros_0f7a4_64 : decode cJ6_numberOfTrailingZeros_0f7a4 64 = .ok (.if_icmp .le 10, 3) := by decide +kernel
theorem dJ6_numberOfTrailingZeros_0f7a4_67 : decode cJ6_numberOfTrailingZeros_0f7a4 67 = .ok (.iinc 1 2, 3) := by decide +kernel
theorem dJ6_numberOfTrailingZeros_0f7a4_70 : decode cJ6_numberOfTrailingZeros_0f7a4 70 = .ok (.iload_n 0, 1) := by decide +kernel
theorem dJ6_numberOfTrailingZeros_0f7a4_71 : decode cJ6_numberOfTrailingZeros_0f7a4 71 = .ok (.iconst 2, 1) := by decide +kernel
theorem dJ6_numberOfTrailingZeros_0f7a4_72 : decode cJ6_numberOfTrailingZeros_0f7a4 72 = .ok (.iushr, 1) := by decide +kernel
theorem dJ6_numberOfTrailingZeros_0f7a4_73 : decode cJ6_numberOfTrailingZeros_0f7a4 73 = .ok (.istore_n 0, 1) := by decide +kernel
theorem dJ6_numberOfTrailingZeros_0f7a4_74 : decode cJ6_numberOfTrailingZeros_0f7a4 74 = .ok (.iload_n 1, 1) := by decide +kernel
theorem dJ6_numberOfTrailingZeros_0f7a4_75 : decode cJ6_numberOfTrailingZeros_0f7a4 75 = .ok (.iload_n 0, 1) := by decide +kernel
theorem dJ6_numberOfTrailingZeros_0f7a4_76 : decode cJ6_numberOfTrailingZeros_0f7a4 76 = .ok (.iconst 1, 1) := by decide +kernel
theorem dJ6_numberOfTrailingZeros_0f7a4_77 : decode cJ6_numberOfTrailingZeros_0f7a4 77 = .ok (.iushr, 1) := by decide +kernel
theorem dJ6_numberOfTrailingZeros_0f7a4_78 : decode cJ6_numberOfTrailingZeros_0f7a4 78 = .ok (.iadd, 1) := by decide +kernel
theorem dJ6_numberOfTrailingZeros_0f7a4_79 : decode cJ6_numberOfTrailingZeros_0f7a4 79 = .ok (.ireturn, 1) := by decide +kernel
theorem dJ6_bitCount_0f7a4_0 : decode cJ6_bitCount_0f7a4 0 = .ok (.iload_n 0, 1) := by decide +kernel
theorem dJ6_bitCount_0f7a4_1 : decode cJ6_bitCount_0f7a4 1 = .ok (.iload_n 0, 1) := by decide +kernel
theorem dJ6_bitCount_0f7a4_2 : decode cJ6_bitCount_0f7a4 2 = .ok (.iconst 1, 1) := by decide +kernel
theorem dJ6_bitCount_0f7a4_3 : decode cJ6_bitCount_0f7a4 3 = .ok (.iushr, 1) := by decide +kernel
theorem dJ6_bitCount_0f7a4_4 : decode cJ6_bitCount_0f7a4 4 = .ok (.ldc_w 265, 3) := by decide +kernel
theorem dJ6_bitCount_0f7a4_7 : decode cJ6_bitCount_0f7a4 7 = .ok (.iand, 1) := by decide +kernel
theorem dJ6_bitCount_0f7a4_8 : decode cJ6_bitCount_0f7a4 8 = .ok (.isub, 1) := by decide +kernel
theorem dJ6_bitCount_0f7a4_9 : decode cJ6_bitCount_0f7a4 9 = .ok (.istore_n 0, 1) := by decide +kernel
theorem dJ6_bitCount_0f7a4_10 : decode cJ6_bitCount_0f7a4 10 = .ok (.iload_n 0, 1) := by decide +kernel
theorem dJ6_bitCount_0f7a4_11 : decode cJ6_bitCount_0f7a4 11 = .ok (.ldc_w 266, 3) := by decide +kernel
theorem dJ6_bitCount_0f7a4_14 : decode cJ6_bitCount_0f7a4 14 = .ok (.iand, 1) := by decide +kernel
theorem dJ6_bitCount_0f7a4_15 : decode cJ6_bitCount_0f7a4 15 = .ok (.iload_n 0, 1) := by decide +kernel
theorem dJ6_bitCount_0f7a4_16 : decode cJ6_bitCount_0f7a4 16 = .ok (.iconst 2, 1) := by decide +kernel
theorem dJ6_bitCount_0f7a4_17 : decode cJ6_bitCount_0f7a4 17 = .ok (.iushr, 1) := by decide +kernel
theorem dJ6_bitCount_0f7a4_18 : decode cJ6_bitCount_0f7a4 18 = .ok (.ldc_w 266, 3) := by decide +kernel
theorem dJ6_bitCount_0f7a4_21 : decode cJ6_bitCount_0f7a4 21 = .ok (.iand, 1) := by decide +kernel
theorem dJ6_bitCount_0f7a4_22 : decode cJ6_bitCount_0f7a4 22 = .ok (.iadd, 1) := by decide +kernel
theorem dJ6_bitCount_0f7a4_23 : decode cJ6_bitCount_0f7a4 23 = .ok (.istore_n 0, 1) := by decide +kernel
theorem dJ6_bitCount_0f7a4_24 : decode cJ6_bitCount_0f7a4 24 = .ok (.iload_n 0, 1) := by decide +kernel
theorem dJ6_bitCount_0f7a4_25 : decode cJ6_bitCount_0f7a4 25 = .ok (.iload_n 0, 1) := by decide +kernel
theorem dJ6_bitCount_0f7a4_26 : decode cJ6_bitCount_0f7a4 26 = .ok (.iconst 4, 1) := by decide +kernel
theorem dJ6_bitCount_0f7a4_27 : decode cJ6_bitCount_0f7a4 27 = .ok (.iushr, 1) := by decide +kernel
theorem dJ6_bitCount_0f7a4_28 : decode cJ6_bitCount_0f7a4 28 = .ok (.iadd, 1) := by decide +kernel
theorem dJ6_bitCount_0f7a4_29 : decode cJ6_bitCount_0f7a4 29 = .ok (.ldc_w 267, 3) := by decide +kernel
theorem dJ6_bitCount_0f7a4_32 : decode cJ6_bitCount_0f7a4 32 = .ok (.iand, 1) := by decide +kernel
theorem dJ6_bitCount_0f7a4_33 : decode cJ6_bitCount_0f7a4 33 = .ok (.istore_n 0, 1) := by decide +kernel
theorem dJ6_bitCount_0f7a4_34 : decode cJ6_bitCount_0f7a4 34 = .ok (.iload_n 0, 1) := by decide +kernel
theorem dJ6_bitCount_0f7a4_35 : decode cJ6_bitCount_0f7a4 35 = .ok (.iload_n 0, 1) := by decide +kernel
theorem dJ6_bitCount_0f7a4_36 : decode cJ6_bitCount_0f7a4 36 = .ok (.bipush 8, 2) := by decide +kernel
theorem dJ6_bitCount_0f7a4_38 : decode cJ6_bitCount_0f7a4 38 = .ok (.iushr, 1) := by decide +kernel
theorem dJ6_bitCount_0f7a4_39 : decode cJ6_bitCount_0f7a4 39 = .ok (.iadd, 1) := by decide +kernel
theorem dJ6_bitCount_0f7a4_40 : decode cJ6_bitCount_0f7a4 40 = .ok (.istore_n 0, 1) := by decide +kernel
theorem dJ6_bitCount_0f7a4_41 : decode cJ6_bitCount_0f7a4 41 = .ok (.iload_n 0, 1) := by decide +kernel
theorem dJ6_bitCount_0f7a4_42 : decode cJ6_bitCount_0f7a4 42 = .ok (.iload_n 0, 1) := by decide +kernel
theorem dJ6_bitCount_0f7a4_43 : decode cJ6_bitCount_0f7a4 43 = .ok (.bipush 16, 2) := by decide +kernel
theorem dJ6_bitCount_0f7a4_45 : decode cJ6_bitCount_0f7a4 45 = .ok (.iushr, 1) := by decide +kernel
theorem dJ6_bitCount_0f7a4_46 : decode cJ6_bitCount_0f7a4 46 = .ok (.iadd, 1) := by decide +kernel
theorem dJ6_bitCount_0f7a4_47 : decode cJ6_bitCount_0f7a4 47 = .ok (.istore_n 0, 1) := by decide +kernel
theorem dJ6_bitCount_0f7a4_48 : decode cJ6_bitCount_0f7a4 48 = .ok (.iload_n 0, 1) := by decide +kernel
theorem dJ6_bitCount_0f7a4_49 : decode cJ6_bitCount_0f7a4 49 = .ok (.bipush 63, 2) := by decide +kernel
theorem dJ6_bitCount_0f7a4_51 : decode cJ6_bitCount_0f7a4 51 = .ok (.iand, 1) := by decide +kernel
theorem dJ6_bitCount_0f7a4_52 : decode cJ6_bitCount_0f7a4 52 = .ok (.ireturn, 1) := by decide +kernel
theorem dJ9_max_7cf53_0 : decode cJ9_max_7cf53 0 = .ok (.iload_n 0, 1) := by decide +kernel
theorem dJ9_max_7cf53_1 : decode cJ9_max_7cf53 1 = .ok (.iload_n 1, 1) := by decide +kernel
theorem dJ9_max_7cf53_2 : decode cJ9_max_7cf53 2 = .ok (.if_icmp .lt 7, 3) := by decide +kernel
theorem dJ9_max_7cf53_5 : decode cJ9_max_7cf53 5 = .ok (.iload_n 0, 1) := by decide +kernel
theorem dJ9_max_7cf53_6 : decode cJ9_max_7cf53 6 = .ok (.goto 4, 3) := by decide +kernel
theorem dJ9_max_7cf53_9 : decode cJ9_max_7cf53 9 = .ok (.iload_n 1, 1) := by decide +kernel
theorem dJ9_max_7cf53_10 : decode cJ9_max_7cf53 10 = .ok (.ireturn, 1) := by decide +kernel
theorem dJ9_min_7cf53_0 : decode cJ9_min_7cf53 0 = .ok (.iload_n 0, 1) := by decide +kernel
theorem dJ9_min_7cf53_1 : decode cJ9_min_7cf53 1 = .ok (.iload_n 1, 1) := by decide +kernel
theorem dJ9_min_7cf53_2 : decode cJ9_min_7cf53 2 = .ok (.if_icmp .gt 7, 3) := by decide +kernel
theorem dJ9_min_7cf53_5 : decode cJ9_min_7cf53 5 = .ok (.iload_n 0, 1) := by decide +kernel
theorem dJ9_min_7cf53_6 : decode cJ9_min_7cf53 6 = .ok (.goto 4, 3) := by decide +kernel
theorem dJ9_min_7cf53_9 : decode cJ9_min_7cf53 9 = .ok (.iload_n 1, 1) := by decide +kernel
theorem dJ9_min_7cf53_10 : decode cJ9_min_7cf53 10 = .ok (.ireturn, 1) := by decide +kernel
set_option maxRecDepth 20000 in
theorem ggJ0_length_8abf5_J0_coder_7d493 : GoodIn wsJ0_length_8abf5 wsJ0_coder_7d493 := goodIn_r _ [6, 7, 8] (by decide +kernel) (by decide +kernel)
set_option maxRecDepth 20000 in
theorem gJ0_length_8abf5_J0_coder_7d493 : GoodIn wsJ0_length_8abf5 (wsV RJ0 335 RJ0 yJ0_coder_7d493 wsJ0_coder_7d493) := goodIn_app (goodIn_of _ (by decide +kernel)) ggJ0_length_8abf5_J0_coder_7d493
theorem dJ0_length_8abf5_0 : decode cJ0_length_8abf5 0 = .ok (.aload_n 0, 1) := by decide +kernel
theorem dJ0_length_8abf5_1 : decode cJ0_length_8abf5 1 = .ok (.getfield 9, 3) := by decide +kernel
theorem dJ0_length_8abf5_4 : decode cJ0_length_8abf5 4 = .ok (.arraylength, 1) := by decide +kernel
theorem dJ0_length_8abf5_5 : decode cJ0_length_8abf5 5 = .ok (.aload_n 0, 1) := by decide +kernel
theorem dJ0_length_8abf5_6 : decode cJ0_length_8abf5 6 = .ok (.invokevirtual 335, 3) := by decide +kernel
theorem dJ0_length_8abf5_9 : decode cJ0_length_8abf5 9 = .ok (.ishr, 1) := by decide +kernel
theorem dJ0_length_8abf5_10 : decode cJ0_length_8abf5 10 = .ok (.ireturn, 1) := by decide +kernel
set_option maxRecDepth 20000 in
theorem ggJ0_indexOf_0f7a4_J0_indexOf_7cf53 : GoodIn wsJ0_indexOf_0f7a4 wsJ0_indexOf_7cf53 := goodIn_r _ [5, 6, 7, 8, 9, 4, 10, 11, 12, 13, 14, 15, 16, 17, 18, 19, 20, 21, 22, 23, 24, 25, 26, 27, 28, 29, 30, 31, 32, 33, 34, 35, 36, 37, 38, 39, 40, 41, 42, 43, 44, 45, 46, 47, 48, 49, 50, 51, 52, 53, 54, 55, 56, 57, 58, 59, 60, 61, 62, 63, 64, 65, 66, 67, 68, 69, 70, 71, 72, 73, 74, 75, 76, 77, 78, 79, 80, 81, 82, 83, 84, 85] (by decide +kernel) (by decide +kernel)
set_option maxRecDepth 20000 in
theorem gJ0_indexOf_0f7a4_J0_indexOf_7cf53 : GoodIn wsJ0_indexOf_0f7a4 (wsV RJ0 633 RJ0 yJ0_indexOf_7cf53 wsJ0_indexOf_7cf53) := goodIn_app (goodIn_of _ (by decide +kernel)) ggJ0_indexOf_0f7a4_J0_indexOf_7cf53
theorem dJ0_indexOf_0f7a4_0 : decode cJ0_indexOf_0f7a4 0 = .ok (.aload_n 0, 1) := by decide +kernel
theorem dJ0_indexOf_0f7a4_1 : decode cJ0_indexOf_0f7a4 1 = .ok (.iload_n 1, 1) := by decide +kernel
theorem dJ0_indexOf_0f7a4_2 : decode cJ0_indexOf_0f7a4 2 = .ok (.iconst 0, 1) := by decide +kernel
theorem dJ0_indexOf_0f7a4_3 : decode cJ0_indexOf_0f7a4 3 = .ok (.invokevirtual 633, 3) := by decide +kernel
theorem dJ0_indexOf_0f7a4_6 : decode cJ0_indexOf_0f7a4 6 = .ok (.ireturn, 1) := by decide +kernel
set_option maxRecDepth 20000 in
theorem ggJ0_indexOf_7cf53_J0_isLatin1_aae02 : GoodIn wsJ0_indexOf_7cf53 wsJ0_isLatin1_aae02 := goodIn_r _ [6, 7, 8] (by decide +kernel) (by decide +kernel)
set_option maxRecDepth 20000 in
theorem gJ0_indexOf_7cf53_J0_isLatin1_aae02 : GoodIn wsJ0_indexOf_7cf53 (wsV RJ0 492 RJ0 yJ0_isLatin1_aae02 wsJ0_isLatin1_aae02) := goodIn_app (goodIn_of _ (by decide +kernel)) ggJ0_indexOf_7cf53_J0_isLatin1_aae02
set_option maxRecDepth 20000 in
theorem ggJ0_indexOf_7cf53_J0_length_8abf5 : GoodIn wsJ0_indexOf_7cf53 wsJ0_length_8abf5 := goodIn_r _ [12, 1, 13, 14, 15, 5, 16, 7, 8] (by decide +kernel) (by decide +kernel)
set_option maxRecDepth 20000 in
theorem gJ0_indexOf_7cf53_J0_length_8abf5 : GoodIn wsJ0_indexOf_7cf53 (wsV RJ0 505 RJ0 yJ0_length_8abf5 wsJ0_length_8abf5) := goodIn_app (goodIn_of _ (by decide +kernel)) ggJ0_indexOf_7cf53_J0_length_8abf5
set_option maxRecDepth 20000 in
theorem ggJ0_indexOf_7cf53_J1_indexOf_4cfef : GoodIn wsJ0_indexOf_7cf53 wsJ1_indexOf_4cfef := goodIn_r _ [20, 21, 22, 23, 24, 25, 26, 27, 28, 29, 19, 30, 31, 32, 33] (by decide +kernel) (by decide +kernel)
set_option maxRecDepth 20000 in
theorem gJ0_indexOf_7cf53_J1_indexOf_4cfef : GoodIn wsJ0_indexOf_7cf53 (va_wsS RJ0 637 yJ1_indexOf_4cfef wsJ1_indexOf_4cfef) := goodIn_app (goodIn_of _ (by decide +kernel)) ggJ0_indexOf_7cf53_J1_indexOf_4cfef
set_option maxRecDepth 20000 in
theorem ggJ0_indexOf_7cf53_J2_indexOf_4cfef : GoodIn wsJ0_indexOf_7cf53 wsJ2_indexOf_4cfef := goodIn_r _ [37, 38, 22, 23, 24, 39, 26, 27, 40, 41, 42, 36, 43, 44, 45, 46, 47, 48, 49, 50, 51, 5, 52, 53, 54, 55, 56, 57, 58, 59, 60, 61, 62, 63, 64, 65, 66, 67, 68, 69, 70, 71, 72, 73, 74, 75, 76, 77, 78, 79, 80, 81] (by decide +kernel) (by decide +kernel)
set_option maxRecDepth 20000 in
theorem gJ0_indexOf_7cf53_J2_indexOf_4cfef : GoodIn wsJ0_indexOf_7cf53 (va_wsS RJ0 640 yJ2_indexOf_4cfef wsJ2_indexOf_4cfef) := goodIn_app (goodIn_of _ (by decide +kernel)) ggJ0_indexOf_7cf53_J2_indexOf_4cfef
theorem dJ0_indexOf_7cf53_0 : decode cJ0_indexOf_7cf53 0 = .ok (.aload_n 0, 1) := by decide +kernel
theorem dJ0_indexOf_7cf53_1 : decode cJ0_indexOf_7cf53 1 = .ok (.invokevirtual 492, 3) := by decide +kernel
theorem dJ0_indexOf_7cf53_4 : decode cJ0_indexOf_7cf53 4 = .ok (.ifCond .eq 19, 3) := by decide +kernel
theorem dJ0_indexOf_7cf53_7 : decode cJ0_indexOf_7cf53 7 = .ok (.aload_n 0, 1) := by decide +kernel
theorem dJ0_indexOf_7cf53_8 : decode cJ0_indexOf_7cf53 8 = .ok (.getfield 9, 3) := by decide +kernel
theorem dJ0_indexOf_7cf53_11 : decode cJ0_indexOf_7cf53 11 = .ok (.iload_n 1, 1) := by decide +kernel
theorem dJ0_indexOf_7cf53_12 : decode cJ0_indexOf_7cf53 12 = .ok (.iload_n 2, 1) := by decide +kernel
theorem dJ0_indexOf_7cf53_13 : decode cJ0_indexOf_7cf53 13 = .ok (.aload_n 0, 1) := by decide +kernel
theorem dJ0_indexOf_7cf53_14 : decode cJ0_indexOf_7cf53 14 = .ok (.invokevirtual 505, 3) := by decide +kernel
theorem dJ0_indexOf_7cf53_17 : decode cJ0_indexOf_7cf53 17 = .ok (.invokestatic 637, 3) := by decide +kernel
theorem dJ0_indexOf_7cf53_20 : decode cJ0_indexOf_7cf53 20 = .ok (.goto 16, 3) := by decide +kernel
theorem dJ0_indexOf_7cf53_23 : decode cJ0_indexOf_7cf53 23 = .ok (.aload_n 0, 1) := by decide +kernel
theorem dJ0_indexOf_7cf53_24 : decode cJ0_indexOf_7cf53 24 = .ok (.getfield 9, 3) := by decide +kernel
theorem dJ0_indexOf_7cf53_27 : decode cJ0_indexOf_7cf53 27 = .ok (.iload_n 1, 1) := by decide +kernel
theorem dJ0_indexOf_7cf53_28 : decode cJ0_indexOf_7cf53 28 = .ok (.iload_n 2, 1) := by decide +kernel
theorem dJ0_indexOf_7cf53_29 : decode cJ0_indexOf_7cf53 29 = .ok (.aload_n 0, 1) := by decide +kernel
theorem dJ0_indexOf_7cf53_30 : decode cJ0_indexOf_7cf53 30 = .ok (.invokevirtual 505, 3) := by decide +kernel
theorem dJ0_indexOf_7cf53_33 : decode cJ0_indexOf_7cf53 33 = .ok (.invokestatic 640, 3) := by decide +kernel
theorem dJ0_indexOf_7cf53_36 : decode cJ0_indexOf_7cf53 36 = .ok (.ireturn, 1) := by decide +kernel
theorem dJ0_coder_7d493_0 : decode cJ0_coder_7d493 0 = .ok (.getstatic 38, 3) := by decide +kernel
theorem dJ0_coder_7d493_3 : decode cJ0_coder_7d493 3 = .ok (.ifCond .eq 10, 3) := by decide +kernel
theorem dJ0_coder_7d493_6 : decode cJ0_coder_7d493 6 = .ok (.aload_n 0, 1) := by decide +kernel
theorem dJ0_coder_7d493_7 : decode cJ0_coder_7d493 7 = .ok (.getfield 15, 3) := by decide +kernel
theorem dJ0_coder_7d493_10 : decode cJ0_coder_7d493 10 = .ok (.goto 4, 3) := by decide +kernel
theorem dJ0_coder_7d493_13 : decode cJ0_coder_7d493 13 = .ok (.iconst 1, 1) := by decide +kernel
theorem dJ0_coder_7d493_14 : decode cJ0_coder_7d493 14 = .ok (.ireturn, 1) := by decide +kernel
theorem dJ0_isLatin1_aae02_0 : decode cJ0_isLatin1_aae02 0 = .ok (.getstatic 38, 3) := by decide +kernel
theorem dJ0_isLatin1_aae02_3 : decode cJ0_isLatin1_aae02 3 = .ok (.ifCond .eq 14, 3) := by decide +kernel
theorem dJ0_isLatin1_aae02_6 : decode cJ0_isLatin1_aae02 6 = .ok (.aload_n 0, 1) := by decide +kernel
theorem dJ0_isLatin1_aae02_7 : decode cJ0_isLatin1_aae02 7 = .ok (.getfield 15, 3) := by decide +kernel
theorem dJ0_isLatin1_aae02_10 : decode cJ0_isLatin1_aae02 10 = .ok (.ifCond .ne 7, 3) := by decide +kernel
theorem dJ0_isLatin1_aae02_13 : decode cJ0_isLatin1_aae02 13 = .ok (.iconst 1, 1) := by decide +kernel
theorem dJ0_isLatin1_aae02_14 : decode cJ0_isLatin1_aae02 14 = .ok (.goto 4, 3) := by decide +kernel
theorem dJ0_isLatin1_aae02_17 : decode cJ0_isLatin1_aae02 17 = .ok (.iconst 0, 1) := by decide +kernel
theorem dJ0_isLatin1_aae02_18 : decode cJ0_isLatin1_aae02 18 = .ok (.ireturn, 1) := by decide +kernel
set_option maxRecDepth 20000 in
theorem ggJ0_checkBoundsBeginEnd_23922_J3_checkFromToIndex_8c36e : GoodIn wsJ0_checkBoundsBeginEnd_23922 wsJ3_checkFromToIndex_8c36e := goodIn_r _ [5] (by decide +kernel) (by decide +kernel)
set_option maxRecDepth 20000 in
theorem gJ0_checkBoundsBeginEnd_23922_J3_checkFromToIndex_8c36e : GoodIn wsJ0_checkBoundsBeginEnd_23922 (va_wsS RJ0 1062 yJ3_checkFromToIndex_8c36e wsJ3_checkFromToIndex_8c36e) := goodIn_app (goodIn_of _ (by decide +kernel)) ggJ0_checkBoundsBeginEnd_23922_J3_checkFromToIndex_8c36e
theorem dJ0_checkBoundsBeginEnd_23922_0 : decode cJ0_checkBoundsBeginEnd_23922 0 = .ok (.iload_n 0, 1) := by decide +kernel
theorem dJ0_checkBoundsBeginEnd_23922_1 : decode cJ0_checkBoundsBeginEnd_23922 1 = .ok (.iload_n 1, 1) := by decide +kernel
theorem dJ0_checkBoundsBeginEnd_23922_2 : decode cJ0_checkBoundsBeginEnd_23922 2 = .ok (.iload_n 2, 1) := by decide +kernel
theorem dJ0_checkBoundsBeginEnd_23922_3 : decode cJ0_checkBoundsBeginEnd_23922 3 = .ok (.getstatic 1053, 3) := by decide +kernel
theorem dJ0_checkBoundsBeginEnd_23922_6 : decode cJ0_checkBoundsBeginEnd_23922 6 = .ok (.invokestatic 1062, 3) := by decide +kernel
theorem dJ0_checkBoundsBeginEnd_23922_9 : decode cJ0_checkBoundsBeginEnd_23922 9 = .ok (.pop, 1) := by decide +kernel
theorem dJ0_checkBoundsBeginEnd_23922_10 : decode cJ0_checkBoundsBeginEnd_23922 10 = .ok (.return_, 1) := by decide +kernel
theorem dJ1_canEncode_9a6ad_0 : decode cJ1_canEncode_9a6ad 0 = .ok (.iload_n 0, 1) := by decide +kernel
theorem dJ1_canEncode_9a6ad_1 : decode cJ1_canEncode_9a6ad 1 = .ok (.ifCond .lt 14, 3) := by decide +kernel
theorem dJ1_canEncode_9a6ad_4 : decode cJ1_canEncode_9a6ad 4 = .ok (.iload_n 0, 1) := by decide +kernel
theorem dJ1_canEncode_9a6ad_5 : decode cJ1_canEncode_9a6ad 5 = .ok (.sipush 255, 3) := by decide +kernel
theorem dJ1_canEncode_9a6ad_8 : decode cJ1_canEncode_9a6ad 8 = .ok (.if_icmp .gt 7, 3) := by decide +kernel
theorem dJ1_canEncode_9a6ad_11 : decode cJ1_canEncode_9a6ad 11 = .ok (.iconst 1, 1) := by decide +kernel
theorem dJ1_canEncode_9a6ad_12 : decode cJ1_canEncode_9a6ad 12 = .ok (.goto 4, 3) := by decide +kernel
theorem dJ1_canEncode_9a6ad_15 : decode cJ1_canEncode_9a6ad 15 = .ok (.iconst 0, 1) := by decide +kernel
theorem dJ1_canEncode_9a6ad_16 : decode cJ1_canEncode_9a6ad 16 = .ok (.ireturn, 1) := by decide +kernel
set_option maxRecDepth 20000 in
theorem ggJ1_indexOf_4cfef_J1_canEncode_9a6ad : GoodIn wsJ1_indexOf_4cfef wsJ1_canEncode_9a6ad := goodIn_r _ [11] (by decide +kernel) (by decide +kernel)
set_option maxRecDepth 20000 in
theorem gJ1_indexOf_4cfef_J1_canEncode_9a6ad : GoodIn wsJ1_indexOf_4cfef (va_wsS RJ1 88 yJ1_canEncode_9a6ad wsJ1_canEncode_9a6ad) := goodIn_app (goodIn_of _ (by decide +kernel)) ggJ1_indexOf_4cfef_J1_canEncode_9a6ad
set_option maxRecDepth 20000 in
theorem ggJ1_indexOf_4cfef_J1_indexOfChar_4cfef : GoodIn wsJ1_indexOf_4cfef wsJ1_indexOfChar_4cfef := goodIn_r _ [14] (by decide +kernel) (by decide +kernel)
set_option maxRecDepth 20000 in
theorem gJ1_indexOf_4cfef_J1_indexOfChar_4cfef : GoodIn wsJ1_indexOf_4cfef (va_wsS RJ1 95 yJ1_indexOfChar_4cfef wsJ1_indexOfChar_4cfef) := goodIn_app (goodIn_of _ (by decide +kernel)) ggJ1_indexOf_4cfef_J1_indexOfChar_4cfef
theorem dJ1_indexOf_4cfef_0 : decode cJ1_indexOf_4cfef 0 = .ok (.iload_n 1, 1) := by decide +kernel
theorem dJ1_indexOf_4cfef_1 : decode cJ1_indexOf_4cfef 1 = .ok (.invokestatic 88, 3) := by decide +kernel
theorem dJ1_indexOf_4cfef_4 : decode cJ1_indexOf_4cfef 4 = .ok (.ifCond .ne 5, 3) := by decide +kernel
theorem dJ1_indexOf_4cfef_7 : decode cJ1_indexOf_4cfef 7 = .ok (.iconst (-1), 1) := by decide +kernel
theorem dJ1_indexOf_4cfef_8 : decode cJ1_indexOf_4cfef 8 = .ok (.ireturn, 1) := by decide +kernel
theorem dJ1_indexOf_4cfef_9 : decode cJ1_indexOf_4cfef 9 = .ok (.iload_n 2, 1) := by decide +kernel
theorem dJ1_indexOf_4cfef_10 : decode cJ1_indexOf_4cfef 10 = .ok (.iconst 0, 1) := by decide +kernel
theorem dJ1_indexOf_4cfef_11 : decode cJ1_indexOf_4cfef 11 = .ok (.invokestatic 92, 3) := by decide +kernel
theorem dJ1_indexOf_4cfef_14 : decode cJ1_indexOf_4cfef 14 = .ok (.istore_n 2, 1) := by decide +kernel
theorem dJ1_indexOf_4cfef_15 : decode cJ1_indexOf_4cfef 15 = .ok (.iload_n 3, 1) := by decide +kernel
theorem dJ1_indexOf_4cfef_16 : decode cJ1_indexOf_4cfef 16 = .ok (.aload_n 0, 1) := by decide +kernel
theorem dJ1_indexOf_4cfef_17 : decode cJ1_indexOf_4cfef 17 = .ok (.arraylength, 1) := by decide +kernel
theorem dJ1_indexOf_4cfef_18 : decode cJ1_indexOf_4cfef 18 = .ok (.invokestatic 38, 3) := by decide +kernel
theorem dJ1_indexOf_4cfef_21 : decode cJ1_indexOf_4cfef 21 = .ok (.istore_n 3, 1) := by decide +kernel
theorem dJ1_indexOf_4cfef_22 : decode cJ1_indexOf_4cfef 22 = .ok (.iload_n 2, 1) := by decide +kernel
theorem dJ1_indexOf_4cfef_23 : decode cJ1_indexOf_4cfef 23 = .ok (.iload_n 3, 1) := by decide +kernel
theorem dJ1_indexOf_4cfef_24 : decode cJ1_indexOf_4cfef 24 = .ok (.if_icmp .lt 5, 3) := by decide +kernel
theorem dJ1_indexOf_4cfef_27 : decode cJ1_indexOf_4cfef 27 = .ok (.iconst (-1), 1) := by decide +kernel
theorem dJ1_indexOf_4cfef_28 : decode cJ1_indexOf_4cfef 28 = .ok (.ireturn, 1) := by decide +kernel
theorem dJ1_indexOf_4cfef_29 : decode cJ1_indexOf_4cfef 29 = .ok (.aload_n 0, 1) := by decide +kernel
theorem dJ1_indexOf_4cfef_30 : decode cJ1_indexOf_4cfef 30 = .ok (.iload_n 1, 1) := by decide +kernel
theorem dJ1_indexOf_4cfef_31 : decode cJ1_indexOf_4cfef 31 = .ok (.iload_n 2, 1) := by decide +kernel
theorem dJ1_indexOf_4cfef_32 : decode cJ1_indexOf_4cfef 32 = .ok (.iload_n 3, 1) := by decide +kernel
theorem dJ1_indexOf_4cfef_33 : decode cJ1_indexOf_4cfef 33 = .ok (.invokestatic 95, 3) := by decide +kernel
theorem dJ1_indexOf_4cfef_36 : decode cJ1_indexOf_4cfef 36 = .ok (.ireturn, 1) := by decide +kernel
theorem dJ1_indexOfChar_4cfef_0 : decode cJ1_indexOfChar_4cfef 0 = .ok (.iload_n 1, 1) := by decide +kernel
theorem dJ1_indexOfChar_4cfef_1 : decode cJ1_indexOfChar_4cfef 1 = .ok (.i2b, 1) := by decide +kernel
theorem dJ1_indexOfChar_4cfef_2 : decode cJ1_indexOfChar_4cfef 2 = .ok (.istore 4, 2) := by decide +kernel
theorem dJ1_indexOfChar_4cfef_4 : decode cJ1_indexOfChar_4cfef 4 = .ok (.iload_n 2, 1) := by decide +kernel
theorem dJ1_indexOfChar_4cfef_5 : decode cJ1_indexOfChar_4cfef 5 = .ok (.istore 5, 2) := by decide +kernel
theorem dJ1_indexOfChar_4cfef_7 : decode cJ1_indexOfChar_4cfef 7 = .ok (.iload 5, 2) := by decide +kernel
theorem dJ1_indexOfChar_4cfef_9 : decode cJ1_indexOfChar_4cfef 9 = .ok (.iload_n 3, 1) := by decide +kernel
theorem dJ1_indexOfChar_4cfef_10 : decode cJ1_indexOfChar_4cfef 10 = .ok (.if_icmp .ge 21, 3) := by decide +kernel
theorem dJ1_indexOfChar_4cfef_13 : decode cJ1_indexOfChar_4cfef 13 = .ok (.aload_n 0, 1) := by decide +kernel
theorem dJ1_indexOfChar_4cfef_14 : decode cJ1_indexOfChar_4cfef 14 = .ok (.iload 5, 2) := by decide +kernel
theorem dJ1_indexOfChar_4cfef_16 : decode cJ1_indexOfChar_4cfef 16 = .ok (.baload, 1) := by decide +kernel
theorem dJ1_indexOfChar_4cfef_17 : decode cJ1_indexOfChar_4cfef 17 = .ok (.iload 4, 2) := by decide +kernel
theorem dJ1_indexOfChar_4cfef_19 : decode cJ1_indexOfChar_4cfef 19 = .ok (.if_icmp .ne 6, 3) := by decide +kernel
theorem dJ1_indexOfChar_4cfef_22 : decode cJ1_indexOfChar_4cfef 22 = .ok (.iload 5, 2) := by decide +kernel
theorem dJ1_indexOfChar_4cfef_24 : decode cJ1_indexOfChar_4cfef 24 = .ok (.ireturn, 1) := by decide +kernel
theorem dJ1_indexOfChar_4cfef_25 : decode cJ1_indexOfChar_4cfef 25 = .ok (.iinc 5 1, 3) := by decide +kernel
theorem dJ1_indexOfChar_4cfef_28 : decode cJ1_indexOfChar_4cfef 28 = .ok (.goto (-21), 3) := by decide +kernel
theorem dJ1_indexOfChar_4cfef_31 : decode cJ1_indexOfChar_4cfef 31 = .ok (.iconst (-1), 1) := by decide +kernel
theorem dJ1_indexOfChar_4cfef_32 : decode cJ1_indexOfChar_4cfef 32 = .ok (.ireturn, 1) := by decide +kernel
set_option maxRecDepth 20000 in
theorem ggJ2_getChar_3b067_J2_length_9d52b : GoodIn wsJ2_getChar_3b067 wsJ2_length_9d52b := goodIn_r _ [7] (by decide +kernel) (by decide +kernel)
set_option maxRecDepth 20000 in
theorem gJ2_getChar_3b067_J2_length_9d52b : GoodIn wsJ2_getChar_3b067 (va_wsS RJ2 48 yJ2_length_9d52b wsJ2_length_9d52b) := goodIn_app (goodIn_of _ (by decide +kernel)) ggJ2_getChar_3b067_J2_length_9d52b
theorem dJ2_getChar_3b067_0 : decode cJ2_getChar_3b067 0 = .ok (.getstatic 44, 3) := by decide +kernel
theorem dJ2_getChar_3b067_3 : decode cJ2_getChar_3b067 3 = .ok (.ifCond .ne 25, 3) := by decide +kernel
theorem dJ2_getChar_3b067_6 : decode cJ2_getChar_3b067 6 = .ok (.iload_n 1, 1) := by decide +kernel
theorem dJ2_getChar_3b067_7 : decode cJ2_getChar_3b067 7 = .ok (.ifCond .lt 11, 3) := by decide +kernel
theorem dJ2_getChar_3b067_10 : decode cJ2_getChar_3b067 10 = .ok (.iload_n 1, 1) := by decide +kernel
theorem dJ2_getChar_3b067_11 : decode cJ2_getChar_3b067 11 = .ok (.aload_n 0, 1) := by decide +kernel
theorem dJ2_getChar_3b067_12 : decode cJ2_getChar_3b067 12 = .ok (.invokestatic 48, 3) := by decide +kernel
theorem dJ2_getChar_3b067_15 : decode cJ2_getChar_3b067 15 = .ok (.if_icmp .lt 13, 3) := by decide +kernel
theorem dJ2_getChar_3b067_18 : decode cJ2_getChar_3b067 18 = .ok (.new 52, 3) := by decide +kernel
theorem dJ2_getChar_3b067_21 : decode cJ2_getChar_3b067 21 = .ok (.dup, 1) := by decide +kernel
theorem dJ2_getChar_3b067_22 : decode cJ2_getChar_3b067 22 = .ok (.ldc 54, 2) := by decide +kernel
theorem dJ2_getChar_3b067_24 : decode cJ2_getChar_3b067 24 = .ok (.invokespecial 56, 3) := by decide +kernel
theorem dJ2_getChar_3b067_27 : decode cJ2_getChar_3b067 27 = .ok (.athrow, 1) := by decide +kernel
theorem dJ2_getChar_3b067_28 : decode cJ2_getChar_3b067 28 = .ok (.iload_n 1, 1) := by decide +kernel
theorem dJ2_getChar_3b067_29 : decode cJ2_getChar_3b067 29 = .ok (.iconst 1, 1) := by decide +kernel
theorem dJ2_getChar_3b067_30 : decode cJ2_getChar_3b067 30 = .ok (.ishl, 1) := by decide +kernel
theorem dJ2_getChar_3b067_31 : decode cJ2_getChar_3b067 31 = .ok (.istore_n 1, 1) := by decide +kernel
theorem dJ2_getChar_3b067_32 : decode cJ2_getChar_3b067 32 = .ok (.aload_n 0, 1) := by decide +kernel
theorem dJ2_getChar_3b067_33 : decode cJ2_getChar_3b067 33 = .ok (.iload_n 1, 1) := by decide +kernel
theorem dJ2_getChar_3b067_34 : decode cJ2_getChar_3b067 34 = .ok (.iinc 1 1, 3) := by decide +kernel
theorem dJ2_getChar_3b067_37 : decode cJ2_getChar_3b067 37 = .ok (.baload, 1) := by decide +kernel
theorem dJ2_getChar_3b067_38 : decode cJ2_getChar_3b067 38 = .ok (.sipush 255, 3) := by decide +kernel
theorem dJ2_getChar_3b067_41 : decode cJ2_getChar_3b067 41 = .ok (.iand, 1) := by decide +kernel
theorem dJ2_getChar_3b067_42 : decode cJ2_getChar_3b067 42 = .ok (.getstatic 59, 3) := by decide +kernel
theorem dJ2_getChar_3b067_45 : decode cJ2_getChar_3b067 45 = .ok (.ishl, 1) := by decide +kernel
theorem dJ2_getChar_3b067_46 : decode cJ2_getChar_3b067 46 = .ok (.aload_n 0, 1) := by decide +kernel
theorem dJ2_getChar_3b067_47 : decode cJ2_getChar_3b067 47 = .ok (.iload_n 1, 1) := by decide +kernel
theorem dJ2_getChar_3b067_48 : decode cJ2_getChar_3b067 48 = .ok (.baload, 1) := by decide +kernel
theorem dJ2_getChar_3b067_49 : decode cJ2_getChar_3b067 49 = .ok (.sipush 255, 3) := by decide +kernel
theorem dJ2_getChar_3b067_52 : decode cJ2_getChar_3b067 52 = .ok (.iand, 1) := by decide +kernel
theorem dJ2_getChar_3b067_53 : decode cJ2_getChar_3b067 53 = .ok (.getstatic 63, 3) := by decide +kernel
theorem dJ2_getChar_3b067_56 : decode cJ2_getChar_3b067 56 = .ok (.ishl, 1) := by decide +kernel
theorem dJ2_getChar_3b067_57 : decode cJ2_getChar_3b067 57 = .ok (.ior, 1) := by decide +kernel
theorem dJ2_getChar_3b067_58 : decode cJ2_getChar_3b067 58 = .ok (.i2c, 1) := by decide +kernel
theorem dJ2_getChar_3b067_59 : decode cJ2_getChar_3b067 59 = .ok (.ireturn, 1) := by decide +kernel
theorem dJ2_length_9d52b_0 : decode cJ2_length_9d52b 0 = .ok (.aload_n 0, 1) := by decide +kernel
theorem dJ2_length_9d52b_1 : decode cJ2_length_9d52b 1 = .ok (.arraylength, 1) := by decide +kernel
theorem dJ2_length_9d52b_2 : decode cJ2_length_9d52b 2 = .ok (.iconst 1, 1) := by decide +kernel
theorem dJ2_length_9d52b_3 : decode cJ2_length_9d52b 3 = .ok (.ishr, 1) := by decide +kernel
theorem dJ2_length_9d52b_4 : decode cJ2_length_9d52b 4 = .ok (.ireturn, 1) := by decide +kernel
set_option maxRecDepth 20000 in
theorem ggJ2_indexOf_4cfef_J2_indexOfChar_4cfef : GoodIn wsJ2_indexOf_4cfef wsJ2_indexOfChar_4cfef := goodIn_r _ [12, 13, 14, 11, 15, 16, 17, 18, 19, 20, 21, 22, 23, 24, 25, 26, 27, 28, 29, 30, 31, 32, 33, 34, 35, 36] (by decide +kernel) (by decide +kernel)
set_option maxRecDepth 20000 in
theorem gJ2_indexOf_4cfef_J2_indexOfChar_4cfef : GoodIn wsJ2_indexOf_4cfef (va_wsS RJ2 228 yJ2_indexOfChar_4cfef wsJ2_indexOfChar_4cfef) := goodIn_app (goodIn_of _ (by decide +kernel)) ggJ2_indexOf_4cfef_J2_indexOfChar_4cfef
set_option maxRecDepth 20000 in
theorem ggJ2_indexOf_4cfef_J2_indexOfSupplementary_4cfef : GoodIn wsJ2_indexOf_4cfef wsJ2_indexOfSupplementary_4cfef := goodIn_r _ [39, 40, 41, 42, 43, 44, 45, 46, 47, 48, 49, 50, 51, 13, 14, 11, 15, 16, 17, 18, 19, 20, 21, 22, 23, 24, 25, 26, 27, 31, 32, 33, 34, 35, 36] (by decide +kernel) (by decide +kernel)
set_option maxRecDepth 20000 in
theorem gJ2_indexOf_4cfef_J2_indexOfSupplementary_4cfef : GoodIn wsJ2_indexOf_4cfef (va_wsS RJ2 232 yJ2_indexOfSupplementary_4cfef wsJ2_indexOfSupplementary_4cfef) := goodIn_app (goodIn_of _ (by decide +kernel)) ggJ2_indexOf_4cfef_J2_indexOfSupplementary_4cfef
theorem dJ2_indexOf_4cfef_0 : decode cJ2_indexOf_4cfef 0 = .ok (.iload_n 2, 1) := by decide +kernel
theorem dJ2_indexOf_4cfef_1 : decode cJ2_indexOf_4cfef 1 = .ok (.iconst 0, 1) := by decide +kernel
theorem dJ2_indexOf_4cfef_2 : decode cJ2_indexOf_4cfef 2 = .ok (.invokestatic 224, 3) := by decide +kernel
theorem dJ2_indexOf_4cfef_5 : decode cJ2_indexOf_4cfef 5 = .ok (.istore_n 2, 1) := by decide +kernel
theorem dJ2_indexOf_4cfef_6 : decode cJ2_indexOf_4cfef 6 = .ok (.iload_n 3, 1) := by decide +kernel
theorem dJ2_indexOf_4cfef_7 : decode cJ2_indexOf_4cfef 7 = .ok (.aload_n 0, 1) := by decide +kernel
theorem dJ2_indexOf_4cfef_8 : decode cJ2_indexOf_4cfef 8 = .ok (.arraylength, 1) := by decide +kernel
theorem dJ2_indexOf_4cfef_9 : decode cJ2_indexOf_4cfef 9 = .ok (.iconst 1, 1) := by decide +kernel
theorem dJ2_indexOf_4cfef_10 : decode cJ2_indexOf_4cfef 10 = .ok (.ishr, 1) := by decide +kernel
theorem dJ2_indexOf_4cfef_11 : decode cJ2_indexOf_4cfef 11 = .ok (.invokestatic 183, 3) := by decide +kernel
theorem dJ2_indexOf_4cfef_14 : decode cJ2_indexOf_4cfef 14 = .ok (.istore_n 3, 1) := by decide +kernel
theorem dJ2_indexOf_4cfef_15 : decode cJ2_indexOf_4cfef 15 = .ok (.iload_n 2, 1) := by decide +kernel
theorem dJ2_indexOf_4cfef_16 : decode cJ2_indexOf_4cfef 16 = .ok (.iload_n 3, 1) := by decide +kernel
theorem dJ2_indexOf_4cfef_17 : decode cJ2_indexOf_4cfef 17 = .ok (.if_icmp .lt 5, 3) := by decide +kernel
theorem dJ2_indexOf_4cfef_20 : decode cJ2_indexOf_4cfef 20 = .ok (.iconst (-1), 1) := by decide +kernel
theorem dJ2_indexOf_4cfef_21 : decode cJ2_indexOf_4cfef 21 = .ok (.ireturn, 1) := by decide +kernel
theorem dJ2_indexOf_4cfef_22 : decode cJ2_indexOf_4cfef 22 = .ok (.iload_n 1, 1) := by decide +kernel
theorem dJ2_indexOf_4cfef_23 : decode cJ2_indexOf_4cfef 23 = .ok (.ldc 227, 2) := by decide +kernel
theorem dJ2_indexOf_4cfef_25 : decode cJ2_indexOf_4cfef 25 = .ok (.if_icmp .ge 11, 3) := by decide +kernel
theorem dJ2_indexOf_4cfef_28 : decode cJ2_indexOf_4cfef 28 = .ok (.aload_n 0, 1) := by decide +kernel
theorem dJ2_indexOf_4cfef_29 : decode cJ2_indexOf_4cfef 29 = .ok (.iload_n 1, 1) := by decide +kernel
theorem dJ2_indexOf_4cfef_30 : decode cJ2_indexOf_4cfef 30 = .ok (.iload_n 2, 1) := by decide +kernel
theorem dJ2_indexOf_4cfef_31 : decode cJ2_indexOf_4cfef 31 = .ok (.iload_n 3, 1) := by decide +kernel
theorem dJ2_indexOf_4cfef_32 : decode cJ2_indexOf_4cfef 32 = .ok (.invokestatic 228, 3) := by decide +kernel
theorem dJ2_indexOf_4cfef_35 : decode cJ2_indexOf_4cfef 35 = .ok (.ireturn, 1) := by decide +kernel
theorem dJ2_indexOf_4cfef_36 : decode cJ2_indexOf_4cfef 36 = .ok (.aload_n 0, 1) := by decide +kernel
theorem dJ2_indexOf_4cfef_37 : decode cJ2_indexOf_4cfef 37 = .ok (.iload_n 1, 1) := by decide +kernel
theorem dJ2_indexOf_4cfef_38 : decode cJ2_indexOf_4cfef 38 = .ok (.iload_n 2, 1) := by decide +kernel
theorem dJ2_indexOf_4cfef_39 : decode cJ2_indexOf_4cfef 39 = .ok (.iload_n 3, 1) := by decide +kernel
theorem dJ2_indexOf_4cfef_40 : decode cJ2_indexOf_4cfef 40 = .ok (.invokestatic 232, 3) := by decide +kernel
theorem dJ2_indexOf_4cfef_43 : decode cJ2_indexOf_4cfef 43 = .ok (.ireturn, 1) := by decide +kernel
set_option maxRecDepth 20000 in
theorem ggJ2_indexOfChar_4cfef_J2_checkBoundsBeginEnd_d044e : GoodIn wsJ2_indexOfChar_4cfef wsJ2_checkBoundsBeginEnd_d044e := goodIn_r _ [4, 5, 6, 3, 7, 8, 9, 10, 11, 12, 13, 14, 15, 16] (by decide +kernel) (by decide +kernel)
set_option maxRecDepth 20000 in
theorem gJ2_indexOfChar_4cfef_J2_checkBoundsBeginEnd_d044e : GoodIn wsJ2_indexOfChar_4cfef (va_wsS RJ2 96 yJ2_checkBoundsBeginEnd_d044e wsJ2_checkBoundsBeginEnd_d044e) := goodIn_app (goodIn_of _ (by decide +kernel)) ggJ2_indexOfChar_4cfef_J2_checkBoundsBeginEnd_d044e
set_option maxRecDepth 20000 in
theorem ggJ2_indexOfChar_4cfef_J2_indexOfCharUnsafe_4cfef : GoodIn wsJ2_indexOfChar_4cfef wsJ2_indexOfCharUnsafe_4cfef := goodIn_r _ [19, 20, 21, 3, 22, 23, 24, 25, 5, 6, 7] (by decide +kernel) (by decide +kernel)
set_option maxRecDepth 20000 in
theorem gJ2_indexOfChar_4cfef_J2_indexOfCharUnsafe_4cfef : GoodIn wsJ2_indexOfChar_4cfef (va_wsS RJ2 244 yJ2_indexOfCharUnsafe_4cfef wsJ2_indexOfCharUnsafe_4cfef) := goodIn_app (goodIn_of _ (by decide +kernel)) ggJ2_indexOfChar_4cfef_J2_indexOfCharUnsafe_4cfef
theorem dJ2_indexOfChar_4cfef_0 : decode cJ2_indexOfChar_4cfef 0 = .ok (.iload_n 2, 1) := by decide +kernel
theorem dJ2_indexOfChar_4cfef_1 : decode cJ2_indexOfChar_4cfef 1 = .ok (.iload_n 3, 1) := by decide +kernel
theorem dJ2_indexOfChar_4cfef_2 : decode cJ2_indexOfChar_4cfef 2 = .ok (.aload_n 0, 1) := by decide +kernel
theorem dJ2_indexOfChar_4cfef_3 : decode cJ2_indexOfChar_4cfef 3 = .ok (.invokestatic 96, 3) := by decide +kernel
theorem dJ2_indexOfChar_4cfef_6 : decode cJ2_indexOfChar_4cfef 6 = .ok (.aload_n 0, 1) := by decide +kernel
theorem dJ2_indexOfChar_4cfef_7 : decode cJ2_indexOfChar_4cfef 7 = .ok (.iload_n 1, 1) := by decide +kernel
theorem dJ2_indexOfChar_4cfef_8 : decode cJ2_indexOfChar_4cfef 8 = .ok (.iload_n 2, 1) := by decide +kernel
theorem dJ2_indexOfChar_4cfef_9 : decode cJ2_indexOfChar_4cfef 9 = .ok (.iload_n 3, 1) := by decide +kernel
theorem dJ2_indexOfChar_4cfef_10 : decode cJ2_indexOfChar_4cfef 10 = .ok (.invokestatic 244, 3) := by decide +kernel
theorem dJ2_indexOfChar_4cfef_13 : decode cJ2_indexOfChar_4cfef 13 = .ok (.ireturn, 1) := by decide +kernel
set_option maxRecDepth 20000 in
theorem ggJ2_indexOfCharUnsafe_4cfef_J2_getChar_3b067 : GoodIn wsJ2_indexOfCharUnsafe_4cfef wsJ2_getChar_3b067 := goodIn_r _ [4, 5, 6, 7, 8, 9, 3, 10] (by decide +kernel) (by decide +kernel)
set_option maxRecDepth 20000 in
theorem gJ2_indexOfCharUnsafe_4cfef_J2_getChar_3b067 : GoodIn wsJ2_indexOfCharUnsafe_4cfef (va_wsS RJ2 71 yJ2_getChar_3b067 wsJ2_getChar_3b067) := goodIn_app (goodIn_of _ (by decide +kernel)) ggJ2_indexOfCharUnsafe_4cfef_J2_getChar_3b067
theorem dJ2_indexOfCharUnsafe_4cfef_0 : decode cJ2_indexOfCharUnsafe_4cfef 0 = .ok (.iload_n 2, 1) := by decide +kernel
theorem dJ2_indexOfCharUnsafe_4cfef_1 : decode cJ2_indexOfCharUnsafe_4cfef 1 = .ok (.istore 4, 2) := by decide +kernel
theorem dJ2_indexOfCharUnsafe_4cfef_3 : decode cJ2_indexOfCharUnsafe_4cfef 3 = .ok (.iload 4, 2) := by decide +kernel
theorem dJ2_indexOfCharUnsafe_4cfef_5 : decode cJ2_indexOfCharUnsafe_4cfef 5 = .ok (.iload_n 3, 1) := by decide +kernel
theorem dJ2_indexOfCharUnsafe_4cfef_6 : decode cJ2_indexOfCharUnsafe_4cfef 6 = .ok (.if_icmp .ge 22, 3) := by decide +kernel
theorem dJ2_indexOfCharUnsafe_4cfef_9 : decode cJ2_indexOfCharUnsafe_4cfef 9 = .ok (.aload_n 0, 1) := by decide +kernel
theorem dJ2_indexOfCharUnsafe_4cfef_10 : decode cJ2_indexOfCharUnsafe_4cfef 10 = .ok (.iload 4, 2) := by decide +kernel
theorem dJ2_indexOfCharUnsafe_4cfef_12 : decode cJ2_indexOfCharUnsafe_4cfef 12 = .ok (.invokestatic 71, 3) := by decide +kernel
theorem dJ2_indexOfCharUnsafe_4cfef_15 : decode cJ2_indexOfCharUnsafe_4cfef 15 = .ok (.iload_n 1, 1) := by decide +kernel
theorem dJ2_indexOfCharUnsafe_4cfef_16 : decode cJ2_indexOfCharUnsafe_4cfef 16 = .ok (.if_icmp .ne 6, 3) := by decide +kernel
theorem dJ2_indexOfCharUnsafe_4cfef_19 : decode cJ2_indexOfCharUnsafe_4cfef 19 = .ok (.iload 4, 2) := by decide +kernel
theorem dJ2_indexOfCharUnsafe_4cfef_21 : decode cJ2_indexOfCharUnsafe_4cfef 21 = .ok (.ireturn, 1) := by decide +kernel
theorem dJ2_indexOfCharUnsafe_4cfef_22 : decode cJ2_indexOfCharUnsafe_4cfef 22 = .ok (.iinc 4 1, 3) := by decide +kernel
theorem dJ2_indexOfCharUnsafe_4cfef_25 : decode cJ2_indexOfCharUnsafe_4cfef 25 = .ok (.goto (-22), 3) := by decide +kernel
theorem dJ2_indexOfCharUnsafe_4cfef_28 : decode cJ2_indexOfCharUnsafe_4cfef 28 = .ok (.iconst (-1), 1) := by decide +kernel
theorem dJ2_indexOfCharUnsafe_4cfef_29 : decode cJ2_indexOfCharUnsafe_4cfef 29 = .ok (.ireturn, 1) := by decide +kernel
set_option maxRecDepth 20000 in
theorem ggJ2_indexOfSupplementary_4cfef_J11_isValidCodePoint_9a6ad : GoodIn wsJ2_indexOfSupplementary_4cfef wsJ11_isValidCodePoint_9a6ad := goodIn_r _ [4] (by decide +kernel) (by decide +kernel)
set_option maxRecDepth 20000 in
theorem gJ2_indexOfSupplementary_4cfef_J11_isValidCodePoint_9a6ad : GoodIn wsJ2_indexOfSupplementary_4cfef (va_wsS RJ2 164 yJ11_isValidCodePoint_9a6ad wsJ11_isValidCodePoint_9a6ad) := goodIn_app (goodIn_of _ (by decide +kernel)) ggJ2_indexOfSupplementary_4cfef_J11_isValidCodePoint_9a6ad
set_option maxRecDepth 20000 in
theorem ggJ2_indexOfSupplementary_4cfef_J11_highSurrogate_5068e : GoodIn wsJ2_indexOfSupplementary_4cfef wsJ11_highSurrogate_5068e := goodIn_r _ [7, 8] (by decide +kernel) (by decide +kernel)
set_option maxRecDepth 20000 in
theorem gJ2_indexOfSupplementary_4cfef_J11_highSurrogate_5068e : GoodIn wsJ2_indexOfSupplementary_4cfef (va_wsS RJ2 157 yJ11_highSurrogate_5068e wsJ11_highSurrogate_5068e) := goodIn_app (goodIn_of _ (by decide +kernel)) ggJ2_indexOfSupplementary_4cfef_J11_highSurrogate_5068e
set_option maxRecDepth 20000 in
theorem ggJ2_indexOfSupplementary_4cfef_J11_lowSurrogate_5068e : GoodIn wsJ2_indexOfSupplementary_4cfef wsJ11_lowSurrogate_5068e := goodIn_r _ [11, 12] (by decide +kernel) (by decide +kernel)
set_option maxRecDepth 20000 in
theorem gJ2_indexOfSupplementary_4cfef_J11_lowSurrogate_5068e : GoodIn wsJ2_indexOfSupplementary_4cfef (va_wsS RJ2 161 yJ11_lowSurrogate_5068e wsJ11_lowSurrogate_5068e) := goodIn_app (goodIn_of _ (by decide +kernel)) ggJ2_indexOfSupplementary_4cfef_J11_lowSurrogate_5068e
set_option maxRecDepth 20000 in
theorem ggJ2_indexOfSupplementary_4cfef_J2_checkBoundsBeginEnd_d044e : GoodIn wsJ2_indexOfSupplementary_4cfef wsJ2_checkBoundsBeginEnd_d044e := goodIn_r _ [16, 17, 18, 15, 19, 20, 21, 22, 23, 24, 25, 26, 27, 28] (by decide +kernel) (by decide +kernel)
set_option maxRecDepth 20000 in
theorem gJ2_indexOfSupplementary_4cfef_J2_checkBoundsBeginEnd_d044e : GoodIn wsJ2_indexOfSupplementary_4cfef (va_wsS RJ2 96 yJ2_checkBoundsBeginEnd_d044e wsJ2_checkBoundsBeginEnd_d044e) := goodIn_app (goodIn_of _ (by decide +kernel)) ggJ2_indexOfSupplementary_4cfef_J2_checkBoundsBeginEnd_d044e
set_option maxRecDepth 20000 in
theorem ggJ2_indexOfSupplementary_4cfef_J2_getChar_3b067 : GoodIn wsJ2_indexOfSupplementary_4cfef wsJ2_getChar_3b067 := goodIn_r _ [31, 32, 33, 34, 17, 18, 15, 19] (by decide +kernel) (by decide +kernel)
set_option maxRecDepth 20000 in
theorem gJ2_indexOfSupplementary_4cfef_J2_getChar_3b067 : GoodIn wsJ2_indexOfSupplementary_4cfef (va_wsS RJ2 71 yJ2_getChar_3b067 wsJ2_getChar_3b067) := goodIn_app (goodIn_of _ (by decide +kernel)) ggJ2_indexOfSupplementary_4cfef_J2_getChar_3b067
theorem dJ2_indexOfSupplementary_4cfef_0 : decode cJ2_indexOfSupplementary_4cfef 0 = .ok (.iload_n 1, 1) := by decide +kernel
theorem dJ2_indexOfSupplementary_4cfef_1 : decode cJ2_indexOfSupplementary_4cfef 1 = .ok (.invokestatic 164, 3) := by decide +kernel
theorem dJ2_indexOfSupplementary_4cfef_4 : decode cJ2_indexOfSupplementary_4cfef 4 = .ok (.ifCond .eq 65, 3) := by decide +kernel
theorem dJ2_indexOfSupplementary_4cfef_7 : decode cJ2_indexOfSupplementary_4cfef 7 = .ok (.iload_n 1, 1) := by decide +kernel
theorem dJ2_indexOfSupplementary_4cfef_8 : decode cJ2_indexOfSupplementary_4cfef 8 = .ok (.invokestatic 157, 3) := by decide +kernel
theorem dJ2_indexOfSupplementary_4cfef_11 : decode cJ2_indexOfSupplementary_4cfef 11 = .ok (.istore 4, 2) := by decide +kernel
theorem dJ2_indexOfSupplementary_4cfef_13 : decode cJ2_indexOfSupplementary_4cfef 13 = .ok (.iload_n 1, 1) := by decide +kernel
theorem dJ2_indexOfSupplementary_4cfef_14 : decode cJ2_indexOfSupplementary_4cfef 14 = .ok (.invokestatic 161, 3) := by decide +kernel
theorem dJ2_indexOfSupplementary_4cfef_17 : decode cJ2_indexOfSupplementary_4cfef 17 = .ok (.istore 5, 2) := by decide +kernel
theorem dJ2_indexOfSupplementary_4cfef_19 : decode cJ2_indexOfSupplementary_4cfef 19 = .ok (.iload_n 2, 1) := by decide +kernel
theorem dJ2_indexOfSupplementary_4cfef_20 : decode cJ2_indexOfSupplementary_4cfef 20 = .ok (.iload_n 3, 1) := by decide +kernel
theorem dJ2_indexOfSupplementary_4cfef_21 : decode cJ2_indexOfSupplementary_4cfef 21 = .ok (.aload_n 0, 1) := by decide +kernel
theorem dJ2_indexOfSupplementary_4cfef_22 : decode cJ2_indexOfSupplementary_4cfef 22 = .ok (.invokestatic 96, 3) := by decide +kernel
theorem dJ2_indexOfSupplementary_4cfef_25 : decode cJ2_indexOfSupplementary_4cfef 25 = .ok (.iload_n 2, 1) := by decide +kernel
theorem dJ2_indexOfSupplementary_4cfef_26 : decode cJ2_indexOfSupplementary_4cfef 26 = .ok (.istore 6, 2) := by decide +kernel
theorem dJ2_indexOfSupplementary_4cfef_28 : decode cJ2_indexOfSupplementary_4cfef 28 = .ok (.iload 6, 2) := by decide +kernel
theorem dJ2_indexOfSupplementary_4cfef_30 : decode cJ2_indexOfSupplementary_4cfef 30 = .ok (.iload_n 3, 1) := by decide +kernel
theorem dJ2_indexOfSupplementary_4cfef_31 : decode cJ2_indexOfSupplementary_4cfef 31 = .ok (.iconst 1, 1) := by decide +kernel
theorem dJ2_indexOfSupplementary_4cfef_32 : decode cJ2_indexOfSupplementary_4cfef 32 = .ok (.isub, 1) := by decide +kernel
theorem dJ2_indexOfSupplementary_4cfef_33 : decode cJ2_indexOfSupplementary_4cfef 33 = .ok (.if_icmp .ge 36, 3) := by decide +kernel
theorem dJ2_indexOfSupplementary_4cfef_36 : decode cJ2_indexOfSupplementary_4cfef 36 = .ok (.aload_n 0, 1) := by decide +kernel
theorem dJ2_indexOfSupplementary_4cfef_37 : decode cJ2_indexOfSupplementary_4cfef 37 = .ok (.iload 6, 2) := by decide +kernel
theorem dJ2_indexOfSupplementary_4cfef_39 : decode cJ2_indexOfSupplementary_4cfef 39 = .ok (.invokestatic 71, 3) := by decide +kernel
theorem dJ2_indexOfSupplementary_4cfef_42 : decode cJ2_indexOfSupplementary_4cfef 42 = .ok (.iload 4, 2) := by decide +kernel
theorem dJ2_indexOfSupplementary_4cfef_44 : decode cJ2_indexOfSupplementary_4cfef 44 = .ok (.if_icmp .ne 19, 3) := by decide +kernel
theorem dJ2_indexOfSupplementary_4cfef_47 : decode cJ2_indexOfSupplementary_4cfef 47 = .ok (.aload_n 0, 1) := by decide +kernel
theorem dJ2_indexOfSupplementary_4cfef_48 : decode cJ2_indexOfSupplementary_4cfef 48 = .ok (.iload 6, 2) := by decide +kernel
theorem dJ2_indexOfSupplementary_4cfef_50 : decode cJ2_indexOfSupplementary_4cfef 50 = .ok (.iconst 1, 1) := by decide +kernel
theorem dJ2_indexOfSupplementary_4cfef_51 : decode cJ2_indexOfSupplementary_4cfef 51 = .ok (.iadd, 1) := by decide +kernel
theorem dJ2_indexOfSupplementary_4cfef_52 : decode cJ2_indexOfSupplementary_4cfef 52 = .ok (.invokestatic 71, 3) := by decide +kernel
theorem dJ2_indexOfSupplementary_4cfef_55 : decode cJ2_indexOfSupplementary_4cfef 55 = .ok (.iload 5, 2) := by decide +kernel
theorem dJ2_indexOfSupplementary_4cfef_57 : decode cJ2_indexOfSupplementary_4cfef 57 = .ok (.if_icmp .ne 6, 3) := by decide +kernel
theorem dJ2_indexOfSupplementary_4cfef_60 : decode cJ2_indexOfSupplementary_4cfef 60 = .ok (.iload 6, 2) := by decide +kernel
theorem dJ2_indexOfSupplementary_4cfef_62 : decode cJ2_indexOfSupplementary_4cfef 62 = .ok (.ireturn, 1) := by decide +kernel
theorem dJ2_indexOfSupplementary_4cfef_63 : decode cJ2_indexOfSupplementary_4cfef 63 = .ok (.iinc 6 1, 3) := by decide +kernel
theorem dJ2_indexOfSupplementary_4cfef_66 : decode cJ2_indexOfSupplementary_4cfef 66 = .ok (.goto (-38), 3) := by decide +kernel
theorem dJ2_indexOfSupplementary_4cfef_69 : decode cJ2_indexOfSupplementary_4cfef 69 = .ok (.iconst (-1), 1) := by decide +kernel
theorem dJ2_indexOfSupplementary_4cfef_70 : decode cJ2_indexOfSupplementary_4cfef 70 = .ok (.ireturn, 1) := by decide +kernel
set_option maxRecDepth 20000 in
theorem ggJ2_checkBoundsBeginEnd_d044e_J2_length_9d52b : GoodIn wsJ2_checkBoundsBeginEnd_d044e wsJ2_length_9d52b := goodIn_r _ [4] (by decide +kernel) (by decide +kernel)
set_option maxRecDepth 20000 in
theorem gJ2_checkBoundsBeginEnd_d044e_J2_length_9d52b : GoodIn wsJ2_checkBoundsBeginEnd_d044e (va_wsS RJ2 48 yJ2_length_9d52b wsJ2_length_9d52b) := goodIn_app (goodIn_of _ (by decide +kernel)) ggJ2_checkBoundsBeginEnd_d044e_J2_length_9d52b
set_option maxRecDepth 20000 in
theorem ggJ2_checkBoundsBeginEnd_d044e_J0_checkBoundsBeginEnd_23922 : GoodIn wsJ2_checkBoundsBeginEnd_d044e wsJ0_checkBoundsBeginEnd_23922 := goodIn_r _ [8, 9, 10, 11, 12, 13] (by decide +kernel) (by decide +kernel)
set_option maxRecDepth 20000 in
theorem gJ2_checkBoundsBeginEnd_d044e_J0_checkBoundsBeginEnd_23922 : GoodIn wsJ2_checkBoundsBeginEnd_d044e (va_wsS RJ2 241 yJ0_checkBoundsBeginEnd_23922 wsJ0_checkBoundsBeginEnd_23922) := goodIn_app (goodIn_of _ (by decide +kernel)) ggJ2_checkBoundsBeginEnd_d044e_J0_checkBoundsBeginEnd_23922
theorem dJ2_checkBoundsBeginEnd_d044e_0 : decode cJ2_checkBoundsBeginEnd_d044e 0 = .ok (.iload_n 0, 1) := by decide +kernel
theorem dJ2_checkBoundsBeginEnd_d044e_1 : decode cJ2_checkBoundsBeginEnd_d044e 1 = .ok (.iload_n 1, 1) := by decide +kernel
theorem dJ2_checkBoundsBeginEnd_d044e_2 : decode cJ2_checkBoundsBeginEnd_d044e 2 = .ok (.aload_n 2, 1) := by decide +kernel
theorem dJ2_checkBoundsBeginEnd_d044e_3 : decode cJ2_checkBoundsBeginEnd_d044e 3 = .ok (.invokestatic 48, 3) := by decide +kernel
theorem dJ2_checkBoundsBeginEnd_d044e_6 : decode cJ2_checkBoundsBeginEnd_d044e 6 = .ok (.invokestatic 241, 3) := by decide +kernel
theorem dJ2_checkBoundsBeginEnd_d044e_9 : decode cJ2_checkBoundsBeginEnd_d044e 9 = .ok (.return_, 1) := by decide +kernel
theorem dJ3_checkFromToIndex_8c36e_0 : decode cJ3_checkFromToIndex_8c36e 0 = .ok (.iload_n 0, 1) := by decide +kernel
theorem dJ3_checkFromToIndex_8c36e_1 : decode cJ3_checkFromToIndex_8c36e 1 = .ok (.ifCond .lt 13, 3) := by decide +kernel
theorem dJ3_checkFromToIndex_8c36e_4 : decode cJ3_checkFromToIndex_8c36e 4 = .ok (.iload_n 0, 1) := by decide +kernel
theorem dJ3_checkFromToIndex_8c36e_5 : decode cJ3_checkFromToIndex_8c36e 5 = .ok (.iload_n 1, 1) := by decide +kernel
theorem dJ3_checkFromToIndex_8c36e_6 : decode cJ3_checkFromToIndex_8c36e 6 = .ok (.if_icmp .gt 8, 3) := by decide +kernel
theorem dJ3_checkFromToIndex_8c36e_9 : decode cJ3_checkFromToIndex_8c36e 9 = .ok (.iload_n 1, 1) := by decide +kernel
theorem dJ3_checkFromToIndex_8c36e_10 : decode cJ3_checkFromToIndex_8c36e 10 = .ok (.iload_n 2, 1) := by decide +kernel
theorem dJ3_checkFromToIndex_8c36e_11 : decode cJ3_checkFromToIndex_8c36e 11 = .ok (.if_icmp .le 11, 3) := by decide +kernel
theorem dJ3_checkFromToIndex_8c36e_14 : decode cJ3_checkFromToIndex_8c36e 14 = .ok (.aload_n 3, 1) := by decide +kernel
theorem dJ3_checkFromToIndex_8c36e_15 : decode cJ3_checkFromToIndex_8c36e 15 = .ok (.iload_n 0, 1) := by decide +kernel
theorem dJ3_checkFromToIndex_8c36e_16 : decode cJ3_checkFromToIndex_8c36e 16 = .ok (.iload_n 1, 1) := by decide +kernel
theorem dJ3_checkFromToIndex_8c36e_17 : decode cJ3_checkFromToIndex_8c36e 17 = .ok (.iload_n 2, 1) := by decide +kernel
theorem dJ3_checkFromToIndex_8c36e_18 : decode cJ3_checkFromToIndex_8c36e 18 = .ok (.invokestatic 99, 3) := by decide +kernel
theorem dJ3_checkFromToIndex_8c36e_21 : decode cJ3_checkFromToIndex_8c36e 21 = .ok (.athrow, 1) := by decide +kernel
theorem dJ3_checkFromToIndex_8c36e_22 : decode cJ3_checkFromToIndex_8c36e 22 = .ok (.iload_n 0, 1) := by decide +kernel
theorem dJ3_checkFromToIndex_8c36e_23 : decode cJ3_checkFromToIndex_8c36e 23 = .ok (.ireturn, 1) := by decide +kernel
