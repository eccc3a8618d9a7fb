theorem dL_cell_0 : decode cL_cell 0 = .ok (.iload_n 1, 1) := by decide +kernel
theorem dL_cell_1 : decode cL_cell 1 = .ok (.aload_n 0, 1) := by decide +kernel
theorem dL_cell_2 : decode cL_cell 2 = .ok (.arraylength, 1) := by decide +kernel
theorem dL_cell_3 : decode cL_cell 3 = .ok (.if_icmp .ge 9, 3) := by decide +kernel
theorem dL_cell_6 : decode cL_cell 6 = .ok (.aload_n 0, 1) := by decide +kernel
theorem dL_cell_7 : decode cL_cell 7 = .ok (.iload_n 1, 1) := by decide +kernel
theorem dL_cell_8 : decode cL_cell 8 = .ok (.iaload, 1) := by decide +kernel
theorem dL_cell_9 : decode cL_cell 9 = .ok (.goto 15, 3) := by decide +kernel
theorem dL_cell_12 : decode cL_cell 12 = .ok (.ldc 7, 2) := by decide +kernel
theorem dL_cell_14 : decode cL_cell 14 = .ok (.iload_n 1, 1) := by decide +kernel
theorem dL_cell_15 : decode cL_cell 15 = .ok (.sipush 467, 3) := by decide +kernel
theorem dL_cell_18 : decode cL_cell 18 = .ok (.iadd, 1) := by decide +kernel
theorem dL_cell_19 : decode cL_cell 19 = .ok (.imul, 1) := by decide +kernel
theorem dL_cell_20 : decode cL_cell 20 = .ok (.sipush 317, 3) := by decide +kernel
theorem dL_cell_23 : decode cL_cell 23 = .ok (.iadd, 1) := by decide +kernel
theorem dL_cell_24 : decode cL_cell 24 = .ok (.ireturn, 1) := by decide +kernel
theorem dL_low_0 : decode cL_low 0 = .ok (.iload_n 0, 1) := by decide +kernel
theorem dL_low_1 : decode cL_low 1 = .ok (.ldc 8, 2) := by decide +kernel
theorem dL_low_3 : decode cL_low 3 = .ok (.iand, 1) := by decide +kernel
theorem dL_low_4 : decode cL_low 4 = .ok (.iload_n 1, 1) := by decide +kernel
theorem dL_low_5 : decode cL_low 5 = .ok (.irem, 1) := by decide +kernel
theorem dL_low_6 : decode cL_low 6 = .ok (.ireturn, 1) := by decide +kernel
theorem dL_whole_0 : decode cL_whole 0 = .ok (.ldc2_w 9, 3) := by decide +kernel
theorem dL_whole_3 : decode cL_whole 3 = .ok (.lstore_n 1, 1) := by decide +kernel
theorem dL_whole_4 : decode cL_whole 4 = .ok (.iconst 0, 1) := by decide +kernel
theorem dL_whole_5 : decode cL_whole 5 = .ok (.istore_n 3, 1) := by decide +kernel
theorem dL_whole_6 : decode cL_whole 6 = .ok (.iload_n 3, 1) := by decide +kernel
theorem dL_whole_7 : decode cL_whole 7 = .ok (.bipush 35, 2) := by decide +kernel
theorem dL_whole_9 : decode cL_whole 9 = .ok (.if_icmp .ge 29, 3) := by decide +kernel
theorem dL_whole_12 : decode cL_whole 12 = .ok (.ldc2_w 11, 3) := by decide +kernel
theorem dL_whole_15 : decode cL_whole 15 = .ok (.lload_n 1, 1) := by decide +kernel
theorem dL_whole_16 : decode cL_whole 16 = .ok (.lmul, 1) := by decide +kernel
theorem dL_whole_17 : decode cL_whole 17 = .ok (.aload_n 0, 1) := by decide +kernel
theorem dL_whole_18 : decode cL_whole 18 = .ok (.iconst 1, 1) := by decide +kernel
theorem dL_whole_19 : decode cL_whole 19 = .ok (.iload_n 3, 1) := by decide +kernel
theorem dL_whole_20 : decode cL_whole 20 = .ok (.iconst 5, 1) := by decide +kernel
theorem dL_whole_21 : decode cL_whole 21 = .ok (.idiv, 1) := by decide +kernel
theorem dL_whole_22 : decode cL_whole 22 = .ok (.iadd, 1) := by decide +kernel
theorem dL_whole_23 : decode cL_whole 23 = .ok (.iload_n 3, 1) := by decide +kernel
theorem dL_whole_24 : decode cL_whole 24 = .ok (.iconst 5, 1) := by decide +kernel
theorem dL_whole_25 : decode cL_whole 25 = .ok (.irem, 1) := by decide +kernel
theorem dL_whole_26 : decode cL_whole 26 = .ok (.invokevirtual 13, 3) := by decide +kernel
theorem dL_whole_29 : decode cL_whole 29 = .ok (.i2l, 1) := by decide +kernel
theorem dL_whole_30 : decode cL_whole 30 = .ok (.ladd, 1) := by decide +kernel
theorem dL_whole_31 : decode cL_whole 31 = .ok (.lstore_n 1, 1) := by decide +kernel
theorem dL_whole_32 : decode cL_whole 32 = .ok (.iinc 3 1, 3) := by decide +kernel
theorem dL_whole_35 : decode cL_whole 35 = .ok (.goto (-29), 3) := by decide +kernel
theorem dL_whole_38 : decode cL_whole 38 = .ok (.iconst 0, 1) := by decide +kernel
theorem dL_whole_39 : decode cL_whole 39 = .ok (.istore_n 3, 1) := by decide +kernel
theorem dL_whole_40 : decode cL_whole 40 = .ok (.iload_n 3, 1) := by decide +kernel
theorem dL_whole_41 : decode cL_whole 41 = .ok (.bipush 20, 2) := by decide +kernel
theorem dL_whole_43 : decode cL_whole 43 = .ok (.if_icmp .ge 27, 3) := by decide +kernel
theorem dL_whole_46 : decode cL_whole 46 = .ok (.ldc2_w 11, 3) := by decide +kernel
theorem dL_whole_49 : decode cL_whole 49 = .ok (.lload_n 1, 1) := by decide +kernel
theorem dL_whole_50 : decode cL_whole 50 = .ok (.lmul, 1) := by decide +kernel
theorem dL_whole_51 : decode cL_whole 51 = .ok (.aload_n 0, 1) := by decide +kernel
theorem dL_whole_52 : decode cL_whole 52 = .ok (.iload_n 3, 1) := by decide +kernel
theorem dL_whole_53 : decode cL_whole 53 = .ok (.iconst 4, 1) := by decide +kernel
theorem dL_whole_54 : decode cL_whole 54 = .ok (.idiv, 1) := by decide +kernel
theorem dL_whole_55 : decode cL_whole 55 = .ok (.iload_n 3, 1) := by decide +kernel
theorem dL_whole_56 : decode cL_whole 56 = .ok (.iconst 4, 1) := by decide +kernel
theorem dL_whole_57 : decode cL_whole 57 = .ok (.irem, 1) := by decide +kernel
theorem dL_whole_58 : decode cL_whole 58 = .ok (.invokevirtual 19, 3) := by decide +kernel
theorem dL_whole_61 : decode cL_whole 61 = .ok (.i2l, 1) := by decide +kernel
theorem dL_whole_62 : decode cL_whole 62 = .ok (.ladd, 1) := by decide +kernel
theorem dL_whole_63 : decode cL_whole 63 = .ok (.lstore_n 1, 1) := by decide +kernel
theorem dL_whole_64 : decode cL_whole 64 = .ok (.iinc 3 1, 3) := by decide +kernel
theorem dL_whole_67 : decode cL_whole 67 = .ok (.goto (-27), 3) := by decide +kernel
theorem dL_whole_70 : decode cL_whole 70 = .ok (.iconst 0, 1) := by decide +kernel
theorem dL_whole_71 : decode cL_whole 71 = .ok (.istore_n 3, 1) := by decide +kernel
theorem dL_whole_72 : decode cL_whole 72 = .ok (.iload_n 3, 1) := by decide +kernel
theorem dL_whole_73 : decode cL_whole 73 = .ok (.bipush 13, 2) := by decide +kernel
theorem dL_whole_75 : decode cL_whole 75 = .ok (.if_icmp .ge 22, 3) := by decide +kernel
theorem dL_whole_78 : decode cL_whole 78 = .ok (.ldc2_w 11, 3) := by decide +kernel
theorem dL_whole_81 : decode cL_whole 81 = .ok (.lload_n 1, 1) := by decide +kernel
theorem dL_whole_82 : decode cL_whole 82 = .ok (.lmul, 1) := by decide +kernel
theorem dL_whole_83 : decode cL_whole 83 = .ok (.aload_n 0, 1) := by decide +kernel
theorem dL_whole_84 : decode cL_whole 84 = .ok (.iload_n 3, 1) := by decide +kernel
theorem dL_whole_85 : decode cL_whole 85 = .ok (.invokevirtual 22, 3) := by decide +kernel
theorem dL_whole_88 : decode cL_whole 88 = .ok (.i2l, 1) := by decide +kernel
theorem dL_whole_89 : decode cL_whole 89 = .ok (.ladd, 1) := by decide +kernel
theorem dL_whole_90 : decode cL_whole 90 = .ok (.lstore_n 1, 1) := by decide +kernel
theorem dL_whole_91 : decode cL_whole 91 = .ok (.iinc 3 1, 3) := by decide +kernel
theorem dL_whole_94 : decode cL_whole 94 = .ok (.goto (-22), 3) := by decide +kernel
theorem dL_whole_97 : decode cL_whole 97 = .ok (.lload_n 1, 1) := by decide +kernel
theorem dL_whole_98 : decode cL_whole 98 = .ok (.lreturn, 1) := by decide +kernel
theorem dL_sound_0 : decode cL_sound 0 = .ok (.aload_n 0, 1) := by decide +kernel
theorem dL_sound_1 : decode cL_sound 1 = .ok (.iconst 0, 1) := by decide +kernel
theorem dL_sound_2 : decode cL_sound 2 = .ok (.invokevirtual 22, 3) := by decide +kernel
theorem dL_sound_5 : decode cL_sound 5 = .ok (.istore_n 1, 1) := by decide +kernel
theorem dL_sound_6 : decode cL_sound 6 = .ok (.aload_n 0, 1) := by decide +kernel
theorem dL_sound_7 : decode cL_sound 7 = .ok (.bipush 12, 2) := by decide +kernel
theorem dL_sound_9 : decode cL_sound 9 = .ok (.invokevirtual 22, 3) := by decide +kernel
theorem dL_sound_12 : decode cL_sound 12 = .ok (.istore_n 2, 1) := by decide +kernel
theorem dL_sound_13 : decode cL_sound 13 = .ok (.iload_n 1, 1) := by decide +kernel
theorem dL_sound_14 : decode cL_sound 14 = .ok (.ifCond .lt 41, 3) := by decide +kernel
theorem dL_sound_17 : decode cL_sound 17 = .ok (.iload_n 1, 1) := by decide +kernel
theorem dL_sound_18 : decode cL_sound 18 = .ok (.bipush 7, 2) := by decide +kernel
theorem dL_sound_20 : decode cL_sound 20 = .ok (.if_icmp .gt 35, 3) := by decide +kernel
theorem dL_sound_23 : decode cL_sound 23 = .ok (.iload_n 1, 1) := by decide +kernel
theorem dL_sound_24 : decode cL_sound 24 = .ok (.ifCond .le 13, 3) := by decide +kernel
theorem dL_sound_27 : decode cL_sound 27 = .ok (.aload_n 0, 1) := by decide +kernel
theorem dL_sound_28 : decode cL_sound 28 = .ok (.iload_n 1, 1) := by decide +kernel
theorem dL_sound_29 : decode cL_sound 29 = .ok (.iconst 1, 1) := by decide +kernel
theorem dL_sound_30 : decode cL_sound 30 = .ok (.invokevirtual 13, 3) := by decide +kernel
theorem dL_sound_33 : decode cL_sound 33 = .ok (.iconst 1, 1) := by decide +kernel
theorem dL_sound_34 : decode cL_sound 34 = .ok (.if_icmp .ne 21, 3) := by decide +kernel
theorem dL_sound_37 : decode cL_sound 37 = .ok (.aload_n 0, 1) := by decide +kernel
theorem dL_sound_38 : decode cL_sound 38 = .ok (.iconst 2, 1) := by decide +kernel
theorem dL_sound_39 : decode cL_sound 39 = .ok (.invokevirtual 22, 3) := by decide +kernel
theorem dL_sound_42 : decode cL_sound 42 = .ok (.ifCond .lt 13, 3) := by decide +kernel
theorem dL_sound_45 : decode cL_sound 45 = .ok (.aload_n 0, 1) := by decide +kernel
theorem dL_sound_46 : decode cL_sound 46 = .ok (.iconst 2, 1) := by decide +kernel
theorem dL_sound_47 : decode cL_sound 47 = .ok (.invokevirtual 22, 3) := by decide +kernel
theorem dL_sound_50 : decode cL_sound 50 = .ok (.bipush 10, 2) := by decide +kernel
theorem dL_sound_52 : decode cL_sound 52 = .ok (.if_icmp .le 5, 3) := by decide +kernel
theorem dL_sound_55 : decode cL_sound 55 = .ok (.iconst 0, 1) := by decide +kernel
theorem dL_sound_56 : decode cL_sound 56 = .ok (.ireturn, 1) := by decide +kernel
theorem dL_sound_57 : decode cL_sound 57 = .ok (.iconst 0, 1) := by decide +kernel
theorem dL_sound_58 : decode cL_sound 58 = .ok (.istore_n 3, 1) := by decide +kernel
theorem dL_sound_59 : decode cL_sound 59 = .ok (.iload_n 3, 1) := by decide +kernel
theorem dL_sound_60 : decode cL_sound 60 = .ok (.iconst 5, 1) := by decide +kernel
theorem dL_sound_61 : decode cL_sound 61 = .ok (.if_icmp .ge 155, 3) := by decide +kernel
theorem dL_sound_64 : decode cL_sound 64 = .ok (.iconst 1, 1) := by decide +kernel
theorem dL_sound_65 : decode cL_sound 65 = .ok (.istore 4, 2) := by decide +kernel
theorem dL_sound_67 : decode cL_sound 67 = .ok (.iload 4, 2) := by decide +kernel
theorem dL_sound_69 : decode cL_sound 69 = .ok (.bipush 8, 2) := by decide +kernel
theorem dL_sound_71 : decode cL_sound 71 = .ok (.if_icmp .ge 116, 3) := by decide +kernel
theorem dL_sound_74 : decode cL_sound 74 = .ok (.aload_n 0, 1) := by decide +kernel
theorem dL_sound_75 : decode cL_sound 75 = .ok (.iload 4, 2) := by decide +kernel
theorem dL_sound_77 : decode cL_sound 77 = .ok (.iconst 0, 1) := by decide +kernel
theorem dL_sound_78 : decode cL_sound 78 = .ok (.invokevirtual 13, 3) := by decide +kernel
theorem dL_sound_81 : decode cL_sound 81 = .ok (.iload_n 3, 1) := by decide +kernel
theorem dL_sound_82 : decode cL_sound 82 = .ok (.ishr, 1) := by decide +kernel
theorem dL_sound_83 : decode cL_sound 83 = .ok (.iconst 1, 1) := by decide +kernel
theorem dL_sound_84 : decode cL_sound 84 = .ok (.iand, 1) := by decide +kernel
theorem dL_sound_85 : decode cL_sound 85 = .ok (.iconst 1, 1) := by decide +kernel
theorem dL_sound_86 : decode cL_sound 86 = .ok (.if_icmp .ne 7, 3) := by decide +kernel
theorem dL_sound_89 : decode cL_sound 89 = .ok (.iconst 1, 1) := by decide +kernel
theorem dL_sound_90 : decode cL_sound 90 = .ok (.goto 4, 3) := by decide +kernel
theorem dL_sound_93 : decode cL_sound 93 = .ok (.iconst 0, 1) := by decide +kernel
theorem dL_sound_94 : decode cL_sound 94 = .ok (.istore 5, 2) := by decide +kernel
theorem dL_sound_96 : decode cL_sound 96 = .ok (.aload_n 0, 1) := by decide +kernel
theorem dL_sound_97 : decode cL_sound 97 = .ok (.iload 4, 2) := by decide +kernel
theorem dL_sound_99 : decode cL_sound 99 = .ok (.iconst 1, 1) := by decide +kernel
theorem dL_sound_100 : decode cL_sound 100 = .ok (.invokevirtual 13, 3) := by decide +kernel
theorem dL_sound_103 : decode cL_sound 103 = .ok (.iconst 1, 1) := by decide +kernel
theorem dL_sound_104 : decode cL_sound 104 = .ok (.if_icmp .ne 7, 3) := by decide +kernel
theorem dL_sound_107 : decode cL_sound 107 = .ok (.iconst 1, 1) := by decide +kernel
theorem dL_sound_108 : decode cL_sound 108 = .ok (.goto 4, 3) := by decide +kernel
theorem dL_sound_111 : decode cL_sound 111 = .ok (.iconst 0, 1) := by decide +kernel
theorem dL_sound_112 : decode cL_sound 112 = .ok (.istore 6, 2) := by decide +kernel
theorem dL_sound_114 : decode cL_sound 114 = .ok (.iload 6, 2) := by decide +kernel
theorem dL_sound_116 : decode cL_sound 116 = .ok (.iload_n 2, 1) := by decide +kernel
theorem dL_sound_117 : decode cL_sound 117 = .ok (.iload 4, 2) := by decide +kernel
theorem dL_sound_119 : decode cL_sound 119 = .ok (.ishr, 1) := by decide +kernel
theorem dL_sound_120 : decode cL_sound 120 = .ok (.iconst 1, 1) := by decide +kernel
theorem dL_sound_121 : decode cL_sound 121 = .ok (.iand, 1) := by decide +kernel
theorem dL_sound_122 : decode cL_sound 122 = .ok (.iconst 1, 1) := by decide +kernel
theorem dL_sound_123 : decode cL_sound 123 = .ok (.if_icmp .ne 7, 3) := by decide +kernel
theorem dL_sound_126 : decode cL_sound 126 = .ok (.iconst 1, 1) := by decide +kernel
theorem dL_sound_127 : decode cL_sound 127 = .ok (.goto 4, 3) := by decide +kernel
theorem dL_sound_130 : decode cL_sound 130 = .ok (.iconst 0, 1) := by decide +kernel
theorem dL_sound_131 : decode cL_sound 131 = .ok (.if_icmp .ne 48, 3) := by decide +kernel
theorem dL_sound_134 : decode cL_sound 134 = .ok (.iload 6, 2) := by decide +kernel
theorem dL_sound_136 : decode cL_sound 136 = .ok (.ifCond .eq 45, 3) := by decide +kernel
theorem dL_sound_139 : decode cL_sound 139 = .ok (.aload_n 0, 1) := by decide +kernel
theorem dL_sound_140 : decode cL_sound 140 = .ok (.iload 4, 2) := by decide +kernel
theorem dL_sound_142 : decode cL_sound 142 = .ok (.iconst 0, 1) := by decide +kernel
theorem dL_sound_143 : decode cL_sound 143 = .ok (.invokevirtual 13, 3) := by decide +kernel
theorem dL_sound_146 : decode cL_sound 146 = .ok (.ifCond .eq 33, 3) := by decide +kernel
theorem dL_sound_149 : decode cL_sound 149 = .ok (.iload 5, 2) := by decide +kernel
theorem dL_sound_151 : decode cL_sound 151 = .ok (.ifCond .eq 13, 3) := by decide +kernel
theorem dL_sound_154 : decode cL_sound 154 = .ok (.aload_n 0, 1) := by decide +kernel
theorem dL_sound_155 : decode cL_sound 155 = .ok (.iload_n 3, 1) := by decide +kernel
theorem dL_sound_156 : decode cL_sound 156 = .ok (.iconst 0, 1) := by decide +kernel
theorem dL_sound_157 : decode cL_sound 157 = .ok (.invokevirtual 19, 3) := by decide +kernel
theorem dL_sound_160 : decode cL_sound 160 = .ok (.iconst 1, 1) := by decide +kernel
theorem dL_sound_161 : decode cL_sound 161 = .ok (.if_icmp .eq 18, 3) := by decide +kernel
theorem dL_sound_164 : decode cL_sound 164 = .ok (.iload 5, 2) := by decide +kernel
theorem dL_sound_166 : decode cL_sound 166 = .ok (.ifCond .ne 15, 3) := by decide +kernel
theorem dL_sound_169 : decode cL_sound 169 = .ok (.aload_n 0, 1) := by decide +kernel
theorem dL_sound_170 : decode cL_sound 170 = .ok (.iload_n 3, 1) := by decide +kernel
theorem dL_sound_171 : decode cL_sound 171 = .ok (.iconst 0, 1) := by decide +kernel
theorem dL_sound_172 : decode cL_sound 172 = .ok (.invokevirtual 19, 3) := by decide +kernel
theorem dL_sound_175 : decode cL_sound 175 = .ok (.iconst 2, 1) := by decide +kernel
theorem dL_sound_176 : decode cL_sound 176 = .ok (.if_icmp .ne 5, 3) := by decide +kernel
theorem dL_sound_179 : decode cL_sound 179 = .ok (.iconst 0, 1) := by decide +kernel
theorem dL_sound_180 : decode cL_sound 180 = .ok (.ireturn, 1) := by decide +kernel
theorem dL_sound_181 : decode cL_sound 181 = .ok (.iinc 4 1, 3) := by decide +kernel
theorem dL_sound_184 : decode cL_sound 184 = .ok (.goto (-117), 3) := by decide +kernel
theorem dL_sound_187 : decode cL_sound 187 = .ok (.aload_n 0, 1) := by decide +kernel
theorem dL_sound_188 : decode cL_sound 188 = .ok (.iload_n 3, 1) := by decide +kernel
theorem dL_sound_189 : decode cL_sound 189 = .ok (.iconst 2, 1) := by decide +kernel
theorem dL_sound_190 : decode cL_sound 190 = .ok (.invokevirtual 19, 3) := by decide +kernel
theorem dL_sound_193 : decode cL_sound 193 = .ok (.iconst 1, 1) := by decide +kernel
theorem dL_sound_194 : decode cL_sound 194 = .ok (.if_icmp .lt 14, 3) := by decide +kernel
theorem dL_sound_197 : decode cL_sound 197 = .ok (.aload_n 0, 1) := by decide +kernel
theorem dL_sound_198 : decode cL_sound 198 = .ok (.iload_n 3, 1) := by decide +kernel
theorem dL_sound_199 : decode cL_sound 199 = .ok (.iconst 2, 1) := by decide +kernel
theorem dL_sound_200 : decode cL_sound 200 = .ok (.invokevirtual 19, 3) := by decide +kernel
theorem dL_sound_203 : decode cL_sound 203 = .ok (.bipush 20, 2) := by decide +kernel
theorem dL_sound_205 : decode cL_sound 205 = .ok (.if_icmp .le 5, 3) := by decide +kernel
theorem dL_sound_208 : decode cL_sound 208 = .ok (.iconst 0, 1) := by decide +kernel
theorem dL_sound_209 : decode cL_sound 209 = .ok (.ireturn, 1) := by decide +kernel
theorem dL_sound_210 : decode cL_sound 210 = .ok (.iinc 3 1, 3) := by decide +kernel
theorem dL_sound_213 : decode cL_sound 213 = .ok (.goto (-154), 3) := by decide +kernel
theorem dL_sound_216 : decode cL_sound 216 = .ok (.iconst 1, 1) := by decide +kernel
theorem dL_sound_217 : decode cL_sound 217 = .ok (.istore_n 3, 1) := by decide +kernel
theorem dL_sound_218 : decode cL_sound 218 = .ok (.iload_n 3, 1) := by decide +kernel
theorem dL_sound_219 : decode cL_sound 219 = .ok (.bipush 8, 2) := by decide +kernel
theorem dL_sound_221 : decode cL_sound 221 = .ok (.if_icmp .ge 308, 3) := by decide +kernel
theorem dL_sound_224 : decode cL_sound 224 = .ok (.iconst 0, 1) := by decide +kernel
theorem dL_sound_225 : decode cL_sound 225 = .ok (.istore 4, 2) := by decide +kernel
theorem dL_sound_227 : decode cL_sound 227 = .ok (.iconst 1, 1) := by decide +kernel
theorem dL_sound_228 : decode cL_sound 228 = .ok (.istore 5, 2) := by decide +kernel
theorem dL_sound_230 : decode cL_sound 230 = .ok (.iload 5, 2) := by decide +kernel
theorem dL_sound_232 : decode cL_sound 232 = .ok (.bipush 8, 2) := by decide +kernel
theorem dL_sound_234 : decode cL_sound 234 = .ok (.if_icmp .ge 276, 3) := by decide +kernel
theorem dL_sound_237 : decode cL_sound 237 = .ok (.iload_n 3, 1) := by decide +kernel
theorem dL_sound_238 : decode cL_sound 238 = .ok (.iload 5, 2) := by decide +kernel
theorem dL_sound_240 : decode cL_sound 240 = .ok (.if_icmp .ne 6, 3) := by decide +kernel
theorem dL_sound_243 : decode cL_sound 243 = .ok (.goto 261, 3) := by decide +kernel
theorem dL_sound_246 : decode cL_sound 246 = .ok (.aload_n 0, 1) := by decide +kernel
theorem dL_sound_247 : decode cL_sound 247 = .ok (.iload_n 3, 1) := by decide +kernel
theorem dL_sound_248 : decode cL_sound 248 = .ok (.iload 5, 2) := by decide +kernel
theorem dL_sound_250 : decode cL_sound 250 = .ok (.iconst 0, 1) := by decide +kernel
theorem dL_sound_251 : decode cL_sound 251 = .ok (.invokevirtual 26, 3) := by decide +kernel
theorem dL_sound_254 : decode cL_sound 254 = .ok (.istore 6, 2) := by decide +kernel
theorem dL_sound_256 : decode cL_sound 256 = .ok (.iload 4, 2) := by decide +kernel
theorem dL_sound_258 : decode cL_sound 258 = .ok (.iload 6, 2) := by decide +kernel
theorem dL_sound_260 : decode cL_sound 260 = .ok (.iadd, 1) := by decide +kernel
theorem dL_sound_261 : decode cL_sound 261 = .ok (.istore 4, 2) := by decide +kernel
theorem dL_sound_263 : decode cL_sound 263 = .ok (.iload 6, 2) := by decide +kernel
theorem dL_sound_265 : decode cL_sound 265 = .ok (.aload_n 0, 1) := by decide +kernel
theorem dL_sound_266 : decode cL_sound 266 = .ok (.iload 5, 2) := by decide +kernel
theorem dL_sound_268 : decode cL_sound 268 = .ok (.iload_n 3, 1) := by decide +kernel
theorem dL_sound_269 : decode cL_sound 269 = .ok (.iconst 0, 1) := by decide +kernel
theorem dL_sound_270 : decode cL_sound 270 = .ok (.invokevirtual 26, 3) := by decide +kernel
theorem dL_sound_273 : decode cL_sound 273 = .ok (.if_icmp .ne 22, 3) := by decide +kernel
