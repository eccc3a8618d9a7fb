theorem dL_law_51 : decode cL_law 51 = .ok (.imul, 1) := by decide +kernel
theorem dL_law_52 : decode cL_law 52 = .ok (.iconst 2, 1) := by decide +kernel
theorem dL_law_53 : decode cL_law 53 = .ok (.iadd, 1) := by decide +kernel
theorem dL_law_54 : decode cL_law 54 = .ok (.invokestatic 98, 3) := by decide +kernel
theorem dL_law_57 : decode cL_law 57 = .ok (.istore 7, 2) := by decide +kernel
theorem dL_law_59 : decode cL_law 59 = .ok (.aload_n 1, 1) := by decide +kernel
theorem dL_law_60 : decode cL_law 60 = .ok (.invokestatic 85, 3) := by decide +kernel
theorem dL_law_63 : decode cL_law 63 = .ok (.lstore 8, 2) := by decide +kernel
theorem dL_law_65 : decode cL_law 65 = .ok (.iload 5, 2) := by decide +kernel
theorem dL_law_67 : decode cL_law 67 = .ok (.bipush 28, 2) := by decide +kernel
theorem dL_law_69 : decode cL_law 69 = .ok (.ishr, 1) := by decide +kernel
theorem dL_law_70 : decode cL_law 70 = .ok (.iconst 3, 1) := by decide +kernel
theorem dL_law_71 : decode cL_law 71 = .ok (.iand, 1) := by decide +kernel
theorem dL_law_72 : decode cL_law 72 = .ok (.iconst 1, 1) := by decide +kernel
theorem dL_law_73 : decode cL_law 73 = .ok (.if_icmp .ne 65, 3) := by decide +kernel
theorem dL_law_76 : decode cL_law 76 = .ok (.aload_n 1, 1) := by decide +kernel
theorem dL_law_77 : decode cL_law 77 = .ok (.invokevirtual 102, 3) := by decide +kernel
theorem dL_law_80 : decode cL_law 80 = .ok (.istore 10, 2) := by decide +kernel
theorem dL_law_82 : decode cL_law 82 = .ok (.iload 10, 2) := by decide +kernel
theorem dL_law_84 : decode cL_law 84 = .ok (.iload_n 3, 1) := by decide +kernel
theorem dL_law_85 : decode cL_law 85 = .ok (.ifCond .ne 8, 3) := by decide +kernel
theorem dL_law_88 : decode cL_law 88 = .ok (.bipush (-3), 2) := by decide +kernel
theorem dL_law_90 : decode cL_law 90 = .ok (.goto 6, 3) := by decide +kernel
theorem dL_law_93 : decode cL_law 93 = .ok (.iload_n 3, 1) := by decide +kernel
theorem dL_law_94 : decode cL_law 94 = .ok (.iconst 1, 1) := by decide +kernel
theorem dL_law_95 : decode cL_law 95 = .ok (.isub, 1) := by decide +kernel
theorem dL_law_96 : decode cL_law 96 = .ok (.if_icmp .ne 25, 3) := by decide +kernel
theorem dL_law_99 : decode cL_law 99 = .ok (.aload_n 1, 1) := by decide +kernel
theorem dL_law_100 : decode cL_law 100 = .ok (.invokestatic 85, 3) := by decide +kernel
theorem dL_law_103 : decode cL_law 103 = .ok (.iload_n 3, 1) := by decide +kernel
theorem dL_law_104 : decode cL_law 104 = .ok (.ifCond .ne 8, 3) := by decide +kernel
theorem dL_law_107 : decode cL_law 107 = .ok (.lload 8, 2) := by decide +kernel
theorem dL_law_109 : decode cL_law 109 = .ok (.goto 8, 3) := by decide +kernel
theorem dL_law_112 : decode cL_law 112 = .ok (.aload_n 2, 1) := by decide +kernel
theorem dL_law_113 : decode cL_law 113 = .ok (.iload_n 3, 1) := by decide +kernel
theorem dL_law_114 : decode cL_law 114 = .ok (.iconst 1, 1) := by decide +kernel
theorem dL_law_115 : decode cL_law 115 = .ok (.isub, 1) := by decide +kernel
theorem dL_law_116 : decode cL_law 116 = .ok (.laload, 1) := by decide +kernel
theorem dL_law_117 : decode cL_law 117 = .ok (.lcmp, 1) := by decide +kernel
theorem dL_law_118 : decode cL_law 118 = .ok (.ifCond .eq 5, 3) := by decide +kernel
theorem dL_law_121 : decode cL_law 121 = .ok (.iconst 0, 1) := by decide +kernel
theorem dL_law_122 : decode cL_law 122 = .ok (.ireturn, 1) := by decide +kernel
theorem dL_law_123 : decode cL_law 123 = .ok (.iload_n 3, 1) := by decide +kernel
theorem dL_law_124 : decode cL_law 124 = .ok (.iload_n 3, 1) := by decide +kernel
theorem dL_law_125 : decode cL_law 125 = .ok (.ifCond .le 7, 3) := by decide +kernel
theorem dL_law_128 : decode cL_law 128 = .ok (.iconst 1, 1) := by decide +kernel
theorem dL_law_129 : decode cL_law 129 = .ok (.goto 4, 3) := by decide +kernel
theorem dL_law_132 : decode cL_law 132 = .ok (.iconst 0, 1) := by decide +kernel
theorem dL_law_133 : decode cL_law 133 = .ok (.isub, 1) := by decide +kernel
theorem dL_law_134 : decode cL_law 134 = .ok (.istore_n 3, 1) := by decide +kernel
theorem dL_law_135 : decode cL_law 135 = .ok (.goto 112, 3) := by decide +kernel
theorem dL_law_138 : decode cL_law 138 = .ok (.aload_n 1, 1) := by decide +kernel
theorem dL_law_139 : decode cL_law 139 = .ok (.iload 5, 2) := by decide +kernel
theorem dL_law_141 : decode cL_law 141 = .ok (.iload 6, 2) := by decide +kernel
theorem dL_law_143 : decode cL_law 143 = .ok (.iload 7, 2) := by decide +kernel
theorem dL_law_145 : decode cL_law 145 = .ok (.invokestatic 106, 3) := by decide +kernel
theorem dL_law_148 : decode cL_law 148 = .ok (.istore 10, 2) := by decide +kernel
theorem dL_law_150 : decode cL_law 150 = .ok (.iload 10, 2) := by decide +kernel
theorem dL_law_152 : decode cL_law 152 = .ok (.bipush (-2), 2) := by decide +kernel
theorem dL_law_154 : decode cL_law 154 = .ok (.if_icmp .eq 10, 3) := by decide +kernel
theorem dL_law_157 : decode cL_law 157 = .ok (.iload 10, 2) := by decide +kernel
theorem dL_law_159 : decode cL_law 159 = .ok (.bipush (-3), 2) := by decide +kernel
theorem dL_law_161 : decode cL_law 161 = .ok (.if_icmp .ne 7, 3) := by decide +kernel
theorem dL_law_164 : decode cL_law 164 = .ok (.iconst 1, 1) := by decide +kernel
theorem dL_law_165 : decode cL_law 165 = .ok (.goto 4, 3) := by decide +kernel
theorem dL_law_168 : decode cL_law 168 = .ok (.iconst 0, 1) := by decide +kernel
theorem dL_law_169 : decode cL_law 169 = .ok (.istore 11, 2) := by decide +kernel
theorem dL_law_171 : decode cL_law 171 = .ok (.iload 11, 2) := by decide +kernel
theorem dL_law_173 : decode cL_law 173 = .ok (.ifCond .eq 15, 3) := by decide +kernel
theorem dL_law_176 : decode cL_law 176 = .ok (.aload_n 1, 1) := by decide +kernel
theorem dL_law_177 : decode cL_law 177 = .ok (.invokestatic 85, 3) := by decide +kernel
theorem dL_law_180 : decode cL_law 180 = .ok (.lload 8, 2) := by decide +kernel
theorem dL_law_182 : decode cL_law 182 = .ok (.lcmp, 1) := by decide +kernel
theorem dL_law_183 : decode cL_law 183 = .ok (.ifCond .eq 5, 3) := by decide +kernel
theorem dL_law_186 : decode cL_law 186 = .ok (.iconst 0, 1) := by decide +kernel
theorem dL_law_187 : decode cL_law 187 = .ok (.ireturn, 1) := by decide +kernel
theorem dL_law_188 : decode cL_law 188 = .ok (.iconst 1, 1) := by decide +kernel
theorem dL_law_189 : decode cL_law 189 = .ok (.istore 12, 2) := by decide +kernel
theorem dL_law_191 : decode cL_law 191 = .ok (.iload 12, 2) := by decide +kernel
theorem dL_law_193 : decode cL_law 193 = .ok (.iconst 5, 1) := by decide +kernel
theorem dL_law_194 : decode cL_law 194 = .ok (.if_icmp .ge 29, 3) := by decide +kernel
theorem dL_law_197 : decode cL_law 197 = .ok (.iload 11, 2) := by decide +kernel
theorem dL_law_199 : decode cL_law 199 = .ok (.ifCond .ne 24, 3) := by decide +kernel
theorem dL_law_202 : decode cL_law 202 = .ok (.iload_n 3, 1) := by decide +kernel
theorem dL_law_203 : decode cL_law 203 = .ok (.iconst 5, 1) := by decide +kernel
theorem dL_law_204 : decode cL_law 204 = .ok (.if_icmp .ne 19, 3) := by decide +kernel
theorem dL_law_207 : decode cL_law 207 = .ok (.aload_n 2, 1) := by decide +kernel
theorem dL_law_208 : decode cL_law 208 = .ok (.iload 12, 2) := by decide +kernel
theorem dL_law_210 : decode cL_law 210 = .ok (.iconst 1, 1) := by decide +kernel
theorem dL_law_211 : decode cL_law 211 = .ok (.isub, 1) := by decide +kernel
theorem dL_law_212 : decode cL_law 212 = .ok (.aload_n 2, 1) := by decide +kernel
theorem dL_law_213 : decode cL_law 213 = .ok (.iload 12, 2) := by decide +kernel
theorem dL_law_215 : decode cL_law 215 = .ok (.laload, 1) := by decide +kernel
theorem dL_law_216 : decode cL_law 216 = .ok (.lastore, 1) := by decide +kernel
theorem dL_law_217 : decode cL_law 217 = .ok (.iinc 12 1, 3) := by decide +kernel
theorem dL_law_220 : decode cL_law 220 = .ok (.goto (-29), 3) := by decide +kernel
theorem dL_law_223 : decode cL_law 223 = .ok (.iload 11, 2) := by decide +kernel
theorem dL_law_225 : decode cL_law 225 = .ok (.ifCond .ne 22, 3) := by decide +kernel
theorem dL_law_228 : decode cL_law 228 = .ok (.iload_n 3, 1) := by decide +kernel
theorem dL_law_229 : decode cL_law 229 = .ok (.iconst 5, 1) := by decide +kernel
theorem dL_law_230 : decode cL_law 230 = .ok (.if_icmp .ne 7, 3) := by decide +kernel
theorem dL_law_233 : decode cL_law 233 = .ok (.iconst 4, 1) := by decide +kernel
theorem dL_law_234 : decode cL_law 234 = .ok (.goto 4, 3) := by decide +kernel
theorem dL_law_237 : decode cL_law 237 = .ok (.iload_n 3, 1) := by decide +kernel
theorem dL_law_238 : decode cL_law 238 = .ok (.istore_n 3, 1) := by decide +kernel
theorem dL_law_239 : decode cL_law 239 = .ok (.aload_n 2, 1) := by decide +kernel
theorem dL_law_240 : decode cL_law 240 = .ok (.iload_n 3, 1) := by decide +kernel
theorem dL_law_241 : decode cL_law 241 = .ok (.lload 8, 2) := by decide +kernel
theorem dL_law_243 : decode cL_law 243 = .ok (.lastore, 1) := by decide +kernel
theorem dL_law_244 : decode cL_law 244 = .ok (.iinc 3 1, 3) := by decide +kernel
theorem dL_law_247 : decode cL_law 247 = .ok (.aload_n 1, 1) := by decide +kernel
theorem dL_law_248 : decode cL_law 248 = .ok (.iconst 4, 1) := by decide +kernel
theorem dL_law_249 : decode cL_law 249 = .ok (.invokevirtual 89, 3) := by decide +kernel
theorem dL_law_252 : decode cL_law 252 = .ok (.iload_n 3, 1) := by decide +kernel
theorem dL_law_253 : decode cL_law 253 = .ok (.if_icmp .ne 10, 3) := by decide +kernel
theorem dL_law_256 : decode cL_law 256 = .ok (.aload_n 1, 1) := by decide +kernel
theorem dL_law_257 : decode cL_law 257 = .ok (.invokestatic 110, 3) := by decide +kernel
theorem dL_law_260 : decode cL_law 260 = .ok (.ifCond .ne 5, 3) := by decide +kernel
theorem dL_law_263 : decode cL_law 263 = .ok (.iconst 0, 1) := by decide +kernel
theorem dL_law_264 : decode cL_law 264 = .ok (.ireturn, 1) := by decide +kernel
theorem dL_law_265 : decode cL_law 265 = .ok (.iload 4, 2) := by decide +kernel
theorem dL_law_267 : decode cL_law 267 = .ok (.iconst 3, 1) := by decide +kernel
theorem dL_law_268 : decode cL_law 268 = .ok (.irem, 1) := by decide +kernel
theorem dL_law_269 : decode cL_law 269 = .ok (.iconst 2, 1) := by decide +kernel
theorem dL_law_270 : decode cL_law 270 = .ok (.if_icmp .ne 44, 3) := by decide +kernel
theorem dL_law_273 : decode cL_law 273 = .ok (.aload_n 1, 1) := by decide +kernel
theorem dL_law_274 : decode cL_law 274 = .ok (.iload 6, 2) := by decide +kernel
theorem dL_law_276 : decode cL_law 276 = .ok (.iload 7, 2) := by decide +kernel
theorem dL_law_278 : decode cL_law 278 = .ok (.invokestatic 114, 3) := by decide +kernel
theorem dL_law_281 : decode cL_law 281 = .ok (.ifCond .eq 14, 3) := by decide +kernel
theorem dL_law_284 : decode cL_law 284 = .ok (.aload_n 1, 1) := by decide +kernel
theorem dL_law_285 : decode cL_law 285 = .ok (.iload 6, 2) := by decide +kernel
theorem dL_law_287 : decode cL_law 287 = .ok (.iconst 2, 1) := by decide +kernel
theorem dL_law_288 : decode cL_law 288 = .ok (.ishr, 1) := by decide +kernel
theorem dL_law_289 : decode cL_law 289 = .ok (.invokestatic 117, 3) := by decide +kernel
theorem dL_law_292 : decode cL_law 292 = .ok (.ifCond .ne 5, 3) := by decide +kernel
theorem dL_law_295 : decode cL_law 295 = .ok (.iconst 0, 1) := by decide +kernel
theorem dL_law_296 : decode cL_law 296 = .ok (.ireturn, 1) := by decide +kernel
theorem dL_law_297 : decode cL_law 297 = .ok (.iconst 0, 1) := by decide +kernel
theorem dL_law_298 : decode cL_law 298 = .ok (.istore_n 3, 1) := by decide +kernel
theorem dL_law_299 : decode cL_law 299 = .ok (.aload_n 1, 1) := by decide +kernel
theorem dL_law_300 : decode cL_law 300 = .ok (.invokevirtual 102, 3) := by decide +kernel
theorem dL_law_303 : decode cL_law 303 = .ok (.ifCond .le 9, 3) := by decide +kernel
theorem dL_law_306 : decode cL_law 306 = .ok (.iinc 3 1, 3) := by decide +kernel
theorem dL_law_309 : decode cL_law 309 = .ok (.goto (-10), 3) := by decide +kernel
theorem dL_law_312 : decode cL_law 312 = .ok (.iconst 0, 1) := by decide +kernel
theorem dL_law_313 : decode cL_law 313 = .ok (.istore_n 3, 1) := by decide +kernel
theorem dL_law_314 : decode cL_law 314 = .ok (.iinc 4 1, 3) := by decide +kernel
theorem dL_law_317 : decode cL_law 317 = .ok (.goto (-299), 3) := by decide +kernel
theorem dL_law_320 : decode cL_law 320 = .ok (.aload_n 0, 1) := by decide +kernel
theorem dL_law_321 : decode cL_law 321 = .ok (.bipush 57, 2) := by decide +kernel
theorem dL_law_323 : decode cL_law 323 = .ok (.invokestatic 98, 3) := by decide +kernel
theorem dL_law_326 : decode cL_law 326 = .ok (.invokestatic 121, 3) := by decide +kernel
theorem dL_law_329 : decode cL_law 329 = .ok (.ifCond .eq 19, 3) := by decide +kernel
theorem dL_law_332 : decode cL_law 332 = .ok (.aload_n 0, 1) := by decide +kernel
theorem dL_law_333 : decode cL_law 333 = .ok (.bipush 58, 2) := by decide +kernel
theorem dL_law_335 : decode cL_law 335 = .ok (.invokestatic 98, 3) := by decide +kernel
theorem dL_law_338 : decode cL_law 338 = .ok (.invokestatic 121, 3) := by decide +kernel
theorem dL_law_341 : decode cL_law 341 = .ok (.ifCond .eq 7, 3) := by decide +kernel
theorem dL_law_344 : decode cL_law 344 = .ok (.iconst 1, 1) := by decide +kernel
theorem dL_law_345 : decode cL_law 345 = .ok (.goto 4, 3) := by decide +kernel
theorem dL_law_348 : decode cL_law 348 = .ok (.iconst 0, 1) := by decide +kernel
theorem dL_law_349 : decode cL_law 349 = .ok (.ireturn, 1) := by decide +kernel
