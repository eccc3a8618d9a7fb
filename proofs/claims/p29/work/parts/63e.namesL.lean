theorem dL_does_364 : decode cL_does 364 = .ok (.bipush 8, 2) := by decide +kernel
theorem dL_does_366 : decode cL_does 366 = .ok (.ishr, 1) := by decide +kernel
theorem dL_does_367 : decode cL_does 367 = .ok (.bipush 15, 2) := by decide +kernel
theorem dL_does_369 : decode cL_does 369 = .ok (.iand, 1) := by decide +kernel
theorem dL_does_370 : decode cL_does 370 = .ok (.ifCond .ne 7, 3) := by decide +kernel
theorem dL_does_373 : decode cL_does 373 = .ok (.iload_n 2, 1) := by decide +kernel
theorem dL_does_374 : decode cL_does 374 = .ok (.goto 11, 3) := by decide +kernel
theorem dL_does_377 : decode cL_does 377 = .ok (.iconst 1, 1) := by decide +kernel
theorem dL_does_378 : decode cL_does 378 = .ok (.iload_n 2, 1) := by decide +kernel
theorem dL_does_379 : decode cL_does 379 = .ok (.bipush 9, 2) := by decide +kernel
theorem dL_does_381 : decode cL_does 381 = .ok (.invokestatic 48, 3) := by decide +kernel
theorem dL_does_384 : decode cL_does 384 = .ok (.iadd, 1) := by decide +kernel
theorem dL_does_385 : decode cL_does 385 = .ok (.invokevirtual 54, 3) := by decide +kernel
theorem dL_does_388 : decode cL_does 388 = .ok (.ireturn, 1) := by decide +kernel
theorem dL_refused_0 : decode cL_refused 0 = .ok (.aload_n 0, 1) := by decide +kernel
theorem dL_refused_1 : decode cL_refused 1 = .ok (.invokestatic 85, 3) := by decide +kernel
theorem dL_refused_4 : decode cL_refused 4 = .ok (.lstore_n 3, 1) := by decide +kernel
theorem dL_refused_5 : decode cL_refused 5 = .ok (.aload_n 0, 1) := by decide +kernel
theorem dL_refused_6 : decode cL_refused 6 = .ok (.iconst 0, 1) := by decide +kernel
theorem dL_refused_7 : decode cL_refused 7 = .ok (.invokevirtual 89, 3) := by decide +kernel
theorem dL_refused_10 : decode cL_refused 10 = .ok (.istore 5, 2) := by decide +kernel
theorem dL_refused_12 : decode cL_refused 12 = .ok (.aload_n 0, 1) := by decide +kernel
theorem dL_refused_13 : decode cL_refused 13 = .ok (.iconst 4, 1) := by decide +kernel
theorem dL_refused_14 : decode cL_refused 14 = .ok (.invokevirtual 89, 3) := by decide +kernel
theorem dL_refused_17 : decode cL_refused 17 = .ok (.istore 6, 2) := by decide +kernel
theorem dL_refused_19 : decode cL_refused 19 = .ok (.aload_n 0, 1) := by decide +kernel
theorem dL_refused_20 : decode cL_refused 20 = .ok (.iconst 0, 1) := by decide +kernel
theorem dL_refused_21 : decode cL_refused 21 = .ok (.iconst 0, 1) := by decide +kernel
theorem dL_refused_22 : decode cL_refused 22 = .ok (.invokevirtual 58, 3) := by decide +kernel
theorem dL_refused_25 : decode cL_refused 25 = .ok (.bipush (-2), 2) := by decide +kernel
theorem dL_refused_27 : decode cL_refused 27 = .ok (.if_icmp .ne 289, 3) := by decide +kernel
theorem dL_refused_30 : decode cL_refused 30 = .ok (.aload_n 0, 1) := by decide +kernel
theorem dL_refused_31 : decode cL_refused 31 = .ok (.iconst 1, 1) := by decide +kernel
theorem dL_refused_32 : decode cL_refused 32 = .ok (.iload_n 1, 1) := by decide +kernel
theorem dL_refused_33 : decode cL_refused 33 = .ok (.bipush 32, 2) := by decide +kernel
theorem dL_refused_35 : decode cL_refused 35 = .ok (.ior, 1) := by decide +kernel
theorem dL_refused_36 : decode cL_refused 36 = .ok (.invokevirtual 58, 3) := by decide +kernel
theorem dL_refused_39 : decode cL_refused 39 = .ok (.bipush (-2), 2) := by decide +kernel
theorem dL_refused_41 : decode cL_refused 41 = .ok (.if_icmp .ne 275, 3) := by decide +kernel
theorem dL_refused_44 : decode cL_refused 44 = .ok (.aload_n 0, 1) := by decide +kernel
theorem dL_refused_45 : decode cL_refused 45 = .ok (.iconst 5, 1) := by decide +kernel
theorem dL_refused_46 : decode cL_refused 46 = .ok (.iconst 0, 1) := by decide +kernel
theorem dL_refused_47 : decode cL_refused 47 = .ok (.invokevirtual 70, 3) := by decide +kernel
theorem dL_refused_50 : decode cL_refused 50 = .ok (.bipush (-2), 2) := by decide +kernel
theorem dL_refused_52 : decode cL_refused 52 = .ok (.if_icmp .ne 264, 3) := by decide +kernel
theorem dL_refused_55 : decode cL_refused 55 = .ok (.aload_n 0, 1) := by decide +kernel
theorem dL_refused_56 : decode cL_refused 56 = .ok (.iconst 0, 1) := by decide +kernel
theorem dL_refused_57 : decode cL_refused 57 = .ok (.iload_n 1, 1) := by decide +kernel
theorem dL_refused_58 : decode cL_refused 58 = .ok (.iconst 4, 1) := by decide +kernel
theorem dL_refused_59 : decode cL_refused 59 = .ok (.ior, 1) := by decide +kernel
theorem dL_refused_60 : decode cL_refused 60 = .ok (.invokevirtual 70, 3) := by decide +kernel
theorem dL_refused_63 : decode cL_refused 63 = .ok (.bipush (-2), 2) := by decide +kernel
theorem dL_refused_65 : decode cL_refused 65 = .ok (.if_icmp .ne 251, 3) := by decide +kernel
theorem dL_refused_68 : decode cL_refused 68 = .ok (.aload_n 0, 1) := by decide +kernel
theorem dL_refused_69 : decode cL_refused 69 = .ok (.iconst 0, 1) := by decide +kernel
theorem dL_refused_70 : decode cL_refused 70 = .ok (.iconst 0, 1) := by decide +kernel
theorem dL_refused_71 : decode cL_refused 71 = .ok (.invokevirtual 61, 3) := by decide +kernel
theorem dL_refused_74 : decode cL_refused 74 = .ok (.bipush (-2), 2) := by decide +kernel
theorem dL_refused_76 : decode cL_refused 76 = .ok (.if_icmp .ne 240, 3) := by decide +kernel
theorem dL_refused_79 : decode cL_refused 79 = .ok (.aload_n 0, 1) := by decide +kernel
theorem dL_refused_80 : decode cL_refused 80 = .ok (.bipush 8, 2) := by decide +kernel
theorem dL_refused_82 : decode cL_refused 82 = .ok (.iconst 0, 1) := by decide +kernel
theorem dL_refused_83 : decode cL_refused 83 = .ok (.invokevirtual 73, 3) := by decide +kernel
theorem dL_refused_86 : decode cL_refused 86 = .ok (.bipush (-2), 2) := by decide +kernel
theorem dL_refused_88 : decode cL_refused 88 = .ok (.if_icmp .ne 228, 3) := by decide +kernel
theorem dL_refused_91 : decode cL_refused 91 = .ok (.aload_n 0, 1) := by decide +kernel
theorem dL_refused_92 : decode cL_refused 92 = .ok (.iconst 1, 1) := by decide +kernel
theorem dL_refused_93 : decode cL_refused 93 = .ok (.sipush 301, 3) := by decide +kernel
theorem dL_refused_96 : decode cL_refused 96 = .ok (.invokevirtual 76, 3) := by decide +kernel
theorem dL_refused_99 : decode cL_refused 99 = .ok (.bipush (-2), 2) := by decide +kernel
theorem dL_refused_101 : decode cL_refused 101 = .ok (.if_icmp .ne 215, 3) := by decide +kernel
theorem dL_refused_104 : decode cL_refused 104 = .ok (.aload_n 0, 1) := by decide +kernel
theorem dL_refused_105 : decode cL_refused 105 = .ok (.bipush (-4), 2) := by decide +kernel
theorem dL_refused_107 : decode cL_refused 107 = .ok (.invokevirtual 79, 3) := by decide +kernel
theorem dL_refused_110 : decode cL_refused 110 = .ok (.bipush (-2), 2) := by decide +kernel
theorem dL_refused_112 : decode cL_refused 112 = .ok (.if_icmp .ne 204, 3) := by decide +kernel
theorem dL_refused_115 : decode cL_refused 115 = .ok (.aload_n 0, 1) := by decide +kernel
theorem dL_refused_116 : decode cL_refused 116 = .ok (.iload_n 2, 1) := by decide +kernel
theorem dL_refused_117 : decode cL_refused 117 = .ok (.iconst 4, 1) := by decide +kernel
theorem dL_refused_118 : decode cL_refused 118 = .ok (.ior, 1) := by decide +kernel
theorem dL_refused_119 : decode cL_refused 119 = .ok (.invokevirtual 82, 3) := by decide +kernel
theorem dL_refused_122 : decode cL_refused 122 = .ok (.bipush (-2), 2) := by decide +kernel
theorem dL_refused_124 : decode cL_refused 124 = .ok (.if_icmp .ne 192, 3) := by decide +kernel
theorem dL_refused_127 : decode cL_refused 127 = .ok (.aload_n 0, 1) := by decide +kernel
theorem dL_refused_128 : decode cL_refused 128 = .ok (.iconst 0, 1) := by decide +kernel
theorem dL_refused_129 : decode cL_refused 129 = .ok (.iconst 0, 1) := by decide +kernel
theorem dL_refused_130 : decode cL_refused 130 = .ok (.invokevirtual 64, 3) := by decide +kernel
theorem dL_refused_133 : decode cL_refused 133 = .ok (.bipush (-2), 2) := by decide +kernel
theorem dL_refused_135 : decode cL_refused 135 = .ok (.if_icmp .ne 181, 3) := by decide +kernel
theorem dL_refused_138 : decode cL_refused 138 = .ok (.aload_n 0, 1) := by decide +kernel
theorem dL_refused_139 : decode cL_refused 139 = .ok (.iload_n 1, 1) := by decide +kernel
theorem dL_refused_140 : decode cL_refused 140 = .ok (.iconst 2, 1) := by decide +kernel
theorem dL_refused_141 : decode cL_refused 141 = .ok (.ior, 1) := by decide +kernel
theorem dL_refused_142 : decode cL_refused 142 = .ok (.iconst 1, 1) := by decide +kernel
theorem dL_refused_143 : decode cL_refused 143 = .ok (.invokevirtual 64, 3) := by decide +kernel
theorem dL_refused_146 : decode cL_refused 146 = .ok (.bipush (-2), 2) := by decide +kernel
theorem dL_refused_148 : decode cL_refused 148 = .ok (.if_icmp .ne 168, 3) := by decide +kernel
theorem dL_refused_151 : decode cL_refused 151 = .ok (.aload_n 0, 1) := by decide +kernel
theorem dL_refused_152 : decode cL_refused 152 = .ok (.iconst 0, 1) := by decide +kernel
theorem dL_refused_153 : decode cL_refused 153 = .ok (.iconst 0, 1) := by decide +kernel
theorem dL_refused_154 : decode cL_refused 154 = .ok (.invokevirtual 13, 3) := by decide +kernel
theorem dL_refused_157 : decode cL_refused 157 = .ok (.bipush (-2), 2) := by decide +kernel
theorem dL_refused_159 : decode cL_refused 159 = .ok (.if_icmp .ne 157, 3) := by decide +kernel
theorem dL_refused_162 : decode cL_refused 162 = .ok (.aload_n 0, 1) := by decide +kernel
theorem dL_refused_163 : decode cL_refused 163 = .ok (.iconst (-1), 1) := by decide +kernel
theorem dL_refused_164 : decode cL_refused 164 = .ok (.iconst 0, 1) := by decide +kernel
theorem dL_refused_165 : decode cL_refused 165 = .ok (.invokevirtual 19, 3) := by decide +kernel
theorem dL_refused_168 : decode cL_refused 168 = .ok (.bipush (-2), 2) := by decide +kernel
theorem dL_refused_170 : decode cL_refused 170 = .ok (.if_icmp .ne 146, 3) := by decide +kernel
theorem dL_refused_173 : decode cL_refused 173 = .ok (.aload_n 0, 1) := by decide +kernel
theorem dL_refused_174 : decode cL_refused 174 = .ok (.iload_n 2, 1) := by decide +kernel
theorem dL_refused_175 : decode cL_refused 175 = .ok (.bipush 32, 2) := by decide +kernel
theorem dL_refused_177 : decode cL_refused 177 = .ok (.ior, 1) := by decide +kernel
theorem dL_refused_178 : decode cL_refused 178 = .ok (.invokevirtual 30, 3) := by decide +kernel
theorem dL_refused_181 : decode cL_refused 181 = .ok (.bipush (-2), 2) := by decide +kernel
theorem dL_refused_183 : decode cL_refused 183 = .ok (.if_icmp .ne 133, 3) := by decide +kernel
theorem dL_refused_186 : decode cL_refused 186 = .ok (.aload_n 0, 1) := by decide +kernel
theorem dL_refused_187 : decode cL_refused 187 = .ok (.iconst 1, 1) := by decide +kernel
theorem dL_refused_188 : decode cL_refused 188 = .ok (.iconst 1, 1) := by decide +kernel
theorem dL_refused_189 : decode cL_refused 189 = .ok (.iconst 0, 1) := by decide +kernel
theorem dL_refused_190 : decode cL_refused 190 = .ok (.invokevirtual 26, 3) := by decide +kernel
theorem dL_refused_193 : decode cL_refused 193 = .ok (.bipush (-2), 2) := by decide +kernel
theorem dL_refused_195 : decode cL_refused 195 = .ok (.if_icmp .ne 121, 3) := by decide +kernel
theorem dL_refused_198 : decode cL_refused 198 = .ok (.aload_n 0, 1) := by decide +kernel
theorem dL_refused_199 : decode cL_refused 199 = .ok (.iconst 1, 1) := by decide +kernel
theorem dL_refused_200 : decode cL_refused 200 = .ok (.iconst 2, 1) := by decide +kernel
theorem dL_refused_201 : decode cL_refused 201 = .ok (.bipush (-2), 2) := by decide +kernel
theorem dL_refused_203 : decode cL_refused 203 = .ok (.invokevirtual 35, 3) := by decide +kernel
theorem dL_refused_206 : decode cL_refused 206 = .ok (.bipush (-2), 2) := by decide +kernel
theorem dL_refused_208 : decode cL_refused 208 = .ok (.if_icmp .ne 108, 3) := by decide +kernel
theorem dL_refused_211 : decode cL_refused 211 = .ok (.aload_n 0, 1) := by decide +kernel
theorem dL_refused_212 : decode cL_refused 212 = .ok (.iconst 1, 1) := by decide +kernel
theorem dL_refused_213 : decode cL_refused 213 = .ok (.iconst 2, 1) := by decide +kernel
theorem dL_refused_214 : decode cL_refused 214 = .ok (.bipush 41, 2) := by decide +kernel
theorem dL_refused_216 : decode cL_refused 216 = .ok (.invokevirtual 45, 3) := by decide +kernel
theorem dL_refused_219 : decode cL_refused 219 = .ok (.bipush (-2), 2) := by decide +kernel
theorem dL_refused_221 : decode cL_refused 221 = .ok (.if_icmp .ne 95, 3) := by decide +kernel
theorem dL_refused_224 : decode cL_refused 224 = .ok (.aload_n 0, 1) := by decide +kernel
theorem dL_refused_225 : decode cL_refused 225 = .ok (.iconst 1, 1) := by decide +kernel
theorem dL_refused_226 : decode cL_refused 226 = .ok (.iconst 2, 1) := by decide +kernel
theorem dL_refused_227 : decode cL_refused 227 = .ok (.iconst 2, 1) := by decide +kernel
theorem dL_refused_228 : decode cL_refused 228 = .ok (.invokevirtual 42, 3) := by decide +kernel
theorem dL_refused_231 : decode cL_refused 231 = .ok (.bipush (-2), 2) := by decide +kernel
theorem dL_refused_233 : decode cL_refused 233 = .ok (.if_icmp .ne 83, 3) := by decide +kernel
theorem dL_refused_236 : decode cL_refused 236 = .ok (.aload_n 0, 1) := by decide +kernel
theorem dL_refused_237 : decode cL_refused 237 = .ok (.iconst (-1), 1) := by decide +kernel
theorem dL_refused_238 : decode cL_refused 238 = .ok (.invokevirtual 51, 3) := by decide +kernel
theorem dL_refused_241 : decode cL_refused 241 = .ok (.bipush (-2), 2) := by decide +kernel
theorem dL_refused_243 : decode cL_refused 243 = .ok (.if_icmp .ne 73, 3) := by decide +kernel
theorem dL_refused_246 : decode cL_refused 246 = .ok (.aload_n 0, 1) := by decide +kernel
theorem dL_refused_247 : decode cL_refused 247 = .ok (.iconst 0, 1) := by decide +kernel
theorem dL_refused_248 : decode cL_refused 248 = .ok (.iconst 0, 1) := by decide +kernel
theorem dL_refused_249 : decode cL_refused 249 = .ok (.invokevirtual 54, 3) := by decide +kernel
theorem dL_refused_252 : decode cL_refused 252 = .ok (.bipush (-2), 2) := by decide +kernel
theorem dL_refused_254 : decode cL_refused 254 = .ok (.if_icmp .ne 62, 3) := by decide +kernel
theorem dL_refused_257 : decode cL_refused 257 = .ok (.aload_n 0, 1) := by decide +kernel
theorem dL_refused_258 : decode cL_refused 258 = .ok (.bipush 8, 2) := by decide +kernel
theorem dL_refused_260 : decode cL_refused 260 = .ok (.invokevirtual 67, 3) := by decide +kernel
theorem dL_refused_263 : decode cL_refused 263 = .ok (.bipush (-2), 2) := by decide +kernel
theorem dL_refused_265 : decode cL_refused 265 = .ok (.if_icmp .ne 51, 3) := by decide +kernel
theorem dL_refused_268 : decode cL_refused 268 = .ok (.aload_n 0, 1) := by decide +kernel
theorem dL_refused_269 : decode cL_refused 269 = .ok (.bipush 13, 2) := by decide +kernel
theorem dL_refused_271 : decode cL_refused 271 = .ok (.invokevirtual 22, 3) := by decide +kernel
theorem dL_refused_274 : decode cL_refused 274 = .ok (.bipush (-2), 2) := by decide +kernel
theorem dL_refused_276 : decode cL_refused 276 = .ok (.if_icmp .ne 40, 3) := by decide +kernel
theorem dL_refused_279 : decode cL_refused 279 = .ok (.aload_n 0, 1) := by decide +kernel
theorem dL_refused_280 : decode cL_refused 280 = .ok (.iconst 2, 1) := by decide +kernel
theorem dL_refused_281 : decode cL_refused 281 = .ok (.invokevirtual 92, 3) := by decide +kernel
theorem dL_refused_284 : decode cL_refused 284 = .ok (.bipush (-2), 2) := by decide +kernel
theorem dL_refused_286 : decode cL_refused 286 = .ok (.if_icmp .ne 30, 3) := by decide +kernel
theorem dL_refused_289 : decode cL_refused 289 = .ok (.aload_n 0, 1) := by decide +kernel
theorem dL_refused_290 : decode cL_refused 290 = .ok (.iconst (-1), 1) := by decide +kernel
theorem dL_refused_291 : decode cL_refused 291 = .ok (.invokevirtual 95, 3) := by decide +kernel
theorem dL_refused_294 : decode cL_refused 294 = .ok (.bipush (-2), 2) := by decide +kernel
theorem dL_refused_296 : decode cL_refused 296 = .ok (.if_icmp .ne 20, 3) := by decide +kernel
theorem dL_refused_299 : decode cL_refused 299 = .ok (.aload_n 0, 1) := by decide +kernel
theorem dL_refused_300 : decode cL_refused 300 = .ok (.iload_n 2, 1) := by decide +kernel
theorem dL_refused_301 : decode cL_refused 301 = .ok (.bipush 8, 2) := by decide +kernel
theorem dL_refused_303 : decode cL_refused 303 = .ok (.ior, 1) := by decide +kernel
theorem dL_refused_304 : decode cL_refused 304 = .ok (.invokevirtual 89, 3) := by decide +kernel
theorem dL_refused_307 : decode cL_refused 307 = .ok (.bipush (-2), 2) := by decide +kernel
theorem dL_refused_309 : decode cL_refused 309 = .ok (.if_icmp .ne 7, 3) := by decide +kernel
theorem dL_refused_312 : decode cL_refused 312 = .ok (.iconst 1, 1) := by decide +kernel
theorem dL_refused_313 : decode cL_refused 313 = .ok (.goto 4, 3) := by decide +kernel
theorem dL_refused_316 : decode cL_refused 316 = .ok (.iconst 0, 1) := by decide +kernel
theorem dL_refused_317 : decode cL_refused 317 = .ok (.istore 7, 2) := by decide +kernel
theorem dL_refused_319 : decode cL_refused 319 = .ok (.iload 7, 2) := by decide +kernel
theorem dL_refused_321 : decode cL_refused 321 = .ok (.ifCond .eq 39, 3) := by decide +kernel
theorem dL_refused_324 : decode cL_refused 324 = .ok (.aload_n 0, 1) := by decide +kernel
theorem dL_refused_325 : decode cL_refused 325 = .ok (.iconst 0, 1) := by decide +kernel
theorem dL_refused_326 : decode cL_refused 326 = .ok (.invokevirtual 89, 3) := by decide +kernel
theorem dL_refused_329 : decode cL_refused 329 = .ok (.iload 5, 2) := by decide +kernel
theorem dL_refused_331 : decode cL_refused 331 = .ok (.bipush 25, 2) := by decide +kernel
theorem dL_refused_333 : decode cL_refused 333 = .ok (.iadd, 1) := by decide +kernel
theorem dL_refused_334 : decode cL_refused 334 = .ok (.if_icmp .ne 26, 3) := by decide +kernel
theorem dL_refused_337 : decode cL_refused 337 = .ok (.aload_n 0, 1) := by decide +kernel
theorem dL_refused_338 : decode cL_refused 338 = .ok (.iconst 4, 1) := by decide +kernel
theorem dL_refused_339 : decode cL_refused 339 = .ok (.invokevirtual 89, 3) := by decide +kernel
theorem dL_refused_342 : decode cL_refused 342 = .ok (.iload 6, 2) := by decide +kernel
theorem dL_refused_344 : decode cL_refused 344 = .ok (.if_icmp .ne 16, 3) := by decide +kernel
theorem dL_refused_347 : decode cL_refused 347 = .ok (.aload_n 0, 1) := by decide +kernel
theorem dL_refused_348 : decode cL_refused 348 = .ok (.invokestatic 85, 3) := by decide +kernel
theorem dL_refused_351 : decode cL_refused 351 = .ok (.lload_n 3, 1) := by decide +kernel
theorem dL_refused_352 : decode cL_refused 352 = .ok (.lcmp, 1) := by decide +kernel
theorem dL_refused_353 : decode cL_refused 353 = .ok (.ifCond .ne 7, 3) := by decide +kernel
theorem dL_refused_356 : decode cL_refused 356 = .ok (.iconst 1, 1) := by decide +kernel
theorem dL_refused_357 : decode cL_refused 357 = .ok (.goto 4, 3) := by decide +kernel
theorem dL_refused_360 : decode cL_refused 360 = .ok (.iconst 0, 1) := by decide +kernel
theorem dL_refused_361 : decode cL_refused 361 = .ok (.ireturn, 1) := by decide +kernel
theorem dL_law_0 : decode cL_law 0 = .ok (.new 14, 3) := by decide +kernel
theorem dL_law_3 : decode cL_law 3 = .ok (.dup, 1) := by decide +kernel
theorem dL_law_4 : decode cL_law 4 = .ok (.invokespecial 57, 3) := by decide +kernel
theorem dL_law_7 : decode cL_law 7 = .ok (.astore_n 1, 1) := by decide +kernel
theorem dL_law_8 : decode cL_law 8 = .ok (.bipush 8, 2) := by decide +kernel
theorem dL_law_10 : decode cL_law 10 = .ok (.newarray .long, 2) := by decide +kernel
theorem dL_law_12 : decode cL_law 12 = .ok (.astore_n 2, 1) := by decide +kernel
theorem dL_law_13 : decode cL_law 13 = .ok (.iconst 0, 1) := by decide +kernel
theorem dL_law_14 : decode cL_law 14 = .ok (.istore_n 3, 1) := by decide +kernel
theorem dL_law_15 : decode cL_law 15 = .ok (.iconst 0, 1) := by decide +kernel
theorem dL_law_16 : decode cL_law 16 = .ok (.istore 4, 2) := by decide +kernel
theorem dL_law_18 : decode cL_law 18 = .ok (.iload 4, 2) := by decide +kernel
theorem dL_law_20 : decode cL_law 20 = .ok (.bipush 19, 2) := by decide +kernel
theorem dL_law_22 : decode cL_law 22 = .ok (.if_icmp .ge 298, 3) := by decide +kernel
theorem dL_law_25 : decode cL_law 25 = .ok (.aload_n 0, 1) := by decide +kernel
theorem dL_law_26 : decode cL_law 26 = .ok (.iconst 3, 1) := by decide +kernel
theorem dL_law_27 : decode cL_law 27 = .ok (.iload 4, 2) := by decide +kernel
theorem dL_law_29 : decode cL_law 29 = .ok (.imul, 1) := by decide +kernel
theorem dL_law_30 : decode cL_law 30 = .ok (.invokestatic 98, 3) := by decide +kernel
theorem dL_law_33 : decode cL_law 33 = .ok (.istore 5, 2) := by decide +kernel
theorem dL_law_35 : decode cL_law 35 = .ok (.aload_n 0, 1) := by decide +kernel
theorem dL_law_36 : decode cL_law 36 = .ok (.iconst 3, 1) := by decide +kernel
theorem dL_law_37 : decode cL_law 37 = .ok (.iload 4, 2) := by decide +kernel
theorem dL_law_39 : decode cL_law 39 = .ok (.imul, 1) := by decide +kernel
theorem dL_law_40 : decode cL_law 40 = .ok (.iconst 1, 1) := by decide +kernel
theorem dL_law_41 : decode cL_law 41 = .ok (.iadd, 1) := by decide +kernel
theorem dL_law_42 : decode cL_law 42 = .ok (.invokestatic 98, 3) := by decide +kernel
theorem dL_law_45 : decode cL_law 45 = .ok (.istore 6, 2) := by decide +kernel
theorem dL_law_47 : decode cL_law 47 = .ok (.aload_n 0, 1) := by decide +kernel
theorem dL_law_48 : decode cL_law 48 = .ok (.iconst 3, 1) := by decide +kernel
theorem dL_law_49 : decode cL_law 49 = .ok (.iload 4, 2) := by decide +kernel
