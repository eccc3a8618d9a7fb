theorem dL_ticks_46 : decode cL_ticks 46 = .ok (.istore 4, 2) := by decide +kernel
theorem dL_ticks_48 : decode cL_ticks 48 = .ok (.aload_n 0, 1) := by decide +kernel
theorem dL_ticks_49 : decode cL_ticks 49 = .ok (.iload_n 3, 1) := by decide +kernel
theorem dL_ticks_50 : decode cL_ticks 50 = .ok (.invokevirtual 51, 3) := by decide +kernel
theorem dL_ticks_53 : decode cL_ticks 53 = .ok (.istore 5, 2) := by decide +kernel
theorem dL_ticks_55 : decode cL_ticks 55 = .ok (.aload_n 0, 1) := by decide +kernel
theorem dL_ticks_56 : decode cL_ticks 56 = .ok (.iconst 2, 1) := by decide +kernel
theorem dL_ticks_57 : decode cL_ticks 57 = .ok (.invokevirtual 22, 3) := by decide +kernel
theorem dL_ticks_60 : decode cL_ticks 60 = .ok (.istore 6, 2) := by decide +kernel
theorem dL_ticks_62 : decode cL_ticks 62 = .ok (.aload_n 0, 1) := by decide +kernel
theorem dL_ticks_63 : decode cL_ticks 63 = .ok (.iconst 4, 1) := by decide +kernel
theorem dL_ticks_64 : decode cL_ticks 64 = .ok (.invokevirtual 22, 3) := by decide +kernel
theorem dL_ticks_67 : decode cL_ticks 67 = .ok (.istore 7, 2) := by decide +kernel
theorem dL_ticks_69 : decode cL_ticks 69 = .ok (.aload_n 0, 1) := by decide +kernel
theorem dL_ticks_70 : decode cL_ticks 70 = .ok (.bipush 7, 2) := by decide +kernel
theorem dL_ticks_72 : decode cL_ticks 72 = .ok (.invokevirtual 22, 3) := by decide +kernel
theorem dL_ticks_75 : decode cL_ticks 75 = .ok (.istore 8, 2) := by decide +kernel
theorem dL_ticks_77 : decode cL_ticks 77 = .ok (.aload_n 0, 1) := by decide +kernel
theorem dL_ticks_78 : decode cL_ticks 78 = .ok (.iconst 1, 1) := by decide +kernel
theorem dL_ticks_79 : decode cL_ticks 79 = .ok (.invokevirtual 22, 3) := by decide +kernel
theorem dL_ticks_82 : decode cL_ticks 82 = .ok (.istore 9, 2) := by decide +kernel
theorem dL_ticks_84 : decode cL_ticks 84 = .ok (.iload 4, 2) := by decide +kernel
theorem dL_ticks_86 : decode cL_ticks 86 = .ok (.ifCond .le 22, 3) := by decide +kernel
theorem dL_ticks_89 : decode cL_ticks 89 = .ok (.iload 5, 2) := by decide +kernel
theorem dL_ticks_91 : decode cL_ticks 91 = .ok (.iload 4, 2) := by decide +kernel
theorem dL_ticks_93 : decode cL_ticks 93 = .ok (.if_icmp .eq 15, 3) := by decide +kernel
theorem dL_ticks_96 : decode cL_ticks 96 = .ok (.aload_n 0, 1) := by decide +kernel
theorem dL_ticks_97 : decode cL_ticks 97 = .ok (.iload 4, 2) := by decide +kernel
theorem dL_ticks_99 : decode cL_ticks 99 = .ok (.iload 5, 2) := by decide +kernel
theorem dL_ticks_101 : decode cL_ticks 101 = .ok (.iconst (-1), 1) := by decide +kernel
theorem dL_ticks_102 : decode cL_ticks 102 = .ok (.invokevirtual 35, 3) := by decide +kernel
theorem dL_ticks_105 : decode cL_ticks 105 = .ok (.goto 4, 3) := by decide +kernel
theorem dL_ticks_108 : decode cL_ticks 108 = .ok (.iconst 0, 1) := by decide +kernel
theorem dL_ticks_109 : decode cL_ticks 109 = .ok (.istore 10, 2) := by decide +kernel
theorem dL_ticks_111 : decode cL_ticks 111 = .ok (.aload_n 0, 1) := by decide +kernel
theorem dL_ticks_112 : decode cL_ticks 112 = .ok (.iload_n 3, 1) := by decide +kernel
theorem dL_ticks_113 : decode cL_ticks 113 = .ok (.iconst 1, 1) := by decide +kernel
theorem dL_ticks_114 : decode cL_ticks 114 = .ok (.invokevirtual 54, 3) := by decide +kernel
theorem dL_ticks_117 : decode cL_ticks 117 = .ok (.istore 11, 2) := by decide +kernel
theorem dL_ticks_119 : decode cL_ticks 119 = .ok (.iload 6, 2) := by decide +kernel
theorem dL_ticks_121 : decode cL_ticks 121 = .ok (.ifCond .le 10, 3) := by decide +kernel
theorem dL_ticks_124 : decode cL_ticks 124 = .ok (.iload 6, 2) := by decide +kernel
theorem dL_ticks_126 : decode cL_ticks 126 = .ok (.iconst 1, 1) := by decide +kernel
theorem dL_ticks_127 : decode cL_ticks 127 = .ok (.isub, 1) := by decide +kernel
theorem dL_ticks_128 : decode cL_ticks 128 = .ok (.goto 4, 3) := by decide +kernel
theorem dL_ticks_131 : decode cL_ticks 131 = .ok (.iconst 0, 1) := by decide +kernel
theorem dL_ticks_132 : decode cL_ticks 132 = .ok (.istore 12, 2) := by decide +kernel
theorem dL_ticks_134 : decode cL_ticks 134 = .ok (.iload 4, 2) := by decide +kernel
theorem dL_ticks_136 : decode cL_ticks 136 = .ok (.ifCond .le 31, 3) := by decide +kernel
theorem dL_ticks_139 : decode cL_ticks 139 = .ok (.iload 5, 2) := by decide +kernel
theorem dL_ticks_141 : decode cL_ticks 141 = .ok (.iload 4, 2) := by decide +kernel
theorem dL_ticks_143 : decode cL_ticks 143 = .ok (.if_icmp .eq 20, 3) := by decide +kernel
theorem dL_ticks_146 : decode cL_ticks 146 = .ok (.iload 5, 2) := by decide +kernel
theorem dL_ticks_148 : decode cL_ticks 148 = .ok (.iload 4, 2) := by decide +kernel
theorem dL_ticks_150 : decode cL_ticks 150 = .ok (.if_icmp .le 8, 3) := by decide +kernel
theorem dL_ticks_153 : decode cL_ticks 153 = .ok (.iload 12, 2) := by decide +kernel
theorem dL_ticks_155 : decode cL_ticks 155 = .ok (.ifCond .gt 8, 3) := by decide +kernel
theorem dL_ticks_158 : decode cL_ticks 158 = .ok (.iload 10, 2) := by decide +kernel
theorem dL_ticks_160 : decode cL_ticks 160 = .ok (.ifCond .ge 7, 3) := by decide +kernel
theorem dL_ticks_163 : decode cL_ticks 163 = .ok (.iconst 1, 1) := by decide +kernel
theorem dL_ticks_164 : decode cL_ticks 164 = .ok (.goto 4, 3) := by decide +kernel
theorem dL_ticks_167 : decode cL_ticks 167 = .ok (.iconst 0, 1) := by decide +kernel
theorem dL_ticks_168 : decode cL_ticks 168 = .ok (.istore 13, 2) := by decide +kernel
theorem dL_ticks_170 : decode cL_ticks 170 = .ok (.iload 11, 2) := by decide +kernel
theorem dL_ticks_172 : decode cL_ticks 172 = .ok (.iload 13, 2) := by decide +kernel
theorem dL_ticks_174 : decode cL_ticks 174 = .ok (.ifCond .eq 8, 3) := by decide +kernel
theorem dL_ticks_177 : decode cL_ticks 177 = .ok (.iload 4, 2) := by decide +kernel
theorem dL_ticks_179 : decode cL_ticks 179 = .ok (.goto 5, 3) := by decide +kernel
theorem dL_ticks_182 : decode cL_ticks 182 = .ok (.iload 5, 2) := by decide +kernel
theorem dL_ticks_184 : decode cL_ticks 184 = .ok (.if_icmp .ne 77, 3) := by decide +kernel
theorem dL_ticks_187 : decode cL_ticks 187 = .ok (.aload_n 0, 1) := by decide +kernel
theorem dL_ticks_188 : decode cL_ticks 188 = .ok (.iconst 0, 1) := by decide +kernel
theorem dL_ticks_189 : decode cL_ticks 189 = .ok (.invokevirtual 22, 3) := by decide +kernel
theorem dL_ticks_192 : decode cL_ticks 192 = .ok (.iload 11, 2) := by decide +kernel
theorem dL_ticks_194 : decode cL_ticks 194 = .ok (.if_icmp .ne 67, 3) := by decide +kernel
theorem dL_ticks_197 : decode cL_ticks 197 = .ok (.aload_n 0, 1) := by decide +kernel
theorem dL_ticks_198 : decode cL_ticks 198 = .ok (.iconst 1, 1) := by decide +kernel
theorem dL_ticks_199 : decode cL_ticks 199 = .ok (.invokevirtual 22, 3) := by decide +kernel
theorem dL_ticks_202 : decode cL_ticks 202 = .ok (.iload 9, 2) := by decide +kernel
theorem dL_ticks_204 : decode cL_ticks 204 = .ok (.iconst 1, 1) := by decide +kernel
theorem dL_ticks_205 : decode cL_ticks 205 = .ok (.iadd, 1) := by decide +kernel
theorem dL_ticks_206 : decode cL_ticks 206 = .ok (.if_icmp .ne 55, 3) := by decide +kernel
theorem dL_ticks_209 : decode cL_ticks 209 = .ok (.aload_n 0, 1) := by decide +kernel
theorem dL_ticks_210 : decode cL_ticks 210 = .ok (.iconst 4, 1) := by decide +kernel
theorem dL_ticks_211 : decode cL_ticks 211 = .ok (.invokevirtual 22, 3) := by decide +kernel
theorem dL_ticks_214 : decode cL_ticks 214 = .ok (.iload 7, 2) := by decide +kernel
theorem dL_ticks_216 : decode cL_ticks 216 = .ok (.iload 13, 2) := by decide +kernel
theorem dL_ticks_218 : decode cL_ticks 218 = .ok (.ifCond .ne 8, 3) := by decide +kernel
theorem dL_ticks_221 : decode cL_ticks 221 = .ok (.iload 4, 2) := by decide +kernel
theorem dL_ticks_223 : decode cL_ticks 223 = .ok (.ifCond .ne 7, 3) := by decide +kernel
theorem dL_ticks_226 : decode cL_ticks 226 = .ok (.iconst 0, 1) := by decide +kernel
theorem dL_ticks_227 : decode cL_ticks 227 = .ok (.goto 5, 3) := by decide +kernel
theorem dL_ticks_230 : decode cL_ticks 230 = .ok (.iload 10, 2) := by decide +kernel
theorem dL_ticks_232 : decode cL_ticks 232 = .ok (.iadd, 1) := by decide +kernel
theorem dL_ticks_233 : decode cL_ticks 233 = .ok (.if_icmp .ne 28, 3) := by decide +kernel
theorem dL_ticks_236 : decode cL_ticks 236 = .ok (.aload_n 0, 1) := by decide +kernel
theorem dL_ticks_237 : decode cL_ticks 237 = .ok (.bipush 7, 2) := by decide +kernel
theorem dL_ticks_239 : decode cL_ticks 239 = .ok (.invokevirtual 22, 3) := by decide +kernel
theorem dL_ticks_242 : decode cL_ticks 242 = .ok (.iload 8, 2) := by decide +kernel
theorem dL_ticks_244 : decode cL_ticks 244 = .ok (.isub, 1) := by decide +kernel
theorem dL_ticks_245 : decode cL_ticks 245 = .ok (.ifCond .lt 16, 3) := by decide +kernel
theorem dL_ticks_248 : decode cL_ticks 248 = .ok (.aload_n 0, 1) := by decide +kernel
theorem dL_ticks_249 : decode cL_ticks 249 = .ok (.bipush 7, 2) := by decide +kernel
theorem dL_ticks_251 : decode cL_ticks 251 = .ok (.invokevirtual 22, 3) := by decide +kernel
theorem dL_ticks_254 : decode cL_ticks 254 = .ok (.iload 8, 2) := by decide +kernel
theorem dL_ticks_256 : decode cL_ticks 256 = .ok (.isub, 1) := by decide +kernel
theorem dL_ticks_257 : decode cL_ticks 257 = .ok (.iconst 1, 1) := by decide +kernel
theorem dL_ticks_258 : decode cL_ticks 258 = .ok (.if_icmp .le 5, 3) := by decide +kernel
theorem dL_ticks_261 : decode cL_ticks 261 = .ok (.iconst 0, 1) := by decide +kernel
theorem dL_ticks_262 : decode cL_ticks 262 = .ok (.ireturn, 1) := by decide +kernel
theorem dL_ticks_263 : decode cL_ticks 263 = .ok (.aload_n 0, 1) := by decide +kernel
theorem dL_ticks_264 : decode cL_ticks 264 = .ok (.bipush 7, 2) := by decide +kernel
theorem dL_ticks_266 : decode cL_ticks 266 = .ok (.invokevirtual 22, 3) := by decide +kernel
theorem dL_ticks_269 : decode cL_ticks 269 = .ok (.iload 8, 2) := by decide +kernel
theorem dL_ticks_271 : decode cL_ticks 271 = .ok (.if_icmp .le 7, 3) := by decide +kernel
theorem dL_ticks_274 : decode cL_ticks 274 = .ok (.iconst 1, 1) := by decide +kernel
theorem dL_ticks_275 : decode cL_ticks 275 = .ok (.goto 4, 3) := by decide +kernel
theorem dL_ticks_278 : decode cL_ticks 278 = .ok (.iconst 0, 1) := by decide +kernel
theorem dL_ticks_279 : decode cL_ticks 279 = .ok (.istore 14, 2) := by decide +kernel
theorem dL_ticks_281 : decode cL_ticks 281 = .ok (.aload_n 0, 1) := by decide +kernel
theorem dL_ticks_282 : decode cL_ticks 282 = .ok (.iconst 2, 1) := by decide +kernel
theorem dL_ticks_283 : decode cL_ticks 283 = .ok (.invokevirtual 22, 3) := by decide +kernel
theorem dL_ticks_286 : decode cL_ticks 286 = .ok (.iload 14, 2) := by decide +kernel
theorem dL_ticks_288 : decode cL_ticks 288 = .ok (.ifCond .eq 8, 3) := by decide +kernel
theorem dL_ticks_291 : decode cL_ticks 291 = .ok (.bipush 10, 2) := by decide +kernel
theorem dL_ticks_293 : decode cL_ticks 293 = .ok (.goto 5, 3) := by decide +kernel
theorem dL_ticks_296 : decode cL_ticks 296 = .ok (.iload 12, 2) := by decide +kernel
theorem dL_ticks_298 : decode cL_ticks 298 = .ok (.if_icmp .ne 62, 3) := by decide +kernel
theorem dL_ticks_301 : decode cL_ticks 301 = .ok (.iload 14, 2) := by decide +kernel
theorem dL_ticks_303 : decode cL_ticks 303 = .ok (.ifCond .eq 33, 3) := by decide +kernel
theorem dL_ticks_306 : decode cL_ticks 306 = .ok (.iload 11, 2) := by decide +kernel
theorem dL_ticks_308 : decode cL_ticks 308 = .ok (.iload 4, 2) := by decide +kernel
theorem dL_ticks_310 : decode cL_ticks 310 = .ok (.if_icmp .ge 50, 3) := by decide +kernel
theorem dL_ticks_313 : decode cL_ticks 313 = .ok (.aload_n 0, 1) := by decide +kernel
theorem dL_ticks_314 : decode cL_ticks 314 = .ok (.iconst 3, 1) := by decide +kernel
theorem dL_ticks_315 : decode cL_ticks 315 = .ok (.invokevirtual 22, 3) := by decide +kernel
theorem dL_ticks_318 : decode cL_ticks 318 = .ok (.iconst (-1), 1) := by decide +kernel
theorem dL_ticks_319 : decode cL_ticks 319 = .ok (.if_icmp .eq 41, 3) := by decide +kernel
theorem dL_ticks_322 : decode cL_ticks 322 = .ok (.iload 9, 2) := by decide +kernel
theorem dL_ticks_324 : decode cL_ticks 324 = .ok (.iconst 1, 1) := by decide +kernel
theorem dL_ticks_325 : decode cL_ticks 325 = .ok (.iadd, 1) := by decide +kernel
theorem dL_ticks_326 : decode cL_ticks 326 = .ok (.aload_n 0, 1) := by decide +kernel
theorem dL_ticks_327 : decode cL_ticks 327 = .ok (.iconst 3, 1) := by decide +kernel
theorem dL_ticks_328 : decode cL_ticks 328 = .ok (.invokevirtual 22, 3) := by decide +kernel
theorem dL_ticks_331 : decode cL_ticks 331 = .ok (.isub, 1) := by decide +kernel
theorem dL_ticks_332 : decode cL_ticks 332 = .ok (.iconst 5, 1) := by decide +kernel
theorem dL_ticks_333 : decode cL_ticks 333 = .ok (.if_icmp .gt 27, 3) := by decide +kernel
theorem dL_ticks_336 : decode cL_ticks 336 = .ok (.iload 11, 2) := by decide +kernel
theorem dL_ticks_338 : decode cL_ticks 338 = .ok (.iload 4, 2) := by decide +kernel
theorem dL_ticks_340 : decode cL_ticks 340 = .ok (.if_icmp .le 22, 3) := by decide +kernel
theorem dL_ticks_343 : decode cL_ticks 343 = .ok (.iload 4, 2) := by decide +kernel
theorem dL_ticks_345 : decode cL_ticks 345 = .ok (.ifCond .le 17, 3) := by decide +kernel
theorem dL_ticks_348 : decode cL_ticks 348 = .ok (.aload_n 0, 1) := by decide +kernel
theorem dL_ticks_349 : decode cL_ticks 349 = .ok (.iconst 3, 1) := by decide +kernel
theorem dL_ticks_350 : decode cL_ticks 350 = .ok (.invokevirtual 22, 3) := by decide +kernel
theorem dL_ticks_353 : decode cL_ticks 353 = .ok (.iload 9, 2) := by decide +kernel
theorem dL_ticks_355 : decode cL_ticks 355 = .ok (.iconst 1, 1) := by decide +kernel
theorem dL_ticks_356 : decode cL_ticks 356 = .ok (.iadd, 1) := by decide +kernel
theorem dL_ticks_357 : decode cL_ticks 357 = .ok (.if_icmp .eq 5, 3) := by decide +kernel
theorem dL_ticks_360 : decode cL_ticks 360 = .ok (.iconst 0, 1) := by decide +kernel
theorem dL_ticks_361 : decode cL_ticks 361 = .ok (.ireturn, 1) := by decide +kernel
theorem dL_ticks_362 : decode cL_ticks 362 = .ok (.iload 4, 2) := by decide +kernel
theorem dL_ticks_364 : decode cL_ticks 364 = .ok (.ifCond .le 22, 3) := by decide +kernel
theorem dL_ticks_367 : decode cL_ticks 367 = .ok (.iload 5, 2) := by decide +kernel
theorem dL_ticks_369 : decode cL_ticks 369 = .ok (.iload 4, 2) := by decide +kernel
theorem dL_ticks_371 : decode cL_ticks 371 = .ok (.if_icmp .ne 15, 3) := by decide +kernel
theorem dL_ticks_374 : decode cL_ticks 374 = .ok (.aload_n 0, 1) := by decide +kernel
theorem dL_ticks_375 : decode cL_ticks 375 = .ok (.iload_n 3, 1) := by decide +kernel
theorem dL_ticks_376 : decode cL_ticks 376 = .ok (.invokevirtual 51, 3) := by decide +kernel
theorem dL_ticks_379 : decode cL_ticks 379 = .ok (.iload 11, 2) := by decide +kernel
theorem dL_ticks_381 : decode cL_ticks 381 = .ok (.if_icmp .eq 5, 3) := by decide +kernel
theorem dL_ticks_384 : decode cL_ticks 384 = .ok (.iconst 0, 1) := by decide +kernel
theorem dL_ticks_385 : decode cL_ticks 385 = .ok (.ireturn, 1) := by decide +kernel
theorem dL_ticks_386 : decode cL_ticks 386 = .ok (.iinc 2 1, 3) := by decide +kernel
theorem dL_ticks_389 : decode cL_ticks 389 = .ok (.goto (-387), 3) := by decide +kernel
theorem dL_ticks_392 : decode cL_ticks 392 = .ok (.iconst 1, 1) := by decide +kernel
theorem dL_ticks_393 : decode cL_ticks 393 = .ok (.ireturn, 1) := by decide +kernel
theorem dL_learns_0 : decode cL_learns 0 = .ok (.new 14, 3) := by decide +kernel
theorem dL_learns_3 : decode cL_learns 3 = .ok (.dup, 1) := by decide +kernel
theorem dL_learns_4 : decode cL_learns 4 = .ok (.invokespecial 57, 3) := by decide +kernel
theorem dL_learns_7 : decode cL_learns 7 = .ok (.astore_n 1, 1) := by decide +kernel
theorem dL_learns_8 : decode cL_learns 8 = .ok (.iload_n 0, 1) := by decide +kernel
theorem dL_learns_9 : decode cL_learns 9 = .ok (.sipush 600, 3) := by decide +kernel
theorem dL_learns_12 : decode cL_learns 12 = .ok (.invokestatic 48, 3) := by decide +kernel
theorem dL_learns_15 : decode cL_learns 15 = .ok (.istore_n 2, 1) := by decide +kernel
theorem dL_learns_16 : decode cL_learns 16 = .ok (.aload_n 1, 1) := by decide +kernel
theorem dL_learns_17 : decode cL_learns 17 = .ok (.iconst 1, 1) := by decide +kernel
theorem dL_learns_18 : decode cL_learns 18 = .ok (.iconst 3, 1) := by decide +kernel
theorem dL_learns_19 : decode cL_learns 19 = .ok (.invokevirtual 58, 3) := by decide +kernel
theorem dL_learns_22 : decode cL_learns 22 = .ok (.ifCond .ne 97, 3) := by decide +kernel
theorem dL_learns_25 : decode cL_learns 25 = .ok (.aload_n 1, 1) := by decide +kernel
theorem dL_learns_26 : decode cL_learns 26 = .ok (.iconst 2, 1) := by decide +kernel
theorem dL_learns_27 : decode cL_learns 27 = .ok (.iconst 5, 1) := by decide +kernel
theorem dL_learns_28 : decode cL_learns 28 = .ok (.invokevirtual 58, 3) := by decide +kernel
theorem dL_learns_31 : decode cL_learns 31 = .ok (.ifCond .ne 88, 3) := by decide +kernel
theorem dL_learns_34 : decode cL_learns 34 = .ok (.aload_n 1, 1) := by decide +kernel
theorem dL_learns_35 : decode cL_learns 35 = .ok (.iconst 2, 1) := by decide +kernel
theorem dL_learns_36 : decode cL_learns 36 = .ok (.iconst 1, 1) := by decide +kernel
theorem dL_learns_37 : decode cL_learns 37 = .ok (.iload_n 0, 1) := by decide +kernel
theorem dL_learns_38 : decode cL_learns 38 = .ok (.bipush 10, 2) := by decide +kernel
theorem dL_learns_40 : decode cL_learns 40 = .ok (.ishr, 1) := by decide +kernel
theorem dL_learns_41 : decode cL_learns 41 = .ok (.bipush 20, 2) := by decide +kernel
theorem dL_learns_43 : decode cL_learns 43 = .ok (.invokestatic 48, 3) := by decide +kernel
theorem dL_learns_46 : decode cL_learns 46 = .ok (.iadd, 1) := by decide +kernel
theorem dL_learns_47 : decode cL_learns 47 = .ok (.invokevirtual 61, 3) := by decide +kernel
theorem dL_learns_50 : decode cL_learns 50 = .ok (.bipush 8, 2) := by decide +kernel
theorem dL_learns_52 : decode cL_learns 52 = .ok (.if_icmp .ne 67, 3) := by decide +kernel
theorem dL_learns_55 : decode cL_learns 55 = .ok (.aload_n 1, 1) := by decide +kernel
theorem dL_learns_56 : decode cL_learns 56 = .ok (.iconst 1, 1) := by decide +kernel
theorem dL_learns_57 : decode cL_learns 57 = .ok (.iconst 1, 1) := by decide +kernel
theorem dL_learns_58 : decode cL_learns 58 = .ok (.iload_n 0, 1) := by decide +kernel
theorem dL_learns_59 : decode cL_learns 59 = .ok (.bipush 15, 2) := by decide +kernel
theorem dL_learns_61 : decode cL_learns 61 = .ok (.ishr, 1) := by decide +kernel
theorem dL_learns_62 : decode cL_learns 62 = .ok (.bipush 20, 2) := by decide +kernel
theorem dL_learns_64 : decode cL_learns 64 = .ok (.invokestatic 48, 3) := by decide +kernel
theorem dL_learns_67 : decode cL_learns 67 = .ok (.iadd, 1) := by decide +kernel
theorem dL_learns_68 : decode cL_learns 68 = .ok (.invokevirtual 61, 3) := by decide +kernel
theorem dL_learns_71 : decode cL_learns 71 = .ok (.bipush 8, 2) := by decide +kernel
theorem dL_learns_73 : decode cL_learns 73 = .ok (.if_icmp .ne 46, 3) := by decide +kernel
theorem dL_learns_76 : decode cL_learns 76 = .ok (.aload_n 1, 1) := by decide +kernel
theorem dL_learns_77 : decode cL_learns 77 = .ok (.iconst 0, 1) := by decide +kernel
theorem dL_learns_78 : decode cL_learns 78 = .ok (.iconst 1, 1) := by decide +kernel
theorem dL_learns_79 : decode cL_learns 79 = .ok (.iload_n 0, 1) := by decide +kernel
theorem dL_learns_80 : decode cL_learns 80 = .ok (.bipush 20, 2) := by decide +kernel
theorem dL_learns_82 : decode cL_learns 82 = .ok (.ishr, 1) := by decide +kernel
theorem dL_learns_83 : decode cL_learns 83 = .ok (.bipush 12, 2) := by decide +kernel
theorem dL_learns_85 : decode cL_learns 85 = .ok (.invokestatic 48, 3) := by decide +kernel
theorem dL_learns_88 : decode cL_learns 88 = .ok (.iadd, 1) := by decide +kernel
theorem dL_learns_89 : decode cL_learns 89 = .ok (.invokevirtual 64, 3) := by decide +kernel
theorem dL_learns_92 : decode cL_learns 92 = .ok (.iconst 5, 1) := by decide +kernel
theorem dL_learns_93 : decode cL_learns 93 = .ok (.if_icmp .ne 26, 3) := by decide +kernel
theorem dL_learns_96 : decode cL_learns 96 = .ok (.aload_n 1, 1) := by decide +kernel
theorem dL_learns_97 : decode cL_learns 97 = .ok (.iconst 1, 1) := by decide +kernel
theorem dL_learns_98 : decode cL_learns 98 = .ok (.iload_n 2, 1) := by decide +kernel
theorem dL_learns_99 : decode cL_learns 99 = .ok (.invokevirtual 64, 3) := by decide +kernel
theorem dL_learns_102 : decode cL_learns 102 = .ok (.bipush 100, 2) := by decide +kernel
theorem dL_learns_104 : decode cL_learns 104 = .ok (.if_icmp .ne 15, 3) := by decide +kernel
theorem dL_learns_107 : decode cL_learns 107 = .ok (.aload_n 1, 1) := by decide +kernel
theorem dL_learns_108 : decode cL_learns 108 = .ok (.iconst 1, 1) := by decide +kernel
theorem dL_learns_109 : decode cL_learns 109 = .ok (.invokevirtual 67, 3) := by decide +kernel
