theorem dL_learns_112 : decode cL_learns 112 = .ok (.ifCond .ne 7, 3) := by decide +kernel
theorem dL_learns_115 : decode cL_learns 115 = .ok (.iconst 1, 1) := by decide +kernel
theorem dL_learns_116 : decode cL_learns 116 = .ok (.goto 4, 3) := by decide +kernel
theorem dL_learns_119 : decode cL_learns 119 = .ok (.iconst 0, 1) := by decide +kernel
theorem dL_learns_120 : decode cL_learns 120 = .ok (.istore_n 3, 1) := by decide +kernel
theorem dL_learns_121 : decode cL_learns 121 = .ok (.iconst 0, 1) := by decide +kernel
theorem dL_learns_122 : decode cL_learns 122 = .ok (.istore 4, 2) := by decide +kernel
theorem dL_learns_124 : decode cL_learns 124 = .ok (.iload 4, 2) := by decide +kernel
theorem dL_learns_126 : decode cL_learns 126 = .ok (.bipush 20, 2) := by decide +kernel
theorem dL_learns_128 : decode cL_learns 128 = .ok (.if_icmp .ge 53, 3) := by decide +kernel
theorem dL_learns_131 : decode cL_learns 131 = .ok (.iload_n 3, 1) := by decide +kernel
theorem dL_learns_132 : decode cL_learns 132 = .ok (.ifCond .eq 49, 3) := by decide +kernel
theorem dL_learns_135 : decode cL_learns 135 = .ok (.aload_n 1, 1) := by decide +kernel
theorem dL_learns_136 : decode cL_learns 136 = .ok (.sipush 300, 3) := by decide +kernel
theorem dL_learns_139 : decode cL_learns 139 = .ok (.bipush 12, 2) := by decide +kernel
theorem dL_learns_141 : decode cL_learns 141 = .ok (.invokevirtual 54, 3) := by decide +kernel
theorem dL_learns_144 : decode cL_learns 144 = .ok (.iconst 2, 1) := by decide +kernel
theorem dL_learns_145 : decode cL_learns 145 = .ok (.if_icmp .ne 28, 3) := by decide +kernel
theorem dL_learns_148 : decode cL_learns 148 = .ok (.aload_n 1, 1) := by decide +kernel
theorem dL_learns_149 : decode cL_learns 149 = .ok (.iconst 0, 1) := by decide +kernel
theorem dL_learns_150 : decode cL_learns 150 = .ok (.iconst 1, 1) := by decide +kernel
theorem dL_learns_151 : decode cL_learns 151 = .ok (.invokevirtual 54, 3) := by decide +kernel
theorem dL_learns_154 : decode cL_learns 154 = .ok (.iconst 1, 1) := by decide +kernel
theorem dL_learns_155 : decode cL_learns 155 = .ok (.if_icmp .ne 18, 3) := by decide +kernel
theorem dL_learns_158 : decode cL_learns 158 = .ok (.aload_n 1, 1) := by decide +kernel
theorem dL_learns_159 : decode cL_learns 159 = .ok (.iconst 0, 1) := by decide +kernel
theorem dL_learns_160 : decode cL_learns 160 = .ok (.bipush 11, 2) := by decide +kernel
theorem dL_learns_162 : decode cL_learns 162 = .ok (.invokevirtual 54, 3) := by decide +kernel
theorem dL_learns_165 : decode cL_learns 165 = .ok (.iconst 1, 1) := by decide +kernel
theorem dL_learns_166 : decode cL_learns 166 = .ok (.if_icmp .ne 7, 3) := by decide +kernel
theorem dL_learns_169 : decode cL_learns 169 = .ok (.iconst 1, 1) := by decide +kernel
theorem dL_learns_170 : decode cL_learns 170 = .ok (.goto 4, 3) := by decide +kernel
theorem dL_learns_173 : decode cL_learns 173 = .ok (.iconst 0, 1) := by decide +kernel
theorem dL_learns_174 : decode cL_learns 174 = .ok (.istore_n 3, 1) := by decide +kernel
theorem dL_learns_175 : decode cL_learns 175 = .ok (.iinc 4 1, 3) := by decide +kernel
theorem dL_learns_178 : decode cL_learns 178 = .ok (.goto (-54), 3) := by decide +kernel
theorem dL_learns_181 : decode cL_learns 181 = .ok (.iload_n 3, 1) := by decide +kernel
theorem dL_learns_182 : decode cL_learns 182 = .ok (.ifCond .eq 61, 3) := by decide +kernel
theorem dL_learns_185 : decode cL_learns 185 = .ok (.aload_n 1, 1) := by decide +kernel
theorem dL_learns_186 : decode cL_learns 186 = .ok (.iconst 1, 1) := by decide +kernel
theorem dL_learns_187 : decode cL_learns 187 = .ok (.iconst 2, 1) := by decide +kernel
theorem dL_learns_188 : decode cL_learns 188 = .ok (.iconst 0, 1) := by decide +kernel
theorem dL_learns_189 : decode cL_learns 189 = .ok (.invokevirtual 42, 3) := by decide +kernel
theorem dL_learns_192 : decode cL_learns 192 = .ok (.iload_n 2, 1) := by decide +kernel
theorem dL_learns_193 : decode cL_learns 193 = .ok (.if_icmp .gt 50, 3) := by decide +kernel
theorem dL_learns_196 : decode cL_learns 196 = .ok (.aload_n 1, 1) := by decide +kernel
theorem dL_learns_197 : decode cL_learns 197 = .ok (.iconst 1, 1) := by decide +kernel
theorem dL_learns_198 : decode cL_learns 198 = .ok (.iconst 2, 1) := by decide +kernel
theorem dL_learns_199 : decode cL_learns 199 = .ok (.iconst 1, 1) := by decide +kernel
theorem dL_learns_200 : decode cL_learns 200 = .ok (.invokevirtual 42, 3) := by decide +kernel
theorem dL_learns_203 : decode cL_learns 203 = .ok (.iload_n 2, 1) := by decide +kernel
theorem dL_learns_204 : decode cL_learns 204 = .ok (.if_icmp .gt 39, 3) := by decide +kernel
theorem dL_learns_207 : decode cL_learns 207 = .ok (.aload_n 1, 1) := by decide +kernel
theorem dL_learns_208 : decode cL_learns 208 = .ok (.iconst 2, 1) := by decide +kernel
theorem dL_learns_209 : decode cL_learns 209 = .ok (.iconst 1, 1) := by decide +kernel
theorem dL_learns_210 : decode cL_learns 210 = .ok (.iconst 0, 1) := by decide +kernel
theorem dL_learns_211 : decode cL_learns 211 = .ok (.invokevirtual 42, 3) := by decide +kernel
theorem dL_learns_214 : decode cL_learns 214 = .ok (.iload_n 2, 1) := by decide +kernel
theorem dL_learns_215 : decode cL_learns 215 = .ok (.if_icmp .gt 28, 3) := by decide +kernel
theorem dL_learns_218 : decode cL_learns 218 = .ok (.aload_n 1, 1) := by decide +kernel
theorem dL_learns_219 : decode cL_learns 219 = .ok (.iconst 2, 1) := by decide +kernel
theorem dL_learns_220 : decode cL_learns 220 = .ok (.iconst 1, 1) := by decide +kernel
theorem dL_learns_221 : decode cL_learns 221 = .ok (.iconst 1, 1) := by decide +kernel
theorem dL_learns_222 : decode cL_learns 222 = .ok (.invokevirtual 42, 3) := by decide +kernel
theorem dL_learns_225 : decode cL_learns 225 = .ok (.iload_n 2, 1) := by decide +kernel
theorem dL_learns_226 : decode cL_learns 226 = .ok (.if_icmp .gt 17, 3) := by decide +kernel
theorem dL_learns_229 : decode cL_learns 229 = .ok (.aload_n 1, 1) := by decide +kernel
theorem dL_learns_230 : decode cL_learns 230 = .ok (.iconst 4, 1) := by decide +kernel
theorem dL_learns_231 : decode cL_learns 231 = .ok (.invokevirtual 22, 3) := by decide +kernel
theorem dL_learns_234 : decode cL_learns 234 = .ok (.bipush 40, 2) := by decide +kernel
theorem dL_learns_236 : decode cL_learns 236 = .ok (.if_icmp .ne 7, 3) := by decide +kernel
theorem dL_learns_239 : decode cL_learns 239 = .ok (.iconst 1, 1) := by decide +kernel
theorem dL_learns_240 : decode cL_learns 240 = .ok (.goto 4, 3) := by decide +kernel
theorem dL_learns_243 : decode cL_learns 243 = .ok (.iconst 0, 1) := by decide +kernel
theorem dL_learns_244 : decode cL_learns 244 = .ok (.ireturn, 1) := by decide +kernel
theorem dL_does_0 : decode cL_does 0 = .ok (.iload_n 1, 1) := by decide +kernel
theorem dL_does_1 : decode cL_does 1 = .ok (.iconst 4, 1) := by decide +kernel
theorem dL_does_2 : decode cL_does 2 = .ok (.ishr, 1) := by decide +kernel
theorem dL_does_3 : decode cL_does 3 = .ok (.bipush 15, 2) := by decide +kernel
theorem dL_does_5 : decode cL_does 5 = .ok (.iand, 1) := by decide +kernel
theorem dL_does_6 : decode cL_does 6 = .ok (.ifCond .ne 7, 3) := by decide +kernel
theorem dL_does_9 : decode cL_does 9 = .ok (.iconst 1, 1) := by decide +kernel
theorem dL_does_10 : decode cL_does 10 = .ok (.goto 4, 3) := by decide +kernel
theorem dL_does_13 : decode cL_does 13 = .ok (.iconst 0, 1) := by decide +kernel
theorem dL_does_14 : decode cL_does 14 = .ok (.istore 4, 2) := by decide +kernel
theorem dL_does_16 : decode cL_does 16 = .ok (.iload_n 1, 1) := by decide +kernel
theorem dL_does_17 : decode cL_does 17 = .ok (.bipush 8, 2) := by decide +kernel
theorem dL_does_19 : decode cL_does 19 = .ok (.ishr, 1) := by decide +kernel
theorem dL_does_20 : decode cL_does 20 = .ok (.bipush 15, 2) := by decide +kernel
theorem dL_does_22 : decode cL_does 22 = .ok (.iand, 1) := by decide +kernel
theorem dL_does_23 : decode cL_does 23 = .ok (.ifCond .ne 7, 3) := by decide +kernel
theorem dL_does_26 : decode cL_does 26 = .ok (.iload_n 2, 1) := by decide +kernel
theorem dL_does_27 : decode cL_does 27 = .ok (.goto 11, 3) := by decide +kernel
theorem dL_does_30 : decode cL_does 30 = .ok (.iconst 1, 1) := by decide +kernel
theorem dL_does_31 : decode cL_does 31 = .ok (.iload_n 2, 1) := by decide +kernel
theorem dL_does_32 : decode cL_does 32 = .ok (.bipush 7, 2) := by decide +kernel
theorem dL_does_34 : decode cL_does 34 = .ok (.invokestatic 48, 3) := by decide +kernel
theorem dL_does_37 : decode cL_does 37 = .ok (.iadd, 1) := by decide +kernel
theorem dL_does_38 : decode cL_does 38 = .ok (.istore 5, 2) := by decide +kernel
theorem dL_does_40 : decode cL_does 40 = .ok (.iload_n 1, 1) := by decide +kernel
theorem dL_does_41 : decode cL_does 41 = .ok (.bipush 8, 2) := by decide +kernel
theorem dL_does_43 : decode cL_does 43 = .ok (.ishr, 1) := by decide +kernel
theorem dL_does_44 : decode cL_does 44 = .ok (.bipush 15, 2) := by decide +kernel
theorem dL_does_46 : decode cL_does 46 = .ok (.iand, 1) := by decide +kernel
theorem dL_does_47 : decode cL_does 47 = .ok (.ifCond .ne 7, 3) := by decide +kernel
theorem dL_does_50 : decode cL_does 50 = .ok (.iload_n 2, 1) := by decide +kernel
theorem dL_does_51 : decode cL_does 51 = .ok (.goto 8, 3) := by decide +kernel
theorem dL_does_54 : decode cL_does 54 = .ok (.iload_n 2, 1) := by decide +kernel
theorem dL_does_55 : decode cL_does 55 = .ok (.iconst 5, 1) := by decide +kernel
theorem dL_does_56 : decode cL_does 56 = .ok (.invokestatic 48, 3) := by decide +kernel
theorem dL_does_59 : decode cL_does 59 = .ok (.istore 6, 2) := by decide +kernel
theorem dL_does_61 : decode cL_does 61 = .ok (.iload_n 1, 1) := by decide +kernel
theorem dL_does_62 : decode cL_does 62 = .ok (.bipush 15, 2) := by decide +kernel
theorem dL_does_64 : decode cL_does 64 = .ok (.iand, 1) := by decide +kernel
theorem dL_does_65 : decode cL_does 65 = .ok (.tableswitch 281 0 11 #[63, 63, 63, 63, 85, 106, 130, 153, 176, 198, 217, 256], 63) := by decide +kernel
theorem dL_does_128 : decode cL_does 128 = .ok (.aload_n 0, 1) := by decide +kernel
theorem dL_does_129 : decode cL_does 129 = .ok (.iload 5, 2) := by decide +kernel
theorem dL_does_131 : decode cL_does 131 = .ok (.iload 4, 2) := by decide +kernel
theorem dL_does_133 : decode cL_does 133 = .ok (.ifCond .eq 7, 3) := by decide +kernel
theorem dL_does_136 : decode cL_does 136 = .ok (.iload_n 3, 1) := by decide +kernel
theorem dL_does_137 : decode cL_does 137 = .ok (.goto 9, 3) := by decide +kernel
theorem dL_does_140 : decode cL_does 140 = .ok (.iload_n 3, 1) := by decide +kernel
theorem dL_does_141 : decode cL_does 141 = .ok (.bipush 32, 2) := by decide +kernel
theorem dL_does_143 : decode cL_does 143 = .ok (.invokestatic 48, 3) := by decide +kernel
theorem dL_does_146 : decode cL_does 146 = .ok (.invokevirtual 58, 3) := by decide +kernel
theorem dL_does_149 : decode cL_does 149 = .ok (.ireturn, 1) := by decide +kernel
theorem dL_does_150 : decode cL_does 150 = .ok (.aload_n 0, 1) := by decide +kernel
theorem dL_does_151 : decode cL_does 151 = .ok (.iload 6, 2) := by decide +kernel
theorem dL_does_153 : decode cL_does 153 = .ok (.iload 4, 2) := by decide +kernel
theorem dL_does_155 : decode cL_does 155 = .ok (.ifCond .eq 7, 3) := by decide +kernel
theorem dL_does_158 : decode cL_does 158 = .ok (.iload_n 3, 1) := by decide +kernel
theorem dL_does_159 : decode cL_does 159 = .ok (.goto 8, 3) := by decide +kernel
theorem dL_does_162 : decode cL_does 162 = .ok (.iload_n 3, 1) := by decide +kernel
theorem dL_does_163 : decode cL_does 163 = .ok (.iconst 3, 1) := by decide +kernel
theorem dL_does_164 : decode cL_does 164 = .ok (.invokestatic 48, 3) := by decide +kernel
theorem dL_does_167 : decode cL_does 167 = .ok (.invokevirtual 70, 3) := by decide +kernel
theorem dL_does_170 : decode cL_does 170 = .ok (.ireturn, 1) := by decide +kernel
theorem dL_does_171 : decode cL_does 171 = .ok (.aload_n 0, 1) := by decide +kernel
theorem dL_does_172 : decode cL_does 172 = .ok (.iload 6, 2) := by decide +kernel
theorem dL_does_174 : decode cL_does 174 = .ok (.iload 4, 2) := by decide +kernel
theorem dL_does_176 : decode cL_does 176 = .ok (.ifCond .eq 7, 3) := by decide +kernel
theorem dL_does_179 : decode cL_does 179 = .ok (.iload_n 3, 1) := by decide +kernel
theorem dL_does_180 : decode cL_does 180 = .ok (.goto 11, 3) := by decide +kernel
theorem dL_does_183 : decode cL_does 183 = .ok (.iconst 1, 1) := by decide +kernel
theorem dL_does_184 : decode cL_does 184 = .ok (.iload_n 3, 1) := by decide +kernel
theorem dL_does_185 : decode cL_does 185 = .ok (.bipush 20, 2) := by decide +kernel
theorem dL_does_187 : decode cL_does 187 = .ok (.invokestatic 48, 3) := by decide +kernel
theorem dL_does_190 : decode cL_does 190 = .ok (.iadd, 1) := by decide +kernel
theorem dL_does_191 : decode cL_does 191 = .ok (.invokevirtual 61, 3) := by decide +kernel
theorem dL_does_194 : decode cL_does 194 = .ok (.ireturn, 1) := by decide +kernel
theorem dL_does_195 : decode cL_does 195 = .ok (.aload_n 0, 1) := by decide +kernel
theorem dL_does_196 : decode cL_does 196 = .ok (.iload 5, 2) := by decide +kernel
theorem dL_does_198 : decode cL_does 198 = .ok (.iload 4, 2) := by decide +kernel
theorem dL_does_200 : decode cL_does 200 = .ok (.ifCond .eq 7, 3) := by decide +kernel
theorem dL_does_203 : decode cL_does 203 = .ok (.iload_n 3, 1) := by decide +kernel
theorem dL_does_204 : decode cL_does 204 = .ok (.goto 10, 3) := by decide +kernel
theorem dL_does_207 : decode cL_does 207 = .ok (.iload_n 3, 1) := by decide +kernel
theorem dL_does_208 : decode cL_does 208 = .ok (.sipush 200, 3) := by decide +kernel
theorem dL_does_211 : decode cL_does 211 = .ok (.invokestatic 48, 3) := by decide +kernel
theorem dL_does_214 : decode cL_does 214 = .ok (.invokevirtual 73, 3) := by decide +kernel
theorem dL_does_217 : decode cL_does 217 = .ok (.ireturn, 1) := by decide +kernel
theorem dL_does_218 : decode cL_does 218 = .ok (.aload_n 0, 1) := by decide +kernel
theorem dL_does_219 : decode cL_does 219 = .ok (.iload 5, 2) := by decide +kernel
theorem dL_does_221 : decode cL_does 221 = .ok (.iload 4, 2) := by decide +kernel
theorem dL_does_223 : decode cL_does 223 = .ok (.ifCond .eq 7, 3) := by decide +kernel
theorem dL_does_226 : decode cL_does 226 = .ok (.iload_n 3, 1) := by decide +kernel
theorem dL_does_227 : decode cL_does 227 = .ok (.goto 10, 3) := by decide +kernel
theorem dL_does_230 : decode cL_does 230 = .ok (.iload_n 3, 1) := by decide +kernel
theorem dL_does_231 : decode cL_does 231 = .ok (.sipush 200, 3) := by decide +kernel
theorem dL_does_234 : decode cL_does 234 = .ok (.invokestatic 48, 3) := by decide +kernel
theorem dL_does_237 : decode cL_does 237 = .ok (.invokevirtual 76, 3) := by decide +kernel
theorem dL_does_240 : decode cL_does 240 = .ok (.ireturn, 1) := by decide +kernel
theorem dL_does_241 : decode cL_does 241 = .ok (.aload_n 0, 1) := by decide +kernel
theorem dL_does_242 : decode cL_does 242 = .ok (.iload 4, 2) := by decide +kernel
theorem dL_does_244 : decode cL_does 244 = .ok (.ifCond .eq 7, 3) := by decide +kernel
theorem dL_does_247 : decode cL_does 247 = .ok (.iload_n 3, 1) := by decide +kernel
theorem dL_does_248 : decode cL_does 248 = .ok (.goto 11, 3) := by decide +kernel
theorem dL_does_251 : decode cL_does 251 = .ok (.iload_n 3, 1) := by decide +kernel
theorem dL_does_252 : decode cL_does 252 = .ok (.bipush 7, 2) := by decide +kernel
theorem dL_does_254 : decode cL_does 254 = .ok (.invokestatic 48, 3) := by decide +kernel
theorem dL_does_257 : decode cL_does 257 = .ok (.iconst 3, 1) := by decide +kernel
theorem dL_does_258 : decode cL_does 258 = .ok (.isub, 1) := by decide +kernel
theorem dL_does_259 : decode cL_does 259 = .ok (.invokevirtual 79, 3) := by decide +kernel
theorem dL_does_262 : decode cL_does 262 = .ok (.ireturn, 1) := by decide +kernel
theorem dL_does_263 : decode cL_does 263 = .ok (.aload_n 0, 1) := by decide +kernel
theorem dL_does_264 : decode cL_does 264 = .ok (.iload 4, 2) := by decide +kernel
theorem dL_does_266 : decode cL_does 266 = .ok (.ifCond .eq 7, 3) := by decide +kernel
theorem dL_does_269 : decode cL_does 269 = .ok (.iload_n 3, 1) := by decide +kernel
theorem dL_does_270 : decode cL_does 270 = .ok (.goto 8, 3) := by decide +kernel
theorem dL_does_273 : decode cL_does 273 = .ok (.iload_n 3, 1) := by decide +kernel
theorem dL_does_274 : decode cL_does 274 = .ok (.iconst 4, 1) := by decide +kernel
theorem dL_does_275 : decode cL_does 275 = .ok (.invokestatic 48, 3) := by decide +kernel
theorem dL_does_278 : decode cL_does 278 = .ok (.invokevirtual 82, 3) := by decide +kernel
theorem dL_does_281 : decode cL_does 281 = .ok (.ireturn, 1) := by decide +kernel
theorem dL_does_282 : decode cL_does 282 = .ok (.aload_n 0, 1) := by decide +kernel
theorem dL_does_283 : decode cL_does 283 = .ok (.iload_n 1, 1) := by decide +kernel
theorem dL_does_284 : decode cL_does 284 = .ok (.bipush 8, 2) := by decide +kernel
theorem dL_does_286 : decode cL_does 286 = .ok (.ishr, 1) := by decide +kernel
theorem dL_does_287 : decode cL_does 287 = .ok (.bipush 15, 2) := by decide +kernel
theorem dL_does_289 : decode cL_does 289 = .ok (.iand, 1) := by decide +kernel
theorem dL_does_290 : decode cL_does 290 = .ok (.ifCond .ne 7, 3) := by decide +kernel
theorem dL_does_293 : decode cL_does 293 = .ok (.iload_n 2, 1) := by decide +kernel
theorem dL_does_294 : decode cL_does 294 = .ok (.goto 6, 3) := by decide +kernel
theorem dL_does_297 : decode cL_does 297 = .ok (.iload_n 2, 1) := by decide +kernel
theorem dL_does_298 : decode cL_does 298 = .ok (.iconst 1, 1) := by decide +kernel
theorem dL_does_299 : decode cL_does 299 = .ok (.iand, 1) := by decide +kernel
theorem dL_does_300 : decode cL_does 300 = .ok (.iload 4, 2) := by decide +kernel
theorem dL_does_302 : decode cL_does 302 = .ok (.ifCond .eq 7, 3) := by decide +kernel
theorem dL_does_305 : decode cL_does 305 = .ok (.iload_n 3, 1) := by decide +kernel
theorem dL_does_306 : decode cL_does 306 = .ok (.goto 11, 3) := by decide +kernel
theorem dL_does_309 : decode cL_does 309 = .ok (.iconst 1, 1) := by decide +kernel
theorem dL_does_310 : decode cL_does 310 = .ok (.iload_n 3, 1) := by decide +kernel
theorem dL_does_311 : decode cL_does 311 = .ok (.bipush 12, 2) := by decide +kernel
theorem dL_does_313 : decode cL_does 313 = .ok (.invokestatic 48, 3) := by decide +kernel
theorem dL_does_316 : decode cL_does 316 = .ok (.iadd, 1) := by decide +kernel
theorem dL_does_317 : decode cL_does 317 = .ok (.invokevirtual 64, 3) := by decide +kernel
theorem dL_does_320 : decode cL_does 320 = .ok (.ireturn, 1) := by decide +kernel
theorem dL_does_321 : decode cL_does 321 = .ok (.aload_n 0, 1) := by decide +kernel
theorem dL_does_322 : decode cL_does 322 = .ok (.iload_n 1, 1) := by decide +kernel
theorem dL_does_323 : decode cL_does 323 = .ok (.bipush 8, 2) := by decide +kernel
theorem dL_does_325 : decode cL_does 325 = .ok (.ishr, 1) := by decide +kernel
theorem dL_does_326 : decode cL_does 326 = .ok (.bipush 15, 2) := by decide +kernel
theorem dL_does_328 : decode cL_does 328 = .ok (.iand, 1) := by decide +kernel
theorem dL_does_329 : decode cL_does 329 = .ok (.ifCond .ne 7, 3) := by decide +kernel
theorem dL_does_332 : decode cL_does 332 = .ok (.iload_n 2, 1) := by decide +kernel
theorem dL_does_333 : decode cL_does 333 = .ok (.goto 9, 3) := by decide +kernel
theorem dL_does_336 : decode cL_does 336 = .ok (.iload_n 2, 1) := by decide +kernel
theorem dL_does_337 : decode cL_does 337 = .ok (.bipush 8, 2) := by decide +kernel
theorem dL_does_339 : decode cL_does 339 = .ok (.invokestatic 48, 3) := by decide +kernel
theorem dL_does_342 : decode cL_does 342 = .ok (.invokevirtual 67, 3) := by decide +kernel
theorem dL_does_345 : decode cL_does 345 = .ok (.ireturn, 1) := by decide +kernel
theorem dL_does_346 : decode cL_does 346 = .ok (.aload_n 0, 1) := by decide +kernel
theorem dL_does_347 : decode cL_does 347 = .ok (.iload 4, 2) := by decide +kernel
theorem dL_does_349 : decode cL_does 349 = .ok (.ifCond .eq 7, 3) := by decide +kernel
theorem dL_does_352 : decode cL_does 352 = .ok (.iload_n 3, 1) := by decide +kernel
theorem dL_does_353 : decode cL_does 353 = .ok (.goto 10, 3) := by decide +kernel
theorem dL_does_356 : decode cL_does 356 = .ok (.iload_n 3, 1) := by decide +kernel
theorem dL_does_357 : decode cL_does 357 = .ok (.sipush 220, 3) := by decide +kernel
theorem dL_does_360 : decode cL_does 360 = .ok (.invokestatic 48, 3) := by decide +kernel
theorem dL_does_363 : decode cL_does 363 = .ok (.iload_n 1, 1) := by decide +kernel
