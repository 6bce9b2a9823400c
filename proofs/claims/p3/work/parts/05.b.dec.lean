theorem dX12_readSteps_0 : decode cX12_readSteps 0 = .ok (.aload_n 0, 1) := by decide +kernel
theorem dX12_readSteps_1 : decode cX12_readSteps 1 = .ok (.getfield 449, 3) := by decide +kernel
theorem dX12_readSteps_4 : decode cX12_readSteps 4 = .ok (.istore_n 2, 1) := by decide +kernel
theorem dX12_readSteps_5 : decode cX12_readSteps 5 = .ok (.iconst 0, 1) := by decide +kernel
theorem dX12_readSteps_6 : decode cX12_readSteps 6 = .ok (.istore_n 3, 1) := by decide +kernel
theorem dX12_readSteps_7 : decode cX12_readSteps 7 = .ok (.iconst 1, 1) := by decide +kernel
theorem dX12_readSteps_8 : decode cX12_readSteps 8 = .ok (.istore 4, 2) := by decide +kernel
theorem dX12_readSteps_10 : decode cX12_readSteps 10 = .ok (.iload 4, 2) := by decide +kernel
theorem dX12_readSteps_12 : decode cX12_readSteps 12 = .ok (.ifCond .eq 319, 3) := by decide +kernel
theorem dX12_readSteps_15 : decode cX12_readSteps 15 = .ok (.aload_n 0, 1) := by decide +kernel
theorem dX12_readSteps_16 : decode cX12_readSteps 16 = .ok (.invokevirtual 115, 3) := by decide +kernel
theorem dX12_readSteps_19 : decode cX12_readSteps 19 = .ok (.ifCond .eq 312, 3) := by decide +kernel
theorem dX12_readSteps_22 : decode cX12_readSteps 22 = .ok (.aload_n 0, 1) := by decide +kernel
theorem dX12_readSteps_23 : decode cX12_readSteps 23 = .ok (.iload_n 1, 1) := by decide +kernel
theorem dX12_readSteps_24 : decode cX12_readSteps 24 = .ok (.invokevirtual 452, 3) := by decide +kernel
theorem dX12_readSteps_27 : decode cX12_readSteps 27 = .ok (.istore 4, 2) := by decide +kernel
theorem dX12_readSteps_29 : decode cX12_readSteps 29 = .ok (.iload 4, 2) := by decide +kernel
theorem dX12_readSteps_31 : decode cX12_readSteps 31 = .ok (.ifCond .ne 6, 3) := by decide +kernel
theorem dX12_readSteps_34 : decode cX12_readSteps 34 = .ok (.goto (-24), 3) := by decide +kernel
theorem dX12_readSteps_37 : decode cX12_readSteps 37 = .ok (.aload_n 0, 1) := by decide +kernel
theorem dX12_readSteps_38 : decode cX12_readSteps 38 = .ok (.getfield 59, 3) := by decide +kernel
theorem dX12_readSteps_41 : decode cX12_readSteps 41 = .ok (.istore 5, 2) := by decide +kernel
theorem dX12_readSteps_43 : decode cX12_readSteps 43 = .ok (.aload_n 0, 1) := by decide +kernel
theorem dX12_readSteps_44 : decode cX12_readSteps 44 = .ok (.getfield 449, 3) := by decide +kernel
theorem dX12_readSteps_47 : decode cX12_readSteps 47 = .ok (.iload_n 2, 1) := by decide +kernel
theorem dX12_readSteps_48 : decode cX12_readSteps 48 = .ok (.isub, 1) := by decide +kernel
theorem dX12_readSteps_49 : decode cX12_readSteps 49 = .ok (.bipush 40, 2) := by decide +kernel
theorem dX12_readSteps_51 : decode cX12_readSteps 51 = .ok (.if_icmp .ne 7, 3) := by decide +kernel
theorem dX12_readSteps_54 : decode cX12_readSteps 54 = .ok (.aload_n 0, 1) := by decide +kernel
theorem dX12_readSteps_55 : decode cX12_readSteps 55 = .ok (.invokevirtual 432, 3) := by decide +kernel
theorem dX12_readSteps_58 : decode cX12_readSteps 58 = .ok (.aload_n 0, 1) := by decide +kernel
theorem dX12_readSteps_59 : decode cX12_readSteps 59 = .ok (.invokevirtual 115, 3) := by decide +kernel
theorem dX12_readSteps_62 : decode cX12_readSteps 62 = .ok (.ifCond .ne 5, 3) := by decide +kernel
theorem dX12_readSteps_65 : decode cX12_readSteps 65 = .ok (.iload_n 2, 1) := by decide +kernel
theorem dX12_readSteps_66 : decode cX12_readSteps 66 = .ok (.ireturn, 1) := by decide +kernel
theorem dX12_readSteps_67 : decode cX12_readSteps 67 = .ok (.aload_n 0, 1) := by decide +kernel
theorem dX12_readSteps_68 : decode cX12_readSteps 68 = .ok (.getfield 66, 3) := by decide +kernel
theorem dX12_readSteps_71 : decode cX12_readSteps 71 = .ok (.iconst 4, 1) := by decide +kernel
theorem dX12_readSteps_72 : decode cX12_readSteps 72 = .ok (.if_icmp .ne 8, 3) := by decide +kernel
theorem dX12_readSteps_75 : decode cX12_readSteps 75 = .ok (.bipush 110, 2) := by decide +kernel
theorem dX12_readSteps_77 : decode cX12_readSteps 77 = .ok (.goto 27, 3) := by decide +kernel
theorem dX12_readSteps_80 : decode cX12_readSteps 80 = .ok (.aload_n 0, 1) := by decide +kernel
theorem dX12_readSteps_81 : decode cX12_readSteps 81 = .ok (.getfield 66, 3) := by decide +kernel
theorem dX12_readSteps_84 : decode cX12_readSteps 84 = .ok (.iconst 2, 1) := by decide +kernel
theorem dX12_readSteps_85 : decode cX12_readSteps 85 = .ok (.if_icmp .ne 11, 3) := by decide +kernel
theorem dX12_readSteps_88 : decode cX12_readSteps 88 = .ok (.aload_n 0, 1) := by decide +kernel
theorem dX12_readSteps_89 : decode cX12_readSteps 89 = .ok (.getfield 76, 3) := by decide +kernel
theorem dX12_readSteps_92 : decode cX12_readSteps 92 = .ok (.l2i, 1) := by decide +kernel
theorem dX12_readSteps_93 : decode cX12_readSteps 93 = .ok (.goto 11, 3) := by decide +kernel
theorem dX12_readSteps_96 : decode cX12_readSteps 96 = .ok (.aload_n 0, 1) := by decide +kernel
theorem dX12_readSteps_97 : decode cX12_readSteps 97 = .ok (.aload_n 0, 1) := by decide +kernel
theorem dX12_readSteps_98 : decode cX12_readSteps 98 = .ok (.getfield 59, 3) := by decide +kernel
theorem dX12_readSteps_101 : decode cX12_readSteps 101 = .ok (.invokevirtual 62, 3) := by decide +kernel
theorem dX12_readSteps_104 : decode cX12_readSteps 104 = .ok (.istore 6, 2) := by decide +kernel
theorem dX12_readSteps_106 : decode cX12_readSteps 106 = .ok (.aload_n 0, 1) := by decide +kernel
theorem dX12_readSteps_107 : decode cX12_readSteps 107 = .ok (.getfield 184, 3) := by decide +kernel
theorem dX12_readSteps_110 : decode cX12_readSteps 110 = .ok (.sipush 1500, 3) := by decide +kernel
theorem dX12_readSteps_113 : decode cX12_readSteps 113 = .ok (.aload_n 0, 1) := by decide +kernel
theorem dX12_readSteps_114 : decode cX12_readSteps 114 = .ok (.getfield 11, 3) := by decide +kernel
theorem dX12_readSteps_117 : decode cX12_readSteps 117 = .ok (.imul, 1) := by decide +kernel
theorem dX12_readSteps_118 : decode cX12_readSteps 118 = .ok (.aload_n 0, 1) := by decide +kernel
theorem dX12_readSteps_119 : decode cX12_readSteps 119 = .ok (.getfield 449, 3) := by decide +kernel
theorem dX12_readSteps_122 : decode cX12_readSteps 122 = .ok (.iadd, 1) := by decide +kernel
theorem dX12_readSteps_123 : decode cX12_readSteps 123 = .ok (.iload 6, 2) := by decide +kernel
theorem dX12_readSteps_125 : decode cX12_readSteps 125 = .ok (.iastore, 1) := by decide +kernel
theorem dX12_readSteps_126 : decode cX12_readSteps 126 = .ok (.aload_n 0, 1) := by decide +kernel
theorem dX12_readSteps_127 : decode cX12_readSteps 127 = .ok (.getfield 187, 3) := by decide +kernel
theorem dX12_readSteps_130 : decode cX12_readSteps 130 = .ok (.sipush 1500, 3) := by decide +kernel
theorem dX12_readSteps_133 : decode cX12_readSteps 133 = .ok (.aload_n 0, 1) := by decide +kernel
theorem dX12_readSteps_134 : decode cX12_readSteps 134 = .ok (.getfield 11, 3) := by decide +kernel
theorem dX12_readSteps_137 : decode cX12_readSteps 137 = .ok (.imul, 1) := by decide +kernel
theorem dX12_readSteps_138 : decode cX12_readSteps 138 = .ok (.aload_n 0, 1) := by decide +kernel
theorem dX12_readSteps_139 : decode cX12_readSteps 139 = .ok (.getfield 449, 3) := by decide +kernel
theorem dX12_readSteps_142 : decode cX12_readSteps 142 = .ok (.iadd, 1) := by decide +kernel
theorem dX12_readSteps_143 : decode cX12_readSteps 143 = .ok (.aload_n 0, 1) := by decide +kernel
theorem dX12_readSteps_144 : decode cX12_readSteps 144 = .ok (.getfield 91, 3) := by decide +kernel
theorem dX12_readSteps_147 : decode cX12_readSteps 147 = .ok (.iastore, 1) := by decide +kernel
theorem dX12_readSteps_148 : decode cX12_readSteps 148 = .ok (.aload_n 0, 1) := by decide +kernel
theorem dX12_readSteps_149 : decode cX12_readSteps 149 = .ok (.dup, 1) := by decide +kernel
theorem dX12_readSteps_150 : decode cX12_readSteps 150 = .ok (.getfield 449, 3) := by decide +kernel
theorem dX12_readSteps_153 : decode cX12_readSteps 153 = .ok (.iconst 1, 1) := by decide +kernel
theorem dX12_readSteps_154 : decode cX12_readSteps 154 = .ok (.iadd, 1) := by decide +kernel
theorem dX12_readSteps_155 : decode cX12_readSteps 155 = .ok (.putfield 449, 3) := by decide +kernel
theorem dX12_readSteps_158 : decode cX12_readSteps 158 = .ok (.aload_n 0, 1) := by decide +kernel
theorem dX12_readSteps_159 : decode cX12_readSteps 159 = .ok (.invokevirtual 105, 3) := by decide +kernel
theorem dX12_readSteps_162 : decode cX12_readSteps 162 = .ok (.iload 6, 2) := by decide +kernel
theorem dX12_readSteps_164 : decode cX12_readSteps 164 = .ok (.bipush 61, 2) := by decide +kernel
theorem dX12_readSteps_166 : decode cX12_readSteps 166 = .ok (.if_icmp .ne 9, 3) := by decide +kernel
theorem dX12_readSteps_169 : decode cX12_readSteps 169 = .ok (.aload_n 0, 1) := by decide +kernel
theorem dX12_readSteps_170 : decode cX12_readSteps 170 = .ok (.bipush 61, 2) := by decide +kernel
theorem dX12_readSteps_172 : decode cX12_readSteps 172 = .ok (.invokevirtual 429, 3) := by decide +kernel
theorem dX12_readSteps_175 : decode cX12_readSteps 175 = .ok (.aload_n 0, 1) := by decide +kernel
theorem dX12_readSteps_176 : decode cX12_readSteps 176 = .ok (.invokevirtual 115, 3) := by decide +kernel
theorem dX12_readSteps_179 : decode cX12_readSteps 179 = .ok (.ifCond .ne 5, 3) := by decide +kernel
theorem dX12_readSteps_182 : decode cX12_readSteps 182 = .ok (.iload_n 2, 1) := by decide +kernel
theorem dX12_readSteps_183 : decode cX12_readSteps 183 = .ok (.ireturn, 1) := by decide +kernel
theorem dX12_readSteps_184 : decode cX12_readSteps 184 = .ok (.iload 6, 2) := by decide +kernel
theorem dX12_readSteps_186 : decode cX12_readSteps 186 = .ok (.bipush 110, 2) := by decide +kernel
theorem dX12_readSteps_188 : decode cX12_readSteps 188 = .ok (.if_icmp .eq 24, 3) := by decide +kernel
theorem dX12_readSteps_191 : decode cX12_readSteps 191 = .ok (.iload 6, 2) := by decide +kernel
theorem dX12_readSteps_193 : decode cX12_readSteps 193 = .ok (.bipush 118, 2) := by decide +kernel
theorem dX12_readSteps_195 : decode cX12_readSteps 195 = .ok (.if_icmp .eq 17, 3) := by decide +kernel
theorem dX12_readSteps_198 : decode cX12_readSteps 198 = .ok (.iload 6, 2) := by decide +kernel
theorem dX12_readSteps_200 : decode cX12_readSteps 200 = .ok (.bipush 97, 2) := by decide +kernel
theorem dX12_readSteps_202 : decode cX12_readSteps 202 = .ok (.if_icmp .eq 10, 3) := by decide +kernel
theorem dX12_readSteps_205 : decode cX12_readSteps 205 = .ok (.iload 6, 2) := by decide +kernel
theorem dX12_readSteps_207 : decode cX12_readSteps 207 = .ok (.bipush 98, 2) := by decide +kernel
theorem dX12_readSteps_209 : decode cX12_readSteps 209 = .ok (.if_icmp .ne 28, 3) := by decide +kernel
theorem dX12_readSteps_212 : decode cX12_readSteps 212 = .ok (.iload_n 3, 1) := by decide +kernel
theorem dX12_readSteps_213 : decode cX12_readSteps 213 = .ok (.bipush 16, 2) := by decide +kernel
theorem dX12_readSteps_215 : decode cX12_readSteps 215 = .ok (.if_icmp .ge 18, 3) := by decide +kernel
theorem dX12_readSteps_218 : decode cX12_readSteps 218 = .ok (.iload 6, 2) := by decide +kernel
theorem dX12_readSteps_220 : decode cX12_readSteps 220 = .ok (.bipush 110, 2) := by decide +kernel
theorem dX12_readSteps_222 : decode cX12_readSteps 222 = .ok (.if_icmp .eq 7, 3) := by decide +kernel
theorem dX12_readSteps_225 : decode cX12_readSteps 225 = .ok (.iload_n 1, 1) := by decide +kernel
theorem dX12_readSteps_226 : decode cX12_readSteps 226 = .ok (.ifCond .ne 7, 3) := by decide +kernel
theorem dX12_readSteps_229 : decode cX12_readSteps 229 = .ok (.iconst 1, 1) := by decide +kernel
theorem dX12_readSteps_230 : decode cX12_readSteps 230 = .ok (.goto 36, 3) := by decide +kernel
theorem dX12_readSteps_233 : decode cX12_readSteps 233 = .ok (.iconst 0, 1) := by decide +kernel
theorem dX12_readSteps_234 : decode cX12_readSteps 234 = .ok (.goto 32, 3) := by decide +kernel
theorem dX12_readSteps_237 : decode cX12_readSteps 237 = .ok (.iload 6, 2) := by decide +kernel
theorem dX12_readSteps_239 : decode cX12_readSteps 239 = .ok (.bipush 126, 2) := by decide +kernel
theorem dX12_readSteps_241 : decode cX12_readSteps 241 = .ok (.if_icmp .ne 15, 3) := by decide +kernel
theorem dX12_readSteps_244 : decode cX12_readSteps 244 = .ok (.iload_n 3, 1) := by decide +kernel
theorem dX12_readSteps_245 : decode cX12_readSteps 245 = .ok (.ifCond .le 7, 3) := by decide +kernel
theorem dX12_readSteps_248 : decode cX12_readSteps 248 = .ok (.iconst 1, 1) := by decide +kernel
theorem dX12_readSteps_249 : decode cX12_readSteps 249 = .ok (.goto 17, 3) := by decide +kernel
theorem dX12_readSteps_252 : decode cX12_readSteps 252 = .ok (.iconst 0, 1) := by decide +kernel
theorem dX12_readSteps_253 : decode cX12_readSteps 253 = .ok (.goto 13, 3) := by decide +kernel
theorem dX12_readSteps_256 : decode cX12_readSteps 256 = .ok (.iload_n 3, 1) := by decide +kernel
theorem dX12_readSteps_257 : decode cX12_readSteps 257 = .ok (.iconst 1, 1) := by decide +kernel
theorem dX12_readSteps_258 : decode cX12_readSteps 258 = .ok (.if_icmp .le 7, 3) := by decide +kernel
theorem dX12_readSteps_261 : decode cX12_readSteps 261 = .ok (.iconst 1, 1) := by decide +kernel
theorem dX12_readSteps_262 : decode cX12_readSteps 262 = .ok (.goto 4, 3) := by decide +kernel
theorem dX12_readSteps_265 : decode cX12_readSteps 265 = .ok (.iconst 0, 1) := by decide +kernel
theorem dX12_readSteps_266 : decode cX12_readSteps 266 = .ok (.istore 7, 2) := by decide +kernel
theorem dX12_readSteps_268 : decode cX12_readSteps 268 = .ok (.iload 7, 2) := by decide +kernel
theorem dX12_readSteps_270 : decode cX12_readSteps 270 = .ok (.ifCond .ne 11, 3) := by decide +kernel
theorem dX12_readSteps_273 : decode cX12_readSteps 273 = .ok (.aload_n 0, 1) := by decide +kernel
theorem dX12_readSteps_274 : decode cX12_readSteps 274 = .ok (.iconst 4, 1) := by decide +kernel
theorem dX12_readSteps_275 : decode cX12_readSteps 275 = .ok (.iload 5, 2) := by decide +kernel
theorem dX12_readSteps_277 : decode cX12_readSteps 277 = .ok (.invokevirtual 94, 3) := by decide +kernel
theorem dX12_readSteps_280 : decode cX12_readSteps 280 = .ok (.pop, 1) := by decide +kernel
theorem dX12_readSteps_281 : decode cX12_readSteps 281 = .ok (.iload_n 3, 1) := by decide +kernel
theorem dX12_readSteps_282 : decode cX12_readSteps 282 = .ok (.iload 6, 2) := by decide +kernel
theorem dX12_readSteps_284 : decode cX12_readSteps 284 = .ok (.bipush 110, 2) := by decide +kernel
theorem dX12_readSteps_286 : decode cX12_readSteps 286 = .ok (.if_icmp .eq 24, 3) := by decide +kernel
theorem dX12_readSteps_289 : decode cX12_readSteps 289 = .ok (.iload 6, 2) := by decide +kernel
theorem dX12_readSteps_291 : decode cX12_readSteps 291 = .ok (.bipush 118, 2) := by decide +kernel
theorem dX12_readSteps_293 : decode cX12_readSteps 293 = .ok (.if_icmp .eq 17, 3) := by decide +kernel
theorem dX12_readSteps_296 : decode cX12_readSteps 296 = .ok (.iload 6, 2) := by decide +kernel
theorem dX12_readSteps_298 : decode cX12_readSteps 298 = .ok (.bipush 97, 2) := by decide +kernel
theorem dX12_readSteps_300 : decode cX12_readSteps 300 = .ok (.if_icmp .eq 10, 3) := by decide +kernel
theorem dX12_readSteps_303 : decode cX12_readSteps 303 = .ok (.iload 6, 2) := by decide +kernel
theorem dX12_readSteps_305 : decode cX12_readSteps 305 = .ok (.bipush 98, 2) := by decide +kernel
theorem dX12_readSteps_307 : decode cX12_readSteps 307 = .ok (.if_icmp .ne 7, 3) := by decide +kernel
theorem dX12_readSteps_310 : decode cX12_readSteps 310 = .ok (.iconst 1, 1) := by decide +kernel
theorem dX12_readSteps_311 : decode cX12_readSteps 311 = .ok (.goto 15, 3) := by decide +kernel
theorem dX12_readSteps_314 : decode cX12_readSteps 314 = .ok (.iload 6, 2) := by decide +kernel
theorem dX12_readSteps_316 : decode cX12_readSteps 316 = .ok (.bipush 126, 2) := by decide +kernel
theorem dX12_readSteps_318 : decode cX12_readSteps 318 = .ok (.if_icmp .ne 7, 3) := by decide +kernel
theorem dX12_readSteps_321 : decode cX12_readSteps 321 = .ok (.iconst 0, 1) := by decide +kernel
theorem dX12_readSteps_322 : decode cX12_readSteps 322 = .ok (.goto 4, 3) := by decide +kernel
theorem dX12_readSteps_325 : decode cX12_readSteps 325 = .ok (.iconst (-1), 1) := by decide +kernel
theorem dX12_readSteps_326 : decode cX12_readSteps 326 = .ok (.iadd, 1) := by decide +kernel
theorem dX12_readSteps_327 : decode cX12_readSteps 327 = .ok (.istore_n 3, 1) := by decide +kernel
theorem dX12_readSteps_328 : decode cX12_readSteps 328 = .ok (.goto (-318), 3) := by decide +kernel
theorem dX12_readSteps_331 : decode cX12_readSteps 331 = .ok (.aload_n 0, 1) := by decide +kernel
theorem dX12_readSteps_332 : decode cX12_readSteps 332 = .ok (.invokevirtual 115, 3) := by decide +kernel
theorem dX12_readSteps_335 : decode cX12_readSteps 335 = .ok (.ifCond .eq 55, 3) := by decide +kernel
theorem dX12_readSteps_338 : decode cX12_readSteps 338 = .ok (.iload_n 1, 1) := by decide +kernel
theorem dX12_readSteps_339 : decode cX12_readSteps 339 = .ok (.ifCond .eq 15, 3) := by decide +kernel
theorem dX12_readSteps_342 : decode cX12_readSteps 342 = .ok (.aload_n 0, 1) := by decide +kernel
theorem dX12_readSteps_343 : decode cX12_readSteps 343 = .ok (.bipush 61, 2) := by decide +kernel
theorem dX12_readSteps_345 : decode cX12_readSteps 345 = .ok (.invokevirtual 98, 3) := by decide +kernel
theorem dX12_readSteps_348 : decode cX12_readSteps 348 = .ok (.ifCond .eq 42, 3) := by decide +kernel
theorem dX12_readSteps_351 : decode cX12_readSteps 351 = .ok (.goto 12, 3) := by decide +kernel
theorem dX12_readSteps_354 : decode cX12_readSteps 354 = .ok (.aload_n 0, 1) := by decide +kernel
theorem dX12_readSteps_355 : decode cX12_readSteps 355 = .ok (.bipush 59, 2) := by decide +kernel
theorem dX12_readSteps_357 : decode cX12_readSteps 357 = .ok (.invokevirtual 98, 3) := by decide +kernel
theorem dX12_readSteps_360 : decode cX12_readSteps 360 = .ok (.ifCond .eq 30, 3) := by decide +kernel
theorem dX12_readSteps_363 : decode cX12_readSteps 363 = .ok (.iload_n 3, 1) := by decide +kernel
theorem dX12_readSteps_364 : decode cX12_readSteps 364 = .ok (.iconst 1, 1) := by decide +kernel
theorem dX12_readSteps_365 : decode cX12_readSteps 365 = .ok (.if_icmp .eq 25, 3) := by decide +kernel
theorem dX12_readSteps_368 : decode cX12_readSteps 368 = .ok (.iload_n 1, 1) := by decide +kernel
theorem dX12_readSteps_369 : decode cX12_readSteps 369 = .ok (.ifCond .eq 11, 3) := by decide +kernel
theorem dX12_readSteps_372 : decode cX12_readSteps 372 = .ok (.aload_n 0, 1) := by decide +kernel
theorem dX12_readSteps_373 : decode cX12_readSteps 373 = .ok (.getfield 449, 3) := by decide +kernel
theorem dX12_readSteps_376 : decode cX12_readSteps 376 = .ok (.iload_n 2, 1) := by decide +kernel
theorem dX12_readSteps_377 : decode cX12_readSteps 377 = .ok (.if_icmp .eq 13, 3) := by decide +kernel
theorem dX12_readSteps_380 : decode cX12_readSteps 380 = .ok (.aload_n 0, 1) := by decide +kernel
theorem dX12_readSteps_381 : decode cX12_readSteps 381 = .ok (.iconst 4, 1) := by decide +kernel
theorem dX12_readSteps_382 : decode cX12_readSteps 382 = .ok (.aload_n 0, 1) := by decide +kernel
theorem dX12_readSteps_383 : decode cX12_readSteps 383 = .ok (.getfield 59, 3) := by decide +kernel
theorem dX12_readSteps_386 : decode cX12_readSteps 386 = .ok (.invokevirtual 94, 3) := by decide +kernel
theorem dX12_readSteps_389 : decode cX12_readSteps 389 = .ok (.pop, 1) := by decide +kernel
theorem dX12_readSteps_390 : decode cX12_readSteps 390 = .ok (.iload_n 2, 1) := by decide +kernel
theorem dX12_readSteps_391 : decode cX12_readSteps 391 = .ok (.ireturn, 1) := by decide +kernel
theorem dX12_isStep_0 : decode cX12_isStep 0 = .ok (.aload_n 0, 1) := by decide +kernel
theorem dX12_isStep_1 : decode cX12_isStep 1 = .ok (.getfield 66, 3) := by decide +kernel
theorem dX12_isStep_4 : decode cX12_isStep 4 = .ok (.iconst 4, 1) := by decide +kernel
theorem dX12_isStep_5 : decode cX12_isStep 5 = .ok (.if_icmp .ne 5, 3) := by decide +kernel
theorem dX12_isStep_8 : decode cX12_isStep 8 = .ok (.iconst 1, 1) := by decide +kernel
theorem dX12_isStep_9 : decode cX12_isStep 9 = .ok (.ireturn, 1) := by decide +kernel
theorem dX12_isStep_10 : decode cX12_isStep 10 = .ok (.aload_n 0, 1) := by decide +kernel
theorem dX12_isStep_11 : decode cX12_isStep 11 = .ok (.getfield 66, 3) := by decide +kernel
theorem dX12_isStep_14 : decode cX12_isStep 14 = .ok (.iconst 2, 1) := by decide +kernel
theorem dX12_isStep_15 : decode cX12_isStep 15 = .ok (.if_icmp .ne 42, 3) := by decide +kernel
theorem dX12_isStep_18 : decode cX12_isStep 18 = .ok (.aload_n 0, 1) := by decide +kernel
theorem dX12_isStep_19 : decode cX12_isStep 19 = .ok (.getfield 76, 3) := by decide +kernel
theorem dX12_isStep_22 : decode cX12_isStep 22 = .ok (.ldc2_w 456, 3) := by decide +kernel
theorem dX12_isStep_25 : decode cX12_isStep 25 = .ok (.lcmp, 1) := by decide +kernel
theorem dX12_isStep_26 : decode cX12_isStep 26 = .ok (.ifCond .eq 25, 3) := by decide +kernel
theorem dX12_isStep_29 : decode cX12_isStep 29 = .ok (.aload_n 0, 1) := by decide +kernel
theorem dX12_isStep_30 : decode cX12_isStep 30 = .ok (.getfield 76, 3) := by decide +kernel
theorem dX12_isStep_33 : decode cX12_isStep 33 = .ok (.ldc2_w 458, 3) := by decide +kernel
theorem dX12_isStep_36 : decode cX12_isStep 36 = .ok (.lcmp, 1) := by decide +kernel
theorem dX12_isStep_37 : decode cX12_isStep 37 = .ok (.ifCond .eq 14, 3) := by decide +kernel
theorem dX12_isStep_40 : decode cX12_isStep 40 = .ok (.aload_n 0, 1) := by decide +kernel
theorem dX12_isStep_41 : decode cX12_isStep 41 = .ok (.getfield 76, 3) := by decide +kernel
theorem dX12_isStep_44 : decode cX12_isStep 44 = .ok (.ldc2_w 460, 3) := by decide +kernel
theorem dX12_isStep_47 : decode cX12_isStep 47 = .ok (.lcmp, 1) := by decide +kernel
theorem dX12_isStep_48 : decode cX12_isStep 48 = .ok (.ifCond .ne 7, 3) := by decide +kernel
theorem dX12_isStep_51 : decode cX12_isStep 51 = .ok (.iconst 1, 1) := by decide +kernel
theorem dX12_isStep_52 : decode cX12_isStep 52 = .ok (.goto 4, 3) := by decide +kernel
theorem dX12_isStep_55 : decode cX12_isStep 55 = .ok (.iconst 0, 1) := by decide +kernel
theorem dX12_isStep_56 : decode cX12_isStep 56 = .ok (.ireturn, 1) := by decide +kernel
theorem dX12_isStep_57 : decode cX12_isStep 57 = .ok (.aload_n 0, 1) := by decide +kernel
theorem dX12_isStep_58 : decode cX12_isStep 58 = .ok (.getfield 66, 3) := by decide +kernel
theorem dX12_isStep_61 : decode cX12_isStep 61 = .ok (.bipush 6, 2) := by decide +kernel
theorem dX12_isStep_63 : decode cX12_isStep 63 = .ok (.if_icmp .eq 5, 3) := by decide +kernel
theorem dX12_isStep_66 : decode cX12_isStep 66 = .ok (.iconst 0, 1) := by decide +kernel
theorem dX12_isStep_67 : decode cX12_isStep 67 = .ok (.ireturn, 1) := by decide +kernel
theorem dX12_isStep_68 : decode cX12_isStep 68 = .ok (.aload_n 0, 1) := by decide +kernel
theorem dX12_isStep_69 : decode cX12_isStep 69 = .ok (.aload_n 0, 1) := by decide +kernel
theorem dX12_isStep_70 : decode cX12_isStep 70 = .ok (.getfield 59, 3) := by decide +kernel
theorem dX12_isStep_73 : decode cX12_isStep 73 = .ok (.invokevirtual 62, 3) := by decide +kernel
theorem dX12_isStep_76 : decode cX12_isStep 76 = .ok (.istore_n 2, 1) := by decide +kernel
theorem dX12_isStep_77 : decode cX12_isStep 77 = .ok (.iload_n 2, 1) := by decide +kernel
theorem dX12_isStep_78 : decode cX12_isStep 78 = .ok (.bipush 61, 2) := by decide +kernel
theorem dX12_isStep_80 : decode cX12_isStep 80 = .ok (.if_icmp .ne 54, 3) := by decide +kernel
theorem dX12_isStep_83 : decode cX12_isStep 83 = .ok (.aload_n 0, 1) := by decide +kernel
theorem dX12_isStep_84 : decode cX12_isStep 84 = .ok (.getfield 56, 3) := by decide +kernel
theorem dX12_isStep_87 : decode cX12_isStep 87 = .ok (.istore_n 3, 1) := by decide +kernel
theorem dX12_isStep_88 : decode cX12_isStep 88 = .ok (.aload_n 0, 1) := by decide +kernel
theorem dX12_isStep_89 : decode cX12_isStep 89 = .ok (.iload_n 3, 1) := by decide +kernel
theorem dX12_isStep_90 : decode cX12_isStep 90 = .ok (.invokevirtual 62, 3) := by decide +kernel
theorem dX12_isStep_93 : decode cX12_isStep 93 = .ok (.bipush 32, 2) := by decide +kernel
theorem dX12_isStep_95 : decode cX12_isStep 95 = .ok (.if_icmp .eq 13, 3) := by decide +kernel
theorem dX12_isStep_98 : decode cX12_isStep 98 = .ok (.aload_n 0, 1) := by decide +kernel
theorem dX12_isStep_99 : decode cX12_isStep 99 = .ok (.iload_n 3, 1) := by decide +kernel
theorem dX12_isStep_100 : decode cX12_isStep 100 = .ok (.invokevirtual 62, 3) := by decide +kernel
theorem dX12_isStep_103 : decode cX12_isStep 103 = .ok (.bipush 10, 2) := by decide +kernel
theorem dX12_isStep_105 : decode cX12_isStep 105 = .ok (.if_icmp .ne 9, 3) := by decide +kernel
theorem dX12_isStep_108 : decode cX12_isStep 108 = .ok (.iinc 3 1, 3) := by decide +kernel
theorem dX12_isStep_111 : decode cX12_isStep 111 = .ok (.goto (-23), 3) := by decide +kernel
theorem dX12_isStep_114 : decode cX12_isStep 114 = .ok (.iload_n 1, 1) := by decide +kernel
theorem dX12_isStep_115 : decode cX12_isStep 115 = .ok (.ifCond .eq 13, 3) := by decide +kernel
theorem dX12_isStep_118 : decode cX12_isStep 118 = .ok (.aload_n 0, 1) := by decide +kernel
theorem dX12_isStep_119 : decode cX12_isStep 119 = .ok (.iload_n 3, 1) := by decide +kernel
theorem dX12_isStep_120 : decode cX12_isStep 120 = .ok (.invokevirtual 62, 3) := by decide +kernel
theorem dX12_isStep_123 : decode cX12_isStep 123 = .ok (.bipush 61, 2) := by decide +kernel
theorem dX12_isStep_125 : decode cX12_isStep 125 = .ok (.if_icmp .ne 7, 3) := by decide +kernel
theorem dX12_isStep_128 : decode cX12_isStep 128 = .ok (.iconst 1, 1) := by decide +kernel
theorem dX12_isStep_129 : decode cX12_isStep 129 = .ok (.goto 4, 3) := by decide +kernel
theorem dX12_isStep_132 : decode cX12_isStep 132 = .ok (.iconst 0, 1) := by decide +kernel
theorem dX12_isStep_133 : decode cX12_isStep 133 = .ok (.ireturn, 1) := by decide +kernel
theorem dX12_isStep_134 : decode cX12_isStep 134 = .ok (.iload_n 2, 1) := by decide +kernel
theorem dX12_isStep_135 : decode cX12_isStep 135 = .ok (.bipush 43, 2) := by decide +kernel
theorem dX12_isStep_137 : decode cX12_isStep 137 = .ok (.if_icmp .eq 57, 3) := by decide +kernel
theorem dX12_isStep_140 : decode cX12_isStep 140 = .ok (.iload_n 2, 1) := by decide +kernel
theorem dX12_isStep_141 : decode cX12_isStep 141 = .ok (.bipush 45, 2) := by decide +kernel
theorem dX12_isStep_143 : decode cX12_isStep 143 = .ok (.if_icmp .eq 51, 3) := by decide +kernel
theorem dX12_isStep_146 : decode cX12_isStep 146 = .ok (.iload_n 2, 1) := by decide +kernel
theorem dX12_isStep_147 : decode cX12_isStep 147 = .ok (.bipush 42, 2) := by decide +kernel
theorem dX12_isStep_149 : decode cX12_isStep 149 = .ok (.if_icmp .eq 45, 3) := by decide +kernel
theorem dX12_isStep_152 : decode cX12_isStep 152 = .ok (.iload_n 2, 1) := by decide +kernel
theorem dX12_isStep_153 : decode cX12_isStep 153 = .ok (.bipush 47, 2) := by decide +kernel
theorem dX12_isStep_155 : decode cX12_isStep 155 = .ok (.if_icmp .eq 39, 3) := by decide +kernel
theorem dX12_isStep_158 : decode cX12_isStep 158 = .ok (.iload_n 2, 1) := by decide +kernel
theorem dX12_isStep_159 : decode cX12_isStep 159 = .ok (.bipush 37, 2) := by decide +kernel
theorem dX12_isStep_161 : decode cX12_isStep 161 = .ok (.if_icmp .eq 33, 3) := by decide +kernel
theorem dX12_isStep_164 : decode cX12_isStep 164 = .ok (.iload_n 2, 1) := by decide +kernel
theorem dX12_isStep_165 : decode cX12_isStep 165 = .ok (.bipush 60, 2) := by decide +kernel
theorem dX12_isStep_167 : decode cX12_isStep 167 = .ok (.if_icmp .eq 27, 3) := by decide +kernel
theorem dX12_isStep_170 : decode cX12_isStep 170 = .ok (.iload_n 2, 1) := by decide +kernel
theorem dX12_isStep_171 : decode cX12_isStep 171 = .ok (.bipush 62, 2) := by decide +kernel
theorem dX12_isStep_173 : decode cX12_isStep 173 = .ok (.if_icmp .eq 21, 3) := by decide +kernel
theorem dX12_isStep_176 : decode cX12_isStep 176 = .ok (.iload_n 2, 1) := by decide +kernel
theorem dX12_isStep_177 : decode cX12_isStep 177 = .ok (.bipush 38, 2) := by decide +kernel
theorem dX12_isStep_179 : decode cX12_isStep 179 = .ok (.if_icmp .eq 15, 3) := by decide +kernel
theorem dX12_isStep_182 : decode cX12_isStep 182 = .ok (.iload_n 2, 1) := by decide +kernel
theorem dX12_isStep_183 : decode cX12_isStep 183 = .ok (.bipush 124, 2) := by decide +kernel
theorem dX12_isStep_185 : decode cX12_isStep 185 = .ok (.if_icmp .eq 9, 3) := by decide +kernel
theorem dX12_isStep_188 : decode cX12_isStep 188 = .ok (.iload_n 2, 1) := by decide +kernel
theorem dX12_isStep_189 : decode cX12_isStep 189 = .ok (.bipush 126, 2) := by decide +kernel
theorem dX12_isStep_191 : decode cX12_isStep 191 = .ok (.if_icmp .ne 7, 3) := by decide +kernel
theorem dX12_isStep_194 : decode cX12_isStep 194 = .ok (.iconst 1, 1) := by decide +kernel
theorem dX12_isStep_195 : decode cX12_isStep 195 = .ok (.goto 4, 3) := by decide +kernel
theorem dX12_isStep_198 : decode cX12_isStep 198 = .ok (.iconst 0, 1) := by decide +kernel
theorem dX12_isStep_199 : decode cX12_isStep 199 = .ok (.ireturn, 1) := by decide +kernel
theorem dX12_readRule_0 : decode cX12_readRule 0 = .ok (.bipush 16, 2) := by decide +kernel
theorem dX12_readRule_2 : decode cX12_readRule 2 = .ok (.aload_n 0, 1) := by decide +kernel
theorem dX12_readRule_3 : decode cX12_readRule 3 = .ok (.getfield 11, 3) := by decide +kernel
theorem dX12_readRule_6 : decode cX12_readRule 6 = .ok (.imul, 1) := by decide +kernel
theorem dX12_readRule_7 : decode cX12_readRule 7 = .ok (.aload_n 0, 1) := by decide +kernel
theorem dX12_readRule_8 : decode cX12_readRule 8 = .ok (.getfield 462, 3) := by decide +kernel
theorem dX12_readRule_11 : decode cX12_readRule 11 = .ok (.iadd, 1) := by decide +kernel
theorem dX12_readRule_12 : decode cX12_readRule 12 = .ok (.istore_n 1, 1) := by decide +kernel
theorem dX12_readRule_13 : decode cX12_readRule 13 = .ok (.aload_n 0, 1) := by decide +kernel
theorem dX12_readRule_14 : decode cX12_readRule 14 = .ok (.iconst 3, 1) := by decide +kernel
theorem dX12_readRule_15 : decode cX12_readRule 15 = .ok (.aload_n 0, 1) := by decide +kernel
theorem dX12_readRule_16 : decode cX12_readRule 16 = .ok (.getfield 462, 3) := by decide +kernel
theorem dX12_readRule_19 : decode cX12_readRule 19 = .ok (.invokevirtual 442, 3) := by decide +kernel
theorem dX12_readRule_22 : decode cX12_readRule 22 = .ok (.aload_n 0, 1) := by decide +kernel
theorem dX12_readRule_23 : decode cX12_readRule 23 = .ok (.invokevirtual 115, 3) := by decide +kernel
theorem dX12_readRule_26 : decode cX12_readRule 26 = .ok (.ifCond .ne 4, 3) := by decide +kernel
theorem dX12_readRule_29 : decode cX12_readRule 29 = .ok (.return_, 1) := by decide +kernel
theorem dX12_readRule_30 : decode cX12_readRule 30 = .ok (.aload_n 0, 1) := by decide +kernel
theorem dX12_readRule_31 : decode cX12_readRule 31 = .ok (.dup, 1) := by decide +kernel
theorem dX12_readRule_32 : decode cX12_readRule 32 = .ok (.getfield 462, 3) := by decide +kernel
theorem dX12_readRule_35 : decode cX12_readRule 35 = .ok (.iconst 1, 1) := by decide +kernel
theorem dX12_readRule_36 : decode cX12_readRule 36 = .ok (.iadd, 1) := by decide +kernel
theorem dX12_readRule_37 : decode cX12_readRule 37 = .ok (.putfield 462, 3) := by decide +kernel
theorem dX12_readRule_40 : decode cX12_readRule 40 = .ok (.aload_n 0, 1) := by decide +kernel
theorem dX12_readRule_41 : decode cX12_readRule 41 = .ok (.getfield 172, 3) := by decide +kernel
theorem dX12_readRule_44 : decode cX12_readRule 44 = .ok (.iload_n 1, 1) := by decide +kernel
theorem dX12_readRule_45 : decode cX12_readRule 45 = .ok (.aload_n 0, 1) := by decide +kernel
theorem dX12_readRule_46 : decode cX12_readRule 46 = .ok (.getfield 449, 3) := by decide +kernel
theorem dX12_readRule_49 : decode cX12_readRule 49 = .ok (.iastore, 1) := by decide +kernel
theorem dX12_readRule_50 : decode cX12_readRule 50 = .ok (.aload_n 0, 1) := by decide +kernel
theorem dX12_readRule_51 : decode cX12_readRule 51 = .ok (.getfield 175, 3) := by decide +kernel
theorem dX12_readRule_54 : decode cX12_readRule 54 = .ok (.iload_n 1, 1) := by decide +kernel
theorem dX12_readRule_55 : decode cX12_readRule 55 = .ok (.iconst 0, 1) := by decide +kernel
theorem dX12_readRule_56 : decode cX12_readRule 56 = .ok (.iastore, 1) := by decide +kernel
theorem dX12_readRule_57 : decode cX12_readRule 57 = .ok (.aload_n 0, 1) := by decide +kernel
theorem dX12_readRule_58 : decode cX12_readRule 58 = .ok (.ldc2_w 26, 3) := by decide +kernel
theorem dX12_readRule_61 : decode cX12_readRule 61 = .ok (.invokevirtual 465, 3) := by decide +kernel
theorem dX12_readRule_64 : decode cX12_readRule 64 = .ok (.ifCond .eq 35, 3) := by decide +kernel
theorem dX12_readRule_67 : decode cX12_readRule 67 = .ok (.aload_n 0, 1) := by decide +kernel
theorem dX12_readRule_68 : decode cX12_readRule 68 = .ok (.invokevirtual 105, 3) := by decide +kernel
theorem dX12_readRule_71 : decode cX12_readRule 71 = .ok (.aload_n 0, 1) := by decide +kernel
theorem dX12_readRule_72 : decode cX12_readRule 72 = .ok (.getfield 172, 3) := by decide +kernel
theorem dX12_readRule_75 : decode cX12_readRule 75 = .ok (.iload_n 1, 1) := by decide +kernel
theorem dX12_readRule_76 : decode cX12_readRule 76 = .ok (.aload_n 0, 1) := by decide +kernel
theorem dX12_readRule_77 : decode cX12_readRule 77 = .ok (.iconst 1, 1) := by decide +kernel
theorem dX12_readRule_78 : decode cX12_readRule 78 = .ok (.invokevirtual 468, 3) := by decide +kernel
theorem dX12_readRule_81 : decode cX12_readRule 81 = .ok (.iastore, 1) := by decide +kernel
theorem dX12_readRule_82 : decode cX12_readRule 82 = .ok (.aload_n 0, 1) := by decide +kernel
theorem dX12_readRule_83 : decode cX12_readRule 83 = .ok (.getfield 175, 3) := by decide +kernel
theorem dX12_readRule_86 : decode cX12_readRule 86 = .ok (.iload_n 1, 1) := by decide +kernel
theorem dX12_readRule_87 : decode cX12_readRule 87 = .ok (.aload_n 0, 1) := by decide +kernel
theorem dX12_readRule_88 : decode cX12_readRule 88 = .ok (.getfield 449, 3) := by decide +kernel
theorem dX12_readRule_91 : decode cX12_readRule 91 = .ok (.aload_n 0, 1) := by decide +kernel
theorem dX12_readRule_92 : decode cX12_readRule 92 = .ok (.getfield 172, 3) := by decide +kernel
theorem dX12_readRule_95 : decode cX12_readRule 95 = .ok (.iload_n 1, 1) := by decide +kernel
theorem dX12_readRule_96 : decode cX12_readRule 96 = .ok (.iaload, 1) := by decide +kernel
theorem dX12_readRule_97 : decode cX12_readRule 97 = .ok (.isub, 1) := by decide +kernel
theorem dX12_readRule_98 : decode cX12_readRule 98 = .ok (.iastore, 1) := by decide +kernel
theorem dX12_readRule_99 : decode cX12_readRule 99 = .ok (.aload_n 0, 1) := by decide +kernel
theorem dX12_readRule_100 : decode cX12_readRule 100 = .ok (.invokevirtual 115, 3) := by decide +kernel
theorem dX12_readRule_103 : decode cX12_readRule 103 = .ok (.ifCond .eq 9, 3) := by decide +kernel
theorem dX12_readRule_106 : decode cX12_readRule 106 = .ok (.aload_n 0, 1) := by decide +kernel
theorem dX12_readRule_107 : decode cX12_readRule 107 = .ok (.bipush 61, 2) := by decide +kernel
theorem dX12_readRule_109 : decode cX12_readRule 109 = .ok (.invokevirtual 429, 3) := by decide +kernel
theorem dX12_readRule_112 : decode cX12_readRule 112 = .ok (.aload_n 0, 1) := by decide +kernel
theorem dX12_readRule_113 : decode cX12_readRule 113 = .ok (.invokevirtual 115, 3) := by decide +kernel
theorem dX12_readRule_116 : decode cX12_readRule 116 = .ok (.ifCond .ne 4, 3) := by decide +kernel
theorem dX12_readRule_119 : decode cX12_readRule 119 = .ok (.return_, 1) := by decide +kernel
theorem dX12_readRule_120 : decode cX12_readRule 120 = .ok (.aload_n 0, 1) := by decide +kernel
theorem dX12_readRule_121 : decode cX12_readRule 121 = .ok (.getfield 178, 3) := by decide +kernel
theorem dX12_readRule_124 : decode cX12_readRule 124 = .ok (.iload_n 1, 1) := by decide +kernel
theorem dX12_readRule_125 : decode cX12_readRule 125 = .ok (.aload_n 0, 1) := by decide +kernel
theorem dX12_readRule_126 : decode cX12_readRule 126 = .ok (.iconst 0, 1) := by decide +kernel
theorem dX12_readRule_127 : decode cX12_readRule 127 = .ok (.invokevirtual 468, 3) := by decide +kernel
theorem dX12_readRule_130 : decode cX12_readRule 130 = .ok (.iastore, 1) := by decide +kernel
theorem dX12_readRule_131 : decode cX12_readRule 131 = .ok (.aload_n 0, 1) := by decide +kernel
theorem dX12_readRule_132 : decode cX12_readRule 132 = .ok (.getfield 181, 3) := by decide +kernel
theorem dX12_readRule_135 : decode cX12_readRule 135 = .ok (.iload_n 1, 1) := by decide +kernel
theorem dX12_readRule_136 : decode cX12_readRule 136 = .ok (.aload_n 0, 1) := by decide +kernel
theorem dX12_readRule_137 : decode cX12_readRule 137 = .ok (.getfield 449, 3) := by decide +kernel
theorem dX12_readRule_140 : decode cX12_readRule 140 = .ok (.aload_n 0, 1) := by decide +kernel
theorem dX12_readRule_141 : decode cX12_readRule 141 = .ok (.getfield 178, 3) := by decide +kernel
theorem dX12_readRule_144 : decode cX12_readRule 144 = .ok (.iload_n 1, 1) := by decide +kernel
theorem dX12_readRule_145 : decode cX12_readRule 145 = .ok (.iaload, 1) := by decide +kernel
theorem dX12_readRule_146 : decode cX12_readRule 146 = .ok (.isub, 1) := by decide +kernel
theorem dX12_readRule_147 : decode cX12_readRule 147 = .ok (.iastore, 1) := by decide +kernel
theorem dX12_readRule_148 : decode cX12_readRule 148 = .ok (.aload_n 0, 1) := by decide +kernel
theorem dX12_readRule_149 : decode cX12_readRule 149 = .ok (.invokevirtual 115, 3) := by decide +kernel
theorem dX12_readRule_152 : decode cX12_readRule 152 = .ok (.ifCond .eq 9, 3) := by decide +kernel
theorem dX12_readRule_155 : decode cX12_readRule 155 = .ok (.aload_n 0, 1) := by decide +kernel
theorem dX12_readRule_156 : decode cX12_readRule 156 = .ok (.bipush 59, 2) := by decide +kernel
theorem dX12_readRule_158 : decode cX12_readRule 158 = .ok (.invokevirtual 429, 3) := by decide +kernel
theorem dX12_readRule_161 : decode cX12_readRule 161 = .ok (.return_, 1) := by decide +kernel
theorem dX12_readMark_0 : decode cX12_readMark 0 = .ok (.bipush 16, 2) := by decide +kernel
theorem dX12_readMark_2 : decode cX12_readMark 2 = .ok (.aload_n 0, 1) := by decide +kernel
theorem dX12_readMark_3 : decode cX12_readMark 3 = .ok (.getfield 11, 3) := by decide +kernel
theorem dX12_readMark_6 : decode cX12_readMark 6 = .ok (.imul, 1) := by decide +kernel
theorem dX12_readMark_7 : decode cX12_readMark 7 = .ok (.aload_n 0, 1) := by decide +kernel
theorem dX12_readMark_8 : decode cX12_readMark 8 = .ok (.getfield 472, 3) := by decide +kernel
theorem dX12_readMark_11 : decode cX12_readMark 11 = .ok (.iadd, 1) := by decide +kernel
theorem dX12_readMark_12 : decode cX12_readMark 12 = .ok (.istore_n 1, 1) := by decide +kernel
theorem dX12_readMark_13 : decode cX12_readMark 13 = .ok (.aload_n 0, 1) := by decide +kernel
theorem dX12_readMark_14 : decode cX12_readMark 14 = .ok (.iconst 4, 1) := by decide +kernel
theorem dX12_readMark_15 : decode cX12_readMark 15 = .ok (.aload_n 0, 1) := by decide +kernel
theorem dX12_readMark_16 : decode cX12_readMark 16 = .ok (.getfield 472, 3) := by decide +kernel
theorem dX12_readMark_19 : decode cX12_readMark 19 = .ok (.invokevirtual 442, 3) := by decide +kernel
theorem dX12_readMark_22 : decode cX12_readMark 22 = .ok (.aload_n 0, 1) := by decide +kernel
theorem dX12_readMark_23 : decode cX12_readMark 23 = .ok (.invokevirtual 115, 3) := by decide +kernel
theorem dX12_readMark_26 : decode cX12_readMark 26 = .ok (.ifCond .ne 4, 3) := by decide +kernel
theorem dX12_readMark_29 : decode cX12_readMark 29 = .ok (.return_, 1) := by decide +kernel
theorem dX12_readMark_30 : decode cX12_readMark 30 = .ok (.aload_n 0, 1) := by decide +kernel
theorem dX12_readMark_31 : decode cX12_readMark 31 = .ok (.dup, 1) := by decide +kernel
theorem dX12_readMark_32 : decode cX12_readMark 32 = .ok (.getfield 472, 3) := by decide +kernel
theorem dX12_readMark_35 : decode cX12_readMark 35 = .ok (.iconst 1, 1) := by decide +kernel
theorem dX12_readMark_36 : decode cX12_readMark 36 = .ok (.iadd, 1) := by decide +kernel
theorem dX12_readMark_37 : decode cX12_readMark 37 = .ok (.putfield 472, 3) := by decide +kernel
theorem dX12_readMark_40 : decode cX12_readMark 40 = .ok (.aload_n 0, 1) := by decide +kernel
theorem dX12_readMark_41 : decode cX12_readMark 41 = .ok (.invokevirtual 115, 3) := by decide +kernel
theorem dX12_readMark_44 : decode cX12_readMark 44 = .ok (.ifCond .eq 9, 3) := by decide +kernel
theorem dX12_readMark_47 : decode cX12_readMark 47 = .ok (.aload_n 0, 1) := by decide +kernel
theorem dX12_readMark_48 : decode cX12_readMark 48 = .ok (.bipush 61, 2) := by decide +kernel
theorem dX12_readMark_50 : decode cX12_readMark 50 = .ok (.invokevirtual 429, 3) := by decide +kernel
theorem dX12_readMark_53 : decode cX12_readMark 53 = .ok (.aload_n 0, 1) := by decide +kernel
theorem dX12_readMark_54 : decode cX12_readMark 54 = .ok (.getfield 190, 3) := by decide +kernel
theorem dX12_readMark_57 : decode cX12_readMark 57 = .ok (.iload_n 1, 1) := by decide +kernel
theorem dX12_readMark_58 : decode cX12_readMark 58 = .ok (.sipush 1600, 3) := by decide +kernel
theorem dX12_readMark_61 : decode cX12_readMark 61 = .ok (.aload_n 0, 1) := by decide +kernel
theorem dX12_readMark_62 : decode cX12_readMark 62 = .ok (.getfield 11, 3) := by decide +kernel
theorem dX12_readMark_65 : decode cX12_readMark 65 = .ok (.imul, 1) := by decide +kernel
theorem dX12_readMark_66 : decode cX12_readMark 66 = .ok (.aload_n 0, 1) := by decide +kernel
theorem dX12_readMark_67 : decode cX12_readMark 67 = .ok (.getfield 418, 3) := by decide +kernel
theorem dX12_readMark_70 : decode cX12_readMark 70 = .ok (.iadd, 1) := by decide +kernel
theorem dX12_readMark_71 : decode cX12_readMark 71 = .ok (.iastore, 1) := by decide +kernel
theorem dX12_readMark_72 : decode cX12_readMark 72 = .ok (.aload_n 0, 1) := by decide +kernel
theorem dX12_readMark_73 : decode cX12_readMark 73 = .ok (.getfield 193, 3) := by decide +kernel
theorem dX12_readMark_76 : decode cX12_readMark 76 = .ok (.iload_n 1, 1) := by decide +kernel
theorem dX12_readMark_77 : decode cX12_readMark 77 = .ok (.aload_n 0, 1) := by decide +kernel
theorem dX12_readMark_78 : decode cX12_readMark 78 = .ok (.invokevirtual 115, 3) := by decide +kernel
theorem dX12_readMark_81 : decode cX12_readMark 81 = .ok (.ifCond .eq 11, 3) := by decide +kernel
theorem dX12_readMark_84 : decode cX12_readMark 84 = .ok (.aload_n 0, 1) := by decide +kernel
theorem dX12_readMark_85 : decode cX12_readMark 85 = .ok (.iconst 0, 1) := by decide +kernel
theorem dX12_readMark_86 : decode cX12_readMark 86 = .ok (.invokevirtual 475, 3) := by decide +kernel
theorem dX12_readMark_89 : decode cX12_readMark 89 = .ok (.goto 4, 3) := by decide +kernel
theorem dX12_readMark_92 : decode cX12_readMark 92 = .ok (.iconst 0, 1) := by decide +kernel
theorem dX12_readMark_93 : decode cX12_readMark 93 = .ok (.iastore, 1) := by decide +kernel
theorem dX12_readMark_94 : decode cX12_readMark 94 = .ok (.return_, 1) := by decide +kernel
theorem dX12_readKind_0 : decode cX12_readKind 0 = .ok (.bipush 16, 2) := by decide +kernel
theorem dX12_readKind_2 : decode cX12_readKind 2 = .ok (.aload_n 0, 1) := by decide +kernel
theorem dX12_readKind_3 : decode cX12_readKind 3 = .ok (.getfield 11, 3) := by decide +kernel
theorem dX12_readKind_6 : decode cX12_readKind 6 = .ok (.imul, 1) := by decide +kernel
theorem dX12_readKind_7 : decode cX12_readKind 7 = .ok (.aload_n 0, 1) := by decide +kernel
theorem dX12_readKind_8 : decode cX12_readKind 8 = .ok (.getfield 478, 3) := by decide +kernel
theorem dX12_readKind_11 : decode cX12_readKind 11 = .ok (.iadd, 1) := by decide +kernel
theorem dX12_readKind_12 : decode cX12_readKind 12 = .ok (.istore_n 1, 1) := by decide +kernel
theorem dX12_readKind_13 : decode cX12_readKind 13 = .ok (.aload_n 0, 1) := by decide +kernel
theorem dX12_readKind_14 : decode cX12_readKind 14 = .ok (.iconst 5, 1) := by decide +kernel
theorem dX12_readKind_15 : decode cX12_readKind 15 = .ok (.aload_n 0, 1) := by decide +kernel
theorem dX12_readKind_16 : decode cX12_readKind 16 = .ok (.getfield 478, 3) := by decide +kernel
theorem dX12_readKind_19 : decode cX12_readKind 19 = .ok (.invokevirtual 442, 3) := by decide +kernel
theorem dX12_readKind_22 : decode cX12_readKind 22 = .ok (.aload_n 0, 1) := by decide +kernel
theorem dX12_readKind_23 : decode cX12_readKind 23 = .ok (.invokevirtual 115, 3) := by decide +kernel
theorem dX12_readKind_26 : decode cX12_readKind 26 = .ok (.ifCond .ne 4, 3) := by decide +kernel
theorem dX12_readKind_29 : decode cX12_readKind 29 = .ok (.return_, 1) := by decide +kernel
theorem dX12_readKind_30 : decode cX12_readKind 30 = .ok (.aload_n 0, 1) := by decide +kernel
theorem dX12_readKind_31 : decode cX12_readKind 31 = .ok (.getfield 196, 3) := by decide +kernel
theorem dX12_readKind_34 : decode cX12_readKind 34 = .ok (.iload_n 1, 1) := by decide +kernel
theorem dX12_readKind_35 : decode cX12_readKind 35 = .ok (.iconst (-1), 1) := by decide +kernel
theorem dX12_readKind_36 : decode cX12_readKind 36 = .ok (.iastore, 1) := by decide +kernel
theorem dX12_readKind_37 : decode cX12_readKind 37 = .ok (.aload_n 0, 1) := by decide +kernel
theorem dX12_readKind_38 : decode cX12_readKind 38 = .ok (.getfield 199, 3) := by decide +kernel
theorem dX12_readKind_41 : decode cX12_readKind 41 = .ok (.iload_n 1, 1) := by decide +kernel
theorem dX12_readKind_42 : decode cX12_readKind 42 = .ok (.aload_n 0, 1) := by decide +kernel
theorem dX12_readKind_43 : decode cX12_readKind 43 = .ok (.getfield 481, 3) := by decide +kernel
theorem dX12_readKind_46 : decode cX12_readKind 46 = .ok (.iastore, 1) := by decide +kernel
theorem dX12_readKind_47 : decode cX12_readKind 47 = .ok (.aload_n 0, 1) := by decide +kernel
theorem dX12_readKind_48 : decode cX12_readKind 48 = .ok (.getfield 202, 3) := by decide +kernel
theorem dX12_readKind_51 : decode cX12_readKind 51 = .ok (.iload_n 1, 1) := by decide +kernel
theorem dX12_readKind_52 : decode cX12_readKind 52 = .ok (.iconst 0, 1) := by decide +kernel
theorem dX12_readKind_53 : decode cX12_readKind 53 = .ok (.iastore, 1) := by decide +kernel
theorem dX12_readKind_54 : decode cX12_readKind 54 = .ok (.aload_n 0, 1) := by decide +kernel
theorem dX12_readKind_55 : decode cX12_readKind 55 = .ok (.getfield 205, 3) := by decide +kernel
theorem dX12_readKind_58 : decode cX12_readKind 58 = .ok (.iload_n 1, 1) := by decide +kernel
theorem dX12_readKind_59 : decode cX12_readKind 59 = .ok (.iconst 0, 1) := by decide +kernel
theorem dX12_readKind_60 : decode cX12_readKind 60 = .ok (.iastore, 1) := by decide +kernel
theorem dX12_readKind_61 : decode cX12_readKind 61 = .ok (.aload_n 0, 1) := by decide +kernel
theorem dX12_readKind_62 : decode cX12_readKind 62 = .ok (.getfield 214, 3) := by decide +kernel
theorem dX12_readKind_65 : decode cX12_readKind 65 = .ok (.iload_n 1, 1) := by decide +kernel
theorem dX12_readKind_66 : decode cX12_readKind 66 = .ok (.iconst 0, 1) := by decide +kernel
theorem dX12_readKind_67 : decode cX12_readKind 67 = .ok (.iastore, 1) := by decide +kernel
theorem dX12_readKind_68 : decode cX12_readKind 68 = .ok (.aload_n 0, 1) := by decide +kernel
theorem dX12_readKind_69 : decode cX12_readKind 69 = .ok (.ldc2_w 32, 3) := by decide +kernel
theorem dX12_readKind_72 : decode cX12_readKind 72 = .ok (.invokevirtual 465, 3) := by decide +kernel
theorem dX12_readKind_75 : decode cX12_readKind 75 = .ok (.ifCond .eq 85, 3) := by decide +kernel
theorem dX12_readKind_78 : decode cX12_readKind 78 = .ok (.aload_n 0, 1) := by decide +kernel
theorem dX12_readKind_79 : decode cX12_readKind 79 = .ok (.invokevirtual 105, 3) := by decide +kernel
theorem dX12_readKind_82 : decode cX12_readKind 82 = .ok (.aload_n 0, 1) := by decide +kernel
theorem dX12_readKind_83 : decode cX12_readKind 83 = .ok (.getfield 66, 3) := by decide +kernel
theorem dX12_readKind_86 : decode cX12_readKind 86 = .ok (.iconst 2, 1) := by decide +kernel
theorem dX12_readKind_87 : decode cX12_readKind 87 = .ok (.if_icmp .ne 14, 3) := by decide +kernel
theorem dX12_readKind_90 : decode cX12_readKind 90 = .ok (.aload_n 0, 1) := by decide +kernel
theorem dX12_readKind_91 : decode cX12_readKind 91 = .ok (.aload_n 0, 1) := by decide +kernel
theorem dX12_readKind_92 : decode cX12_readKind 92 = .ok (.getfield 76, 3) := by decide +kernel
theorem dX12_readKind_95 : decode cX12_readKind 95 = .ok (.invokevirtual 119, 3) := by decide +kernel
theorem dX12_readKind_98 : decode cX12_readKind 98 = .ok (.goto 4, 3) := by decide +kernel
theorem dX12_readKind_101 : decode cX12_readKind 101 = .ok (.iconst (-1), 1) := by decide +kernel
theorem dX12_readKind_102 : decode cX12_readKind 102 = .ok (.istore_n 2, 1) := by decide +kernel
theorem dX12_readKind_103 : decode cX12_readKind 103 = .ok (.iload_n 2, 1) := by decide +kernel
theorem dX12_readKind_104 : decode cX12_readKind 104 = .ok (.ifCond .lt 45, 3) := by decide +kernel
theorem dX12_readKind_107 : decode cX12_readKind 107 = .ok (.aload_n 0, 1) := by decide +kernel
theorem dX12_readKind_108 : decode cX12_readKind 108 = .ok (.getfield 138, 3) := by decide +kernel
theorem dX12_readKind_111 : decode cX12_readKind 111 = .ok (.iload_n 2, 1) := by decide +kernel
theorem dX12_readKind_112 : decode cX12_readKind 112 = .ok (.iaload, 1) := by decide +kernel
theorem dX12_readKind_113 : decode cX12_readKind 113 = .ok (.iconst 5, 1) := by decide +kernel
theorem dX12_readKind_114 : decode cX12_readKind 114 = .ok (.if_icmp .ne 35, 3) := by decide +kernel
theorem dX12_readKind_117 : decode cX12_readKind 117 = .ok (.aload_n 0, 1) := by decide +kernel
theorem dX12_readKind_118 : decode cX12_readKind 118 = .ok (.getfield 142, 3) := by decide +kernel
theorem dX12_readKind_121 : decode cX12_readKind 121 = .ok (.iload_n 2, 1) := by decide +kernel
theorem dX12_readKind_122 : decode cX12_readKind 122 = .ok (.iaload, 1) := by decide +kernel
theorem dX12_readKind_123 : decode cX12_readKind 123 = .ok (.aload_n 0, 1) := by decide +kernel
theorem dX12_readKind_124 : decode cX12_readKind 124 = .ok (.getfield 478, 3) := by decide +kernel
theorem dX12_readKind_127 : decode cX12_readKind 127 = .ok (.if_icmp .ge 22, 3) := by decide +kernel
theorem dX12_readKind_130 : decode cX12_readKind 130 = .ok (.aload_n 0, 1) := by decide +kernel
theorem dX12_readKind_131 : decode cX12_readKind 131 = .ok (.iload_n 1, 1) := by decide +kernel
theorem dX12_readKind_132 : decode cX12_readKind 132 = .ok (.bipush 16, 2) := by decide +kernel
theorem dX12_readKind_134 : decode cX12_readKind 134 = .ok (.aload_n 0, 1) := by decide +kernel
theorem dX12_readKind_135 : decode cX12_readKind 135 = .ok (.getfield 11, 3) := by decide +kernel
theorem dX12_readKind_138 : decode cX12_readKind 138 = .ok (.imul, 1) := by decide +kernel
theorem dX12_readKind_139 : decode cX12_readKind 139 = .ok (.aload_n 0, 1) := by decide +kernel
theorem dX12_readKind_140 : decode cX12_readKind 140 = .ok (.getfield 142, 3) := by decide +kernel
theorem dX12_readKind_143 : decode cX12_readKind 143 = .ok (.iload_n 2, 1) := by decide +kernel
theorem dX12_readKind_144 : decode cX12_readKind 144 = .ok (.iaload, 1) := by decide +kernel
theorem dX12_readKind_145 : decode cX12_readKind 145 = .ok (.iadd, 1) := by decide +kernel
theorem dX12_readKind_146 : decode cX12_readKind 146 = .ok (.invokevirtual 484, 3) := by decide +kernel
theorem dX12_readKind_149 : decode cX12_readKind 149 = .ok (.aload_n 0, 1) := by decide +kernel
theorem dX12_readKind_150 : decode cX12_readKind 150 = .ok (.iconst 5, 1) := by decide +kernel
theorem dX12_readKind_151 : decode cX12_readKind 151 = .ok (.aload_n 0, 1) := by decide +kernel
theorem dX12_readKind_152 : decode cX12_readKind 152 = .ok (.getfield 478, 3) := by decide +kernel
theorem dX12_readKind_155 : decode cX12_readKind 155 = .ok (.iconst 2, 1) := by decide +kernel
theorem dX12_readKind_156 : decode cX12_readKind 156 = .ok (.iload_n 1, 1) := by decide +kernel
theorem dX12_readKind_157 : decode cX12_readKind 157 = .ok (.invokevirtual 421, 3) := by decide +kernel
theorem dX12_readKind_160 : decode cX12_readKind 160 = .ok (.aload_n 0, 1) := by decide +kernel
theorem dX12_readKind_161 : decode cX12_readKind 161 = .ok (.dup, 1) := by decide +kernel
theorem dX12_readKind_162 : decode cX12_readKind 162 = .ok (.getfield 478, 3) := by decide +kernel
theorem dX12_readKind_165 : decode cX12_readKind 165 = .ok (.iconst 1, 1) := by decide +kernel
theorem dX12_readKind_166 : decode cX12_readKind 166 = .ok (.iadd, 1) := by decide +kernel
theorem dX12_readKind_167 : decode cX12_readKind 167 = .ok (.putfield 478, 3) := by decide +kernel
theorem dX12_readKind_170 : decode cX12_readKind 170 = .ok (.aload_n 0, 1) := by decide +kernel
theorem dX12_readKind_171 : decode cX12_readKind 171 = .ok (.invokevirtual 115, 3) := by decide +kernel
theorem dX12_readKind_174 : decode cX12_readKind 174 = .ok (.ifCond .eq 9, 3) := by decide +kernel
theorem dX12_readKind_177 : decode cX12_readKind 177 = .ok (.aload_n 0, 1) := by decide +kernel
theorem dX12_readKind_178 : decode cX12_readKind 178 = .ok (.bipush 123, 2) := by decide +kernel
theorem dX12_readKind_180 : decode cX12_readKind 180 = .ok (.invokevirtual 429, 3) := by decide +kernel
theorem dX12_readKind_183 : decode cX12_readKind 183 = .ok (.aload_n 0, 1) := by decide +kernel
theorem dX12_readKind_184 : decode cX12_readKind 184 = .ok (.invokevirtual 115, 3) := by decide +kernel
theorem dX12_readKind_187 : decode cX12_readKind 187 = .ok (.ifCond .eq 37, 3) := by decide +kernel
theorem dX12_readKind_190 : decode cX12_readKind 190 = .ok (.aload_n 0, 1) := by decide +kernel
theorem dX12_readKind_191 : decode cX12_readKind 191 = .ok (.bipush 125, 2) := by decide +kernel
theorem dX12_readKind_193 : decode cX12_readKind 193 = .ok (.invokevirtual 98, 3) := by decide +kernel
theorem dX12_readKind_196 : decode cX12_readKind 196 = .ok (.ifCond .ne 28, 3) := by decide +kernel
theorem dX12_readKind_199 : decode cX12_readKind 199 = .ok (.aload_n 0, 1) := by decide +kernel
theorem dX12_readKind_200 : decode cX12_readKind 200 = .ok (.bipush 42, 2) := by decide +kernel
theorem dX12_readKind_202 : decode cX12_readKind 202 = .ok (.invokevirtual 98, 3) := by decide +kernel
theorem dX12_readKind_205 : decode cX12_readKind 205 = .ok (.ifCond .eq 11, 3) := by decide +kernel
theorem dX12_readKind_208 : decode cX12_readKind 208 = .ok (.aload_n 0, 1) := by decide +kernel
theorem dX12_readKind_209 : decode cX12_readKind 209 = .ok (.iload_n 1, 1) := by decide +kernel
theorem dX12_readKind_210 : decode cX12_readKind 210 = .ok (.invokevirtual 487, 3) := by decide +kernel
theorem dX12_readKind_213 : decode cX12_readKind 213 = .ok (.goto (-30), 3) := by decide +kernel
theorem dX12_readKind_216 : decode cX12_readKind 216 = .ok (.aload_n 0, 1) := by decide +kernel
theorem dX12_readKind_217 : decode cX12_readKind 217 = .ok (.iload_n 1, 1) := by decide +kernel
theorem dX12_readKind_218 : decode cX12_readKind 218 = .ok (.invokevirtual 490, 3) := by decide +kernel
theorem dX12_readKind_221 : decode cX12_readKind 221 = .ok (.goto (-38), 3) := by decide +kernel
theorem dX12_readKind_224 : decode cX12_readKind 224 = .ok (.aload_n 0, 1) := by decide +kernel
theorem dX12_readKind_225 : decode cX12_readKind 225 = .ok (.invokevirtual 115, 3) := by decide +kernel
theorem dX12_readKind_228 : decode cX12_readKind 228 = .ok (.ifCond .eq 7, 3) := by decide +kernel
theorem dX12_readKind_231 : decode cX12_readKind 231 = .ok (.aload_n 0, 1) := by decide +kernel
theorem dX12_readKind_232 : decode cX12_readKind 232 = .ok (.invokevirtual 105, 3) := by decide +kernel
theorem dX12_readKind_235 : decode cX12_readKind 235 = .ok (.return_, 1) := by decide +kernel
theorem dX12_above_0 : decode cX12_above 0 = .ok (.aload_n 0, 1) := by decide +kernel
theorem dX12_above_1 : decode cX12_above 1 = .ok (.getfield 196, 3) := by decide +kernel
theorem dX12_above_4 : decode cX12_above 4 = .ok (.iload_n 1, 1) := by decide +kernel
theorem dX12_above_5 : decode cX12_above 5 = .ok (.iload_n 2, 1) := by decide +kernel
theorem dX12_above_6 : decode cX12_above 6 = .ok (.bipush 16, 2) := by decide +kernel
theorem dX12_above_8 : decode cX12_above 8 = .ok (.aload_n 0, 1) := by decide +kernel
theorem dX12_above_9 : decode cX12_above 9 = .ok (.getfield 11, 3) := by decide +kernel
theorem dX12_above_12 : decode cX12_above 12 = .ok (.imul, 1) := by decide +kernel
theorem dX12_above_13 : decode cX12_above 13 = .ok (.isub, 1) := by decide +kernel
theorem dX12_above_14 : decode cX12_above 14 = .ok (.iastore, 1) := by decide +kernel
theorem dX12_above_15 : decode cX12_above 15 = .ok (.aload_n 0, 1) := by decide +kernel
theorem dX12_above_16 : decode cX12_above 16 = .ok (.getfield 205, 3) := by decide +kernel
theorem dX12_above_19 : decode cX12_above 19 = .ok (.iload_n 1, 1) := by decide +kernel
theorem dX12_above_20 : decode cX12_above 20 = .ok (.aload_n 0, 1) := by decide +kernel
theorem dX12_above_21 : decode cX12_above 21 = .ok (.getfield 205, 3) := by decide +kernel
theorem dX12_above_24 : decode cX12_above 24 = .ok (.iload_n 2, 1) := by decide +kernel
theorem dX12_above_25 : decode cX12_above 25 = .ok (.iaload, 1) := by decide +kernel
theorem dX12_above_26 : decode cX12_above 26 = .ok (.iastore, 1) := by decide +kernel
theorem dX12_above_27 : decode cX12_above 27 = .ok (.iconst 0, 1) := by decide +kernel
theorem dX12_above_28 : decode cX12_above 28 = .ok (.istore_n 3, 1) := by decide +kernel
theorem dX12_above_29 : decode cX12_above 29 = .ok (.iload_n 3, 1) := by decide +kernel
theorem dX12_above_30 : decode cX12_above 30 = .ok (.aload_n 0, 1) := by decide +kernel
theorem dX12_above_31 : decode cX12_above 31 = .ok (.getfield 205, 3) := by decide +kernel
theorem dX12_above_34 : decode cX12_above 34 = .ok (.iload_n 2, 1) := by decide +kernel
theorem dX12_above_35 : decode cX12_above 35 = .ok (.iaload, 1) := by decide +kernel
theorem dX12_above_36 : decode cX12_above 36 = .ok (.if_icmp .ge 31, 3) := by decide +kernel
theorem dX12_above_39 : decode cX12_above 39 = .ok (.aload_n 0, 1) := by decide +kernel
theorem dX12_above_40 : decode cX12_above 40 = .ok (.getfield 208, 3) := by decide +kernel
theorem dX12_above_43 : decode cX12_above 43 = .ok (.bipush 12, 2) := by decide +kernel
theorem dX12_above_45 : decode cX12_above 45 = .ok (.iload_n 1, 1) := by decide +kernel
theorem dX12_above_46 : decode cX12_above 46 = .ok (.imul, 1) := by decide +kernel
theorem dX12_above_47 : decode cX12_above 47 = .ok (.iload_n 3, 1) := by decide +kernel
theorem dX12_above_48 : decode cX12_above 48 = .ok (.iadd, 1) := by decide +kernel
theorem dX12_above_49 : decode cX12_above 49 = .ok (.aload_n 0, 1) := by decide +kernel
theorem dX12_above_50 : decode cX12_above 50 = .ok (.getfield 208, 3) := by decide +kernel
theorem dX12_above_53 : decode cX12_above 53 = .ok (.bipush 12, 2) := by decide +kernel
theorem dX12_above_55 : decode cX12_above 55 = .ok (.iload_n 2, 1) := by decide +kernel
theorem dX12_above_56 : decode cX12_above 56 = .ok (.imul, 1) := by decide +kernel
theorem dX12_above_57 : decode cX12_above 57 = .ok (.iload_n 3, 1) := by decide +kernel
theorem dX12_above_58 : decode cX12_above 58 = .ok (.iadd, 1) := by decide +kernel
theorem dX12_above_59 : decode cX12_above 59 = .ok (.iaload, 1) := by decide +kernel
theorem dX12_above_60 : decode cX12_above 60 = .ok (.iastore, 1) := by decide +kernel
theorem dX12_above_61 : decode cX12_above 61 = .ok (.iinc 3 1, 3) := by decide +kernel
theorem dX12_above_64 : decode cX12_above 64 = .ok (.goto (-35), 3) := by decide +kernel
theorem dX12_above_67 : decode cX12_above 67 = .ok (.return_, 1) := by decide +kernel
theorem dX12_readStar_0 : decode cX12_readStar 0 = .ok (.aload_n 0, 1) := by decide +kernel
theorem dX12_readStar_1 : decode cX12_readStar 1 = .ok (.invokevirtual 105, 3) := by decide +kernel
theorem dX12_readStar_4 : decode cX12_readStar 4 = .ok (.aload_n 0, 1) := by decide +kernel
theorem dX12_readStar_5 : decode cX12_readStar 5 = .ok (.bipush 61, 2) := by decide +kernel
theorem dX12_readStar_7 : decode cX12_readStar 7 = .ok (.invokevirtual 429, 3) := by decide +kernel
theorem dX12_readStar_10 : decode cX12_readStar 10 = .ok (.aload_n 0, 1) := by decide +kernel
theorem dX12_readStar_11 : decode cX12_readStar 11 = .ok (.invokevirtual 115, 3) := by decide +kernel
theorem dX12_readStar_14 : decode cX12_readStar 14 = .ok (.ifCond .ne 4, 3) := by decide +kernel
theorem dX12_readStar_17 : decode cX12_readStar 17 = .ok (.return_, 1) := by decide +kernel
theorem dX12_readStar_18 : decode cX12_readStar 18 = .ok (.sipush 1600, 3) := by decide +kernel
theorem dX12_readStar_21 : decode cX12_readStar 21 = .ok (.aload_n 0, 1) := by decide +kernel
theorem dX12_readStar_22 : decode cX12_readStar 22 = .ok (.getfield 11, 3) := by decide +kernel
theorem dX12_readStar_25 : decode cX12_readStar 25 = .ok (.imul, 1) := by decide +kernel
theorem dX12_readStar_26 : decode cX12_readStar 26 = .ok (.aload_n 0, 1) := by decide +kernel
theorem dX12_readStar_27 : decode cX12_readStar 27 = .ok (.getfield 418, 3) := by decide +kernel
theorem dX12_readStar_30 : decode cX12_readStar 30 = .ok (.iadd, 1) := by decide +kernel
theorem dX12_readStar_31 : decode cX12_readStar 31 = .ok (.istore_n 2, 1) := by decide +kernel
theorem dX12_readStar_32 : decode cX12_readStar 32 = .ok (.aload_n 0, 1) := by decide +kernel
theorem dX12_readStar_33 : decode cX12_readStar 33 = .ok (.aload_n 0, 1) := by decide +kernel
theorem dX12_readStar_34 : decode cX12_readStar 34 = .ok (.getfield 214, 3) := by decide +kernel
theorem dX12_readStar_37 : decode cX12_readStar 37 = .ok (.iload_n 1, 1) := by decide +kernel
theorem dX12_readStar_38 : decode cX12_readStar 38 = .ok (.iaload, 1) := by decide +kernel
theorem dX12_readStar_39 : decode cX12_readStar 39 = .ok (.invokevirtual 475, 3) := by decide +kernel
theorem dX12_readStar_42 : decode cX12_readStar 42 = .ok (.istore_n 3, 1) := by decide +kernel
theorem dX12_readStar_43 : decode cX12_readStar 43 = .ok (.iconst 0, 1) := by decide +kernel
theorem dX12_readStar_44 : decode cX12_readStar 44 = .ok (.istore 4, 2) := by decide +kernel
theorem dX12_readStar_46 : decode cX12_readStar 46 = .ok (.iload 4, 2) := by decide +kernel
theorem dX12_readStar_48 : decode cX12_readStar 48 = .ok (.iload_n 3, 1) := by decide +kernel
theorem dX12_readStar_49 : decode cX12_readStar 49 = .ok (.if_icmp .ge 50, 3) := by decide +kernel
theorem dX12_readStar_52 : decode cX12_readStar 52 = .ok (.aload_n 0, 1) := by decide +kernel
theorem dX12_readStar_53 : decode cX12_readStar 53 = .ok (.getfield 214, 3) := by decide +kernel
theorem dX12_readStar_56 : decode cX12_readStar 56 = .ok (.iload_n 1, 1) := by decide +kernel
theorem dX12_readStar_57 : decode cX12_readStar 57 = .ok (.iaload, 1) := by decide +kernel
theorem dX12_readStar_58 : decode cX12_readStar 58 = .ok (.bipush 8, 2) := by decide +kernel
theorem dX12_readStar_60 : decode cX12_readStar 60 = .ok (.if_icmp .ge 39, 3) := by decide +kernel
theorem dX12_readStar_63 : decode cX12_readStar 63 = .ok (.aload_n 0, 1) := by decide +kernel
theorem dX12_readStar_64 : decode cX12_readStar 64 = .ok (.getfield 211, 3) := by decide +kernel
theorem dX12_readStar_67 : decode cX12_readStar 67 = .ok (.bipush 8, 2) := by decide +kernel
theorem dX12_readStar_69 : decode cX12_readStar 69 = .ok (.iload_n 1, 1) := by decide +kernel
theorem dX12_readStar_70 : decode cX12_readStar 70 = .ok (.imul, 1) := by decide +kernel
theorem dX12_readStar_71 : decode cX12_readStar 71 = .ok (.aload_n 0, 1) := by decide +kernel
theorem dX12_readStar_72 : decode cX12_readStar 72 = .ok (.getfield 214, 3) := by decide +kernel
theorem dX12_readStar_75 : decode cX12_readStar 75 = .ok (.iload_n 1, 1) := by decide +kernel
theorem dX12_readStar_76 : decode cX12_readStar 76 = .ok (.iaload, 1) := by decide +kernel
theorem dX12_readStar_77 : decode cX12_readStar 77 = .ok (.iadd, 1) := by decide +kernel
theorem dX12_readStar_78 : decode cX12_readStar 78 = .ok (.iload_n 2, 1) := by decide +kernel
theorem dX12_readStar_79 : decode cX12_readStar 79 = .ok (.iload 4, 2) := by decide +kernel
theorem dX12_readStar_81 : decode cX12_readStar 81 = .ok (.iadd, 1) := by decide +kernel
theorem dX12_readStar_82 : decode cX12_readStar 82 = .ok (.iastore, 1) := by decide +kernel
theorem dX12_readStar_83 : decode cX12_readStar 83 = .ok (.aload_n 0, 1) := by decide +kernel
theorem dX12_readStar_84 : decode cX12_readStar 84 = .ok (.getfield 214, 3) := by decide +kernel
theorem dX12_readStar_87 : decode cX12_readStar 87 = .ok (.iload_n 1, 1) := by decide +kernel
theorem dX12_readStar_88 : decode cX12_readStar 88 = .ok (.dup2, 1) := by decide +kernel
theorem dX12_readStar_89 : decode cX12_readStar 89 = .ok (.iaload, 1) := by decide +kernel
theorem dX12_readStar_90 : decode cX12_readStar 90 = .ok (.iconst 1, 1) := by decide +kernel
theorem dX12_readStar_91 : decode cX12_readStar 91 = .ok (.iadd, 1) := by decide +kernel
theorem dX12_readStar_92 : decode cX12_readStar 92 = .ok (.iastore, 1) := by decide +kernel
theorem dX12_readStar_93 : decode cX12_readStar 93 = .ok (.iinc 4 1, 3) := by decide +kernel
theorem dX12_readStar_96 : decode cX12_readStar 96 = .ok (.goto (-50), 3) := by decide +kernel
theorem dX12_readStar_99 : decode cX12_readStar 99 = .ok (.return_, 1) := by decide +kernel
theorem dX12_memberOf_0 : decode cX12_memberOf 0 = .ok (.iconst 0, 1) := by decide +kernel
theorem dX12_memberOf_1 : decode cX12_memberOf 1 = .ok (.istore 4, 2) := by decide +kernel
theorem dX12_memberOf_3 : decode cX12_memberOf 3 = .ok (.iload 4, 2) := by decide +kernel
theorem dX12_memberOf_5 : decode cX12_memberOf 5 = .ok (.aload_n 0, 1) := by decide +kernel
theorem dX12_memberOf_6 : decode cX12_memberOf 6 = .ok (.getfield 205, 3) := by decide +kernel
theorem dX12_memberOf_9 : decode cX12_memberOf 9 = .ok (.iload_n 1, 1) := by decide +kernel
theorem dX12_memberOf_10 : decode cX12_memberOf 10 = .ok (.iaload, 1) := by decide +kernel
theorem dX12_memberOf_11 : decode cX12_memberOf 11 = .ok (.if_icmp .ge 34, 3) := by decide +kernel
theorem dX12_memberOf_14 : decode cX12_memberOf 14 = .ok (.aload_n 0, 1) := by decide +kernel
theorem dX12_memberOf_15 : decode cX12_memberOf 15 = .ok (.getfield 217, 3) := by decide +kernel
theorem dX12_memberOf_18 : decode cX12_memberOf 18 = .ok (.aload_n 0, 1) := by decide +kernel
theorem dX12_memberOf_19 : decode cX12_memberOf 19 = .ok (.getfield 208, 3) := by decide +kernel
theorem dX12_memberOf_22 : decode cX12_memberOf 22 = .ok (.bipush 12, 2) := by decide +kernel
theorem dX12_memberOf_24 : decode cX12_memberOf 24 = .ok (.iload_n 1, 1) := by decide +kernel
theorem dX12_memberOf_25 : decode cX12_memberOf 25 = .ok (.imul, 1) := by decide +kernel
theorem dX12_memberOf_26 : decode cX12_memberOf 26 = .ok (.iload 4, 2) := by decide +kernel
theorem dX12_memberOf_28 : decode cX12_memberOf 28 = .ok (.iadd, 1) := by decide +kernel
theorem dX12_memberOf_29 : decode cX12_memberOf 29 = .ok (.iaload, 1) := by decide +kernel
theorem dX12_memberOf_30 : decode cX12_memberOf 30 = .ok (.laload, 1) := by decide +kernel
theorem dX12_memberOf_31 : decode cX12_memberOf 31 = .ok (.lload_n 2, 1) := by decide +kernel
theorem dX12_memberOf_32 : decode cX12_memberOf 32 = .ok (.lcmp, 1) := by decide +kernel
theorem dX12_memberOf_33 : decode cX12_memberOf 33 = .ok (.ifCond .ne 6, 3) := by decide +kernel
theorem dX12_memberOf_36 : decode cX12_memberOf 36 = .ok (.iload 4, 2) := by decide +kernel
theorem dX12_memberOf_38 : decode cX12_memberOf 38 = .ok (.ireturn, 1) := by decide +kernel
theorem dX12_memberOf_39 : decode cX12_memberOf 39 = .ok (.iinc 4 1, 3) := by decide +kernel
theorem dX12_memberOf_42 : decode cX12_memberOf 42 = .ok (.goto (-39), 3) := by decide +kernel
theorem dX12_memberOf_45 : decode cX12_memberOf 45 = .ok (.iconst (-1), 1) := by decide +kernel
theorem dX12_memberOf_46 : decode cX12_memberOf 46 = .ok (.ireturn, 1) := by decide +kernel
theorem dX12_readMember_0 : decode cX12_readMember 0 = .ok (.aload_n 0, 1) := by decide +kernel
theorem dX12_readMember_1 : decode cX12_readMember 1 = .ok (.getfield 66, 3) := by decide +kernel
theorem dX12_readMember_4 : decode cX12_readMember 4 = .ok (.iconst 2, 1) := by decide +kernel
theorem dX12_readMember_5 : decode cX12_readMember 5 = .ok (.if_icmp .ne 14, 3) := by decide +kernel
theorem dX12_readMember_8 : decode cX12_readMember 8 = .ok (.aload_n 0, 1) := by decide +kernel
theorem dX12_readMember_9 : decode cX12_readMember 9 = .ok (.getfield 205, 3) := by decide +kernel
theorem dX12_readMember_12 : decode cX12_readMember 12 = .ok (.iload_n 1, 1) := by decide +kernel
theorem dX12_readMember_13 : decode cX12_readMember 13 = .ok (.iaload, 1) := by decide +kernel
theorem dX12_readMember_14 : decode cX12_readMember 14 = .ok (.bipush 12, 2) := by decide +kernel
theorem dX12_readMember_16 : decode cX12_readMember 16 = .ok (.if_icmp .ne 7, 3) := by decide +kernel
theorem dX12_readMember_19 : decode cX12_readMember 19 = .ok (.aload_n 0, 1) := by decide +kernel
theorem dX12_readMember_20 : decode cX12_readMember 20 = .ok (.invokevirtual 432, 3) := by decide +kernel
theorem dX12_readMember_23 : decode cX12_readMember 23 = .ok (.aload_n 0, 1) := by decide +kernel
theorem dX12_readMember_24 : decode cX12_readMember 24 = .ok (.invokevirtual 115, 3) := by decide +kernel
theorem dX12_readMember_27 : decode cX12_readMember 27 = .ok (.ifCond .eq 25, 3) := by decide +kernel
theorem dX12_readMember_30 : decode cX12_readMember 30 = .ok (.aload_n 0, 1) := by decide +kernel
theorem dX12_readMember_31 : decode cX12_readMember 31 = .ok (.iload_n 1, 1) := by decide +kernel
theorem dX12_readMember_32 : decode cX12_readMember 32 = .ok (.aload_n 0, 1) := by decide +kernel
theorem dX12_readMember_33 : decode cX12_readMember 33 = .ok (.getfield 76, 3) := by decide +kernel
theorem dX12_readMember_36 : decode cX12_readMember 36 = .ok (.invokevirtual 493, 3) := by decide +kernel
theorem dX12_readMember_39 : decode cX12_readMember 39 = .ok (.ifCond .lt 13, 3) := by decide +kernel
theorem dX12_readMember_42 : decode cX12_readMember 42 = .ok (.aload_n 0, 1) := by decide +kernel
theorem dX12_readMember_43 : decode cX12_readMember 43 = .ok (.iconst 3, 1) := by decide +kernel
theorem dX12_readMember_44 : decode cX12_readMember 44 = .ok (.aload_n 0, 1) := by decide +kernel
theorem dX12_readMember_45 : decode cX12_readMember 45 = .ok (.getfield 59, 3) := by decide +kernel
theorem dX12_readMember_48 : decode cX12_readMember 48 = .ok (.invokevirtual 94, 3) := by decide +kernel
theorem dX12_readMember_51 : decode cX12_readMember 51 = .ok (.pop, 1) := by decide +kernel
theorem dX12_readMember_52 : decode cX12_readMember 52 = .ok (.aload_n 0, 1) := by decide +kernel
theorem dX12_readMember_53 : decode cX12_readMember 53 = .ok (.invokevirtual 115, 3) := by decide +kernel
theorem dX12_readMember_56 : decode cX12_readMember 56 = .ok (.ifCond .ne 4, 3) := by decide +kernel
theorem dX12_readMember_59 : decode cX12_readMember 59 = .ok (.return_, 1) := by decide +kernel
theorem dX12_readMember_60 : decode cX12_readMember 60 = .ok (.sipush 200, 3) := by decide +kernel
theorem dX12_readMember_63 : decode cX12_readMember 63 = .ok (.aload_n 0, 1) := by decide +kernel
theorem dX12_readMember_64 : decode cX12_readMember 64 = .ok (.getfield 11, 3) := by decide +kernel
theorem dX12_readMember_67 : decode cX12_readMember 67 = .ok (.imul, 1) := by decide +kernel
theorem dX12_readMember_68 : decode cX12_readMember 68 = .ok (.aload_n 0, 1) := by decide +kernel
theorem dX12_readMember_69 : decode cX12_readMember 69 = .ok (.getfield 481, 3) := by decide +kernel
theorem dX12_readMember_72 : decode cX12_readMember 72 = .ok (.iadd, 1) := by decide +kernel
theorem dX12_readMember_73 : decode cX12_readMember 73 = .ok (.istore_n 2, 1) := by decide +kernel
theorem dX12_readMember_74 : decode cX12_readMember 74 = .ok (.aload_n 0, 1) := by decide +kernel
theorem dX12_readMember_75 : decode cX12_readMember 75 = .ok (.dup, 1) := by decide +kernel
theorem dX12_readMember_76 : decode cX12_readMember 76 = .ok (.getfield 481, 3) := by decide +kernel
theorem dX12_readMember_79 : decode cX12_readMember 79 = .ok (.iconst 1, 1) := by decide +kernel
theorem dX12_readMember_80 : decode cX12_readMember 80 = .ok (.iadd, 1) := by decide +kernel
theorem dX12_readMember_81 : decode cX12_readMember 81 = .ok (.putfield 481, 3) := by decide +kernel
theorem dX12_readMember_84 : decode cX12_readMember 84 = .ok (.aload_n 0, 1) := by decide +kernel
theorem dX12_readMember_85 : decode cX12_readMember 85 = .ok (.getfield 217, 3) := by decide +kernel
theorem dX12_readMember_88 : decode cX12_readMember 88 = .ok (.iload_n 2, 1) := by decide +kernel
theorem dX12_readMember_89 : decode cX12_readMember 89 = .ok (.aload_n 0, 1) := by decide +kernel
theorem dX12_readMember_90 : decode cX12_readMember 90 = .ok (.getfield 76, 3) := by decide +kernel
theorem dX12_readMember_93 : decode cX12_readMember 93 = .ok (.lastore, 1) := by decide +kernel
theorem dX12_readMember_94 : decode cX12_readMember 94 = .ok (.aload_n 0, 1) := by decide +kernel
theorem dX12_readMember_95 : decode cX12_readMember 95 = .ok (.getfield 208, 3) := by decide +kernel
theorem dX12_readMember_98 : decode cX12_readMember 98 = .ok (.bipush 12, 2) := by decide +kernel
theorem dX12_readMember_100 : decode cX12_readMember 100 = .ok (.iload_n 1, 1) := by decide +kernel
theorem dX12_readMember_101 : decode cX12_readMember 101 = .ok (.imul, 1) := by decide +kernel
theorem dX12_readMember_102 : decode cX12_readMember 102 = .ok (.aload_n 0, 1) := by decide +kernel
theorem dX12_readMember_103 : decode cX12_readMember 103 = .ok (.getfield 205, 3) := by decide +kernel
theorem dX12_readMember_106 : decode cX12_readMember 106 = .ok (.iload_n 1, 1) := by decide +kernel
theorem dX12_readMember_107 : decode cX12_readMember 107 = .ok (.iaload, 1) := by decide +kernel
theorem dX12_readMember_108 : decode cX12_readMember 108 = .ok (.iadd, 1) := by decide +kernel
theorem dX12_readMember_109 : decode cX12_readMember 109 = .ok (.iload_n 2, 1) := by decide +kernel
theorem dX12_readMember_110 : decode cX12_readMember 110 = .ok (.iastore, 1) := by decide +kernel
theorem dX12_readMember_111 : decode cX12_readMember 111 = .ok (.aload_n 0, 1) := by decide +kernel
theorem dX12_readMember_112 : decode cX12_readMember 112 = .ok (.getfield 205, 3) := by decide +kernel
theorem dX12_readMember_115 : decode cX12_readMember 115 = .ok (.iload_n 1, 1) := by decide +kernel
theorem dX12_readMember_116 : decode cX12_readMember 116 = .ok (.dup2, 1) := by decide +kernel
theorem dX12_readMember_117 : decode cX12_readMember 117 = .ok (.iaload, 1) := by decide +kernel
theorem dX12_readMember_118 : decode cX12_readMember 118 = .ok (.iconst 1, 1) := by decide +kernel
theorem dX12_readMember_119 : decode cX12_readMember 119 = .ok (.iadd, 1) := by decide +kernel
theorem dX12_readMember_120 : decode cX12_readMember 120 = .ok (.iastore, 1) := by decide +kernel
theorem dX12_readMember_121 : decode cX12_readMember 121 = .ok (.aload_n 0, 1) := by decide +kernel
theorem dX12_readMember_122 : decode cX12_readMember 122 = .ok (.getfield 202, 3) := by decide +kernel
theorem dX12_readMember_125 : decode cX12_readMember 125 = .ok (.iload_n 1, 1) := by decide +kernel
theorem dX12_readMember_126 : decode cX12_readMember 126 = .ok (.dup2, 1) := by decide +kernel
theorem dX12_readMember_127 : decode cX12_readMember 127 = .ok (.iaload, 1) := by decide +kernel
theorem dX12_readMember_128 : decode cX12_readMember 128 = .ok (.iconst 1, 1) := by decide +kernel
theorem dX12_readMember_129 : decode cX12_readMember 129 = .ok (.iadd, 1) := by decide +kernel
theorem dX12_readMember_130 : decode cX12_readMember 130 = .ok (.iastore, 1) := by decide +kernel
theorem dX12_readMember_131 : decode cX12_readMember 131 = .ok (.aload_n 0, 1) := by decide +kernel
theorem dX12_readMember_132 : decode cX12_readMember 132 = .ok (.invokevirtual 105, 3) := by decide +kernel
theorem dX12_readMember_135 : decode cX12_readMember 135 = .ok (.aload_n 0, 1) := by decide +kernel
theorem dX12_readMember_136 : decode cX12_readMember 136 = .ok (.bipush 58, 2) := by decide +kernel
theorem dX12_readMember_138 : decode cX12_readMember 138 = .ok (.invokevirtual 429, 3) := by decide +kernel
theorem dX12_readMember_141 : decode cX12_readMember 141 = .ok (.aload_n 0, 1) := by decide +kernel
theorem dX12_readMember_142 : decode cX12_readMember 142 = .ok (.invokevirtual 115, 3) := by decide +kernel
theorem dX12_readMember_145 : decode cX12_readMember 145 = .ok (.ifCond .ne 4, 3) := by decide +kernel
theorem dX12_readMember_148 : decode cX12_readMember 148 = .ok (.return_, 1) := by decide +kernel
theorem dX12_readMember_149 : decode cX12_readMember 149 = .ok (.aload_n 0, 1) := by decide +kernel
theorem dX12_readMember_150 : decode cX12_readMember 150 = .ok (.getfield 223, 3) := by decide +kernel
theorem dX12_readMember_153 : decode cX12_readMember 153 = .ok (.iload_n 2, 1) := by decide +kernel
theorem dX12_readMember_154 : decode cX12_readMember 154 = .ok (.iconst (-1), 1) := by decide +kernel
theorem dX12_readMember_155 : decode cX12_readMember 155 = .ok (.iastore, 1) := by decide +kernel
theorem dX12_readMember_156 : decode cX12_readMember 156 = .ok (.aload_n 0, 1) := by decide +kernel
theorem dX12_readMember_157 : decode cX12_readMember 157 = .ok (.ldc2_w 34, 3) := by decide +kernel
theorem dX12_readMember_160 : decode cX12_readMember 160 = .ok (.invokevirtual 465, 3) := by decide +kernel
theorem dX12_readMember_163 : decode cX12_readMember 163 = .ok (.ifCond .ne 13, 3) := by decide +kernel
theorem dX12_readMember_166 : decode cX12_readMember 166 = .ok (.aload_n 0, 1) := by decide +kernel
theorem dX12_readMember_167 : decode cX12_readMember 167 = .ok (.ldc2_w 36, 3) := by decide +kernel
theorem dX12_readMember_170 : decode cX12_readMember 170 = .ok (.invokevirtual 465, 3) := by decide +kernel
theorem dX12_readMember_173 : decode cX12_readMember 173 = .ok (.ifCond .eq 31, 3) := by decide +kernel
theorem dX12_readMember_176 : decode cX12_readMember 176 = .ok (.aload_n 0, 1) := by decide +kernel
theorem dX12_readMember_177 : decode cX12_readMember 177 = .ok (.getfield 220, 3) := by decide +kernel
theorem dX12_readMember_180 : decode cX12_readMember 180 = .ok (.iload_n 2, 1) := by decide +kernel
theorem dX12_readMember_181 : decode cX12_readMember 181 = .ok (.aload_n 0, 1) := by decide +kernel
theorem dX12_readMember_182 : decode cX12_readMember 182 = .ok (.ldc2_w 34, 3) := by decide +kernel
theorem dX12_readMember_185 : decode cX12_readMember 185 = .ok (.invokevirtual 465, 3) := by decide +kernel
theorem dX12_readMember_188 : decode cX12_readMember 188 = .ok (.ifCond .eq 7, 3) := by decide +kernel
theorem dX12_readMember_191 : decode cX12_readMember 191 = .ok (.iconst 0, 1) := by decide +kernel
theorem dX12_readMember_192 : decode cX12_readMember 192 = .ok (.goto 4, 3) := by decide +kernel
theorem dX12_readMember_195 : decode cX12_readMember 195 = .ok (.iconst 1, 1) := by decide +kernel
theorem dX12_readMember_196 : decode cX12_readMember 196 = .ok (.iastore, 1) := by decide +kernel
theorem dX12_readMember_197 : decode cX12_readMember 197 = .ok (.aload_n 0, 1) := by decide +kernel
theorem dX12_readMember_198 : decode cX12_readMember 198 = .ok (.invokevirtual 105, 3) := by decide +kernel
theorem dX12_readMember_201 : decode cX12_readMember 201 = .ok (.goto 46, 3) := by decide +kernel
theorem dX12_readMember_204 : decode cX12_readMember 204 = .ok (.aload_n 0, 1) := by decide +kernel
theorem dX12_readMember_205 : decode cX12_readMember 205 = .ok (.getfield 220, 3) := by decide +kernel
theorem dX12_readMember_208 : decode cX12_readMember 208 = .ok (.iload_n 2, 1) := by decide +kernel
theorem dX12_readMember_209 : decode cX12_readMember 209 = .ok (.aload_n 0, 1) := by decide +kernel
theorem dX12_readMember_210 : decode cX12_readMember 210 = .ok (.ldc2_w 38, 3) := by decide +kernel
theorem dX12_readMember_213 : decode cX12_readMember 213 = .ok (.invokevirtual 465, 3) := by decide +kernel
theorem dX12_readMember_216 : decode cX12_readMember 216 = .ok (.ifCond .eq 7, 3) := by decide +kernel
theorem dX12_readMember_219 : decode cX12_readMember 219 = .ok (.iconst 2, 1) := by decide +kernel
theorem dX12_readMember_220 : decode cX12_readMember 220 = .ok (.goto 4, 3) := by decide +kernel
theorem dX12_readMember_223 : decode cX12_readMember 223 = .ok (.iconst 3, 1) := by decide +kernel
theorem dX12_readMember_224 : decode cX12_readMember 224 = .ok (.iastore, 1) := by decide +kernel
theorem dX12_readMember_225 : decode cX12_readMember 225 = .ok (.aload_n 0, 1) := by decide +kernel
theorem dX12_readMember_226 : decode cX12_readMember 226 = .ok (.ldc2_w 38, 3) := by decide +kernel
theorem dX12_readMember_229 : decode cX12_readMember 229 = .ok (.invokevirtual 465, 3) := by decide +kernel
theorem dX12_readMember_232 : decode cX12_readMember 232 = .ok (.ifCond .eq 7, 3) := by decide +kernel
theorem dX12_readMember_235 : decode cX12_readMember 235 = .ok (.aload_n 0, 1) := by decide +kernel
theorem dX12_readMember_236 : decode cX12_readMember 236 = .ok (.invokevirtual 105, 3) := by decide +kernel
theorem dX12_readMember_239 : decode cX12_readMember 239 = .ok (.aload_n 0, 1) := by decide +kernel
theorem dX12_readMember_240 : decode cX12_readMember 240 = .ok (.iconst 5, 1) := by decide +kernel
theorem dX12_readMember_241 : decode cX12_readMember 241 = .ok (.iconst (-1), 1) := by decide +kernel
theorem dX12_readMember_242 : decode cX12_readMember 242 = .ok (.iconst 3, 1) := by decide +kernel
theorem dX12_readMember_243 : decode cX12_readMember 243 = .ok (.iload_n 2, 1) := by decide +kernel
theorem dX12_readMember_244 : decode cX12_readMember 244 = .ok (.invokevirtual 421, 3) := by decide +kernel
theorem dX12_readMember_247 : decode cX12_readMember 247 = .ok (.aload_n 0, 1) := by decide +kernel
theorem dX12_readMember_248 : decode cX12_readMember 248 = .ok (.getfield 226, 3) := by decide +kernel
theorem dX12_readMember_251 : decode cX12_readMember 251 = .ok (.iload_n 2, 1) := by decide +kernel
theorem dX12_readMember_252 : decode cX12_readMember 252 = .ok (.sipush 1600, 3) := by decide +kernel
theorem dX12_readMember_255 : decode cX12_readMember 255 = .ok (.aload_n 0, 1) := by decide +kernel
theorem dX12_readMember_256 : decode cX12_readMember 256 = .ok (.getfield 11, 3) := by decide +kernel
theorem dX12_readMember_259 : decode cX12_readMember 259 = .ok (.imul, 1) := by decide +kernel
theorem dX12_readMember_260 : decode cX12_readMember 260 = .ok (.aload_n 0, 1) := by decide +kernel
theorem dX12_readMember_261 : decode cX12_readMember 261 = .ok (.getfield 418, 3) := by decide +kernel
theorem dX12_readMember_264 : decode cX12_readMember 264 = .ok (.iadd, 1) := by decide +kernel
theorem dX12_readMember_265 : decode cX12_readMember 265 = .ok (.iastore, 1) := by decide +kernel
theorem dX12_readMember_266 : decode cX12_readMember 266 = .ok (.aload_n 0, 1) := by decide +kernel
theorem dX12_readMember_267 : decode cX12_readMember 267 = .ok (.getfield 229, 3) := by decide +kernel
theorem dX12_readMember_270 : decode cX12_readMember 270 = .ok (.iload_n 2, 1) := by decide +kernel
theorem dX12_readMember_271 : decode cX12_readMember 271 = .ok (.iconst 0, 1) := by decide +kernel
theorem dX12_readMember_272 : decode cX12_readMember 272 = .ok (.iastore, 1) := by decide +kernel
theorem dX12_readMember_273 : decode cX12_readMember 273 = .ok (.aload_n 0, 1) := by decide +kernel
theorem dX12_readMember_274 : decode cX12_readMember 274 = .ok (.invokevirtual 115, 3) := by decide +kernel
theorem dX12_readMember_277 : decode cX12_readMember 277 = .ok (.ifCond .ne 4, 3) := by decide +kernel
theorem dX12_readMember_280 : decode cX12_readMember 280 = .ok (.return_, 1) := by decide +kernel
theorem dX12_readMember_281 : decode cX12_readMember 281 = .ok (.aload_n 0, 1) := by decide +kernel
theorem dX12_readMember_282 : decode cX12_readMember 282 = .ok (.bipush 61, 2) := by decide +kernel
theorem dX12_readMember_284 : decode cX12_readMember 284 = .ok (.invokevirtual 98, 3) := by decide +kernel
theorem dX12_readMember_287 : decode cX12_readMember 287 = .ok (.ifCond .eq 21, 3) := by decide +kernel
theorem dX12_readMember_290 : decode cX12_readMember 290 = .ok (.aload_n 0, 1) := by decide +kernel
theorem dX12_readMember_291 : decode cX12_readMember 291 = .ok (.invokevirtual 105, 3) := by decide +kernel
theorem dX12_readMember_294 : decode cX12_readMember 294 = .ok (.aload_n 0, 1) := by decide +kernel
theorem dX12_readMember_295 : decode cX12_readMember 295 = .ok (.getfield 229, 3) := by decide +kernel
theorem dX12_readMember_298 : decode cX12_readMember 298 = .ok (.iload_n 2, 1) := by decide +kernel
theorem dX12_readMember_299 : decode cX12_readMember 299 = .ok (.aload_n 0, 1) := by decide +kernel
theorem dX12_readMember_300 : decode cX12_readMember 300 = .ok (.iconst 0, 1) := by decide +kernel
theorem dX12_readMember_301 : decode cX12_readMember 301 = .ok (.invokevirtual 475, 3) := by decide +kernel
theorem dX12_readMember_304 : decode cX12_readMember 304 = .ok (.iastore, 1) := by decide +kernel
theorem dX12_readMember_305 : decode cX12_readMember 305 = .ok (.goto 9, 3) := by decide +kernel
theorem dX12_readMember_308 : decode cX12_readMember 308 = .ok (.aload_n 0, 1) := by decide +kernel
theorem dX12_readMember_309 : decode cX12_readMember 309 = .ok (.bipush 59, 2) := by decide +kernel
theorem dX12_readMember_311 : decode cX12_readMember 311 = .ok (.invokevirtual 429, 3) := by decide +kernel
theorem dX12_readMember_314 : decode cX12_readMember 314 = .ok (.return_, 1) := by decide +kernel
theorem dX12_readAll_0 : decode cX12_readAll 0 = .ok (.aload_n 0, 1) := by decide +kernel
theorem dX12_readAll_1 : decode cX12_readAll 1 = .ok (.iconst 0, 1) := by decide +kernel
theorem dX12_readAll_2 : decode cX12_readAll 2 = .ok (.putfield 56, 3) := by decide +kernel
theorem dX12_readAll_5 : decode cX12_readAll 5 = .ok (.aload_n 0, 1) := by decide +kernel
theorem dX12_readAll_6 : decode cX12_readAll 6 = .ok (.iconst 0, 1) := by decide +kernel
theorem dX12_readAll_7 : decode cX12_readAll 7 = .ok (.putfield 108, 3) := by decide +kernel
theorem dX12_readAll_10 : decode cX12_readAll 10 = .ok (.aload_n 0, 1) := by decide +kernel
theorem dX12_readAll_11 : decode cX12_readAll 11 = .ok (.iconst 0, 1) := by decide +kernel
theorem dX12_readAll_12 : decode cX12_readAll 12 = .ok (.putfield 415, 3) := by decide +kernel
theorem dX12_readAll_15 : decode cX12_readAll 15 = .ok (.aload_n 0, 1) := by decide +kernel
theorem dX12_readAll_16 : decode cX12_readAll 16 = .ok (.iconst 0, 1) := by decide +kernel
theorem dX12_readAll_17 : decode cX12_readAll 17 = .ok (.putfield 439, 3) := by decide +kernel
theorem dX12_readAll_20 : decode cX12_readAll 20 = .ok (.aload_n 0, 1) := by decide +kernel
theorem dX12_readAll_21 : decode cX12_readAll 21 = .ok (.iconst 0, 1) := by decide +kernel
theorem dX12_readAll_22 : decode cX12_readAll 22 = .ok (.putfield 446, 3) := by decide +kernel
theorem dX12_readAll_25 : decode cX12_readAll 25 = .ok (.aload_n 0, 1) := by decide +kernel
theorem dX12_readAll_26 : decode cX12_readAll 26 = .ok (.iconst 0, 1) := by decide +kernel
theorem dX12_readAll_27 : decode cX12_readAll 27 = .ok (.putfield 462, 3) := by decide +kernel
theorem dX12_readAll_30 : decode cX12_readAll 30 = .ok (.aload_n 0, 1) := by decide +kernel
theorem dX12_readAll_31 : decode cX12_readAll 31 = .ok (.iconst 0, 1) := by decide +kernel
theorem dX12_readAll_32 : decode cX12_readAll 32 = .ok (.putfield 472, 3) := by decide +kernel
theorem dX12_readAll_35 : decode cX12_readAll 35 = .ok (.aload_n 0, 1) := by decide +kernel
theorem dX12_readAll_36 : decode cX12_readAll 36 = .ok (.iconst 0, 1) := by decide +kernel
theorem dX12_readAll_37 : decode cX12_readAll 37 = .ok (.putfield 478, 3) := by decide +kernel
theorem dX12_readAll_40 : decode cX12_readAll 40 = .ok (.aload_n 0, 1) := by decide +kernel
theorem dX12_readAll_41 : decode cX12_readAll 41 = .ok (.iconst 0, 1) := by decide +kernel
theorem dX12_readAll_42 : decode cX12_readAll 42 = .ok (.putfield 481, 3) := by decide +kernel
theorem dX12_readAll_45 : decode cX12_readAll 45 = .ok (.aload_n 0, 1) := by decide +kernel
theorem dX12_readAll_46 : decode cX12_readAll 46 = .ok (.iconst 0, 1) := by decide +kernel
theorem dX12_readAll_47 : decode cX12_readAll 47 = .ok (.putfield 418, 3) := by decide +kernel
theorem dX12_readAll_50 : decode cX12_readAll 50 = .ok (.aload_n 0, 1) := by decide +kernel
theorem dX12_readAll_51 : decode cX12_readAll 51 = .ok (.iconst 0, 1) := by decide +kernel
theorem dX12_readAll_52 : decode cX12_readAll 52 = .ok (.putfield 449, 3) := by decide +kernel
theorem dX12_readAll_55 : decode cX12_readAll 55 = .ok (.aload_n 0, 1) := by decide +kernel
theorem dX12_readAll_56 : decode cX12_readAll 56 = .ok (.ldc2_w 413, 3) := by decide +kernel
theorem dX12_readAll_59 : decode cX12_readAll 59 = .ok (.iconst 1, 1) := by decide +kernel
theorem dX12_readAll_60 : decode cX12_readAll 60 = .ok (.iconst 0, 1) := by decide +kernel
theorem dX12_readAll_61 : decode cX12_readAll 61 = .ok (.invokevirtual 126, 3) := by decide +kernel
theorem dX12_readAll_64 : decode cX12_readAll 64 = .ok (.aload_n 0, 1) := by decide +kernel
theorem dX12_readAll_65 : decode cX12_readAll 65 = .ok (.getfield 163, 3) := by decide +kernel
theorem dX12_readAll_68 : decode cX12_readAll 68 = .ok (.bipush 9, 2) := by decide +kernel
theorem dX12_readAll_70 : decode cX12_readAll 70 = .ok (.aload_n 0, 1) := by decide +kernel
theorem dX12_readAll_71 : decode cX12_readAll 71 = .ok (.getfield 11, 3) := by decide +kernel
theorem dX12_readAll_74 : decode cX12_readAll 74 = .ok (.imul, 1) := by decide +kernel
theorem dX12_readAll_75 : decode cX12_readAll 75 = .ok (.iconst 1, 1) := by decide +kernel
theorem dX12_readAll_76 : decode cX12_readAll 76 = .ok (.iastore, 1) := by decide +kernel
theorem dX12_readAll_77 : decode cX12_readAll 77 = .ok (.aload_n 0, 1) := by decide +kernel
theorem dX12_readAll_78 : decode cX12_readAll 78 = .ok (.invokevirtual 105, 3) := by decide +kernel
theorem dX12_readAll_81 : decode cX12_readAll 81 = .ok (.aload_n 0, 1) := by decide +kernel
theorem dX12_readAll_82 : decode cX12_readAll 82 = .ok (.invokevirtual 115, 3) := by decide +kernel
theorem dX12_readAll_85 : decode cX12_readAll 85 = .ok (.ifCond .eq 271, 3) := by decide +kernel
theorem dX12_readAll_88 : decode cX12_readAll 88 = .ok (.aload_n 0, 1) := by decide +kernel
theorem dX12_readAll_89 : decode cX12_readAll 89 = .ok (.getfield 66, 3) := by decide +kernel
theorem dX12_readAll_92 : decode cX12_readAll 92 = .ok (.ifCond .eq 264, 3) := by decide +kernel
theorem dX12_readAll_95 : decode cX12_readAll 95 = .ok (.aload_n 0, 1) := by decide +kernel
theorem dX12_readAll_96 : decode cX12_readAll 96 = .ok (.getfield 66, 3) := by decide +kernel
theorem dX12_readAll_99 : decode cX12_readAll 99 = .ok (.iconst 3, 1) := by decide +kernel
theorem dX12_readAll_100 : decode cX12_readAll 100 = .ok (.if_icmp .ne 10, 3) := by decide +kernel
theorem dX12_readAll_103 : decode cX12_readAll 103 = .ok (.aload_n 0, 1) := by decide +kernel
theorem dX12_readAll_104 : decode cX12_readAll 104 = .ok (.getfield 76, 3) := by decide +kernel
theorem dX12_readAll_107 : decode cX12_readAll 107 = .ok (.goto 4, 3) := by decide +kernel
theorem dX12_readAll_110 : decode cX12_readAll 110 = .ok (.lconst 0, 1) := by decide +kernel
theorem dX12_readAll_111 : decode cX12_readAll 111 = .ok (.lstore_n 1, 1) := by decide +kernel
theorem dX12_readAll_112 : decode cX12_readAll 112 = .ok (.lload_n 1, 1) := by decide +kernel
theorem dX12_readAll_113 : decode cX12_readAll 113 = .ok (.ldc2_w 20, 3) := by decide +kernel
theorem dX12_readAll_116 : decode cX12_readAll 116 = .ok (.lcmp, 1) := by decide +kernel
theorem dX12_readAll_117 : decode cX12_readAll 117 = .ok (.ifCond .ne 22, 3) := by decide +kernel
theorem dX12_readAll_120 : decode cX12_readAll 120 = .ok (.aload_n 0, 1) := by decide +kernel
theorem dX12_readAll_121 : decode cX12_readAll 121 = .ok (.getfield 439, 3) := by decide +kernel
theorem dX12_readAll_124 : decode cX12_readAll 124 = .ok (.iconst 1, 1) := by decide +kernel
theorem dX12_readAll_125 : decode cX12_readAll 125 = .ok (.iadd, 1) := by decide +kernel
theorem dX12_readAll_126 : decode cX12_readAll 126 = .ok (.bipush 8, 2) := by decide +kernel
theorem dX12_readAll_128 : decode cX12_readAll 128 = .ok (.if_icmp .ne 7, 3) := by decide +kernel
theorem dX12_readAll_131 : decode cX12_readAll 131 = .ok (.iconst 1, 1) := by decide +kernel
theorem dX12_readAll_132 : decode cX12_readAll 132 = .ok (.goto 96, 3) := by decide +kernel
theorem dX12_readAll_135 : decode cX12_readAll 135 = .ok (.iconst 0, 1) := by decide +kernel
theorem dX12_readAll_136 : decode cX12_readAll 136 = .ok (.goto 92, 3) := by decide +kernel
theorem dX12_readAll_139 : decode cX12_readAll 139 = .ok (.lload_n 1, 1) := by decide +kernel
theorem dX12_readAll_140 : decode cX12_readAll 140 = .ok (.ldc2_w 22, 3) := by decide +kernel
theorem dX12_readAll_143 : decode cX12_readAll 143 = .ok (.lcmp, 1) := by decide +kernel
theorem dX12_readAll_144 : decode cX12_readAll 144 = .ok (.ifCond .ne 20, 3) := by decide +kernel
theorem dX12_readAll_147 : decode cX12_readAll 147 = .ok (.aload_n 0, 1) := by decide +kernel
theorem dX12_readAll_148 : decode cX12_readAll 148 = .ok (.getfield 446, 3) := by decide +kernel
theorem dX12_readAll_151 : decode cX12_readAll 151 = .ok (.bipush 6, 2) := by decide +kernel
theorem dX12_readAll_153 : decode cX12_readAll 153 = .ok (.if_icmp .ne 7, 3) := by decide +kernel
theorem dX12_readAll_156 : decode cX12_readAll 156 = .ok (.iconst 1, 1) := by decide +kernel
theorem dX12_readAll_157 : decode cX12_readAll 157 = .ok (.goto 71, 3) := by decide +kernel
theorem dX12_readAll_160 : decode cX12_readAll 160 = .ok (.iconst 0, 1) := by decide +kernel
theorem dX12_readAll_161 : decode cX12_readAll 161 = .ok (.goto 67, 3) := by decide +kernel
theorem dX12_readAll_164 : decode cX12_readAll 164 = .ok (.lload_n 1, 1) := by decide +kernel
theorem dX12_readAll_165 : decode cX12_readAll 165 = .ok (.ldc2_w 24, 3) := by decide +kernel
theorem dX12_readAll_168 : decode cX12_readAll 168 = .ok (.lcmp, 1) := by decide +kernel
theorem dX12_readAll_169 : decode cX12_readAll 169 = .ok (.ifCond .ne 20, 3) := by decide +kernel
theorem dX12_readAll_172 : decode cX12_readAll 172 = .ok (.aload_n 0, 1) := by decide +kernel
theorem dX12_readAll_173 : decode cX12_readAll 173 = .ok (.getfield 462, 3) := by decide +kernel
theorem dX12_readAll_176 : decode cX12_readAll 176 = .ok (.bipush 16, 2) := by decide +kernel
theorem dX12_readAll_178 : decode cX12_readAll 178 = .ok (.if_icmp .ne 7, 3) := by decide +kernel
theorem dX12_readAll_181 : decode cX12_readAll 181 = .ok (.iconst 1, 1) := by decide +kernel
theorem dX12_readAll_182 : decode cX12_readAll 182 = .ok (.goto 46, 3) := by decide +kernel
theorem dX12_readAll_185 : decode cX12_readAll 185 = .ok (.iconst 0, 1) := by decide +kernel
theorem dX12_readAll_186 : decode cX12_readAll 186 = .ok (.goto 42, 3) := by decide +kernel
theorem dX12_readAll_189 : decode cX12_readAll 189 = .ok (.lload_n 1, 1) := by decide +kernel
theorem dX12_readAll_190 : decode cX12_readAll 190 = .ok (.ldc2_w 28, 3) := by decide +kernel
theorem dX12_readAll_193 : decode cX12_readAll 193 = .ok (.lcmp, 1) := by decide +kernel
theorem dX12_readAll_194 : decode cX12_readAll 194 = .ok (.ifCond .ne 20, 3) := by decide +kernel
theorem dX12_readAll_197 : decode cX12_readAll 197 = .ok (.aload_n 0, 1) := by decide +kernel
theorem dX12_readAll_198 : decode cX12_readAll 198 = .ok (.getfield 472, 3) := by decide +kernel
theorem dX12_readAll_201 : decode cX12_readAll 201 = .ok (.bipush 16, 2) := by decide +kernel
theorem dX12_readAll_203 : decode cX12_readAll 203 = .ok (.if_icmp .ne 7, 3) := by decide +kernel
theorem dX12_readAll_206 : decode cX12_readAll 206 = .ok (.iconst 1, 1) := by decide +kernel
theorem dX12_readAll_207 : decode cX12_readAll 207 = .ok (.goto 21, 3) := by decide +kernel
theorem dX12_readAll_210 : decode cX12_readAll 210 = .ok (.iconst 0, 1) := by decide +kernel
theorem dX12_readAll_211 : decode cX12_readAll 211 = .ok (.goto 17, 3) := by decide +kernel
theorem dX12_readAll_214 : decode cX12_readAll 214 = .ok (.aload_n 0, 1) := by decide +kernel
theorem dX12_readAll_215 : decode cX12_readAll 215 = .ok (.getfield 478, 3) := by decide +kernel
theorem dX12_readAll_218 : decode cX12_readAll 218 = .ok (.bipush 16, 2) := by decide +kernel
theorem dX12_readAll_220 : decode cX12_readAll 220 = .ok (.if_icmp .ne 7, 3) := by decide +kernel
theorem dX12_readAll_223 : decode cX12_readAll 223 = .ok (.iconst 1, 1) := by decide +kernel
theorem dX12_readAll_224 : decode cX12_readAll 224 = .ok (.goto 4, 3) := by decide +kernel
theorem dX12_readAll_227 : decode cX12_readAll 227 = .ok (.iconst 0, 1) := by decide +kernel
theorem dX12_readAll_228 : decode cX12_readAll 228 = .ok (.istore_n 3, 1) := by decide +kernel
theorem dX12_readAll_229 : decode cX12_readAll 229 = .ok (.lload_n 1, 1) := by decide +kernel
theorem dX12_readAll_230 : decode cX12_readAll 230 = .ok (.ldc2_w 20, 3) := by decide +kernel
theorem dX12_readAll_233 : decode cX12_readAll 233 = .ok (.lcmp, 1) := by decide +kernel
theorem dX12_readAll_234 : decode cX12_readAll 234 = .ok (.ifCond .eq 35, 3) := by decide +kernel
theorem dX12_readAll_237 : decode cX12_readAll 237 = .ok (.lload_n 1, 1) := by decide +kernel
theorem dX12_readAll_238 : decode cX12_readAll 238 = .ok (.ldc2_w 22, 3) := by decide +kernel
theorem dX12_readAll_241 : decode cX12_readAll 241 = .ok (.lcmp, 1) := by decide +kernel
theorem dX12_readAll_242 : decode cX12_readAll 242 = .ok (.ifCond .eq 27, 3) := by decide +kernel
theorem dX12_readAll_245 : decode cX12_readAll 245 = .ok (.lload_n 1, 1) := by decide +kernel
theorem dX12_readAll_246 : decode cX12_readAll 246 = .ok (.ldc2_w 24, 3) := by decide +kernel
theorem dX12_readAll_249 : decode cX12_readAll 249 = .ok (.lcmp, 1) := by decide +kernel
theorem dX12_readAll_250 : decode cX12_readAll 250 = .ok (.ifCond .eq 19, 3) := by decide +kernel
theorem dX12_readAll_253 : decode cX12_readAll 253 = .ok (.lload_n 1, 1) := by decide +kernel
theorem dX12_readAll_254 : decode cX12_readAll 254 = .ok (.ldc2_w 28, 3) := by decide +kernel
theorem dX12_readAll_257 : decode cX12_readAll 257 = .ok (.lcmp, 1) := by decide +kernel
theorem dX12_readAll_258 : decode cX12_readAll 258 = .ok (.ifCond .eq 11, 3) := by decide +kernel
theorem dX12_readAll_261 : decode cX12_readAll 261 = .ok (.lload_n 1, 1) := by decide +kernel
theorem dX12_readAll_262 : decode cX12_readAll 262 = .ok (.ldc2_w 30, 3) := by decide +kernel
theorem dX12_readAll_265 : decode cX12_readAll 265 = .ok (.lcmp, 1) := by decide +kernel
theorem dX12_readAll_266 : decode cX12_readAll 266 = .ok (.ifCond .ne 7, 3) := by decide +kernel
theorem dX12_readAll_269 : decode cX12_readAll 269 = .ok (.iload_n 3, 1) := by decide +kernel
theorem dX12_readAll_270 : decode cX12_readAll 270 = .ok (.ifCond .eq 7, 3) := by decide +kernel
theorem dX12_readAll_273 : decode cX12_readAll 273 = .ok (.aload_n 0, 1) := by decide +kernel
theorem dX12_readAll_274 : decode cX12_readAll 274 = .ok (.invokevirtual 101, 3) := by decide +kernel
theorem dX12_readAll_277 : decode cX12_readAll 277 = .ok (.aload_n 0, 1) := by decide +kernel
theorem dX12_readAll_278 : decode cX12_readAll 278 = .ok (.invokevirtual 115, 3) := by decide +kernel
theorem dX12_readAll_281 : decode cX12_readAll 281 = .ok (.ifCond .ne 4, 3) := by decide +kernel
theorem dX12_readAll_284 : decode cX12_readAll 284 = .ok (.return_, 1) := by decide +kernel
theorem dX12_readAll_285 : decode cX12_readAll 285 = .ok (.aload_n 0, 1) := by decide +kernel
theorem dX12_readAll_286 : decode cX12_readAll 286 = .ok (.invokevirtual 105, 3) := by decide +kernel
theorem dX12_readAll_289 : decode cX12_readAll 289 = .ok (.lload_n 1, 1) := by decide +kernel
theorem dX12_readAll_290 : decode cX12_readAll 290 = .ok (.ldc2_w 20, 3) := by decide +kernel
theorem dX12_readAll_293 : decode cX12_readAll 293 = .ok (.lcmp, 1) := by decide +kernel
theorem dX12_readAll_294 : decode cX12_readAll 294 = .ok (.ifCond .ne 10, 3) := by decide +kernel
theorem dX12_readAll_297 : decode cX12_readAll 297 = .ok (.aload_n 0, 1) := by decide +kernel
theorem dX12_readAll_298 : decode cX12_readAll 298 = .ok (.invokevirtual 497, 3) := by decide +kernel
theorem dX12_readAll_301 : decode cX12_readAll 301 = .ok (.goto 52, 3) := by decide +kernel
theorem dX12_readAll_304 : decode cX12_readAll 304 = .ok (.lload_n 1, 1) := by decide +kernel
theorem dX12_readAll_305 : decode cX12_readAll 305 = .ok (.ldc2_w 22, 3) := by decide +kernel
theorem dX12_readAll_308 : decode cX12_readAll 308 = .ok (.lcmp, 1) := by decide +kernel
theorem dX12_readAll_309 : decode cX12_readAll 309 = .ok (.ifCond .ne 10, 3) := by decide +kernel
theorem dX12_readAll_312 : decode cX12_readAll 312 = .ok (.aload_n 0, 1) := by decide +kernel
theorem dX12_readAll_313 : decode cX12_readAll 313 = .ok (.invokevirtual 500, 3) := by decide +kernel
theorem dX12_readAll_316 : decode cX12_readAll 316 = .ok (.goto 37, 3) := by decide +kernel
theorem dX12_readAll_319 : decode cX12_readAll 319 = .ok (.lload_n 1, 1) := by decide +kernel
theorem dX12_readAll_320 : decode cX12_readAll 320 = .ok (.ldc2_w 24, 3) := by decide +kernel
theorem dX12_readAll_323 : decode cX12_readAll 323 = .ok (.lcmp, 1) := by decide +kernel
theorem dX12_readAll_324 : decode cX12_readAll 324 = .ok (.ifCond .ne 10, 3) := by decide +kernel
theorem dX12_readAll_327 : decode cX12_readAll 327 = .ok (.aload_n 0, 1) := by decide +kernel
theorem dX12_readAll_328 : decode cX12_readAll 328 = .ok (.invokevirtual 503, 3) := by decide +kernel
theorem dX12_readAll_331 : decode cX12_readAll 331 = .ok (.goto 22, 3) := by decide +kernel
theorem dX12_readAll_334 : decode cX12_readAll 334 = .ok (.lload_n 1, 1) := by decide +kernel
theorem dX12_readAll_335 : decode cX12_readAll 335 = .ok (.ldc2_w 28, 3) := by decide +kernel
theorem dX12_readAll_338 : decode cX12_readAll 338 = .ok (.lcmp, 1) := by decide +kernel
theorem dX12_readAll_339 : decode cX12_readAll 339 = .ok (.ifCond .ne 10, 3) := by decide +kernel
theorem dX12_readAll_342 : decode cX12_readAll 342 = .ok (.aload_n 0, 1) := by decide +kernel
theorem dX12_readAll_343 : decode cX12_readAll 343 = .ok (.invokevirtual 506, 3) := by decide +kernel
theorem dX12_readAll_346 : decode cX12_readAll 346 = .ok (.goto 7, 3) := by decide +kernel
theorem dX12_readAll_349 : decode cX12_readAll 349 = .ok (.aload_n 0, 1) := by decide +kernel
theorem dX12_readAll_350 : decode cX12_readAll 350 = .ok (.invokevirtual 509, 3) := by decide +kernel
theorem dX12_readAll_353 : decode cX12_readAll 353 = .ok (.goto (-272), 3) := by decide +kernel
theorem dX12_readAll_356 : decode cX12_readAll 356 = .ok (.return_, 1) := by decide +kernel
theorem dX12_resolve_0 : decode cX12_resolve 0 = .ok (.iconst 0, 1) := by decide +kernel
theorem dX12_resolve_1 : decode cX12_resolve 1 = .ok (.istore_n 1, 1) := by decide +kernel
theorem dX12_resolve_2 : decode cX12_resolve 2 = .ok (.iload_n 1, 1) := by decide +kernel
theorem dX12_resolve_3 : decode cX12_resolve 3 = .ok (.aload_n 0, 1) := by decide +kernel
theorem dX12_resolve_4 : decode cX12_resolve 4 = .ok (.getfield 415, 3) := by decide +kernel
theorem dX12_resolve_7 : decode cX12_resolve 7 = .ok (.if_icmp .ge 326, 3) := by decide +kernel
theorem dX12_resolve_10 : decode cX12_resolve 10 = .ok (.aload_n 0, 1) := by decide +kernel
theorem dX12_resolve_11 : decode cX12_resolve 11 = .ok (.invokevirtual 115, 3) := by decide +kernel
theorem dX12_resolve_14 : decode cX12_resolve 14 = .ok (.ifCond .eq 319, 3) := by decide +kernel
theorem dX12_resolve_17 : decode cX12_resolve 17 = .ok (.aload_n 0, 1) := by decide +kernel
theorem dX12_resolve_18 : decode cX12_resolve 18 = .ok (.aload_n 0, 1) := by decide +kernel
theorem dX12_resolve_19 : decode cX12_resolve 19 = .ok (.getfield 145, 3) := by decide +kernel
theorem dX12_resolve_22 : decode cX12_resolve 22 = .ok (.iload_n 1, 1) := by decide +kernel
theorem dX12_resolve_23 : decode cX12_resolve 23 = .ok (.laload, 1) := by decide +kernel
theorem dX12_resolve_24 : decode cX12_resolve 24 = .ok (.invokevirtual 119, 3) := by decide +kernel
theorem dX12_resolve_27 : decode cX12_resolve 27 = .ok (.istore_n 2, 1) := by decide +kernel
theorem dX12_resolve_28 : decode cX12_resolve 28 = .ok (.aload_n 0, 1) := by decide +kernel
theorem dX12_resolve_29 : decode cX12_resolve 29 = .ok (.getfield 157, 3) := by decide +kernel
theorem dX12_resolve_32 : decode cX12_resolve 32 = .ok (.iload_n 1, 1) := by decide +kernel
theorem dX12_resolve_33 : decode cX12_resolve 33 = .ok (.iaload, 1) := by decide +kernel
theorem dX12_resolve_34 : decode cX12_resolve 34 = .ok (.iconst 5, 1) := by decide +kernel
theorem dX12_resolve_35 : decode cX12_resolve 35 = .ok (.if_icmp .ne 115, 3) := by decide +kernel
theorem dX12_resolve_38 : decode cX12_resolve 38 = .ok (.aload_n 0, 1) := by decide +kernel
theorem dX12_resolve_39 : decode cX12_resolve 39 = .ok (.getfield 145, 3) := by decide +kernel
theorem dX12_resolve_42 : decode cX12_resolve 42 = .ok (.iload_n 1, 1) := by decide +kernel
theorem dX12_resolve_43 : decode cX12_resolve 43 = .ok (.laload, 1) := by decide +kernel
theorem dX12_resolve_44 : decode cX12_resolve 44 = .ok (.invokestatic 123, 3) := by decide +kernel
theorem dX12_resolve_47 : decode cX12_resolve 47 = .ok (.istore_n 3, 1) := by decide +kernel
theorem dX12_resolve_48 : decode cX12_resolve 48 = .ok (.iload_n 3, 1) := by decide +kernel
theorem dX12_resolve_49 : decode cX12_resolve 49 = .ok (.ifCond .gt 27, 3) := by decide +kernel
theorem dX12_resolve_52 : decode cX12_resolve 52 = .ok (.iload_n 2, 1) := by decide +kernel
theorem dX12_resolve_53 : decode cX12_resolve 53 = .ok (.ifCond .lt 27, 3) := by decide +kernel
theorem dX12_resolve_56 : decode cX12_resolve 56 = .ok (.aload_n 0, 1) := by decide +kernel
theorem dX12_resolve_57 : decode cX12_resolve 57 = .ok (.getfield 138, 3) := by decide +kernel
theorem dX12_resolve_60 : decode cX12_resolve 60 = .ok (.iload_n 2, 1) := by decide +kernel
theorem dX12_resolve_61 : decode cX12_resolve 61 = .ok (.iaload, 1) := by decide +kernel
theorem dX12_resolve_62 : decode cX12_resolve 62 = .ok (.iconst 3, 1) := by decide +kernel
theorem dX12_resolve_63 : decode cX12_resolve 63 = .ok (.if_icmp .eq 13, 3) := by decide +kernel
theorem dX12_resolve_66 : decode cX12_resolve 66 = .ok (.aload_n 0, 1) := by decide +kernel
theorem dX12_resolve_67 : decode cX12_resolve 67 = .ok (.getfield 138, 3) := by decide +kernel
theorem dX12_resolve_70 : decode cX12_resolve 70 = .ok (.iload_n 2, 1) := by decide +kernel
theorem dX12_resolve_71 : decode cX12_resolve 71 = .ok (.iaload, 1) := by decide +kernel
theorem dX12_resolve_72 : decode cX12_resolve 72 = .ok (.iconst 4, 1) := by decide +kernel
theorem dX12_resolve_73 : decode cX12_resolve 73 = .ok (.if_icmp .ne 7, 3) := by decide +kernel
theorem dX12_resolve_76 : decode cX12_resolve 76 = .ok (.iconst 1, 1) := by decide +kernel
theorem dX12_resolve_77 : decode cX12_resolve 77 = .ok (.goto 4, 3) := by decide +kernel
theorem dX12_resolve_80 : decode cX12_resolve 80 = .ok (.iconst 0, 1) := by decide +kernel
theorem dX12_resolve_81 : decode cX12_resolve 81 = .ok (.istore 4, 2) := by decide +kernel
theorem dX12_resolve_83 : decode cX12_resolve 83 = .ok (.iload 4, 2) := by decide +kernel
theorem dX12_resolve_85 : decode cX12_resolve 85 = .ok (.ifCond .ne 18, 3) := by decide +kernel
theorem dX12_resolve_88 : decode cX12_resolve 88 = .ok (.aload_n 0, 1) := by decide +kernel
theorem dX12_resolve_89 : decode cX12_resolve 89 = .ok (.iconst 5, 1) := by decide +kernel
theorem dX12_resolve_90 : decode cX12_resolve 90 = .ok (.aload_n 0, 1) := by decide +kernel
theorem dX12_resolve_91 : decode cX12_resolve 91 = .ok (.getfield 148, 3) := by decide +kernel
theorem dX12_resolve_94 : decode cX12_resolve 94 = .ok (.iload_n 1, 1) := by decide +kernel
theorem dX12_resolve_95 : decode cX12_resolve 95 = .ok (.iaload, 1) := by decide +kernel
theorem dX12_resolve_96 : decode cX12_resolve 96 = .ok (.invokevirtual 94, 3) := by decide +kernel
theorem dX12_resolve_99 : decode cX12_resolve 99 = .ok (.pop, 1) := by decide +kernel
theorem dX12_resolve_100 : decode cX12_resolve 100 = .ok (.goto 227, 3) := by decide +kernel
theorem dX12_resolve_103 : decode cX12_resolve 103 = .ok (.aload_n 0, 1) := by decide +kernel
theorem dX12_resolve_104 : decode cX12_resolve 104 = .ok (.getfield 232, 3) := by decide +kernel
theorem dX12_resolve_107 : decode cX12_resolve 107 = .ok (.aload_n 0, 1) := by decide +kernel
theorem dX12_resolve_108 : decode cX12_resolve 108 = .ok (.getfield 160, 3) := by decide +kernel
theorem dX12_resolve_111 : decode cX12_resolve 111 = .ok (.iload_n 1, 1) := by decide +kernel
theorem dX12_resolve_112 : decode cX12_resolve 112 = .ok (.iaload, 1) := by decide +kernel
theorem dX12_resolve_113 : decode cX12_resolve 113 = .ok (.iload_n 3, 1) := by decide +kernel
theorem dX12_resolve_114 : decode cX12_resolve 114 = .ok (.ifCond .le 7, 3) := by decide +kernel
theorem dX12_resolve_117 : decode cX12_resolve 117 = .ok (.iload_n 3, 1) := by decide +kernel
theorem dX12_resolve_118 : decode cX12_resolve 118 = .ok (.goto 28, 3) := by decide +kernel
theorem dX12_resolve_121 : decode cX12_resolve 121 = .ok (.aload_n 0, 1) := by decide +kernel
theorem dX12_resolve_122 : decode cX12_resolve 122 = .ok (.getfield 138, 3) := by decide +kernel
theorem dX12_resolve_125 : decode cX12_resolve 125 = .ok (.iload_n 2, 1) := by decide +kernel
theorem dX12_resolve_126 : decode cX12_resolve 126 = .ok (.iaload, 1) := by decide +kernel
theorem dX12_resolve_127 : decode cX12_resolve 127 = .ok (.iconst 3, 1) := by decide +kernel
theorem dX12_resolve_128 : decode cX12_resolve 128 = .ok (.if_icmp .ne 8, 3) := by decide +kernel
theorem dX12_resolve_131 : decode cX12_resolve 131 = .ok (.bipush 100, 2) := by decide +kernel
theorem dX12_resolve_133 : decode cX12_resolve 133 = .ok (.goto 6, 3) := by decide +kernel
theorem dX12_resolve_136 : decode cX12_resolve 136 = .ok (.sipush 200, 3) := by decide +kernel
theorem dX12_resolve_139 : decode cX12_resolve 139 = .ok (.aload_n 0, 1) := by decide +kernel
theorem dX12_resolve_140 : decode cX12_resolve 140 = .ok (.getfield 142, 3) := by decide +kernel
theorem dX12_resolve_143 : decode cX12_resolve 143 = .ok (.iload_n 2, 1) := by decide +kernel
theorem dX12_resolve_144 : decode cX12_resolve 144 = .ok (.iaload, 1) := by decide +kernel
theorem dX12_resolve_145 : decode cX12_resolve 145 = .ok (.iadd, 1) := by decide +kernel
theorem dX12_resolve_146 : decode cX12_resolve 146 = .ok (.iastore, 1) := by decide +kernel
theorem dX12_resolve_147 : decode cX12_resolve 147 = .ok (.goto 180, 3) := by decide +kernel
theorem dX12_resolve_150 : decode cX12_resolve 150 = .ok (.iload_n 2, 1) := by decide +kernel
theorem dX12_resolve_151 : decode cX12_resolve 151 = .ok (.ifCond .lt 42, 3) := by decide +kernel
theorem dX12_resolve_154 : decode cX12_resolve 154 = .ok (.aload_n 0, 1) := by decide +kernel
theorem dX12_resolve_155 : decode cX12_resolve 155 = .ok (.getfield 138, 3) := by decide +kernel
theorem dX12_resolve_158 : decode cX12_resolve 158 = .ok (.iload_n 2, 1) := by decide +kernel
theorem dX12_resolve_159 : decode cX12_resolve 159 = .ok (.iaload, 1) := by decide +kernel
theorem dX12_resolve_160 : decode cX12_resolve 160 = .ok (.aload_n 0, 1) := by decide +kernel
theorem dX12_resolve_161 : decode cX12_resolve 161 = .ok (.getfield 151, 3) := by decide +kernel
theorem dX12_resolve_164 : decode cX12_resolve 164 = .ok (.iload_n 1, 1) := by decide +kernel
theorem dX12_resolve_165 : decode cX12_resolve 165 = .ok (.iaload, 1) := by decide +kernel
theorem dX12_resolve_166 : decode cX12_resolve 166 = .ok (.if_icmp .ne 27, 3) := by decide +kernel
theorem dX12_resolve_169 : decode cX12_resolve 169 = .ok (.aload_n 0, 1) := by decide +kernel
theorem dX12_resolve_170 : decode cX12_resolve 170 = .ok (.getfield 154, 3) := by decide +kernel
theorem dX12_resolve_173 : decode cX12_resolve 173 = .ok (.iload_n 1, 1) := by decide +kernel
theorem dX12_resolve_174 : decode cX12_resolve 174 = .ok (.iaload, 1) := by decide +kernel
theorem dX12_resolve_175 : decode cX12_resolve 175 = .ok (.ifCond .lt 33, 3) := by decide +kernel
theorem dX12_resolve_178 : decode cX12_resolve 178 = .ok (.aload_n 0, 1) := by decide +kernel
theorem dX12_resolve_179 : decode cX12_resolve 179 = .ok (.getfield 142, 3) := by decide +kernel
theorem dX12_resolve_182 : decode cX12_resolve 182 = .ok (.iload_n 2, 1) := by decide +kernel
theorem dX12_resolve_183 : decode cX12_resolve 183 = .ok (.iaload, 1) := by decide +kernel
theorem dX12_resolve_184 : decode cX12_resolve 184 = .ok (.aload_n 0, 1) := by decide +kernel
theorem dX12_resolve_185 : decode cX12_resolve 185 = .ok (.getfield 154, 3) := by decide +kernel
theorem dX12_resolve_188 : decode cX12_resolve 188 = .ok (.iload_n 1, 1) := by decide +kernel
theorem dX12_resolve_189 : decode cX12_resolve 189 = .ok (.iaload, 1) := by decide +kernel
theorem dX12_resolve_190 : decode cX12_resolve 190 = .ok (.if_icmp .lt 18, 3) := by decide +kernel
theorem dX12_resolve_193 : decode cX12_resolve 193 = .ok (.aload_n 0, 1) := by decide +kernel
theorem dX12_resolve_194 : decode cX12_resolve 194 = .ok (.iconst 5, 1) := by decide +kernel
theorem dX12_resolve_195 : decode cX12_resolve 195 = .ok (.aload_n 0, 1) := by decide +kernel
theorem dX12_resolve_196 : decode cX12_resolve 196 = .ok (.getfield 148, 3) := by decide +kernel
theorem dX12_resolve_199 : decode cX12_resolve 199 = .ok (.iload_n 1, 1) := by decide +kernel
theorem dX12_resolve_200 : decode cX12_resolve 200 = .ok (.iaload, 1) := by decide +kernel
theorem dX12_resolve_201 : decode cX12_resolve 201 = .ok (.invokevirtual 94, 3) := by decide +kernel
theorem dX12_resolve_204 : decode cX12_resolve 204 = .ok (.pop, 1) := by decide +kernel
theorem dX12_resolve_205 : decode cX12_resolve 205 = .ok (.goto 122, 3) := by decide +kernel
theorem dX12_resolve_208 : decode cX12_resolve 208 = .ok (.aload_n 0, 1) := by decide +kernel
theorem dX12_resolve_209 : decode cX12_resolve 209 = .ok (.getfield 142, 3) := by decide +kernel
theorem dX12_resolve_212 : decode cX12_resolve 212 = .ok (.iload_n 2, 1) := by decide +kernel
theorem dX12_resolve_213 : decode cX12_resolve 213 = .ok (.iaload, 1) := by decide +kernel
theorem dX12_resolve_214 : decode cX12_resolve 214 = .ok (.istore_n 3, 1) := by decide +kernel
theorem dX12_resolve_215 : decode cX12_resolve 215 = .ok (.aload_n 0, 1) := by decide +kernel
theorem dX12_resolve_216 : decode cX12_resolve 216 = .ok (.getfield 157, 3) := by decide +kernel
theorem dX12_resolve_219 : decode cX12_resolve 219 = .ok (.iload_n 1, 1) := by decide +kernel
theorem dX12_resolve_220 : decode cX12_resolve 220 = .ok (.iaload, 1) := by decide +kernel
theorem dX12_resolve_221 : decode cX12_resolve 221 = .ok (.ifCond .ne 34, 3) := by decide +kernel
theorem dX12_resolve_224 : decode cX12_resolve 224 = .ok (.aload_n 0, 1) := by decide +kernel
theorem dX12_resolve_225 : decode cX12_resolve 225 = .ok (.getfield 163, 3) := by decide +kernel
theorem dX12_resolve_228 : decode cX12_resolve 228 = .ok (.aload_n 0, 1) := by decide +kernel
theorem dX12_resolve_229 : decode cX12_resolve 229 = .ok (.getfield 160, 3) := by decide +kernel
theorem dX12_resolve_232 : decode cX12_resolve 232 = .ok (.iload_n 1, 1) := by decide +kernel
theorem dX12_resolve_233 : decode cX12_resolve 233 = .ok (.iaload, 1) := by decide +kernel
theorem dX12_resolve_234 : decode cX12_resolve 234 = .ok (.dup2, 1) := by decide +kernel
theorem dX12_resolve_235 : decode cX12_resolve 235 = .ok (.iaload, 1) := by decide +kernel
theorem dX12_resolve_236 : decode cX12_resolve 236 = .ok (.aload_n 0, 1) := by decide +kernel
theorem dX12_resolve_237 : decode cX12_resolve 237 = .ok (.getfield 163, 3) := by decide +kernel
theorem dX12_resolve_240 : decode cX12_resolve 240 = .ok (.bipush 9, 2) := by decide +kernel
theorem dX12_resolve_242 : decode cX12_resolve 242 = .ok (.aload_n 0, 1) := by decide +kernel
theorem dX12_resolve_243 : decode cX12_resolve 243 = .ok (.getfield 11, 3) := by decide +kernel
theorem dX12_resolve_246 : decode cX12_resolve 246 = .ok (.imul, 1) := by decide +kernel
theorem dX12_resolve_247 : decode cX12_resolve 247 = .ok (.iload_n 3, 1) := by decide +kernel
theorem dX12_resolve_248 : decode cX12_resolve 248 = .ok (.iadd, 1) := by decide +kernel
theorem dX12_resolve_249 : decode cX12_resolve 249 = .ok (.iaload, 1) := by decide +kernel
theorem dX12_resolve_250 : decode cX12_resolve 250 = .ok (.ior, 1) := by decide +kernel
theorem dX12_resolve_251 : decode cX12_resolve 251 = .ok (.iastore, 1) := by decide +kernel
theorem dX12_resolve_252 : decode cX12_resolve 252 = .ok (.goto 75, 3) := by decide +kernel
theorem dX12_resolve_255 : decode cX12_resolve 255 = .ok (.aload_n 0, 1) := by decide +kernel
theorem dX12_resolve_256 : decode cX12_resolve 256 = .ok (.getfield 157, 3) := by decide +kernel
theorem dX12_resolve_259 : decode cX12_resolve 259 = .ok (.iload_n 1, 1) := by decide +kernel
theorem dX12_resolve_260 : decode cX12_resolve 260 = .ok (.iaload, 1) := by decide +kernel
theorem dX12_resolve_261 : decode cX12_resolve 261 = .ok (.iconst 1, 1) := by decide +kernel
theorem dX12_resolve_262 : decode cX12_resolve 262 = .ok (.if_icmp .ne 18, 3) := by decide +kernel
theorem dX12_resolve_265 : decode cX12_resolve 265 = .ok (.aload_n 0, 1) := by decide +kernel
theorem dX12_resolve_266 : decode cX12_resolve 266 = .ok (.getfield 166, 3) := by decide +kernel
theorem dX12_resolve_269 : decode cX12_resolve 269 = .ok (.aload_n 0, 1) := by decide +kernel
theorem dX12_resolve_270 : decode cX12_resolve 270 = .ok (.getfield 160, 3) := by decide +kernel
theorem dX12_resolve_273 : decode cX12_resolve 273 = .ok (.iload_n 1, 1) := by decide +kernel
theorem dX12_resolve_274 : decode cX12_resolve 274 = .ok (.iaload, 1) := by decide +kernel
theorem dX12_resolve_275 : decode cX12_resolve 275 = .ok (.iload_n 3, 1) := by decide +kernel
theorem dX12_resolve_276 : decode cX12_resolve 276 = .ok (.iastore, 1) := by decide +kernel
theorem dX12_resolve_277 : decode cX12_resolve 277 = .ok (.goto 50, 3) := by decide +kernel
theorem dX12_resolve_280 : decode cX12_resolve 280 = .ok (.aload_n 0, 1) := by decide +kernel
theorem dX12_resolve_281 : decode cX12_resolve 281 = .ok (.getfield 157, 3) := by decide +kernel
theorem dX12_resolve_284 : decode cX12_resolve 284 = .ok (.iload_n 1, 1) := by decide +kernel
theorem dX12_resolve_285 : decode cX12_resolve 285 = .ok (.iaload, 1) := by decide +kernel
theorem dX12_resolve_286 : decode cX12_resolve 286 = .ok (.iconst 3, 1) := by decide +kernel
theorem dX12_resolve_287 : decode cX12_resolve 287 = .ok (.if_icmp .ne 18, 3) := by decide +kernel
theorem dX12_resolve_290 : decode cX12_resolve 290 = .ok (.aload_n 0, 1) := by decide +kernel
theorem dX12_resolve_291 : decode cX12_resolve 291 = .ok (.getfield 223, 3) := by decide +kernel
theorem dX12_resolve_294 : decode cX12_resolve 294 = .ok (.aload_n 0, 1) := by decide +kernel
theorem dX12_resolve_295 : decode cX12_resolve 295 = .ok (.getfield 160, 3) := by decide +kernel
theorem dX12_resolve_298 : decode cX12_resolve 298 = .ok (.iload_n 1, 1) := by decide +kernel
theorem dX12_resolve_299 : decode cX12_resolve 299 = .ok (.iaload, 1) := by decide +kernel
theorem dX12_resolve_300 : decode cX12_resolve 300 = .ok (.iload_n 3, 1) := by decide +kernel
theorem dX12_resolve_301 : decode cX12_resolve 301 = .ok (.iastore, 1) := by decide +kernel
theorem dX12_resolve_302 : decode cX12_resolve 302 = .ok (.goto 25, 3) := by decide +kernel
theorem dX12_resolve_305 : decode cX12_resolve 305 = .ok (.aload_n 0, 1) := by decide +kernel
theorem dX12_resolve_306 : decode cX12_resolve 306 = .ok (.getfield 157, 3) := by decide +kernel
theorem dX12_resolve_309 : decode cX12_resolve 309 = .ok (.iload_n 1, 1) := by decide +kernel
theorem dX12_resolve_310 : decode cX12_resolve 310 = .ok (.iaload, 1) := by decide +kernel
theorem dX12_resolve_311 : decode cX12_resolve 311 = .ok (.iconst 4, 1) := by decide +kernel
theorem dX12_resolve_312 : decode cX12_resolve 312 = .ok (.if_icmp .ne 15, 3) := by decide +kernel
theorem dX12_resolve_315 : decode cX12_resolve 315 = .ok (.aload_n 0, 1) := by decide +kernel
theorem dX12_resolve_316 : decode cX12_resolve 316 = .ok (.getfield 241, 3) := by decide +kernel
theorem dX12_resolve_319 : decode cX12_resolve 319 = .ok (.aload_n 0, 1) := by decide +kernel
theorem dX12_resolve_320 : decode cX12_resolve 320 = .ok (.getfield 160, 3) := by decide +kernel
theorem dX12_resolve_323 : decode cX12_resolve 323 = .ok (.iload_n 1, 1) := by decide +kernel
theorem dX12_resolve_324 : decode cX12_resolve 324 = .ok (.iaload, 1) := by decide +kernel
theorem dX12_resolve_325 : decode cX12_resolve 325 = .ok (.iload_n 3, 1) := by decide +kernel
theorem dX12_resolve_326 : decode cX12_resolve 326 = .ok (.iastore, 1) := by decide +kernel
theorem dX12_resolve_327 : decode cX12_resolve 327 = .ok (.iinc 1 1, 3) := by decide +kernel
theorem dX12_resolve_330 : decode cX12_resolve 330 = .ok (.goto (-328), 3) := by decide +kernel
theorem dX12_resolve_333 : decode cX12_resolve 333 = .ok (.return_, 1) := by decide +kernel
