/-! the law: its code, its links -/
theorem dL_0 : decode cL_law 0 = .ok (.new 7, 3) := by decide +kernel
theorem dL_3 : decode cL_law 3 = .ok (.dup, 1) := by decide +kernel
theorem dL_4 : decode cL_law 4 = .ok (.invokespecial 9, 3) := by decide +kernel
theorem dL_7 : decode cL_law 7 = .ok (.astore_n 1, 1) := by decide +kernel
theorem dL_8 : decode cL_law 8 = .ok (.new 10, 3) := by decide +kernel
theorem dL_11 : decode cL_law 11 = .ok (.dup, 1) := by decide +kernel
theorem dL_12 : decode cL_law 12 = .ok (.invokespecial 12, 3) := by decide +kernel
theorem dL_15 : decode cL_law 15 = .ok (.astore_n 2, 1) := by decide +kernel
theorem dL_16 : decode cL_law 16 = .ok (.iconst 0, 1) := by decide +kernel
theorem dL_17 : decode cL_law 17 = .ok (.istore_n 3, 1) := by decide +kernel
theorem dL_18 : decode cL_law 18 = .ok (.iload_n 3, 1) := by decide +kernel
theorem dL_19 : decode cL_law 19 = .ok (.aload_n 0, 1) := by decide +kernel
theorem dL_20 : decode cL_law 20 = .ok (.arraylength, 1) := by decide +kernel
theorem dL_21 : decode cL_law 21 = .ok (.bipush 6, 2) := by decide +kernel
theorem dL_23 : decode cL_law 23 = .ok (.isub, 1) := by decide +kernel
theorem dL_24 : decode cL_law 24 = .ok (.if_icmp .gt 1040, 3) := by decide +kernel
theorem dL_27 : decode cL_law 27 = .ok (.aload_n 0, 1) := by decide +kernel
theorem dL_28 : decode cL_law 28 = .ok (.iload_n 3, 1) := by decide +kernel
theorem dL_29 : decode cL_law 29 = .ok (.iaload, 1) := by decide +kernel
theorem dL_30 : decode cL_law 30 = .ok (.bipush 31, 2) := by decide +kernel
theorem dL_32 : decode cL_law 32 = .ok (.iand, 1) := by decide +kernel
theorem dL_33 : decode cL_law 33 = .ok (.tableswitch 1025 0 23 #[111, 174, 197, 210, 233, 286, 319, 382, 415, 438, 507, 606, 649, 692, 735, 768, 801, 834, 867, 900, 933, 956, 969, 1012], 111) := by decide +kernel
theorem dL_144 : decode cL_law 144 = .ok (.aload_n 1, 1) := by decide +kernel
theorem dL_145 : decode cL_law 145 = .ok (.aload_n 0, 1) := by decide +kernel
theorem dL_146 : decode cL_law 146 = .ok (.iload_n 3, 1) := by decide +kernel
theorem dL_147 : decode cL_law 147 = .ok (.iconst 1, 1) := by decide +kernel
theorem dL_148 : decode cL_law 148 = .ok (.iadd, 1) := by decide +kernel
theorem dL_149 : decode cL_law 149 = .ok (.iaload, 1) := by decide +kernel
theorem dL_150 : decode cL_law 150 = .ok (.aload_n 0, 1) := by decide +kernel
theorem dL_151 : decode cL_law 151 = .ok (.iload_n 3, 1) := by decide +kernel
theorem dL_152 : decode cL_law 152 = .ok (.iconst 2, 1) := by decide +kernel
theorem dL_153 : decode cL_law 153 = .ok (.iadd, 1) := by decide +kernel
theorem dL_154 : decode cL_law 154 = .ok (.iaload, 1) := by decide +kernel
theorem dL_155 : decode cL_law 155 = .ok (.aload_n 0, 1) := by decide +kernel
theorem dL_156 : decode cL_law 156 = .ok (.iload_n 3, 1) := by decide +kernel
theorem dL_157 : decode cL_law 157 = .ok (.iconst 3, 1) := by decide +kernel
theorem dL_158 : decode cL_law 158 = .ok (.iadd, 1) := by decide +kernel
theorem dL_159 : decode cL_law 159 = .ok (.iaload, 1) := by decide +kernel
theorem dL_160 : decode cL_law 160 = .ok (.aload_n 0, 1) := by decide +kernel
theorem dL_161 : decode cL_law 161 = .ok (.iload_n 3, 1) := by decide +kernel
theorem dL_162 : decode cL_law 162 = .ok (.iconst 4, 1) := by decide +kernel
theorem dL_163 : decode cL_law 163 = .ok (.iadd, 1) := by decide +kernel
theorem dL_164 : decode cL_law 164 = .ok (.iaload, 1) := by decide +kernel
theorem dL_165 : decode cL_law 165 = .ok (.aload_n 0, 1) := by decide +kernel
theorem dL_166 : decode cL_law 166 = .ok (.iload_n 3, 1) := by decide +kernel
theorem dL_167 : decode cL_law 167 = .ok (.iconst 5, 1) := by decide +kernel
theorem dL_168 : decode cL_law 168 = .ok (.iadd, 1) := by decide +kernel
theorem dL_169 : decode cL_law 169 = .ok (.iaload, 1) := by decide +kernel
theorem dL_170 : decode cL_law 170 = .ok (.invokevirtual 13, 3) := by decide +kernel
theorem dL_173 : decode cL_law 173 = .ok (.aload_n 2, 1) := by decide +kernel
theorem dL_174 : decode cL_law 174 = .ok (.aload_n 0, 1) := by decide +kernel
theorem dL_175 : decode cL_law 175 = .ok (.iload_n 3, 1) := by decide +kernel
theorem dL_176 : decode cL_law 176 = .ok (.iconst 1, 1) := by decide +kernel
theorem dL_177 : decode cL_law 177 = .ok (.iadd, 1) := by decide +kernel
theorem dL_178 : decode cL_law 178 = .ok (.iaload, 1) := by decide +kernel
theorem dL_179 : decode cL_law 179 = .ok (.aload_n 0, 1) := by decide +kernel
theorem dL_180 : decode cL_law 180 = .ok (.iload_n 3, 1) := by decide +kernel
theorem dL_181 : decode cL_law 181 = .ok (.iconst 2, 1) := by decide +kernel
theorem dL_182 : decode cL_law 182 = .ok (.iadd, 1) := by decide +kernel
theorem dL_183 : decode cL_law 183 = .ok (.iaload, 1) := by decide +kernel
theorem dL_184 : decode cL_law 184 = .ok (.aload_n 0, 1) := by decide +kernel
theorem dL_185 : decode cL_law 185 = .ok (.iload_n 3, 1) := by decide +kernel
theorem dL_186 : decode cL_law 186 = .ok (.iconst 3, 1) := by decide +kernel
theorem dL_187 : decode cL_law 187 = .ok (.iadd, 1) := by decide +kernel
theorem dL_188 : decode cL_law 188 = .ok (.iaload, 1) := by decide +kernel
theorem dL_189 : decode cL_law 189 = .ok (.aload_n 0, 1) := by decide +kernel
theorem dL_190 : decode cL_law 190 = .ok (.iload_n 3, 1) := by decide +kernel
theorem dL_191 : decode cL_law 191 = .ok (.iconst 4, 1) := by decide +kernel
theorem dL_192 : decode cL_law 192 = .ok (.iadd, 1) := by decide +kernel
theorem dL_193 : decode cL_law 193 = .ok (.iaload, 1) := by decide +kernel
theorem dL_194 : decode cL_law 194 = .ok (.aload_n 0, 1) := by decide +kernel
theorem dL_195 : decode cL_law 195 = .ok (.iload_n 3, 1) := by decide +kernel
theorem dL_196 : decode cL_law 196 = .ok (.iconst 5, 1) := by decide +kernel
theorem dL_197 : decode cL_law 197 = .ok (.iadd, 1) := by decide +kernel
theorem dL_198 : decode cL_law 198 = .ok (.iaload, 1) := by decide +kernel
theorem dL_199 : decode cL_law 199 = .ok (.invokevirtual 17, 3) := by decide +kernel
theorem dL_202 : decode cL_law 202 = .ok (.if_icmp .eq 856, 3) := by decide +kernel
theorem dL_205 : decode cL_law 205 = .ok (.iconst 0, 1) := by decide +kernel
theorem dL_206 : decode cL_law 206 = .ok (.ireturn, 1) := by decide +kernel
theorem dL_207 : decode cL_law 207 = .ok (.aload_n 1, 1) := by decide +kernel
theorem dL_208 : decode cL_law 208 = .ok (.aload_n 0, 1) := by decide +kernel
theorem dL_209 : decode cL_law 209 = .ok (.iload_n 3, 1) := by decide +kernel
theorem dL_210 : decode cL_law 210 = .ok (.iconst 1, 1) := by decide +kernel
theorem dL_211 : decode cL_law 211 = .ok (.iadd, 1) := by decide +kernel
theorem dL_212 : decode cL_law 212 = .ok (.iaload, 1) := by decide +kernel
theorem dL_213 : decode cL_law 213 = .ok (.invokevirtual 18, 3) := by decide +kernel
theorem dL_216 : decode cL_law 216 = .ok (.pop, 1) := by decide +kernel
theorem dL_217 : decode cL_law 217 = .ok (.aload_n 2, 1) := by decide +kernel
theorem dL_218 : decode cL_law 218 = .ok (.aload_n 0, 1) := by decide +kernel
theorem dL_219 : decode cL_law 219 = .ok (.iload_n 3, 1) := by decide +kernel
theorem dL_220 : decode cL_law 220 = .ok (.iconst 1, 1) := by decide +kernel
theorem dL_221 : decode cL_law 221 = .ok (.iadd, 1) := by decide +kernel
theorem dL_222 : decode cL_law 222 = .ok (.iaload, 1) := by decide +kernel
theorem dL_223 : decode cL_law 223 = .ok (.invokevirtual 22, 3) := by decide +kernel
theorem dL_226 : decode cL_law 226 = .ok (.pop, 1) := by decide +kernel
theorem dL_227 : decode cL_law 227 = .ok (.goto 831, 3) := by decide +kernel
theorem dL_230 : decode cL_law 230 = .ok (.aload_n 1, 1) := by decide +kernel
theorem dL_231 : decode cL_law 231 = .ok (.invokevirtual 23, 3) := by decide +kernel
theorem dL_234 : decode cL_law 234 = .ok (.pop, 1) := by decide +kernel
theorem dL_235 : decode cL_law 235 = .ok (.aload_n 2, 1) := by decide +kernel
theorem dL_236 : decode cL_law 236 = .ok (.invokevirtual 27, 3) := by decide +kernel
theorem dL_239 : decode cL_law 239 = .ok (.pop, 1) := by decide +kernel
theorem dL_240 : decode cL_law 240 = .ok (.goto 818, 3) := by decide +kernel
theorem dL_243 : decode cL_law 243 = .ok (.aload_n 1, 1) := by decide +kernel
theorem dL_244 : decode cL_law 244 = .ok (.aload_n 0, 1) := by decide +kernel
theorem dL_245 : decode cL_law 245 = .ok (.iload_n 3, 1) := by decide +kernel
theorem dL_246 : decode cL_law 246 = .ok (.iconst 1, 1) := by decide +kernel
theorem dL_247 : decode cL_law 247 = .ok (.iadd, 1) := by decide +kernel
theorem dL_248 : decode cL_law 248 = .ok (.iaload, 1) := by decide +kernel
theorem dL_249 : decode cL_law 249 = .ok (.invokevirtual 28, 3) := by decide +kernel
theorem dL_252 : decode cL_law 252 = .ok (.pop, 1) := by decide +kernel
theorem dL_253 : decode cL_law 253 = .ok (.aload_n 2, 1) := by decide +kernel
theorem dL_254 : decode cL_law 254 = .ok (.aload_n 0, 1) := by decide +kernel
theorem dL_255 : decode cL_law 255 = .ok (.iload_n 3, 1) := by decide +kernel
theorem dL_256 : decode cL_law 256 = .ok (.iconst 1, 1) := by decide +kernel
theorem dL_257 : decode cL_law 257 = .ok (.iadd, 1) := by decide +kernel
theorem dL_258 : decode cL_law 258 = .ok (.iaload, 1) := by decide +kernel
theorem dL_259 : decode cL_law 259 = .ok (.invokevirtual 31, 3) := by decide +kernel
theorem dL_262 : decode cL_law 262 = .ok (.pop, 1) := by decide +kernel
theorem dL_263 : decode cL_law 263 = .ok (.goto 795, 3) := by decide +kernel
theorem dL_266 : decode cL_law 266 = .ok (.aload_n 1, 1) := by decide +kernel
theorem dL_267 : decode cL_law 267 = .ok (.aload_n 0, 1) := by decide +kernel
theorem dL_268 : decode cL_law 268 = .ok (.iload_n 3, 1) := by decide +kernel
theorem dL_269 : decode cL_law 269 = .ok (.iconst 1, 1) := by decide +kernel
theorem dL_270 : decode cL_law 270 = .ok (.iadd, 1) := by decide +kernel
theorem dL_271 : decode cL_law 271 = .ok (.iaload, 1) := by decide +kernel
theorem dL_272 : decode cL_law 272 = .ok (.i2l, 1) := by decide +kernel
theorem dL_273 : decode cL_law 273 = .ok (.bipush 32, 2) := by decide +kernel
theorem dL_275 : decode cL_law 275 = .ok (.lshl, 1) := by decide +kernel
theorem dL_276 : decode cL_law 276 = .ok (.aload_n 0, 1) := by decide +kernel
theorem dL_277 : decode cL_law 277 = .ok (.iload_n 3, 1) := by decide +kernel
theorem dL_278 : decode cL_law 278 = .ok (.iconst 2, 1) := by decide +kernel
theorem dL_279 : decode cL_law 279 = .ok (.iadd, 1) := by decide +kernel
theorem dL_280 : decode cL_law 280 = .ok (.iaload, 1) := by decide +kernel
theorem dL_281 : decode cL_law 281 = .ok (.i2l, 1) := by decide +kernel
theorem dL_282 : decode cL_law 282 = .ok (.ldc2_w 32, 3) := by decide +kernel
theorem dL_285 : decode cL_law 285 = .ok (.land, 1) := by decide +kernel
theorem dL_286 : decode cL_law 286 = .ok (.lor, 1) := by decide +kernel
theorem dL_287 : decode cL_law 287 = .ok (.invokevirtual 34, 3) := by decide +kernel
theorem dL_290 : decode cL_law 290 = .ok (.pop, 1) := by decide +kernel
theorem dL_291 : decode cL_law 291 = .ok (.aload_n 2, 1) := by decide +kernel
theorem dL_292 : decode cL_law 292 = .ok (.aload_n 0, 1) := by decide +kernel
theorem dL_293 : decode cL_law 293 = .ok (.iload_n 3, 1) := by decide +kernel
theorem dL_294 : decode cL_law 294 = .ok (.iconst 1, 1) := by decide +kernel
theorem dL_295 : decode cL_law 295 = .ok (.iadd, 1) := by decide +kernel
theorem dL_296 : decode cL_law 296 = .ok (.iaload, 1) := by decide +kernel
theorem dL_297 : decode cL_law 297 = .ok (.i2l, 1) := by decide +kernel
theorem dL_298 : decode cL_law 298 = .ok (.bipush 32, 2) := by decide +kernel
theorem dL_300 : decode cL_law 300 = .ok (.lshl, 1) := by decide +kernel
theorem dL_301 : decode cL_law 301 = .ok (.aload_n 0, 1) := by decide +kernel
theorem dL_302 : decode cL_law 302 = .ok (.iload_n 3, 1) := by decide +kernel
theorem dL_303 : decode cL_law 303 = .ok (.iconst 2, 1) := by decide +kernel
theorem dL_304 : decode cL_law 304 = .ok (.iadd, 1) := by decide +kernel
theorem dL_305 : decode cL_law 305 = .ok (.iaload, 1) := by decide +kernel
theorem dL_306 : decode cL_law 306 = .ok (.i2l, 1) := by decide +kernel
theorem dL_307 : decode cL_law 307 = .ok (.ldc2_w 32, 3) := by decide +kernel
theorem dL_310 : decode cL_law 310 = .ok (.land, 1) := by decide +kernel
theorem dL_311 : decode cL_law 311 = .ok (.lor, 1) := by decide +kernel
theorem dL_312 : decode cL_law 312 = .ok (.invokevirtual 38, 3) := by decide +kernel
theorem dL_315 : decode cL_law 315 = .ok (.pop, 1) := by decide +kernel
theorem dL_316 : decode cL_law 316 = .ok (.goto 742, 3) := by decide +kernel
theorem dL_319 : decode cL_law 319 = .ok (.aload_n 1, 1) := by decide +kernel
theorem dL_320 : decode cL_law 320 = .ok (.aload_n 0, 1) := by decide +kernel
theorem dL_321 : decode cL_law 321 = .ok (.iload_n 3, 1) := by decide +kernel
theorem dL_322 : decode cL_law 322 = .ok (.iconst 1, 1) := by decide +kernel
theorem dL_323 : decode cL_law 323 = .ok (.iadd, 1) := by decide +kernel
theorem dL_324 : decode cL_law 324 = .ok (.iaload, 1) := by decide +kernel
theorem dL_325 : decode cL_law 325 = .ok (.aload_n 0, 1) := by decide +kernel
theorem dL_326 : decode cL_law 326 = .ok (.iload_n 3, 1) := by decide +kernel
theorem dL_327 : decode cL_law 327 = .ok (.iconst 2, 1) := by decide +kernel
theorem dL_328 : decode cL_law 328 = .ok (.iadd, 1) := by decide +kernel
theorem dL_329 : decode cL_law 329 = .ok (.iaload, 1) := by decide +kernel
theorem dL_330 : decode cL_law 330 = .ok (.invokevirtual 39, 3) := by decide +kernel
theorem dL_333 : decode cL_law 333 = .ok (.pop, 1) := by decide +kernel
theorem dL_334 : decode cL_law 334 = .ok (.aload_n 2, 1) := by decide +kernel
theorem dL_335 : decode cL_law 335 = .ok (.aload_n 0, 1) := by decide +kernel
theorem dL_336 : decode cL_law 336 = .ok (.iload_n 3, 1) := by decide +kernel
theorem dL_337 : decode cL_law 337 = .ok (.iconst 1, 1) := by decide +kernel
theorem dL_338 : decode cL_law 338 = .ok (.iadd, 1) := by decide +kernel
theorem dL_339 : decode cL_law 339 = .ok (.iaload, 1) := by decide +kernel
theorem dL_340 : decode cL_law 340 = .ok (.aload_n 0, 1) := by decide +kernel
theorem dL_341 : decode cL_law 341 = .ok (.iload_n 3, 1) := by decide +kernel
theorem dL_342 : decode cL_law 342 = .ok (.iconst 2, 1) := by decide +kernel
theorem dL_343 : decode cL_law 343 = .ok (.iadd, 1) := by decide +kernel
theorem dL_344 : decode cL_law 344 = .ok (.iaload, 1) := by decide +kernel
theorem dL_345 : decode cL_law 345 = .ok (.invokevirtual 43, 3) := by decide +kernel
theorem dL_348 : decode cL_law 348 = .ok (.pop, 1) := by decide +kernel
theorem dL_349 : decode cL_law 349 = .ok (.goto 709, 3) := by decide +kernel
theorem dL_352 : decode cL_law 352 = .ok (.aload_n 1, 1) := by decide +kernel
theorem dL_353 : decode cL_law 353 = .ok (.aload_n 0, 1) := by decide +kernel
theorem dL_354 : decode cL_law 354 = .ok (.iload_n 3, 1) := by decide +kernel
theorem dL_355 : decode cL_law 355 = .ok (.iconst 1, 1) := by decide +kernel
theorem dL_356 : decode cL_law 356 = .ok (.iadd, 1) := by decide +kernel
theorem dL_357 : decode cL_law 357 = .ok (.iaload, 1) := by decide +kernel
theorem dL_358 : decode cL_law 358 = .ok (.aload_n 0, 1) := by decide +kernel
theorem dL_359 : decode cL_law 359 = .ok (.iload_n 3, 1) := by decide +kernel
theorem dL_360 : decode cL_law 360 = .ok (.iconst 2, 1) := by decide +kernel
theorem dL_361 : decode cL_law 361 = .ok (.iadd, 1) := by decide +kernel
theorem dL_362 : decode cL_law 362 = .ok (.iaload, 1) := by decide +kernel
theorem dL_363 : decode cL_law 363 = .ok (.i2l, 1) := by decide +kernel
theorem dL_364 : decode cL_law 364 = .ok (.bipush 32, 2) := by decide +kernel
theorem dL_366 : decode cL_law 366 = .ok (.lshl, 1) := by decide +kernel
theorem dL_367 : decode cL_law 367 = .ok (.aload_n 0, 1) := by decide +kernel
theorem dL_368 : decode cL_law 368 = .ok (.iload_n 3, 1) := by decide +kernel
theorem dL_369 : decode cL_law 369 = .ok (.iconst 3, 1) := by decide +kernel
theorem dL_370 : decode cL_law 370 = .ok (.iadd, 1) := by decide +kernel
theorem dL_371 : decode cL_law 371 = .ok (.iaload, 1) := by decide +kernel
theorem dL_372 : decode cL_law 372 = .ok (.i2l, 1) := by decide +kernel
theorem dL_373 : decode cL_law 373 = .ok (.ldc2_w 32, 3) := by decide +kernel
theorem dL_376 : decode cL_law 376 = .ok (.land, 1) := by decide +kernel
theorem dL_377 : decode cL_law 377 = .ok (.lor, 1) := by decide +kernel
theorem dL_378 : decode cL_law 378 = .ok (.invokevirtual 44, 3) := by decide +kernel
theorem dL_381 : decode cL_law 381 = .ok (.pop, 1) := by decide +kernel
theorem dL_382 : decode cL_law 382 = .ok (.aload_n 2, 1) := by decide +kernel
theorem dL_383 : decode cL_law 383 = .ok (.aload_n 0, 1) := by decide +kernel
theorem dL_384 : decode cL_law 384 = .ok (.iload_n 3, 1) := by decide +kernel
theorem dL_385 : decode cL_law 385 = .ok (.iconst 1, 1) := by decide +kernel
theorem dL_386 : decode cL_law 386 = .ok (.iadd, 1) := by decide +kernel
theorem dL_387 : decode cL_law 387 = .ok (.iaload, 1) := by decide +kernel
theorem dL_388 : decode cL_law 388 = .ok (.aload_n 0, 1) := by decide +kernel
theorem dL_389 : decode cL_law 389 = .ok (.iload_n 3, 1) := by decide +kernel
theorem dL_390 : decode cL_law 390 = .ok (.iconst 2, 1) := by decide +kernel
theorem dL_391 : decode cL_law 391 = .ok (.iadd, 1) := by decide +kernel
theorem dL_392 : decode cL_law 392 = .ok (.iaload, 1) := by decide +kernel
theorem dL_393 : decode cL_law 393 = .ok (.i2l, 1) := by decide +kernel
theorem dL_394 : decode cL_law 394 = .ok (.bipush 32, 2) := by decide +kernel
theorem dL_396 : decode cL_law 396 = .ok (.lshl, 1) := by decide +kernel
theorem dL_397 : decode cL_law 397 = .ok (.aload_n 0, 1) := by decide +kernel
theorem dL_398 : decode cL_law 398 = .ok (.iload_n 3, 1) := by decide +kernel
theorem dL_399 : decode cL_law 399 = .ok (.iconst 3, 1) := by decide +kernel
theorem dL_400 : decode cL_law 400 = .ok (.iadd, 1) := by decide +kernel
theorem dL_401 : decode cL_law 401 = .ok (.iaload, 1) := by decide +kernel
theorem dL_402 : decode cL_law 402 = .ok (.i2l, 1) := by decide +kernel
theorem dL_403 : decode cL_law 403 = .ok (.ldc2_w 32, 3) := by decide +kernel
theorem dL_406 : decode cL_law 406 = .ok (.land, 1) := by decide +kernel
theorem dL_407 : decode cL_law 407 = .ok (.lor, 1) := by decide +kernel
theorem dL_408 : decode cL_law 408 = .ok (.invokevirtual 48, 3) := by decide +kernel
theorem dL_411 : decode cL_law 411 = .ok (.pop, 1) := by decide +kernel
theorem dL_412 : decode cL_law 412 = .ok (.goto 646, 3) := by decide +kernel
theorem dL_415 : decode cL_law 415 = .ok (.aload_n 1, 1) := by decide +kernel
theorem dL_416 : decode cL_law 416 = .ok (.aload_n 0, 1) := by decide +kernel
theorem dL_417 : decode cL_law 417 = .ok (.iload_n 3, 1) := by decide +kernel
theorem dL_418 : decode cL_law 418 = .ok (.iconst 1, 1) := by decide +kernel
theorem dL_419 : decode cL_law 419 = .ok (.iadd, 1) := by decide +kernel
theorem dL_420 : decode cL_law 420 = .ok (.iaload, 1) := by decide +kernel
theorem dL_421 : decode cL_law 421 = .ok (.aload_n 0, 1) := by decide +kernel
theorem dL_422 : decode cL_law 422 = .ok (.iload_n 3, 1) := by decide +kernel
theorem dL_423 : decode cL_law 423 = .ok (.iconst 2, 1) := by decide +kernel
theorem dL_424 : decode cL_law 424 = .ok (.iadd, 1) := by decide +kernel
theorem dL_425 : decode cL_law 425 = .ok (.iaload, 1) := by decide +kernel
theorem dL_426 : decode cL_law 426 = .ok (.invokevirtual 49, 3) := by decide +kernel
theorem dL_429 : decode cL_law 429 = .ok (.pop, 1) := by decide +kernel
theorem dL_430 : decode cL_law 430 = .ok (.aload_n 2, 1) := by decide +kernel
theorem dL_431 : decode cL_law 431 = .ok (.aload_n 0, 1) := by decide +kernel
theorem dL_432 : decode cL_law 432 = .ok (.iload_n 3, 1) := by decide +kernel
theorem dL_433 : decode cL_law 433 = .ok (.iconst 1, 1) := by decide +kernel
theorem dL_434 : decode cL_law 434 = .ok (.iadd, 1) := by decide +kernel
theorem dL_435 : decode cL_law 435 = .ok (.iaload, 1) := by decide +kernel
theorem dL_436 : decode cL_law 436 = .ok (.aload_n 0, 1) := by decide +kernel
theorem dL_437 : decode cL_law 437 = .ok (.iload_n 3, 1) := by decide +kernel
theorem dL_438 : decode cL_law 438 = .ok (.iconst 2, 1) := by decide +kernel
theorem dL_439 : decode cL_law 439 = .ok (.iadd, 1) := by decide +kernel
theorem dL_440 : decode cL_law 440 = .ok (.iaload, 1) := by decide +kernel
theorem dL_441 : decode cL_law 441 = .ok (.invokevirtual 52, 3) := by decide +kernel
theorem dL_444 : decode cL_law 444 = .ok (.pop, 1) := by decide +kernel
theorem dL_445 : decode cL_law 445 = .ok (.goto 613, 3) := by decide +kernel
theorem dL_448 : decode cL_law 448 = .ok (.aload_n 1, 1) := by decide +kernel
theorem dL_449 : decode cL_law 449 = .ok (.aload_n 0, 1) := by decide +kernel
theorem dL_450 : decode cL_law 450 = .ok (.iload_n 3, 1) := by decide +kernel
theorem dL_451 : decode cL_law 451 = .ok (.iconst 1, 1) := by decide +kernel
theorem dL_452 : decode cL_law 452 = .ok (.iadd, 1) := by decide +kernel
theorem dL_453 : decode cL_law 453 = .ok (.iaload, 1) := by decide +kernel
theorem dL_454 : decode cL_law 454 = .ok (.invokevirtual 53, 3) := by decide +kernel
theorem dL_457 : decode cL_law 457 = .ok (.pop, 1) := by decide +kernel
theorem dL_458 : decode cL_law 458 = .ok (.aload_n 2, 1) := by decide +kernel
theorem dL_459 : decode cL_law 459 = .ok (.aload_n 0, 1) := by decide +kernel
theorem dL_460 : decode cL_law 460 = .ok (.iload_n 3, 1) := by decide +kernel
theorem dL_461 : decode cL_law 461 = .ok (.iconst 1, 1) := by decide +kernel
theorem dL_462 : decode cL_law 462 = .ok (.iadd, 1) := by decide +kernel
theorem dL_463 : decode cL_law 463 = .ok (.iaload, 1) := by decide +kernel
theorem dL_464 : decode cL_law 464 = .ok (.invokevirtual 56, 3) := by decide +kernel
theorem dL_467 : decode cL_law 467 = .ok (.pop, 1) := by decide +kernel
theorem dL_468 : decode cL_law 468 = .ok (.goto 590, 3) := by decide +kernel
theorem dL_471 : decode cL_law 471 = .ok (.aload_n 1, 1) := by decide +kernel
theorem dL_472 : decode cL_law 472 = .ok (.aload_n 0, 1) := by decide +kernel
theorem dL_473 : decode cL_law 473 = .ok (.iload_n 3, 1) := by decide +kernel
theorem dL_474 : decode cL_law 474 = .ok (.iconst 1, 1) := by decide +kernel
theorem dL_475 : decode cL_law 475 = .ok (.iadd, 1) := by decide +kernel
theorem dL_476 : decode cL_law 476 = .ok (.iaload, 1) := by decide +kernel
theorem dL_477 : decode cL_law 477 = .ok (.aload_n 0, 1) := by decide +kernel
theorem dL_478 : decode cL_law 478 = .ok (.iload_n 3, 1) := by decide +kernel
theorem dL_479 : decode cL_law 479 = .ok (.iconst 2, 1) := by decide +kernel
theorem dL_480 : decode cL_law 480 = .ok (.iadd, 1) := by decide +kernel
theorem dL_481 : decode cL_law 481 = .ok (.iaload, 1) := by decide +kernel
theorem dL_482 : decode cL_law 482 = .ok (.aload_n 0, 1) := by decide +kernel
theorem dL_483 : decode cL_law 483 = .ok (.iload_n 3, 1) := by decide +kernel
theorem dL_484 : decode cL_law 484 = .ok (.iconst 3, 1) := by decide +kernel
theorem dL_485 : decode cL_law 485 = .ok (.iadd, 1) := by decide +kernel
theorem dL_486 : decode cL_law 486 = .ok (.iaload, 1) := by decide +kernel
theorem dL_487 : decode cL_law 487 = .ok (.aload_n 0, 1) := by decide +kernel
theorem dL_488 : decode cL_law 488 = .ok (.iload_n 3, 1) := by decide +kernel
theorem dL_489 : decode cL_law 489 = .ok (.iconst 4, 1) := by decide +kernel
theorem dL_490 : decode cL_law 490 = .ok (.iadd, 1) := by decide +kernel
theorem dL_491 : decode cL_law 491 = .ok (.iaload, 1) := by decide +kernel
theorem dL_492 : decode cL_law 492 = .ok (.ifCond .eq 7, 3) := by decide +kernel
theorem dL_495 : decode cL_law 495 = .ok (.iconst 1, 1) := by decide +kernel
theorem dL_496 : decode cL_law 496 = .ok (.goto 4, 3) := by decide +kernel
theorem dL_499 : decode cL_law 499 = .ok (.iconst 0, 1) := by decide +kernel
theorem dL_500 : decode cL_law 500 = .ok (.invokevirtual 57, 3) := by decide +kernel
theorem dL_503 : decode cL_law 503 = .ok (.pop, 1) := by decide +kernel
theorem dL_504 : decode cL_law 504 = .ok (.aload_n 2, 1) := by decide +kernel
theorem dL_505 : decode cL_law 505 = .ok (.aload_n 0, 1) := by decide +kernel
theorem dL_506 : decode cL_law 506 = .ok (.iload_n 3, 1) := by decide +kernel
theorem dL_507 : decode cL_law 507 = .ok (.iconst 1, 1) := by decide +kernel
theorem dL_508 : decode cL_law 508 = .ok (.iadd, 1) := by decide +kernel
theorem dL_509 : decode cL_law 509 = .ok (.iaload, 1) := by decide +kernel
theorem dL_510 : decode cL_law 510 = .ok (.aload_n 0, 1) := by decide +kernel
theorem dL_511 : decode cL_law 511 = .ok (.iload_n 3, 1) := by decide +kernel
theorem dL_512 : decode cL_law 512 = .ok (.iconst 2, 1) := by decide +kernel
theorem dL_513 : decode cL_law 513 = .ok (.iadd, 1) := by decide +kernel
theorem dL_514 : decode cL_law 514 = .ok (.iaload, 1) := by decide +kernel
theorem dL_515 : decode cL_law 515 = .ok (.aload_n 0, 1) := by decide +kernel
theorem dL_516 : decode cL_law 516 = .ok (.iload_n 3, 1) := by decide +kernel
theorem dL_517 : decode cL_law 517 = .ok (.iconst 3, 1) := by decide +kernel
theorem dL_518 : decode cL_law 518 = .ok (.iadd, 1) := by decide +kernel
theorem dL_519 : decode cL_law 519 = .ok (.iaload, 1) := by decide +kernel
theorem dL_520 : decode cL_law 520 = .ok (.aload_n 0, 1) := by decide +kernel
theorem dL_521 : decode cL_law 521 = .ok (.iload_n 3, 1) := by decide +kernel
theorem dL_522 : decode cL_law 522 = .ok (.iconst 4, 1) := by decide +kernel
theorem dL_523 : decode cL_law 523 = .ok (.iadd, 1) := by decide +kernel
theorem dL_524 : decode cL_law 524 = .ok (.iaload, 1) := by decide +kernel
theorem dL_525 : decode cL_law 525 = .ok (.ifCond .eq 7, 3) := by decide +kernel
theorem dL_528 : decode cL_law 528 = .ok (.iconst 1, 1) := by decide +kernel
theorem dL_529 : decode cL_law 529 = .ok (.goto 4, 3) := by decide +kernel
theorem dL_532 : decode cL_law 532 = .ok (.iconst 0, 1) := by decide +kernel
theorem dL_533 : decode cL_law 533 = .ok (.invokevirtual 61, 3) := by decide +kernel
theorem dL_536 : decode cL_law 536 = .ok (.pop, 1) := by decide +kernel
theorem dL_537 : decode cL_law 537 = .ok (.goto 521, 3) := by decide +kernel
theorem dL_540 : decode cL_law 540 = .ok (.aload_n 1, 1) := by decide +kernel
theorem dL_541 : decode cL_law 541 = .ok (.aload_n 0, 1) := by decide +kernel
theorem dL_542 : decode cL_law 542 = .ok (.iload_n 3, 1) := by decide +kernel
theorem dL_543 : decode cL_law 543 = .ok (.iconst 1, 1) := by decide +kernel
theorem dL_544 : decode cL_law 544 = .ok (.iadd, 1) := by decide +kernel
theorem dL_545 : decode cL_law 545 = .ok (.iaload, 1) := by decide +kernel
theorem dL_546 : decode cL_law 546 = .ok (.aload_n 0, 1) := by decide +kernel
theorem dL_547 : decode cL_law 547 = .ok (.iload_n 3, 1) := by decide +kernel
theorem dL_548 : decode cL_law 548 = .ok (.iconst 2, 1) := by decide +kernel
theorem dL_549 : decode cL_law 549 = .ok (.iadd, 1) := by decide +kernel
theorem dL_550 : decode cL_law 550 = .ok (.iaload, 1) := by decide +kernel
theorem dL_551 : decode cL_law 551 = .ok (.aload_n 0, 1) := by decide +kernel
theorem dL_552 : decode cL_law 552 = .ok (.iload_n 3, 1) := by decide +kernel
theorem dL_553 : decode cL_law 553 = .ok (.iconst 3, 1) := by decide +kernel
theorem dL_554 : decode cL_law 554 = .ok (.iadd, 1) := by decide +kernel
theorem dL_555 : decode cL_law 555 = .ok (.iaload, 1) := by decide +kernel
theorem dL_556 : decode cL_law 556 = .ok (.i2l, 1) := by decide +kernel
theorem dL_557 : decode cL_law 557 = .ok (.bipush 32, 2) := by decide +kernel
theorem dL_559 : decode cL_law 559 = .ok (.lshl, 1) := by decide +kernel
theorem dL_560 : decode cL_law 560 = .ok (.aload_n 0, 1) := by decide +kernel
theorem dL_561 : decode cL_law 561 = .ok (.iload_n 3, 1) := by decide +kernel
theorem dL_562 : decode cL_law 562 = .ok (.iconst 4, 1) := by decide +kernel
theorem dL_563 : decode cL_law 563 = .ok (.iadd, 1) := by decide +kernel
theorem dL_564 : decode cL_law 564 = .ok (.iaload, 1) := by decide +kernel
theorem dL_565 : decode cL_law 565 = .ok (.i2l, 1) := by decide +kernel
theorem dL_566 : decode cL_law 566 = .ok (.ldc2_w 32, 3) := by decide +kernel
theorem dL_569 : decode cL_law 569 = .ok (.land, 1) := by decide +kernel
theorem dL_570 : decode cL_law 570 = .ok (.lor, 1) := by decide +kernel
theorem dL_571 : decode cL_law 571 = .ok (.aload_n 0, 1) := by decide +kernel
theorem dL_572 : decode cL_law 572 = .ok (.iload_n 3, 1) := by decide +kernel
theorem dL_573 : decode cL_law 573 = .ok (.iconst 5, 1) := by decide +kernel
theorem dL_574 : decode cL_law 574 = .ok (.iadd, 1) := by decide +kernel
theorem dL_575 : decode cL_law 575 = .ok (.iaload, 1) := by decide +kernel
theorem dL_576 : decode cL_law 576 = .ok (.ifCond .eq 7, 3) := by decide +kernel
theorem dL_579 : decode cL_law 579 = .ok (.iconst 1, 1) := by decide +kernel
theorem dL_580 : decode cL_law 580 = .ok (.goto 4, 3) := by decide +kernel
theorem dL_583 : decode cL_law 583 = .ok (.iconst 0, 1) := by decide +kernel
theorem dL_584 : decode cL_law 584 = .ok (.invokevirtual 62, 3) := by decide +kernel
theorem dL_587 : decode cL_law 587 = .ok (.pop, 1) := by decide +kernel
theorem dL_588 : decode cL_law 588 = .ok (.aload_n 2, 1) := by decide +kernel
theorem dL_589 : decode cL_law 589 = .ok (.aload_n 0, 1) := by decide +kernel
theorem dL_590 : decode cL_law 590 = .ok (.iload_n 3, 1) := by decide +kernel
theorem dL_591 : decode cL_law 591 = .ok (.iconst 1, 1) := by decide +kernel
theorem dL_592 : decode cL_law 592 = .ok (.iadd, 1) := by decide +kernel
theorem dL_593 : decode cL_law 593 = .ok (.iaload, 1) := by decide +kernel
theorem dL_594 : decode cL_law 594 = .ok (.aload_n 0, 1) := by decide +kernel
theorem dL_595 : decode cL_law 595 = .ok (.iload_n 3, 1) := by decide +kernel
theorem dL_596 : decode cL_law 596 = .ok (.iconst 2, 1) := by decide +kernel
theorem dL_597 : decode cL_law 597 = .ok (.iadd, 1) := by decide +kernel
theorem dL_598 : decode cL_law 598 = .ok (.iaload, 1) := by decide +kernel
theorem dL_599 : decode cL_law 599 = .ok (.aload_n 0, 1) := by decide +kernel
theorem dL_600 : decode cL_law 600 = .ok (.iload_n 3, 1) := by decide +kernel
theorem dL_601 : decode cL_law 601 = .ok (.iconst 3, 1) := by decide +kernel
theorem dL_602 : decode cL_law 602 = .ok (.iadd, 1) := by decide +kernel
theorem dL_603 : decode cL_law 603 = .ok (.iaload, 1) := by decide +kernel
theorem dL_604 : decode cL_law 604 = .ok (.i2l, 1) := by decide +kernel
theorem dL_605 : decode cL_law 605 = .ok (.bipush 32, 2) := by decide +kernel
theorem dL_607 : decode cL_law 607 = .ok (.lshl, 1) := by decide +kernel
theorem dL_608 : decode cL_law 608 = .ok (.aload_n 0, 1) := by decide +kernel
theorem dL_609 : decode cL_law 609 = .ok (.iload_n 3, 1) := by decide +kernel
theorem dL_610 : decode cL_law 610 = .ok (.iconst 4, 1) := by decide +kernel
theorem dL_611 : decode cL_law 611 = .ok (.iadd, 1) := by decide +kernel
theorem dL_612 : decode cL_law 612 = .ok (.iaload, 1) := by decide +kernel
theorem dL_613 : decode cL_law 613 = .ok (.i2l, 1) := by decide +kernel
theorem dL_614 : decode cL_law 614 = .ok (.ldc2_w 32, 3) := by decide +kernel
theorem dL_617 : decode cL_law 617 = .ok (.land, 1) := by decide +kernel
theorem dL_618 : decode cL_law 618 = .ok (.lor, 1) := by decide +kernel
theorem dL_619 : decode cL_law 619 = .ok (.aload_n 0, 1) := by decide +kernel
theorem dL_620 : decode cL_law 620 = .ok (.iload_n 3, 1) := by decide +kernel
theorem dL_621 : decode cL_law 621 = .ok (.iconst 5, 1) := by decide +kernel
theorem dL_622 : decode cL_law 622 = .ok (.iadd, 1) := by decide +kernel
theorem dL_623 : decode cL_law 623 = .ok (.iaload, 1) := by decide +kernel
theorem dL_624 : decode cL_law 624 = .ok (.ifCond .eq 7, 3) := by decide +kernel
theorem dL_627 : decode cL_law 627 = .ok (.iconst 1, 1) := by decide +kernel
theorem dL_628 : decode cL_law 628 = .ok (.goto 4, 3) := by decide +kernel
theorem dL_631 : decode cL_law 631 = .ok (.iconst 0, 1) := by decide +kernel
theorem dL_632 : decode cL_law 632 = .ok (.invokevirtual 66, 3) := by decide +kernel
theorem dL_635 : decode cL_law 635 = .ok (.pop, 1) := by decide +kernel
theorem dL_636 : decode cL_law 636 = .ok (.goto 422, 3) := by decide +kernel
theorem dL_639 : decode cL_law 639 = .ok (.aload_n 1, 1) := by decide +kernel
theorem dL_640 : decode cL_law 640 = .ok (.aload_n 0, 1) := by decide +kernel
theorem dL_641 : decode cL_law 641 = .ok (.iload_n 3, 1) := by decide +kernel
theorem dL_642 : decode cL_law 642 = .ok (.iconst 1, 1) := by decide +kernel
theorem dL_643 : decode cL_law 643 = .ok (.iadd, 1) := by decide +kernel
theorem dL_644 : decode cL_law 644 = .ok (.iaload, 1) := by decide +kernel
theorem dL_645 : decode cL_law 645 = .ok (.aload_n 0, 1) := by decide +kernel
theorem dL_646 : decode cL_law 646 = .ok (.iload_n 3, 1) := by decide +kernel
theorem dL_647 : decode cL_law 647 = .ok (.iconst 2, 1) := by decide +kernel
theorem dL_648 : decode cL_law 648 = .ok (.iadd, 1) := by decide +kernel
theorem dL_649 : decode cL_law 649 = .ok (.iaload, 1) := by decide +kernel
theorem dL_650 : decode cL_law 650 = .ok (.aload_n 0, 1) := by decide +kernel
theorem dL_651 : decode cL_law 651 = .ok (.iload_n 3, 1) := by decide +kernel
theorem dL_652 : decode cL_law 652 = .ok (.iconst 3, 1) := by decide +kernel
theorem dL_653 : decode cL_law 653 = .ok (.iadd, 1) := by decide +kernel
theorem dL_654 : decode cL_law 654 = .ok (.iaload, 1) := by decide +kernel
theorem dL_655 : decode cL_law 655 = .ok (.invokevirtual 67, 3) := by decide +kernel
theorem dL_658 : decode cL_law 658 = .ok (.pop, 1) := by decide +kernel
theorem dL_659 : decode cL_law 659 = .ok (.aload_n 2, 1) := by decide +kernel
theorem dL_660 : decode cL_law 660 = .ok (.aload_n 0, 1) := by decide +kernel
theorem dL_661 : decode cL_law 661 = .ok (.iload_n 3, 1) := by decide +kernel
theorem dL_662 : decode cL_law 662 = .ok (.iconst 1, 1) := by decide +kernel
theorem dL_663 : decode cL_law 663 = .ok (.iadd, 1) := by decide +kernel
theorem dL_664 : decode cL_law 664 = .ok (.iaload, 1) := by decide +kernel
theorem dL_665 : decode cL_law 665 = .ok (.aload_n 0, 1) := by decide +kernel
theorem dL_666 : decode cL_law 666 = .ok (.iload_n 3, 1) := by decide +kernel
theorem dL_667 : decode cL_law 667 = .ok (.iconst 2, 1) := by decide +kernel
theorem dL_668 : decode cL_law 668 = .ok (.iadd, 1) := by decide +kernel
theorem dL_669 : decode cL_law 669 = .ok (.iaload, 1) := by decide +kernel
theorem dL_670 : decode cL_law 670 = .ok (.aload_n 0, 1) := by decide +kernel
theorem dL_671 : decode cL_law 671 = .ok (.iload_n 3, 1) := by decide +kernel
theorem dL_672 : decode cL_law 672 = .ok (.iconst 3, 1) := by decide +kernel
theorem dL_673 : decode cL_law 673 = .ok (.iadd, 1) := by decide +kernel
theorem dL_674 : decode cL_law 674 = .ok (.iaload, 1) := by decide +kernel
theorem dL_675 : decode cL_law 675 = .ok (.invokevirtual 71, 3) := by decide +kernel
theorem dL_678 : decode cL_law 678 = .ok (.pop, 1) := by decide +kernel
theorem dL_679 : decode cL_law 679 = .ok (.goto 379, 3) := by decide +kernel
theorem dL_682 : decode cL_law 682 = .ok (.aload_n 1, 1) := by decide +kernel
theorem dL_683 : decode cL_law 683 = .ok (.aload_n 0, 1) := by decide +kernel
theorem dL_684 : decode cL_law 684 = .ok (.iload_n 3, 1) := by decide +kernel
theorem dL_685 : decode cL_law 685 = .ok (.iconst 1, 1) := by decide +kernel
theorem dL_686 : decode cL_law 686 = .ok (.iadd, 1) := by decide +kernel
theorem dL_687 : decode cL_law 687 = .ok (.iaload, 1) := by decide +kernel
theorem dL_688 : decode cL_law 688 = .ok (.aload_n 0, 1) := by decide +kernel
theorem dL_689 : decode cL_law 689 = .ok (.iload_n 3, 1) := by decide +kernel
theorem dL_690 : decode cL_law 690 = .ok (.iconst 2, 1) := by decide +kernel
theorem dL_691 : decode cL_law 691 = .ok (.iadd, 1) := by decide +kernel
theorem dL_692 : decode cL_law 692 = .ok (.iaload, 1) := by decide +kernel
theorem dL_693 : decode cL_law 693 = .ok (.aload_n 0, 1) := by decide +kernel
theorem dL_694 : decode cL_law 694 = .ok (.iload_n 3, 1) := by decide +kernel
theorem dL_695 : decode cL_law 695 = .ok (.iconst 3, 1) := by decide +kernel
theorem dL_696 : decode cL_law 696 = .ok (.iadd, 1) := by decide +kernel
theorem dL_697 : decode cL_law 697 = .ok (.iaload, 1) := by decide +kernel
theorem dL_698 : decode cL_law 698 = .ok (.invokevirtual 72, 3) := by decide +kernel
theorem dL_701 : decode cL_law 701 = .ok (.pop, 1) := by decide +kernel
theorem dL_702 : decode cL_law 702 = .ok (.aload_n 2, 1) := by decide +kernel
theorem dL_703 : decode cL_law 703 = .ok (.aload_n 0, 1) := by decide +kernel
theorem dL_704 : decode cL_law 704 = .ok (.iload_n 3, 1) := by decide +kernel
theorem dL_705 : decode cL_law 705 = .ok (.iconst 1, 1) := by decide +kernel
theorem dL_706 : decode cL_law 706 = .ok (.iadd, 1) := by decide +kernel
theorem dL_707 : decode cL_law 707 = .ok (.iaload, 1) := by decide +kernel
theorem dL_708 : decode cL_law 708 = .ok (.aload_n 0, 1) := by decide +kernel
theorem dL_709 : decode cL_law 709 = .ok (.iload_n 3, 1) := by decide +kernel
theorem dL_710 : decode cL_law 710 = .ok (.iconst 2, 1) := by decide +kernel
theorem dL_711 : decode cL_law 711 = .ok (.iadd, 1) := by decide +kernel
theorem dL_712 : decode cL_law 712 = .ok (.iaload, 1) := by decide +kernel
theorem dL_713 : decode cL_law 713 = .ok (.aload_n 0, 1) := by decide +kernel
theorem dL_714 : decode cL_law 714 = .ok (.iload_n 3, 1) := by decide +kernel
theorem dL_715 : decode cL_law 715 = .ok (.iconst 3, 1) := by decide +kernel
theorem dL_716 : decode cL_law 716 = .ok (.iadd, 1) := by decide +kernel
theorem dL_717 : decode cL_law 717 = .ok (.iaload, 1) := by decide +kernel
theorem dL_718 : decode cL_law 718 = .ok (.invokevirtual 76, 3) := by decide +kernel
theorem dL_721 : decode cL_law 721 = .ok (.pop, 1) := by decide +kernel
theorem dL_722 : decode cL_law 722 = .ok (.goto 336, 3) := by decide +kernel
theorem dL_725 : decode cL_law 725 = .ok (.aload_n 1, 1) := by decide +kernel
theorem dL_726 : decode cL_law 726 = .ok (.aload_n 0, 1) := by decide +kernel
theorem dL_727 : decode cL_law 727 = .ok (.iload_n 3, 1) := by decide +kernel
theorem dL_728 : decode cL_law 728 = .ok (.iconst 1, 1) := by decide +kernel
theorem dL_729 : decode cL_law 729 = .ok (.iadd, 1) := by decide +kernel
theorem dL_730 : decode cL_law 730 = .ok (.iaload, 1) := by decide +kernel
theorem dL_731 : decode cL_law 731 = .ok (.aload_n 0, 1) := by decide +kernel
theorem dL_732 : decode cL_law 732 = .ok (.iload_n 3, 1) := by decide +kernel
theorem dL_733 : decode cL_law 733 = .ok (.iconst 2, 1) := by decide +kernel
theorem dL_734 : decode cL_law 734 = .ok (.iadd, 1) := by decide +kernel
theorem dL_735 : decode cL_law 735 = .ok (.iaload, 1) := by decide +kernel
theorem dL_736 : decode cL_law 736 = .ok (.aload_n 0, 1) := by decide +kernel
theorem dL_737 : decode cL_law 737 = .ok (.iload_n 3, 1) := by decide +kernel
theorem dL_738 : decode cL_law 738 = .ok (.iconst 3, 1) := by decide +kernel
theorem dL_739 : decode cL_law 739 = .ok (.iadd, 1) := by decide +kernel
theorem dL_740 : decode cL_law 740 = .ok (.iaload, 1) := by decide +kernel
theorem dL_741 : decode cL_law 741 = .ok (.invokevirtual 77, 3) := by decide +kernel
theorem dL_744 : decode cL_law 744 = .ok (.pop, 1) := by decide +kernel
theorem dL_745 : decode cL_law 745 = .ok (.aload_n 2, 1) := by decide +kernel
theorem dL_746 : decode cL_law 746 = .ok (.aload_n 0, 1) := by decide +kernel
theorem dL_747 : decode cL_law 747 = .ok (.iload_n 3, 1) := by decide +kernel
theorem dL_748 : decode cL_law 748 = .ok (.iconst 1, 1) := by decide +kernel
theorem dL_749 : decode cL_law 749 = .ok (.iadd, 1) := by decide +kernel
theorem dL_750 : decode cL_law 750 = .ok (.iaload, 1) := by decide +kernel
theorem dL_751 : decode cL_law 751 = .ok (.aload_n 0, 1) := by decide +kernel
theorem dL_752 : decode cL_law 752 = .ok (.iload_n 3, 1) := by decide +kernel
theorem dL_753 : decode cL_law 753 = .ok (.iconst 2, 1) := by decide +kernel
theorem dL_754 : decode cL_law 754 = .ok (.iadd, 1) := by decide +kernel
theorem dL_755 : decode cL_law 755 = .ok (.iaload, 1) := by decide +kernel
theorem dL_756 : decode cL_law 756 = .ok (.aload_n 0, 1) := by decide +kernel
theorem dL_757 : decode cL_law 757 = .ok (.iload_n 3, 1) := by decide +kernel
theorem dL_758 : decode cL_law 758 = .ok (.iconst 3, 1) := by decide +kernel
theorem dL_759 : decode cL_law 759 = .ok (.iadd, 1) := by decide +kernel
theorem dL_760 : decode cL_law 760 = .ok (.iaload, 1) := by decide +kernel
theorem dL_761 : decode cL_law 761 = .ok (.invokevirtual 80, 3) := by decide +kernel
theorem dL_764 : decode cL_law 764 = .ok (.pop, 1) := by decide +kernel
theorem dL_765 : decode cL_law 765 = .ok (.goto 293, 3) := by decide +kernel
theorem dL_768 : decode cL_law 768 = .ok (.aload_n 1, 1) := by decide +kernel
theorem dL_769 : decode cL_law 769 = .ok (.aload_n 0, 1) := by decide +kernel
theorem dL_770 : decode cL_law 770 = .ok (.iload_n 3, 1) := by decide +kernel
theorem dL_771 : decode cL_law 771 = .ok (.iconst 1, 1) := by decide +kernel
theorem dL_772 : decode cL_law 772 = .ok (.iadd, 1) := by decide +kernel
theorem dL_773 : decode cL_law 773 = .ok (.iaload, 1) := by decide +kernel
theorem dL_774 : decode cL_law 774 = .ok (.aload_n 0, 1) := by decide +kernel
theorem dL_775 : decode cL_law 775 = .ok (.iload_n 3, 1) := by decide +kernel
theorem dL_776 : decode cL_law 776 = .ok (.iconst 2, 1) := by decide +kernel
theorem dL_777 : decode cL_law 777 = .ok (.iadd, 1) := by decide +kernel
theorem dL_778 : decode cL_law 778 = .ok (.iaload, 1) := by decide +kernel
theorem dL_779 : decode cL_law 779 = .ok (.invokevirtual 81, 3) := by decide +kernel
theorem dL_782 : decode cL_law 782 = .ok (.pop, 1) := by decide +kernel
theorem dL_783 : decode cL_law 783 = .ok (.aload_n 2, 1) := by decide +kernel
theorem dL_784 : decode cL_law 784 = .ok (.aload_n 0, 1) := by decide +kernel
theorem dL_785 : decode cL_law 785 = .ok (.iload_n 3, 1) := by decide +kernel
theorem dL_786 : decode cL_law 786 = .ok (.iconst 1, 1) := by decide +kernel
theorem dL_787 : decode cL_law 787 = .ok (.iadd, 1) := by decide +kernel
theorem dL_788 : decode cL_law 788 = .ok (.iaload, 1) := by decide +kernel
theorem dL_789 : decode cL_law 789 = .ok (.aload_n 0, 1) := by decide +kernel
theorem dL_790 : decode cL_law 790 = .ok (.iload_n 3, 1) := by decide +kernel
theorem dL_791 : decode cL_law 791 = .ok (.iconst 2, 1) := by decide +kernel
theorem dL_792 : decode cL_law 792 = .ok (.iadd, 1) := by decide +kernel
theorem dL_793 : decode cL_law 793 = .ok (.iaload, 1) := by decide +kernel
theorem dL_794 : decode cL_law 794 = .ok (.invokevirtual 84, 3) := by decide +kernel
theorem dL_797 : decode cL_law 797 = .ok (.pop, 1) := by decide +kernel
theorem dL_798 : decode cL_law 798 = .ok (.goto 260, 3) := by decide +kernel
theorem dL_801 : decode cL_law 801 = .ok (.aload_n 1, 1) := by decide +kernel
theorem dL_802 : decode cL_law 802 = .ok (.aload_n 0, 1) := by decide +kernel
theorem dL_803 : decode cL_law 803 = .ok (.iload_n 3, 1) := by decide +kernel
theorem dL_804 : decode cL_law 804 = .ok (.iconst 1, 1) := by decide +kernel
theorem dL_805 : decode cL_law 805 = .ok (.iadd, 1) := by decide +kernel
theorem dL_806 : decode cL_law 806 = .ok (.iaload, 1) := by decide +kernel
theorem dL_807 : decode cL_law 807 = .ok (.aload_n 0, 1) := by decide +kernel
theorem dL_808 : decode cL_law 808 = .ok (.iload_n 3, 1) := by decide +kernel
theorem dL_809 : decode cL_law 809 = .ok (.iconst 2, 1) := by decide +kernel
theorem dL_810 : decode cL_law 810 = .ok (.iadd, 1) := by decide +kernel
theorem dL_811 : decode cL_law 811 = .ok (.iaload, 1) := by decide +kernel
theorem dL_812 : decode cL_law 812 = .ok (.invokevirtual 85, 3) := by decide +kernel
theorem dL_815 : decode cL_law 815 = .ok (.pop, 1) := by decide +kernel
theorem dL_816 : decode cL_law 816 = .ok (.aload_n 2, 1) := by decide +kernel
theorem dL_817 : decode cL_law 817 = .ok (.aload_n 0, 1) := by decide +kernel
theorem dL_818 : decode cL_law 818 = .ok (.iload_n 3, 1) := by decide +kernel
theorem dL_819 : decode cL_law 819 = .ok (.iconst 1, 1) := by decide +kernel
theorem dL_820 : decode cL_law 820 = .ok (.iadd, 1) := by decide +kernel
theorem dL_821 : decode cL_law 821 = .ok (.iaload, 1) := by decide +kernel
theorem dL_822 : decode cL_law 822 = .ok (.aload_n 0, 1) := by decide +kernel
theorem dL_823 : decode cL_law 823 = .ok (.iload_n 3, 1) := by decide +kernel
theorem dL_824 : decode cL_law 824 = .ok (.iconst 2, 1) := by decide +kernel
theorem dL_825 : decode cL_law 825 = .ok (.iadd, 1) := by decide +kernel
theorem dL_826 : decode cL_law 826 = .ok (.iaload, 1) := by decide +kernel
theorem dL_827 : decode cL_law 827 = .ok (.invokevirtual 88, 3) := by decide +kernel
theorem dL_830 : decode cL_law 830 = .ok (.pop, 1) := by decide +kernel
theorem dL_831 : decode cL_law 831 = .ok (.goto 227, 3) := by decide +kernel
theorem dL_834 : decode cL_law 834 = .ok (.aload_n 1, 1) := by decide +kernel
theorem dL_835 : decode cL_law 835 = .ok (.aload_n 0, 1) := by decide +kernel
theorem dL_836 : decode cL_law 836 = .ok (.iload_n 3, 1) := by decide +kernel
theorem dL_837 : decode cL_law 837 = .ok (.iconst 1, 1) := by decide +kernel
theorem dL_838 : decode cL_law 838 = .ok (.iadd, 1) := by decide +kernel
theorem dL_839 : decode cL_law 839 = .ok (.iaload, 1) := by decide +kernel
theorem dL_840 : decode cL_law 840 = .ok (.aload_n 0, 1) := by decide +kernel
theorem dL_841 : decode cL_law 841 = .ok (.iload_n 3, 1) := by decide +kernel
theorem dL_842 : decode cL_law 842 = .ok (.iconst 2, 1) := by decide +kernel
theorem dL_843 : decode cL_law 843 = .ok (.iadd, 1) := by decide +kernel
theorem dL_844 : decode cL_law 844 = .ok (.iaload, 1) := by decide +kernel
theorem dL_845 : decode cL_law 845 = .ok (.invokevirtual 89, 3) := by decide +kernel
theorem dL_848 : decode cL_law 848 = .ok (.pop, 1) := by decide +kernel
theorem dL_849 : decode cL_law 849 = .ok (.aload_n 2, 1) := by decide +kernel
theorem dL_850 : decode cL_law 850 = .ok (.aload_n 0, 1) := by decide +kernel
theorem dL_851 : decode cL_law 851 = .ok (.iload_n 3, 1) := by decide +kernel
theorem dL_852 : decode cL_law 852 = .ok (.iconst 1, 1) := by decide +kernel
theorem dL_853 : decode cL_law 853 = .ok (.iadd, 1) := by decide +kernel
theorem dL_854 : decode cL_law 854 = .ok (.iaload, 1) := by decide +kernel
theorem dL_855 : decode cL_law 855 = .ok (.aload_n 0, 1) := by decide +kernel
theorem dL_856 : decode cL_law 856 = .ok (.iload_n 3, 1) := by decide +kernel
theorem dL_857 : decode cL_law 857 = .ok (.iconst 2, 1) := by decide +kernel
theorem dL_858 : decode cL_law 858 = .ok (.iadd, 1) := by decide +kernel
theorem dL_859 : decode cL_law 859 = .ok (.iaload, 1) := by decide +kernel
theorem dL_860 : decode cL_law 860 = .ok (.invokevirtual 92, 3) := by decide +kernel
theorem dL_863 : decode cL_law 863 = .ok (.pop, 1) := by decide +kernel
theorem dL_864 : decode cL_law 864 = .ok (.goto 194, 3) := by decide +kernel
theorem dL_867 : decode cL_law 867 = .ok (.aload_n 1, 1) := by decide +kernel
theorem dL_868 : decode cL_law 868 = .ok (.aload_n 0, 1) := by decide +kernel
theorem dL_869 : decode cL_law 869 = .ok (.iload_n 3, 1) := by decide +kernel
theorem dL_870 : decode cL_law 870 = .ok (.iconst 1, 1) := by decide +kernel
theorem dL_871 : decode cL_law 871 = .ok (.iadd, 1) := by decide +kernel
theorem dL_872 : decode cL_law 872 = .ok (.iaload, 1) := by decide +kernel
theorem dL_873 : decode cL_law 873 = .ok (.aload_n 0, 1) := by decide +kernel
theorem dL_874 : decode cL_law 874 = .ok (.iload_n 3, 1) := by decide +kernel
theorem dL_875 : decode cL_law 875 = .ok (.iconst 2, 1) := by decide +kernel
theorem dL_876 : decode cL_law 876 = .ok (.iadd, 1) := by decide +kernel
theorem dL_877 : decode cL_law 877 = .ok (.iaload, 1) := by decide +kernel
theorem dL_878 : decode cL_law 878 = .ok (.invokevirtual 93, 3) := by decide +kernel
theorem dL_881 : decode cL_law 881 = .ok (.pop, 1) := by decide +kernel
theorem dL_882 : decode cL_law 882 = .ok (.aload_n 2, 1) := by decide +kernel
theorem dL_883 : decode cL_law 883 = .ok (.aload_n 0, 1) := by decide +kernel
theorem dL_884 : decode cL_law 884 = .ok (.iload_n 3, 1) := by decide +kernel
theorem dL_885 : decode cL_law 885 = .ok (.iconst 1, 1) := by decide +kernel
theorem dL_886 : decode cL_law 886 = .ok (.iadd, 1) := by decide +kernel
theorem dL_887 : decode cL_law 887 = .ok (.iaload, 1) := by decide +kernel
theorem dL_888 : decode cL_law 888 = .ok (.aload_n 0, 1) := by decide +kernel
theorem dL_889 : decode cL_law 889 = .ok (.iload_n 3, 1) := by decide +kernel
theorem dL_890 : decode cL_law 890 = .ok (.iconst 2, 1) := by decide +kernel
theorem dL_891 : decode cL_law 891 = .ok (.iadd, 1) := by decide +kernel
theorem dL_892 : decode cL_law 892 = .ok (.iaload, 1) := by decide +kernel
theorem dL_893 : decode cL_law 893 = .ok (.invokevirtual 96, 3) := by decide +kernel
theorem dL_896 : decode cL_law 896 = .ok (.pop, 1) := by decide +kernel
theorem dL_897 : decode cL_law 897 = .ok (.goto 161, 3) := by decide +kernel
theorem dL_900 : decode cL_law 900 = .ok (.aload_n 1, 1) := by decide +kernel
theorem dL_901 : decode cL_law 901 = .ok (.aload_n 0, 1) := by decide +kernel
theorem dL_902 : decode cL_law 902 = .ok (.iload_n 3, 1) := by decide +kernel
theorem dL_903 : decode cL_law 903 = .ok (.iconst 1, 1) := by decide +kernel
theorem dL_904 : decode cL_law 904 = .ok (.iadd, 1) := by decide +kernel
theorem dL_905 : decode cL_law 905 = .ok (.iaload, 1) := by decide +kernel
theorem dL_906 : decode cL_law 906 = .ok (.aload_n 0, 1) := by decide +kernel
theorem dL_907 : decode cL_law 907 = .ok (.iload_n 3, 1) := by decide +kernel
theorem dL_908 : decode cL_law 908 = .ok (.iconst 2, 1) := by decide +kernel
theorem dL_909 : decode cL_law 909 = .ok (.iadd, 1) := by decide +kernel
theorem dL_910 : decode cL_law 910 = .ok (.iaload, 1) := by decide +kernel
theorem dL_911 : decode cL_law 911 = .ok (.invokevirtual 97, 3) := by decide +kernel
theorem dL_914 : decode cL_law 914 = .ok (.pop, 1) := by decide +kernel
theorem dL_915 : decode cL_law 915 = .ok (.aload_n 2, 1) := by decide +kernel
theorem dL_916 : decode cL_law 916 = .ok (.aload_n 0, 1) := by decide +kernel
theorem dL_917 : decode cL_law 917 = .ok (.iload_n 3, 1) := by decide +kernel
theorem dL_918 : decode cL_law 918 = .ok (.iconst 1, 1) := by decide +kernel
theorem dL_919 : decode cL_law 919 = .ok (.iadd, 1) := by decide +kernel
theorem dL_920 : decode cL_law 920 = .ok (.iaload, 1) := by decide +kernel
theorem dL_921 : decode cL_law 921 = .ok (.aload_n 0, 1) := by decide +kernel
theorem dL_922 : decode cL_law 922 = .ok (.iload_n 3, 1) := by decide +kernel
theorem dL_923 : decode cL_law 923 = .ok (.iconst 2, 1) := by decide +kernel
theorem dL_924 : decode cL_law 924 = .ok (.iadd, 1) := by decide +kernel
theorem dL_925 : decode cL_law 925 = .ok (.iaload, 1) := by decide +kernel
theorem dL_926 : decode cL_law 926 = .ok (.invokevirtual 100, 3) := by decide +kernel
theorem dL_929 : decode cL_law 929 = .ok (.pop, 1) := by decide +kernel
theorem dL_930 : decode cL_law 930 = .ok (.goto 128, 3) := by decide +kernel
theorem dL_933 : decode cL_law 933 = .ok (.aload_n 1, 1) := by decide +kernel
theorem dL_934 : decode cL_law 934 = .ok (.aload_n 0, 1) := by decide +kernel
theorem dL_935 : decode cL_law 935 = .ok (.iload_n 3, 1) := by decide +kernel
theorem dL_936 : decode cL_law 936 = .ok (.iconst 1, 1) := by decide +kernel
theorem dL_937 : decode cL_law 937 = .ok (.iadd, 1) := by decide +kernel
theorem dL_938 : decode cL_law 938 = .ok (.iaload, 1) := by decide +kernel
theorem dL_939 : decode cL_law 939 = .ok (.aload_n 0, 1) := by decide +kernel
theorem dL_940 : decode cL_law 940 = .ok (.iload_n 3, 1) := by decide +kernel
theorem dL_941 : decode cL_law 941 = .ok (.iconst 2, 1) := by decide +kernel
theorem dL_942 : decode cL_law 942 = .ok (.iadd, 1) := by decide +kernel
theorem dL_943 : decode cL_law 943 = .ok (.iaload, 1) := by decide +kernel
theorem dL_944 : decode cL_law 944 = .ok (.invokevirtual 101, 3) := by decide +kernel
theorem dL_947 : decode cL_law 947 = .ok (.pop, 1) := by decide +kernel
theorem dL_948 : decode cL_law 948 = .ok (.aload_n 2, 1) := by decide +kernel
theorem dL_949 : decode cL_law 949 = .ok (.aload_n 0, 1) := by decide +kernel
theorem dL_950 : decode cL_law 950 = .ok (.iload_n 3, 1) := by decide +kernel
theorem dL_951 : decode cL_law 951 = .ok (.iconst 1, 1) := by decide +kernel
theorem dL_952 : decode cL_law 952 = .ok (.iadd, 1) := by decide +kernel
theorem dL_953 : decode cL_law 953 = .ok (.iaload, 1) := by decide +kernel
theorem dL_954 : decode cL_law 954 = .ok (.aload_n 0, 1) := by decide +kernel
theorem dL_955 : decode cL_law 955 = .ok (.iload_n 3, 1) := by decide +kernel
theorem dL_956 : decode cL_law 956 = .ok (.iconst 2, 1) := by decide +kernel
theorem dL_957 : decode cL_law 957 = .ok (.iadd, 1) := by decide +kernel
theorem dL_958 : decode cL_law 958 = .ok (.iaload, 1) := by decide +kernel
theorem dL_959 : decode cL_law 959 = .ok (.invokevirtual 104, 3) := by decide +kernel
theorem dL_962 : decode cL_law 962 = .ok (.pop, 1) := by decide +kernel
theorem dL_963 : decode cL_law 963 = .ok (.goto 95, 3) := by decide +kernel
theorem dL_966 : decode cL_law 966 = .ok (.aload_n 1, 1) := by decide +kernel
theorem dL_967 : decode cL_law 967 = .ok (.aload_n 0, 1) := by decide +kernel
theorem dL_968 : decode cL_law 968 = .ok (.iload_n 3, 1) := by decide +kernel
theorem dL_969 : decode cL_law 969 = .ok (.iconst 1, 1) := by decide +kernel
theorem dL_970 : decode cL_law 970 = .ok (.iadd, 1) := by decide +kernel
theorem dL_971 : decode cL_law 971 = .ok (.iaload, 1) := by decide +kernel
theorem dL_972 : decode cL_law 972 = .ok (.invokevirtual 105, 3) := by decide +kernel
theorem dL_975 : decode cL_law 975 = .ok (.pop, 1) := by decide +kernel
theorem dL_976 : decode cL_law 976 = .ok (.aload_n 2, 1) := by decide +kernel
theorem dL_977 : decode cL_law 977 = .ok (.aload_n 0, 1) := by decide +kernel
theorem dL_978 : decode cL_law 978 = .ok (.iload_n 3, 1) := by decide +kernel
theorem dL_979 : decode cL_law 979 = .ok (.iconst 1, 1) := by decide +kernel
theorem dL_980 : decode cL_law 980 = .ok (.iadd, 1) := by decide +kernel
theorem dL_981 : decode cL_law 981 = .ok (.iaload, 1) := by decide +kernel
theorem dL_982 : decode cL_law 982 = .ok (.invokevirtual 108, 3) := by decide +kernel
theorem dL_985 : decode cL_law 985 = .ok (.pop, 1) := by decide +kernel
theorem dL_986 : decode cL_law 986 = .ok (.goto 72, 3) := by decide +kernel
theorem dL_989 : decode cL_law 989 = .ok (.aload_n 1, 1) := by decide +kernel
theorem dL_990 : decode cL_law 990 = .ok (.invokevirtual 109, 3) := by decide +kernel
theorem dL_993 : decode cL_law 993 = .ok (.pop, 1) := by decide +kernel
theorem dL_994 : decode cL_law 994 = .ok (.aload_n 2, 1) := by decide +kernel
theorem dL_995 : decode cL_law 995 = .ok (.invokevirtual 112, 3) := by decide +kernel
theorem dL_998 : decode cL_law 998 = .ok (.pop, 1) := by decide +kernel
theorem dL_999 : decode cL_law 999 = .ok (.goto 59, 3) := by decide +kernel
theorem dL_1002 : decode cL_law 1002 = .ok (.aload_n 1, 1) := by decide +kernel
theorem dL_1003 : decode cL_law 1003 = .ok (.aload_n 0, 1) := by decide +kernel
theorem dL_1004 : decode cL_law 1004 = .ok (.iload_n 3, 1) := by decide +kernel
theorem dL_1005 : decode cL_law 1005 = .ok (.iconst 1, 1) := by decide +kernel
theorem dL_1006 : decode cL_law 1006 = .ok (.iadd, 1) := by decide +kernel
theorem dL_1007 : decode cL_law 1007 = .ok (.iaload, 1) := by decide +kernel
theorem dL_1008 : decode cL_law 1008 = .ok (.aload_n 0, 1) := by decide +kernel
theorem dL_1009 : decode cL_law 1009 = .ok (.iload_n 3, 1) := by decide +kernel
theorem dL_1010 : decode cL_law 1010 = .ok (.iconst 2, 1) := by decide +kernel
theorem dL_1011 : decode cL_law 1011 = .ok (.iadd, 1) := by decide +kernel
theorem dL_1012 : decode cL_law 1012 = .ok (.iaload, 1) := by decide +kernel
theorem dL_1013 : decode cL_law 1013 = .ok (.aload_n 0, 1) := by decide +kernel
theorem dL_1014 : decode cL_law 1014 = .ok (.iload_n 3, 1) := by decide +kernel
theorem dL_1015 : decode cL_law 1015 = .ok (.iconst 3, 1) := by decide +kernel
theorem dL_1016 : decode cL_law 1016 = .ok (.iadd, 1) := by decide +kernel
theorem dL_1017 : decode cL_law 1017 = .ok (.iaload, 1) := by decide +kernel
theorem dL_1018 : decode cL_law 1018 = .ok (.invokevirtual 113, 3) := by decide +kernel
theorem dL_1021 : decode cL_law 1021 = .ok (.pop, 1) := by decide +kernel
theorem dL_1022 : decode cL_law 1022 = .ok (.aload_n 2, 1) := by decide +kernel
theorem dL_1023 : decode cL_law 1023 = .ok (.aload_n 0, 1) := by decide +kernel
theorem dL_1024 : decode cL_law 1024 = .ok (.iload_n 3, 1) := by decide +kernel
theorem dL_1025 : decode cL_law 1025 = .ok (.iconst 1, 1) := by decide +kernel
theorem dL_1026 : decode cL_law 1026 = .ok (.iadd, 1) := by decide +kernel
theorem dL_1027 : decode cL_law 1027 = .ok (.iaload, 1) := by decide +kernel
theorem dL_1028 : decode cL_law 1028 = .ok (.aload_n 0, 1) := by decide +kernel
theorem dL_1029 : decode cL_law 1029 = .ok (.iload_n 3, 1) := by decide +kernel
theorem dL_1030 : decode cL_law 1030 = .ok (.iconst 2, 1) := by decide +kernel
theorem dL_1031 : decode cL_law 1031 = .ok (.iadd, 1) := by decide +kernel
theorem dL_1032 : decode cL_law 1032 = .ok (.iaload, 1) := by decide +kernel
theorem dL_1033 : decode cL_law 1033 = .ok (.aload_n 0, 1) := by decide +kernel
theorem dL_1034 : decode cL_law 1034 = .ok (.iload_n 3, 1) := by decide +kernel
theorem dL_1035 : decode cL_law 1035 = .ok (.iconst 3, 1) := by decide +kernel
theorem dL_1036 : decode cL_law 1036 = .ok (.iadd, 1) := by decide +kernel
theorem dL_1037 : decode cL_law 1037 = .ok (.iaload, 1) := by decide +kernel
theorem dL_1038 : decode cL_law 1038 = .ok (.invokevirtual 116, 3) := by decide +kernel
theorem dL_1041 : decode cL_law 1041 = .ok (.pop, 1) := by decide +kernel
theorem dL_1042 : decode cL_law 1042 = .ok (.goto 16, 3) := by decide +kernel
theorem dL_1045 : decode cL_law 1045 = .ok (.aload_n 1, 1) := by decide +kernel
theorem dL_1046 : decode cL_law 1046 = .ok (.invokevirtual 117, 3) := by decide +kernel
theorem dL_1049 : decode cL_law 1049 = .ok (.pop, 1) := by decide +kernel
theorem dL_1050 : decode cL_law 1050 = .ok (.aload_n 2, 1) := by decide +kernel
theorem dL_1051 : decode cL_law 1051 = .ok (.invokevirtual 120, 3) := by decide +kernel
theorem dL_1054 : decode cL_law 1054 = .ok (.pop, 1) := by decide +kernel
theorem dL_1055 : decode cL_law 1055 = .ok (.goto 3, 3) := by decide +kernel
theorem dL_1058 : decode cL_law 1058 = .ok (.iinc 3 6, 3) := by decide +kernel
theorem dL_1061 : decode cL_law 1061 = .ok (.goto (-1043), 3) := by decide +kernel
theorem dL_1064 : decode cL_law 1064 = .ok (.iconst 1, 1) := by decide +kernel
theorem dL_1065 : decode cL_law 1065 = .ok (.ireturn, 1) := by decide +kernel
theorem ml_L_9 : okI RL 9 yX11_init cX11_init 1 := ⟨(mt1 (List.mem_of_getElem? (i := 32) (by decide +kernel)) rfl), (mt1 (List.mem_of_getElem? (i := 33) (by decide +kernel)) rfl), (mt1 (List.mem_of_getElem? (i := 1) (by decide +kernel)) rfl), (mt1 (List.mem_of_getElem? (i := 34) (by decide +kernel)) rfl), rfl⟩
theorem ml_L_12 : okI RL 12 yX12_init cX12_init 1 := ⟨(mt7 (List.mem_of_getElem? (i := 88) (by decide +kernel)) rfl), (mt7 (List.mem_of_getElem? (i := 89) (by decide +kernel)) rfl), (mt1 (List.mem_of_getElem? (i := 13) (by decide +kernel)) rfl), (mt7 (List.mem_of_getElem? (i := 90) (by decide +kernel)) rfl), rfl⟩
theorem ml_L_13 : okC RL 13 yX11_feed cX11_feed 6 (some .int) := ⟨(mt2 (List.mem_of_getElem? (i := 86) (by decide +kernel)) rfl), (mt2 (List.mem_of_getElem? (i := 87) (by decide +kernel)) rfl), (mt2 (List.mem_of_getElem? (i := 88) (by decide +kernel)) rfl), (mt1 (List.mem_of_getElem? (i := 1) (by decide +kernel)) rfl), (mt2 (List.mem_of_getElem? (i := 89) (by decide +kernel)) rfl)⟩
theorem ml_L_17 : okC RL 17 yX12_feed cX12_feed 8 (some .int) := ⟨(mt10 (List.mem_of_getElem? (i := 182) (by decide +kernel)) rfl), (mt10 (List.mem_of_getElem? (i := 183) (by decide +kernel)) rfl), (mt10 (List.mem_of_getElem? (i := 184) (by decide +kernel)) rfl), (mt1 (List.mem_of_getElem? (i := 13) (by decide +kernel)) rfl), (mt10 (List.mem_of_getElem? (i := 185) (by decide +kernel)) rfl)⟩
theorem ml_L_18 : okC RL 18 yX11_end cX11_end 2 (some .int) := ⟨(mt2 (List.mem_of_getElem? (i := 94) (by decide +kernel)) rfl), (mt2 (List.mem_of_getElem? (i := 95) (by decide +kernel)) rfl), (mt2 (List.mem_of_getElem? (i := 96) (by decide +kernel)) rfl), (mt1 (List.mem_of_getElem? (i := 1) (by decide +kernel)) rfl), (mt2 (List.mem_of_getElem? (i := 97) (by decide +kernel)) rfl)⟩
theorem ml_L_22 : okC RL 22 yX12_end cX12_end 2 (some .int) := ⟨(mt10 (List.mem_of_getElem? (i := 186) (by decide +kernel)) rfl), (mt10 (List.mem_of_getElem? (i := 187) (by decide +kernel)) rfl), (mt10 (List.mem_of_getElem? (i := 188) (by decide +kernel)) rfl), (mt1 (List.mem_of_getElem? (i := 13) (by decide +kernel)) rfl), (mt10 (List.mem_of_getElem? (i := 189) (by decide +kernel)) rfl)⟩
theorem ml_L_23 : okC RL 23 yX11_take cX11_take 3 (some .int) := ⟨(mt2 (List.mem_of_getElem? (i := 98) (by decide +kernel)) rfl), (mt2 (List.mem_of_getElem? (i := 99) (by decide +kernel)) rfl), (mt2 (List.mem_of_getElem? (i := 100) (by decide +kernel)) rfl), (mt1 (List.mem_of_getElem? (i := 1) (by decide +kernel)) rfl), (mt2 (List.mem_of_getElem? (i := 101) (by decide +kernel)) rfl)⟩
theorem ml_L_27 : okC RL 27 yX12_take cX12_take 9 (some .int) := ⟨(mt9 (List.mem_of_getElem? (i := 8) (by decide +kernel)) rfl), (mt9 (List.mem_of_getElem? (i := 9) (by decide +kernel)) rfl), (mt9 (List.mem_of_getElem? (i := 10) (by decide +kernel)) rfl), (mt1 (List.mem_of_getElem? (i := 13) (by decide +kernel)) rfl), (mt9 (List.mem_of_getElem? (i := 11) (by decide +kernel)) rfl)⟩
theorem ml_L_28 : okC RL 28 yX11_fault cX11_fault 2 (some .int) := ⟨(mt5 (List.mem_of_getElem? (i := 69) (by decide +kernel)) rfl), (mt5 (List.mem_of_getElem? (i := 70) (by decide +kernel)) rfl), (mt5 (List.mem_of_getElem? (i := 71) (by decide +kernel)) rfl), (mt1 (List.mem_of_getElem? (i := 1) (by decide +kernel)) rfl), (mt5 (List.mem_of_getElem? (i := 72) (by decide +kernel)) rfl)⟩
theorem ml_L_31 : okC RL 31 yX12_fault cX12_fault 2 (some .int) := ⟨(mt9 (List.mem_of_getElem? (i := 216) (by decide +kernel)) rfl), (mt9 (List.mem_of_getElem? (i := 217) (by decide +kernel)) rfl), (mt9 (List.mem_of_getElem? (i := 218) (by decide +kernel)) rfl), (mt1 (List.mem_of_getElem? (i := 13) (by decide +kernel)) rfl), (mt9 (List.mem_of_getElem? (i := 219) (by decide +kernel)) rfl)⟩
theorem ml_L_34 : okC RL 34 yX11_named cX11_named 3 (some .int) := ⟨(mt5 (List.mem_of_getElem? (i := 73) (by decide +kernel)) rfl), (mt5 (List.mem_of_getElem? (i := 74) (by decide +kernel)) rfl), (mt5 (List.mem_of_getElem? (i := 75) (by decide +kernel)) rfl), (mt1 (List.mem_of_getElem? (i := 1) (by decide +kernel)) rfl), (mt5 (List.mem_of_getElem? (i := 76) (by decide +kernel)) rfl)⟩
theorem ml_L_38 : okC RL 38 yX12_named cX12_named 4 (some .int) := ⟨(mt9 (List.mem_of_getElem? (i := 224) (by decide +kernel)) rfl), (mt9 (List.mem_of_getElem? (i := 225) (by decide +kernel)) rfl), (mt9 (List.mem_of_getElem? (i := 226) (by decide +kernel)) rfl), (mt1 (List.mem_of_getElem? (i := 13) (by decide +kernel)) rfl), (mt9 (List.mem_of_getElem? (i := 227) (by decide +kernel)) rfl)⟩
theorem ml_L_39 : okC RL 39 yX11_kind cX11_kind 4 (some .int) := ⟨(mt5 (List.mem_of_getElem? (i := 82) (by decide +kernel)) rfl), (mt5 (List.mem_of_getElem? (i := 83) (by decide +kernel)) rfl), (mt5 (List.mem_of_getElem? (i := 84) (by decide +kernel)) rfl), (mt1 (List.mem_of_getElem? (i := 1) (by decide +kernel)) rfl), (mt5 (List.mem_of_getElem? (i := 85) (by decide +kernel)) rfl)⟩
theorem ml_L_43 : okC RL 43 yX12_kind cX12_kind 3 (some .int) := ⟨(mt9 (List.mem_of_getElem? (i := 232) (by decide +kernel)) rfl), (mt9 (List.mem_of_getElem? (i := 233) (by decide +kernel)) rfl), (mt9 (List.mem_of_getElem? (i := 234) (by decide +kernel)) rfl), (mt1 (List.mem_of_getElem? (i := 13) (by decide +kernel)) rfl), (mt9 (List.mem_of_getElem? (i := 235) (by decide +kernel)) rfl)⟩
theorem ml_L_44 : okC RL 44 yX11_member cX11_member 5 (some .int) := ⟨(mt5 (List.mem_of_getElem? (i := 87) (by decide +kernel)) rfl), (mt5 (List.mem_of_getElem? (i := 88) (by decide +kernel)) rfl), (mt5 (List.mem_of_getElem? (i := 89) (by decide +kernel)) rfl), (mt1 (List.mem_of_getElem? (i := 1) (by decide +kernel)) rfl), (mt5 (List.mem_of_getElem? (i := 90) (by decide +kernel)) rfl)⟩
theorem ml_L_48 : okC RL 48 yX12_member cX12_member 4 (some .int) := ⟨(mt9 (List.mem_of_getElem? (i := 236) (by decide +kernel)) rfl), (mt9 (List.mem_of_getElem? (i := 237) (by decide +kernel)) rfl), (mt9 (List.mem_of_getElem? (i := 238) (by decide +kernel)) rfl), (mt1 (List.mem_of_getElem? (i := 13) (by decide +kernel)) rfl), (mt9 (List.mem_of_getElem? (i := 239) (by decide +kernel)) rfl)⟩
theorem ml_L_49 : okC RL 49 yX11_misuse cX11_misuse 3 (some .int) := ⟨(mt5 (List.mem_of_getElem? (i := 92) (by decide +kernel)) rfl), (mt5 (List.mem_of_getElem? (i := 93) (by decide +kernel)) rfl), (mt5 (List.mem_of_getElem? (i := 94) (by decide +kernel)) rfl), (mt1 (List.mem_of_getElem? (i := 1) (by decide +kernel)) rfl), (mt5 (List.mem_of_getElem? (i := 95) (by decide +kernel)) rfl)⟩
theorem ml_L_52 : okC RL 52 yX12_misuse cX12_misuse 3 (some .int) := ⟨(mt9 (List.mem_of_getElem? (i := 220) (by decide +kernel)) rfl), (mt9 (List.mem_of_getElem? (i := 221) (by decide +kernel)) rfl), (mt9 (List.mem_of_getElem? (i := 222) (by decide +kernel)) rfl), (mt1 (List.mem_of_getElem? (i := 13) (by decide +kernel)) rfl), (mt9 (List.mem_of_getElem? (i := 223) (by decide +kernel)) rfl)⟩
theorem ml_L_53 : okC RL 53 yX11_paper cX11_paper 3 (some .int) := ⟨(mt5 (List.mem_of_getElem? (i := 96) (by decide +kernel)) rfl), (mt5 (List.mem_of_getElem? (i := 97) (by decide +kernel)) rfl), (mt5 (List.mem_of_getElem? (i := 98) (by decide +kernel)) rfl), (mt1 (List.mem_of_getElem? (i := 1) (by decide +kernel)) rfl), (mt5 (List.mem_of_getElem? (i := 99) (by decide +kernel)) rfl)⟩
theorem ml_L_56 : okC RL 56 yX12_paper cX12_paper 3 (some .int) := ⟨(mt10 (List.mem_of_getElem? (i := 0) (by decide +kernel)) rfl), (mt10 (List.mem_of_getElem? (i := 1) (by decide +kernel)) rfl), (mt10 (List.mem_of_getElem? (i := 2) (by decide +kernel)) rfl), (mt1 (List.mem_of_getElem? (i := 13) (by decide +kernel)) rfl), (mt10 (List.mem_of_getElem? (i := 3) (by decide +kernel)) rfl)⟩
theorem ml_L_57 : okC RL 57 yX11_setInt cX11_setInt 6 (some .boolean) := ⟨(mt5 (List.mem_of_getElem? (i := 131) (by decide +kernel)) rfl), (mt5 (List.mem_of_getElem? (i := 132) (by decide +kernel)) rfl), (mt5 (List.mem_of_getElem? (i := 133) (by decide +kernel)) rfl), (mt1 (List.mem_of_getElem? (i := 1) (by decide +kernel)) rfl), (mt5 (List.mem_of_getElem? (i := 134) (by decide +kernel)) rfl)⟩
theorem ml_L_61 : okC RL 61 yX12_setInt cX12_setInt 5 (some .boolean) := ⟨(mt10 (List.mem_of_getElem? (i := 4) (by decide +kernel)) rfl), (mt10 (List.mem_of_getElem? (i := 5) (by decide +kernel)) rfl), (mt10 (List.mem_of_getElem? (i := 6) (by decide +kernel)) rfl), (mt1 (List.mem_of_getElem? (i := 13) (by decide +kernel)) rfl), (mt10 (List.mem_of_getElem? (i := 7) (by decide +kernel)) rfl)⟩
theorem ml_L_62 : okC RL 62 yX11_setText cX11_setText 8 (some .boolean) := ⟨(mt5 (List.mem_of_getElem? (i := 150) (by decide +kernel)) rfl), (mt5 (List.mem_of_getElem? (i := 151) (by decide +kernel)) rfl), (mt5 (List.mem_of_getElem? (i := 152) (by decide +kernel)) rfl), (mt1 (List.mem_of_getElem? (i := 1) (by decide +kernel)) rfl), (mt5 (List.mem_of_getElem? (i := 153) (by decide +kernel)) rfl)⟩
theorem ml_L_66 : okC RL 66 yX12_setText cX12_setText 10 (some .boolean) := ⟨(mt10 (List.mem_of_getElem? (i := 16) (by decide +kernel)) rfl), (mt10 (List.mem_of_getElem? (i := 17) (by decide +kernel)) rfl), (mt10 (List.mem_of_getElem? (i := 18) (by decide +kernel)) rfl), (mt1 (List.mem_of_getElem? (i := 13) (by decide +kernel)) rfl), (mt10 (List.mem_of_getElem? (i := 19) (by decide +kernel)) rfl)⟩
theorem ml_L_67 : okC RL 67 yX11_link cX11_link 6 (some .boolean) := ⟨(mt5 (List.mem_of_getElem? (i := 157) (by decide +kernel)) rfl), (mt5 (List.mem_of_getElem? (i := 158) (by decide +kernel)) rfl), (mt5 (List.mem_of_getElem? (i := 159) (by decide +kernel)) rfl), (mt1 (List.mem_of_getElem? (i := 1) (by decide +kernel)) rfl), (mt5 (List.mem_of_getElem? (i := 160) (by decide +kernel)) rfl)⟩
theorem ml_L_71 : okC RL 71 yX12_link cX12_link 4 (some .boolean) := ⟨(mt10 (List.mem_of_getElem? (i := 20) (by decide +kernel)) rfl), (mt10 (List.mem_of_getElem? (i := 21) (by decide +kernel)) rfl), (mt10 (List.mem_of_getElem? (i := 22) (by decide +kernel)) rfl), (mt1 (List.mem_of_getElem? (i := 13) (by decide +kernel)) rfl), (mt10 (List.mem_of_getElem? (i := 23) (by decide +kernel)) rfl)⟩
theorem ml_L_72 : okC RL 72 yX11_item cX11_item 6 (some .int) := ⟨(mt5 (List.mem_of_getElem? (i := 169) (by decide +kernel)) rfl), (mt5 (List.mem_of_getElem? (i := 170) (by decide +kernel)) rfl), (mt5 (List.mem_of_getElem? (i := 171) (by decide +kernel)) rfl), (mt1 (List.mem_of_getElem? (i := 1) (by decide +kernel)) rfl), (mt5 (List.mem_of_getElem? (i := 172) (by decide +kernel)) rfl)⟩
theorem ml_L_76 : okC RL 76 yX12_item cX12_item 5 (some .int) := ⟨(mt10 (List.mem_of_getElem? (i := 28) (by decide +kernel)) rfl), (mt10 (List.mem_of_getElem? (i := 29) (by decide +kernel)) rfl), (mt10 (List.mem_of_getElem? (i := 30) (by decide +kernel)) rfl), (mt1 (List.mem_of_getElem? (i := 13) (by decide +kernel)) rfl), (mt10 (List.mem_of_getElem? (i := 31) (by decide +kernel)) rfl)⟩
theorem ml_L_77 : okC RL 77 yX11_value cX11_value 5 (some .int) := ⟨(mt5 (List.mem_of_getElem? (i := 177) (by decide +kernel)) rfl), (mt5 (List.mem_of_getElem? (i := 178) (by decide +kernel)) rfl), (mt5 (List.mem_of_getElem? (i := 179) (by decide +kernel)) rfl), (mt1 (List.mem_of_getElem? (i := 1) (by decide +kernel)) rfl), (mt5 (List.mem_of_getElem? (i := 180) (by decide +kernel)) rfl)⟩
theorem ml_L_80 : okC RL 80 yX12_value cX12_value 7 (some .int) := ⟨(mt10 (List.mem_of_getElem? (i := 32) (by decide +kernel)) rfl), (mt10 (List.mem_of_getElem? (i := 33) (by decide +kernel)) rfl), (mt10 (List.mem_of_getElem? (i := 34) (by decide +kernel)) rfl), (mt1 (List.mem_of_getElem? (i := 13) (by decide +kernel)) rfl), (mt10 (List.mem_of_getElem? (i := 35) (by decide +kernel)) rfl)⟩
theorem ml_L_81 : okC RL 81 yX11_check cX11_check 3 (some .int) := ⟨(mt5 (List.mem_of_getElem? (i := 190) (by decide +kernel)) rfl), (mt5 (List.mem_of_getElem? (i := 191) (by decide +kernel)) rfl), (mt5 (List.mem_of_getElem? (i := 192) (by decide +kernel)) rfl), (mt1 (List.mem_of_getElem? (i := 1) (by decide +kernel)) rfl), (mt5 (List.mem_of_getElem? (i := 193) (by decide +kernel)) rfl)⟩
theorem ml_L_84 : okC RL 84 yX12_check cX12_check 5 (some .int) := ⟨(mt10 (List.mem_of_getElem? (i := 44) (by decide +kernel)) rfl), (mt10 (List.mem_of_getElem? (i := 45) (by decide +kernel)) rfl), (mt10 (List.mem_of_getElem? (i := 46) (by decide +kernel)) rfl), (mt1 (List.mem_of_getElem? (i := 13) (by decide +kernel)) rfl), (mt10 (List.mem_of_getElem? (i := 47) (by decide +kernel)) rfl)⟩
theorem ml_L_85 : okC RL 85 yX11_found cX11_found 4 (some .int) := ⟨(mt6 (List.mem_of_getElem? (i := 112) (by decide +kernel)) rfl), (mt6 (List.mem_of_getElem? (i := 113) (by decide +kernel)) rfl), (mt6 (List.mem_of_getElem? (i := 114) (by decide +kernel)) rfl), (mt1 (List.mem_of_getElem? (i := 1) (by decide +kernel)) rfl), (mt6 (List.mem_of_getElem? (i := 115) (by decide +kernel)) rfl)⟩
theorem ml_L_88 : okC RL 88 yX12_found cX12_found 3 (some .int) := ⟨(mt10 (List.mem_of_getElem? (i := 146) (by decide +kernel)) rfl), (mt10 (List.mem_of_getElem? (i := 147) (by decide +kernel)) rfl), (mt10 (List.mem_of_getElem? (i := 148) (by decide +kernel)) rfl), (mt1 (List.mem_of_getElem? (i := 13) (by decide +kernel)) rfl), (mt10 (List.mem_of_getElem? (i := 149) (by decide +kernel)) rfl)⟩
theorem ml_L_89 : okC RL 89 yX11_way cX11_way 4 (some .int) := ⟨(mt7 (List.mem_of_getElem? (i := 5) (by decide +kernel)) rfl), (mt7 (List.mem_of_getElem? (i := 6) (by decide +kernel)) rfl), (mt7 (List.mem_of_getElem? (i := 7) (by decide +kernel)) rfl), (mt1 (List.mem_of_getElem? (i := 1) (by decide +kernel)) rfl), (mt7 (List.mem_of_getElem? (i := 8) (by decide +kernel)) rfl)⟩
theorem ml_L_92 : okC RL 92 yX12_way cX12_way 3 (some .int) := ⟨(mt10 (List.mem_of_getElem? (i := 154) (by decide +kernel)) rfl), (mt10 (List.mem_of_getElem? (i := 155) (by decide +kernel)) rfl), (mt10 (List.mem_of_getElem? (i := 156) (by decide +kernel)) rfl), (mt1 (List.mem_of_getElem? (i := 13) (by decide +kernel)) rfl), (mt10 (List.mem_of_getElem? (i := 157) (by decide +kernel)) rfl)⟩
theorem ml_L_93 : okC RL 93 yX11_text cX11_text 4 (some .int) := ⟨(mt7 (List.mem_of_getElem? (i := 13) (by decide +kernel)) rfl), (mt7 (List.mem_of_getElem? (i := 14) (by decide +kernel)) rfl), (mt7 (List.mem_of_getElem? (i := 15) (by decide +kernel)) rfl), (mt1 (List.mem_of_getElem? (i := 1) (by decide +kernel)) rfl), (mt7 (List.mem_of_getElem? (i := 16) (by decide +kernel)) rfl)⟩
theorem ml_L_96 : okC RL 96 yX12_text cX12_text 3 (some .int) := ⟨(mt10 (List.mem_of_getElem? (i := 158) (by decide +kernel)) rfl), (mt10 (List.mem_of_getElem? (i := 159) (by decide +kernel)) rfl), (mt10 (List.mem_of_getElem? (i := 160) (by decide +kernel)) rfl), (mt1 (List.mem_of_getElem? (i := 13) (by decide +kernel)) rfl), (mt10 (List.mem_of_getElem? (i := 161) (by decide +kernel)) rfl)⟩
theorem ml_L_97 : okC RL 97 yX11_failed cX11_failed 3 (some .int) := ⟨(mt7 (List.mem_of_getElem? (i := 27) (by decide +kernel)) rfl), (mt7 (List.mem_of_getElem? (i := 28) (by decide +kernel)) rfl), (mt7 (List.mem_of_getElem? (i := 29) (by decide +kernel)) rfl), (mt1 (List.mem_of_getElem? (i := 1) (by decide +kernel)) rfl), (mt7 (List.mem_of_getElem? (i := 30) (by decide +kernel)) rfl)⟩
theorem ml_L_100 : okC RL 100 yX12_failed cX12_failed 3 (some .int) := ⟨(mt10 (List.mem_of_getElem? (i := 36) (by decide +kernel)) rfl), (mt10 (List.mem_of_getElem? (i := 37) (by decide +kernel)) rfl), (mt10 (List.mem_of_getElem? (i := 38) (by decide +kernel)) rfl), (mt1 (List.mem_of_getElem? (i := 13) (by decide +kernel)) rfl), (mt10 (List.mem_of_getElem? (i := 39) (by decide +kernel)) rfl)⟩
theorem ml_L_101 : okC RL 101 yX11_asked cX11_asked 4 (some .int) := ⟨(mt7 (List.mem_of_getElem? (i := 32) (by decide +kernel)) rfl), (mt7 (List.mem_of_getElem? (i := 33) (by decide +kernel)) rfl), (mt7 (List.mem_of_getElem? (i := 34) (by decide +kernel)) rfl), (mt1 (List.mem_of_getElem? (i := 1) (by decide +kernel)) rfl), (mt7 (List.mem_of_getElem? (i := 35) (by decide +kernel)) rfl)⟩
theorem ml_L_104 : okC RL 104 yX12_asked cX12_asked 3 (some .int) := ⟨(mt10 (List.mem_of_getElem? (i := 40) (by decide +kernel)) rfl), (mt10 (List.mem_of_getElem? (i := 41) (by decide +kernel)) rfl), (mt10 (List.mem_of_getElem? (i := 42) (by decide +kernel)) rfl), (mt1 (List.mem_of_getElem? (i := 13) (by decide +kernel)) rfl), (mt10 (List.mem_of_getElem? (i := 43) (by decide +kernel)) rfl)⟩
theorem ml_L_105 : okC RL 105 yX11_cut cX11_cut 2 (some .int) := ⟨(mt7 (List.mem_of_getElem? (i := 37) (by decide +kernel)) rfl), (mt7 (List.mem_of_getElem? (i := 38) (by decide +kernel)) rfl), (mt7 (List.mem_of_getElem? (i := 39) (by decide +kernel)) rfl), (mt1 (List.mem_of_getElem? (i := 1) (by decide +kernel)) rfl), (mt7 (List.mem_of_getElem? (i := 40) (by decide +kernel)) rfl)⟩
theorem ml_L_108 : okC RL 108 yX12_cut cX12_cut 2 (some .int) := ⟨(mt10 (List.mem_of_getElem? (i := 162) (by decide +kernel)) rfl), (mt10 (List.mem_of_getElem? (i := 163) (by decide +kernel)) rfl), (mt10 (List.mem_of_getElem? (i := 164) (by decide +kernel)) rfl), (mt1 (List.mem_of_getElem? (i := 13) (by decide +kernel)) rfl), (mt10 (List.mem_of_getElem? (i := 165) (by decide +kernel)) rfl)⟩
theorem ml_L_109 : okC RL 109 yX11_groups cX11_groups 1 (some .int) := ⟨(mt7 (List.mem_of_getElem? (i := 41) (by decide +kernel)) rfl), (mt7 (List.mem_of_getElem? (i := 42) (by decide +kernel)) rfl), (mt7 (List.mem_of_getElem? (i := 43) (by decide +kernel)) rfl), (mt1 (List.mem_of_getElem? (i := 1) (by decide +kernel)) rfl), (mt7 (List.mem_of_getElem? (i := 44) (by decide +kernel)) rfl)⟩
theorem ml_L_112 : okC RL 112 yX12_groups cX12_groups 1 (some .int) := ⟨(mt10 (List.mem_of_getElem? (i := 166) (by decide +kernel)) rfl), (mt10 (List.mem_of_getElem? (i := 167) (by decide +kernel)) rfl), (mt10 (List.mem_of_getElem? (i := 168) (by decide +kernel)) rfl), (mt1 (List.mem_of_getElem? (i := 13) (by decide +kernel)) rfl), (mt10 (List.mem_of_getElem? (i := 169) (by decide +kernel)) rfl)⟩
theorem ml_L_113 : okC RL 113 yX11_wouldBe cX11_wouldBe 5 (some .int) := ⟨(mt7 (List.mem_of_getElem? (i := 45) (by decide +kernel)) rfl), (mt7 (List.mem_of_getElem? (i := 46) (by decide +kernel)) rfl), (mt7 (List.mem_of_getElem? (i := 47) (by decide +kernel)) rfl), (mt1 (List.mem_of_getElem? (i := 1) (by decide +kernel)) rfl), (mt7 (List.mem_of_getElem? (i := 48) (by decide +kernel)) rfl)⟩
theorem ml_L_116 : okC RL 116 yX12_wouldBe cX12_wouldBe 10 (some .int) := ⟨(mt10 (List.mem_of_getElem? (i := 170) (by decide +kernel)) rfl), (mt10 (List.mem_of_getElem? (i := 171) (by decide +kernel)) rfl), (mt10 (List.mem_of_getElem? (i := 172) (by decide +kernel)) rfl), (mt1 (List.mem_of_getElem? (i := 13) (by decide +kernel)) rfl), (mt10 (List.mem_of_getElem? (i := 173) (by decide +kernel)) rfl)⟩
theorem ml_L_117 : okC RL 117 yX11_correct cX11_correct 1 (some .int) := ⟨(mt7 (List.mem_of_getElem? (i := 58) (by decide +kernel)) rfl), (mt7 (List.mem_of_getElem? (i := 59) (by decide +kernel)) rfl), (mt7 (List.mem_of_getElem? (i := 60) (by decide +kernel)) rfl), (mt1 (List.mem_of_getElem? (i := 1) (by decide +kernel)) rfl), (mt7 (List.mem_of_getElem? (i := 61) (by decide +kernel)) rfl)⟩
theorem ml_L_120 : okC RL 120 yX12_correct cX12_correct 5 (some .int) := ⟨(mt10 (List.mem_of_getElem? (i := 174) (by decide +kernel)) rfl), (mt10 (List.mem_of_getElem? (i := 175) (by decide +kernel)) rfl), (mt10 (List.mem_of_getElem? (i := 176) (by decide +kernel)) rfl), (mt1 (List.mem_of_getElem? (i := 13) (by decide +kernel)) rfl), (mt10 (List.mem_of_getElem? (i := 177) (by decide +kernel)) rfl)⟩
theorem cl_L_7 : Cond.classLink RL 7 "CustomsDesk" ∈ lw_g := (mt1 (List.mem_of_getElem? (i := 30) (by decide +kernel)) rfl)
theorem cl_L_10 : Cond.classLink RL 10 "CustomsDeskModel" ∈ lw_g := (mt7 (List.mem_of_getElem? (i := 86) (by decide +kernel)) rfl)
theorem lc_L_32 : Cond.constantLong RL 32 4294967295 ∈ lw_g := (mt10 (List.mem_of_getElem? (i := 190) (by decide +kernel)) rfl)
theorem in_X12 : Cond.instantiable RX12 129 ∈ lw_g := (mt7 (List.mem_of_getElem? (i := 87) (by decide +kernel)) rfl)
theorem ini_X12 : Cond.initialized RX12 ∈ lw_g := (mt1 (List.mem_of_getElem? (i := 13) (by decide +kernel)) rfl)
