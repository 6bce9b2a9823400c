theorem dL_0 : decode cL_law 0 = .ok (.new 7, 3) := by decide +kernel
theorem dL_3 : decode cL_law 3 = .ok (.dup, 1) := by decide +kernel
theorem dL_4 : decode cL_law 4 = .ok (.invokespecial 9, 3) := by decide +kernel
theorem dL_7 : decode cL_law 7 = .ok (.astore_n 1, 1) := by decide +kernel
theorem dL_8 : decode cL_law 8 = .ok (.new 10, 3) := by decide +kernel
theorem dL_11 : decode cL_law 11 = .ok (.dup, 1) := by decide +kernel
theorem dL_12 : decode cL_law 12 = .ok (.invokespecial 12, 3) := by decide +kernel
theorem dL_15 : decode cL_law 15 = .ok (.astore_n 2, 1) := by decide +kernel
theorem dL_16 : decode cL_law 16 = .ok (.iconst 0, 1) := by decide +kernel
theorem dL_17 : decode cL_law 17 = .ok (.istore_n 3, 1) := by decide +kernel
theorem dL_18 : decode cL_law 18 = .ok (.iload_n 3, 1) := by decide +kernel
theorem dL_19 : decode cL_law 19 = .ok (.aload_n 0, 1) := by decide +kernel
theorem dL_20 : decode cL_law 20 = .ok (.arraylength, 1) := by decide +kernel
theorem dL_21 : decode cL_law 21 = .ok (.bipush 6, 2) := by decide +kernel
theorem dL_23 : decode cL_law 23 = .ok (.isub, 1) := by decide +kernel
theorem dL_24 : decode cL_law 24 = .ok (.if_icmp .gt 1040, 3) := by decide +kernel
theorem dL_27 : decode cL_law 27 = .ok (.aload_n 0, 1) := by decide +kernel
theorem dL_28 : decode cL_law 28 = .ok (.iload_n 3, 1) := by decide +kernel
theorem dL_29 : decode cL_law 29 = .ok (.iaload, 1) := by decide +kernel
theorem dL_30 : decode cL_law 30 = .ok (.bipush 31, 2) := by decide +kernel
theorem dL_32 : decode cL_law 32 = .ok (.iand, 1) := by decide +kernel
theorem dL_33 : decode cL_law 33 = .ok (.tableswitch 1025 0 23 #[111, 174, 197, 210, 233, 286, 319, 382, 415, 438, 507, 606, 649, 692, 735, 768, 801, 834, 867, 900, 933, 956, 969, 1012], 111) := by decide +kernel
theorem dL_144 : decode cL_law 144 = .ok (.aload_n 1, 1) := by decide +kernel
theorem dL_145 : decode cL_law 145 = .ok (.aload_n 0, 1) := by decide +kernel
theorem dL_146 : decode cL_law 146 = .ok (.iload_n 3, 1) := by decide +kernel
theorem dL_147 : decode cL_law 147 = .ok (.iconst 1, 1) := by decide +kernel
theorem dL_148 : decode cL_law 148 = .ok (.iadd, 1) := by decide +kernel
theorem dL_149 : decode cL_law 149 = .ok (.iaload, 1) := by decide +kernel
theorem dL_150 : decode cL_law 150 = .ok (.aload_n 0, 1) := by decide +kernel
theorem dL_151 : decode cL_law 151 = .ok (.iload_n 3, 1) := by decide +kernel
theorem dL_152 : decode cL_law 152 = .ok (.iconst 2, 1) := by decide +kernel
theorem dL_153 : decode cL_law 153 = .ok (.iadd, 1) := by decide +kernel
theorem dL_154 : decode cL_law 154 = .ok (.iaload, 1) := by decide +kernel
theorem dL_155 : decode cL_law 155 = .ok (.aload_n 0, 1) := by decide +kernel
theorem dL_156 : decode cL_law 156 = .ok (.iload_n 3, 1) := by decide +kernel
theorem dL_157 : decode cL_law 157 = .ok (.iconst 3, 1) := by decide +kernel
theorem dL_158 : decode cL_law 158 = .ok (.iadd, 1) := by decide +kernel
theorem dL_159 : decode cL_law 159 = .ok (.iaload, 1) := by decide +kernel
theorem dL_160 : decode cL_law 160 = .ok (.aload_n 0, 1) := by decide +kernel
theorem dL_161 : decode cL_law 161 = .ok (.iload_n 3, 1) := by decide +kernel
theorem dL_162 : decode cL_law 162 = .ok (.iconst 4, 1) := by decide +kernel
theorem dL_163 : decode cL_law 163 = .ok (.iadd, 1) := by decide +kernel
theorem dL_164 : decode cL_law 164 = .ok (.iaload, 1) := by decide +kernel
theorem dL_165 : decode cL_law 165 = .ok (.aload_n 0, 1) := by decide +kernel
theorem dL_166 : decode cL_law 166 = .ok (.iload_n 3, 1) := by decide +kernel
theorem dL_167 : decode cL_law 167 = .ok (.iconst 5, 1) := by decide +kernel
theorem dL_168 : decode cL_law 168 = .ok (.iadd, 1) := by decide +kernel
theorem dL_169 : decode cL_law 169 = .ok (.iaload, 1) := by decide +kernel
theorem dL_170 : decode cL_law 170 = .ok (.invokevirtual 13, 3) := by decide +kernel
theorem dL_173 : decode cL_law 173 = .ok (.pop, 1) := by decide +kernel
theorem dL_174 : decode cL_law 174 = .ok (.aload_n 2, 1) := by decide +kernel
theorem dL_175 : decode cL_law 175 = .ok (.aload_n 0, 1) := by decide +kernel
theorem dL_176 : decode cL_law 176 = .ok (.iload_n 3, 1) := by decide +kernel
theorem dL_177 : decode cL_law 177 = .ok (.iconst 1, 1) := by decide +kernel
theorem dL_178 : decode cL_law 178 = .ok (.iadd, 1) := by decide +kernel
theorem dL_179 : decode cL_law 179 = .ok (.iaload, 1) := by decide +kernel
theorem dL_180 : decode cL_law 180 = .ok (.aload_n 0, 1) := by decide +kernel
theorem dL_181 : decode cL_law 181 = .ok (.iload_n 3, 1) := by decide +kernel
theorem dL_182 : decode cL_law 182 = .ok (.iconst 2, 1) := by decide +kernel
theorem dL_183 : decode cL_law 183 = .ok (.iadd, 1) := by decide +kernel
theorem dL_184 : decode cL_law 184 = .ok (.iaload, 1) := by decide +kernel
theorem dL_185 : decode cL_law 185 = .ok (.aload_n 0, 1) := by decide +kernel
theorem dL_186 : decode cL_law 186 = .ok (.iload_n 3, 1) := by decide +kernel
theorem dL_187 : decode cL_law 187 = .ok (.iconst 3, 1) := by decide +kernel
theorem dL_188 : decode cL_law 188 = .ok (.iadd, 1) := by decide +kernel
theorem dL_189 : decode cL_law 189 = .ok (.iaload, 1) := by decide +kernel
theorem dL_190 : decode cL_law 190 = .ok (.aload_n 0, 1) := by decide +kernel
theorem dL_191 : decode cL_law 191 = .ok (.iload_n 3, 1) := by decide +kernel
theorem dL_192 : decode cL_law 192 = .ok (.iconst 4, 1) := by decide +kernel
theorem dL_193 : decode cL_law 193 = .ok (.iadd, 1) := by decide +kernel
theorem dL_194 : decode cL_law 194 = .ok (.iaload, 1) := by decide +kernel
theorem dL_195 : decode cL_law 195 = .ok (.aload_n 0, 1) := by decide +kernel
theorem dL_196 : decode cL_law 196 = .ok (.iload_n 3, 1) := by decide +kernel
theorem dL_197 : decode cL_law 197 = .ok (.iconst 5, 1) := by decide +kernel
theorem dL_198 : decode cL_law 198 = .ok (.iadd, 1) := by decide +kernel
theorem dL_199 : decode cL_law 199 = .ok (.iaload, 1) := by decide +kernel
theorem dL_200 : decode cL_law 200 = .ok (.invokevirtual 17, 3) := by decide +kernel
theorem dL_203 : decode cL_law 203 = .ok (.pop, 1) := by decide +kernel
theorem dL_204 : decode cL_law 204 = .ok (.goto 854, 3) := by decide +kernel
theorem dL_207 : decode cL_law 207 = .ok (.aload_n 1, 1) := by decide +kernel
theorem dL_208 : decode cL_law 208 = .ok (.aload_n 0, 1) := by decide +kernel
theorem dL_209 : decode cL_law 209 = .ok (.iload_n 3, 1) := by decide +kernel
theorem dL_210 : decode cL_law 210 = .ok (.iconst 1, 1) := by decide +kernel
theorem dL_211 : decode cL_law 211 = .ok (.iadd, 1) := by decide +kernel
theorem dL_212 : decode cL_law 212 = .ok (.iaload, 1) := by decide +kernel
theorem dL_213 : decode cL_law 213 = .ok (.invokevirtual 18, 3) := by decide +kernel
theorem dL_216 : decode cL_law 216 = .ok (.aload_n 2, 1) := by decide +kernel
theorem dL_217 : decode cL_law 217 = .ok (.aload_n 0, 1) := by decide +kernel
theorem dL_218 : decode cL_law 218 = .ok (.iload_n 3, 1) := by decide +kernel
theorem dL_219 : decode cL_law 219 = .ok (.iconst 1, 1) := by decide +kernel
theorem dL_220 : decode cL_law 220 = .ok (.iadd, 1) := by decide +kernel
theorem dL_221 : decode cL_law 221 = .ok (.iaload, 1) := by decide +kernel
theorem dL_222 : decode cL_law 222 = .ok (.invokevirtual 22, 3) := by decide +kernel
theorem dL_225 : decode cL_law 225 = .ok (.if_icmp .eq 833, 3) := by decide +kernel
theorem dL_228 : decode cL_law 228 = .ok (.iconst 0, 1) := by decide +kernel
theorem dL_229 : decode cL_law 229 = .ok (.ireturn, 1) := by decide +kernel
theorem dL_230 : decode cL_law 230 = .ok (.aload_n 1, 1) := by decide +kernel
theorem dL_231 : decode cL_law 231 = .ok (.invokevirtual 23, 3) := by decide +kernel
theorem dL_234 : decode cL_law 234 = .ok (.pop, 1) := by decide +kernel
theorem dL_235 : decode cL_law 235 = .ok (.aload_n 2, 1) := by decide +kernel
theorem dL_236 : decode cL_law 236 = .ok (.invokevirtual 27, 3) := by decide +kernel
theorem dL_239 : decode cL_law 239 = .ok (.pop, 1) := by decide +kernel
theorem dL_240 : decode cL_law 240 = .ok (.goto 818, 3) := by decide +kernel
theorem dL_243 : decode cL_law 243 = .ok (.aload_n 1, 1) := by decide +kernel
theorem dL_244 : decode cL_law 244 = .ok (.aload_n 0, 1) := by decide +kernel
theorem dL_245 : decode cL_law 245 = .ok (.iload_n 3, 1) := by decide +kernel
theorem dL_246 : decode cL_law 246 = .ok (.iconst 1, 1) := by decide +kernel
theorem dL_247 : decode cL_law 247 = .ok (.iadd, 1) := by decide +kernel
theorem dL_248 : decode cL_law 248 = .ok (.iaload, 1) := by decide +kernel
theorem dL_249 : decode cL_law 249 = .ok (.invokevirtual 28, 3) := by decide +kernel
theorem dL_252 : decode cL_law 252 = .ok (.pop, 1) := by decide +kernel
theorem dL_253 : decode cL_law 253 = .ok (.aload_n 2, 1) := by decide +kernel
theorem dL_254 : decode cL_law 254 = .ok (.aload_n 0, 1) := by decide +kernel
theorem dL_255 : decode cL_law 255 = .ok (.iload_n 3, 1) := by decide +kernel
theorem dL_256 : decode cL_law 256 = .ok (.iconst 1, 1) := by decide +kernel
theorem dL_257 : decode cL_law 257 = .ok (.iadd, 1) := by decide +kernel
theorem dL_258 : decode cL_law 258 = .ok (.iaload, 1) := by decide +kernel
theorem dL_259 : decode cL_law 259 = .ok (.invokevirtual 31, 3) := by decide +kernel
theorem dL_262 : decode cL_law 262 = .ok (.pop, 1) := by decide +kernel
theorem dL_263 : decode cL_law 263 = .ok (.goto 795, 3) := by decide +kernel
theorem dL_266 : decode cL_law 266 = .ok (.aload_n 1, 1) := by decide +kernel
theorem dL_267 : decode cL_law 267 = .ok (.aload_n 0, 1) := by decide +kernel
theorem dL_268 : decode cL_law 268 = .ok (.iload_n 3, 1) := by decide +kernel
theorem dL_269 : decode cL_law 269 = .ok (.iconst 1, 1) := by decide +kernel
theorem dL_270 : decode cL_law 270 = .ok (.iadd, 1) := by decide +kernel
theorem dL_271 : decode cL_law 271 = .ok (.iaload, 1) := by decide +kernel
theorem dL_272 : decode cL_law 272 = .ok (.i2l, 1) := by decide +kernel
theorem dL_273 : decode cL_law 273 = .ok (.bipush 32, 2) := by decide +kernel
theorem dL_275 : decode cL_law 275 = .ok (.lshl, 1) := by decide +kernel
theorem dL_276 : decode cL_law 276 = .ok (.aload_n 0, 1) := by decide +kernel
theorem dL_277 : decode cL_law 277 = .ok (.iload_n 3, 1) := by decide +kernel
theorem dL_278 : decode cL_law 278 = .ok (.iconst 2, 1) := by decide +kernel
theorem dL_279 : decode cL_law 279 = .ok (.iadd, 1) := by decide +kernel
theorem dL_280 : decode cL_law 280 = .ok (.iaload, 1) := by decide +kernel
theorem dL_281 : decode cL_law 281 = .ok (.i2l, 1) := by decide +kernel
theorem dL_282 : decode cL_law 282 = .ok (.ldc2_w 32, 3) := by decide +kernel
theorem dL_285 : decode cL_law 285 = .ok (.land, 1) := by decide +kernel
theorem dL_286 : decode cL_law 286 = .ok (.lor, 1) := by decide +kernel
theorem dL_287 : decode cL_law 287 = .ok (.invokevirtual 34, 3) := by decide +kernel
theorem dL_290 : decode cL_law 290 = .ok (.pop, 1) := by decide +kernel
theorem dL_291 : decode cL_law 291 = .ok (.aload_n 2, 1) := by decide +kernel
theorem dL_292 : decode cL_law 292 = .ok (.aload_n 0, 1) := by decide +kernel
theorem dL_293 : decode cL_law 293 = .ok (.iload_n 3, 1) := by decide +kernel
theorem dL_294 : decode cL_law 294 = .ok (.iconst 1, 1) := by decide +kernel
theorem dL_295 : decode cL_law 295 = .ok (.iadd, 1) := by decide +kernel
theorem dL_296 : decode cL_law 296 = .ok (.iaload, 1) := by decide +kernel
theorem dL_297 : decode cL_law 297 = .ok (.i2l, 1) := by decide +kernel
theorem dL_298 : decode cL_law 298 = .ok (.bipush 32, 2) := by decide +kernel
theorem dL_300 : decode cL_law 300 = .ok (.lshl, 1) := by decide +kernel
theorem dL_301 : decode cL_law 301 = .ok (.aload_n 0, 1) := by decide +kernel
theorem dL_302 : decode cL_law 302 = .ok (.iload_n 3, 1) := by decide +kernel
theorem dL_303 : decode cL_law 303 = .ok (.iconst 2, 1) := by decide +kernel
theorem dL_304 : decode cL_law 304 = .ok (.iadd, 1) := by decide +kernel
theorem dL_305 : decode cL_law 305 = .ok (.iaload, 1) := by decide +kernel
theorem dL_306 : decode cL_law 306 = .ok (.i2l, 1) := by decide +kernel
theorem dL_307 : decode cL_law 307 = .ok (.ldc2_w 32, 3) := by decide +kernel
theorem dL_310 : decode cL_law 310 = .ok (.land, 1) := by decide +kernel
theorem dL_311 : decode cL_law 311 = .ok (.lor, 1) := by decide +kernel
theorem dL_312 : decode cL_law 312 = .ok (.invokevirtual 38, 3) := by decide +kernel
theorem dL_315 : decode cL_law 315 = .ok (.pop, 1) := by decide +kernel
theorem dL_316 : decode cL_law 316 = .ok (.goto 742, 3) := by decide +kernel
theorem dL_319 : decode cL_law 319 = .ok (.aload_n 1, 1) := by decide +kernel
theorem dL_320 : decode cL_law 320 = .ok (.aload_n 0, 1) := by decide +kernel
theorem dL_321 : decode cL_law 321 = .ok (.iload_n 3, 1) := by decide +kernel
theorem dL_322 : decode cL_law 322 = .ok (.iconst 1, 1) := by decide +kernel
theorem dL_323 : decode cL_law 323 = .ok (.iadd, 1) := by decide +kernel
theorem dL_324 : decode cL_law 324 = .ok (.iaload, 1) := by decide +kernel
theorem dL_325 : decode cL_law 325 = .ok (.aload_n 0, 1) := by decide +kernel
theorem dL_326 : decode cL_law 326 = .ok (.iload_n 3, 1) := by decide +kernel
theorem dL_327 : decode cL_law 327 = .ok (.iconst 2, 1) := by decide +kernel
theorem dL_328 : decode cL_law 328 = .ok (.iadd, 1) := by decide +kernel
theorem dL_329 : decode cL_law 329 = .ok (.iaload, 1) := by decide +kernel
theorem dL_330 : decode cL_law 330 = .ok (.invokevirtual 39, 3) := by decide +kernel
theorem dL_333 : decode cL_law 333 = .ok (.pop, 1) := by decide +kernel
theorem dL_334 : decode cL_law 334 = .ok (.aload_n 2, 1) := by decide +kernel
theorem dL_335 : decode cL_law 335 = .ok (.aload_n 0, 1) := by decide +kernel
theorem dL_336 : decode cL_law 336 = .ok (.iload_n 3, 1) := by decide +kernel
theorem dL_337 : decode cL_law 337 = .ok (.iconst 1, 1) := by decide +kernel
theorem dL_338 : decode cL_law 338 = .ok (.iadd, 1) := by decide +kernel
theorem dL_339 : decode cL_law 339 = .ok (.iaload, 1) := by decide +kernel
theorem dL_340 : decode cL_law 340 = .ok (.aload_n 0, 1) := by decide +kernel
theorem dL_341 : decode cL_law 341 = .ok (.iload_n 3, 1) := by decide +kernel
theorem dL_342 : decode cL_law 342 = .ok (.iconst 2, 1) := by decide +kernel
theorem dL_343 : decode cL_law 343 = .ok (.iadd, 1) := by decide +kernel
theorem dL_344 : decode cL_law 344 = .ok (.iaload, 1) := by decide +kernel
theorem dL_345 : decode cL_law 345 = .ok (.invokevirtual 43, 3) := by decide +kernel
theorem dL_348 : decode cL_law 348 = .ok (.pop, 1) := by decide +kernel
theorem dL_349 : decode cL_law 349 = .ok (.goto 709, 3) := by decide +kernel
theorem dL_352 : decode cL_law 352 = .ok (.aload_n 1, 1) := by decide +kernel
theorem dL_353 : decode cL_law 353 = .ok (.aload_n 0, 1) := by decide +kernel
theorem dL_354 : decode cL_law 354 = .ok (.iload_n 3, 1) := by decide +kernel
theorem dL_355 : decode cL_law 355 = .ok (.iconst 1, 1) := by decide +kernel
theorem dL_356 : decode cL_law 356 = .ok (.iadd, 1) := by decide +kernel
theorem dL_357 : decode cL_law 357 = .ok (.iaload, 1) := by decide +kernel
theorem dL_358 : decode cL_law 358 = .ok (.aload_n 0, 1) := by decide +kernel
theorem dL_359 : decode cL_law 359 = .ok (.iload_n 3, 1) := by decide +kernel
theorem dL_360 : decode cL_law 360 = .ok (.iconst 2, 1) := by decide +kernel
theorem dL_361 : decode cL_law 361 = .ok (.iadd, 1) := by decide +kernel
theorem dL_362 : decode cL_law 362 = .ok (.iaload, 1) := by decide +kernel
theorem dL_363 : decode cL_law 363 = .ok (.i2l, 1) := by decide +kernel
theorem dL_364 : decode cL_law 364 = .ok (.bipush 32, 2) := by decide +kernel
theorem dL_366 : decode cL_law 366 = .ok (.lshl, 1) := by decide +kernel
theorem dL_367 : decode cL_law 367 = .ok (.aload_n 0, 1) := by decide +kernel
theorem dL_368 : decode cL_law 368 = .ok (.iload_n 3, 1) := by decide +kernel
theorem dL_369 : decode cL_law 369 = .ok (.iconst 3, 1) := by decide +kernel
theorem dL_370 : decode cL_law 370 = .ok (.iadd, 1) := by decide +kernel
theorem dL_371 : decode cL_law 371 = .ok (.iaload, 1) := by decide +kernel
theorem dL_372 : decode cL_law 372 = .ok (.i2l, 1) := by decide +kernel
theorem dL_373 : decode cL_law 373 = .ok (.ldc2_w 32, 3) := by decide +kernel
theorem dL_376 : decode cL_law 376 = .ok (.land, 1) := by decide +kernel
theorem dL_377 : decode cL_law 377 = .ok (.lor, 1) := by decide +kernel
theorem dL_378 : decode cL_law 378 = .ok (.invokevirtual 44, 3) := by decide +kernel
theorem dL_381 : decode cL_law 381 = .ok (.pop, 1) := by decide +kernel
theorem dL_382 : decode cL_law 382 = .ok (.aload_n 2, 1) := by decide +kernel
theorem dL_383 : decode cL_law 383 = .ok (.aload_n 0, 1) := by decide +kernel
theorem dL_384 : decode cL_law 384 = .ok (.iload_n 3, 1) := by decide +kernel
theorem dL_385 : decode cL_law 385 = .ok (.iconst 1, 1) := by decide +kernel
theorem dL_386 : decode cL_law 386 = .ok (.iadd, 1) := by decide +kernel
theorem dL_387 : decode cL_law 387 = .ok (.iaload, 1) := by decide +kernel
theorem dL_388 : decode cL_law 388 = .ok (.aload_n 0, 1) := by decide +kernel
theorem dL_389 : decode cL_law 389 = .ok (.iload_n 3, 1) := by decide +kernel
theorem dL_390 : decode cL_law 390 = .ok (.iconst 2, 1) := by decide +kernel
theorem dL_391 : decode cL_law 391 = .ok (.iadd, 1) := by decide +kernel
theorem dL_392 : decode cL_law 392 = .ok (.iaload, 1) := by decide +kernel
theorem dL_393 : decode cL_law 393 = .ok (.i2l, 1) := by decide +kernel
theorem dL_394 : decode cL_law 394 = .ok (.bipush 32, 2) := by decide +kernel
theorem dL_396 : decode cL_law 396 = .ok (.lshl, 1) := by decide +kernel
theorem dL_397 : decode cL_law 397 = .ok (.aload_n 0, 1) := by decide +kernel
theorem dL_398 : decode cL_law 398 = .ok (.iload_n 3, 1) := by decide +kernel
theorem dL_399 : decode cL_law 399 = .ok (.iconst 3, 1) := by decide +kernel
theorem dL_400 : decode cL_law 400 = .ok (.iadd, 1) := by decide +kernel
theorem dL_401 : decode cL_law 401 = .ok (.iaload, 1) := by decide +kernel
theorem dL_402 : decode cL_law 402 = .ok (.i2l, 1) := by decide +kernel
theorem dL_403 : decode cL_law 403 = .ok (.ldc2_w 32, 3) := by decide +kernel
theorem dL_406 : decode cL_law 406 = .ok (.land, 1) := by decide +kernel
theorem dL_407 : decode cL_law 407 = .ok (.lor, 1) := by decide +kernel
theorem dL_408 : decode cL_law 408 = .ok (.invokevirtual 48, 3) := by decide +kernel
theorem dL_411 : decode cL_law 411 = .ok (.pop, 1) := by decide +kernel
theorem dL_412 : decode cL_law 412 = .ok (.goto 646, 3) := by decide +kernel
theorem dL_415 : decode cL_law 415 = .ok (.aload_n 1, 1) := by decide +kernel
theorem dL_416 : decode cL_law 416 = .ok (.aload_n 0, 1) := by decide +kernel
theorem dL_417 : decode cL_law 417 = .ok (.iload_n 3, 1) := by decide +kernel
theorem dL_418 : decode cL_law 418 = .ok (.iconst 1, 1) := by decide +kernel
theorem dL_419 : decode cL_law 419 = .ok (.iadd, 1) := by decide +kernel
theorem dL_420 : decode cL_law 420 = .ok (.iaload, 1) := by decide +kernel
theorem dL_421 : decode cL_law 421 = .ok (.aload_n 0, 1) := by decide +kernel
theorem dL_422 : decode cL_law 422 = .ok (.iload_n 3, 1) := by decide +kernel
theorem dL_423 : decode cL_law 423 = .ok (.iconst 2, 1) := by decide +kernel
theorem dL_424 : decode cL_law 424 = .ok (.iadd, 1) := by decide +kernel
theorem dL_425 : decode cL_law 425 = .ok (.iaload, 1) := by decide +kernel
theorem dL_426 : decode cL_law 426 = .ok (.invokevirtual 49, 3) := by decide +kernel
theorem dL_429 : decode cL_law 429 = .ok (.pop, 1) := by decide +kernel
theorem dL_430 : decode cL_law 430 = .ok (.aload_n 2, 1) := by decide +kernel
theorem dL_431 : decode cL_law 431 = .ok (.aload_n 0, 1) := by decide +kernel
theorem dL_432 : decode cL_law 432 = .ok (.iload_n 3, 1) := by decide +kernel
theorem dL_433 : decode cL_law 433 = .ok (.iconst 1, 1) := by decide +kernel
theorem dL_434 : decode cL_law 434 = .ok (.iadd, 1) := by decide +kernel
theorem dL_435 : decode cL_law 435 = .ok (.iaload, 1) := by decide +kernel
theorem dL_436 : decode cL_law 436 = .ok (.aload_n 0, 1) := by decide +kernel
theorem dL_437 : decode cL_law 437 = .ok (.iload_n 3, 1) := by decide +kernel
