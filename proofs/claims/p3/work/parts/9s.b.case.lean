def LSt (D : va_G) (dA : Nat → ClassId) (eA h0 hd : Nat) (ad : Nat → Nat) (s : State) (n : Nat) (σ : MS) (L : List Nat) (T N : Nat → Nat) (I : Nat → Nat → Int) (J : Nat → Nat → Int64) (R : Nat → Nat → Nat) (H : Heap) (locs : List Loc) (z y : Nat) : Prop :=
  LW D dA eA h0 ad (lwA s) s σ L T N I J R H locs ∧ RIv σ ∧ T hd = 2 ∧ DI T I R hd ∧ I hd 7 = σ.1 1 ∧ 18 * (z : Int) + 990 * I hd 7 ≤ 7200 + 20880 * (n : Int) + (lNS N R hd : Int) ∧ (y : Int) + 401 * I hd 7 ≤ 380000 + 8200 * (n : Int) + 2 * (lNS N R hd : Int)
section LCS
variable {p : Program} {l : Launch} {e : Env} {s : State} {m : MethodId} {below : List Frame} {meth : Method} {c : Code} {H : Heap} {locs : List Loc} {z y : Nat} {Q : State → Prop} {ls : Array Slot}
variable {D : va_G} {dA : Nat → ClassId} {eA h0 hd b Ln n : Nat} {xs : Nat → Int32} {ad : Nat → Nat} {σ : MS} {L : List Nat} {T N : Nat → Nat} {I : Nat → Nat → Int} {J : Nat → Nat → Int64} {R : Nat → Nat → Nat}
set_option maxHeartbeats 1000000 in
set_option maxRecDepth 20000 in
theorem law_c3 (C0 : LC p s m meth c b Ln xs D dA eA) (hS : LSt D dA eA h0 hd ad s n σ L T N I J R H locs z y) (hn : 6 * n + 6 ≤ Ln) (hl : lv_has ls 4 [(3, .int (II (6 * (n : Int)))), (2, .ref h0), (1, .ref hd), (0, .ref b)]) (KK : ∀ (σ : MS) (L : List Nat) (T N : Nat → Nat) (I : Nat → Nat → Int) (J : Nat → Nat → Int64) (R : Nat → Nat → Nat) (H : Heap) (locs : List Loc) (z y : Nat), LSt D dA eA h0 hd ad s (n + 1) σ L T N I J R H locs z y → W p l e room_1 s m #[Value.ref b] below meth c H locs z y Q (F0 m 1058 ls [])) : W p l e room_1 s m #[Value.ref b] below meth c H locs z y Q (F0 m 243 ls []) := by
  obtain ⟨B, hX, hxs, hbl, hL⟩ := C0
  obtain ⟨f, g, A, La⟩ := σ
  obtain ⟨hW, ⟨q0, q1, q2, q3, q4, q5, q6, q7, q8, q9, q10, q11⟩, td, hDI, hlen, hz, hy⟩ := hS
  have hA : ∀ q, s.heap.size ≤ q → lwA s q := fun _ h => h
  have hC := hW.2.1.2.2.2.2.2.2.1
  have hXI := hW.2.1.2.2.2.2.2.2.2
  have h7 := g2_7 hC td
  have hns := lNS_le hC td
  refine lv_aload_n B.1 B.2.1 dL_243 rfl (lv_at hl 2 rfl) ?_
  refine L_ld (k := 1) (kz := 1) B hxs hbl hL hW.1.2.2.1 hn hl (by decide) rfl dL_244 dL_245 dL_246 dL_247 dL_248 ?_
  refine p_calli (c_runV (n := 1) (as := [.int (II (xs (6 * n + 1)).toInt)]) (rest := []) B hX hA hW.2.1 hl.1 td kd2 rfl (k_X11_fault l D dA eA L T N I J R hd td ((xs (6 * n + 1)).toInt) (toInt_inr _) _ _) ml_L_28 nm_X11_fault ⟨rfl, rfl⟩ ⟨Nat.le_of_ble_eq_true rfl, Nat.le_of_ble_eq_true rfl⟩ dL_249 rfl rfl (Nat.le_of_ble_eq_true rfl) ⟨by show z + (0) ≤ 600000; omega, by show y + (0) ≤ 7302250; omega⟩) (fun r1 i1 hp1 => ?_)
  refine lv_pop B.1 B.2.1 dL_252 rfl ?_
  refine lv_aload_n B.1 B.2.1 dL_253 rfl (lv_at hl 1 rfl) ?_
  refine L_ld (k := 1) (kz := 1) B hxs hbl hL hW.1.2.2.1 hn hl (by decide) rfl dL_254 dL_255 dL_256 dL_257 dL_258 ?_
  refine L_callm (n := 1) (as := [.int (II (xs (6 * n + 1)).toInt)]) (rest := []) B hW hA hl.1 (k_fault l D dA h0 ad f g A La ((xs (6 * n + 1)).toInt) (toInt_inr _)) rfl ml_L_31 nm_fault ⟨rfl, rfl⟩ ⟨Nat.le_of_ble_eq_true rfl, Nat.le_of_ble_eq_true rfl⟩ dL_259 rfl rfl (Nat.le_of_ble_eq_true rfl) ⟨by show z ≤ 600000; omega, by show y ≤ 7302250; omega⟩ (fun r2 σ1 H locs i2 hp2 hW => ?_)
  obtain ⟨rfl, hp2⟩ := hp2
  refine lv_pop B.1 B.2.1 dL_262 rfl ?_
  refine lv_goto (tgt := 1058) B.1 B.2.1 dL_263 (by decide) ?_
  exact KK _ _ _ _ _ _ _ _ _ _ _ ⟨hW, ⟨q0, q1, q2, q3, q4, q5, q6, q7, q8, q9, q10, q11⟩, td, hDI, hlen, by omega, by omega⟩
set_option maxHeartbeats 1000000 in
set_option maxRecDepth 20000 in
theorem law_c4 (C0 : LC p s m meth c b Ln xs D dA eA) (hS : LSt D dA eA h0 hd ad s n σ L T N I J R H locs z y) (hn : 6 * n + 6 ≤ Ln) (hl : lv_has ls 4 [(3, .int (II (6 * (n : Int)))), (2, .ref h0), (1, .ref hd), (0, .ref b)]) (KK : ∀ (σ : MS) (L : List Nat) (T N : Nat → Nat) (I : Nat → Nat → Int) (J : Nat → Nat → Int64) (R : Nat → Nat → Nat) (H : Heap) (locs : List Loc) (z y : Nat), LSt D dA eA h0 hd ad s (n + 1) σ L T N I J R H locs z y → W p l e room_1 s m #[Value.ref b] below meth c H locs z y Q (F0 m 1058 ls [])) : W p l e room_1 s m #[Value.ref b] below meth c H locs z y Q (F0 m 266 ls []) := by
  obtain ⟨B, hX, hxs, hbl, hL⟩ := C0
  obtain ⟨f, g, A, La⟩ := σ
  obtain ⟨hW, ⟨q0, q1, q2, q3, q4, q5, q6, q7, q8, q9, q10, q11⟩, td, hDI, hlen, hz, hy⟩ := hS
  have hA : ∀ q, s.heap.size ≤ q → lwA s q := fun _ h => h
  have hC := hW.2.1.2.2.2.2.2.2.1
  have hXI := hW.2.1.2.2.2.2.2.2.2
  have h7 := g2_7 hC td
  have hns := lNS_le hC td
  refine lv_aload_n B.1 B.2.1 dL_266 rfl (lv_at hl 2 rfl) ?_
  refine L_ld (k := 1) (kz := 1) B hxs hbl hL hW.1.2.2.1 hn hl (by decide) rfl dL_267 dL_268 dL_269 dL_270 dL_271 ?_
  refine q_i2l B dL_272 (fun w1 => ?_)
  refine q_bip B dL_273 (by decide) ?_
  refine lv_lshl B.1 B.2.1 dL_275 rfl ?_
  refine lv_topl (fun w2 ew2 => ?_)
  refine L_ld (k := 2) (kz := 2) B hxs hbl hL hW.1.2.2.1 hn hl (by decide) rfl dL_276 dL_277 dL_278 dL_279 dL_280 ?_
  refine q_i2l B dL_281 (fun w3 => ?_)
  refine lv_ldc2 B.1 B.2.1 B.2.2.2.1 (B.2.2.2.2.1 _ lc_L_32) dL_282 ?_
  refine lv_land B.1 B.2.1 dL_285 ?_
  refine lv_topl (fun w4 ew4 => ?_)
  refine lv_lor B.1 B.2.1 dL_286 ?_
  refine lv_topl (fun w5 ew5 => ?_)
  refine p_calli (c_runV (n := 1) (as := [.long w5]) (rest := []) B hX hA hW.2.1 hl.1 td kd2 rfl (k_X11_named l D dA eA L T N I J R hd td w5 _ _) ml_L_34 nm_X11_named ⟨rfl, rfl⟩ ⟨Nat.le_of_ble_eq_true rfl, Nat.le_of_ble_eq_true rfl⟩ dL_287 rfl rfl (Nat.le_of_ble_eq_true rfl) ⟨by show z + (0) ≤ 600000; omega, by show y + (0) ≤ 7302250; omega⟩) (fun r1 i1 hp1 => ?_)
  refine lv_pop B.1 B.2.1 dL_290 rfl ?_
  refine lv_aload_n B.1 B.2.1 dL_291 rfl (lv_at hl 1 rfl) ?_
  refine L_ld (k := 1) (kz := 1) B hxs hbl hL hW.1.2.2.1 hn hl (by decide) rfl dL_292 dL_293 dL_294 dL_295 dL_296 ?_
  refine q_i2l B dL_297 (fun w6 => ?_)
  refine q_bip B dL_298 (by decide) ?_
  refine lv_lshl B.1 B.2.1 dL_300 rfl ?_
  refine lv_topl (fun w7 ew7 => ?_)
  refine L_ld (k := 2) (kz := 2) B hxs hbl hL hW.1.2.2.1 hn hl (by decide) rfl dL_301 dL_302 dL_303 dL_304 dL_305 ?_
  refine q_i2l B dL_306 (fun w8 => ?_)
  refine lv_ldc2 B.1 B.2.1 B.2.2.2.1 (B.2.2.2.2.1 _ lc_L_32) dL_307 ?_
  refine lv_land B.1 B.2.1 dL_310 ?_
  refine lv_topl (fun w9 ew9 => ?_)
  refine lv_lor B.1 B.2.1 dL_311 ?_
  refine lv_topl (fun w10 ew10 => ?_)
  refine L_callm (n := 1) (as := [.long w10]) (rest := []) B hW hA hl.1 (k_named l D dA h0 ad f g A La w10) rfl ml_L_38 nm_named ⟨rfl, rfl⟩ ⟨Nat.le_of_ble_eq_true rfl, Nat.le_of_ble_eq_true rfl⟩ dL_312 rfl rfl (Nat.le_of_ble_eq_true rfl) ⟨by show z ≤ 600000; omega, by show y ≤ 7302250; omega⟩ (fun r2 σ1 H locs i2 hp2 hW => ?_)
  obtain ⟨rfl, hp2⟩ := hp2
  refine lv_pop B.1 B.2.1 dL_315 rfl ?_
  refine lv_goto (tgt := 1058) B.1 B.2.1 dL_316 (by decide) ?_
  exact KK _ _ _ _ _ _ _ _ _ _ _ ⟨hW, ⟨q0, q1, q2, q3, q4, q5, q6, q7, q8, q9, q10, q11⟩, td, hDI, hlen, by omega, by omega⟩
set_option maxHeartbeats 1000000 in
set_option maxRecDepth 20000 in
theorem law_c5 (C0 : LC p s m meth c b Ln xs D dA eA) (hS : LSt D dA eA h0 hd ad s n σ L T N I J R H locs z y) (hn : 6 * n + 6 ≤ Ln) (hl : lv_has ls 4 [(3, .int (II (6 * (n : Int)))), (2, .ref h0), (1, .ref hd), (0, .ref b)]) (KK : ∀ (σ : MS) (L : List Nat) (T N : Nat → Nat) (I : Nat → Nat → Int) (J : Nat → Nat → Int64) (R : Nat → Nat → Nat) (H : Heap) (locs : List Loc) (z y : Nat), LSt D dA eA h0 hd ad s (n + 1) σ L T N I J R H locs z y → W p l e room_1 s m #[Value.ref b] below meth c H locs z y Q (F0 m 1058 ls [])) : W p l e room_1 s m #[Value.ref b] below meth c H locs z y Q (F0 m 319 ls []) := by
  obtain ⟨B, hX, hxs, hbl, hL⟩ := C0
  obtain ⟨f, g, A, La⟩ := σ
  obtain ⟨hW, ⟨q0, q1, q2, q3, q4, q5, q6, q7, q8, q9, q10, q11⟩, td, hDI, hlen, hz, hy⟩ := hS
  have hA : ∀ q, s.heap.size ≤ q → lwA s q := fun _ h => h
  have hC := hW.2.1.2.2.2.2.2.2.1
  have hXI := hW.2.1.2.2.2.2.2.2.2
  have h7 := g2_7 hC td
  have hns := lNS_le hC td
  refine lv_aload_n B.1 B.2.1 dL_319 rfl (lv_at hl 2 rfl) ?_
  refine L_ld (k := 1) (kz := 1) B hxs hbl hL hW.1.2.2.1 hn hl (by decide) rfl dL_320 dL_321 dL_322 dL_323 dL_324 ?_
  refine L_ld (k := 2) (kz := 2) B hxs hbl hL hW.1.2.2.1 hn hl (by decide) rfl dL_325 dL_326 dL_327 dL_328 dL_329 ?_
  refine p_calli (c_runV (n := 2) (as := [.int (II (xs (6 * n + 1)).toInt), .int (II (xs (6 * n + 2)).toInt)]) (rest := []) B hX hA hW.2.1 hl.1 td kd2 rfl (k_X11_kind l D dA eA L T N I J R hd td ((xs (6 * n + 1)).toInt) (toInt_inr _) ((xs (6 * n + 2)).toInt) (toInt_inr _) _ _) ml_L_39 nm_X11_kind ⟨rfl, rfl⟩ ⟨Nat.le_of_ble_eq_true rfl, Nat.le_of_ble_eq_true rfl⟩ dL_330 rfl rfl (Nat.le_of_ble_eq_true rfl) ⟨by show z + (0) ≤ 600000; omega, by show y + (0) ≤ 7302250; omega⟩) (fun r1 i1 hp1 => ?_)
  refine lv_pop B.1 B.2.1 dL_333 rfl ?_
  refine lv_aload_n B.1 B.2.1 dL_334 rfl (lv_at hl 1 rfl) ?_
  refine L_ld (k := 1) (kz := 1) B hxs hbl hL hW.1.2.2.1 hn hl (by decide) rfl dL_335 dL_336 dL_337 dL_338 dL_339 ?_
  refine L_ld (k := 2) (kz := 2) B hxs hbl hL hW.1.2.2.1 hn hl (by decide) rfl dL_340 dL_341 dL_342 dL_343 dL_344 ?_
  refine L_callm (n := 2) (as := [.int (II (xs (6 * n + 1)).toInt), .int (II (xs (6 * n + 2)).toInt)]) (rest := []) B hW hA hl.1 (k_kind l D dA h0 ad f g A La ((xs (6 * n + 1)).toInt) ((xs (6 * n + 2)).toInt) (toInt_inr _) (toInt_inr _)) rfl ml_L_43 nm_kind ⟨rfl, rfl⟩ ⟨Nat.le_of_ble_eq_true rfl, Nat.le_of_ble_eq_true rfl⟩ dL_345 rfl rfl (Nat.le_of_ble_eq_true rfl) ⟨by show z ≤ 600000; omega, by show y ≤ 7302250; omega⟩ (fun r2 σ1 H locs i2 hp2 hW => ?_)
  obtain ⟨rfl, hp2⟩ := hp2
  refine lv_pop B.1 B.2.1 dL_348 rfl ?_
  refine lv_goto (tgt := 1058) B.1 B.2.1 dL_349 (by decide) ?_
  exact KK _ _ _ _ _ _ _ _ _ _ _ ⟨hW, ⟨q0, q1, q2, q3, q4, q5, q6, q7, q8, q9, q10, q11⟩, td, hDI, hlen, by omega, by omega⟩
set_option maxHeartbeats 1000000 in
set_option maxRecDepth 20000 in
theorem law_c6 (C0 : LC p s m meth c b Ln xs D dA eA) (hS : LSt D dA eA h0 hd ad s n σ L T N I J R H locs z y) (hn : 6 * n + 6 ≤ Ln) (hl : lv_has ls 4 [(3, .int (II (6 * (n : Int)))), (2, .ref h0), (1, .ref hd), (0, .ref b)]) (KK : ∀ (σ : MS) (L : List Nat) (T N : Nat → Nat) (I : Nat → Nat → Int) (J : Nat → Nat → Int64) (R : Nat → Nat → Nat) (H : Heap) (locs : List Loc) (z y : Nat), LSt D dA eA h0 hd ad s (n + 1) σ L T N I J R H locs z y → W p l e room_1 s m #[Value.ref b] below meth c H locs z y Q (F0 m 1058 ls [])) : W p l e room_1 s m #[Value.ref b] below meth c H locs z y Q (F0 m 352 ls []) := by
  obtain ⟨B, hX, hxs, hbl, hL⟩ := C0
  obtain ⟨f, g, A, La⟩ := σ
  obtain ⟨hW, ⟨q0, q1, q2, q3, q4, q5, q6, q7, q8, q9, q10, q11⟩, td, hDI, hlen, hz, hy⟩ := hS
  have hA : ∀ q, s.heap.size ≤ q → lwA s q := fun _ h => h
  have hC := hW.2.1.2.2.2.2.2.2.1
  have hXI := hW.2.1.2.2.2.2.2.2.2
  have h7 := g2_7 hC td
  have hns := lNS_le hC td
  refine lv_aload_n B.1 B.2.1 dL_352 rfl (lv_at hl 2 rfl) ?_
  refine L_ld (k := 1) (kz := 1) B hxs hbl hL hW.1.2.2.1 hn hl (by decide) rfl dL_353 dL_354 dL_355 dL_356 dL_357 ?_
  refine L_ld (k := 2) (kz := 2) B hxs hbl hL hW.1.2.2.1 hn hl (by decide) rfl dL_358 dL_359 dL_360 dL_361 dL_362 ?_
  refine q_i2l B dL_363 (fun w1 => ?_)
  refine q_bip B dL_364 (by decide) ?_
  refine lv_lshl B.1 B.2.1 dL_366 rfl ?_
  refine lv_topl (fun w2 ew2 => ?_)
  refine L_ld (k := 3) (kz := 3) B hxs hbl hL hW.1.2.2.1 hn hl (by decide) rfl dL_367 dL_368 dL_369 dL_370 dL_371 ?_
  refine q_i2l B dL_372 (fun w3 => ?_)
  refine lv_ldc2 B.1 B.2.1 B.2.2.2.1 (B.2.2.2.2.1 _ lc_L_32) dL_373 ?_
  refine lv_land B.1 B.2.1 dL_376 ?_
  refine lv_topl (fun w4 ew4 => ?_)
  refine lv_lor B.1 B.2.1 dL_377 ?_
  refine lv_topl (fun w5 ew5 => ?_)
  refine p_calli (c_runV (n := 2) (as := [.int (II (xs (6 * n + 1)).toInt), .long w5]) (rest := []) B hX hA hW.2.1 hl.1 td kd2 rfl (k_X11_member l D dA eA L T N I J R hd td ((xs (6 * n + 1)).toInt) (toInt_inr _) w5 _ _) ml_L_44 nm_X11_member ⟨rfl, rfl⟩ ⟨Nat.le_of_ble_eq_true rfl, Nat.le_of_ble_eq_true rfl⟩ dL_378 rfl rfl (Nat.le_of_ble_eq_true rfl) ⟨by show z + (0) ≤ 600000; omega, by show y + (0) ≤ 7302250; omega⟩) (fun r1 i1 hp1 => ?_)
  refine lv_pop B.1 B.2.1 dL_381 rfl ?_
  refine lv_aload_n B.1 B.2.1 dL_382 rfl (lv_at hl 1 rfl) ?_
  refine L_ld (k := 1) (kz := 1) B hxs hbl hL hW.1.2.2.1 hn hl (by decide) rfl dL_383 dL_384 dL_385 dL_386 dL_387 ?_
  refine L_ld (k := 2) (kz := 2) B hxs hbl hL hW.1.2.2.1 hn hl (by decide) rfl dL_388 dL_389 dL_390 dL_391 dL_392 ?_
  refine q_i2l B dL_393 (fun w6 => ?_)
  refine q_bip B dL_394 (by decide) ?_
  refine lv_lshl B.1 B.2.1 dL_396 rfl ?_
  refine lv_topl (fun w7 ew7 => ?_)
  refine L_ld (k := 3) (kz := 3) B hxs hbl hL hW.1.2.2.1 hn hl (by decide) rfl dL_397 dL_398 dL_399 dL_400 dL_401 ?_
  refine q_i2l B dL_402 (fun w8 => ?_)
  refine lv_ldc2 B.1 B.2.1 B.2.2.2.1 (B.2.2.2.2.1 _ lc_L_32) dL_403 ?_
  refine lv_land B.1 B.2.1 dL_406 ?_
  refine lv_topl (fun w9 ew9 => ?_)
  refine lv_lor B.1 B.2.1 dL_407 ?_
  refine lv_topl (fun w10 ew10 => ?_)
  refine L_callm (n := 2) (as := [.int (II (xs (6 * n + 1)).toInt), .long w10]) (rest := []) B hW hA hl.1 (k_member l D dA h0 ad f g A La ((xs (6 * n + 1)).toInt) w10 (toInt_inr _)) rfl ml_L_48 nm_member ⟨rfl, rfl⟩ ⟨Nat.le_of_ble_eq_true rfl, Nat.le_of_ble_eq_true rfl⟩ dL_408 rfl rfl (Nat.le_of_ble_eq_true rfl) ⟨by show z ≤ 600000; omega, by show y ≤ 7302250; omega⟩ (fun r2 σ1 H locs i2 hp2 hW => ?_)
  obtain ⟨rfl, hp2⟩ := hp2
  refine lv_pop B.1 B.2.1 dL_411 rfl ?_
  refine lv_goto (tgt := 1058) B.1 B.2.1 dL_412 (by decide) ?_
  exact KK _ _ _ _ _ _ _ _ _ _ _ ⟨hW, ⟨q0, q1, q2, q3, q4, q5, q6, q7, q8, q9, q10, q11⟩, td, hDI, hlen, by omega, by omega⟩
set_option maxHeartbeats 1000000 in
set_option maxRecDepth 20000 in
theorem law_c7 (C0 : LC p s m meth c b Ln xs D dA eA) (hS : LSt D dA eA h0 hd ad s n σ L T N I J R H locs z y) (hn : 6 * n + 6 ≤ Ln) (hl : lv_has ls 4 [(3, .int (II (6 * (n : Int)))), (2, .ref h0), (1, .ref hd), (0, .ref b)]) (KK : ∀ (σ : MS) (L : List Nat) (T N : Nat → Nat) (I : Nat → Nat → Int) (J : Nat → Nat → Int64) (R : Nat → Nat → Nat) (H : Heap) (locs : List Loc) (z y : Nat), LSt D dA eA h0 hd ad s (n + 1) σ L T N I J R H locs z y → W p l e room_1 s m #[Value.ref b] below meth c H locs z y Q (F0 m 1058 ls [])) : W p l e room_1 s m #[Value.ref b] below meth c H locs z y Q (F0 m 415 ls []) := by
  obtain ⟨B, hX, hxs, hbl, hL⟩ := C0
  obtain ⟨f, g, A, La⟩ := σ
  obtain ⟨hW, ⟨q0, q1, q2, q3, q4, q5, q6, q7, q8, q9, q10, q11⟩, td, hDI, hlen, hz, hy⟩ := hS
  have hA : ∀ q, s.heap.size ≤ q → lwA s q := fun _ h => h
  have hC := hW.2.1.2.2.2.2.2.2.1
  have hXI := hW.2.1.2.2.2.2.2.2.2
  have h7 := g2_7 hC td
  have hns := lNS_le hC td
  refine lv_aload_n B.1 B.2.1 dL_415 rfl (lv_at hl 2 rfl) ?_
  refine L_ld (k := 1) (kz := 1) B hxs hbl hL hW.1.2.2.1 hn hl (by decide) rfl dL_416 dL_417 dL_418 dL_419 dL_420 ?_
  refine L_ld (k := 2) (kz := 2) B hxs hbl hL hW.1.2.2.1 hn hl (by decide) rfl dL_421 dL_422 dL_423 dL_424 dL_425 ?_
  refine p_calli (c_runV (n := 2) (as := [.int (II (xs (6 * n + 1)).toInt), .int (II (xs (6 * n + 2)).toInt)]) (rest := []) B hX hA hW.2.1 hl.1 td kd2 rfl (k_X11_misuse l D dA eA L T N I J R hd td ((xs (6 * n + 1)).toInt) (toInt_inr _) ((xs (6 * n + 2)).toInt) (toInt_inr _) _ _) ml_L_49 nm_X11_misuse ⟨rfl, rfl⟩ ⟨Nat.le_of_ble_eq_true rfl, Nat.le_of_ble_eq_true rfl⟩ dL_426 rfl rfl (Nat.le_of_ble_eq_true rfl) ⟨by show z + (0) ≤ 600000; omega, by show y + (0) ≤ 7302250; omega⟩) (fun r1 i1 hp1 => ?_)
  refine lv_pop B.1 B.2.1 dL_429 rfl ?_
  refine lv_aload_n B.1 B.2.1 dL_430 rfl (lv_at hl 1 rfl) ?_
  refine L_ld (k := 1) (kz := 1) B hxs hbl hL hW.1.2.2.1 hn hl (by decide) rfl dL_431 dL_432 dL_433 dL_434 dL_435 ?_
  refine L_ld (k := 2) (kz := 2) B hxs hbl hL hW.1.2.2.1 hn hl (by decide) rfl dL_436 dL_437 dL_438 dL_439 dL_440 ?_
  refine L_callm (n := 2) (as := [.int (II (xs (6 * n + 1)).toInt), .int (II (xs (6 * n + 2)).toInt)]) (rest := []) B hW hA hl.1 (k_misuse l D dA h0 ad f g A La ((xs (6 * n + 1)).toInt) ((xs (6 * n + 2)).toInt) (toInt_inr _) (toInt_inr _)) rfl ml_L_52 nm_misuse ⟨rfl, rfl⟩ ⟨Nat.le_of_ble_eq_true rfl, Nat.le_of_ble_eq_true rfl⟩ dL_441 rfl rfl (Nat.le_of_ble_eq_true rfl) ⟨by show z ≤ 600000; omega, by show y ≤ 7302250; omega⟩ (fun r2 σ1 H locs i2 hp2 hW => ?_)
  obtain ⟨rfl, hp2⟩ := hp2
  refine lv_pop B.1 B.2.1 dL_444 rfl ?_
  refine lv_goto (tgt := 1058) B.1 B.2.1 dL_445 (by decide) ?_
  exact KK _ _ _ _ _ _ _ _ _ _ _ ⟨hW, ⟨q0, q1, q2, q3, q4, q5, q6, q7, q8, q9, q10, q11⟩, td, hDI, hlen, by omega, by omega⟩
set_option maxHeartbeats 1000000 in
set_option maxRecDepth 20000 in
theorem law_c13 (C0 : LC p s m meth c b Ln xs D dA eA) (hS : LSt D dA eA h0 hd ad s n σ L T N I J R H locs z y) (hn : 6 * n + 6 ≤ Ln) (hl : lv_has ls 4 [(3, .int (II (6 * (n : Int)))), (2, .ref h0), (1, .ref hd), (0, .ref b)]) (KK : ∀ (σ : MS) (L : List Nat) (T N : Nat → Nat) (I : Nat → Nat → Int) (J : Nat → Nat → Int64) (R : Nat → Nat → Nat) (H : Heap) (locs : List Loc) (z y : Nat), LSt D dA eA h0 hd ad s (n + 1) σ L T N I J R H locs z y → W p l e room_1 s m #[Value.ref b] below meth c H locs z y Q (F0 m 1058 ls [])) : W p l e room_1 s m #[Value.ref b] below meth c H locs z y Q (F0 m 725 ls []) := by
  obtain ⟨B, hX, hxs, hbl, hL⟩ := C0
  obtain ⟨f, g, A, La⟩ := σ
  obtain ⟨hW, ⟨q0, q1, q2, q3, q4, q5, q6, q7, q8, q9, q10, q11⟩, td, hDI, hlen, hz, hy⟩ := hS
  have hA : ∀ q, s.heap.size ≤ q → lwA s q := fun _ h => h
  have hC := hW.2.1.2.2.2.2.2.2.1
  have hXI := hW.2.1.2.2.2.2.2.2.2
  have h7 := g2_7 hC td
  have hns := lNS_le hC td
  refine lv_aload_n B.1 B.2.1 dL_725 rfl (lv_at hl 2 rfl) ?_
  refine L_ld (k := 1) (kz := 1) B hxs hbl hL hW.1.2.2.1 hn hl (by decide) rfl dL_726 dL_727 dL_728 dL_729 dL_730 ?_
  refine L_ld (k := 2) (kz := 2) B hxs hbl hL hW.1.2.2.1 hn hl (by decide) rfl dL_731 dL_732 dL_733 dL_734 dL_735 ?_
  refine L_ld (k := 3) (kz := 3) B hxs hbl hL hW.1.2.2.1 hn hl (by decide) rfl dL_736 dL_737 dL_738 dL_739 dL_740 ?_
  refine p_calli (c_runV (n := 3) (as := [.int (II (xs (6 * n + 1)).toInt), .int (II (xs (6 * n + 2)).toInt), .int (II (xs (6 * n + 3)).toInt)]) (rest := []) B hX hA hW.2.1 hl.1 td kd2 rfl (k_X11_value l D dA eA L T N I J R hd td ((xs (6 * n + 1)).toInt) (toInt_inr _) ((xs (6 * n + 2)).toInt) (toInt_inr _) ((xs (6 * n + 3)).toInt) (toInt_inr _) _ _) ml_L_77 nm_X11_value ⟨rfl, rfl⟩ ⟨Nat.le_of_ble_eq_true rfl, Nat.le_of_ble_eq_true rfl⟩ dL_741 rfl rfl (Nat.le_of_ble_eq_true rfl) ⟨by show z + (0) ≤ 600000; omega, by show y + (0) ≤ 7302250; omega⟩) (fun r1 i1 hp1 => ?_)
  refine lv_pop B.1 B.2.1 dL_744 rfl ?_
  refine lv_aload_n B.1 B.2.1 dL_745 rfl (lv_at hl 1 rfl) ?_
  refine L_ld (k := 1) (kz := 1) B hxs hbl hL hW.1.2.2.1 hn hl (by decide) rfl dL_746 dL_747 dL_748 dL_749 dL_750 ?_
  refine L_ld (k := 2) (kz := 2) B hxs hbl hL hW.1.2.2.1 hn hl (by decide) rfl dL_751 dL_752 dL_753 dL_754 dL_755 ?_
  refine L_ld (k := 3) (kz := 3) B hxs hbl hL hW.1.2.2.1 hn hl (by decide) rfl dL_756 dL_757 dL_758 dL_759 dL_760 ?_
  refine L_callm (n := 3) (as := [.int (II (xs (6 * n + 1)).toInt), .int (II (xs (6 * n + 2)).toInt), .int (II (xs (6 * n + 3)).toInt)]) (rest := []) B hW hA hl.1 (k_value l D dA h0 ad f g A La ((xs (6 * n + 1)).toInt) ((xs (6 * n + 2)).toInt) ((xs (6 * n + 3)).toInt) (toInt_inr _) (toInt_inr _) (toInt_inr _)) rfl ml_L_80 nm_value ⟨rfl, rfl⟩ ⟨Nat.le_of_ble_eq_true rfl, Nat.le_of_ble_eq_true rfl⟩ dL_761 rfl rfl (Nat.le_of_ble_eq_true rfl) ⟨by show z ≤ 600000; omega, by show y ≤ 7302250; omega⟩ (fun r2 σ1 H locs i2 hp2 hW => ?_)
  obtain ⟨rfl, hp2⟩ := hp2
  refine lv_pop B.1 B.2.1 dL_764 rfl ?_
  refine lv_goto (tgt := 1058) B.1 B.2.1 dL_765 (by decide) ?_
  exact KK _ _ _ _ _ _ _ _ _ _ _ ⟨hW, ⟨q0, q1, q2, q3, q4, q5, q6, q7, q8, q9, q10, q11⟩, td, hDI, hlen, by omega, by omega⟩
set_option maxHeartbeats 1000000 in
set_option maxRecDepth 20000 in
theorem law_c16 (C0 : LC p s m meth c b Ln xs D dA eA) (hS : LSt D dA eA h0 hd ad s n σ L T N I J R H locs z y) (hn : 6 * n + 6 ≤ Ln) (hl : lv_has ls 4 [(3, .int (II (6 * (n : Int)))), (2, .ref h0), (1, .ref hd), (0, .ref b)]) (KK : ∀ (σ : MS) (L : List Nat) (T N : Nat → Nat) (I : Nat → Nat → Int) (J : Nat → Nat → Int64) (R : Nat → Nat → Nat) (H : Heap) (locs : List Loc) (z y : Nat), LSt D dA eA h0 hd ad s (n + 1) σ L T N I J R H locs z y → W p l e room_1 s m #[Value.ref b] below meth c H locs z y Q (F0 m 1058 ls [])) : W p l e room_1 s m #[Value.ref b] below meth c H locs z y Q (F0 m 834 ls []) := by
  obtain ⟨B, hX, hxs, hbl, hL⟩ := C0
  obtain ⟨f, g, A, La⟩ := σ
  obtain ⟨hW, ⟨q0, q1, q2, q3, q4, q5, q6, q7, q8, q9, q10, q11⟩, td, hDI, hlen, hz, hy⟩ := hS
  have hA : ∀ q, s.heap.size ≤ q → lwA s q := fun _ h => h
  have hC := hW.2.1.2.2.2.2.2.2.1
  have hXI := hW.2.1.2.2.2.2.2.2.2
  have h7 := g2_7 hC td
  have hns := lNS_le hC td
  refine lv_aload_n B.1 B.2.1 dL_834 rfl (lv_at hl 2 rfl) ?_
  refine L_ld (k := 1) (kz := 1) B hxs hbl hL hW.1.2.2.1 hn hl (by decide) rfl dL_835 dL_836 dL_837 dL_838 dL_839 ?_
  refine L_ld (k := 2) (kz := 2) B hxs hbl hL hW.1.2.2.1 hn hl (by decide) rfl dL_840 dL_841 dL_842 dL_843 dL_844 ?_
  obtain ⟨gc, gb, gp, gr, ga, gl, ⟨e3, t5⟩, ⟨e6, t6⟩, ⟨e4, t22⟩, e5, e7, ⟨e8, t15⟩, ⟨e9, t16⟩, ⟨e10, t23⟩, hfl, hfu⟩ := id hDI
  refine p_calli (c_runV (n := 2) (as := [.int (II (xs (6 * n + 1)).toInt), .int (II (xs (6 * n + 2)).toInt)]) (rest := []) B hX hA hW.2.1 hl.1 td kd2 rfl (k_X11_way l D dA eA L T N I J R hd td ((xs (6 * n + 1)).toInt) (toInt_inr _) ((xs (6 * n + 2)).toInt) (toInt_inr _) gc e3 t5 (FUp.of hfu e10) _ _) ml_L_89 nm_X11_way ⟨rfl, rfl⟩ ⟨Nat.le_of_ble_eq_true rfl, Nat.le_of_ble_eq_true rfl⟩ dL_845 rfl rfl (Nat.le_of_ble_eq_true rfl) ⟨by show z + (0) ≤ 600000; omega, by show y + (0) ≤ 7302250; omega⟩) (fun r1 i1 hp1 => ?_)
  refine lv_pop B.1 B.2.1 dL_848 rfl ?_
  refine lv_aload_n B.1 B.2.1 dL_849 rfl (lv_at hl 1 rfl) ?_
  refine L_ld (k := 1) (kz := 1) B hxs hbl hL hW.1.2.2.1 hn hl (by decide) rfl dL_850 dL_851 dL_852 dL_853 dL_854 ?_
  refine L_ld (k := 2) (kz := 2) B hxs hbl hL hW.1.2.2.1 hn hl (by decide) rfl dL_855 dL_856 dL_857 dL_858 dL_859 ?_
  refine L_callm (n := 2) (as := [.int (II (xs (6 * n + 1)).toInt), .int (II (xs (6 * n + 2)).toInt)]) (rest := []) B hW hA hl.1 (k_way l D dA h0 ad f g A La ((xs (6 * n + 1)).toInt) ((xs (6 * n + 2)).toInt) (toInt_inr _) (toInt_inr _)) rfl ml_L_92 nm_way ⟨rfl, rfl⟩ ⟨Nat.le_of_ble_eq_true rfl, Nat.le_of_ble_eq_true rfl⟩ dL_860 rfl rfl (Nat.le_of_ble_eq_true rfl) ⟨by show z ≤ 600000; omega, by show y ≤ 7302250; omega⟩ (fun r2 σ1 H locs i2 hp2 hW => ?_)
  obtain ⟨rfl, hp2⟩ := hp2
  refine lv_pop B.1 B.2.1 dL_863 rfl ?_
  refine lv_goto (tgt := 1058) B.1 B.2.1 dL_864 (by decide) ?_
  exact KK _ _ _ _ _ _ _ _ _ _ _ ⟨hW, ⟨q0, q1, q2, q3, q4, q5, q6, q7, q8, q9, q10, q11⟩, td, hDI, hlen, by omega, by omega⟩
set_option maxHeartbeats 1000000 in
set_option maxRecDepth 20000 in
theorem law_c18 (C0 : LC p s m meth c b Ln xs D dA eA) (hS : LSt D dA eA h0 hd ad s n σ L T N I J R H locs z y) (hn : 6 * n + 6 ≤ Ln) (hl : lv_has ls 4 [(3, .int (II (6 * (n : Int)))), (2, .ref h0), (1, .ref hd), (0, .ref b)]) (KK : ∀ (σ : MS) (L : List Nat) (T N : Nat → Nat) (I : Nat → Nat → Int) (J : Nat → Nat → Int64) (R : Nat → Nat → Nat) (H : Heap) (locs : List Loc) (z y : Nat), LSt D dA eA h0 hd ad s (n + 1) σ L T N I J R H locs z y → W p l e room_1 s m #[Value.ref b] below meth c H locs z y Q (F0 m 1058 ls [])) : W p l e room_1 s m #[Value.ref b] below meth c H locs z y Q (F0 m 900 ls []) := by
  obtain ⟨B, hX, hxs, hbl, hL⟩ := C0
  obtain ⟨f, g, A, La⟩ := σ
  obtain ⟨hW, ⟨q0, q1, q2, q3, q4, q5, q6, q7, q8, q9, q10, q11⟩, td, hDI, hlen, hz, hy⟩ := hS
  have hA : ∀ q, s.heap.size ≤ q → lwA s q := fun _ h => h
  have hC := hW.2.1.2.2.2.2.2.2.1
  have hXI := hW.2.1.2.2.2.2.2.2.2
  have h7 := g2_7 hC td
  have hns := lNS_le hC td
  refine lv_aload_n B.1 B.2.1 dL_900 rfl (lv_at hl 2 rfl) ?_
  refine L_ld (k := 1) (kz := 1) B hxs hbl hL hW.1.2.2.1 hn hl (by decide) rfl dL_901 dL_902 dL_903 dL_904 dL_905 ?_
  refine L_ld (k := 2) (kz := 2) B hxs hbl hL hW.1.2.2.1 hn hl (by decide) rfl dL_906 dL_907 dL_908 dL_909 dL_910 ?_
  refine p_calli (c_runV (n := 2) (as := [.int (II (xs (6 * n + 1)).toInt), .int (II (xs (6 * n + 2)).toInt)]) (rest := []) B hX hA hW.2.1 hl.1 td kd2 rfl (k_X11_failed l D dA eA L T N I J R hd td ((xs (6 * n + 1)).toInt) (toInt_inr _) ((xs (6 * n + 2)).toInt) (toInt_inr _) _ _) ml_L_97 nm_X11_failed ⟨rfl, rfl⟩ ⟨Nat.le_of_ble_eq_true rfl, Nat.le_of_ble_eq_true rfl⟩ dL_911 rfl rfl (Nat.le_of_ble_eq_true rfl) ⟨by show z + (0) ≤ 600000; omega, by show y + (0) ≤ 7302250; omega⟩) (fun r1 i1 hp1 => ?_)
  refine lv_pop B.1 B.2.1 dL_914 rfl ?_
  refine lv_aload_n B.1 B.2.1 dL_915 rfl (lv_at hl 1 rfl) ?_
  refine L_ld (k := 1) (kz := 1) B hxs hbl hL hW.1.2.2.1 hn hl (by decide) rfl dL_916 dL_917 dL_918 dL_919 dL_920 ?_
  refine L_ld (k := 2) (kz := 2) B hxs hbl hL hW.1.2.2.1 hn hl (by decide) rfl dL_921 dL_922 dL_923 dL_924 dL_925 ?_
  refine L_callm (n := 2) (as := [.int (II (xs (6 * n + 1)).toInt), .int (II (xs (6 * n + 2)).toInt)]) (rest := []) B hW hA hl.1 (k_failed l D dA h0 ad f g A La ((xs (6 * n + 1)).toInt) ((xs (6 * n + 2)).toInt) (toInt_inr _) (toInt_inr _)) rfl ml_L_100 nm_failed ⟨rfl, rfl⟩ ⟨Nat.le_of_ble_eq_true rfl, Nat.le_of_ble_eq_true rfl⟩ dL_926 rfl rfl (Nat.le_of_ble_eq_true rfl) ⟨by show z ≤ 600000; omega, by show y ≤ 7302250; omega⟩ (fun r2 σ1 H locs i2 hp2 hW => ?_)
  obtain ⟨rfl, hp2⟩ := hp2
  refine lv_pop B.1 B.2.1 dL_929 rfl ?_
  refine lv_goto (tgt := 1058) B.1 B.2.1 dL_930 (by decide) ?_
  exact KK _ _ _ _ _ _ _ _ _ _ _ ⟨hW, ⟨q0, q1, q2, q3, q4, q5, q6, q7, q8, q9, q10, q11⟩, td, hDI, hlen, by omega, by omega⟩
set_option maxHeartbeats 1000000 in
set_option maxRecDepth 20000 in
theorem law_c19 (C0 : LC p s m meth c b Ln xs D dA eA) (hS : LSt D dA eA h0 hd ad s n σ L T N I J R H locs z y) (hn : 6 * n + 6 ≤ Ln) (hl : lv_has ls 4 [(3, .int (II (6 * (n : Int)))), (2, .ref h0), (1, .ref hd), (0, .ref b)]) (KK : ∀ (σ : MS) (L : List Nat) (T N : Nat → Nat) (I : Nat → Nat → Int) (J : Nat → Nat → Int64) (R : Nat → Nat → Nat) (H : Heap) (locs : List Loc) (z y : Nat), LSt D dA eA h0 hd ad s (n + 1) σ L T N I J R H locs z y → W p l e room_1 s m #[Value.ref b] below meth c H locs z y Q (F0 m 1058 ls [])) : W p l e room_1 s m #[Value.ref b] below meth c H locs z y Q (F0 m 933 ls []) := by
  obtain ⟨B, hX, hxs, hbl, hL⟩ := C0
  obtain ⟨f, g, A, La⟩ := σ
  obtain ⟨hW, ⟨q0, q1, q2, q3, q4, q5, q6, q7, q8, q9, q10, q11⟩, td, hDI, hlen, hz, hy⟩ := hS
  have hA : ∀ q, s.heap.size ≤ q → lwA s q := fun _ h => h
  have hC := hW.2.1.2.2.2.2.2.2.1
  have hXI := hW.2.1.2.2.2.2.2.2.2
  have h7 := g2_7 hC td
  have hns := lNS_le hC td
  refine lv_aload_n B.1 B.2.1 dL_933 rfl (lv_at hl 2 rfl) ?_
  refine L_ld (k := 1) (kz := 1) B hxs hbl hL hW.1.2.2.1 hn hl (by decide) rfl dL_934 dL_935 dL_936 dL_937 dL_938 ?_
  refine L_ld (k := 2) (kz := 2) B hxs hbl hL hW.1.2.2.1 hn hl (by decide) rfl dL_939 dL_940 dL_941 dL_942 dL_943 ?_
  refine p_calli (c_runV (n := 2) (as := [.int (II (xs (6 * n + 1)).toInt), .int (II (xs (6 * n + 2)).toInt)]) (rest := []) B hX hA hW.2.1 hl.1 td kd2 rfl (k_X11_asked l D dA eA L T N I J R hd td ((xs (6 * n + 1)).toInt) (toInt_inr _) ((xs (6 * n + 2)).toInt) (toInt_inr _) _ _) ml_L_101 nm_X11_asked ⟨rfl, rfl⟩ ⟨Nat.le_of_ble_eq_true rfl, Nat.le_of_ble_eq_true rfl⟩ dL_944 rfl rfl (Nat.le_of_ble_eq_true rfl) ⟨by show z + (0) ≤ 600000; omega, by show y + (0) ≤ 7302250; omega⟩) (fun r1 i1 hp1 => ?_)
  refine lv_pop B.1 B.2.1 dL_947 rfl ?_
  refine lv_aload_n B.1 B.2.1 dL_948 rfl (lv_at hl 1 rfl) ?_
  refine L_ld (k := 1) (kz := 1) B hxs hbl hL hW.1.2.2.1 hn hl (by decide) rfl dL_949 dL_950 dL_951 dL_952 dL_953 ?_
  refine L_ld (k := 2) (kz := 2) B hxs hbl hL hW.1.2.2.1 hn hl (by decide) rfl dL_954 dL_955 dL_956 dL_957 dL_958 ?_
  refine L_callm (n := 2) (as := [.int (II (xs (6 * n + 1)).toInt), .int (II (xs (6 * n + 2)).toInt)]) (rest := []) B hW hA hl.1 (k_asked l D dA h0 ad f g A La ((xs (6 * n + 1)).toInt) ((xs (6 * n + 2)).toInt) (toInt_inr _) (toInt_inr _)) rfl ml_L_104 nm_asked ⟨rfl, rfl⟩ ⟨Nat.le_of_ble_eq_true rfl, Nat.le_of_ble_eq_true rfl⟩ dL_959 rfl rfl (Nat.le_of_ble_eq_true rfl) ⟨by show z ≤ 600000; omega, by show y ≤ 7302250; omega⟩ (fun r2 σ1 H locs i2 hp2 hW => ?_)
  obtain ⟨rfl, hp2⟩ := hp2
  refine lv_pop B.1 B.2.1 dL_962 rfl ?_
  refine lv_goto (tgt := 1058) B.1 B.2.1 dL_963 (by decide) ?_
  exact KK _ _ _ _ _ _ _ _ _ _ _ ⟨hW, ⟨q0, q1, q2, q3, q4, q5, q6, q7, q8, q9, q10, q11⟩, td, hDI, hlen, by omega, by omega⟩
set_option maxHeartbeats 1000000 in
set_option maxRecDepth 20000 in
theorem law_c20 (C0 : LC p s m meth c b Ln xs D dA eA) (hS : LSt D dA eA h0 hd ad s n σ L T N I J R H locs z y) (hn : 6 * n + 6 ≤ Ln) (hl : lv_has ls 4 [(3, .int (II (6 * (n : Int)))), (2, .ref h0), (1, .ref hd), (0, .ref b)]) (KK : ∀ (σ : MS) (L : List Nat) (T N : Nat → Nat) (I : Nat → Nat → Int) (J : Nat → Nat → Int64) (R : Nat → Nat → Nat) (H : Heap) (locs : List Loc) (z y : Nat), LSt D dA eA h0 hd ad s (n + 1) σ L T N I J R H locs z y → W p l e room_1 s m #[Value.ref b] below meth c H locs z y Q (F0 m 1058 ls [])) : W p l e room_1 s m #[Value.ref b] below meth c H locs z y Q (F0 m 966 ls []) := by
  obtain ⟨B, hX, hxs, hbl, hL⟩ := C0
  obtain ⟨f, g, A, La⟩ := σ
  obtain ⟨hW, ⟨q0, q1, q2, q3, q4, q5, q6, q7, q8, q9, q10, q11⟩, td, hDI, hlen, hz, hy⟩ := hS
  have hA : ∀ q, s.heap.size ≤ q → lwA s q := fun _ h => h
  have hC := hW.2.1.2.2.2.2.2.2.1
  have hXI := hW.2.1.2.2.2.2.2.2.2
  have h7 := g2_7 hC td
  have hns := lNS_le hC td
  refine lv_aload_n B.1 B.2.1 dL_966 rfl (lv_at hl 2 rfl) ?_
  refine L_ld (k := 1) (kz := 1) B hxs hbl hL hW.1.2.2.1 hn hl (by decide) rfl dL_967 dL_968 dL_969 dL_970 dL_971 ?_
  refine p_calli (c_runV (n := 1) (as := [.int (II (xs (6 * n + 1)).toInt)]) (rest := []) B hX hA hW.2.1 hl.1 td kd2 rfl (k_X11_cut l D dA eA L T N I J R hd td ((xs (6 * n + 1)).toInt) (toInt_inr _) _ _) ml_L_105 nm_X11_cut ⟨rfl, rfl⟩ ⟨Nat.le_of_ble_eq_true rfl, Nat.le_of_ble_eq_true rfl⟩ dL_972 rfl rfl (Nat.le_of_ble_eq_true rfl) ⟨by show z + (0) ≤ 600000; omega, by show y + (0) ≤ 7302250; omega⟩) (fun r1 i1 hp1 => ?_)
  refine lv_pop B.1 B.2.1 dL_975 rfl ?_
  refine lv_aload_n B.1 B.2.1 dL_976 rfl (lv_at hl 1 rfl) ?_
  refine L_ld (k := 1) (kz := 1) B hxs hbl hL hW.1.2.2.1 hn hl (by decide) rfl dL_977 dL_978 dL_979 dL_980 dL_981 ?_
  refine L_callm (n := 1) (as := [.int (II (xs (6 * n + 1)).toInt)]) (rest := []) B hW hA hl.1 (k_cut l D dA h0 ad f g A La ((xs (6 * n + 1)).toInt) (toInt_inr _)) rfl ml_L_108 nm_cut ⟨rfl, rfl⟩ ⟨Nat.le_of_ble_eq_true rfl, Nat.le_of_ble_eq_true rfl⟩ dL_982 rfl rfl (Nat.le_of_ble_eq_true rfl) ⟨by show z ≤ 600000; omega, by show y ≤ 7302250; omega⟩ (fun r2 σ1 H locs i2 hp2 hW => ?_)
  obtain ⟨rfl, hp2⟩ := hp2
  refine lv_pop B.1 B.2.1 dL_985 rfl ?_
  refine lv_goto (tgt := 1058) B.1 B.2.1 dL_986 (by decide) ?_
  exact KK _ _ _ _ _ _ _ _ _ _ _ ⟨hW, ⟨q0, q1, q2, q3, q4, q5, q6, q7, q8, q9, q10, q11⟩, td, hDI, hlen, by omega, by omega⟩
set_option maxHeartbeats 1000000 in
set_option maxRecDepth 20000 in
theorem law_c21 (C0 : LC p s m meth c b Ln xs D dA eA) (hS : LSt D dA eA h0 hd ad s n σ L T N I J R H locs z y) (hn : 6 * n + 6 ≤ Ln) (hl : lv_has ls 4 [(3, .int (II (6 * (n : Int)))), (2, .ref h0), (1, .ref hd), (0, .ref b)]) (KK : ∀ (σ : MS) (L : List Nat) (T N : Nat → Nat) (I : Nat → Nat → Int) (J : Nat → Nat → Int64) (R : Nat → Nat → Nat) (H : Heap) (locs : List Loc) (z y : Nat), LSt D dA eA h0 hd ad s (n + 1) σ L T N I J R H locs z y → W p l e room_1 s m #[Value.ref b] below meth c H locs z y Q (F0 m 1058 ls [])) : W p l e room_1 s m #[Value.ref b] below meth c H locs z y Q (F0 m 989 ls []) := by
  obtain ⟨B, hX, hxs, hbl, hL⟩ := C0
  obtain ⟨f, g, A, La⟩ := σ
  obtain ⟨hW, ⟨q0, q1, q2, q3, q4, q5, q6, q7, q8, q9, q10, q11⟩, td, hDI, hlen, hz, hy⟩ := hS
  have hA : ∀ q, s.heap.size ≤ q → lwA s q := fun _ h => h
  have hC := hW.2.1.2.2.2.2.2.2.1
  have hXI := hW.2.1.2.2.2.2.2.2.2
  have h7 := g2_7 hC td
  have hns := lNS_le hC td
  refine lv_aload_n B.1 B.2.1 dL_989 rfl (lv_at hl 2 rfl) ?_
  refine p_calli (c_runV (n := 0) (as := []) (rest := []) B hX hA hW.2.1 hl.1 td kd2 rfl (k_X11_groups l D dA eA L T N I J R hd td _ _) ml_L_109 nm_X11_groups ⟨rfl, rfl⟩ ⟨Nat.le_of_ble_eq_true rfl, Nat.le_of_ble_eq_true rfl⟩ dL_990 rfl rfl (Nat.le_of_ble_eq_true rfl) ⟨by show z + (0) ≤ 600000; omega, by show y + (0) ≤ 7302250; omega⟩) (fun r1 i1 hp1 => ?_)
  refine lv_pop B.1 B.2.1 dL_993 rfl ?_
  refine lv_aload_n B.1 B.2.1 dL_994 rfl (lv_at hl 1 rfl) ?_
  refine L_callm (n := 0) (as := []) (rest := []) B hW hA hl.1 (k_groups l D dA h0 ad f g A La ) rfl ml_L_112 nm_groups ⟨rfl, rfl⟩ ⟨Nat.le_of_ble_eq_true rfl, Nat.le_of_ble_eq_true rfl⟩ dL_995 rfl rfl (Nat.le_of_ble_eq_true rfl) ⟨by show z ≤ 600000; omega, by show y ≤ 7302250; omega⟩ (fun r2 σ1 H locs i2 hp2 hW => ?_)
  obtain ⟨rfl, hp2⟩ := hp2
  refine lv_pop B.1 B.2.1 dL_998 rfl ?_
  refine lv_goto (tgt := 1058) B.1 B.2.1 dL_999 (by decide) ?_
  exact KK _ _ _ _ _ _ _ _ _ _ _ ⟨hW, ⟨q0, q1, q2, q3, q4, q5, q6, q7, q8, q9, q10, q11⟩, td, hDI, hlen, by omega, by omega⟩
end LCS
