section LCS
variable {p : Program} {l : Launch} {e : Env} {s : State} {m : MethodId} {below : List Frame} {meth : Method} {c : Code} {H : Heap} {locs : List Loc} {z y : Nat} {Q : State → Prop} {ls : Array Slot}
variable {D : va_G} {dA : Nat → ClassId} {eA h0 hd b Ln n : Nat} {xs : Nat → Int32} {ad : Nat → Nat} {σ : MS} {L : List Nat} {T N : Nat → Nat} {I : Nat → Nat → Int} {J : Nat → Nat → Int64} {R : Nat → Nat → Nat}
set_option maxHeartbeats 1000000 in
set_option maxRecDepth 20000 in
theorem law_c8 (C0 : LC p s m meth c b Ln xs D dA eA) (hS : LSt D dA eA h0 hd ad s n σ L T N I J R H locs z y) (hn : 6 * n + 6 ≤ Ln) (hl : lv_has ls 4 [(3, .int (II (6 * (n : Int)))), (2, .ref h0), (1, .ref hd), (0, .ref b)]) (KK : ∀ (σ : MS) (L : List Nat) (T N : Nat → Nat) (I : Nat → Nat → Int) (J : Nat → Nat → Int64) (R : Nat → Nat → Nat) (H : Heap) (locs : List Loc) (z y : Nat), LSt D dA eA h0 hd ad s (n + 1) σ L T N I J R H locs z y → W p l e room_1 s m #[Value.ref b] below meth c H locs z y Q (F0 m 1058 ls [])) : W p l e room_1 s m #[Value.ref b] below meth c H locs z y Q (F0 m 448 ls []) := by
  obtain ⟨B, hX, hxs, hbl, hL⟩ := C0
  obtain ⟨f, g, A, La⟩ := σ
  obtain ⟨hW, ⟨q0, q1, q2, q3, q4, q5, q6, q7, q8, q9, q10, q11⟩, td, hDI, hlen, hz, hy⟩ := hS
  have hA : ∀ q, s.heap.size ≤ q → lwA s q := fun _ h => h
  have hC := hW.2.1.2.2.2.2.2.2.1
  have hXI := hW.2.1.2.2.2.2.2.2.2
  have h7 := g2_7 hC td
  have hns := lNS_le hC td
  refine lv_aload_n B.1 B.2.1 dL_448 rfl (lv_at hl 2 rfl) ?_
  refine L_ld (k := 1) (kz := 1) B hxs hbl hL hW.1.2.2.1 hn hl (by decide) rfl dL_449 dL_450 dL_451 dL_452 dL_453 ?_
  refine L_callgi hW hA (c_runV (n := 1) (as := [.int (II (xs (6 * n + 1)).toInt)]) (rest := []) B hX hA hW.2.1 hl.1 td kd2 rfl (k_X11_paper l D dA eA L T N I J R hd td ((xs (6 * n + 1)).toInt) (toInt_inr _) _ _) ml_L_53 nm_X11_paper ⟨rfl, rfl⟩ ⟨Nat.le_of_ble_eq_true rfl, Nat.le_of_ble_eq_true rfl⟩ dL_454 rfl rfl (Nat.le_of_ble_eq_true rfl) ⟨by show z + (6) ≤ 600000; omega, by show y + (354) ≤ 7302250; omega⟩) (fun r1 L1 T1 N1 I1 J1 R1 dz dl H locs i1 hp1 hW => ?_)
  obtain ⟨eJ, hF, hp1⟩ := hp1
  obtain rfl := eJ.symm
  have td1 := hF.tt td (by decide) nm0
  have hnf := lNS_fr hC td hF (by decide) (by decide)
  have hDI1 := DI.fr hDI hC hXI td hF (by decide) (by decide) (by decide)
  have h71 : I1 hd 7 = I hd 7 := hF.i td (by decide) nm0 rfl
  refine lv_pop B.1 B.2.1 dL_457 rfl ?_
  refine lv_aload_n B.1 B.2.1 dL_458 rfl (lv_at hl 1 rfl) ?_
  refine L_ld (k := 1) (kz := 1) B hxs hbl hL hW.1.2.2.1 hn hl (by decide) rfl dL_459 dL_460 dL_461 dL_462 dL_463 ?_
  refine L_callm (n := 1) (as := [.int (II (xs (6 * n + 1)).toInt)]) (rest := []) B hW hA hl.1 (k_paper l D dA h0 ad f g A La ((xs (6 * n + 1)).toInt) (toInt_inr _)) rfl ml_L_56 nm_paper ⟨rfl, rfl⟩ ⟨Nat.le_of_ble_eq_true rfl, Nat.le_of_ble_eq_true rfl⟩ dL_464 rfl rfl (Nat.le_of_ble_eq_true rfl) ⟨by show (z + dz) ≤ 600000; omega, by show (y + dl) ≤ 7302250; omega⟩ (fun r2 σ1 H locs i2 hp2 hW => ?_)
  obtain ⟨n90, b83, b89, b87, rfl, hp2⟩ := hp2
  refine lv_pop B.1 B.2.1 dL_467 rfl ?_
  refine lv_goto (tgt := 1058) B.1 B.2.1 dL_468 (by decide) ?_
  exact KK _ _ _ _ _ _ _ _ _ _ _ ⟨hW, ⟨q0, q1, q2, q3, q4, q5, q6, q7, q8, fun h => hp2.elim (fun e9 => q9 (show 0 < f 90 from by have h9 : 0 < n90 := h; omega)) id, q10, q11⟩, td1, hDI1, (h71.trans hlen), by omega, by omega⟩
set_option maxHeartbeats 1000000 in
set_option maxRecDepth 20000 in
theorem law_c9 (C0 : LC p s m meth c b Ln xs D dA eA) (hS : LSt D dA eA h0 hd ad s n σ L T N I J R H locs z y) (hn : 6 * n + 6 ≤ Ln) (hl : lv_has ls 4 [(3, .int (II (6 * (n : Int)))), (2, .ref h0), (1, .ref hd), (0, .ref b)]) (KK : ∀ (σ : MS) (L : List Nat) (T N : Nat → Nat) (I : Nat → Nat → Int) (J : Nat → Nat → Int64) (R : Nat → Nat → Nat) (H : Heap) (locs : List Loc) (z y : Nat), LSt D dA eA h0 hd ad s (n + 1) σ L T N I J R H locs z y → W p l e room_1 s m #[Value.ref b] below meth c H locs z y Q (F0 m 1058 ls [])) : W p l e room_1 s m #[Value.ref b] below meth c H locs z y Q (F0 m 471 ls []) := by
  obtain ⟨B, hX, hxs, hbl, hL⟩ := C0
  obtain ⟨f, g, A, La⟩ := σ
  obtain ⟨hW, ⟨q0, q1, q2, q3, q4, q5, q6, q7, q8, q9, q10, q11⟩, td, hDI, hlen, hz, hy⟩ := hS
  have hA : ∀ q, s.heap.size ≤ q → lwA s q := fun _ h => h
  have hC := hW.2.1.2.2.2.2.2.2.1
  have hXI := hW.2.1.2.2.2.2.2.2.2
  have h7 := g2_7 hC td
  have hns := lNS_le hC td
  refine lv_aload_n B.1 B.2.1 dL_471 rfl (lv_at hl 2 rfl) ?_
  refine L_ld (k := 1) (kz := 1) B hxs hbl hL hW.1.2.2.1 hn hl (by decide) rfl dL_472 dL_473 dL_474 dL_475 dL_476 ?_
  refine L_ld (k := 2) (kz := 2) B hxs hbl hL hW.1.2.2.1 hn hl (by decide) rfl dL_477 dL_478 dL_479 dL_480 dL_481 ?_
  refine L_ld (k := 3) (kz := 3) B hxs hbl hL hW.1.2.2.1 hn hl (by decide) rfl dL_482 dL_483 dL_484 dL_485 dL_486 ?_
  refine L_ld (k := 4) (kz := 4) B hxs hbl hL hW.1.2.2.1 hn hl (by decide) rfl dL_487 dL_488 dL_489 dL_490 dL_491 ?_
  have JJ500 : ∀ t1 : Int, 0 ≤ t1 → t1 ≤ 1 → W p l e room_1 s m #[Value.ref b] below meth c H locs z y Q (F0 m 500 ls (.int (II t1) :: [.int (II (xs (6 * n + 3)).toInt), .int (II (xs (6 * n + 2)).toInt), .int (II (xs (6 * n + 1)).toInt), .ref hd])) := by
    intro t1 lt1 ut1
    refine L_callzi hW hA (c_runV (n := 4) (as := [.int (II (xs (6 * n + 1)).toInt), .int (II (xs (6 * n + 2)).toInt), .int (II (xs (6 * n + 3)).toInt), .int (II t1)]) (rest := []) B hX hA hW.2.1 hl.1 td kd2 rfl (k_X11_setInt l D dA eA L T N I J R hd td ((xs (6 * n + 1)).toInt) (toInt_inr _) ((xs (6 * n + 2)).toInt) (toInt_inr _) ((xs (6 * n + 3)).toInt) (toInt_inr _) (t1) ⟨lt1, ut1⟩ _ _) ml_L_57 nm_X11_setInt ⟨rfl, rfl⟩ ⟨Nat.le_of_ble_eq_true rfl, Nat.le_of_ble_eq_true rfl⟩ dL_500 rfl rfl (Nat.le_of_ble_eq_true rfl) ⟨by show z + (0) ≤ 600000; omega, by show y + (0) ≤ 7302250; omega⟩) (fun r1 L1 T1 N1 I1 J1 R1 dz dl H locs i1 hp1 hW => ?_)
    obtain ⟨eL, eT, eN, eJ, eR, hF, hp1⟩ := hp1
    obtain rfl := eL.symm; obtain rfl := eT.symm; obtain rfl := eN.symm; obtain rfl := eJ.symm; obtain rfl := eR.symm
    have hDI1 := DI.fr hDI hC hXI td hF (by decide) (by decide) (by decide)
    have h71 : I1 hd 7 = I hd 7 := hF.i td (by decide) nm0 rfl
    refine lv_pop B.1 B.2.1 dL_503 rfl ?_
    refine lv_aload_n B.1 B.2.1 dL_504 rfl (lv_at hl 1 rfl) ?_
    refine L_ld (k := 1) (kz := 1) B hxs hbl hL hW.1.2.2.1 hn hl (by decide) rfl dL_505 dL_506 dL_507 dL_508 dL_509 ?_
    refine L_ld (k := 2) (kz := 2) B hxs hbl hL hW.1.2.2.1 hn hl (by decide) rfl dL_510 dL_511 dL_512 dL_513 dL_514 ?_
    refine L_ld (k := 3) (kz := 3) B hxs hbl hL hW.1.2.2.1 hn hl (by decide) rfl dL_515 dL_516 dL_517 dL_518 dL_519 ?_
    refine L_ld (k := 4) (kz := 4) B hxs hbl hL hW.1.2.2.1 hn hl (by decide) rfl dL_520 dL_521 dL_522 dL_523 dL_524 ?_
    have JJ533 : ∀ t2 : Int, 0 ≤ t2 → t2 ≤ 1 → W p l e room_1 s m #[Value.ref b] below meth c H locs z y Q (F0 m 533 ls (.int (II t2) :: [.int (II (xs (6 * n + 3)).toInt), .int (II (xs (6 * n + 2)).toInt), .int (II (xs (6 * n + 1)).toInt), .ref h0])) := by
      intro t2 lt2 ut2
      refine L_callm (n := 4) (as := [.int (II (xs (6 * n + 1)).toInt), .int (II (xs (6 * n + 2)).toInt), .int (II (xs (6 * n + 3)).toInt), .int (II t2)]) (rest := []) B hW hA hl.1 (k_setInt l D dA h0 ad f g A La ((xs (6 * n + 1)).toInt) ((xs (6 * n + 2)).toInt) ((xs (6 * n + 3)).toInt) (t2) (toInt_inr _) (toInt_inr _) (toInt_inr _) ⟨lt2, ut2⟩) rfl ml_L_61 nm_setInt ⟨rfl, rfl⟩ ⟨Nat.le_of_ble_eq_true rfl, Nat.le_of_ble_eq_true rfl⟩ dL_533 rfl rfl (Nat.le_of_ble_eq_true rfl) ⟨by show z ≤ 600000; omega, by show y ≤ 7302250; omega⟩ (fun r2 σ1 H locs i2 hp2 hW => ?_)
      obtain ⟨b89, b84, rfl, hp2⟩ := hp2
      refine lv_pop B.1 B.2.1 dL_536 rfl ?_
      refine lv_goto (tgt := 1058) B.1 B.2.1 dL_537 (by decide) ?_
      exact KK _ _ _ _ _ _ _ _ _ _ _ ⟨hW, ⟨q0, q1, q2, q3, q4, q5, q6, q7, q8, q9, q10, q11⟩, td, hDI1, (h71.trans hlen), by omega, by omega⟩
    refine q_ieq (tgt := 532) B dL_525 (by decide) (toInt_inr _) (fun _ => ?_) (fun _ => ?_)
    · refine q_con B dL_532 ?_
      exact JJ533 0 (by decide) (by decide)
    · refine q_con B dL_528 ?_
      refine lv_goto (tgt := 533) B.1 B.2.1 dL_529 (by decide) ?_
      exact JJ533 1 (by decide) (by decide)
  refine q_ieq (tgt := 499) B dL_492 (by decide) (toInt_inr _) (fun _ => ?_) (fun _ => ?_)
  · refine q_con B dL_499 ?_
    exact JJ500 0 (by decide) (by decide)
  · refine q_con B dL_495 ?_
    refine lv_goto (tgt := 500) B.1 B.2.1 dL_496 (by decide) ?_
    exact JJ500 1 (by decide) (by decide)
set_option maxHeartbeats 1000000 in
set_option maxRecDepth 20000 in
theorem law_c10 (C0 : LC p s m meth c b Ln xs D dA eA) (hS : LSt D dA eA h0 hd ad s n σ L T N I J R H locs z y) (hn : 6 * n + 6 ≤ Ln) (hl : lv_has ls 4 [(3, .int (II (6 * (n : Int)))), (2, .ref h0), (1, .ref hd), (0, .ref b)]) (KK : ∀ (σ : MS) (L : List Nat) (T N : Nat → Nat) (I : Nat → Nat → Int) (J : Nat → Nat → Int64) (R : Nat → Nat → Nat) (H : Heap) (locs : List Loc) (z y : Nat), LSt D dA eA h0 hd ad s (n + 1) σ L T N I J R H locs z y → W p l e room_1 s m #[Value.ref b] below meth c H locs z y Q (F0 m 1058 ls [])) : W p l e room_1 s m #[Value.ref b] below meth c H locs z y Q (F0 m 540 ls []) := by
  obtain ⟨B, hX, hxs, hbl, hL⟩ := C0
  obtain ⟨f, g, A, La⟩ := σ
  obtain ⟨hW, ⟨q0, q1, q2, q3, q4, q5, q6, q7, q8, q9, q10, q11⟩, td, hDI, hlen, hz, hy⟩ := hS
  have hA : ∀ q, s.heap.size ≤ q → lwA s q := fun _ h => h
  have hC := hW.2.1.2.2.2.2.2.2.1
  have hXI := hW.2.1.2.2.2.2.2.2.2
  have h7 := g2_7 hC td
  have hns := lNS_le hC td
  refine lv_aload_n B.1 B.2.1 dL_540 rfl (lv_at hl 2 rfl) ?_
  refine L_ld (k := 1) (kz := 1) B hxs hbl hL hW.1.2.2.1 hn hl (by decide) rfl dL_541 dL_542 dL_543 dL_544 dL_545 ?_
  refine L_ld (k := 2) (kz := 2) B hxs hbl hL hW.1.2.2.1 hn hl (by decide) rfl dL_546 dL_547 dL_548 dL_549 dL_550 ?_
  refine L_ld (k := 3) (kz := 3) B hxs hbl hL hW.1.2.2.1 hn hl (by decide) rfl dL_551 dL_552 dL_553 dL_554 dL_555 ?_
  refine q_i2l B dL_556 (fun w1 => ?_)
  refine q_bip B dL_557 (by decide) ?_
  refine lv_lshl B.1 B.2.1 dL_559 rfl ?_
  refine lv_topl (fun w2 ew2 => ?_)
  refine L_ld (k := 4) (kz := 4) B hxs hbl hL hW.1.2.2.1 hn hl (by decide) rfl dL_560 dL_561 dL_562 dL_563 dL_564 ?_
  refine q_i2l B dL_565 (fun w3 => ?_)
  refine lv_ldc2 B.1 B.2.1 B.2.2.2.1 (B.2.2.2.2.1 _ lc_L_32) dL_566 ?_
  refine lv_land B.1 B.2.1 dL_569 ?_
  refine lv_topl (fun w4 ew4 => ?_)
  refine lv_lor B.1 B.2.1 dL_570 ?_
  refine lv_topl (fun w5 ew5 => ?_)
  refine L_ld (k := 5) (kz := 5) B hxs hbl hL hW.1.2.2.1 hn hl (by decide) rfl dL_571 dL_572 dL_573 dL_574 dL_575 ?_
  have JJ584 : ∀ t6 : Int, 0 ≤ t6 → t6 ≤ 1 → W p l e room_1 s m #[Value.ref b] below meth c H locs z y Q (F0 m 584 ls (.int (II t6) :: [.long w5, .int (II (xs (6 * n + 2)).toInt), .int (II (xs (6 * n + 1)).toInt), .ref hd])) := by
    intro t6 lt6 ut6
    refine L_callzi hW hA (c_runV (n := 4) (as := [.int (II (xs (6 * n + 1)).toInt), .int (II (xs (6 * n + 2)).toInt), .long w5, .int (II t6)]) (rest := []) B hX hA hW.2.1 hl.1 td kd2 rfl (k_X11_setText l D dA eA L T N I J R hd td ((xs (6 * n + 1)).toInt) (toInt_inr _) ((xs (6 * n + 2)).toInt) (toInt_inr _) w5 (t6) ⟨lt6, ut6⟩ _ _) ml_L_62 nm_X11_setText ⟨rfl, rfl⟩ ⟨Nat.le_of_ble_eq_true rfl, Nat.le_of_ble_eq_true rfl⟩ dL_584 rfl rfl (Nat.le_of_ble_eq_true rfl) ⟨by show z + (0) ≤ 600000; omega, by show y + (0) ≤ 7302250; omega⟩) (fun r1 L1 T1 N1 I1 J1 R1 dz dl H locs i1 hp1 hW => ?_)
    obtain ⟨eL, eT, eN, eJ, eR, hF, hp1⟩ := hp1
    obtain rfl := eL.symm; obtain rfl := eT.symm; obtain rfl := eN.symm; obtain rfl := eJ.symm; obtain rfl := eR.symm
    have hDI1 := DI.fr hDI hC hXI td hF (by decide) (by decide) (by decide)
    have h71 : I1 hd 7 = I hd 7 := hF.i td (by decide) nm0 rfl
    refine lv_pop B.1 B.2.1 dL_587 rfl ?_
    refine lv_aload_n B.1 B.2.1 dL_588 rfl (lv_at hl 1 rfl) ?_
    refine L_ld (k := 1) (kz := 1) B hxs hbl hL hW.1.2.2.1 hn hl (by decide) rfl dL_589 dL_590 dL_591 dL_592 dL_593 ?_
    refine L_ld (k := 2) (kz := 2) B hxs hbl hL hW.1.2.2.1 hn hl (by decide) rfl dL_594 dL_595 dL_596 dL_597 dL_598 ?_
    refine L_ld (k := 3) (kz := 3) B hxs hbl hL hW.1.2.2.1 hn hl (by decide) rfl dL_599 dL_600 dL_601 dL_602 dL_603 ?_
    refine q_i2l B dL_604 (fun w7 => ?_)
    refine q_bip B dL_605 (by decide) ?_
    refine lv_lshl B.1 B.2.1 dL_607 rfl ?_
    refine lv_topl (fun w8 ew8 => ?_)
    refine L_ld (k := 4) (kz := 4) B hxs hbl hL hW.1.2.2.1 hn hl (by decide) rfl dL_608 dL_609 dL_610 dL_611 dL_612 ?_
    refine q_i2l B dL_613 (fun w9 => ?_)
    refine lv_ldc2 B.1 B.2.1 B.2.2.2.1 (B.2.2.2.2.1 _ lc_L_32) dL_614 ?_
    refine lv_land B.1 B.2.1 dL_617 ?_
    refine lv_topl (fun w10 ew10 => ?_)
    refine lv_lor B.1 B.2.1 dL_618 ?_
    refine lv_topl (fun w11 ew11 => ?_)
    refine L_ld (k := 5) (kz := 5) B hxs hbl hL hW.1.2.2.1 hn hl (by decide) rfl dL_619 dL_620 dL_621 dL_622 dL_623 ?_
    have JJ632 : ∀ t12 : Int, 0 ≤ t12 → t12 ≤ 1 → W p l e room_1 s m #[Value.ref b] below meth c H locs z y Q (F0 m 632 ls (.int (II t12) :: [.long w11, .int (II (xs (6 * n + 2)).toInt), .int (II (xs (6 * n + 1)).toInt), .ref h0])) := by
      intro t12 lt12 ut12
      refine L_callm (n := 4) (as := [.int (II (xs (6 * n + 1)).toInt), .int (II (xs (6 * n + 2)).toInt), .long w11, .int (II t12)]) (rest := []) B hW hA hl.1 (k_setText l D dA h0 ad f g A La ((xs (6 * n + 1)).toInt) ((xs (6 * n + 2)).toInt) w11 (t12) (toInt_inr _) (toInt_inr _) ⟨lt12, ut12⟩) rfl ml_L_66 nm_setText ⟨rfl, rfl⟩ ⟨Nat.le_of_ble_eq_true rfl, Nat.le_of_ble_eq_true rfl⟩ dL_632 rfl rfl (Nat.le_of_ble_eq_true rfl) ⟨by show z ≤ 600000; omega, by show y ≤ 7302250; omega⟩ (fun r2 σ1 H locs i2 hp2 hW => ?_)
      obtain ⟨b89, b85, rfl, hp2⟩ := hp2
      refine lv_pop B.1 B.2.1 dL_635 rfl ?_
      refine lv_goto (tgt := 1058) B.1 B.2.1 dL_636 (by decide) ?_
      exact KK _ _ _ _ _ _ _ _ _ _ _ ⟨hW, ⟨q0, q1, q2, q3, q4, q5, q6, q7, q8, q9, q10, q11⟩, td, hDI1, (h71.trans hlen), by omega, by omega⟩
    refine q_ieq (tgt := 631) B dL_624 (by decide) (toInt_inr _) (fun _ => ?_) (fun _ => ?_)
    · refine q_con B dL_631 ?_
      exact JJ632 0 (by decide) (by decide)
    · refine q_con B dL_627 ?_
      refine lv_goto (tgt := 632) B.1 B.2.1 dL_628 (by decide) ?_
      exact JJ632 1 (by decide) (by decide)
  refine q_ieq (tgt := 583) B dL_576 (by decide) (toInt_inr _) (fun _ => ?_) (fun _ => ?_)
  · refine q_con B dL_583 ?_
    exact JJ584 0 (by decide) (by decide)
  · refine q_con B dL_579 ?_
    refine lv_goto (tgt := 584) B.1 B.2.1 dL_580 (by decide) ?_
    exact JJ584 1 (by decide) (by decide)
set_option maxHeartbeats 1000000 in
set_option maxRecDepth 20000 in
theorem law_c11 (C0 : LC p s m meth c b Ln xs D dA eA) (hS : LSt D dA eA h0 hd ad s n σ L T N I J R H locs z y) (hn : 6 * n + 6 ≤ Ln) (hl : lv_has ls 4 [(3, .int (II (6 * (n : Int)))), (2, .ref h0), (1, .ref hd), (0, .ref b)]) (KK : ∀ (σ : MS) (L : List Nat) (T N : Nat → Nat) (I : Nat → Nat → Int) (J : Nat → Nat → Int64) (R : Nat → Nat → Nat) (H : Heap) (locs : List Loc) (z y : Nat), LSt D dA eA h0 hd ad s (n + 1) σ L T N I J R H locs z y → W p l e room_1 s m #[Value.ref b] below meth c H locs z y Q (F0 m 1058 ls [])) : W p l e room_1 s m #[Value.ref b] below meth c H locs z y Q (F0 m 639 ls []) := by
  obtain ⟨B, hX, hxs, hbl, hL⟩ := C0
  obtain ⟨f, g, A, La⟩ := σ
  obtain ⟨hW, ⟨q0, q1, q2, q3, q4, q5, q6, q7, q8, q9, q10, q11⟩, td, hDI, hlen, hz, hy⟩ := hS
  have hA : ∀ q, s.heap.size ≤ q → lwA s q := fun _ h => h
  have hC := hW.2.1.2.2.2.2.2.2.1
  have hXI := hW.2.1.2.2.2.2.2.2.2
  have h7 := g2_7 hC td
  have hns := lNS_le hC td
  refine lv_aload_n B.1 B.2.1 dL_639 rfl (lv_at hl 2 rfl) ?_
  refine L_ld (k := 1) (kz := 1) B hxs hbl hL hW.1.2.2.1 hn hl (by decide) rfl dL_640 dL_641 dL_642 dL_643 dL_644 ?_
  refine L_ld (k := 2) (kz := 2) B hxs hbl hL hW.1.2.2.1 hn hl (by decide) rfl dL_645 dL_646 dL_647 dL_648 dL_649 ?_
  refine L_ld (k := 3) (kz := 3) B hxs hbl hL hW.1.2.2.1 hn hl (by decide) rfl dL_650 dL_651 dL_652 dL_653 dL_654 ?_
  refine L_callzi hW hA (c_runV (n := 3) (as := [.int (II (xs (6 * n + 1)).toInt), .int (II (xs (6 * n + 2)).toInt), .int (II (xs (6 * n + 3)).toInt)]) (rest := []) B hX hA hW.2.1 hl.1 td kd2 rfl (k_X11_link l D dA eA L T N I J R hd td ((xs (6 * n + 1)).toInt) (toInt_inr _) ((xs (6 * n + 2)).toInt) (toInt_inr _) ((xs (6 * n + 3)).toInt) (toInt_inr _) _ _) ml_L_67 nm_X11_link ⟨rfl, rfl⟩ ⟨Nat.le_of_ble_eq_true rfl, Nat.le_of_ble_eq_true rfl⟩ dL_655 rfl rfl (Nat.le_of_ble_eq_true rfl) ⟨by show z + (0) ≤ 600000; omega, by show y + (0) ≤ 7302250; omega⟩) (fun r1 L1 T1 N1 I1 J1 R1 dz dl H locs i1 hp1 hW => ?_)
  obtain ⟨eL, eT, eN, eJ, eR, hF, hp1⟩ := hp1
  obtain rfl := eL.symm; obtain rfl := eT.symm; obtain rfl := eN.symm; obtain rfl := eJ.symm; obtain rfl := eR.symm
  have hDI1 := DI.fr hDI hC hXI td hF (by decide) (by decide) (by decide)
  have h71 : I1 hd 7 = I hd 7 := hF.i td (by decide) nm0 rfl
  refine lv_pop B.1 B.2.1 dL_658 rfl ?_
  refine lv_aload_n B.1 B.2.1 dL_659 rfl (lv_at hl 1 rfl) ?_
  refine L_ld (k := 1) (kz := 1) B hxs hbl hL hW.1.2.2.1 hn hl (by decide) rfl dL_660 dL_661 dL_662 dL_663 dL_664 ?_
  refine L_ld (k := 2) (kz := 2) B hxs hbl hL hW.1.2.2.1 hn hl (by decide) rfl dL_665 dL_666 dL_667 dL_668 dL_669 ?_
  refine L_ld (k := 3) (kz := 3) B hxs hbl hL hW.1.2.2.1 hn hl (by decide) rfl dL_670 dL_671 dL_672 dL_673 dL_674 ?_
  refine L_callm (n := 3) (as := [.int (II (xs (6 * n + 1)).toInt), .int (II (xs (6 * n + 2)).toInt), .int (II (xs (6 * n + 3)).toInt)]) (rest := []) B hW hA hl.1 (k_link l D dA h0 ad f g A La ((xs (6 * n + 1)).toInt) ((xs (6 * n + 2)).toInt) ((xs (6 * n + 3)).toInt) (toInt_inr _) (toInt_inr _) (toInt_inr _) q3 q7 q9) rfl ml_L_71 nm_link ⟨rfl, rfl⟩ ⟨Nat.le_of_ble_eq_true rfl, Nat.le_of_ble_eq_true rfl⟩ dL_675 rfl rfl (Nat.le_of_ble_eq_true rfl) ⟨by show z ≤ 600000; omega, by show y ≤ 7302250; omega⟩ (fun r2 σ1 H locs i2 hp2 hW => ?_)
  obtain ⟨b89, b86, rfl, hp2⟩ := hp2
  refine lv_pop B.1 B.2.1 dL_678 rfl ?_
  refine lv_goto (tgt := 1058) B.1 B.2.1 dL_679 (by decide) ?_
  exact KK _ _ _ _ _ _ _ _ _ _ _ ⟨hW, ⟨q0, q1, q2, q3, q4, q5, q6, q7, q8, q9, q10, q11⟩, td, hDI1, (h71.trans hlen), by omega, by omega⟩
set_option maxHeartbeats 1000000 in
set_option maxRecDepth 20000 in
theorem law_c12 (C0 : LC p s m meth c b Ln xs D dA eA) (hS : LSt D dA eA h0 hd ad s n σ L T N I J R H locs z y) (hn : 6 * n + 6 ≤ Ln) (hl : lv_has ls 4 [(3, .int (II (6 * (n : Int)))), (2, .ref h0), (1, .ref hd), (0, .ref b)]) (KK : ∀ (σ : MS) (L : List Nat) (T N : Nat → Nat) (I : Nat → Nat → Int) (J : Nat → Nat → Int64) (R : Nat → Nat → Nat) (H : Heap) (locs : List Loc) (z y : Nat), LSt D dA eA h0 hd ad s (n + 1) σ L T N I J R H locs z y → W p l e room_1 s m #[Value.ref b] below meth c H locs z y Q (F0 m 1058 ls [])) : W p l e room_1 s m #[Value.ref b] below meth c H locs z y Q (F0 m 682 ls []) := by
  obtain ⟨B, hX, hxs, hbl, hL⟩ := C0
  obtain ⟨f, g, A, La⟩ := σ
  obtain ⟨hW, ⟨q0, q1, q2, q3, q4, q5, q6, q7, q8, q9, q10, q11⟩, td, hDI, hlen, hz, hy⟩ := hS
  have hA : ∀ q, s.heap.size ≤ q → lwA s q := fun _ h => h
  have hC := hW.2.1.2.2.2.2.2.2.1
  have hXI := hW.2.1.2.2.2.2.2.2.2
  have h7 := g2_7 hC td
  have hns := lNS_le hC td
  refine lv_aload_n B.1 B.2.1 dL_682 rfl (lv_at hl 2 rfl) ?_
  refine L_ld (k := 1) (kz := 1) B hxs hbl hL hW.1.2.2.1 hn hl (by decide) rfl dL_683 dL_684 dL_685 dL_686 dL_687 ?_
  refine L_ld (k := 2) (kz := 2) B hxs hbl hL hW.1.2.2.1 hn hl (by decide) rfl dL_688 dL_689 dL_690 dL_691 dL_692 ?_
  refine L_ld (k := 3) (kz := 3) B hxs hbl hL hW.1.2.2.1 hn hl (by decide) rfl dL_693 dL_694 dL_695 dL_696 dL_697 ?_
  refine L_callgi hW hA (c_runV (n := 3) (as := [.int (II (xs (6 * n + 1)).toInt), .int (II (xs (6 * n + 2)).toInt), .int (II (xs (6 * n + 3)).toInt)]) (rest := []) B hX hA hW.2.1 hl.1 td kd2 rfl (k_X11_item l D dA eA L T N I J R hd td ((xs (6 * n + 1)).toInt) (toInt_inr _) ((xs (6 * n + 2)).toInt) (toInt_inr _) ((xs (6 * n + 3)).toInt) (toInt_inr _) _ _) ml_L_72 nm_X11_item ⟨rfl, rfl⟩ ⟨Nat.le_of_ble_eq_true rfl, Nat.le_of_ble_eq_true rfl⟩ dL_698 rfl rfl (Nat.le_of_ble_eq_true rfl) ⟨by show z + (1) ≤ 600000; omega, by show y + (20) ≤ 7302250; omega⟩) (fun r1 L1 T1 N1 I1 J1 R1 dz dl H locs i1 hp1 hW => ?_)
  obtain ⟨eJ, hF, hp1⟩ := hp1
  obtain rfl := eJ.symm
  have td1 := hF.tt td (by decide) nm0
  have hnf := lNS_fr hC td hF (by decide) (by decide)
  have hDI1 := DI.fr hDI hC hXI td hF (by decide) (by decide) (by decide)
  have h71 : I1 hd 7 = I hd 7 := hF.i td (by decide) nm0 rfl
  refine lv_pop B.1 B.2.1 dL_701 rfl ?_
  refine lv_aload_n B.1 B.2.1 dL_702 rfl (lv_at hl 1 rfl) ?_
  refine L_ld (k := 1) (kz := 1) B hxs hbl hL hW.1.2.2.1 hn hl (by decide) rfl dL_703 dL_704 dL_705 dL_706 dL_707 ?_
  refine L_ld (k := 2) (kz := 2) B hxs hbl hL hW.1.2.2.1 hn hl (by decide) rfl dL_708 dL_709 dL_710 dL_711 dL_712 ?_
  refine L_ld (k := 3) (kz := 3) B hxs hbl hL hW.1.2.2.1 hn hl (by decide) rfl dL_713 dL_714 dL_715 dL_716 dL_717 ?_
  refine L_callm (n := 3) (as := [.int (II (xs (6 * n + 1)).toInt), .int (II (xs (6 * n + 2)).toInt), .int (II (xs (6 * n + 3)).toInt)]) (rest := []) B hW hA hl.1 (k_item l D dA h0 ad f g A La ((xs (6 * n + 1)).toInt) ((xs (6 * n + 2)).toInt) ((xs (6 * n + 3)).toInt) (toInt_inr _) (toInt_inr _) (toInt_inr _) q3 q7 q9) rfl ml_L_76 nm_item ⟨rfl, rfl⟩ ⟨Nat.le_of_ble_eq_true rfl, Nat.le_of_ble_eq_true rfl⟩ dL_718 rfl rfl (Nat.le_of_ble_eq_true rfl) ⟨by show (z + dz) ≤ 600000; omega, by show (y + dl) ≤ 7302250; omega⟩ (fun r2 σ1 H locs i2 hp2 hW => ?_)
  obtain ⟨b88, b87, rfl, hp2⟩ := hp2
  refine lv_pop B.1 B.2.1 dL_721 rfl ?_
  refine lv_goto (tgt := 1058) B.1 B.2.1 dL_722 (by decide) ?_
  exact KK _ _ _ _ _ _ _ _ _ _ _ ⟨hW, ⟨q0, q1, q2, q3, q4, q5, q6, q7, q8, q9, q10, q11⟩, td1, hDI1, (h71.trans hlen), by omega, by omega⟩
end LCS
