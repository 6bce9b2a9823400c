def mo_X1_askOwn : List Nat := [2368, 265, 261, 262, 512, 513, 514, 1632, 263, 264, 167, 160, 736, 737, 738, 1856, 416, 417, 418, 419, 420, 421, 422, 423, 424, 2816]
set_option maxHeartbeats 1000000 in
set_option maxRecDepth 20000 in
theorem k_X1_askOwn (l : Launch) (D : va_G) (dA : Nat → ClassId) (eA : Nat) (L : List Nat) (T N : Nat → Nat) (I : Nat → Nat → Int) (J : Nat → Nat → Int64) (R : Nat → Nat → Nat) (a_this : Nat) (t_this : T a_this = 5) (a_use : Nat) (t_use : T a_use = 9) (a_at : Int) (i_at : (-2147483648 : Int) ≤ a_at ∧ a_at ≤ 2147483647) (a_m : Int) (i_m : (-2147483648 : Int) ≤ a_m ∧ a_m ≤ 2147483647) (g_b : Nat) (g_ru : Nat) (g_f : Nat) (g_fl : Nat) (g_vp : Nat) (g_vf : Nat) (g_pl : Nat) (p_0 : R a_this 4 = g_b + 1) (p_1 : T g_b = 6) (p_2 : R g_b 0 = g_ru + 1) (p_3 : T g_ru = 15) (p_4 : R g_b 1 = g_f + 1) (p_5 : T g_f = 16) (p_6 : R a_this 6 = g_fl + 1) (p_7 : T g_fl = 23) (p_8 : R a_this 13 = g_vp + 1) (p_9 : T g_vp = 90) (p_10 : R a_this 14 = g_vf + 1) (p_11 : T g_vf = 91) (p_12 : R a_this 5 = g_pl + 1) (p_13 : T g_pl = 22) (p_14 : FLq I R g_ru g_f) (p_15 : VVg I a_this g_vp g_vf g_pl) (p_16 : FUg I R a_this g_fl) (p_17 : (I a_this 0 ≤ I g_fl 2 ∨ 500 ≤ I g_fl 2)) (p_18 : 0 ≤ a_at) (p_19 : a_at < I a_this 19) (p_20 : I a_this 0 < 5000) : GC l yX1_askOwn cX1_askOwn 7 none ({ frames := 9, cells := (16 - I g_f 2).toNat + 4, slots := 24 * (16 - I g_f 2).toNat + 807, locals := 287 }) D dA eA L T N I J R [.ref a_this, .ref a_use, .int (II a_at), .int (II a_m)] ((16 - I g_f 2).toNat + 4) (24 * (16 - I g_f 2).toNat + 807) (gV (fun L' T' N' I' J' R' dz dl => J' = J ∧ Fr mo_X1_askOwn [] T N I J R T' N' I' J' R' ∧ FLq I' R' g_ru g_f ∧ FUg I' R' a_this g_fl ∧ (I' a_this 0 ≤ I' g_fl 2 ∨ 500 ≤ I' g_fl 2) ∧ I a_this 0 ≤ I' a_this 0 ∧ I' a_this 0 ≤ I a_this 0 + 1 ∧ I g_f 2 ≤ I' g_f 2 ∧ I g_fl 2 ≤ I' g_fl 2 ∧ (dz : Int) ≤ (I' g_f 2 - I g_f 2) + 2 * (I' g_fl 2 - I g_fl 2) ∧ (dl : Int) + 3 * ((N (R g_fl 1 - 1) : Nat) : Int) ≤ 24 * (I' g_f 2 - I g_f 2) + 11 * (I' g_fl 2 - I g_fl 2) + 3 * ((N' (R' g_fl 1 - 1) : Nat) : Int))) := by
  generalize hPST : (gV (fun L' T' N' I' J' R' dz dl => J' = J ∧ Fr mo_X1_askOwn [] T N I J R T' N' I' J' R' ∧ FLq I' R' g_ru g_f ∧ FUg I' R' a_this g_fl ∧ (I' a_this 0 ≤ I' g_fl 2 ∨ 500 ≤ I' g_fl 2) ∧ I a_this 0 ≤ I' a_this 0 ∧ I' a_this 0 ≤ I a_this 0 + 1 ∧ I g_f 2 ≤ I' g_f 2 ∧ I g_fl 2 ≤ I' g_fl 2 ∧ (dz : Int) ≤ (I' g_f 2 - I g_f 2) + 2 * (I' g_fl 2 - I g_fl 2) ∧ (dl : Int) + 3 * ((N (R g_fl 1 - 1) : Nat) : Int) ≤ 24 * (I' g_f 2 - I g_f 2) + 11 * (I' g_fl 2 - I g_fl 2) + 3 * ((N' (R' g_fl 1 - 1) : Nat) : Int))) = PST
  refine g_enter (own := RX1) (by decide) rfl (Nat.le_of_ble_eq_true rfl) (fun p e s m args below meth c ls hm B hX hM hl => ?_)
  have hC0 := hM.2.2.2.2.2.2.1
  have hW0 := hM.2.2.2
  have hF : Fr mo_X1_askOwn [] T N I J R T N I J R := Fr.rf
  have hA : ∀ q, s.heap.size ≤ q → cF dA L T N I J R s.heap.size q := fun q h => Or.inr h
  have hl : lv_has ls 7 [(0, .ref a_this), (1, .ref a_use), (2, .int (II a_at)), (3, .int (II a_m))] := hl
  obtain ⟨x1, e2⟩ : ∃ v, I a_this 19 = v := ⟨_, rfl⟩
  have r3 : (0 : Int) ≤ x1 ∧ x1 ≤ 1600 := by rw [← e2]; exact g5_19 hM.2.2.2.2.2.2.1 t_this
  obtain ⟨x4, e5⟩ : ∃ v, I g_pl 2 = v := ⟨_, rfl⟩
  have r6 : (0 : Int) ≤ x4 ∧ x4 ≤ 200 := by rw [← e5]; exact g22_2 hM.2.2.2.2.2.2.1 p_13
  obtain ⟨v7, e8⟩ : ∃ v, R g_fl 1 = v := ⟨_, rfl⟩
  obtain ⟨x9, e10⟩ : ∃ v, I g_fl 2 = v := ⟨_, rfl⟩
  have r11 : (0 : Int) ≤ x9 ∧ x9 ≤ 500 := by rw [← e10]; exact g23_2 hM.2.2.2.2.2.2.1 p_7
  obtain ⟨x12, e13⟩ : ∃ v, I a_this 0 = v := ⟨_, rfl⟩
  have r14 : (0 : Int) ≤ x12 ∧ x12 ≤ 5000 := by rw [← e13]; exact g5_0 hM.2.2.2.2.2.2.1 t_this
  obtain ⟨x15, e16⟩ : ∃ v, I g_f 2 = v := ⟨_, rfl⟩
  have r17 : (0 : Int) ≤ x15 ∧ x15 ≤ 16 := by rw [← e16]; exact g16_2 hM.2.2.2.2.2.2.1 p_5
  obtain ⟨x18, e19⟩ : ∃ v, I a_this 9 = v := ⟨_, rfl⟩
  have r20 : (0 : Int) ≤ x18 ∧ x18 ≤ 5000 := by rw [← e19]; exact g5_9 hM.2.2.2.2.2.2.1 t_this
  have hfl := p_14
  have hvv := p_15
  have hfu := p_16
  refine lv_aload_n B.1 B.2.1 dX1_askOwn_0 rfl (lv_at hl 0 rfl) ?_
  refine c_getn (k := 4) pk_X1 B hM t_this kd5 rfl (by decide) fl_X1_66 dX1_askOwn_1 p_0 ?_
  refine lv_aload_n B.1 B.2.1 dX1_askOwn_4 rfl (lv_at hl 1 rfl) ?_
  obtain ⟨x21, e22⟩ : ∃ v, I a_use 0 = v := ⟨_, rfl⟩
  have r23 : (-2147483648 : Int) ≤ x21 ∧ x21 ≤ 2147483647 := by rw [← e22]; exact g9_0 hM.2.2.2.2.2.2.1 t_use
  refine c_geti (k := 0) pk_X10 B hM t_use kd9 rfl (by decide) fl_X1_165 dX1_askOwn_5 e22 ?_
  refine q_bip B dX1_askOwn_8 (by decide) ?_
  refine q_sub B dX1_askOwn_10 ?_
  refine q_wrap (fun x24 ix24 => ?_)
  obtain ⟨x25, e26⟩ : ∃ v, I g_ru 2 = v := ⟨_, rfl⟩
  have hFt := hF
  have hMt := hM
  refine p_callq (c_runV (n := 1) (as := [.int (II x24)]) (rest := []) B hX hA hM hl.1 p_1 kd6 rfl (k_X0_ruleAt l D dA eA L T N I J R g_b p_1 x24 (by first | omega | assumption | exact trivial) _ _) ml_X1_183 nm_X0_ruleAt ⟨rfl, rfl⟩ ⟨Nat.le_of_ble_eq_true rfl, Nat.le_of_ble_eq_true rfl⟩ dX1_askOwn_11 rfl rfl (Nat.le_of_ble_eq_true rfl) ⟨by show 0 + 0 ≤ ((16 - I g_f 2).toNat + 4); omega, by show 0 + 0 ≤ (24 * (16 - I g_f 2).toNat + 807); omega⟩) (fun v28 hp27 => ?_)
  obtain ⟨qv28, hp27a⟩ := hp27
  replace hp27a : v28 = 0 ∨ (0 ≤ x24 ∧ x24 < I (R g_b 0 - 1) 2 ∧ R (R (R g_b 0 - 1) 1 - 1) x24.toNat = v28) := hp27a
  have pq29 : I (R g_b 0 - 1) 2 = I g_ru 2 := by rw [p_2, Nat.add_sub_cancel]
  have pq30 : R (R g_b 0 - 1) 1 = R g_ru 1 := by rw [p_2, Nat.add_sub_cancel]
  clear hFt hMt
  refine c_astore (lv' := [(4, cv v28), (0, .ref a_this), (1, .ref a_use), (2, .int (II a_at)), (3, .int (II a_m))]) B dX1_askOwn_14 hl (by decide) (by first | rfl | simp [cv_cat]) (fun ls hl => ?_)
  refine c_aload B dX1_askOwn_16 (lv_at hl 0 rfl) ?_
  rcases qv28 with rfl | ⟨b31, rfl, t32⟩
  · have hl : lv_has ls 7 [(4, .null), (0, .ref a_this), (1, .ref a_use), (2, .int (II a_at)), (3, .int (II a_m))] := hl
    refine lv_ifnullN (tgt := 33) B.1 B.2.1 dX1_askOwn_18 (by decide) ?_
    have hnn : N (R g_fl 1 - 1) = N (R g_fl 1 - 1) := edN2 hC0 p_7 (by decide) (by decide) hF rfl
    refine g_vret B hM dX1_askOwn_33 ⟨by show 0 ≤ ((16 - I g_f 2).toNat + 4); omega, by show 0 ≤ (24 * (16 - I g_f 2).toNat + 807); omega⟩ ?_
    rw [← hPST]
    exact ⟨rfl, rfl, hF, by exact hfl, by exact hfu, by first | omega | assumption | exact trivial, by first | omega | assumption | exact trivial, by first | omega | assumption | exact trivial, by first | omega | assumption | exact trivial, by first | omega | assumption | exact trivial, by first | omega | assumption | exact trivial, by first | omega | assumption | exact trivial⟩
  · have hl : lv_has ls 7 [(4, .ref b31), (0, .ref a_this), (1, .ref a_use), (2, .int (II a_at)), (3, .int (II a_m))] := hl
    refine lv_ifnull B.1 B.2.1 dX1_askOwn_18 ?_
    have hri : 0 ≤ x24 ∧ x24 < I g_ru 2 ∧ R (R g_ru 1 - 1) (x24).toNat = b31 + 1 := by
      rcases hp27a with h | h
      · omega
      · rw [p_2] at h; simpa only [Nat.add_sub_cancel] using h
    refine lv_aload_n B.1 B.2.1 dX1_askOwn_21 rfl (lv_at hl 1 rfl) ?_
    refine c_getn (k := 4) pk_X1 B hM t_this kd5 rfl (by decide) fl_X1_66 dX1_askOwn_22 p_0 ?_
    refine lv_aload B.1 B.2.1 dX1_askOwn_25 (lv_at hl 0 rfl) ?_
    have hFt := hF
    have hMt := hM
    obtain ⟨v33, e34⟩ : ∃ v, R g_ru 1 = v := ⟨_, rfl⟩
    refine g_calli hM hA (c_runV (n := 1) (as := [.ref b31]) (rest := []) B hX hA hM hl.1 p_1 kd6 rfl (k_X0_isReady l D dA eA L T N I J R g_b p_1 b31 t32 g_ru g_f x24 (show R g_b 0 = g_ru + 1 from p_2) (show T g_ru = 15 from p_3) (show R g_b 1 = g_f + 1 from p_4) (show T g_f = 16 from p_5) (show FLq I R g_ru g_f from by exact hfl) (show 0 ≤ x24 from by exact hri.1) (show x24 < I g_ru 2 from by exact hri.2.1) (show R (R g_ru 1 - 1) x24.toNat = b31 + 1 from by exact hri.2.2) _ _) ml_X1_187 nm_X0_isReady ⟨rfl, rfl⟩ ⟨Nat.le_of_ble_eq_true rfl, Nat.le_of_ble_eq_true rfl⟩ dX1_askOwn_27 rfl rfl (Nat.le_of_ble_eq_true rfl) ⟨by show 0 + 1 ≤ ((16 - I g_f 2).toNat + 4); omega, by show 0 + 24 ≤ (24 * (16 - I g_f 2).toNat + 807); omega⟩) (fun x36 ix36 L37 T38 N39 I40 J41 R42 dz43 dl44 H locs hp35 hMn => ?_)
    obtain ⟨yJ41, hFc45, hp35a⟩ := hp35
    obtain rfl := yJ41.symm
    replace hF : Fr mo_X1_askOwn [] T N I J R T38 N39 I40 J R42 := hF.trans hFc45 (by decide) e20
    have hM := hMn
    clear hMn
    replace hp35a : (0 : Int) ≤ x36 ∧ x36 ≤ 1 ∧ (FLq I40 R42 g_ru g_f ∧ (x36 = 0 ∨ I40 b31 5 = 1) ∧ I g_f 2 ≤ I40 g_f 2 ∧ (dz43 : Int) ≤ I40 g_f 2 - I g_f 2 ∧ (dl44 : Int) ≤ 24 * (I40 g_f 2 - I g_f 2)) := hp35a
    obtain ⟨hp35a_0, hp35a_1, hp35a_2⟩ := hp35a
    obtain ⟨hp35a_2_0, hp35a_2_1, hp35a_2_2, hp35a_2_3, hp35a_2_4⟩ := hp35a_2
    replace hfl : FLq I40 R42 g_ru g_f := by assumption
    replace hvv : VVg I40 a_this g_vp g_vf g_pl := VVg.fr hvv t_this p_9 p_11 p_13 hFc45 (fun _ _ => nm0) (by decide)
    replace hfu : FUg I40 R42 a_this g_fl := FUg.fr hfu hMt.2.2.2.2.2.2.1 hMt.2.2.2.2.2.2.2 t_this p_7 hFc45 (fun _ _ => nm0) (by decide)
    have e46 : I40 a_this 19 = x1 := (hF.i t_this (by decide) nm0 rfl).trans e2
    have e47 : I40 g_pl 2 = x4 := (hF.i p_13 (by decide) nm0 rfl).trans e5
    have e48 : I40 a_this 0 = x12 := (hFc45.i t_this (by decide) nm0 rfl).trans e13
    have e49 : I40 a_this 9 = x18 := (hF.i t_this (by decide) nm0 rfl).trans e19
    have e50 : I40 g_fl 2 = x9 := (hFc45.i p_7 (by decide) nm0 rfl).trans e10
    obtain ⟨x51, e52⟩ : ∃ v, I40 g_f 2 = v := ⟨_, rfl⟩
    have e53 : I40 g_ru 2 = x25 := (hF.i p_3 (by decide) nm0 rfl).trans e26
    have t54 : T38 g_f = 16 := hF.tt p_5 (by decide) nm0
    have r55 : (0 : Int) ≤ x51 ∧ x51 ≤ 16 := by rw [← e52]; exact g16_2 hM.2.2.2.2.2.2.1 t54
    have t56 : T38 g_fl = 23 := hF.tt p_7 (by decide) nm0
    have t57 : T38 a_this = 5 := hF.tt t_this (by decide) nm0
    clear hFt hMt
    refine q_ine (tgt := 34) B dX1_askOwn_30 (by decide) (by unfold inr; omega) (fun c58 => ?_) (fun c58 => ?_)
    · obtain ⟨x59, e60⟩ : ∃ v, I40 b31 5 = v := ⟨_, rfl⟩
      refine lv_aload B.1 B.2.1 dX1_askOwn_34 (lv_at hl 0 rfl) ?_
      refine lv_dup B.1 B.2.1 dX1_askOwn_36 rfl ?_
      have t61 : T38 b31 = 8 := hFc45.tt t32 (by decide) nm0
      obtain ⟨x62, e63⟩ : ∃ v, I40 b31 8 = v := ⟨_, rfl⟩
      have r64 : (-2147483648 : Int) ≤ x62 ∧ x62 ≤ 2147483647 := by rw [← e63]; exact g8_8 hM.2.2.2.2.2.2.1 t61
      refine c_geti (k := 8) pk_X7 B hM t61 kd8 rfl (by decide) fl_X1_91 dX1_askOwn_37 e63 ?_
      refine q_con B dX1_askOwn_40 ?_
      refine q_add B dX1_askOwn_41 ?_
      refine q_wrap (fun x65 ix65 => ?_)
      have hMp := hM
      refine c_puti (k := 8) pk_X7 B hM t61 kd8 rfl (by decide) fl_X1_91 (Or.inl rfl) dX1_askOwn_42 rfl rfl rfl (show (-2147483648 : Int) ≤ x65 from by omega) (show x65 ≤ (2147483647 : Int) from by omega) (fun I66 H locs hu67 hM => ?_)
      have hFt := hF
      have e68 : I66 b31 8 = x65 := w2_at hu67
      replace hF : Fr mo_X1_askOwn [] T N I J R T38 N39 I66 J R42 := hF.wi hu67 (fun _ _ => by rw [t32]; rfl)
      replace hfl : FLq I66 R42 g_ru g_f := FLq.wo hfl hu67 (by decide) (by decide)
      have t69 : T38 g_vp = 90 := hF.tt p_9 (by decide) nm0
      have t70 : T38 g_vf = 91 := hF.tt p_11 (by decide) nm0
      have t71 : T38 g_pl = 22 := hF.tt p_13 (by decide) nm0
      replace hvv : VVg I66 a_this g_vp g_vf g_pl := VVg.w hvv hu67 (Or.inl (tne t57 t61 (by decide))) (tne t69 t61 (by decide)) (tne t70 t61 (by decide)) (Or.inl (tne t71 t61 (by decide)))
      replace hfu : FUg I66 R42 a_this g_fl := FUg.wi hfu hu67 (Or.inl (tne t57 t61 (by decide))) (Or.inl (tne t56 t61 (by decide)))
      clear hFt hMp
      refine lv_aload_n B.1 B.2.1 dX1_askOwn_45 rfl (lv_at hl 1 rfl) ?_
      have e72 : R42 a_this 5 = g_pl + 1 := (hF.r t_this (by decide) nm0 rfl).trans p_12
      refine c_getn (k := 5) pk_X1 B hM t57 kd5 rfl (by decide) fl_X1_9 dX1_askOwn_46 e72 ?_
      refine lv_aload_n B.1 B.2.1 dX1_askOwn_49 rfl (lv_at hl 1 rfl) ?_
      have e73 : R42 a_this 13 = g_vp + 1 := (hF.r t_this (by decide) nm0 rfl).trans p_8
      refine c_getn (k := 13) pk_X1 B hM t57 kd5 rfl (by decide) fl_X1_25 dX1_askOwn_50 e73 ?_
      refine lv_iload_n B.1 B.2.1 dX1_askOwn_53 rfl (lv_at hl 3 rfl) ?_
      have e74 : I66 a_this 19 = x1 := (hF.i t_this (by decide) nm0 rfl).trans e2
      have e75 : I66 g_pl 2 = x4 := (hF.i p_13 (by decide) nm0 rfl).trans e5
      have hva := VVg.at hvv (i := a_at) (by omega) (by omega)
      have n76 : 1600 ≤ N39 g_vp ∧ N39 g_vp ≤ 1600 := gn90 hM.2.2.2.2.2.2.1 t69
      obtain ⟨x77, e78⟩ : ∃ v, I g_vp a_at.toNat = v := ⟨_, rfl⟩
      have e79 : I66 g_vp a_at.toNat = x77 := (hF.i p_9 (by decide) nm0 (by rw [cd_arr (j := 0) (by decide)]; rfl)).trans e78
      have r80 : (0 : Int) ≤ x77 ∧ x77 ≤ 199 := by rw [← e79]; exact ga90 hM.2.2.2.2.2.2.1 t69 (by omega)
      refine c_ild B hM t69 kd90 an90 dX1_askOwn_54 (by omega) (by omega) e79 ?_
      have e81 : I66 a_this 0 = x12 := (w2_ne hu67 (Or.inl (tne t57 t61 (by decide)))).trans e48
      have e82 : I66 a_this 9 = x18 := (hF.i t_this (by decide) nm0 rfl).trans e19
      have e83 : I66 g_fl 2 = x9 := (w2_ne hu67 (Or.inl (tne t56 t61 (by decide)))).trans e50
      have e84 : I66 g_f 2 = x51 := (w2_ne hu67 (Or.inl (tne t54 t61 (by decide)))).trans e52
      have e85 : I66 g_ru 2 = x25 := (hF.i p_3 (by decide) nm0 rfl).trans e26
      have hFt := hF
      have hMt := hM
      have hv86 : ((-2147483648 : Int) ≤ x77 ∧ (x77 : Int) ≤ 2147483647) ∧ (15 ≤ 22) ∧ (22 ≤ 23) ∧ (0 ≤ x77) ∧ (x77 < I66 g_pl 2) := by first | omega | exact ⟨by first | omega | assumption | exact trivial, by first | omega | assumption | exact trivial, by first | omega | assumption | exact trivial, by first | omega | assumption | exact trivial, by first | omega | assumption | exact trivial⟩
      refine p_callr (c_runV (n := 1) (as := [.int (II x77)]) (rest := []) B hX hA hM hl.1 t71 kd22 rfl (k_Jx4a65c_get_915e3 l D dA eA L37 T38 N39 I66 J R42 g_pl t71 x77 hv86.1 hv86.2.1 hv86.2.2.1 hv86.2.2.2.1 hv86.2.2.2.2 _ _) ml_X1_85 nm_Jx4a65c_get_915e3 ⟨rfl, rfl⟩ ⟨Nat.le_of_ble_eq_true rfl, Nat.le_of_ble_eq_true rfl⟩ dX1_askOwn_55 rfl rfl (Nat.le_of_ble_eq_true rfl) ⟨by show 0 + dz43 + 0 ≤ ((16 - I g_f 2).toNat + 4); omega, by show 0 + dl44 + 0 ≤ (24 * (16 - I g_f 2).toNat + 807); omega⟩) (fun b88 hp87 => ?_)
      obtain ⟨tb88, hp87a⟩ := hp87
      replace hp87a : R42 (R42 g_pl 1 - 1) x77.toNat = b88 + 1 := hp87a
      clear hFt hMt
      refine c_cast B hM tb88 kd12 rfl cl_X1_116 dX1_askOwn_58 ?_
      refine lv_astore (lv' := [(5, .ref b88), (4, .ref b31), (0, .ref a_this), (1, .ref a_use), (2, .int (II a_at)), (3, .int (II a_m))]) B.1 B.2.1 dX1_askOwn_61 hl (by decide) rfl (fun ls hl => ?_)
      refine lv_aload B.1 B.2.1 dX1_askOwn_63 (lv_at hl 0 rfl) ?_
      refine lv_iload_n B.1 B.2.1 dX1_askOwn_65 rfl (lv_at hl 5 rfl) ?_
      have hFt := hF
      have hMt := hM
      refine p_calli (c_runV (n := 1) (as := [.int (II a_m)]) (rest := []) B hX hA hM hl.1 tb88 kd12 rfl (k_X5_has l D dA eA L37 T38 N39 I66 J R42 b88 tb88 a_m (by first | omega | assumption | exact trivial) _ _) ml_X1_191 nm_X5_has ⟨rfl, rfl⟩ ⟨Nat.le_of_ble_eq_true rfl, Nat.le_of_ble_eq_true rfl⟩ dX1_askOwn_66 rfl rfl (Nat.le_of_ble_eq_true rfl) ⟨by show 0 + dz43 + 0 ≤ ((16 - I g_f 2).toNat + 4); omega, by show 0 + dl44 + 0 ≤ (24 * (16 - I g_f 2).toNat + 807); omega⟩) (fun x90 ix90 hp89 => ?_)
      have hp89a := hp89
      replace hp89a : (0 : Int) ≤ x90 ∧ x90 ≤ 1 ∧ (True) := hp89a
      obtain ⟨hp89a_0, hp89a_1, hp89a_2⟩ := hp89a
      clear hFt hMt
      refine q_ine (tgt := 73) B dX1_askOwn_69 (by decide) (by unfold inr; omega) (fun c91 => ?_) (fun c91 => ?_)
      · refine lv_aload_n B.1 B.2.1 dX1_askOwn_73 rfl (lv_at hl 2 rfl) ?_
        have e92 : R42 a_this 4 = g_b + 1 := (hF.r t_this (by decide) nm0 rfl).trans p_0
        refine c_getn (k := 4) pk_X1 B hM t57 kd5 rfl (by decide) fl_X1_66 dX1_askOwn_74 e92 ?_
        refine lv_aload B.1 B.2.1 dX1_askOwn_77 (lv_at hl 1 rfl) ?_
        refine lv_aload B.1 B.2.1 dX1_askOwn_79 (lv_at hl 0 rfl) ?_
        refine lv_iload_n B.1 B.2.1 dX1_askOwn_81 rfl (lv_at hl 5 rfl) ?_
        have hFt := hF
        have hMt := hM
        refine p_calli (c_runV (n := 1) (as := [.int (II a_m)]) (rest := [.ref b31, .ref g_b]) B hX hA hM hl.1 tb88 kd12 rfl (k_X5_valueOf l D dA eA L37 T38 N39 I66 J R42 b88 tb88 a_m (by first | omega | assumption | exact trivial) _ _) ml_X1_195 nm_X5_valueOf ⟨rfl, rfl⟩ ⟨Nat.le_of_ble_eq_true rfl, Nat.le_of_ble_eq_true rfl⟩ dX1_askOwn_82 rfl rfl (Nat.le_of_ble_eq_true rfl) ⟨by show 0 + dz43 + 0 ≤ ((16 - I g_f 2).toNat + 4); omega, by show 0 + dl44 + 0 ≤ (24 * (16 - I g_f 2).toNat + 807); omega⟩) (fun x94 ix94 hp93 => ?_)
        have hp93a := hp93
        clear hp93a
        clear hFt hMt
        refine lv_aload_n B.1 B.2.1 dX1_askOwn_85 rfl (lv_at hl 3 rfl) ?_
        have hFt := hF
        have hMt := hM
        have t95 : T38 g_b = 6 := hF.tt p_1 (by decide) nm0
        have t96 : T38 a_use = 9 := hF.tt t_use (by decide) nm0
        have e97 : R42 g_b 0 = g_ru + 1 := (hF.r p_1 (by decide) nm0 rfl).trans p_2
        have e98 : R42 g_b 1 = g_f + 1 := (hF.r p_1 (by decide) nm0 rfl).trans p_4
        have t99 : T38 g_ru = 15 := hF.tt p_3 (by decide) nm0
        have e100 : R42 g_ru 1 = v33 := (hF.r p_3 (by decide) nm0 rfl).trans e34
        have e101 : I66 b31 5 = x59 := (w2_ne hu67 (Or.inr (by decide))).trans e60
        have hv102 : ((-2147483648 : Int) ≤ x94 ∧ (x94 : Int) ≤ 2147483647) ∧ (I66 b31 5 = 1) := by first | omega | exact ⟨by first | omega | assumption | exact trivial, by first | omega | assumption | exact trivial⟩
        refine g_calli hM hA (c_runV (n := 3) (as := [.ref b31, .int (II x94), .ref a_use]) (rest := []) B hX hA hM hl.1 t95 kd6 rfl (k_X0_judge l D dA eA L37 T38 N39 I66 J R42 g_b t95 b31 t61 x94 hv102.1 a_use t96 g_ru g_f x24 (show R42 g_b 0 = g_ru + 1 from e97) (show T38 g_ru = 15 from t99) (show R42 g_b 1 = g_f + 1 from e98) (show T38 g_f = 16 from t54) (show FLq I66 R42 g_ru g_f from by exact hfl) (show 0 ≤ x24 from by exact hri.1) (show x24 < I66 g_ru 2 from by have h9 := hri.2.1; omega) (show R42 (R42 g_ru 1 - 1) x24.toNat = b31 + 1 from by exact (rui_fr hC0 hW0.2.2.2.2 p_3 hF (by decide) (by have h9 := hri.2.1; omega)).trans hri.2.2) hv102.2 _ _) ml_X1_198 nm_X0_judge ⟨rfl, rfl⟩ ⟨Nat.le_of_ble_eq_true rfl, Nat.le_of_ble_eq_true rfl⟩ dX1_askOwn_86 rfl rfl (Nat.le_of_ble_eq_true rfl) ⟨by show 0 + dz43 + 1 ≤ ((16 - I g_f 2).toNat + 4); omega, by show 0 + dl44 + 24 ≤ (24 * (16 - I g_f 2).toNat + 807); omega⟩) (fun x104 ix104 L105 T106 N107 I108 J109 R110 dz111 dl112 H locs hp103 hMn => ?_)
        obtain ⟨yJ109, hFc113, hp103a⟩ := hp103
        obtain rfl := yJ109.symm
        replace hF : Fr mo_X1_askOwn [] T N I J R T106 N107 I108 J R110 := hF.trans hFc113 (by decide) e20
        have hM := hMn
        clear hMn
        replace hp103a : (0 : Int) ≤ x104 ∧ x104 ≤ 1 ∧ (FLq I108 R110 g_ru g_f ∧ I66 g_f 2 ≤ I108 g_f 2 ∧ (dz111 : Int) ≤ I108 g_f 2 - I66 g_f 2 ∧ (dl112 : Int) ≤ 24 * (I108 g_f 2 - I66 g_f 2)) := hp103a
        obtain ⟨hp103a_0, hp103a_1, hp103a_2⟩ := hp103a
        obtain ⟨hp103a_2_0, hp103a_2_1, hp103a_2_2, hp103a_2_3⟩ := hp103a_2
        replace hfl : FLq I108 R110 g_ru g_f := by assumption
        replace hvv : VVg I108 a_this g_vp g_vf g_pl := VVg.fr hvv t57 t69 t70 t71 hFc113 (fun _ _ => nm0) (by decide)
        replace hfu : FUg I108 R110 a_this g_fl := FUg.fr hfu hMt.2.2.2.2.2.2.1 hMt.2.2.2.2.2.2.2 t57 t56 hFc113 (fun _ _ => nm0) (by decide)
        have e114 : I108 a_this 19 = x1 := (hF.i t_this (by decide) nm0 rfl).trans e2
        have e115 : I108 g_pl 2 = x4 := (hF.i p_13 (by decide) nm0 rfl).trans e5
        have e116 : I108 a_this 0 = x12 := (hFc113.i t57 (by decide) nm0 rfl).trans e81
        have e117 : I108 a_this 9 = x18 := (hF.i t_this (by decide) nm0 rfl).trans e19
        have e118 : I108 g_fl 2 = x9 := (hFc113.i t56 (by decide) nm0 rfl).trans e83
        obtain ⟨x119, e120⟩ : ∃ v, I108 g_f 2 = v := ⟨_, rfl⟩
        have e121 : I108 g_ru 2 = x25 := (hF.i p_3 (by decide) nm0 rfl).trans e26
        have t122 : T106 g_f = 16 := hF.tt p_5 (by decide) nm0
        have r123 : (0 : Int) ≤ x119 ∧ x119 ≤ 16 := by rw [← e120]; exact g16_2 hM.2.2.2.2.2.2.1 t122
        have t124 : T106 g_fl = 23 := hF.tt p_7 (by decide) nm0
        have t125 : T106 a_this = 5 := hF.tt t_this (by decide) nm0
        clear hFt hMt
        refine lv_istore (lv' := [(6, .int (II x104)), (5, .ref b88), (4, .ref b31), (0, .ref a_this), (1, .ref a_use), (2, .int (II a_at)), (3, .int (II a_m))]) B.1 B.2.1 dX1_askOwn_89 hl (by decide) rfl (fun ls hl => ?_)
        have JJ104 : ∀  (H : Heap) (locs : List Loc) (ls : Array Slot), (CWd D dA eA (cF dA L T N I J R s.heap.size) s.heap L105 T106 N107 I108 J R110 H locs) → lv_has ls 7 [(6, .int (II x104)), (5, .ref b88), (4, .ref b31), (0, .ref a_this), (1, .ref a_use), (2, .int (II a_at)), (3, .int (II a_m))] → W p l e ({ frames := 9, cells := (16 - I g_f 2).toNat + 4, slots := 24 * (16 - I g_f 2).toNat + 807, locals := 287 }) s m args below meth c H locs (0 + dz43 + dz111) (0 + dl44 + dl112) (MQ below (gQ D dA eA (cF dA L T N I J R s.heap.size) s.heap.size (hs s.heap) PST) args s ((16 - I g_f 2).toNat + 4) (24 * (16 - I g_f 2).toNat + 807) (cF dA L T N I J R s.heap.size)) (F0 m 104 ls []) := by
          intro  H locs ls hM hl 
          refine lv_aload_n B.1 B.2.1 dX1_askOwn_104 rfl (lv_at hl 3 rfl) ?_
          refine lv_aload_n B.1 B.2.1 dX1_askOwn_105 rfl (lv_at hl 4 rfl) ?_
          refine lv_iload_n B.1 B.2.1 dX1_askOwn_106 rfl (lv_at hl 5 rfl) ?_
          refine lv_iload_n B.1 B.2.1 dX1_askOwn_107 rfl (lv_at hl 6 rfl) ?_
          refine lv_iload B.1 B.2.1 dX1_askOwn_108 (lv_at hl 0 rfl) ?_
          have JJ118 : ∀ (s118_0 : Int) (H : Heap) (locs : List Loc) (ls : Array Slot), (CWd D dA eA (cF dA L T N I J R s.heap.size) s.heap L105 T106 N107 I108 J R110 H locs) → lv_has ls 7 [(6, .int (II x104)), (5, .ref b88), (4, .ref b31), (0, .ref a_this), (1, .ref a_use), (2, .int (II a_at)), (3, .int (II a_m))] → ((-2147483648 : Int) ≤ s118_0 ∧ s118_0 ≤ 2147483647) → W p l e ({ frames := 9, cells := (16 - I g_f 2).toNat + 4, slots := 24 * (16 - I g_f 2).toNat + 807, locals := 287 }) s m args below meth c H locs (0 + dz43 + dz111) (0 + dl44 + dl112) (MQ below (gQ D dA eA (cF dA L T N I J R s.heap.size) s.heap.size (hs s.heap) PST) args s ((16 - I g_f 2).toNat + 4) (24 * (16 - I g_f 2).toNat + 807) (cF dA L T N I J R s.heap.size)) (F0 m 118 ls [.int (II s118_0), .int (II a_m), .int (II a_at), .ref a_use, .ref a_this]) := by
            intro s118_0 H locs ls hM hl hJJ118_0
            have e126 : R42 g_fl 1 = v7 := (hFc45.r p_7 (by decide) nm0 rfl).trans e8
            have e127 : R110 g_fl 1 = v7 := (hFc113.r t56 (by decide) nm0 rfl).trans e126
            have hnn : N107 (R110 g_fl 1 - 1) = N (R g_fl 1 - 1) := edN2 hC0 p_7 (by decide) (by decide) hF (e127.trans e8.symm)
            have hFt := hF
            have hMt := hM
            have t128 : T106 a_use = 9 := hF.tt t_use (by decide) nm0
            have e129 : R110 a_this 6 = g_fl + 1 := (hF.r t_this (by decide) nm0 rfl).trans p_6
            have e130 : R110 a_this 13 = g_vp + 1 := (hF.r t_this (by decide) nm0 rfl).trans p_8
            have e131 : R110 a_this 14 = g_vf + 1 := (hF.r t_this (by decide) nm0 rfl).trans p_10
            have e132 : R110 a_this 5 = g_pl + 1 := (hF.r t_this (by decide) nm0 rfl).trans p_12
            have t133 : T106 g_vp = 90 := hF.tt p_9 (by decide) nm0
            have t134 : T106 g_vf = 91 := hF.tt p_11 (by decide) nm0
            have t135 : T106 g_pl = 22 := hF.tt p_13 (by decide) nm0
            have hv136 : ((-2147483648 : Int) ≤ a_at ∧ (a_at : Int) ≤ 2147483647) ∧ ((-2147483648 : Int) ≤ a_m ∧ (a_m : Int) ≤ 2147483647) ∧ ((-2147483648 : Int) ≤ s118_0 ∧ (s118_0 : Int) ≤ 2147483647) ∧ ((I108 a_this 0 ≤ I108 g_fl 2 ∨ 500 ≤ I108 g_fl 2)) ∧ (0 ≤ a_at) ∧ (a_at < I108 a_this 19) ∧ (I108 a_this 0 < 5000) := by first | omega | exact ⟨by first | omega | assumption | exact trivial, by first | omega | assumption | exact trivial, by first | omega | assumption | exact trivial, by first | omega | assumption | exact trivial, by first | omega | assumption | exact trivial, by first | omega | assumption | exact trivial, by first | omega | assumption | exact trivial⟩
            refine g_callv hM hA (c_runV (n := 4) (as := [.ref a_use, .int (II a_at), .int (II a_m), .int (II s118_0)]) (rest := []) B hX hA hM hl.1 t125 kd5 rfl (k_X1_tell l D dA eA L105 T106 N107 I108 J R110 a_this t125 a_use t128 a_at hv136.1 a_m hv136.2.1 s118_0 hv136.2.2.1 g_fl g_vp g_vf g_pl (show R110 a_this 6 = g_fl + 1 from e129) (show T106 g_fl = 23 from t124) (show R110 a_this 13 = g_vp + 1 from e130) (show T106 g_vp = 90 from t133) (show R110 a_this 14 = g_vf + 1 from e131) (show T106 g_vf = 91 from t134) (show R110 a_this 5 = g_pl + 1 from e132) (show T106 g_pl = 22 from t135) (show VVg I108 a_this g_vp g_vf g_pl from by exact hvv) (show FUg I108 R110 a_this g_fl from by exact hfu) hv136.2.2.2.1 hv136.2.2.2.2.1 hv136.2.2.2.2.2.1 hv136.2.2.2.2.2.2 _ _) ml_X1_179 nm_X1_tell ⟨rfl, rfl⟩ ⟨Nat.le_of_ble_eq_true rfl, Nat.le_of_ble_eq_true rfl⟩ dX1_askOwn_118 rfl rfl (Nat.le_of_ble_eq_true rfl) ⟨by show 0 + dz43 + dz111 + 2 ≤ ((16 - I g_f 2).toNat + 4); omega, by show 0 + dl44 + dl112 + 759 ≤ (24 * (16 - I g_f 2).toNat + 807); omega⟩) (fun L139 T140 N141 I142 J143 R144 dz145 dl146 H locs hp137 hMn => ?_)
            obtain ⟨yJ143, hFc147, hp137a⟩ := hp137
            obtain rfl := yJ143.symm
            have t148 : T106 g_b = 6 := hF.tt p_1 (by decide) nm0
            have t149 : T106 g_ru = 15 := hF.tt p_3 (by decide) nm0
            have t150 : T106 b31 = 8 := hFc113.tt t61 (by decide) nm0
            have t151 : T106 b88 = 12 := hFc113.tt tb88 (by decide) nm0
            replace hF : Fr mo_X1_askOwn [] T N I J R T140 N141 I142 J R144 := hF.trans hFc147 (by decide) e20
            have hM := hMn
            clear hMn
            replace hp137a : FUg I142 R144 a_this g_fl ∧ (I142 a_this 0 ≤ I142 g_fl 2 ∨ 500 ≤ I142 g_fl 2) ∧ I142 a_this 0 = I108 a_this 0 + 1 ∧ dz145 ≤ 2 ∧ dl146 ≤ 759 ∧ I108 g_fl 2 ≤ I142 g_fl 2 ∧ (dz145 : Int) ≤ 2 * (I142 g_fl 2 - I108 g_fl 2) ∧ (dl146 : Int) + 3 * ((N107 (R110 g_fl 1 - 1) : Nat) : Int) ≤ 11 * (I142 g_fl 2 - I108 g_fl 2) + 3 * ((N141 (R144 g_fl 1 - 1) : Nat) : Int) := hp137a
            obtain ⟨hp137a_0, hp137a_1, hp137a_2, hp137a_3, hp137a_4, hp137a_5, hp137a_6, hp137a_7⟩ := hp137a
            obtain ⟨v152, e153⟩ : ∃ v, R144 g_fl 1 = v := ⟨_, rfl⟩
            replace hfl : FLq I142 R144 g_ru g_f := FLq.fr hfl hMt.2.2.2.2.2.2.1 hMt.2.2.2.2.2.2.2 t149 t122 hFc147 (fun _ _ => nm0) (by decide)
            replace hvv : VVg I142 a_this g_vp g_vf g_pl := VVg.fr hvv t125 t133 t134 t135 hFc147 (fun _ _ => nm0) (by decide)
            replace hfu : FUg I142 R144 a_this g_fl := by assumption
            have e154 : I142 a_this 19 = x1 := (hF.i t_this (by decide) nm0 rfl).trans e2
            have e155 : I142 g_pl 2 = x4 := (hF.i p_13 (by decide) nm0 rfl).trans e5
            have e156 : I142 a_this 9 = x18 := (hF.i t_this (by decide) nm0 rfl).trans e19
            obtain ⟨x157, e158⟩ : ∃ v, I142 g_fl 2 = v := ⟨_, rfl⟩
            have e159 : I142 g_f 2 = x119 := (hFc147.i t122 (by decide) nm0 rfl).trans e120
            have e160 : I142 g_ru 2 = x25 := (hF.i p_3 (by decide) nm0 rfl).trans e26
            have t161 : T140 g_f = 16 := hF.tt p_5 (by decide) nm0
            have t162 : T140 g_fl = 23 := hF.tt p_7 (by decide) nm0
            have r163 : (0 : Int) ≤ x157 ∧ x157 ≤ 500 := by rw [← e158]; exact g23_2 hM.2.2.2.2.2.2.1 t162
            have t164 : T140 a_this = 5 := hF.tt t_this (by decide) nm0
            clear hFt hMt
            refine g_vret B hM dX1_askOwn_121 ⟨by show 0 + dz43 + dz111 + dz145 ≤ ((16 - I g_f 2).toNat + 4); omega, by show 0 + dl44 + dl112 + dl146 ≤ (24 * (16 - I g_f 2).toNat + 807); omega⟩ ?_
            rw [← hPST]
            exact ⟨rfl, rfl, hF, by exact hfl, by exact hfu, by first | omega | assumption | exact trivial, by first | omega | assumption | exact trivial, by first | omega | assumption | exact trivial, by first | omega | assumption | exact trivial, by first | omega | assumption | exact trivial, by first | omega | assumption | exact trivial, by first | omega | assumption | exact trivial⟩
          refine q_ieq (tgt := 117) B dX1_askOwn_110 (by decide) (by unfold inr; omega) (fun c165 => ?_) (fun c165 => ?_)
          · refine q_con B dX1_askOwn_117 ?_
            exact JJ118 1 _ _ ls hM (lv_sub hl [0, 1, 2, 3, 4, 5, 6] rfl) (by first | omega | assumption | exact trivial)
          · refine q_con B dX1_askOwn_113 ?_
            refine lv_goto (tgt := 118) B.1 B.2.1 dX1_askOwn_114 (by decide) ?_
            exact JJ118 0 _ _ ls hM (lv_sub hl [0, 1, 2, 3, 4, 5, 6] rfl) (by first | omega | assumption | exact trivial)
        refine lv_iload B.1 B.2.1 dX1_askOwn_91 (lv_at hl 0 rfl) ?_
        refine q_ieq (tgt := 104) B dX1_askOwn_93 (by decide) (by unfold inr; omega) (fun c166 => ?_) (fun c166 => ?_)
        · exact JJ104  _ _ ls hM (lv_sub hl [0, 1, 2, 3, 4, 5, 6] rfl)
        · refine lv_aload B.1 B.2.1 dX1_askOwn_96 (lv_at hl 2 rfl) ?_
          have t167 : T106 b31 = 8 := hFc113.tt t61 (by decide) nm0
          obtain ⟨x168, e169⟩ : ∃ v, I108 b31 9 = v := ⟨_, rfl⟩
          have r170 : (-2147483648 : Int) ≤ x168 ∧ x168 ≤ 2147483647 := by rw [← e169]; exact g8_9 hM.2.2.2.2.2.2.1 t167
          refine c_geti (k := 9) pk_X7 B hM t167 kd8 rfl (by decide) fl_X1_202 dX1_askOwn_98 e169 ?_
          refine q_ine (tgt := 121) B dX1_askOwn_101 (by decide) (by unfold inr; omega) (fun c171 => ?_) (fun c171 => ?_)
          · have e172 : R42 g_fl 1 = v7 := (hFc45.r p_7 (by decide) nm0 rfl).trans e8
            have e173 : R110 g_fl 1 = v7 := (hFc113.r t56 (by decide) nm0 rfl).trans e172
            have hnn : N107 (R110 g_fl 1 - 1) = N (R g_fl 1 - 1) := edN2 hC0 p_7 (by decide) (by decide) hF (e173.trans e8.symm)
            refine g_vret B hM dX1_askOwn_121 ⟨by show 0 + dz43 + dz111 ≤ ((16 - I g_f 2).toNat + 4); omega, by show 0 + dl44 + dl112 ≤ (24 * (16 - I g_f 2).toNat + 807); omega⟩ ?_
            rw [← hPST]
            exact ⟨rfl, rfl, hF, by exact hfl, by exact hfu, by first | omega | assumption | exact trivial, by first | omega | assumption | exact trivial, by first | omega | assumption | exact trivial, by first | omega | assumption | exact trivial, by first | omega | assumption | exact trivial, by first | omega | assumption | exact trivial, by first | omega | assumption | exact trivial⟩
          · exact JJ104  _ _ ls hM (lv_sub hl [0, 1, 2, 3, 4, 5, 6] rfl)
      · have e174 : R42 g_fl 1 = v7 := (hFc45.r p_7 (by decide) nm0 rfl).trans e8
        have hnn : N39 (R42 g_fl 1 - 1) = N (R g_fl 1 - 1) := edN2 hC0 p_7 (by decide) (by decide) hF (e174.trans e8.symm)
        refine g_vret B hM dX1_askOwn_72 ⟨by show 0 + dz43 ≤ ((16 - I g_f 2).toNat + 4); omega, by show 0 + dl44 ≤ (24 * (16 - I g_f 2).toNat + 807); omega⟩ ?_
        rw [← hPST]
        exact ⟨rfl, rfl, hF, by exact hfl, by exact hfu, by first | omega | assumption | exact trivial, by first | omega | assumption | exact trivial, by first | omega | assumption | exact trivial, by first | omega | assumption | exact trivial, by first | omega | assumption | exact trivial, by first | omega | assumption | exact trivial, by first | omega | assumption | exact trivial⟩
    · have e175 : R42 g_fl 1 = v7 := (hFc45.r p_7 (by decide) nm0 rfl).trans e8
      have hnn : N39 (R42 g_fl 1 - 1) = N (R g_fl 1 - 1) := edN2 hC0 p_7 (by decide) (by decide) hF (e175.trans e8.symm)
      refine g_vret B hM dX1_askOwn_33 ⟨by show 0 + dz43 ≤ ((16 - I g_f 2).toNat + 4); omega, by show 0 + dl44 ≤ (24 * (16 - I g_f 2).toNat + 807); omega⟩ ?_
      rw [← hPST]
      exact ⟨rfl, rfl, hF, by exact hfl, by exact hfu, by first | omega | assumption | exact trivial, by first | omega | assumption | exact trivial, by first | omega | assumption | exact trivial, by first | omega | assumption | exact trivial, by first | omega | assumption | exact trivial, by first | omega | assumption | exact trivial, by first | omega | assumption | exact trivial⟩
