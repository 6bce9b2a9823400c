def mo_X1_run : List Nat := [2368, 265, 261, 262, 512, 513, 514, 1632, 263, 264, 167, 160, 736, 737, 738, 1856, 416, 417, 418, 419, 420, 421, 422, 423, 424, 2816, 169, 385, 2880, 2912, 2944, 2976, 3008, 3040, 179, 2848, 163, 168, 170, 161, 171, 172]
set_option maxHeartbeats 1000000 in
set_option maxRecDepth 20000 in
theorem k_X1_run (l : Launch) (D : va_G) (dA : Nat → ClassId) (eA : Nat) (L : List Nat) (T N : Nat → Nat) (I : Nat → Nat → Int) (J : Nat → Nat → Int64) (R : Nat → Nat → Nat) (a_this : Nat) (t_this : T a_this = 5) (a_p : Int) (i_p : (-2147483648 : Int) ≤ a_p ∧ a_p ≤ 2147483647) (a_chain : Nat) (t_chain : T a_chain = 69) (g_b : Nat) (g_ru : Nat) (g_f : Nat) (g_fl : Nat) (g_vp : Nat) (g_vf : Nat) (g_pl : Nat) (p_0 : R a_this 4 = g_b + 1) (p_1 : T g_b = 6) (p_2 : R g_b 0 = g_ru + 1) (p_3 : T g_ru = 15) (p_4 : R g_b 1 = g_f + 1) (p_5 : T g_f = 16) (p_6 : R a_this 6 = g_fl + 1) (p_7 : T g_fl = 23) (p_8 : R a_this 13 = g_vp + 1) (p_9 : T g_vp = 90) (p_10 : R a_this 14 = g_vf + 1) (p_11 : T g_vf = 91) (p_12 : R a_this 5 = g_pl + 1) (p_13 : T g_pl = 22) (p_14 : FLq I R g_ru g_f) : GC l yX1_run cX1_run 6 none ({ frames := 12, cells := (16 - I g_f 2).toNat + 2 * (500 - I g_fl 2).toNat + 4, slots := 24 * (16 - I g_f 2).toNat + 11 * (500 - I g_fl 2).toNat + 3 * (750 - N (R g_fl 1 - 1)) + 807, locals := 362 }) D dA eA L T N I J R [.ref a_this, .int (II a_p), .ref a_chain] ((16 - I g_f 2).toNat + 2 * (500 - I g_fl 2).toNat + 4) (24 * (16 - I g_f 2).toNat + 11 * (500 - I g_fl 2).toNat + 3 * (750 - N (R g_fl 1 - 1)) + 807) (gV (fun L' T' N' I' J' R' dz dl => J' = J ∧ Fr mo_X1_run [] T N I J R T' N' I' J' R' ∧ FLq I' R' g_ru g_f ∧ FUg I' R' a_this g_fl ∧ (I' a_this 0 ≤ I' g_fl 2 ∨ 500 ≤ I' g_fl 2) ∧ VVg I' a_this g_vp g_vf g_pl ∧ I' a_this 0 ≤ I' a_this 9 ∧ I g_f 2 ≤ I' g_f 2 ∧ I g_fl 2 ≤ I' g_fl 2 ∧ (dz : Int) ≤ (I' g_f 2 - I g_f 2) + 2 * (I' g_fl 2 - I g_fl 2) ∧ (dl : Int) + 3 * ((N (R g_fl 1 - 1) : Nat) : Int) ≤ 24 * (I' g_f 2 - I g_f 2) + 11 * (I' g_fl 2 - I g_fl 2) + 3 * ((N' (R' g_fl 1 - 1) : Nat) : Int))) := by
  generalize hPST : (gV (fun L' T' N' I' J' R' dz dl => J' = J ∧ Fr mo_X1_run [] T N I J R T' N' I' J' R' ∧ FLq I' R' g_ru g_f ∧ FUg I' R' a_this g_fl ∧ (I' a_this 0 ≤ I' g_fl 2 ∨ 500 ≤ I' g_fl 2) ∧ VVg I' a_this g_vp g_vf g_pl ∧ I' a_this 0 ≤ I' a_this 9 ∧ I g_f 2 ≤ I' g_f 2 ∧ I g_fl 2 ≤ I' g_fl 2 ∧ (dz : Int) ≤ (I' g_f 2 - I g_f 2) + 2 * (I' g_fl 2 - I g_fl 2) ∧ (dl : Int) + 3 * ((N (R g_fl 1 - 1) : Nat) : Int) ≤ 24 * (I' g_f 2 - I g_f 2) + 11 * (I' g_fl 2 - I g_fl 2) + 3 * ((N' (R' g_fl 1 - 1) : Nat) : Int))) = PST
  refine g_enter (own := RX1) (by decide) rfl (Nat.le_of_ble_eq_true rfl) (fun p e s m args below meth c ls hm B hX hM hl => ?_)
  have hC0 := hM.2.2.2.2.2.2.1
  have hW0 := hM.2.2.2
  have hF : Fr mo_X1_run [] T N I J R T N I J R := Fr.rf
  have hA : ∀ q, s.heap.size ≤ q → cF dA L T N I J R s.heap.size q := fun q h => Or.inr h
  have hl : lv_has ls 6 [(0, .ref a_this), (1, .int (II a_p)), (2, .ref a_chain)] := hl
  obtain ⟨x1, e2⟩ : ∃ v, I a_this 19 = v := ⟨_, rfl⟩
  have r3 : (0 : Int) ≤ x1 ∧ x1 ≤ 1600 := by rw [← e2]; exact g5_19 hM.2.2.2.2.2.2.1 t_this
  obtain ⟨x4, e5⟩ : ∃ v, I g_pl 2 = v := ⟨_, rfl⟩
  have r6 : (0 : Int) ≤ x4 ∧ x4 ≤ 200 := by rw [← e5]; exact g22_2 hM.2.2.2.2.2.2.1 p_13
  obtain ⟨v7, e8⟩ : ∃ v, R g_fl 1 = v := ⟨_, rfl⟩
  obtain ⟨x9, e10⟩ : ∃ v, I g_fl 2 = v := ⟨_, rfl⟩
  have r11 : (0 : Int) ≤ x9 ∧ x9 ≤ 500 := by rw [← e10]; exact g23_2 hM.2.2.2.2.2.2.1 p_7
  obtain ⟨x12, e13⟩ : ∃ v, I a_this 0 = v := ⟨_, rfl⟩
  have r14 : (0 : Int) ≤ x12 ∧ x12 ≤ 5000 := by rw [← e13]; exact g5_0 hM.2.2.2.2.2.2.1 t_this
  obtain ⟨x15, e16⟩ : ∃ v, I g_f 2 = v := ⟨_, rfl⟩
  have r17 : (0 : Int) ≤ x15 ∧ x15 ≤ 16 := by rw [← e16]; exact g16_2 hM.2.2.2.2.2.2.1 p_5
  obtain ⟨x18, e19⟩ : ∃ v, I a_this 9 = v := ⟨_, rfl⟩
  have r20 : (0 : Int) ≤ x18 ∧ x18 ≤ 5000 := by rw [← e19]; exact g5_9 hM.2.2.2.2.2.2.1 t_this
  have hfl := p_14
  have hnb := edBF hM.2.2.2.2.2.2.1 p_7
  refine lv_aload_n B.1 B.2.1 dX1_run_0 rfl (lv_at hl 0 rfl) ?_
  obtain ⟨x21, e22⟩ : ∃ v, I g_ru 2 = v := ⟨_, rfl⟩
  have hFt := hF
  have hMt := hM
  refine z_callv hM hA (c_runV (n := 0) (as := []) (rest := []) B hX hA hM hl.1 t_this kd5 rfl (k_X1_clear l D dA eA L T N I J R a_this t_this _ _) ml_X1_63 nm_X1_clear ⟨rfl, rfl⟩ ⟨Nat.le_of_ble_eq_true rfl, Nat.le_of_ble_eq_true rfl⟩ dX1_run_1 rfl rfl (Nat.le_of_ble_eq_true rfl) ⟨by show 0 + 0 ≤ ((16 - I g_f 2).toNat + 2 * (500 - I g_fl 2).toNat + 4); omega, by show 0 + 0 ≤ (24 * (16 - I g_f 2).toNat + 11 * (500 - I g_fl 2).toNat + 3 * (750 - N (R g_fl 1 - 1)) + 807); omega⟩) (fun L25 T26 N27 I28 J29 R30 dz31 dl32 H locs hp23 hMn => ?_)
  obtain ⟨yL25, yT26, yN27, yJ29, yR30, hFc33, hp23a⟩ := hp23
  obtain rfl := yL25.symm; obtain rfl := yT26.symm; obtain rfl := yN27.symm; obtain rfl := yJ29.symm; obtain rfl := yR30.symm
  replace hF : Fr mo_X1_run [] T N I J R T N I28 J R := hF.trans hFc33 (by decide) e20
  have hM := hMn
  clear hMn
  replace hp23a : I28 a_this 0 = 0 ∧ I28 a_this 19 = 0 ∧ I28 a_this 9 = 0 := hp23a
  obtain ⟨hp23a_0, hp23a_1, hp23a_2⟩ := hp23a
  replace hfl : FLq I28 R g_ru g_f := FLq.fr hfl hMt.2.2.2.2.2.2.1 hMt.2.2.2.2.2.2.2 p_3 p_5 hFc33 (fun _ _ => nm0) (by decide)
  have hvv : VVg I28 a_this g_vp g_vf g_pl := VVg.zero (by omega)
  have hfu : FUg I28 R a_this g_fl := FUg.zero (by omega)
  have e34 : I28 g_pl 2 = x4 := (hF.i p_13 (by decide) nm0 rfl).trans e5
  have e35 : I28 g_fl 2 = x9 := (hFc33.i p_7 (by decide) nm0 rfl).trans e10
  have e36 : I28 g_f 2 = x15 := (hFc33.i p_5 (by decide) nm0 rfl).trans e16
  have e37 : I28 g_ru 2 = x21 := (hF.i p_3 (by decide) nm0 rfl).trans e22
  clear hFt hMt
  refine lv_aload_n B.1 B.2.1 dX1_run_4 rfl (lv_at hl 0 rfl) ?_
  refine lv_dup B.1 B.2.1 dX1_run_5 rfl ?_
  obtain ⟨x38, e39⟩ : ∃ v, I28 a_this 10 = v := ⟨_, rfl⟩
  have r40 : (-2147483648 : Int) ≤ x38 ∧ x38 ≤ 2147483647 := by rw [← e39]; exact g5_10 hM.2.2.2.2.2.2.1 t_this
  refine c_geti (k := 10) pk_X1 B hM t_this kd5 rfl (by decide) fl_X1_73 dX1_run_6 e39 ?_
  refine q_con B dX1_run_9 ?_
  refine q_add B dX1_run_10 ?_
  refine q_wrap (fun x41 ix41 => ?_)
  have hMp := hM
  refine c_puti (k := 10) pk_X1 B hM t_this kd5 rfl (by decide) fl_X1_73 (Or.inl rfl) dX1_run_11 rfl rfl rfl (show (-2147483648 : Int) ≤ x41 from by omega) (show x41 ≤ (2147483647 : Int) from by omega) (fun I42 H locs hu43 hM => ?_)
  have hFt := hF
  have e44 : I42 a_this 10 = x41 := w2_at hu43
  replace hF : Fr mo_X1_run [] T N I J R T N I42 J R := hF.wi hu43 (fun _ _ => by rw [t_this]; rfl)
  replace hfl : FLq I42 R g_ru g_f := FLq.wt hfl hMp.2.2.2.2.2.2.1 hMp.2.2.2.2.2.2.2 p_3 p_5 t_this (by decide) (by decide) (by decide) hu43
  replace hvv : VVg I42 a_this g_vp g_vf g_pl := VVg.w hvv hu43 (Or.inr (by decide)) (tne p_9 t_this (by decide)) (tne p_11 t_this (by decide)) (Or.inl (tne p_13 t_this (by decide)))
  replace hfu : FUg I42 R a_this g_fl := FUg.wi hfu hu43 (Or.inr (by decide)) (Or.inl (tne p_7 t_this (by decide)))
  clear hFt hMp
  refine lv_aload_n B.1 B.2.1 dX1_run_14 rfl (lv_at hl 0 rfl) ?_
  refine q_con B dX1_run_15 ?_
  have hMp := hM
  refine c_puti (k := 1) pk_X1 B hM t_this kd5 rfl (by decide) fl_X1_70 (Or.inl rfl) dX1_run_16 rfl rfl rfl (show (-2147483648 : Int) ≤ 0 from by omega) (show 0 ≤ (2147483647 : Int) from by omega) (fun I45 H locs hu46 hM => ?_)
  have e47 : I42 a_this 19 = 0 := (w2_ne hu43 (Or.inr (by decide))).trans hp23a_1
  have e48 : I42 g_pl 2 = x4 := (hF.i p_13 (by decide) nm0 rfl).trans e5
  have e49 : I42 a_this 0 = 0 := (w2_ne hu43 (Or.inr (by decide))).trans hp23a_0
  have e50 : I42 a_this 9 = 0 := (w2_ne hu43 (Or.inr (by decide))).trans hp23a_2
  have e51 : I42 g_fl 2 = x9 := (w2_ne hu43 (Or.inl (tne p_7 t_this (by decide)))).trans e35
  have e52 : I42 g_f 2 = x15 := (w2_ne hu43 (Or.inl (tne p_5 t_this (by decide)))).trans e36
  have e53 : I42 g_ru 2 = x21 := (hF.i p_3 (by decide) nm0 rfl).trans e22
  have hFt := hF
  have e54 : I45 a_this 1 = 0 := w2_at hu46
  replace hF : Fr mo_X1_run [] T N I J R T N I45 J R := hF.wi hu46 (fun _ _ => by rw [t_this]; rfl)
  replace hfl : FLq I45 R g_ru g_f := FLq.wt hfl hMp.2.2.2.2.2.2.1 hMp.2.2.2.2.2.2.2 p_3 p_5 t_this (by decide) (by decide) (by decide) hu46
  replace hvv : VVg I45 a_this g_vp g_vf g_pl := VVg.w hvv hu46 (Or.inr (by decide)) (tne p_9 t_this (by decide)) (tne p_11 t_this (by decide)) (Or.inl (tne p_13 t_this (by decide)))
  replace hfu : FUg I45 R a_this g_fl := FUg.wi hfu hu46 (Or.inr (by decide)) (Or.inl (tne p_7 t_this (by decide)))
  clear hFt hMp
  refine q_con B dX1_run_19 ?_
  refine lv_istore_n (lv' := [(3, .int (II 0)), (0, .ref a_this), (1, .int (II a_p)), (2, .ref a_chain)]) B.1 B.2.1 dX1_run_20 rfl hl (by decide) rfl (fun ls hl => ?_)
  have LL21 : ∀ NN : Nat, ∀ (v21_3 : Int) (I_21 : Nat → Nat → Int) (H : Heap) (locs : List Loc) (ls : Array Slot), (CWd D dA eA (cF dA L T N I J R s.heap.size) s.heap L T N I_21 J R H locs) → (Fr mo_X1_run [] T N I J R T N I_21 J R) → lv_has ls 6 [(0, .ref a_this), (1, .int (II a_p)), (2, .ref a_chain), (3, .int (II v21_3))] → ((-2147483648 : Int) ≤ v21_3 ∧ v21_3 ≤ 2147483647) → (0 ≤ v21_3) → (v21_3 ≤ 16) → (I_21 a_this 0 = 0) → (I_21 a_this 9 = 0) → (I_21 a_this 19 = 0) → (I_21 g_f 2 = I g_f 2) → (I_21 g_fl 2 = I g_fl 2) → (FLq I_21 R g_ru g_f) → (VVg I_21 a_this g_vp g_vf g_pl) → (FUg I_21 R a_this g_fl) → (0 ≤ 17 - v21_3) → (17 - v21_3 < (NN : Int)) → W p l e ({ frames := 12, cells := (16 - I g_f 2).toNat + 2 * (500 - I g_fl 2).toNat + 4, slots := 24 * (16 - I g_f 2).toNat + 11 * (500 - I g_fl 2).toNat + 3 * (750 - N (R g_fl 1 - 1)) + 807, locals := 362 }) s m args below meth c H locs 0 0 (MQ below (gQ D dA eA (cF dA L T N I J R s.heap.size) s.heap.size (hs s.heap) PST) args s ((16 - I g_f 2).toNat + 2 * (500 - I g_fl 2).toNat + 4) (24 * (16 - I g_f 2).toNat + 11 * (500 - I g_fl 2).toNat + 3 * (750 - N (R g_fl 1 - 1)) + 807) (cF dA L T N I J R s.heap.size)) (F0 m 21 ls []) := by
    intro NN
    induction NN with
    | zero => intro v21_3 I_21 H locs ls hM hF hl hLL21_0 hLL21_1 hLL21_2 hLL21_3 hLL21_4 hLL21_5 hLL21_6 hLL21_7 hLL21_8 hLL21_9 hLL21_10 hLL21_11 hN; exfalso; omega
    | succ NN IH21 =>
      intro v21_3 I_21 H locs ls hM hF hl hLL21_0 hLL21_1 hLL21_2 hLL21_3 hLL21_4 hLL21_5 hLL21_6 hLL21_7 hLL21_8 hLL21_9 hLL21_10 hLL21_11 hN
      have hfl : FLq I_21 R g_ru g_f := by assumption
      have hvv : VVg I_21 a_this g_vp g_vf g_pl := by assumption
      have hfu : FUg I_21 R a_this g_fl := by assumption
      refine lv_iload_n B.1 B.2.1 dX1_run_21 rfl (lv_at hl 3 rfl) ?_
      refine lv_aload_n B.1 B.2.1 dX1_run_22 rfl (lv_at hl 0 rfl) ?_
      refine c_getn (k := 4) pk_X1 B hM t_this kd5 rfl (by decide) fl_X1_66 dX1_run_23 p_0 ?_
      refine c_getn (k := 0) pk_X0 B hM p_1 kd6 rfl (by decide) fl_X1_76 dX1_run_26 p_2 ?_
      have e55 : I_21 g_pl 2 = x4 := (hF.i p_13 (by decide) nm0 rfl).trans e5
      have e56 : I_21 g_ru 2 = x21 := (hF.i p_3 (by decide) nm0 rfl).trans e22
      have hFt := hF
      have hMt := hM
      have hv57 : (15 ≤ 15) ∧ (15 ≤ 23) := by first | omega | exact ⟨by first | omega | assumption | exact trivial, by first | omega | assumption | exact trivial⟩
      refine p_calli (c_runV (n := 0) (as := []) (rest := [.int (II v21_3)]) B hX hA hM hl.1 p_3 kd15 rfl (k_Jx4a65c_size_8abf5 l D dA eA L T N I_21 J R g_ru p_3 hv57.1 hv57.2 _ _) ml_X1_81 nm_Jx4a65c_size_8abf5 ⟨rfl, rfl⟩ ⟨Nat.le_of_ble_eq_true rfl, Nat.le_of_ble_eq_true rfl⟩ dX1_run_29 rfl rfl (Nat.le_of_ble_eq_true rfl) ⟨by show 0 + 0 ≤ ((16 - I g_f 2).toNat + 2 * (500 - I g_fl 2).toNat + 4); omega, by show 0 + 0 ≤ (24 * (16 - I g_f 2).toNat + 11 * (500 - I g_fl 2).toNat + 3 * (750 - N (R g_fl 1 - 1)) + 807); omega⟩) (fun x59 ix59 hp58 => ?_)
      have hp58a := hp58
      replace hp58a : I_21 g_ru 2 = x59 ∧ 0 ≤ x59 ∧ x59 ≤ 16 := hp58a
      obtain ⟨hp58a_0, hp58a_1, hp58a_2⟩ := hp58a
      clear hFt hMt
      refine q_cge (tgt := 59) B dX1_run_32 (by decide) (by unfold inr; omega) (by unfold inr; omega) (fun c60 => ?_) (fun c60 => ?_)
      · refine q_con B dX1_run_59 ?_
        refine lv_istore_n (lv' := [(3, .int (II 0)), (0, .ref a_this), (1, .int (II a_p)), (2, .ref a_chain)]) B.1 B.2.1 dX1_run_60 rfl hl (by decide) rfl (fun ls hl => ?_)
        have LL61 : ∀ NN : Nat, ∀ (v61_3 : Int) (L_61 : List Nat) (T_61 : Nat → Nat) (N_61 : Nat → Nat) (I_61 : Nat → Nat → Int) (R_61 : Nat → Nat → Nat) (zc61 zs61 : Nat) (H : Heap) (locs : List Loc) (ls : Array Slot), (CWd D dA eA (cF dA L T N I J R s.heap.size) s.heap L_61 T_61 N_61 I_61 J R_61 H locs) → (Fr mo_X1_run [] T N I J R T_61 N_61 I_61 J R_61) → lv_has ls 6 [(0, .ref a_this), (1, .int (II a_p)), (2, .ref a_chain), (3, .int (II v61_3))] → ((-2147483648 : Int) ≤ v61_3 ∧ v61_3 ≤ 2147483647) → (0 ≤ v61_3) → (v61_3 ≤ 8) → (I_61 a_this 0 ≤ I_61 a_this 9) → (I g_f 2 ≤ I_61 g_f 2) → (I g_fl 2 ≤ I_61 g_fl 2) → ((zc61 : Int) ≤ (I_61 g_f 2 - I g_f 2) + 2 * (I_61 g_fl 2 - I g_fl 2)) → ((zs61 : Int) + 3 * ((N (R g_fl 1 - 1) : Nat) : Int) ≤ 24 * (I_61 g_f 2 - I g_f 2) + 11 * (I_61 g_fl 2 - I g_fl 2) + 3 * ((N_61 (R_61 g_fl 1 - 1) : Nat) : Int)) → ((I_61 a_this 0 ≤ I_61 g_fl 2 ∨ 500 ≤ I_61 g_fl 2)) → (FLq I_61 R_61 g_ru g_f) → (VVg I_61 a_this g_vp g_vf g_pl) → (FUg I_61 R_61 a_this g_fl) → (0 ≤ 9 - v61_3) → (9 - v61_3 < (NN : Int)) → W p l e ({ frames := 12, cells := (16 - I g_f 2).toNat + 2 * (500 - I g_fl 2).toNat + 4, slots := 24 * (16 - I g_f 2).toNat + 11 * (500 - I g_fl 2).toNat + 3 * (750 - N (R g_fl 1 - 1)) + 807, locals := 362 }) s m args below meth c H locs zc61 zs61 (MQ below (gQ D dA eA (cF dA L T N I J R s.heap.size) s.heap.size (hs s.heap) PST) args s ((16 - I g_f 2).toNat + 2 * (500 - I g_fl 2).toNat + 4) (24 * (16 - I g_f 2).toNat + 11 * (500 - I g_fl 2).toNat + 3 * (750 - N (R g_fl 1 - 1)) + 807) (cF dA L T N I J R s.heap.size)) (F0 m 61 ls []) := by
          intro NN
          induction NN with
          | zero => intro v61_3 L_61 T_61 N_61 I_61 R_61 zc61 zs61 H locs ls hM hF hl hLL61_0 hLL61_1 hLL61_2 hLL61_3 hLL61_4 hLL61_5 hLL61_6 hLL61_7 hLL61_8 hLL61_9 hLL61_10 hLL61_11 hLL61_12 hN; exfalso; omega
          | succ NN IH61 =>
            intro v61_3 L_61 T_61 N_61 I_61 R_61 zc61 zs61 H locs ls hM hF hl hLL61_0 hLL61_1 hLL61_2 hLL61_3 hLL61_4 hLL61_5 hLL61_6 hLL61_7 hLL61_8 hLL61_9 hLL61_10 hLL61_11 hLL61_12 hN
            have hfl : FLq I_61 R_61 g_ru g_f := by assumption
            have hvv : VVg I_61 a_this g_vp g_vf g_pl := by assumption
            have hfu : FUg I_61 R_61 a_this g_fl := by assumption
            obtain ⟨x61, e62⟩ : ∃ v, I_61 g_f 2 = v := ⟨_, rfl⟩
            have t63 : T_61 g_f = 16 := hF.tt p_5 (by decide) nm0
            have r64 : (0 : Int) ≤ x61 ∧ x61 ≤ 16 := by rw [← e62]; exact g16_2 hM.2.2.2.2.2.2.1 t63
            obtain ⟨x65, e66⟩ : ∃ v, I_61 g_fl 2 = v := ⟨_, rfl⟩
            have t67 : T_61 g_fl = 23 := hF.tt p_7 (by decide) nm0
            have r68 : (0 : Int) ≤ x65 ∧ x65 ≤ 500 := by rw [← e66]; exact g23_2 hM.2.2.2.2.2.2.1 t67
            obtain ⟨x69, e70⟩ : ∃ v, I_61 a_this 9 = v := ⟨_, rfl⟩
            have t71 : T_61 a_this = 5 := hF.tt t_this (by decide) nm0
            have r72 : (0 : Int) ≤ x69 ∧ x69 ≤ 5000 := by rw [← e70]; exact g5_9 hM.2.2.2.2.2.2.1 t71
            obtain ⟨x73, e74⟩ : ∃ v, I_61 a_this 0 = v := ⟨_, rfl⟩
            have hnb := edBF hM.2.2.2.2.2.2.1 t67
            have r75 : (0 : Int) ≤ x73 ∧ x73 ≤ 5000 := by rw [← e74]; exact g5_0 hM.2.2.2.2.2.2.1 t71
            obtain ⟨x76, e77⟩ : ∃ v, I_61 a_this 19 = v := ⟨_, rfl⟩
            have r78 : (0 : Int) ≤ x76 ∧ x76 ≤ 1600 := by rw [← e77]; exact g5_19 hM.2.2.2.2.2.2.1 t71
            have e79 : I_61 g_pl 2 = x4 := (hF.i p_13 (by decide) nm0 rfl).trans e5
            have t80 : T_61 g_pl = 22 := hF.tt p_13 (by decide) nm0
            refine lv_iload_n B.1 B.2.1 dX1_run_61 rfl (lv_at hl 3 rfl) ?_
            refine lv_aload_n B.1 B.2.1 dX1_run_62 rfl (lv_at hl 2 rfl) ?_
            have t81 : T_61 a_chain = 69 := hF.tt t_chain (by decide) nm0
            have n82 : 0 ≤ N_61 a_chain ∧ N_61 a_chain ≤ 8 := gn69 hM.2.2.2.2.2.2.1 t81
            have n83 : N_61 a_chain = N a_chain := hF.n t_chain (by decide) nm0
            refine c_len B hM t81 kd69 (by decide) dX1_run_63 rfl ?_
            refine q_cge (tgt := 201) B dX1_run_64 (by decide) (by unfold inr; omega) (by unfold inr; omega) (fun c84 => ?_) (fun c84 => ?_)
            · obtain ⟨v85, e86⟩ : ∃ v, R_61 g_fl 1 = v := ⟨_, rfl⟩
              obtain ⟨x87, e88⟩ : ∃ v, I g_ru 2 = v := ⟨_, rfl⟩
              have e89 : I_61 g_ru 2 = x87 := (hF.i p_3 (by decide) nm0 rfl).trans e88
              refine g_vret B hM dX1_run_201 ⟨by show zc61 ≤ ((16 - I g_f 2).toNat + 2 * (500 - I g_fl 2).toNat + 4); omega, by show zs61 ≤ (24 * (16 - I g_f 2).toNat + 11 * (500 - I g_fl 2).toNat + 3 * (750 - N (R g_fl 1 - 1)) + 807); omega⟩ ?_
              rw [← hPST]
              exact ⟨rfl, rfl, hF, by exact hfl, by exact hfu, by first | omega | assumption | exact trivial, by exact hvv, by first | omega | assumption | exact trivial, by first | omega | assumption | exact trivial, by first | omega | assumption | exact trivial, by first | omega | assumption | exact trivial, by first | omega | assumption | exact trivial⟩
            · refine lv_aload_n B.1 B.2.1 dX1_run_67 rfl (lv_at hl 0 rfl) ?_
              obtain ⟨x90, e91⟩ : ∃ v, I_61 a_this 7 = v := ⟨_, rfl⟩
              have r92 : (0 : Int) ≤ x90 ∧ x90 ≤ 1 := by rw [← e91]; exact g5_7 hM.2.2.2.2.2.2.1 t71
              refine c_geti (k := 7) pk_X1 B hM t71 kd5 rfl (by decide) fl_X1_56 dX1_run_68 e91 ?_
              refine q_ine (tgt := 201) B dX1_run_71 (by decide) (by unfold inr; omega) (fun c93 => ?_) (fun c93 => ?_)
              · obtain ⟨v94, e95⟩ : ∃ v, R_61 g_fl 1 = v := ⟨_, rfl⟩
                obtain ⟨x96, e97⟩ : ∃ v, I g_ru 2 = v := ⟨_, rfl⟩
                have e98 : I_61 g_ru 2 = x96 := (hF.i p_3 (by decide) nm0 rfl).trans e97
                refine g_vret B hM dX1_run_201 ⟨by show zc61 ≤ ((16 - I g_f 2).toNat + 2 * (500 - I g_fl 2).toNat + 4); omega, by show zs61 ≤ (24 * (16 - I g_f 2).toNat + 11 * (500 - I g_fl 2).toNat + 3 * (750 - N (R g_fl 1 - 1)) + 807); omega⟩ ?_
                rw [← hPST]
                exact ⟨rfl, rfl, hF, by exact hfl, by exact hfu, by first | omega | assumption | exact trivial, by exact hvv, by first | omega | assumption | exact trivial, by first | omega | assumption | exact trivial, by first | omega | assumption | exact trivial, by first | omega | assumption | exact trivial, by first | omega | assumption | exact trivial⟩
              · refine lv_aload_n B.1 B.2.1 dX1_run_74 rfl (lv_at hl 0 rfl) ?_
                refine c_geti (k := 9) pk_X1 B hM t71 kd5 rfl (by decide) fl_X1_53 dX1_run_75 e70 ?_
                refine q_sip B dX1_run_78 (by decide) ?_
                refine q_cge (tgt := 201) B dX1_run_81 (by decide) (by unfold inr; omega) (by unfold inr; omega) (fun c99 => ?_) (fun c99 => ?_)
                · obtain ⟨v100, e101⟩ : ∃ v, R_61 g_fl 1 = v := ⟨_, rfl⟩
                  obtain ⟨x102, e103⟩ : ∃ v, I g_ru 2 = v := ⟨_, rfl⟩
                  have e104 : I_61 g_ru 2 = x102 := (hF.i p_3 (by decide) nm0 rfl).trans e103
                  refine g_vret B hM dX1_run_201 ⟨by show zc61 ≤ ((16 - I g_f 2).toNat + 2 * (500 - I g_fl 2).toNat + 4); omega, by show zs61 ≤ (24 * (16 - I g_f 2).toNat + 11 * (500 - I g_fl 2).toNat + 3 * (750 - N (R g_fl 1 - 1)) + 807); omega⟩ ?_
                  rw [← hPST]
                  exact ⟨rfl, rfl, hF, by exact hfl, by exact hfu, by first | omega | assumption | exact trivial, by exact hvv, by first | omega | assumption | exact trivial, by first | omega | assumption | exact trivial, by first | omega | assumption | exact trivial, by first | omega | assumption | exact trivial, by first | omega | assumption | exact trivial⟩
                · refine lv_aload_n B.1 B.2.1 dX1_run_84 rfl (lv_at hl 0 rfl) ?_
                  refine lv_dup B.1 B.2.1 dX1_run_85 rfl ?_
                  obtain ⟨x105, e106⟩ : ∃ v, I_61 a_this 1 = v := ⟨_, rfl⟩
                  have r107 : (-2147483648 : Int) ≤ x105 ∧ x105 ≤ 2147483647 := by rw [← e106]; exact g5_1 hM.2.2.2.2.2.2.1 t71
                  refine c_geti (k := 1) pk_X1 B hM t71 kd5 rfl (by decide) fl_X1_70 dX1_run_86 e106 ?_
                  refine q_con B dX1_run_89 ?_
                  refine q_add B dX1_run_90 ?_
                  refine q_wrap (fun x108 ix108 => ?_)
                  have hMp := hM
                  refine c_puti (k := 1) pk_X1 B hM t71 kd5 rfl (by decide) fl_X1_70 (Or.inl rfl) dX1_run_91 rfl rfl rfl (show (-2147483648 : Int) ≤ x108 from by omega) (show x108 ≤ (2147483647 : Int) from by omega) (fun I109 H locs hu110 hM => ?_)
                  obtain ⟨x111, e112⟩ : ∃ v, I g_ru 2 = v := ⟨_, rfl⟩
                  have e113 : I_61 g_ru 2 = x111 := (hF.i p_3 (by decide) nm0 rfl).trans e112
                  have hFt := hF
                  have e114 : I109 a_this 1 = x108 := w2_at hu110
                  replace hF : Fr mo_X1_run [] T N I J R T_61 N_61 I109 J R_61 := hF.wi hu110 (fun _ _ => by rw [t_this]; rfl)
                  have t115 : T_61 g_ru = 15 := hF.tt p_3 (by decide) nm0
                  replace hfl : FLq I109 R_61 g_ru g_f := FLq.wt hfl hMp.2.2.2.2.2.2.1 hMp.2.2.2.2.2.2.2 t115 t63 t71 (by decide) (by decide) (by decide) hu110
                  have t116 : T_61 g_vp = 90 := hF.tt p_9 (by decide) nm0
                  have t117 : T_61 g_vf = 91 := hF.tt p_11 (by decide) nm0
                  replace hvv : VVg I109 a_this g_vp g_vf g_pl := VVg.w hvv hu110 (Or.inr (by decide)) (tne t116 t71 (by decide)) (tne t117 t71 (by decide)) (Or.inl (tne t80 t71 (by decide)))
                  replace hfu : FUg I109 R_61 a_this g_fl := FUg.wi hfu hu110 (Or.inr (by decide)) (Or.inl (tne t67 t71 (by decide)))
                  clear hFt hMp
                  refine lv_aload_n B.1 B.2.1 dX1_run_94 rfl (lv_at hl 0 rfl) ?_
                  refine lv_dup B.1 B.2.1 dX1_run_95 rfl ?_
                  obtain ⟨x118, e119⟩ : ∃ v, I109 a_this 11 = v := ⟨_, rfl⟩
                  have r120 : (-2147483648 : Int) ≤ x118 ∧ x118 ≤ 2147483647 := by rw [← e119]; exact g5_11 hM.2.2.2.2.2.2.1 t71
                  refine c_geti (k := 11) pk_X1 B hM t71 kd5 rfl (by decide) fl_X1_94 dX1_run_96 e119 ?_
                  refine q_con B dX1_run_99 ?_
                  refine q_add B dX1_run_100 ?_
                  refine q_wrap (fun x121 ix121 => ?_)
                  have hMp := hM
                  refine c_puti (k := 11) pk_X1 B hM t71 kd5 rfl (by decide) fl_X1_94 (Or.inl rfl) dX1_run_101 rfl rfl rfl (show (-2147483648 : Int) ≤ x121 from by omega) (show x121 ≤ (2147483647 : Int) from by omega) (fun I122 H locs hu123 hM => ?_)
                  have e124 : I109 a_this 19 = x76 := (w2_ne hu110 (Or.inr (by decide))).trans e77
                  have e125 : I109 g_pl 2 = x4 := (hF.i p_13 (by decide) nm0 rfl).trans e5
                  have e126 : I109 a_this 0 = x73 := (w2_ne hu110 (Or.inr (by decide))).trans e74
                  have e127 : I109 a_this 9 = x69 := (w2_ne hu110 (Or.inr (by decide))).trans e70
                  have e128 : I109 g_fl 2 = x65 := (w2_ne hu110 (Or.inl (tne t67 t71 (by decide)))).trans e66
                  have e129 : I109 g_f 2 = x61 := (w2_ne hu110 (Or.inl (tne t63 t71 (by decide)))).trans e62
                  have e130 : I109 g_ru 2 = x111 := (hF.i p_3 (by decide) nm0 rfl).trans e112
                  have hFt := hF
                  have e131 : I122 a_this 11 = x121 := w2_at hu123
                  replace hF : Fr mo_X1_run [] T N I J R T_61 N_61 I122 J R_61 := hF.wi hu123 (fun _ _ => by rw [t_this]; rfl)
                  replace hfl : FLq I122 R_61 g_ru g_f := FLq.wt hfl hMp.2.2.2.2.2.2.1 hMp.2.2.2.2.2.2.2 t115 t63 t71 (by decide) (by decide) (by decide) hu123
                  replace hvv : VVg I122 a_this g_vp g_vf g_pl := VVg.w hvv hu123 (Or.inr (by decide)) (tne t116 t71 (by decide)) (tne t117 t71 (by decide)) (Or.inl (tne t80 t71 (by decide)))
                  replace hfu : FUg I122 R_61 a_this g_fl := FUg.wi hfu hu123 (Or.inr (by decide)) (Or.inl (tne t67 t71 (by decide)))
                  clear hFt hMp
                  refine lv_aload_n B.1 B.2.1 dX1_run_104 rfl (lv_at hl 0 rfl) ?_
                  refine lv_aload_n B.1 B.2.1 dX1_run_105 rfl (lv_at hl 0 rfl) ?_
                  have e132 : R_61 a_this 4 = g_b + 1 := (hF.r t_this (by decide) nm0 rfl).trans p_0
                  refine c_getn (k := 4) pk_X1 B hM t71 kd5 rfl (by decide) fl_X1_66 dX1_run_106 e132 ?_
                  refine lv_aload_n B.1 B.2.1 dX1_run_109 rfl (lv_at hl 2 rfl) ?_
                  refine lv_iload_n B.1 B.2.1 dX1_run_110 rfl (lv_at hl 3 rfl) ?_
                  obtain ⟨x133, e134⟩ : ∃ v, I a_chain v61_3.toNat = v := ⟨_, rfl⟩
                  have e135 : I122 a_chain v61_3.toNat = x133 := (hF.i t_chain (by decide) nm0 (by rw [cd_arr (j := 0) (by decide)]; rfl)).trans e134
                  have r136 : (-2147483648 : Int) ≤ x133 ∧ x133 ≤ 2147483647 := by rw [← e135]; exact ga69 hM.2.2.2.2.2.2.1 t81 (by omega)
                  refine c_ild B hM t81 kd69 an69 dX1_run_111 (by omega) (by omega) e135 ?_
                  have e137 : I122 a_this 19 = x76 := (w2_ne hu123 (Or.inr (by decide))).trans e124
                  have e138 : I122 g_pl 2 = x4 := (hF.i p_13 (by decide) nm0 rfl).trans e5
                  have e139 : I122 a_this 0 = x73 := (w2_ne hu123 (Or.inr (by decide))).trans e126
                  have e140 : I122 a_this 9 = x69 := (w2_ne hu123 (Or.inr (by decide))).trans e127
                  have e141 : I122 g_fl 2 = x65 := (w2_ne hu123 (Or.inl (tne t67 t71 (by decide)))).trans e128
                  have e142 : I122 g_f 2 = x61 := (w2_ne hu123 (Or.inl (tne t63 t71 (by decide)))).trans e129
                  have e143 : I122 g_ru 2 = x111 := (hF.i p_3 (by decide) nm0 rfl).trans e112
                  have hFt := hF
                  have hMt := hM
                  have t144 : T_61 g_b = 6 := hF.tt p_1 (by decide) nm0
                  refine p_calli (c_runV (n := 1) (as := [.int (II x133)]) (rest := [.ref a_this]) B hX hA hM hl.1 t144 kd6 rfl (k_X0_maskOf l D dA eA L_61 T_61 N_61 I122 J R_61 g_b t144 x133 (by first | omega | assumption | exact trivial) _ _) ml_X1_97 nm_X0_maskOf ⟨rfl, rfl⟩ ⟨Nat.le_of_ble_eq_true rfl, Nat.le_of_ble_eq_true rfl⟩ dX1_run_112 rfl rfl (Nat.le_of_ble_eq_true rfl) ⟨by show zc61 + 0 ≤ ((16 - I g_f 2).toNat + 2 * (500 - I g_fl 2).toNat + 4); omega, by show zs61 + 0 ≤ (24 * (16 - I g_f 2).toNat + 11 * (500 - I g_fl 2).toNat + 3 * (750 - N (R g_fl 1 - 1)) + 807); omega⟩) (fun x146 ix146 hp145 => ?_)
                  have hp145a := hp145
                  clear hp145a
                  clear hFt hMt
                  have hMp := hM
                  refine c_puti (k := 12) pk_X1 B hM t71 kd5 rfl (by decide) fl_X1_101 (Or.inl rfl) dX1_run_115 rfl rfl rfl (show (-2147483648 : Int) ≤ x146 from by omega) (show x146 ≤ (2147483647 : Int) from by omega) (fun I147 H locs hu148 hM => ?_)
                  have hFt := hF
                  have e149 : I147 a_this 12 = x146 := w2_at hu148
                  replace hF : Fr mo_X1_run [] T N I J R T_61 N_61 I147 J R_61 := hF.wi hu148 (fun _ _ => by rw [t_this]; rfl)
                  replace hfl : FLq I147 R_61 g_ru g_f := FLq.wt hfl hMp.2.2.2.2.2.2.1 hMp.2.2.2.2.2.2.2 t115 t63 t71 (by decide) (by decide) (by decide) hu148
                  replace hvv : VVg I147 a_this g_vp g_vf g_pl := VVg.w hvv hu148 (Or.inr (by decide)) (tne t116 t71 (by decide)) (tne t117 t71 (by decide)) (Or.inl (tne t80 t71 (by decide)))
                  replace hfu : FUg I147 R_61 a_this g_fl := FUg.wi hfu hu148 (Or.inr (by decide)) (Or.inl (tne t67 t71 (by decide)))
                  clear hFt hMp
                  refine lv_aload_n B.1 B.2.1 dX1_run_118 rfl (lv_at hl 0 rfl) ?_
                  refine lv_iload_n B.1 B.2.1 dX1_run_119 rfl (lv_at hl 1 rfl) ?_
                  refine q_con B dX1_run_120 ?_
                  refine q_con B dX1_run_121 ?_
                  have e150 : I147 a_this 19 = x76 := (w2_ne hu148 (Or.inr (by decide))).trans e137
                  have e151 : I147 g_pl 2 = x4 := (hF.i p_13 (by decide) nm0 rfl).trans e5
                  have e152 : I147 a_this 0 = x73 := (w2_ne hu148 (Or.inr (by decide))).trans e139
                  have e153 : I147 a_this 9 = x69 := (w2_ne hu148 (Or.inr (by decide))).trans e140
                  have e154 : I147 g_fl 2 = x65 := (w2_ne hu148 (Or.inl (tne t67 t71 (by decide)))).trans e141
                  have e155 : I147 g_f 2 = x61 := (w2_ne hu148 (Or.inl (tne t63 t71 (by decide)))).trans e142
                  have e156 : I147 g_ru 2 = x111 := (hF.i p_3 (by decide) nm0 rfl).trans e112
                  have hFt := hF
                  have hMt := hM
                  have e157 : R_61 a_this 13 = g_vp + 1 := (hF.r t_this (by decide) nm0 rfl).trans p_8
                  have e158 : R_61 a_this 14 = g_vf + 1 := (hF.r t_this (by decide) nm0 rfl).trans p_10
                  have e159 : R_61 a_this 5 = g_pl + 1 := (hF.r t_this (by decide) nm0 rfl).trans p_12
                  have hv160 : ((-2147483648 : Int) ≤ a_p ∧ (a_p : Int) ≤ 2147483647) ∧ ((-2147483648 : Int) ≤ -1 ∧ (-1 : Int) ≤ 2147483647) ∧ ((-2147483648 : Int) ≤ 0 ∧ (0 : Int) ≤ 2147483647) ∧ (-1 ≤ (-1 : Int)) ∧ ((-1 : Int) < I147 a_this 19) := by first | omega | exact ⟨by first | omega | assumption | exact trivial, by first | omega | assumption | exact trivial, by first | omega | assumption | exact trivial, by first | omega | assumption | exact trivial, by first | omega | assumption | exact trivial⟩
                  refine z_calli hM hA (c_runV (n := 3) (as := [.int (II a_p), .int (II (-1)), .int (II 0)]) (rest := []) B hX hA hM hl.1 t71 kd5 rfl (k_X1_enter l D dA eA L_61 T_61 N_61 I147 J R_61 a_this t71 a_p hv160.1 (-1) hv160.2.1 (0) hv160.2.2.1 g_vp g_vf g_pl (show R_61 a_this 13 = g_vp + 1 from e157) (show T_61 g_vp = 90 from t116) (show R_61 a_this 14 = g_vf + 1 from e158) (show T_61 g_vf = 91 from t117) (show R_61 a_this 5 = g_pl + 1 from e159) (show T_61 g_pl = 22 from t80) (show VVg I147 a_this g_vp g_vf g_pl from by exact hvv) hv160.2.2.2.1 hv160.2.2.2.2 _ _) ml_X1_104 nm_X1_enter ⟨rfl, rfl⟩ ⟨Nat.le_of_ble_eq_true rfl, Nat.le_of_ble_eq_true rfl⟩ dX1_run_122 rfl rfl (Nat.le_of_ble_eq_true rfl) ⟨by show zc61 + 0 ≤ ((16 - I g_f 2).toNat + 2 * (500 - I g_fl 2).toNat + 4); omega, by show zs61 + 0 ≤ (24 * (16 - I g_f 2).toNat + 11 * (500 - I g_fl 2).toNat + 3 * (750 - N (R g_fl 1 - 1)) + 807); omega⟩) (fun x162 ix162 L163 T164 N165 I166 J167 R168 dz169 dl170 H locs hp161 hMn => ?_)
                  obtain ⟨yL163, yT164, yN165, yJ167, yR168, hFc171, hp161a⟩ := hp161
                  obtain rfl := yL163.symm; obtain rfl := yT164.symm; obtain rfl := yN165.symm; obtain rfl := yJ167.symm; obtain rfl := yR168.symm
                  replace hF : Fr mo_X1_run [] T N I J R T_61 N_61 I166 J R_61 := hF.trans hFc171 (by decide) e20
                  have hM := hMn
                  clear hMn
                  replace hp161a : VVg I166 a_this g_vp g_vf g_pl ∧ -1 ≤ x162 ∧ x162 < I166 a_this 19 ∧ I147 a_this 19 ≤ I166 a_this 19 := hp161a
                  obtain ⟨hp161a_0, hp161a_1, hp161a_2, hp161a_3⟩ := hp161a
                  replace hfl : FLq I166 R_61 g_ru g_f := FLq.fr hfl hMt.2.2.2.2.2.2.1 hMt.2.2.2.2.2.2.2 t115 t63 hFc171 (fun _ _ => nm0) (by decide)
                  replace hvv : VVg I166 a_this g_vp g_vf g_pl := by assumption
                  replace hfu : FUg I166 R_61 a_this g_fl := FUg.fr hfu hMt.2.2.2.2.2.2.1 hMt.2.2.2.2.2.2.2 t71 t67 hFc171 (fun _ _ => nm0) (by decide)
                  obtain ⟨x172, e173⟩ : ∃ v, I166 a_this 19 = v := ⟨_, rfl⟩
                  have e174 : I166 g_pl 2 = x4 := (hF.i p_13 (by decide) nm0 rfl).trans e5
                  have e175 : I166 a_this 0 = x73 := (hFc171.i t71 (by decide) nm0 rfl).trans e152
                  have e176 : I166 a_this 9 = x69 := (hFc171.i t71 (by decide) nm0 rfl).trans e153
                  have e177 : I166 g_fl 2 = x65 := (hFc171.i t67 (by decide) nm0 rfl).trans e154
                  have e178 : I166 g_f 2 = x61 := (hFc171.i t63 (by decide) nm0 rfl).trans e155
                  have e179 : I166 g_ru 2 = x111 := (hF.i p_3 (by decide) nm0 rfl).trans e112
                  have r180 : (0 : Int) ≤ x172 ∧ x172 ≤ 1600 := by rw [← e173]; exact g5_19 hM.2.2.2.2.2.2.1 t71
                  clear hFt hMt
                  refine lv_istore (lv' := [(4, .int (II x162)), (0, .ref a_this), (1, .int (II a_p)), (2, .ref a_chain), (3, .int (II v61_3))]) B.1 B.2.1 dX1_run_125 hl (by decide) rfl (fun ls hl => ?_)
                  refine q_con B dX1_run_127 ?_
                  refine lv_istore (lv' := [(5, .int (II 0)), (4, .int (II x162)), (0, .ref a_this), (1, .int (II a_p)), (2, .ref a_chain), (3, .int (II v61_3))]) B.1 B.2.1 dX1_run_128 hl (by decide) rfl (fun ls hl => ?_)
                  have LL130 : ∀ NN : Nat, ∀ (v130_4 : Int) (v130_5 : Int) (L_130 : List Nat) (T_130 : Nat → Nat) (N_130 : Nat → Nat) (I_130 : Nat → Nat → Int) (R_130 : Nat → Nat → Nat) (zc130 zs130 : Nat) (H : Heap) (locs : List Loc) (ls : Array Slot), (CWd D dA eA (cF dA L T N I J R s.heap.size) s.heap L_130 T_130 N_130 I_130 J R_130 H locs) → (Fr mo_X1_run [] T N I J R T_130 N_130 I_130 J R_130) → lv_has ls 6 [(0, .ref a_this), (1, .int (II a_p)), (2, .ref a_chain), (3, .int (II v61_3)), (4, .int (II v130_4)), (5, .int (II v130_5))] → ((-2147483648 : Int) ≤ v130_4 ∧ v130_4 ≤ 2147483647) → ((-2147483648 : Int) ≤ v130_5 ∧ v130_5 ≤ 2147483647) → (0 ≤ v130_5) → (v130_5 ≤ 1000000) → (-1 ≤ v130_4) → (v130_4 < I_130 a_this 19) → (I_130 a_this 0 ≤ I_130 a_this 9) → (I g_f 2 ≤ I_130 g_f 2) → (I g_fl 2 ≤ I_130 g_fl 2) → ((zc130 : Int) ≤ (I_130 g_f 2 - I g_f 2) + 2 * (I_130 g_fl 2 - I g_fl 2)) → ((zs130 : Int) + 3 * ((N (R g_fl 1 - 1) : Nat) : Int) ≤ 24 * (I_130 g_f 2 - I g_f 2) + 11 * (I_130 g_fl 2 - I g_fl 2) + 3 * ((N_130 (R_130 g_fl 1 - 1) : Nat) : Int)) → ((I_130 a_this 0 ≤ I_130 g_fl 2 ∨ 500 ≤ I_130 g_fl 2)) → (FLq I_130 R_130 g_ru g_f) → (VVg I_130 a_this g_vp g_vf g_pl) → (FUg I_130 R_130 a_this g_fl) → (0 ≤ 1000000 - v130_5) → (1000000 - v130_5 < (NN : Int)) → W p l e ({ frames := 12, cells := (16 - I g_f 2).toNat + 2 * (500 - I g_fl 2).toNat + 4, slots := 24 * (16 - I g_f 2).toNat + 11 * (500 - I g_fl 2).toNat + 3 * (750 - N (R g_fl 1 - 1)) + 807, locals := 362 }) s m args below meth c H locs zc130 zs130 (MQ below (gQ D dA eA (cF dA L T N I J R s.heap.size) s.heap.size (hs s.heap) PST) args s ((16 - I g_f 2).toNat + 2 * (500 - I g_fl 2).toNat + 4) (24 * (16 - I g_f 2).toNat + 11 * (500 - I g_fl 2).toNat + 3 * (750 - N (R g_fl 1 - 1)) + 807) (cF dA L T N I J R s.heap.size)) (F0 m 130 ls []) := by
                    intro NN
                    induction NN with
                    | zero => intro v130_4 v130_5 L_130 T_130 N_130 I_130 R_130 zc130 zs130 H locs ls hM hF hl hLL130_0 hLL130_1 hLL130_2 hLL130_3 hLL130_4 hLL130_5 hLL130_6 hLL130_7 hLL130_8 hLL130_9 hLL130_10 hLL130_11 hLL130_12 hLL130_13 hLL130_14 hLL130_15 hN; exfalso; omega
                    | succ NN IH130 =>
                      intro v130_4 v130_5 L_130 T_130 N_130 I_130 R_130 zc130 zs130 H locs ls hM hF hl hLL130_0 hLL130_1 hLL130_2 hLL130_3 hLL130_4 hLL130_5 hLL130_6 hLL130_7 hLL130_8 hLL130_9 hLL130_10 hLL130_11 hLL130_12 hLL130_13 hLL130_14 hLL130_15 hN
                      have hfl : FLq I_130 R_130 g_ru g_f := by assumption
                      have hvv : VVg I_130 a_this g_vp g_vf g_pl := by assumption
                      have hfu : FUg I_130 R_130 a_this g_fl := by assumption
                      obtain ⟨x181, e182⟩ : ∃ v, I_130 g_f 2 = v := ⟨_, rfl⟩
                      have t183 : T_130 g_f = 16 := hF.tt p_5 (by decide) nm0
                      have r184 : (0 : Int) ≤ x181 ∧ x181 ≤ 16 := by rw [← e182]; exact g16_2 hM.2.2.2.2.2.2.1 t183
                      obtain ⟨x185, e186⟩ : ∃ v, I_130 g_fl 2 = v := ⟨_, rfl⟩
                      have t187 : T_130 g_fl = 23 := hF.tt p_7 (by decide) nm0
                      have r188 : (0 : Int) ≤ x185 ∧ x185 ≤ 500 := by rw [← e186]; exact g23_2 hM.2.2.2.2.2.2.1 t187
                      obtain ⟨x189, e190⟩ : ∃ v, I_130 a_this 9 = v := ⟨_, rfl⟩
                      have t191 : T_130 a_this = 5 := hF.tt t_this (by decide) nm0
                      have r192 : (0 : Int) ≤ x189 ∧ x189 ≤ 5000 := by rw [← e190]; exact g5_9 hM.2.2.2.2.2.2.1 t191
                      obtain ⟨x193, e194⟩ : ∃ v, I_130 a_this 0 = v := ⟨_, rfl⟩
                      have hnb := edBF hM.2.2.2.2.2.2.1 t187
                      have r195 : (0 : Int) ≤ x193 ∧ x193 ≤ 5000 := by rw [← e194]; exact g5_0 hM.2.2.2.2.2.2.1 t191
                      obtain ⟨x196, e197⟩ : ∃ v, I_130 a_this 19 = v := ⟨_, rfl⟩
                      have r198 : (0 : Int) ≤ x196 ∧ x196 ≤ 1600 := by rw [← e197]; exact g5_19 hM.2.2.2.2.2.2.1 t191
                      have e199 : I_130 g_pl 2 = x4 := (hF.i p_13 (by decide) nm0 rfl).trans e5
                      have t200 : T_130 g_pl = 22 := hF.tt p_13 (by decide) nm0
                      refine lv_iload B.1 B.2.1 dX1_run_130 (lv_at hl 5 rfl) ?_
                      refine q_ldc (z := 1000000) B (by decide) ic_X1_108 dX1_run_132 ?_
                      refine q_cge (tgt := 195) B dX1_run_134 (by decide) (by unfold inr; omega) (by unfold inr; omega) (fun c201 => ?_) (fun c201 => ?_)
                      · refine q_inc (lv' := [(3, .int (II (v61_3 + 1))), (0, .ref a_this), (1, .int (II a_p)), (2, .ref a_chain), (4, .int (II v130_4)), (5, .int (II v130_5))]) B dX1_run_195 hl (k := 3) rfl (by decide) rfl (fun ls hl => ?_)
                        refine lv_goto (tgt := 61) B.1 B.2.1 dX1_run_198 (by decide) ?_
                        obtain ⟨v202, e203⟩ : ∃ v, R_130 g_fl 1 = v := ⟨_, rfl⟩
                        have hv204 : ((-2147483648 : Int) ≤ v61_3 + 1 ∧ (v61_3 + 1 : Int) ≤ 2147483647) ∧ (0 ≤ (v61_3 + 1)) ∧ ((v61_3 + 1) ≤ 8) ∧ (I_130 a_this 0 ≤ I_130 a_this 9) ∧ (I g_f 2 ≤ I_130 g_f 2) ∧ (I g_fl 2 ≤ I_130 g_fl 2) ∧ ((zc130 : Int) ≤ (I_130 g_f 2 - I g_f 2) + 2 * (I_130 g_fl 2 - I g_fl 2)) ∧ ((zs130 : Int) + 3 * ((N (R g_fl 1 - 1) : Nat) : Int) ≤ 24 * (I_130 g_f 2 - I g_f 2) + 11 * (I_130 g_fl 2 - I g_fl 2) + 3 * ((N_130 (R_130 g_fl 1 - 1) : Nat) : Int)) ∧ ((I_130 a_this 0 ≤ I_130 g_fl 2 ∨ 500 ≤ I_130 g_fl 2)) ∧ (0 ≤ 9 - (v61_3 + 1)) := by first | omega | exact ⟨by first | omega | assumption | exact trivial, by first | omega | assumption | exact trivial, by first | omega | assumption | exact trivial, by first | omega | assumption | exact trivial, by first | omega | assumption | exact trivial, by first | omega | assumption | exact trivial, by first | omega | assumption | exact trivial, by first | omega | assumption | exact trivial, by first | omega | assumption | exact trivial, by first | omega | assumption | exact trivial⟩
                        exact IH61 (v61_3 + 1) L_130 T_130 N_130 I_130 R_130 zc130 zs130 _ _ ls hM hF (lv_sub hl [1, 2, 3, 0] rfl) hv204.1 hv204.2.1 hv204.2.2.1 hv204.2.2.2.1 hv204.2.2.2.2.1 hv204.2.2.2.2.2.1 hv204.2.2.2.2.2.2.1 hv204.2.2.2.2.2.2.2.1 hv204.2.2.2.2.2.2.2.2.1 (by exact hfl) (by exact hvv) (by exact hfu) hv204.2.2.2.2.2.2.2.2.2 (by omega)
                      · refine lv_iload B.1 B.2.1 dX1_run_137 (lv_at hl 4 rfl) ?_
                        refine q_con B dX1_run_139 ?_
                        refine q_ceq (tgt := 195) B dX1_run_140 (by decide) (by unfold inr; omega) (by unfold inr; omega) (fun c205 => ?_) (fun c205 => ?_)
                        · refine q_inc (lv' := [(3, .int (II (v61_3 + 1))), (0, .ref a_this), (1, .int (II a_p)), (2, .ref a_chain), (4, .int (II v130_4)), (5, .int (II v130_5))]) B dX1_run_195 hl (k := 3) rfl (by decide) rfl (fun ls hl => ?_)
                          refine lv_goto (tgt := 61) B.1 B.2.1 dX1_run_198 (by decide) ?_
                          obtain ⟨v206, e207⟩ : ∃ v, R_130 g_fl 1 = v := ⟨_, rfl⟩
                          have hv208 : ((-2147483648 : Int) ≤ v61_3 + 1 ∧ (v61_3 + 1 : Int) ≤ 2147483647) ∧ (0 ≤ (v61_3 + 1)) ∧ ((v61_3 + 1) ≤ 8) ∧ (I_130 a_this 0 ≤ I_130 a_this 9) ∧ (I g_f 2 ≤ I_130 g_f 2) ∧ (I g_fl 2 ≤ I_130 g_fl 2) ∧ ((zc130 : Int) ≤ (I_130 g_f 2 - I g_f 2) + 2 * (I_130 g_fl 2 - I g_fl 2)) ∧ ((zs130 : Int) + 3 * ((N (R g_fl 1 - 1) : Nat) : Int) ≤ 24 * (I_130 g_f 2 - I g_f 2) + 11 * (I_130 g_fl 2 - I g_fl 2) + 3 * ((N_130 (R_130 g_fl 1 - 1) : Nat) : Int)) ∧ ((I_130 a_this 0 ≤ I_130 g_fl 2 ∨ 500 ≤ I_130 g_fl 2)) ∧ (0 ≤ 9 - (v61_3 + 1)) := by first | omega | exact ⟨by first | omega | assumption | exact trivial, by first | omega | assumption | exact trivial, by first | omega | assumption | exact trivial, by first | omega | assumption | exact trivial, by first | omega | assumption | exact trivial, by first | omega | assumption | exact trivial, by first | omega | assumption | exact trivial, by first | omega | assumption | exact trivial, by first | omega | assumption | exact trivial, by first | omega | assumption | exact trivial⟩
                          exact IH61 (v61_3 + 1) L_130 T_130 N_130 I_130 R_130 zc130 zs130 _ _ ls hM hF (lv_sub hl [1, 2, 3, 0] rfl) hv208.1 hv208.2.1 hv208.2.2.1 hv208.2.2.2.1 hv208.2.2.2.2.1 hv208.2.2.2.2.2.1 hv208.2.2.2.2.2.2.1 hv208.2.2.2.2.2.2.2.1 hv208.2.2.2.2.2.2.2.2.1 (by exact hfl) (by exact hvv) (by exact hfu) hv208.2.2.2.2.2.2.2.2.2 (by omega)
                        · refine lv_aload_n B.1 B.2.1 dX1_run_143 rfl (lv_at hl 0 rfl) ?_
                          refine c_geti (k := 9) pk_X1 B hM t191 kd5 rfl (by decide) fl_X1_53 dX1_run_144 e190 ?_
                          refine q_sip B dX1_run_147 (by decide) ?_
                          refine q_cge (tgt := 195) B dX1_run_150 (by decide) (by unfold inr; omega) (by unfold inr; omega) (fun c209 => ?_) (fun c209 => ?_)
                          · refine q_inc (lv' := [(3, .int (II (v61_3 + 1))), (0, .ref a_this), (1, .int (II a_p)), (2, .ref a_chain), (4, .int (II v130_4)), (5, .int (II v130_5))]) B dX1_run_195 hl (k := 3) rfl (by decide) rfl (fun ls hl => ?_)
                            refine lv_goto (tgt := 61) B.1 B.2.1 dX1_run_198 (by decide) ?_
                            obtain ⟨v210, e211⟩ : ∃ v, R_130 g_fl 1 = v := ⟨_, rfl⟩
                            have hv212 : ((-2147483648 : Int) ≤ v61_3 + 1 ∧ (v61_3 + 1 : Int) ≤ 2147483647) ∧ (0 ≤ (v61_3 + 1)) ∧ ((v61_3 + 1) ≤ 8) ∧ (I_130 a_this 0 ≤ I_130 a_this 9) ∧ (I g_f 2 ≤ I_130 g_f 2) ∧ (I g_fl 2 ≤ I_130 g_fl 2) ∧ ((zc130 : Int) ≤ (I_130 g_f 2 - I g_f 2) + 2 * (I_130 g_fl 2 - I g_fl 2)) ∧ ((zs130 : Int) + 3 * ((N (R g_fl 1 - 1) : Nat) : Int) ≤ 24 * (I_130 g_f 2 - I g_f 2) + 11 * (I_130 g_fl 2 - I g_fl 2) + 3 * ((N_130 (R_130 g_fl 1 - 1) : Nat) : Int)) ∧ ((I_130 a_this 0 ≤ I_130 g_fl 2 ∨ 500 ≤ I_130 g_fl 2)) ∧ (0 ≤ 9 - (v61_3 + 1)) := by first | omega | exact ⟨by first | omega | assumption | exact trivial, by first | omega | assumption | exact trivial, by first | omega | assumption | exact trivial, by first | omega | assumption | exact trivial, by first | omega | assumption | exact trivial, by first | omega | assumption | exact trivial, by first | omega | assumption | exact trivial, by first | omega | assumption | exact trivial, by first | omega | assumption | exact trivial, by first | omega | assumption | exact trivial⟩
                            exact IH61 (v61_3 + 1) L_130 T_130 N_130 I_130 R_130 zc130 zs130 _ _ ls hM hF (lv_sub hl [1, 2, 3, 0] rfl) hv212.1 hv212.2.1 hv212.2.2.1 hv212.2.2.2.1 hv212.2.2.2.2.1 hv212.2.2.2.2.2.1 hv212.2.2.2.2.2.2.1 hv212.2.2.2.2.2.2.2.1 hv212.2.2.2.2.2.2.2.2.1 (by exact hfl) (by exact hvv) (by exact hfu) hv212.2.2.2.2.2.2.2.2.2 (by omega)
                          · refine lv_aload_n B.1 B.2.1 dX1_run_153 rfl (lv_at hl 0 rfl) ?_
                            obtain ⟨b213, e214, t215⟩ := g5_17 hC0 t_this
                            have e216 : R_130 a_this 17 = b213 + 1 := (hF.r t_this (by decide) nm0 rfl).trans e214
                            refine c_getn (k := 17) pk_X1 B hM t191 kd5 rfl (by decide) fl_X1_37 dX1_run_154 e216 ?_
                            refine lv_iload B.1 B.2.1 dX1_run_157 (lv_at hl 4 rfl) ?_
                            have t217 : T_130 b213 = 94 := hF.tt t215 (by decide) nm0
                            have n218 : 1600 ≤ N_130 b213 ∧ N_130 b213 ≤ 1600 := gn94 hM.2.2.2.2.2.2.1 t217
                            obtain ⟨x219, e220⟩ : ∃ v, I_130 b213 v130_4.toNat = v := ⟨_, rfl⟩
                            have r221 : (-1 : Int) ≤ x219 ∧ x219 ≤ 2147483647 := by rw [← e220]; exact ga94 hM.2.2.2.2.2.2.1 t217 (by omega)
                            refine c_ild B hM t217 kd94 an94 dX1_run_159 (by omega) (by omega) e220 ?_
                            refine q_con B dX1_run_160 ?_
                            refine q_cne (tgt := 181) B dX1_run_161 (by decide) (by unfold inr; omega) (by unfold inr; omega) (fun c222 => ?_) (fun c222 => ?_)
                            · refine lv_aload_n B.1 B.2.1 dX1_run_181 rfl (lv_at hl 0 rfl) ?_
                              refine lv_iload B.1 B.2.1 dX1_run_182 (lv_at hl 4 rfl) ?_
                              have e223 : I_130 g_ru 2 = x111 := (hF.i p_3 (by decide) nm0 rfl).trans e112
                              have hFt := hF
                              have hMt := hM
                              have e224 : R_130 a_this 13 = g_vp + 1 := (hF.r t_this (by decide) nm0 rfl).trans p_8
                              have e225 : R_130 a_this 14 = g_vf + 1 := (hF.r t_this (by decide) nm0 rfl).trans p_10
                              have e226 : R_130 a_this 5 = g_pl + 1 := (hF.r t_this (by decide) nm0 rfl).trans p_12
                              have t227 : T_130 g_vp = 90 := hF.tt p_9 (by decide) nm0
                              have t228 : T_130 g_vf = 91 := hF.tt p_11 (by decide) nm0
                              have hv229 : ((-2147483648 : Int) ≤ v130_4 ∧ (v130_4 : Int) ≤ 2147483647) ∧ (0 ≤ v130_4) ∧ (v130_4 < I_130 a_this 19) ∧ (0 ≤ I_130 b213 v130_4.toNat) := by first | omega | exact ⟨by first | omega | assumption | exact trivial, by first | omega | assumption | exact trivial, by first | omega | assumption | exact trivial, by first | omega | assumption | exact trivial⟩
                              refine z_calli hM hA (c_runV (n := 1) (as := [.int (II v130_4)]) (rest := []) B hX hA hM hl.1 t191 kd5 rfl (k_X1_goOn l D dA eA L_130 T_130 N_130 I_130 J R_130 a_this t191 v130_4 hv229.1 g_vp g_vf g_pl b213 (show R_130 a_this 13 = g_vp + 1 from e224) (show T_130 g_vp = 90 from t227) (show R_130 a_this 14 = g_vf + 1 from e225) (show T_130 g_vf = 91 from t228) (show R_130 a_this 5 = g_pl + 1 from e226) (show T_130 g_pl = 22 from t200) (show VVg I_130 a_this g_vp g_vf g_pl from by exact hvv) hv229.2.1 hv229.2.2.1 (show R_130 a_this 17 = b213 + 1 from e216) (show T_130 b213 = 94 from t217) hv229.2.2.2 _ _) ml_X1_113 nm_X1_goOn ⟨rfl, rfl⟩ ⟨Nat.le_of_ble_eq_true rfl, Nat.le_of_ble_eq_true rfl⟩ dX1_run_184 rfl rfl (Nat.le_of_ble_eq_true rfl) ⟨by show zc130 + 0 ≤ ((16 - I g_f 2).toNat + 2 * (500 - I g_fl 2).toNat + 4); omega, by show zs130 + 0 ≤ (24 * (16 - I g_f 2).toNat + 11 * (500 - I g_fl 2).toNat + 3 * (750 - N (R g_fl 1 - 1)) + 807); omega⟩) (fun x231 ix231 L232 T233 N234 I235 J236 R237 dz238 dl239 H locs hp230 hMn => ?_)
                              obtain ⟨yL232, yT233, yN234, yJ236, yR237, hFc240, hp230a⟩ := hp230
                              obtain rfl := yL232.symm; obtain rfl := yT233.symm; obtain rfl := yN234.symm; obtain rfl := yJ236.symm; obtain rfl := yR237.symm
                              replace hF : Fr mo_X1_run [] T N I J R T_130 N_130 I235 J R_130 := hF.trans hFc240 (by decide) e20
                              have hM := hMn
                              clear hMn
                              replace hp230a : VVg I235 a_this g_vp g_vf g_pl ∧ -1 ≤ x231 ∧ x231 < I235 a_this 19 ∧ I_130 a_this 19 ≤ I235 a_this 19 := hp230a
                              obtain ⟨hp230a_0, hp230a_1, hp230a_2, hp230a_3⟩ := hp230a
                              have t241 : T_130 g_ru = 15 := hF.tt p_3 (by decide) nm0
                              replace hfl : FLq I235 R_130 g_ru g_f := FLq.fr hfl hMt.2.2.2.2.2.2.1 hMt.2.2.2.2.2.2.2 t241 t183 hFc240 (fun _ _ => nm0) (by decide)
                              replace hvv : VVg I235 a_this g_vp g_vf g_pl := by assumption
                              replace hfu : FUg I235 R_130 a_this g_fl := FUg.fr hfu hMt.2.2.2.2.2.2.1 hMt.2.2.2.2.2.2.2 t191 t187 hFc240 (fun _ _ => nm0) (by decide)
                              obtain ⟨x242, e243⟩ : ∃ v, I235 a_this 19 = v := ⟨_, rfl⟩
                              have e244 : I235 g_pl 2 = x4 := (hF.i p_13 (by decide) nm0 rfl).trans e5
                              have e245 : I235 a_this 0 = x193 := (hFc240.i t191 (by decide) nm0 rfl).trans e194
                              have e246 : I235 a_this 9 = x189 := (hFc240.i t191 (by decide) nm0 rfl).trans e190
                              have e247 : I235 g_fl 2 = x185 := (hFc240.i t187 (by decide) nm0 rfl).trans e186
                              have e248 : I235 g_f 2 = x181 := (hFc240.i t183 (by decide) nm0 rfl).trans e182
                              have e249 : I235 g_ru 2 = x111 := (hF.i p_3 (by decide) nm0 rfl).trans e112
                              have r250 : (0 : Int) ≤ x242 ∧ x242 ≤ 1600 := by rw [← e243]; exact g5_19 hM.2.2.2.2.2.2.1 t191
                              clear hFt hMt
                              refine lv_istore (lv' := [(4, .int (II x231)), (0, .ref a_this), (1, .int (II a_p)), (2, .ref a_chain), (3, .int (II v61_3)), (5, .int (II v130_5))]) B.1 B.2.1 dX1_run_187 hl (by decide) rfl (fun ls hl => ?_)
                              refine q_inc (lv' := [(5, .int (II (v130_5 + 1))), (4, .int (II x231)), (0, .ref a_this), (1, .int (II a_p)), (2, .ref a_chain), (3, .int (II v61_3))]) B dX1_run_189 hl (k := 5) rfl (by decide) rfl (fun ls hl => ?_)
                              refine lv_goto (tgt := 130) B.1 B.2.1 dX1_run_192 (by decide) ?_
                              obtain ⟨v251, e252⟩ : ∃ v, R_130 g_fl 1 = v := ⟨_, rfl⟩
                              have hv253 : ((-2147483648 : Int) ≤ x231 ∧ (x231 : Int) ≤ 2147483647) ∧ ((-2147483648 : Int) ≤ v130_5 + 1 ∧ (v130_5 + 1 : Int) ≤ 2147483647) ∧ (0 ≤ (v130_5 + 1)) ∧ ((v130_5 + 1) ≤ 1000000) ∧ (-1 ≤ x231) ∧ (x231 < I235 a_this 19) ∧ (I235 a_this 0 ≤ I235 a_this 9) ∧ (I g_f 2 ≤ I235 g_f 2) ∧ (I g_fl 2 ≤ I235 g_fl 2) ∧ ((zc130 : Int) ≤ (I235 g_f 2 - I g_f 2) + 2 * (I235 g_fl 2 - I g_fl 2)) ∧ ((zs130 : Int) + 3 * ((N (R g_fl 1 - 1) : Nat) : Int) ≤ 24 * (I235 g_f 2 - I g_f 2) + 11 * (I235 g_fl 2 - I g_fl 2) + 3 * ((N_130 (R_130 g_fl 1 - 1) : Nat) : Int)) ∧ ((I235 a_this 0 ≤ I235 g_fl 2 ∨ 500 ≤ I235 g_fl 2)) ∧ (0 ≤ 1000000 - (v130_5 + 1)) := by first | omega | exact ⟨by first | omega | assumption | exact trivial, by first | omega | assumption | exact trivial, by first | omega | assumption | exact trivial, by first | omega | assumption | exact trivial, by first | omega | assumption | exact trivial, by first | omega | assumption | exact trivial, by first | omega | assumption | exact trivial, by first | omega | assumption | exact trivial, by first | omega | assumption | exact trivial, by first | omega | assumption | exact trivial, by first | omega | assumption | exact trivial, by first | omega | assumption | exact trivial, by first | omega | assumption | exact trivial⟩
                              exact IH130 x231 (v130_5 + 1) L_130 T_130 N_130 I235 R_130 zc130 zs130 _ _ ls hM hF (lv_sub hl [2, 3, 4, 5, 1, 0] rfl) hv253.1 hv253.2.1 hv253.2.2.1 hv253.2.2.2.1 hv253.2.2.2.2.1 hv253.2.2.2.2.2.1 hv253.2.2.2.2.2.2.1 hv253.2.2.2.2.2.2.2.1 hv253.2.2.2.2.2.2.2.2.1 hv253.2.2.2.2.2.2.2.2.2.1 hv253.2.2.2.2.2.2.2.2.2.2.1 hv253.2.2.2.2.2.2.2.2.2.2.2.1 (by exact hfl) (by exact hvv) (by exact hfu) hv253.2.2.2.2.2.2.2.2.2.2.2.2 (by omega)
                            · refine lv_aload_n B.1 B.2.1 dX1_run_164 rfl (lv_at hl 0 rfl) ?_
                              refine c_getn (k := 17) pk_X1 B hM t191 kd5 rfl (by decide) fl_X1_37 dX1_run_165 e216 ?_
                              refine lv_iload B.1 B.2.1 dX1_run_168 (lv_at hl 4 rfl) ?_
                              refine q_con B dX1_run_170 ?_
                              have hMp := hM
                              refine c_ist B hM t217 kd94 aq94 dX1_run_171 (by omega) (by omega) (show (-1 : Int) ≤ 0 from by omega) (show 0 ≤ (2147483647 : Int) from by omega) (fun I255 H locs hu254 hM => ?_)
                              have e256 : I_130 g_ru 2 = x111 := (hF.i p_3 (by decide) nm0 rfl).trans e112
                              have hFt := hF
                              have e257 : I255 b213 v130_4.toNat = 0 := w2_at hu254
                              replace hF : Fr mo_X1_run [] T N I J R T_130 N_130 I255 J R_130 := hF.wi hu254 (fun _ _ => by rw [t215, cd_arr (j := 0) (by decide)]; rfl)
                              have t258 : T_130 g_ru = 15 := hF.tt p_3 (by decide) nm0
                              replace hfl : FLq I255 R_130 g_ru g_f := FLq.wt hfl hMp.2.2.2.2.2.2.1 hMp.2.2.2.2.2.2.2 t258 t183 t217 (by decide) (by decide) (by decide) hu254
                              have t259 : T_130 g_vp = 90 := hF.tt p_9 (by decide) nm0
                              have t260 : T_130 g_vf = 91 := hF.tt p_11 (by decide) nm0
                              replace hvv : VVg I255 a_this g_vp g_vf g_pl := VVg.w hvv hu254 (Or.inl (tne t191 t217 (by decide))) (tne t259 t217 (by decide)) (tne t260 t217 (by decide)) (Or.inl (tne t200 t217 (by decide)))
                              replace hfu : FUg I255 R_130 a_this g_fl := FUg.wi hfu hu254 (Or.inl (tne t191 t217 (by decide))) (Or.inl (tne t187 t217 (by decide)))
                              clear hFt hMp
                              refine lv_aload_n B.1 B.2.1 dX1_run_172 rfl (lv_at hl 0 rfl) ?_
                              refine lv_iload B.1 B.2.1 dX1_run_173 (lv_at hl 4 rfl) ?_
                              have e261 : I255 a_this 19 = x196 := (w2_ne hu254 (Or.inl (tne t191 t217 (by decide)))).trans e197
                              have e262 : I255 g_pl 2 = x4 := (hF.i p_13 (by decide) nm0 rfl).trans e5
                              have e263 : I255 a_this 0 = x193 := (w2_ne hu254 (Or.inl (tne t191 t217 (by decide)))).trans e194
                              have e264 : I255 a_this 9 = x189 := (w2_ne hu254 (Or.inl (tne t191 t217 (by decide)))).trans e190
                              have e265 : I255 g_fl 2 = x185 := (w2_ne hu254 (Or.inl (tne t187 t217 (by decide)))).trans e186
                              have e266 : I255 g_f 2 = x181 := (w2_ne hu254 (Or.inl (tne t183 t217 (by decide)))).trans e182
                              have e267 : I255 g_ru 2 = x111 := (hF.i p_3 (by decide) nm0 rfl).trans e112
                              have hFt := hF
                              have hMt := hM
                              have e268 : R_130 a_this 4 = g_b + 1 := (hF.r t_this (by decide) nm0 rfl).trans p_0
                              have e269 : R_130 g_b 0 = g_ru + 1 := (hF.r p_1 (by decide) nm0 rfl).trans p_2
                              have e270 : R_130 g_b 1 = g_f + 1 := (hF.r p_1 (by decide) nm0 rfl).trans p_4
                              have e271 : R_130 a_this 6 = g_fl + 1 := (hF.r t_this (by decide) nm0 rfl).trans p_6
                              have e272 : R_130 a_this 13 = g_vp + 1 := (hF.r t_this (by decide) nm0 rfl).trans p_8
                              have e273 : R_130 a_this 14 = g_vf + 1 := (hF.r t_this (by decide) nm0 rfl).trans p_10
                              have e274 : R_130 a_this 5 = g_pl + 1 := (hF.r t_this (by decide) nm0 rfl).trans p_12
                              have t275 : T_130 g_b = 6 := hF.tt p_1 (by decide) nm0
                              have hv276 : ((-2147483648 : Int) ≤ v130_4 ∧ (v130_4 : Int) ≤ 2147483647) ∧ ((I255 a_this 0 ≤ I255 g_fl 2 ∨ 500 ≤ I255 g_fl 2)) ∧ (0 ≤ v130_4) ∧ (v130_4 < I255 a_this 19) ∧ (I255 a_this 0 ≤ I255 a_this 9) := by first | omega | exact ⟨by first | omega | assumption | exact trivial, by first | omega | assumption | exact trivial, by first | omega | assumption | exact trivial, by first | omega | assumption | exact trivial, by first | omega | assumption | exact trivial⟩
                              refine g_callv hM hA (c_runV (n := 1) (as := [.int (II v130_4)]) (rest := []) B hX hA hM hl.1 t191 kd5 rfl (k_X1_askPaper l D dA eA L_130 T_130 N_130 I255 J R_130 a_this t191 v130_4 hv276.1 g_b g_ru g_f g_fl g_vp g_vf g_pl (show R_130 a_this 4 = g_b + 1 from e268) (show T_130 g_b = 6 from t275) (show R_130 g_b 0 = g_ru + 1 from e269) (show T_130 g_ru = 15 from t258) (show R_130 g_b 1 = g_f + 1 from e270) (show T_130 g_f = 16 from t183) (show R_130 a_this 6 = g_fl + 1 from e271) (show T_130 g_fl = 23 from t187) (show R_130 a_this 13 = g_vp + 1 from e272) (show T_130 g_vp = 90 from t259) (show R_130 a_this 14 = g_vf + 1 from e273) (show T_130 g_vf = 91 from t260) (show R_130 a_this 5 = g_pl + 1 from e274) (show T_130 g_pl = 22 from t200) (show FLq I255 R_130 g_ru g_f from by exact hfl) (show VVg I255 a_this g_vp g_vf g_pl from by exact hvv) (show FUg I255 R_130 a_this g_fl from by exact hfu) hv276.2.1 hv276.2.2.1 hv276.2.2.2.1 hv276.2.2.2.2 _ _) ml_X1_109 nm_X1_askPaper ⟨rfl, rfl⟩ ⟨Nat.le_of_ble_eq_true rfl, Nat.le_of_ble_eq_true rfl⟩ dX1_run_175 rfl rfl (Nat.le_of_ble_eq_true rfl) ⟨by show zc130 + ((16 - I255 g_f 2).toNat + 2 * (500 - I255 g_fl 2).toNat + 4) ≤ ((16 - I g_f 2).toNat + 2 * (500 - I g_fl 2).toNat + 4); omega, by show zs130 + (24 * (16 - I255 g_f 2).toNat + 11 * (500 - I255 g_fl 2).toNat + 3 * (750 - N_130 (R_130 g_fl 1 - 1)) + 807) ≤ (24 * (16 - I g_f 2).toNat + 11 * (500 - I g_fl 2).toNat + 3 * (750 - N (R g_fl 1 - 1)) + 807); omega⟩) (fun L279 T280 N281 I282 J283 R284 dz285 dl286 H locs hp277 hMn => ?_)
                              obtain ⟨yJ283, hFc287, hp277a⟩ := hp277
                              obtain rfl := yJ283.symm
                              have t288 : T_130 a_chain = 69 := hF.tt t_chain (by decide) nm0
                              replace hF : Fr mo_X1_run [] T N I J R T280 N281 I282 J R284 := hF.trans hFc287 (by decide) e20
                              have hM := hMn
                              clear hMn
                              replace hp277a : FLq I282 R284 g_ru g_f ∧ FUg I282 R284 a_this g_fl ∧ (I282 a_this 0 ≤ I282 g_fl 2 ∨ 500 ≤ I282 g_fl 2) ∧ I282 a_this 0 ≤ I282 a_this 9 ∧ I255 g_f 2 ≤ I282 g_f 2 ∧ I255 g_fl 2 ≤ I282 g_fl 2 ∧ (dz285 : Int) ≤ (I282 g_f 2 - I255 g_f 2) + 2 * (I282 g_fl 2 - I255 g_fl 2) ∧ (dl286 : Int) + 3 * ((N_130 (R_130 g_fl 1 - 1) : Nat) : Int) ≤ 24 * (I282 g_f 2 - I255 g_f 2) + 11 * (I282 g_fl 2 - I255 g_fl 2) + 3 * ((N281 (R284 g_fl 1 - 1) : Nat) : Int) := hp277a
                              obtain ⟨hp277a_0, hp277a_1, hp277a_2, hp277a_3, hp277a_4, hp277a_5, hp277a_6, hp277a_7⟩ := hp277a
                              replace hfl : FLq I282 R284 g_ru g_f := by assumption
                              replace hvv : VVg I282 a_this g_vp g_vf g_pl := VVg.fr hvv t191 t259 t260 t200 hFc287 (fun _ _ => nm0) (by decide)
                              replace hfu : FUg I282 R284 a_this g_fl := by assumption
                              have e289 : I282 a_this 19 = x196 := (hFc287.i t191 (by decide) nm0 rfl).trans e261
                              have e290 : I282 g_pl 2 = x4 := (hF.i p_13 (by decide) nm0 rfl).trans e5
                              obtain ⟨x291, e292⟩ : ∃ v, I282 a_this 0 = v := ⟨_, rfl⟩
                              obtain ⟨x293, e294⟩ : ∃ v, I282 a_this 9 = v := ⟨_, rfl⟩
                              obtain ⟨x295, e296⟩ : ∃ v, I282 g_fl 2 = v := ⟨_, rfl⟩
                              obtain ⟨x297, e298⟩ : ∃ v, I282 g_f 2 = v := ⟨_, rfl⟩
                              have e299 : I282 g_ru 2 = x111 := (hF.i p_3 (by decide) nm0 rfl).trans e112
                              have t300 : T280 g_f = 16 := hF.tt p_5 (by decide) nm0
                              have r301 : (0 : Int) ≤ x297 ∧ x297 ≤ 16 := by rw [← e298]; exact g16_2 hM.2.2.2.2.2.2.1 t300
                              have t302 : T280 g_fl = 23 := hF.tt p_7 (by decide) nm0
                              have r303 : (0 : Int) ≤ x295 ∧ x295 ≤ 500 := by rw [← e296]; exact g23_2 hM.2.2.2.2.2.2.1 t302
                              have t304 : T280 a_this = 5 := hF.tt t_this (by decide) nm0
                              have r305 : (0 : Int) ≤ x293 ∧ x293 ≤ 5000 := by rw [← e294]; exact g5_9 hM.2.2.2.2.2.2.1 t304
                              have t306 : T280 g_pl = 22 := hF.tt p_13 (by decide) nm0
                              clear hFt hMt
                              refine lv_goto (tgt := 189) B.1 B.2.1 dX1_run_178 (by decide) ?_
                              refine q_inc (lv' := [(5, .int (II (v130_5 + 1))), (0, .ref a_this), (1, .int (II a_p)), (2, .ref a_chain), (3, .int (II v61_3)), (4, .int (II v130_4))]) B dX1_run_189 hl (k := 5) rfl (by decide) rfl (fun ls hl => ?_)
                              refine lv_goto (tgt := 130) B.1 B.2.1 dX1_run_192 (by decide) ?_
                              obtain ⟨v307, e308⟩ : ∃ v, R284 g_fl 1 = v := ⟨_, rfl⟩
                              have hv309 : ((-2147483648 : Int) ≤ v130_4 ∧ (v130_4 : Int) ≤ 2147483647) ∧ ((-2147483648 : Int) ≤ v130_5 + 1 ∧ (v130_5 + 1 : Int) ≤ 2147483647) ∧ (0 ≤ (v130_5 + 1)) ∧ ((v130_5 + 1) ≤ 1000000) ∧ (-1 ≤ v130_4) ∧ (v130_4 < I282 a_this 19) ∧ (I282 a_this 0 ≤ I282 a_this 9) ∧ (I g_f 2 ≤ I282 g_f 2) ∧ (I g_fl 2 ≤ I282 g_fl 2) ∧ ((zc130 + dz285 : Int) ≤ (I282 g_f 2 - I g_f 2) + 2 * (I282 g_fl 2 - I g_fl 2)) ∧ ((zs130 + dl286 : Int) + 3 * ((N (R g_fl 1 - 1) : Nat) : Int) ≤ 24 * (I282 g_f 2 - I g_f 2) + 11 * (I282 g_fl 2 - I g_fl 2) + 3 * ((N281 (R284 g_fl 1 - 1) : Nat) : Int)) ∧ ((I282 a_this 0 ≤ I282 g_fl 2 ∨ 500 ≤ I282 g_fl 2)) ∧ (0 ≤ 1000000 - (v130_5 + 1)) := by first | omega | exact ⟨by first | omega | assumption | exact trivial, by first | omega | assumption | exact trivial, by first | omega | assumption | exact trivial, by first | omega | assumption | exact trivial, by first | omega | assumption | exact trivial, by first | omega | assumption | exact trivial, by first | omega | assumption | exact trivial, by first | omega | assumption | exact trivial, by first | omega | assumption | exact trivial, by first | omega | assumption | exact trivial, by first | omega | assumption | exact trivial, by first | omega | assumption | exact trivial, by first | omega | assumption | exact trivial⟩
                              exact IH130 v130_4 (v130_5 + 1) L279 T280 N281 I282 R284 (zc130 + dz285) (zs130 + dl286) _ _ ls hM hF (lv_sub hl [1, 2, 3, 4, 5, 0] rfl) hv309.1 hv309.2.1 hv309.2.2.1 hv309.2.2.2.1 hv309.2.2.2.2.1 hv309.2.2.2.2.2.1 hv309.2.2.2.2.2.2.1 hv309.2.2.2.2.2.2.2.1 hv309.2.2.2.2.2.2.2.2.1 hv309.2.2.2.2.2.2.2.2.2.1 hv309.2.2.2.2.2.2.2.2.2.2.1 hv309.2.2.2.2.2.2.2.2.2.2.2.1 (by exact hfl) (by exact hvv) (by exact hfu) hv309.2.2.2.2.2.2.2.2.2.2.2.2 (by omega)
                  obtain ⟨v310, e311⟩ : ∃ v, R_61 g_fl 1 = v := ⟨_, rfl⟩
                  have hv312 : ((-2147483648 : Int) ≤ x162 ∧ (x162 : Int) ≤ 2147483647) ∧ ((-2147483648 : Int) ≤ 0 ∧ (0 : Int) ≤ 2147483647) ∧ (0 ≤ (0 : Int)) ∧ ((0 : Int) ≤ 1000000) ∧ (-1 ≤ x162) ∧ (x162 < I166 a_this 19) ∧ (I166 a_this 0 ≤ I166 a_this 9) ∧ (I g_f 2 ≤ I166 g_f 2) ∧ (I g_fl 2 ≤ I166 g_fl 2) ∧ ((zc61 : Int) ≤ (I166 g_f 2 - I g_f 2) + 2 * (I166 g_fl 2 - I g_fl 2)) ∧ ((zs61 : Int) + 3 * ((N (R g_fl 1 - 1) : Nat) : Int) ≤ 24 * (I166 g_f 2 - I g_f 2) + 11 * (I166 g_fl 2 - I g_fl 2) + 3 * ((N_61 (R_61 g_fl 1 - 1) : Nat) : Int)) ∧ ((I166 a_this 0 ≤ I166 g_fl 2 ∨ 500 ≤ I166 g_fl 2)) ∧ (0 ≤ 1000000 - (0 : Int)) := by first | omega | exact ⟨by first | omega | assumption | exact trivial, by first | omega | assumption | exact trivial, by first | omega | assumption | exact trivial, by first | omega | assumption | exact trivial, by first | omega | assumption | exact trivial, by first | omega | assumption | exact trivial, by first | omega | assumption | exact trivial, by first | omega | assumption | exact trivial, by first | omega | assumption | exact trivial, by first | omega | assumption | exact trivial, by first | omega | assumption | exact trivial, by first | omega | assumption | exact trivial, by first | omega | assumption | exact trivial⟩
                  exact LL130 (Int.toNat (1000000 - (0 : Int) + 1)) x162 0 L_61 T_61 N_61 I166 R_61 zc61 zs61 _ _ ls hM hF (lv_sub hl [2, 3, 4, 5, 1, 0] rfl) hv312.1 hv312.2.1 hv312.2.2.1 hv312.2.2.2.1 hv312.2.2.2.2.1 hv312.2.2.2.2.2.1 hv312.2.2.2.2.2.2.1 hv312.2.2.2.2.2.2.2.1 hv312.2.2.2.2.2.2.2.2.1 hv312.2.2.2.2.2.2.2.2.2.1 hv312.2.2.2.2.2.2.2.2.2.2.1 hv312.2.2.2.2.2.2.2.2.2.2.2.1 (by exact hfl) (by exact hvv) (by exact hfu) hv312.2.2.2.2.2.2.2.2.2.2.2.2 (by omega)
        have hv313 : ((-2147483648 : Int) ≤ 0 ∧ (0 : Int) ≤ 2147483647) ∧ (0 ≤ (0 : Int)) ∧ ((0 : Int) ≤ 8) ∧ (I_21 a_this 0 ≤ I_21 a_this 9) ∧ (I g_f 2 ≤ I_21 g_f 2) ∧ (I g_fl 2 ≤ I_21 g_fl 2) ∧ (0 ≤ (I_21 g_f 2 - I g_f 2) + 2 * (I_21 g_fl 2 - I g_fl 2)) ∧ (0 + 3 * ((N (R g_fl 1 - 1) : Nat) : Int) ≤ 24 * (I_21 g_f 2 - I g_f 2) + 11 * (I_21 g_fl 2 - I g_fl 2) + 3 * ((N (R g_fl 1 - 1) : Nat) : Int)) ∧ ((I_21 a_this 0 ≤ I_21 g_fl 2 ∨ 500 ≤ I_21 g_fl 2)) ∧ (0 ≤ 9 - (0 : Int)) := by first | omega | exact ⟨by first | omega | assumption | exact trivial, by first | omega | assumption | exact trivial, by first | omega | assumption | exact trivial, by first | omega | assumption | exact trivial, by first | omega | assumption | exact trivial, by first | omega | assumption | exact trivial, by first | omega | assumption | exact trivial, by first | omega | assumption | exact trivial, by first | omega | assumption | exact trivial, by first | omega | assumption | exact trivial⟩
        exact LL61 (Int.toNat (9 - (0 : Int) + 1)) 0 L T N I_21 R 0 0 _ _ ls hM hF (lv_sub hl [1, 2, 3, 0] rfl) hv313.1 hv313.2.1 hv313.2.2.1 hv313.2.2.2.1 hv313.2.2.2.2.1 hv313.2.2.2.2.2.1 hv313.2.2.2.2.2.2.1 hv313.2.2.2.2.2.2.2.1 hv313.2.2.2.2.2.2.2.2.1 (by exact hfl) (by exact hvv) (by exact hfu) hv313.2.2.2.2.2.2.2.2.2 (by omega)
      · refine lv_aload_n B.1 B.2.1 dX1_run_35 rfl (lv_at hl 0 rfl) ?_
        refine c_getn (k := 4) pk_X1 B hM t_this kd5 rfl (by decide) fl_X1_66 dX1_run_36 p_0 ?_
        refine c_getn (k := 0) pk_X0 B hM p_1 kd6 rfl (by decide) fl_X1_76 dX1_run_39 p_2 ?_
        refine lv_iload_n B.1 B.2.1 dX1_run_42 rfl (lv_at hl 3 rfl) ?_
        have hFt := hF
        have hMt := hM
        have hv314 : ((-2147483648 : Int) ≤ v21_3 ∧ (v21_3 : Int) ≤ 2147483647) ∧ (15 ≤ 15) ∧ (15 ≤ 23) ∧ (0 ≤ v21_3) ∧ (v21_3 < I_21 g_ru 2) := by first | omega | exact ⟨by first | omega | assumption | exact trivial, by first | omega | assumption | exact trivial, by first | omega | assumption | exact trivial, by first | omega | assumption | exact trivial, by first | omega | assumption | exact trivial⟩
        refine p_callr (c_runV (n := 1) (as := [.int (II v21_3)]) (rest := []) B hX hA hM hl.1 p_3 kd15 rfl (k_Jx4a65c_get_915e3 l D dA eA L T N I_21 J R g_ru p_3 v21_3 hv314.1 hv314.2.1 hv314.2.2.1 hv314.2.2.2.1 hv314.2.2.2.2 _ _) ml_X1_85 nm_Jx4a65c_get_915e3 ⟨rfl, rfl⟩ ⟨Nat.le_of_ble_eq_true rfl, Nat.le_of_ble_eq_true rfl⟩ dX1_run_43 rfl rfl (Nat.le_of_ble_eq_true rfl) ⟨by show 0 + 0 ≤ ((16 - I g_f 2).toNat + 2 * (500 - I g_fl 2).toNat + 4); omega, by show 0 + 0 ≤ (24 * (16 - I g_f 2).toNat + 11 * (500 - I g_fl 2).toNat + 3 * (750 - N (R g_fl 1 - 1)) + 807); omega⟩) (fun b316 hp315 => ?_)
        obtain ⟨tb316, hp315a⟩ := hp315
        replace hp315a : R (R g_ru 1 - 1) v21_3.toNat = b316 + 1 := hp315a
        clear hFt hMt
        refine c_cast B hM tb316 kd8 rfl cl_X1_89 dX1_run_46 ?_
        refine q_con B dX1_run_49 ?_
        have hMp := hM
        refine c_puti (k := 8) pk_X7 B hM tb316 kd8 rfl (by decide) fl_X1_91 (Or.inl rfl) dX1_run_50 rfl rfl rfl (show (-2147483648 : Int) ≤ 0 from by omega) (show 0 ≤ (2147483647 : Int) from by omega) (fun I317 H locs hu318 hM => ?_)
        have hFt := hF
        have e319 : I317 b316 8 = 0 := w2_at hu318
        replace hF : Fr mo_X1_run [] T N I J R T N I317 J R := hF.wi hu318 (fun _ _ => by rw [tb316]; rfl)
        replace hfl : FLq I317 R g_ru g_f := FLq.wo hfl hu318 (by decide) (by decide)
        replace hvv : VVg I317 a_this g_vp g_vf g_pl := VVg.w hvv hu318 (Or.inl (tne t_this tb316 (by decide))) (tne p_9 tb316 (by decide)) (tne p_11 tb316 (by decide)) (Or.inl (tne p_13 tb316 (by decide)))
        replace hfu : FUg I317 R a_this g_fl := FUg.wi hfu hu318 (Or.inl (tne t_this tb316 (by decide))) (Or.inl (tne p_7 tb316 (by decide)))
        clear hFt hMp
        refine q_inc (lv' := [(3, .int (II (v21_3 + 1))), (0, .ref a_this), (1, .int (II a_p)), (2, .ref a_chain)]) B dX1_run_53 hl (k := 3) rfl (by decide) rfl (fun ls hl => ?_)
        refine lv_goto (tgt := 21) B.1 B.2.1 dX1_run_56 (by decide) ?_
        have e320 : I317 a_this 0 = 0 := (w2_ne hu318 (Or.inl (tne t_this tb316 (by decide)))).trans hLL21_3
        have e321 : I317 a_this 9 = 0 := (w2_ne hu318 (Or.inl (tne t_this tb316 (by decide)))).trans hLL21_4
        have e322 : I317 a_this 19 = 0 := (w2_ne hu318 (Or.inl (tne t_this tb316 (by decide)))).trans hLL21_5
        have e323 : I317 g_f 2 = I g_f 2 := (w2_ne hu318 (Or.inl (tne p_5 tb316 (by decide)))).trans hLL21_6
        have e324 : I317 g_fl 2 = I g_fl 2 := (w2_ne hu318 (Or.inl (tne p_7 tb316 (by decide)))).trans hLL21_7
        have hv325 : ((-2147483648 : Int) ≤ v21_3 + 1 ∧ (v21_3 + 1 : Int) ≤ 2147483647) ∧ (0 ≤ (v21_3 + 1)) ∧ ((v21_3 + 1) ≤ 16) ∧ (I317 a_this 0 = 0) ∧ (I317 a_this 9 = 0) ∧ (I317 a_this 19 = 0) ∧ (I317 g_f 2 = I g_f 2) ∧ (I317 g_fl 2 = I g_fl 2) ∧ (0 ≤ 17 - (v21_3 + 1)) := by first | omega | exact ⟨by first | omega | assumption | exact trivial, by first | omega | assumption | exact trivial, by first | omega | assumption | exact trivial, by first | omega | assumption | exact trivial, by first | omega | assumption | exact trivial, by first | omega | assumption | exact trivial, by first | omega | assumption | exact trivial, by first | omega | assumption | exact trivial, by first | omega | assumption | exact trivial⟩
        exact IH21 (v21_3 + 1) I317 _ _ ls hM hF (lv_sub hl [1, 2, 3, 0] rfl) hv325.1 hv325.2.1 hv325.2.2.1 hv325.2.2.2.1 hv325.2.2.2.2.1 hv325.2.2.2.2.2.1 hv325.2.2.2.2.2.2.1 hv325.2.2.2.2.2.2.2.1 (by exact hfl) (by exact hvv) (by exact hfu) hv325.2.2.2.2.2.2.2.2 (by omega)
  have e326 : I45 a_this 0 = 0 := (w2_ne hu46 (Or.inr (by decide))).trans e49
  have e327 : I45 a_this 9 = 0 := (w2_ne hu46 (Or.inr (by decide))).trans e50
  have e328 : I45 a_this 19 = 0 := (w2_ne hu46 (Or.inr (by decide))).trans e47
  have e329 : I45 g_f 2 = x15 := (w2_ne hu46 (Or.inl (tne p_5 t_this (by decide)))).trans e52
  have e330 : I45 g_fl 2 = x9 := (w2_ne hu46 (Or.inl (tne p_7 t_this (by decide)))).trans e51
  have hv331 : ((-2147483648 : Int) ≤ 0 ∧ (0 : Int) ≤ 2147483647) ∧ (0 ≤ (0 : Int)) ∧ ((0 : Int) ≤ 16) ∧ (I45 a_this 0 = 0) ∧ (I45 a_this 9 = 0) ∧ (I45 a_this 19 = 0) ∧ (I45 g_f 2 = I g_f 2) ∧ (I45 g_fl 2 = I g_fl 2) ∧ (0 ≤ 17 - (0 : Int)) := by first | omega | exact ⟨by first | omega | assumption | exact trivial, by first | omega | assumption | exact trivial, by first | omega | assumption | exact trivial, by first | omega | assumption | exact trivial, by first | omega | assumption | exact trivial, by first | omega | assumption | exact trivial, by first | omega | assumption | exact trivial, by first | omega | assumption | exact trivial, by first | omega | assumption | exact trivial⟩
  exact LL21 (Int.toNat (17 - (0 : Int) + 1)) 0 I45 _ _ ls hM hF (lv_sub hl [1, 2, 3, 0] rfl) hv331.1 hv331.2.1 hv331.2.2.1 hv331.2.2.2.1 hv331.2.2.2.2.1 hv331.2.2.2.2.2.1 hv331.2.2.2.2.2.2.1 hv331.2.2.2.2.2.2.2.1 (by exact hfl) (by exact hvv) (by exact hfu) hv331.2.2.2.2.2.2.2.2 (by omega)
