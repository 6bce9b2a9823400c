def mo_X1_tell : List Nat := [167, 160, 736, 737, 738, 1856, 416, 417, 418, 419, 420, 421, 422, 423, 424, 2816]
set_option maxHeartbeats 1000000 in
set_option maxRecDepth 20000 in
theorem k_X1_tell (l : Launch) (D : va_G) (dA : Nat → ClassId) (eA : Nat) (L : List Nat) (T N : Nat → Nat) (I : Nat → Nat → Int) (J : Nat → Nat → Int64) (R : Nat → Nat → Nat) (a_this : Nat) (t_this : T a_this = 5) (a_use : Nat) (t_use : T a_use = 9) (a_at : Int) (i_at : (-2147483648 : Int) ≤ a_at ∧ a_at ≤ 2147483647) (a_m : Int) (i_m : (-2147483648 : Int) ≤ a_m ∧ a_m ≤ 2147483647) (a_c : Int) (i_c : (-2147483648 : Int) ≤ a_c ∧ a_c ≤ 2147483647) (g_fl : Nat) (g_vp : Nat) (g_vf : Nat) (g_pl : Nat) (p_0 : R a_this 6 = g_fl + 1) (p_1 : T g_fl = 23) (p_2 : R a_this 13 = g_vp + 1) (p_3 : T g_vp = 90) (p_4 : R a_this 14 = g_vf + 1) (p_5 : T g_vf = 91) (p_6 : R a_this 5 = g_pl + 1) (p_7 : T g_pl = 22) (p_8 : VVg I a_this g_vp g_vf g_pl) (p_9 : FUg I R a_this g_fl) (p_10 : (I a_this 0 ≤ I g_fl 2 ∨ 500 ≤ I g_fl 2)) (p_11 : 0 ≤ a_at) (p_12 : a_at < I a_this 19) (p_13 : I a_this 0 < 5000) : GC l yX1_tell cX1_tell 7 none ({ frames := 7, cells := 2, slots := 759, locals := 241 }) D dA eA L T N I J R [.ref a_this, .ref a_use, .int (II a_at), .int (II a_m), .int (II a_c)] 2 759 (gV (fun L' T' N' I' J' R' dz dl => J' = J ∧ Fr mo_X1_tell [] T N I J R T' N' I' J' R' ∧ FUg I' R' a_this g_fl ∧ (I' a_this 0 ≤ I' g_fl 2 ∨ 500 ≤ I' g_fl 2) ∧ I' a_this 0 = I a_this 0 + 1 ∧ dz ≤ 2 ∧ dl ≤ 759 ∧ I g_fl 2 ≤ I' g_fl 2 ∧ (dz : Int) ≤ 2 * (I' g_fl 2 - I g_fl 2) ∧ (dl : Int) + 3 * ((N (R g_fl 1 - 1) : Nat) : Int) ≤ 11 * (I' g_fl 2 - I g_fl 2) + 3 * ((N' (R' g_fl 1 - 1) : Nat) : Int))) := by
  generalize hPST : (gV (fun L' T' N' I' J' R' dz dl => J' = J ∧ Fr mo_X1_tell [] T N I J R T' N' I' J' R' ∧ FUg I' R' a_this g_fl ∧ (I' a_this 0 ≤ I' g_fl 2 ∨ 500 ≤ I' g_fl 2) ∧ I' a_this 0 = I a_this 0 + 1 ∧ dz ≤ 2 ∧ dl ≤ 759 ∧ I g_fl 2 ≤ I' g_fl 2 ∧ (dz : Int) ≤ 2 * (I' g_fl 2 - I g_fl 2) ∧ (dl : Int) + 3 * ((N (R g_fl 1 - 1) : Nat) : Int) ≤ 11 * (I' g_fl 2 - I g_fl 2) + 3 * ((N' (R' g_fl 1 - 1) : Nat) : Int))) = PST
  refine g_enter (own := RX1) (by decide) rfl (Nat.le_of_ble_eq_true rfl) (fun p e s m args below meth c ls hm B hX hM hl => ?_)
  have hC0 := hM.2.2.2.2.2.2.1
  have hW0 := hM.2.2.2
  have hF : Fr mo_X1_tell [] T N I J R T N I J R := Fr.rf
  have hA : ∀ q, s.heap.size ≤ q → cF dA L T N I J R s.heap.size q := fun q h => Or.inr h
  have hl : lv_has ls 7 [(0, .ref a_this), (1, .ref a_use), (2, .int (II a_at)), (3, .int (II a_m)), (4, .int (II a_c))] := hl
  obtain ⟨x1, e2⟩ : ∃ v, I a_this 19 = v := ⟨_, rfl⟩
  have r3 : (0 : Int) ≤ x1 ∧ x1 ≤ 1600 := by rw [← e2]; exact g5_19 hM.2.2.2.2.2.2.1 t_this
  obtain ⟨x4, e5⟩ : ∃ v, I g_pl 2 = v := ⟨_, rfl⟩
  have r6 : (0 : Int) ≤ x4 ∧ x4 ≤ 200 := by rw [← e5]; exact g22_2 hM.2.2.2.2.2.2.1 p_7
  obtain ⟨v7, e8⟩ : ∃ v, R g_fl 1 = v := ⟨_, rfl⟩
  obtain ⟨x9, e10⟩ : ∃ v, I g_fl 2 = v := ⟨_, rfl⟩
  have r11 : (0 : Int) ≤ x9 ∧ x9 ≤ 500 := by rw [← e10]; exact g23_2 hM.2.2.2.2.2.2.1 p_1
  obtain ⟨x12, e13⟩ : ∃ v, I a_this 0 = v := ⟨_, rfl⟩
  have r14 : (0 : Int) ≤ x12 ∧ x12 ≤ 5000 := by rw [← e13]; exact g5_0 hM.2.2.2.2.2.2.1 t_this
  have hvv := p_8
  have hfu := p_9
  refine lv_aload_n B.1 B.2.1 dX1_tell_0 rfl (lv_at hl 0 rfl) ?_
  refine lv_aload_n B.1 B.2.1 dX1_tell_1 rfl (lv_at hl 0 rfl) ?_
  obtain ⟨x15, e16⟩ : ∃ v, I a_this 7 = v := ⟨_, rfl⟩
  have r17 : (0 : Int) ≤ x15 ∧ x15 ≤ 1 := by rw [← e16]; exact g5_7 hM.2.2.2.2.2.2.1 t_this
  refine c_geti (k := 7) pk_X1 B hM t_this kd5 rfl (by decide) fl_X1_56 dX1_tell_2 e16 ?_
  have JJ20 : ∀ (s20_0 : Int) (H : Heap) (locs : List Loc) (ls : Array Slot), (CWd D dA eA (cF dA L T N I J R s.heap.size) s.heap L T N I J R H locs) → lv_has ls 7 [(0, .ref a_this), (1, .ref a_use), (2, .int (II a_at)), (3, .int (II a_m)), (4, .int (II a_c))] → ((-2147483648 : Int) ≤ s20_0 ∧ s20_0 ≤ 2147483647) → (0 ≤ s20_0) → (s20_0 ≤ 1) → W p l e ({ frames := 7, cells := 2, slots := 759, locals := 241 }) s m args below meth c H locs 0 0 (MQ below (gQ D dA eA (cF dA L T N I J R s.heap.size) s.heap.size (hs s.heap) PST) args s 2 759 (cF dA L T N I J R s.heap.size)) (F0 m 20 ls [.int (II s20_0), .ref a_this]) := by
    intro s20_0 H locs ls hM hl hJJ20_0 hJJ20_1 hJJ20_2
    have hMp := hM
    refine c_puti (k := 7) pk_X1 B hM t_this kd5 rfl (by decide) fl_X1_56 (Or.inl rfl) dX1_tell_20 rfl (narZ (by omega)) (fitZ (by omega)) (show (0 : Int) ≤ s20_0 from by omega) (show s20_0 ≤ (1 : Int) from by omega) (fun I18 H locs hu19 hM => ?_)
    have hFt := hF
    have e21 : I18 a_this 7 = s20_0 := w2_at hu19
    replace hF : Fr mo_X1_tell [] T N I J R T N I18 J R := hF.wi hu19 (fun _ _ => by rw [t_this]; rfl)
    replace hvv : VVg I18 a_this g_vp g_vf g_pl := VVg.w hvv hu19 (Or.inr (by decide)) (tne p_3 t_this (by decide)) (tne p_5 t_this (by decide)) (Or.inl (tne p_7 t_this (by decide)))
    replace hfu : FUg I18 R a_this g_fl := FUg.wi hfu hu19 (Or.inr (by decide)) (Or.inl (tne p_1 t_this (by decide)))
    clear hFt hMp
    refine lv_aload_n B.1 B.2.1 dX1_tell_23 rfl (lv_at hl 0 rfl) ?_
    have e22 : I18 a_this 0 = x12 := (w2_ne hu19 (Or.inr (by decide))).trans e13
    refine c_geti (k := 0) pk_X1 B hM t_this kd5 rfl (by decide) fl_X1_43 dX1_tell_24 e22 ?_
    refine q_sip B dX1_tell_27 (by decide) ?_
    refine q_cge (tgt := 209) B dX1_tell_30 (by decide) (by unfold inr; omega) (by unfold inr; omega) (fun c23 => ?_) (fun c23 => ?_)
    · refine lv_aload_n B.1 B.2.1 dX1_tell_209 rfl (lv_at hl 0 rfl) ?_
      refine lv_dup B.1 B.2.1 dX1_tell_210 rfl ?_
      refine c_geti (k := 0) pk_X1 B hM t_this kd5 rfl (by decide) fl_X1_43 dX1_tell_211 e22 ?_
      refine q_con B dX1_tell_214 ?_
      refine q_add B dX1_tell_215 ?_
      have hMp := hM
      refine c_puti (k := 0) pk_X1 B hM t_this kd5 rfl (by decide) fl_X1_43 (Or.inl rfl) dX1_tell_216 rfl rfl rfl (show (0 : Int) ≤ x12 + (1 : Int) from by omega) (show x12 + (1 : Int) ≤ (5000 : Int) from by omega) (fun I24 H locs hu25 hM => ?_)
      have e26 : I18 a_this 19 = x1 := (hF.i t_this (by decide) nm0 rfl).trans e2
      have e27 : I18 g_pl 2 = x4 := (hF.i p_7 (by decide) nm0 rfl).trans e5
      have e28 : I18 g_fl 2 = x9 := (w2_ne hu19 (Or.inl (tne p_1 t_this (by decide)))).trans e10
      have hFt := hF
      have e29 : I24 a_this 0 = x12 + (1 : Int) := w2_at hu25
      replace hF : Fr mo_X1_tell [] T N I J R T N I24 J R := hF.wi hu25 (fun _ _ => by rw [t_this]; rfl)
      replace hvv : VVg I24 a_this g_vp g_vf g_pl := VVg.w hvv hu25 (Or.inr (by decide)) (tne p_3 t_this (by decide)) (tne p_5 t_this (by decide)) (Or.inl (tne p_7 t_this (by decide)))
      replace hfu : FUg I24 R a_this g_fl := FUg.told hfu hu25 (by omega) (by omega) (tne p_1 t_this (by decide)) (by first | exact (fun _ => by rw [show I18 a_this 0 = I a_this 0 from by omega]; exact hnu) | exact (fun h => by exfalso; omega))
      clear hFt hMp
      have hnn : N (R g_fl 1 - 1) = N (R g_fl 1 - 1) := edN2 hC0 p_1 (by decide) (by decide) hF rfl
      have e30 : I24 g_fl 2 = x9 := (w2_ne hu25 (Or.inl (tne p_1 t_this (by decide)))).trans e28
      refine g_vret B hM dX1_tell_219 ⟨by show 0 ≤ 2; omega, by show 0 ≤ 759; omega⟩ ?_
      rw [← hPST]
      exact ⟨rfl, rfl, hF, by exact hfu, by first | omega | assumption | exact trivial, by first | omega | assumption | exact trivial, by first | omega | assumption | exact trivial, by first | omega | assumption | exact trivial, by first | omega | assumption | exact trivial, by first | omega | assumption | exact trivial, by first | omega | assumption | exact trivial⟩
    · refine lv_aload_n B.1 B.2.1 dX1_tell_33 rfl (lv_at hl 0 rfl) ?_
      refine c_geti (k := 0) pk_X1 B hM t_this kd5 rfl (by decide) fl_X1_43 dX1_tell_34 e22 ?_
      refine lv_aload_n B.1 B.2.1 dX1_tell_37 rfl (lv_at hl 0 rfl) ?_
      refine c_getn (k := 6) pk_X1 B hM t_this kd5 rfl (by decide) fl_X1_18 dX1_tell_38 p_0 ?_
      have e31 : I18 a_this 19 = x1 := (hF.i t_this (by decide) nm0 rfl).trans e2
      have e32 : I18 g_pl 2 = x4 := (hF.i p_7 (by decide) nm0 rfl).trans e5
      have e33 : I18 g_fl 2 = x9 := (w2_ne hu19 (Or.inl (tne p_1 t_this (by decide)))).trans e10
      have hFt := hF
      have hMt := hM
      have hv34 : (15 ≤ 23) ∧ (23 ≤ 23) := by first | omega | exact ⟨by first | omega | assumption | exact trivial, by first | omega | assumption | exact trivial⟩
      refine p_calli (c_runV (n := 0) (as := []) (rest := [.int (II x12)]) B hX hA hM hl.1 p_1 kd23 rfl (k_Jx4a65c_size_8abf5 l D dA eA L T N I18 J R g_fl p_1 hv34.1 hv34.2 _ _) ml_X1_81 nm_Jx4a65c_size_8abf5 ⟨rfl, rfl⟩ ⟨Nat.le_of_ble_eq_true rfl, Nat.le_of_ble_eq_true rfl⟩ dX1_tell_41 rfl rfl (Nat.le_of_ble_eq_true rfl) ⟨by show 0 + 0 ≤ 2; omega, by show 0 + 0 ≤ 759; omega⟩) (fun x36 ix36 hp35 => ?_)
      have hp35a := hp35
      replace hp35a : I18 g_fl 2 = x36 ∧ 0 ≤ x36 ∧ x36 ≤ 500 := hp35a
      obtain ⟨hp35a_0, hp35a_1, hp35a_2⟩ := hp35a
      clear hFt hMt
      have JJ62 : ∀ (L_62 : List Nat) (T_62 : Nat → Nat) (N_62 : Nat → Nat) (I_62 : Nat → Nat → Int) (R_62 : Nat → Nat → Nat) (zc62 zs62 : Nat) (H : Heap) (locs : List Loc) (ls : Array Slot), (CWd D dA eA (cF dA L T N I J R s.heap.size) s.heap L_62 T_62 N_62 I_62 J R_62 H locs) → (Fr mo_X1_tell [] T N I J R T_62 N_62 I_62 J R_62) → lv_has ls 7 [(0, .ref a_this), (1, .ref a_use), (2, .int (II a_at)), (3, .int (II a_m)), (4, .int (II a_c))] → (I_62 a_this 0 = I a_this 0) → (I g_fl 2 ≤ I_62 g_fl 2) → (I a_this 0 < I_62 g_fl 2) → ((zc62 : Int) ≤ 2 * (I_62 g_fl 2 - I g_fl 2)) → ((zs62 : Int) + 3 * ((N (R g_fl 1 - 1) : Nat) : Int) ≤ 11 * (I_62 g_fl 2 - I g_fl 2) + 3 * ((N_62 (R_62 g_fl 1 - 1) : Nat) : Int)) → ((zc62 : Int) ≤ (2 : Int)) → ((zs62 : Int) ≤ (759 : Int)) → (VVg I_62 a_this g_vp g_vf g_pl) → (FUg I_62 R_62 a_this g_fl) → W p l e ({ frames := 7, cells := 2, slots := 759, locals := 241 }) s m args below meth c H locs zc62 zs62 (MQ below (gQ D dA eA (cF dA L T N I J R s.heap.size) s.heap.size (hs s.heap) PST) args s 2 759 (cF dA L T N I J R s.heap.size)) (F0 m 62 ls []) := by
        intro L_62 T_62 N_62 I_62 R_62 zc62 zs62 H locs ls hM hF hl hJJ62_0 hJJ62_1 hJJ62_2 hJJ62_3 hJJ62_4 hJJ62_5 hJJ62_6 hJJ62_7 hJJ62_8
        have hvv : VVg I_62 a_this g_vp g_vf g_pl := by assumption
        have hfu : FUg I_62 R_62 a_this g_fl := by assumption
        obtain ⟨x37, e38⟩ : ∃ v, I_62 g_fl 2 = v := ⟨_, rfl⟩
        have e39 : I_62 g_pl 2 = x4 := (hF.i p_7 (by decide) nm0 rfl).trans e5
        refine lv_aload_n B.1 B.2.1 dX1_tell_62 rfl (lv_at hl 0 rfl) ?_
        have t40 : T_62 a_this = 5 := hF.tt t_this (by decide) nm0
        have e41 : R_62 a_this 6 = g_fl + 1 := (hF.r t_this (by decide) nm0 rfl).trans p_0
        refine c_getn (k := 6) pk_X1 B hM t40 kd5 rfl (by decide) fl_X1_18 dX1_tell_63 e41 ?_
        refine lv_aload_n B.1 B.2.1 dX1_tell_66 rfl (lv_at hl 0 rfl) ?_
        have r42 : (0 : Int) ≤ I a_this 0 ∧ I a_this 0 ≤ 5000 := by rw [← hJJ62_0]; exact g5_0 hM.2.2.2.2.2.2.1 t40
        refine c_geti (k := 0) pk_X1 B hM t40 kd5 rfl (by decide) fl_X1_43 dX1_tell_67 hJJ62_0 ?_
        have e43 : I_62 a_this 19 = x1 := (hF.i t_this (by decide) nm0 rfl).trans e2
        have hFt := hF
        have hMt := hM
        have t44 : T_62 g_fl = 23 := hF.tt p_1 (by decide) nm0
        have hv45 : ((-2147483648 : Int) ≤ I a_this 0 ∧ (I a_this 0 : Int) ≤ 2147483647) ∧ (15 ≤ 23) ∧ (23 ≤ 23) ∧ (0 ≤ (I a_this 0)) ∧ ((I a_this 0) < I_62 g_fl 2) := by first | omega | exact ⟨by first | omega | assumption | exact trivial, by first | omega | assumption | exact trivial, by first | omega | assumption | exact trivial, by first | omega | assumption | exact trivial, by first | omega | assumption | exact trivial⟩
        refine p_callr (c_runV (n := 1) (as := [.int (II (I a_this 0))]) (rest := []) B hX hA hM hl.1 t44 kd23 rfl (k_Jx4a65c_get_915e3 l D dA eA L_62 T_62 N_62 I_62 J R_62 g_fl t44 (I a_this 0) hv45.1 hv45.2.1 hv45.2.2.1 hv45.2.2.2.1 hv45.2.2.2.2 _ _) ml_X1_85 nm_Jx4a65c_get_915e3 ⟨rfl, rfl⟩ ⟨Nat.le_of_ble_eq_true rfl, Nat.le_of_ble_eq_true rfl⟩ dX1_tell_70 rfl rfl (Nat.le_of_ble_eq_true rfl) ⟨by show zc62 + 0 ≤ 2; omega, by show zs62 + 0 ≤ 759; omega⟩) (fun b47 hp46 => ?_)
        obtain ⟨tb47, hp46a⟩ := hp46
        replace hp46a : R_62 (R_62 g_fl 1 - 1) (I a_this 0).toNat = b47 + 1 := hp46a
        clear hFt hMt
        refine c_cast B hM tb47 kd13 rfl cl_X1_226 dX1_tell_73 ?_
        refine lv_astore (lv' := [(5, .ref b47), (0, .ref a_this), (1, .ref a_use), (2, .int (II a_at)), (3, .int (II a_m)), (4, .int (II a_c))]) B.1 B.2.1 dX1_tell_76 hl (by decide) rfl (fun ls hl => ?_)
        refine lv_aload_n B.1 B.2.1 dX1_tell_78 rfl (lv_at hl 1 rfl) ?_
        have e48 : R_62 a_this 5 = g_pl + 1 := (hF.r t_this (by decide) nm0 rfl).trans p_6
        refine c_getn (k := 5) pk_X1 B hM t40 kd5 rfl (by decide) fl_X1_9 dX1_tell_79 e48 ?_
        refine lv_aload_n B.1 B.2.1 dX1_tell_82 rfl (lv_at hl 1 rfl) ?_
        have e49 : R_62 a_this 13 = g_vp + 1 := (hF.r t_this (by decide) nm0 rfl).trans p_2
        refine c_getn (k := 13) pk_X1 B hM t40 kd5 rfl (by decide) fl_X1_25 dX1_tell_83 e49 ?_
        refine lv_iload_n B.1 B.2.1 dX1_tell_86 rfl (lv_at hl 3 rfl) ?_
        have hva := VVg.at hvv (i := a_at) (by omega) (by omega)
        have t50 : T_62 g_vp = 90 := hF.tt p_3 (by decide) nm0
        have n51 : 1600 ≤ N_62 g_vp ∧ N_62 g_vp ≤ 1600 := gn90 hM.2.2.2.2.2.2.1 t50
        obtain ⟨x52, e53⟩ : ∃ v, I g_vp a_at.toNat = v := ⟨_, rfl⟩
        have e54 : I_62 g_vp a_at.toNat = x52 := (hF.i p_3 (by decide) nm0 (by rw [cd_arr (j := 0) (by decide)]; rfl)).trans e53
        have r55 : (0 : Int) ≤ x52 ∧ x52 ≤ 199 := by rw [← e54]; exact ga90 hM.2.2.2.2.2.2.1 t50 (by omega)
        refine c_ild B hM t50 kd90 an90 dX1_tell_87 (by omega) (by omega) e54 ?_
        have hFt := hF
        have hMt := hM
        have t56 : T_62 g_pl = 22 := hF.tt p_7 (by decide) nm0
        have hv57 : ((-2147483648 : Int) ≤ x52 ∧ (x52 : Int) ≤ 2147483647) ∧ (15 ≤ 22) ∧ (22 ≤ 23) ∧ (0 ≤ x52) ∧ (x52 < I_62 g_pl 2) := by first | omega | exact ⟨by first | omega | assumption | exact trivial, by first | omega | assumption | exact trivial, by first | omega | assumption | exact trivial, by first | omega | assumption | exact trivial, by first | omega | assumption | exact trivial⟩
        refine p_callr (c_runV (n := 1) (as := [.int (II x52)]) (rest := []) B hX hA hM hl.1 t56 kd22 rfl (k_Jx4a65c_get_915e3 l D dA eA L_62 T_62 N_62 I_62 J R_62 g_pl t56 x52 hv57.1 hv57.2.1 hv57.2.2.1 hv57.2.2.2.1 hv57.2.2.2.2 _ _) ml_X1_85 nm_Jx4a65c_get_915e3 ⟨rfl, rfl⟩ ⟨Nat.le_of_ble_eq_true rfl, Nat.le_of_ble_eq_true rfl⟩ dX1_tell_88 rfl rfl (Nat.le_of_ble_eq_true rfl) ⟨by show zc62 + 0 ≤ 2; omega, by show zs62 + 0 ≤ 759; omega⟩) (fun b59 hp58 => ?_)
        obtain ⟨tb59, hp58a⟩ := hp58
        replace hp58a : R_62 (R_62 g_pl 1 - 1) x52.toNat = b59 + 1 := hp58a
        clear hFt hMt
        refine c_cast B hM tb59 kd12 rfl cl_X1_116 dX1_tell_91 ?_
        refine lv_astore (lv' := [(6, .ref b59), (5, .ref b47), (0, .ref a_this), (1, .ref a_use), (2, .int (II a_at)), (3, .int (II a_m)), (4, .int (II a_c))]) B.1 B.2.1 dX1_tell_94 hl (by decide) rfl (fun ls hl => ?_)
        refine lv_aload B.1 B.2.1 dX1_tell_96 (lv_at hl 1 rfl) ?_
        refine lv_aload_n B.1 B.2.1 dX1_tell_98 rfl (lv_at hl 3 rfl) ?_
        have hMp := hM
        have t62 : T_62 a_use = 9 := hF.tt t_use (by decide) nm0
        refine c_putr (k := 0) (v := a_use + 1) pk_X2 B hM tb47 kd13 rfl (by decide) fl_X1_233 (Or.inl rfl) dX1_tell_99 rfl rfl ⟨rfl, fun _ => rfl, rfl, fun _ => rfl⟩ (rokR t62 rfl) (fun R60 H locs hu61 hM => ?_)
        have hFt := hF
        have e63 : R60 b47 0 = a_use + 1 := w2_at hu61
        replace hF : Fr mo_X1_tell [] T N I J R T_62 N_62 I_62 J R60 := hF.wr hu61 (Fr_c hF tb47 rfl)
        replace hfu : FUg I_62 R60 a_this g_fl := FUg.wu hfu hMp.2.2.2.2.2.2.1 hMp.2.2.2.2.2.2.2 t44 tb47 hu61
        have hnr : N_62 (R60 g_fl 1 - 1) = N_62 (R_62 g_fl 1 - 1) := by rw [w2_ne hu61 (Or.inl (tne t44 tb47 (by decide)))]
        have hnu := FU1 hMp.2.2.2.2.2.2.1 hMp.2.2.2.2.2.2.2 t44 tb47 hu61 (z := I a_this 0) (by omega) (by omega) (by assumption)
        clear hFt hMp
        refine lv_aload B.1 B.2.1 dX1_tell_102 (lv_at hl 1 rfl) ?_
        refine lv_iload_n B.1 B.2.1 dX1_tell_104 rfl (lv_at hl 4 rfl) ?_
        have hMp := hM
        refine c_puti (k := 1) pk_X2 B hM tb47 kd13 rfl (by decide) fl_X1_237 (Or.inl rfl) dX1_tell_105 rfl rfl rfl (show (0 : Int) ≤ a_at from by omega) (show a_at ≤ (1599 : Int) from by omega) (fun I64 H locs hu65 hM => ?_)
        have hFt := hF
        have e66 : I64 b47 1 = a_at := w2_at hu65
        replace hF : Fr mo_X1_tell [] T N I J R T_62 N_62 I64 J R60 := hF.wi hu65 (Fr_c hF tb47 rfl)
        have t67 : T_62 g_vf = 91 := hF.tt p_5 (by decide) nm0
        replace hvv : VVg I64 a_this g_vp g_vf g_pl := VVg.w hvv hu65 (Or.inl (tne t40 tb47 (by decide))) (tne t50 tb47 (by decide)) (tne t67 tb47 (by decide)) (Or.inl (tne t56 tb47 (by decide)))
        replace hfu : FUg I64 R60 a_this g_fl := FUg.wi hfu hu65 (Or.inl (tne t40 tb47 (by decide))) (Or.inl (tne t44 tb47 (by decide)))
        clear hFt hMp
        refine lv_aload B.1 B.2.1 dX1_tell_108 (lv_at hl 1 rfl) ?_
        refine lv_aload_n B.1 B.2.1 dX1_tell_110 rfl (lv_at hl 2 rfl) ?_
        have e68 : R60 a_this 13 = g_vp + 1 := (hF.r t_this (by decide) nm0 rfl).trans p_2
        refine c_getn (k := 13) pk_X1 B hM t40 kd5 rfl (by decide) fl_X1_25 dX1_tell_111 e68 ?_
        refine lv_iload_n B.1 B.2.1 dX1_tell_114 rfl (lv_at hl 4 rfl) ?_
        have e69 : I64 g_vp a_at.toNat = x52 := (hF.i p_3 (by decide) nm0 (by rw [cd_arr (j := 0) (by decide)]; rfl)).trans e53
        refine c_ild B hM t50 kd90 an90 dX1_tell_115 (by omega) (by omega) e69 ?_
        have hMp := hM
        refine c_puti (k := 2) pk_X2 B hM tb47 kd13 rfl (by decide) fl_X1_240 (Or.inl rfl) dX1_tell_116 rfl rfl rfl (show (-2147483648 : Int) ≤ x52 from by omega) (show x52 ≤ (2147483647 : Int) from by omega) (fun I70 H locs hu71 hM => ?_)
        have e72 : I64 a_this 19 = x1 := (hF.i t_this (by decide) nm0 rfl).trans e2
        have e73 : I64 g_pl 2 = x4 := (hF.i p_7 (by decide) nm0 rfl).trans e5
        have e74 : I64 a_this 0 = I a_this 0 := (w2_ne hu65 (Or.inl (tne t40 tb47 (by decide)))).trans hJJ62_0
        have e75 : I64 g_fl 2 = x37 := (w2_ne hu65 (Or.inl (tne t44 tb47 (by decide)))).trans e38
        have hFt := hF
        have e76 : I70 b47 2 = x52 := w2_at hu71
        replace hF : Fr mo_X1_tell [] T N I J R T_62 N_62 I70 J R60 := hF.wi hu71 (Fr_c hF tb47 rfl)
        replace hvv : VVg I70 a_this g_vp g_vf g_pl := VVg.w hvv hu71 (Or.inl (tne t40 tb47 (by decide))) (tne t50 tb47 (by decide)) (tne t67 tb47 (by decide)) (Or.inl (tne t56 tb47 (by decide)))
        replace hfu : FUg I70 R60 a_this g_fl := FUg.wi hfu hu71 (Or.inl (tne t40 tb47 (by decide))) (Or.inl (tne t44 tb47 (by decide)))
        clear hFt hMp
        refine lv_aload B.1 B.2.1 dX1_tell_119 (lv_at hl 1 rfl) ?_
        refine lv_iload_n B.1 B.2.1 dX1_tell_121 rfl (lv_at hl 5 rfl) ?_
        have hMp := hM
        refine c_puti (k := 3) pk_X2 B hM tb47 kd13 rfl (by decide) fl_X1_243 (Or.inl rfl) dX1_tell_122 rfl rfl rfl (show (-2147483648 : Int) ≤ a_m from by omega) (show a_m ≤ (2147483647 : Int) from by omega) (fun I77 H locs hu78 hM => ?_)
        have e79 : I70 a_this 19 = x1 := (hF.i t_this (by decide) nm0 rfl).trans e2
        have e80 : I70 g_pl 2 = x4 := (hF.i p_7 (by decide) nm0 rfl).trans e5
        have e81 : I70 a_this 0 = I a_this 0 := (w2_ne hu71 (Or.inl (tne t40 tb47 (by decide)))).trans e74
        have e82 : I70 g_fl 2 = x37 := (w2_ne hu71 (Or.inl (tne t44 tb47 (by decide)))).trans e75
        have hFt := hF
        have e83 : I77 b47 3 = a_m := w2_at hu78
        replace hF : Fr mo_X1_tell [] T N I J R T_62 N_62 I77 J R60 := hF.wi hu78 (Fr_c hF tb47 rfl)
        replace hvv : VVg I77 a_this g_vp g_vf g_pl := VVg.w hvv hu78 (Or.inl (tne t40 tb47 (by decide))) (tne t50 tb47 (by decide)) (tne t67 tb47 (by decide)) (Or.inl (tne t56 tb47 (by decide)))
        replace hfu : FUg I77 R60 a_this g_fl := FUg.wi hfu hu78 (Or.inl (tne t40 tb47 (by decide))) (Or.inl (tne t44 tb47 (by decide)))
        clear hFt hMp
        refine lv_aload B.1 B.2.1 dX1_tell_125 (lv_at hl 1 rfl) ?_
        refine lv_iload B.1 B.2.1 dX1_tell_127 (lv_at hl 6 rfl) ?_
        have hMp := hM
        refine c_puti (k := 4) pk_X2 B hM tb47 kd13 rfl (by decide) fl_X1_246 (Or.inl rfl) dX1_tell_129 rfl rfl rfl (show (-2147483648 : Int) ≤ a_c from by omega) (show a_c ≤ (2147483647 : Int) from by omega) (fun I84 H locs hu85 hM => ?_)
        have e86 : I77 a_this 19 = x1 := (hF.i t_this (by decide) nm0 rfl).trans e2
        have e87 : I77 g_pl 2 = x4 := (hF.i p_7 (by decide) nm0 rfl).trans e5
        have e88 : I77 a_this 0 = I a_this 0 := (w2_ne hu78 (Or.inl (tne t40 tb47 (by decide)))).trans e81
        have e89 : I77 g_fl 2 = x37 := (w2_ne hu78 (Or.inl (tne t44 tb47 (by decide)))).trans e82
        have hFt := hF
        have e90 : I84 b47 4 = a_c := w2_at hu85
        replace hF : Fr mo_X1_tell [] T N I J R T_62 N_62 I84 J R60 := hF.wi hu85 (Fr_c hF tb47 rfl)
        replace hvv : VVg I84 a_this g_vp g_vf g_pl := VVg.w hvv hu85 (Or.inl (tne t40 tb47 (by decide))) (tne t50 tb47 (by decide)) (tne t67 tb47 (by decide)) (Or.inl (tne t56 tb47 (by decide)))
        replace hfu : FUg I84 R60 a_this g_fl := FUg.wi hfu hu85 (Or.inl (tne t40 tb47 (by decide))) (Or.inl (tne t44 tb47 (by decide)))
        clear hFt hMp
        refine lv_aload B.1 B.2.1 dX1_tell_132 (lv_at hl 1 rfl) ?_
        refine lv_aload B.1 B.2.1 dX1_tell_134 (lv_at hl 0 rfl) ?_
        refine lv_iload_n B.1 B.2.1 dX1_tell_136 rfl (lv_at hl 5 rfl) ?_
        have e91 : I84 a_this 19 = x1 := (hF.i t_this (by decide) nm0 rfl).trans e2
        have e92 : I84 g_pl 2 = x4 := (hF.i p_7 (by decide) nm0 rfl).trans e5
        have e93 : I84 a_this 0 = I a_this 0 := (w2_ne hu85 (Or.inl (tne t40 tb47 (by decide)))).trans e88
        have e94 : I84 g_fl 2 = x37 := (w2_ne hu85 (Or.inl (tne t44 tb47 (by decide)))).trans e89
        have hFt := hF
        have hMt := hM
        refine p_calli (c_runV (n := 1) (as := [.int (II a_m)]) (rest := [.ref b47]) B hX hA hM hl.1 tb59 kd12 rfl (k_X5_shown l D dA eA L_62 T_62 N_62 I84 J R60 b59 tb59 a_m (by first | omega | assumption | exact trivial) _ _) ml_X1_249 nm_X5_shown ⟨rfl, rfl⟩ ⟨Nat.le_of_ble_eq_true rfl, Nat.le_of_ble_eq_true rfl⟩ dX1_tell_137 rfl rfl (Nat.le_of_ble_eq_true rfl) ⟨by show zc62 + 0 ≤ 2; omega, by show zs62 + 0 ≤ 759; omega⟩) (fun x96 ix96 hp95 => ?_)
        have hp95a := hp95
        clear hp95a
        clear hFt hMt
        have hMp := hM
        refine c_puti (k := 5) pk_X2 B hM tb47 kd13 rfl (by decide) fl_X1_252 (Or.inl rfl) dX1_tell_140 rfl rfl rfl (show (-2147483648 : Int) ≤ x96 from by omega) (show x96 ≤ (2147483647 : Int) from by omega) (fun I97 H locs hu98 hM => ?_)
        have hFt := hF
        have e99 : I97 b47 5 = x96 := w2_at hu98
        replace hF : Fr mo_X1_tell [] T N I J R T_62 N_62 I97 J R60 := hF.wi hu98 (Fr_c hF tb47 rfl)
        replace hvv : VVg I97 a_this g_vp g_vf g_pl := VVg.w hvv hu98 (Or.inl (tne t40 tb47 (by decide))) (tne t50 tb47 (by decide)) (tne t67 tb47 (by decide)) (Or.inl (tne t56 tb47 (by decide)))
        replace hfu : FUg I97 R60 a_this g_fl := FUg.wi hfu hu98 (Or.inl (tne t40 tb47 (by decide))) (Or.inl (tne t44 tb47 (by decide)))
        clear hFt hMp
        refine lv_aload B.1 B.2.1 dX1_tell_143 (lv_at hl 1 rfl) ?_
        refine lv_aload_n B.1 B.2.1 dX1_tell_145 rfl (lv_at hl 3 rfl) ?_
        have e100 : I97 a_this 19 = x1 := (hF.i t_this (by decide) nm0 rfl).trans e2
        have e101 : I97 g_pl 2 = x4 := (hF.i p_7 (by decide) nm0 rfl).trans e5
        have e102 : I97 a_this 0 = I a_this 0 := (w2_ne hu98 (Or.inl (tne t40 tb47 (by decide)))).trans e93
        have e103 : I97 g_fl 2 = x37 := (w2_ne hu98 (Or.inl (tne t44 tb47 (by decide)))).trans e94
        have hFt := hF
        have hMt := hM
        refine p_calli (c_runV (n := 0) (as := []) (rest := [.ref b47]) B hX hA hM hl.1 t62 kd9 rfl (k_X10_proposes l D dA eA L_62 T_62 N_62 I97 J R60 a_use t62 _ _) ml_X1_254 nm_X10_proposes ⟨rfl, rfl⟩ ⟨Nat.le_of_ble_eq_true rfl, Nat.le_of_ble_eq_true rfl⟩ dX1_tell_146 rfl rfl (Nat.le_of_ble_eq_true rfl) ⟨by show zc62 + 0 ≤ 2; omega, by show zs62 + 0 ≤ 759; omega⟩) (fun x105 ix105 hp104 => ?_)
        have hp104a := hp104
        replace hp104a : (0 : Int) ≤ x105 ∧ x105 ≤ 1 ∧ (True) := hp104a
        obtain ⟨hp104a_0, hp104a_1, hp104a_2⟩ := hp104a
        clear hFt hMt
        have hMp := hM
        refine c_puti (k := 6) pk_X2 B hM tb47 kd13 rfl (by decide) fl_X1_258 (Or.inl rfl) dX1_tell_149 rfl (narZ (by omega)) (fitZ (by omega)) (show (0 : Int) ≤ x105 from by omega) (show x105 ≤ (1 : Int) from by omega) (fun I106 H locs hu107 hM => ?_)
        have hFt := hF
        have e108 : I106 b47 6 = x105 := w2_at hu107
        replace hF : Fr mo_X1_tell [] T N I J R T_62 N_62 I106 J R60 := hF.wi hu107 (Fr_c hF tb47 rfl)
        replace hvv : VVg I106 a_this g_vp g_vf g_pl := VVg.w hvv hu107 (Or.inl (tne t40 tb47 (by decide))) (tne t50 tb47 (by decide)) (tne t67 tb47 (by decide)) (Or.inl (tne t56 tb47 (by decide)))
        replace hfu : FUg I106 R60 a_this g_fl := FUg.wi hfu hu107 (Or.inl (tne t40 tb47 (by decide))) (Or.inl (tne t44 tb47 (by decide)))
        clear hFt hMp
        refine lv_aload B.1 B.2.1 dX1_tell_152 (lv_at hl 1 rfl) ?_
        refine lv_aload B.1 B.2.1 dX1_tell_154 (lv_at hl 1 rfl) ?_
        refine c_geti (k := 6) pk_X2 B hM tb47 kd13 rfl (by decide) fl_X1_258 dX1_tell_156 e108 ?_
        have JJ175 : ∀ (s175_0 : Int) (H : Heap) (locs : List Loc) (ls : Array Slot), (CWd D dA eA (cF dA L T N I J R s.heap.size) s.heap L_62 T_62 N_62 I106 J R60 H locs) → lv_has ls 7 [(6, .ref b59), (5, .ref b47), (0, .ref a_this), (1, .ref a_use), (2, .int (II a_at)), (3, .int (II a_m)), (4, .int (II a_c))] → ((-2147483648 : Int) ≤ s175_0 ∧ s175_0 ≤ 2147483647) → W p l e ({ frames := 7, cells := 2, slots := 759, locals := 241 }) s m args below meth c H locs zc62 zs62 (MQ below (gQ D dA eA (cF dA L T N I J R s.heap.size) s.heap.size (hs s.heap) PST) args s 2 759 (cF dA L T N I J R s.heap.size)) (F0 m 175 ls [.int (II s175_0), .ref b47]) := by
          intro s175_0 H locs ls hM hl hJJ175_0
          have hMp := hM
          refine c_puti (k := 7) pk_X2 B hM tb47 kd13 rfl (by decide) fl_X1_264 (Or.inl rfl) dX1_tell_175 rfl rfl rfl (show (-2147483648 : Int) ≤ s175_0 from by omega) (show s175_0 ≤ (2147483647 : Int) from by omega) (fun I109 H locs hu110 hM => ?_)
          have e111 : I106 a_this 19 = x1 := (hF.i t_this (by decide) nm0 rfl).trans e2
          have e112 : I106 g_pl 2 = x4 := (hF.i p_7 (by decide) nm0 rfl).trans e5
          have e113 : I106 a_this 0 = I a_this 0 := (w2_ne hu107 (Or.inl (tne t40 tb47 (by decide)))).trans e102
          have e114 : I106 g_fl 2 = x37 := (w2_ne hu107 (Or.inl (tne t44 tb47 (by decide)))).trans e103
          have hFt := hF
          have e115 : I109 b47 7 = s175_0 := w2_at hu110
          replace hF : Fr mo_X1_tell [] T N I J R T_62 N_62 I109 J R60 := hF.wi hu110 (Fr_c hF tb47 rfl)
          replace hvv : VVg I109 a_this g_vp g_vf g_pl := VVg.w hvv hu110 (Or.inl (tne t40 tb47 (by decide))) (tne t50 tb47 (by decide)) (tne t67 tb47 (by decide)) (Or.inl (tne t56 tb47 (by decide)))
          replace hfu : FUg I109 R60 a_this g_fl := FUg.wi hfu hu110 (Or.inl (tne t40 tb47 (by decide))) (Or.inl (tne t44 tb47 (by decide)))
          clear hFt hMp
          refine lv_aload B.1 B.2.1 dX1_tell_178 (lv_at hl 1 rfl) ?_
          refine lv_aload B.1 B.2.1 dX1_tell_180 (lv_at hl 1 rfl) ?_
          have e116 : I109 b47 6 = x105 := (w2_ne hu110 (Or.inr (by decide))).trans e108
          refine c_geti (k := 6) pk_X2 B hM tb47 kd13 rfl (by decide) fl_X1_258 dX1_tell_182 e116 ?_
          have e117 : R60 a_this 6 = g_fl + 1 := (hF.r t_this (by decide) nm0 rfl).trans p_0
          have e118 : R60 a_this 14 = g_vf + 1 := (hF.r t_this (by decide) nm0 rfl).trans p_4
          have e119 : R60 a_this 5 = g_pl + 1 := (hF.r t_this (by decide) nm0 rfl).trans p_6
          have JJ206 : ∀ (s206_0 : Int) (I_206 : Nat → Nat → Int) (H : Heap) (locs : List Loc) (ls : Array Slot), (CWd D dA eA (cF dA L T N I J R s.heap.size) s.heap L_62 T_62 N_62 I_206 J R60 H locs) → (Fr mo_X1_tell [] T N I J R T_62 N_62 I_206 J R60) → lv_has ls 7 [(6, .ref b59), (5, .ref b47), (0, .ref a_this), (1, .ref a_use), (2, .int (II a_at)), (3, .int (II a_m)), (4, .int (II a_c))] → ((-2147483648 : Int) ≤ s206_0 ∧ s206_0 ≤ 2147483647) → (0 ≤ s206_0) → (s206_0 ≤ 1) → (I_206 a_this 0 = I a_this 0) → (I_206 g_fl 2 = I_62 g_fl 2) → (VVg I_206 a_this g_vp g_vf g_pl) → (FUg I_206 R60 a_this g_fl) → W p l e ({ frames := 7, cells := 2, slots := 759, locals := 241 }) s m args below meth c H locs zc62 zs62 (MQ below (gQ D dA eA (cF dA L T N I J R s.heap.size) s.heap.size (hs s.heap) PST) args s 2 759 (cF dA L T N I J R s.heap.size)) (F0 m 206 ls [.int (II s206_0), .ref b47]) := by
            intro s206_0 I_206 H locs ls hM hF hl hJJ206_0 hJJ206_1 hJJ206_2 hJJ206_3 hJJ206_4 hJJ206_5 hJJ206_6
            have hvv : VVg I_206 a_this g_vp g_vf g_pl := by assumption
            have hfu : FUg I_206 R60 a_this g_fl := by assumption
            have hMp := hM
            refine c_puti (k := 8) pk_X2 B hM tb47 kd13 rfl (by decide) fl_X1_271 (Or.inl rfl) dX1_tell_206 rfl (narZ (by omega)) (fitZ (by omega)) (show (0 : Int) ≤ s206_0 from by omega) (show s206_0 ≤ (1 : Int) from by omega) (fun I120 H locs hu121 hM => ?_)
            have e122 : I_206 a_this 19 = x1 := (hF.i t_this (by decide) nm0 rfl).trans e2
            have e123 : I_206 g_pl 2 = x4 := (hF.i p_7 (by decide) nm0 rfl).trans e5
            have hFt := hF
            have e124 : I120 b47 8 = s206_0 := w2_at hu121
            replace hF : Fr mo_X1_tell [] T N I J R T_62 N_62 I120 J R60 := hF.wi hu121 (Fr_c hF tb47 rfl)
            replace hvv : VVg I120 a_this g_vp g_vf g_pl := VVg.w hvv hu121 (Or.inl (tne t40 tb47 (by decide))) (tne t50 tb47 (by decide)) (tne t67 tb47 (by decide)) (Or.inl (tne t56 tb47 (by decide)))
            replace hfu : FUg I120 R60 a_this g_fl := FUg.wi hfu hu121 (Or.inl (tne t40 tb47 (by decide))) (Or.inl (tne t44 tb47 (by decide)))
            clear hFt hMp
            refine lv_aload_n B.1 B.2.1 dX1_tell_209 rfl (lv_at hl 2 rfl) ?_
            refine lv_dup B.1 B.2.1 dX1_tell_210 rfl ?_
            have e125 : I120 a_this 0 = I a_this 0 := (w2_ne hu121 (Or.inl (tne t40 tb47 (by decide)))).trans hJJ206_3
            refine c_geti (k := 0) pk_X1 B hM t40 kd5 rfl (by decide) fl_X1_43 dX1_tell_211 e125 ?_
            refine q_con B dX1_tell_214 ?_
            refine q_add B dX1_tell_215 ?_
            have hMp := hM
            refine c_puti (k := 0) pk_X1 B hM t40 kd5 rfl (by decide) fl_X1_43 (Or.inl rfl) dX1_tell_216 rfl rfl rfl (show (0 : Int) ≤ (I a_this 0) + (1 : Int) from by omega) (show (I a_this 0) + (1 : Int) ≤ (5000 : Int) from by omega) (fun I126 H locs hu127 hM => ?_)
            have e128 : I120 a_this 19 = x1 := (hF.i t_this (by decide) nm0 rfl).trans e2
            have e129 : I120 g_pl 2 = x4 := (hF.i p_7 (by decide) nm0 rfl).trans e5
            have e130 : I120 g_fl 2 = I_62 g_fl 2 := (w2_ne hu121 (Or.inl (tne t44 tb47 (by decide)))).trans hJJ206_4
            have hFt := hF
            have e131 : I126 a_this 0 = (I a_this 0) + (1 : Int) := w2_at hu127
            replace hF : Fr mo_X1_tell [] T N I J R T_62 N_62 I126 J R60 := hF.wi hu127 (fun _ _ => by rw [t_this]; rfl)
            replace hvv : VVg I126 a_this g_vp g_vf g_pl := VVg.w hvv hu127 (Or.inr (by decide)) (tne t50 t40 (by decide)) (tne t67 t40 (by decide)) (Or.inl (tne t56 t40 (by decide)))
            replace hfu : FUg I126 R60 a_this g_fl := FUg.told hfu hu127 (by omega) (by omega) (tne t44 t40 (by decide)) (by first | exact (fun _ => by rw [show I120 a_this 0 = I a_this 0 from by omega]; exact hnu) | exact (fun h => by exfalso; omega))
            clear hFt hMp
            obtain ⟨v132, e133⟩ : ∃ v, R60 g_fl 1 = v := ⟨_, rfl⟩
            have e134 : I126 g_fl 2 = I_62 g_fl 2 := (w2_ne hu127 (Or.inl (tne t44 t40 (by decide)))).trans e130
            refine g_vret B hM dX1_tell_219 ⟨by show zc62 ≤ 2; omega, by show zs62 ≤ 759; omega⟩ ?_
            rw [← hPST]
            exact ⟨rfl, rfl, hF, by exact hfu, by first | omega | assumption | exact trivial, by first | omega | assumption | exact trivial, by first | omega | assumption | exact trivial, by first | omega | assumption | exact trivial, by first | omega | assumption | exact trivial, by first | omega | assumption | exact trivial, by first | omega | assumption | exact trivial⟩
          refine q_ieq (tgt := 205) B dX1_tell_185 (by decide) (by unfold inr; omega) (fun c135 => ?_) (fun c135 => ?_)
          · refine q_con B dX1_tell_205 ?_
            have e136 : I109 a_this 0 = I a_this 0 := (w2_ne hu110 (Or.inl (tne t40 tb47 (by decide)))).trans e113
            have e137 : I109 g_fl 2 = x37 := (w2_ne hu110 (Or.inl (tne t44 tb47 (by decide)))).trans e114
            have hv138 : ((-2147483648 : Int) ≤ 0 ∧ (0 : Int) ≤ 2147483647) ∧ (0 ≤ (0 : Int)) ∧ ((0 : Int) ≤ 1) ∧ (I109 a_this 0 = I a_this 0) ∧ (I109 g_fl 2 = I_62 g_fl 2) := by first | omega | exact ⟨by first | omega | assumption | exact trivial, by first | omega | assumption | exact trivial, by first | omega | assumption | exact trivial, by first | omega | assumption | exact trivial, by first | omega | assumption | exact trivial⟩
            exact JJ206 0 I109 _ _ ls hM hF (lv_sub hl [0, 1, 2, 3, 4, 5, 6] rfl) hv138.1 hv138.2.1 hv138.2.2.1 hv138.2.2.2.1 hv138.2.2.2.2 (by exact hvv) (by exact hfu)
          · refine lv_aload B.1 B.2.1 dX1_tell_188 (lv_at hl 0 rfl) ?_
            refine lv_iload_n B.1 B.2.1 dX1_tell_190 rfl (lv_at hl 5 rfl) ?_
            refine lv_aload_n B.1 B.2.1 dX1_tell_191 rfl (lv_at hl 2 rfl) ?_
            obtain ⟨x139, e140⟩ : ∃ v, I a_this 10 = v := ⟨_, rfl⟩
            have e141 : I109 a_this 10 = x139 := (hF.i t_this (by decide) nm0 rfl).trans e140
            have r142 : (-2147483648 : Int) ≤ x139 ∧ x139 ≤ 2147483647 := by rw [← e141]; exact g5_10 hM.2.2.2.2.2.2.1 t40
            refine c_geti (k := 10) pk_X1 B hM t40 kd5 rfl (by decide) fl_X1_73 dX1_tell_192 e141 ?_
            have e143 : I109 a_this 19 = x1 := (hF.i t_this (by decide) nm0 rfl).trans e2
            have e144 : I109 g_pl 2 = x4 := (hF.i p_7 (by decide) nm0 rfl).trans e5
            have e145 : I109 a_this 0 = I a_this 0 := (w2_ne hu110 (Or.inl (tne t40 tb47 (by decide)))).trans e113
            have e146 : I109 g_fl 2 = x37 := (w2_ne hu110 (Or.inl (tne t44 tb47 (by decide)))).trans e114
            have hFt := hF
            have hMt := hM
            have hv147 : ((-2147483648 : Int) ≤ a_m ∧ (a_m : Int) ≤ 2147483647) ∧ ((-2147483648 : Int) ≤ x139 ∧ (x139 : Int) ≤ 2147483647) := by first | omega | exact ⟨by first | omega | assumption | exact trivial, by first | omega | assumption | exact trivial⟩
            refine z_calli hM hA (c_runV (n := 2) (as := [.int (II a_m), .int (II x139)]) (rest := [.ref b47]) B hX hA hM hl.1 tb59 kd12 rfl (k_X5_isFirstProposal l D dA eA L_62 T_62 N_62 I109 J R60 b59 tb59 a_m hv147.1 x139 hv147.2 _ _) ml_X1_267 nm_X5_isFirstProposal ⟨rfl, rfl⟩ ⟨Nat.le_of_ble_eq_true rfl, Nat.le_of_ble_eq_true rfl⟩ dX1_tell_195 rfl rfl (Nat.le_of_ble_eq_true rfl) ⟨by show zc62 + 0 ≤ 2; omega, by show zs62 + 0 ≤ 759; omega⟩) (fun x149 ix149 L150 T151 N152 I153 J154 R155 dz156 dl157 H locs hp148 hMn => ?_)
            obtain ⟨yL150, yT151, yN152, yJ154, yR155, hFc158, hp148a⟩ := hp148
            obtain rfl := yL150.symm; obtain rfl := yT151.symm; obtain rfl := yN152.symm; obtain rfl := yJ154.symm; obtain rfl := yR155.symm
            replace hF : Fr mo_X1_tell [] T N I J R T_62 N_62 I153 J R60 := hF.trans hFc158 (by decide) e20
            have hM := hMn
            clear hMn
            replace hp148a : (0 : Int) ≤ x149 ∧ x149 ≤ 1 ∧ (True) := hp148a
            obtain ⟨hp148a_0, hp148a_1, hp148a_2⟩ := hp148a
            replace hvv : VVg I153 a_this g_vp g_vf g_pl := VVg.fr hvv t40 t50 t67 t56 hFc158 (fun _ _ => nm0) (by decide)
            replace hfu : FUg I153 R60 a_this g_fl := FUg.fr hfu hMt.2.2.2.2.2.2.1 hMt.2.2.2.2.2.2.2 t40 t44 hFc158 (fun _ _ => nm0) (by decide)
            clear hFt hMt
            refine q_ieq (tgt := 205) B dX1_tell_198 (by decide) (by unfold inr; omega) (fun c159 => ?_) (fun c159 => ?_)
            · refine q_con B dX1_tell_205 ?_
              have e160 : I153 a_this 0 = I a_this 0 := (hFc158.i t40 (by decide) nm0 rfl).trans e145
              have e161 : I153 g_fl 2 = x37 := (hFc158.i t44 (by decide) nm0 rfl).trans e146
              have hv162 : ((-2147483648 : Int) ≤ 0 ∧ (0 : Int) ≤ 2147483647) ∧ (0 ≤ (0 : Int)) ∧ ((0 : Int) ≤ 1) ∧ (I153 a_this 0 = I a_this 0) ∧ (I153 g_fl 2 = I_62 g_fl 2) := by first | omega | exact ⟨by first | omega | assumption | exact trivial, by first | omega | assumption | exact trivial, by first | omega | assumption | exact trivial, by first | omega | assumption | exact trivial, by first | omega | assumption | exact trivial⟩
              exact JJ206 0 I153 _ _ ls hM hF (lv_sub hl [0, 1, 2, 3, 4, 5, 6] rfl) hv162.1 hv162.2.1 hv162.2.2.1 hv162.2.2.2.1 hv162.2.2.2.2 (by exact hvv) (by exact hfu)
            · refine q_con B dX1_tell_201 ?_
              refine lv_goto (tgt := 206) B.1 B.2.1 dX1_tell_202 (by decide) ?_
              have e163 : I153 a_this 0 = I a_this 0 := (hFc158.i t40 (by decide) nm0 rfl).trans e145
              have e164 : I153 g_fl 2 = x37 := (hFc158.i t44 (by decide) nm0 rfl).trans e146
              have hv165 : ((-2147483648 : Int) ≤ 1 ∧ (1 : Int) ≤ 2147483647) ∧ (0 ≤ (1 : Int)) ∧ ((1 : Int) ≤ 1) ∧ (I153 a_this 0 = I a_this 0) ∧ (I153 g_fl 2 = I_62 g_fl 2) := by first | omega | exact ⟨by first | omega | assumption | exact trivial, by first | omega | assumption | exact trivial, by first | omega | assumption | exact trivial, by first | omega | assumption | exact trivial, by first | omega | assumption | exact trivial⟩
              exact JJ206 1 I153 _ _ ls hM hF (lv_sub hl [0, 1, 2, 3, 4, 5, 6] rfl) hv165.1 hv165.2.1 hv165.2.2.1 hv165.2.2.2.1 hv165.2.2.2.2 (by exact hvv) (by exact hfu)
        refine q_ieq (tgt := 174) B dX1_tell_159 (by decide) (by unfold inr; omega) (fun c166 => ?_) (fun c166 => ?_)
        · refine q_con B dX1_tell_174 ?_
          exact JJ175 0 _ _ ls hM (lv_sub hl [0, 1, 2, 3, 4, 5, 6] rfl) (by first | omega | assumption | exact trivial)
        · refine lv_aload_n B.1 B.2.1 dX1_tell_162 rfl (lv_at hl 3 rfl) ?_
          refine lv_aload B.1 B.2.1 dX1_tell_163 (lv_at hl 1 rfl) ?_
          have e167 : I106 b47 5 = x96 := (w2_ne hu107 (Or.inr (by decide))).trans e99
          refine c_geti (k := 5) pk_X2 B hM tb47 kd13 rfl (by decide) fl_X1_252 dX1_tell_165 e167 ?_
          have e168 : I106 a_this 19 = x1 := (hF.i t_this (by decide) nm0 rfl).trans e2
          have e169 : I106 g_pl 2 = x4 := (hF.i p_7 (by decide) nm0 rfl).trans e5
          have e170 : I106 a_this 0 = I a_this 0 := (w2_ne hu107 (Or.inl (tne t40 tb47 (by decide)))).trans e102
          have e171 : I106 g_fl 2 = x37 := (w2_ne hu107 (Or.inl (tne t44 tb47 (by decide)))).trans e103
          have hFt := hF
          have hMt := hM
          refine p_calli (c_runV (n := 1) (as := [.int (II x96)]) (rest := [.ref b47]) B hX hA hM hl.1 t62 kd9 rfl (k_X10_nearest l D dA eA L_62 T_62 N_62 I106 J R60 a_use t62 x96 (by first | omega | assumption | exact trivial) _ _) ml_X1_261 nm_X10_nearest ⟨rfl, rfl⟩ ⟨Nat.le_of_ble_eq_true rfl, Nat.le_of_ble_eq_true rfl⟩ dX1_tell_168 rfl rfl (Nat.le_of_ble_eq_true rfl) ⟨by show zc62 + 0 ≤ 2; omega, by show zs62 + 0 ≤ 759; omega⟩) (fun x173 ix173 hp172 => ?_)
          have hp172a := hp172
          clear hp172a
          clear hFt hMt
          refine lv_goto (tgt := 175) B.1 B.2.1 dX1_tell_171 (by decide) ?_
          exact JJ175 x173 _ _ ls hM (lv_sub hl [0, 1, 2, 3, 4, 5, 6] rfl) (by first | omega | assumption | exact trivial)
      refine q_clt (tgt := 62) B dX1_tell_44 (by decide) (by unfold inr; omega) (by unfold inr; omega) (fun c174 => ?_) (fun c174 => ?_)
      · have hv175 : (I18 a_this 0 = I a_this 0) ∧ (I g_fl 2 ≤ I18 g_fl 2) ∧ (I a_this 0 < I18 g_fl 2) ∧ (0 ≤ 2 * (I18 g_fl 2 - I g_fl 2)) ∧ (0 + 3 * ((N (R g_fl 1 - 1) : Nat) : Int) ≤ 11 * (I18 g_fl 2 - I g_fl 2) + 3 * ((N (R g_fl 1 - 1) : Nat) : Int)) ∧ (0 ≤ (2 : Int)) ∧ (0 ≤ (759 : Int)) := by first | omega | exact ⟨by first | omega | assumption | exact trivial, by first | omega | assumption | exact trivial, by first | omega | assumption | exact trivial, by first | omega | assumption | exact trivial, by first | omega | assumption | exact trivial, by first | omega | assumption | exact trivial, by first | omega | assumption | exact trivial⟩
        exact JJ62 L T N I18 R 0 0 _ _ ls hM hF (lv_sub hl [0, 1, 2, 3, 4] rfl) hv175.1 hv175.2.1 hv175.2.2.1 hv175.2.2.2.1 hv175.2.2.2.2.1 hv175.2.2.2.2.2.1 hv175.2.2.2.2.2.2 (by exact hvv) (by exact hfu)
      · refine lv_aload_n B.1 B.2.1 dX1_tell_47 rfl (lv_at hl 0 rfl) ?_
        refine c_getn (k := 6) pk_X1 B hM t_this kd5 rfl (by decide) fl_X1_18 dX1_tell_48 p_0 ?_
        have hMo := hM
        refine c_new (t := 41) pk_X2 B hX.out hA hM kd41 df_X2 rfl rfl (by decide) cl_X1_226 in_X2 ini_X2 (by show 0 + 1 ≤ 2; omega) (by show 0 + 9 ≤ 759; omega) dX1_tell_51 (fun b176 L177 T178 N179 H t180 hT181 hN182 hM => ?_)
        have t183 : T178 b176 = 41 := by rw [hT181, va_up_self]
        have n184 : N179 b176 = 9 := by rw [hN182, va_up_self]
        replace hF : Fr mo_X1_tell [] T N I J R T178 N179 I18 J R := hF.new t180 hT181 hN182
        have zz185 := hMo.2.2.2.2.2.1 b176 t180
        clear hMo
        refine lv_dup B.1 B.2.1 dX1_tell_54 rfl ?_
        have hFt := hF
        have hMt := hM
        refine z_callv hM hA (c_runIN (host := "CustomsDesk") (n := 0) (as := []) (rest := [.ref b176, .ref g_fl]) B hX hA hM hl.1 (k_X2_init l D dA eA L177 T178 N179 I18 J R b176 t183 zz185 _ _) hX.2.2.2.2.2.2.2.2.1.2.2.1 mlN_X2_init nm_X2_init ⟨rfl, rfl⟩ ⟨Nat.le_of_ble_eq_true rfl, Nat.le_of_ble_eq_true rfl⟩ dX1_tell_55 rfl rfl (Nat.le_of_ble_eq_true rfl) ⟨by show 0 + 1 + 0 ≤ 2; omega, by show 0 + 9 + 0 ≤ 759; omega⟩) (fun L188 T189 N190 I191 J192 R193 dz194 dl195 H locs hp186 hMn => ?_)
        obtain ⟨yI191, yJ192, yR193, hFc196, hp186a⟩ := hp186
        obtain rfl := yI191.symm; obtain rfl := yJ192.symm; obtain rfl := yR193.symm
        have t197 : T178 a_this = 5 := hF.tt t_this (by decide) nm0
        have t198 : T178 a_use = 9 := hF.tt t_use (by decide) nm0
        have t199 : T178 g_fl = 23 := hF.tt p_1 (by decide) nm0
        have t200 : T178 g_vp = 90 := hF.tt p_3 (by decide) nm0
        have t201 : T178 g_vf = 91 := hF.tt p_5 (by decide) nm0
        have t202 : T178 g_pl = 22 := hF.tt p_7 (by decide) nm0
        replace hF : Fr mo_X1_tell [] T N I J R T189 N190 I18 J R := hF.trans hFc196 (by decide) (e2x (fun h => absurd t180 h))
        have hM := hMn
        clear hMn
        obtain ⟨t203, hp186a⟩ := hp186a
        clear hp186a
        clear hFt hMt
        have hnn : N190 (R g_fl 1 - 1) = N (R g_fl 1 - 1) := edN2 hC0 p_1 (by decide) (by decide) hF rfl
        have hFt := hF
        have hMt := hM
        have t204 : T189 g_fl = 23 := hF.tt p_1 (by decide) nm0
        obtain ⟨x205, e206⟩ : ∃ v, I18 b176 0 = v := ⟨_, rfl⟩
        have hv207 : (15 ≤ 23) ∧ (23 ≤ 23) ∧ (I18 g_fl 2 < 500) ∧ (23 = 18 → I18 b176 0 ≤ I18 g_fl 2) := by first | omega | exact ⟨by first | omega | assumption | exact trivial, by first | omega | assumption | exact trivial, by first | omega | assumption | exact trivial, by first | omega | assumption | exact trivial⟩
        refine g_calli hM hA (c_runV (n := 1) (as := [.ref b176]) (rest := []) B hX hA hM hl.1 t204 kd23 rfl (k_Jx4a65c_add_9ea2d l D dA eA L188 T189 N190 I18 J R g_fl t204 b176 t203 hv207.1 hv207.2.1 hv207.2.2.1 hv207.2.2.2 _ _) ml_X1_229 nm_Jx4a65c_add_9ea2d ⟨rfl, rfl⟩ ⟨Nat.le_of_ble_eq_true rfl, Nat.le_of_ble_eq_true rfl⟩ dX1_tell_58 rfl rfl (Nat.le_of_ble_eq_true rfl) ⟨by show 0 + 1 + 1 ≤ 2; omega, by show 0 + 9 + 750 ≤ 759; omega⟩) (fun x209 ix209 L210 T211 N212 I213 J214 R215 dz216 dl217 H locs hp208 hMn => ?_)
        obtain ⟨yJ214, hFc218, hp208a⟩ := hp208
        obtain rfl := yJ214.symm
        have t219 : T189 a_this = 5 := hF.tt t_this (by decide) nm0
        have t220 : T189 a_use = 9 := hF.tt t_use (by decide) nm0
        have t221 : T189 g_vp = 90 := hF.tt p_3 (by decide) nm0
        have t222 : T189 g_vf = 91 := hF.tt p_5 (by decide) nm0
        have t223 : T189 g_pl = 22 := hF.tt p_7 (by decide) nm0
        replace hF : Fr mo_X1_tell [] T N I J R T211 N212 I213 J R215 := hF.trans hFc218 (by decide) e20
        have hM := hMn
        clear hMn
        replace hp208a : (0 : Int) ≤ x209 ∧ x209 ≤ 1 ∧ (I213 g_fl 2 = I18 g_fl 2 + 1 ∧ R215 (R215 g_fl 1 - 1) (I18 g_fl 2).toNat = b176 + 1 ∧ (∀ i : Nat, (i : Int) < I18 g_fl 2 → R215 (R215 g_fl 1 - 1) i = R (R g_fl 1 - 1) i) ∧ (∀ b, T189 b = 23 → b ≠ g_fl → I213 b 2 = I18 b 2) ∧ dz216 ≤ 1 ∧ dl217 ≤ 750 ∧ dl217 + 3 * N190 (R g_fl 1 - 1) ≤ 3 * N212 (R215 g_fl 1 - 1) + 2) := hp208a
        obtain ⟨hp208a_0, hp208a_1, hp208a_2⟩ := hp208a
        obtain ⟨hp208a_2_0, hp208a_2_1, hp208a_2_2, hp208a_2_3, hp208a_2_4, hp208a_2_5, hp208a_2_6⟩ := hp208a_2
        obtain ⟨v224, e225⟩ : ∃ v, R215 g_fl 1 = v := ⟨_, rfl⟩
        replace hvv : VVg I213 a_this g_vp g_vf g_pl := VVg.fr hvv t219 t221 t222 t223 hFc218 (fun _ _ => nm0) (by decide)
        have e226 : I213 a_this 0 = x12 := (hFc218.i t219 (by decide) nm0 rfl).trans e22
        replace hfu : FUg I213 R215 a_this g_fl := FUg.ad hfu hMt.2.2.2.2.2.2.1 hMt.2.2.2.2.2.2.2 t204 hFc218 (by decide) (by omega) (by omega) hp208a_2_2
        clear hFt hMt
        refine lv_pop B.1 B.2.1 dX1_tell_61 rfl ?_
        have hv227 : (I213 a_this 0 = I a_this 0) ∧ (I g_fl 2 ≤ I213 g_fl 2) ∧ (I a_this 0 < I213 g_fl 2) ∧ ((0 + 1 + dz216 : Int) ≤ 2 * (I213 g_fl 2 - I g_fl 2)) ∧ ((0 + 9 + dl217 : Int) + 3 * ((N (R g_fl 1 - 1) : Nat) : Int) ≤ 11 * (I213 g_fl 2 - I g_fl 2) + 3 * ((N212 (R215 g_fl 1 - 1) : Nat) : Int)) ∧ ((0 + 1 + dz216 : Int) ≤ (2 : Int)) ∧ ((0 + 9 + dl217 : Int) ≤ (759 : Int)) := by first | omega | exact ⟨by first | omega | assumption | exact trivial, by first | omega | assumption | exact trivial, by first | omega | assumption | exact trivial, by first | omega | assumption | exact trivial, by first | omega | assumption | exact trivial, by first | omega | assumption | exact trivial, by first | omega | assumption | exact trivial⟩
        exact JJ62 L210 T211 N212 I213 R215 (0 + 1 + dz216) (0 + 9 + dl217) _ _ ls hM hF (lv_sub hl [0, 1, 2, 3, 4] rfl) hv227.1 hv227.2.1 hv227.2.2.1 hv227.2.2.2.1 hv227.2.2.2.2.1 hv227.2.2.2.2.2.1 hv227.2.2.2.2.2.2 (by exact hvv) (by exact hfu)
  refine q_ine (tgt := 15) B dX1_tell_5 (by decide) (by unfold inr; omega) (fun c228 => ?_) (fun c228 => ?_)
  · refine q_con B dX1_tell_15 ?_
    refine lv_goto (tgt := 20) B.1 B.2.1 dX1_tell_16 (by decide) ?_
    have hv229 : ((-2147483648 : Int) ≤ 1 ∧ (1 : Int) ≤ 2147483647) ∧ (0 ≤ (1 : Int)) ∧ ((1 : Int) ≤ 1) := by first | omega | exact ⟨by first | omega | assumption | exact trivial, by first | omega | assumption | exact trivial, by first | omega | assumption | exact trivial⟩
    exact JJ20 1 _ _ ls hM (lv_sub hl [0, 1, 2, 3, 4] rfl) hv229.1 hv229.2.1 hv229.2.2
  · refine lv_aload_n B.1 B.2.1 dX1_tell_8 rfl (lv_at hl 1 rfl) ?_
    obtain ⟨x230, e231⟩ : ∃ v, I a_use 5 = v := ⟨_, rfl⟩
    have r232 : (-2147483648 : Int) ≤ x230 ∧ x230 ≤ 2147483647 := by rw [← e231]; exact g9_5 hM.2.2.2.2.2.2.1 t_use
    refine c_geti (k := 5) pk_X10 B hM t_use kd9 rfl (by decide) fl_X1_223 dX1_tell_9 e231 ?_
    refine q_ine (tgt := 19) B dX1_tell_12 (by decide) (by unfold inr; omega) (fun c233 => ?_) (fun c233 => ?_)
    · refine q_con B dX1_tell_19 ?_
      have hv234 : ((-2147483648 : Int) ≤ 0 ∧ (0 : Int) ≤ 2147483647) ∧ (0 ≤ (0 : Int)) ∧ ((0 : Int) ≤ 1) := by first | omega | exact ⟨by first | omega | assumption | exact trivial, by first | omega | assumption | exact trivial, by first | omega | assumption | exact trivial⟩
      exact JJ20 0 _ _ ls hM (lv_sub hl [0, 1, 2, 3, 4] rfl) hv234.1 hv234.2.1 hv234.2.2
    · refine q_con B dX1_tell_15 ?_
      refine lv_goto (tgt := 20) B.1 B.2.1 dX1_tell_16 (by decide) ?_
      have hv235 : ((-2147483648 : Int) ≤ 1 ∧ (1 : Int) ≤ 2147483647) ∧ (0 ≤ (1 : Int)) ∧ ((1 : Int) ≤ 1) := by first | omega | exact ⟨by first | omega | assumption | exact trivial, by first | omega | assumption | exact trivial, by first | omega | assumption | exact trivial⟩
      exact JJ20 1 _ _ ls hM (lv_sub hl [0, 1, 2, 3, 4] rfl) hv235.1 hv235.2.1 hv235.2.2
