def mo_X1_askPaper : List Nat := [2368, 265, 261, 262, 512, 513, 514, 1632, 263, 264, 167, 160, 736, 737, 738, 1856, 416, 417, 418, 419, 420, 421, 422, 423, 424, 2816, 169]
set_option maxHeartbeats 1000000 in
set_option maxRecDepth 20000 in
theorem k_X1_askPaper (l : Launch) (D : va_G) (dA : Nat → ClassId) (eA : Nat) (L : List Nat) (T N : Nat → Nat) (I : Nat → Nat → Int) (J : Nat → Nat → Int64) (R : Nat → Nat → Nat) (a_this : Nat) (t_this : T a_this = 5) (a_at : Int) (i_at : (-2147483648 : Int) ≤ a_at ∧ a_at ≤ 2147483647) (g_b : Nat) (g_ru : Nat) (g_f : Nat) (g_fl : Nat) (g_vp : Nat) (g_vf : Nat) (g_pl : Nat) (p_0 : R a_this 4 = g_b + 1) (p_1 : T g_b = 6) (p_2 : R g_b 0 = g_ru + 1) (p_3 : T g_ru = 15) (p_4 : R g_b 1 = g_f + 1) (p_5 : T g_f = 16) (p_6 : R a_this 6 = g_fl + 1) (p_7 : T g_fl = 23) (p_8 : R a_this 13 = g_vp + 1) (p_9 : T g_vp = 90) (p_10 : R a_this 14 = g_vf + 1) (p_11 : T g_vf = 91) (p_12 : R a_this 5 = g_pl + 1) (p_13 : T g_pl = 22) (p_14 : FLq I R g_ru g_f) (p_15 : VVg I a_this g_vp g_vf g_pl) (p_16 : FUg I R a_this g_fl) (p_17 : (I a_this 0 ≤ I g_fl 2 ∨ 500 ≤ I g_fl 2)) (p_18 : 0 ≤ a_at) (p_19 : a_at < I a_this 19) (p_20 : I a_this 0 ≤ I a_this 9) : GC l yX1_askPaper cX1_askPaper 5 none ({ frames := 11, cells := (16 - I g_f 2).toNat + 2 * (500 - I g_fl 2).toNat + 4, slots := 24 * (16 - I g_f 2).toNat + 11 * (500 - I g_fl 2).toNat + 3 * (750 - N (R g_fl 1 - 1)) + 807, locals := 338 }) D dA eA L T N I J R [.ref a_this, .int (II a_at)] ((16 - I g_f 2).toNat + 2 * (500 - I g_fl 2).toNat + 4) (24 * (16 - I g_f 2).toNat + 11 * (500 - I g_fl 2).toNat + 3 * (750 - N (R g_fl 1 - 1)) + 807) (gV (fun L' T' N' I' J' R' dz dl => J' = J ∧ Fr mo_X1_askPaper [] T N I J R T' N' I' J' R' ∧ FLq I' R' g_ru g_f ∧ FUg I' R' a_this g_fl ∧ (I' a_this 0 ≤ I' g_fl 2 ∨ 500 ≤ I' g_fl 2) ∧ I' a_this 0 ≤ I' a_this 9 ∧ I g_f 2 ≤ I' g_f 2 ∧ I g_fl 2 ≤ I' g_fl 2 ∧ (dz : Int) ≤ (I' g_f 2 - I g_f 2) + 2 * (I' g_fl 2 - I g_fl 2) ∧ (dl : Int) + 3 * ((N (R g_fl 1 - 1) : Nat) : Int) ≤ 24 * (I' g_f 2 - I g_f 2) + 11 * (I' g_fl 2 - I g_fl 2) + 3 * ((N' (R' g_fl 1 - 1) : Nat) : Int))) := by
  generalize hPST : (gV (fun L' T' N' I' J' R' dz dl => J' = J ∧ Fr mo_X1_askPaper [] T N I J R T' N' I' J' R' ∧ FLq I' R' g_ru g_f ∧ FUg I' R' a_this g_fl ∧ (I' a_this 0 ≤ I' g_fl 2 ∨ 500 ≤ I' g_fl 2) ∧ I' a_this 0 ≤ I' a_this 9 ∧ I g_f 2 ≤ I' g_f 2 ∧ I g_fl 2 ≤ I' g_fl 2 ∧ (dz : Int) ≤ (I' g_f 2 - I g_f 2) + 2 * (I' g_fl 2 - I g_fl 2) ∧ (dl : Int) + 3 * ((N (R g_fl 1 - 1) : Nat) : Int) ≤ 24 * (I' g_f 2 - I g_f 2) + 11 * (I' g_fl 2 - I g_fl 2) + 3 * ((N' (R' g_fl 1 - 1) : Nat) : Int))) = PST
  refine g_enter (own := RX1) (by decide) rfl (Nat.le_of_ble_eq_true rfl) (fun p e s m args below meth c ls hm B hX hM hl => ?_)
  have hC0 := hM.2.2.2.2.2.2.1
  have hW0 := hM.2.2.2
  have hF : Fr mo_X1_askPaper [] T N I J R T N I J R := Fr.rf
  have hA : ∀ q, s.heap.size ≤ q → cF dA L T N I J R s.heap.size q := fun q h => Or.inr h
  have hl : lv_has ls 5 [(0, .ref a_this), (1, .int (II a_at))] := hl
  obtain ⟨x1, e2⟩ : ∃ v, I a_this 19 = v := ⟨_, rfl⟩
  have r3 : (0 : Int) ≤ x1 ∧ x1 ≤ 1600 := by rw [← e2]; exact g5_19 hM.2.2.2.2.2.2.1 t_this
  obtain ⟨x4, e5⟩ : ∃ v, I g_pl 2 = v := ⟨_, rfl⟩
  have r6 : (0 : Int) ≤ x4 ∧ x4 ≤ 200 := by rw [← e5]; exact g22_2 hM.2.2.2.2.2.2.1 p_13
  obtain ⟨v7, e8⟩ : ∃ v, R g_fl 1 = v := ⟨_, rfl⟩
  obtain ⟨x9, e10⟩ : ∃ v, I g_fl 2 = v := ⟨_, rfl⟩
  have r11 : (0 : Int) ≤ x9 ∧ x9 ≤ 500 := by rw [← e10]; exact g23_2 hM.2.2.2.2.2.2.1 p_7
  obtain ⟨x12, e13⟩ : ∃ v, I a_this 0 = v := ⟨_, rfl⟩
  have r14 : (0 : Int) ≤ x12 ∧ x12 ≤ 5000 := by rw [← e13]; exact g5_0 hM.2.2.2.2.2.2.1 t_this
  obtain ⟨x15, e16⟩ : ∃ v, I g_f 2 = v := ⟨_, rfl⟩
  have r17 : (0 : Int) ≤ x15 ∧ x15 ≤ 16 := by rw [← e16]; exact g16_2 hM.2.2.2.2.2.2.1 p_5
  obtain ⟨x18, e19⟩ : ∃ v, I a_this 9 = v := ⟨_, rfl⟩
  have r20 : (0 : Int) ≤ x18 ∧ x18 ≤ 5000 := by rw [← e19]; exact g5_9 hM.2.2.2.2.2.2.1 t_this
  have hfl := p_14
  have hvv := p_15
  have hfu := p_16
  have hnb := edBF hM.2.2.2.2.2.2.1 p_7
  refine lv_aload_n B.1 B.2.1 dX1_askPaper_0 rfl (lv_at hl 0 rfl) ?_
  refine c_getn (k := 5) pk_X1 B hM t_this kd5 rfl (by decide) fl_X1_9 dX1_askPaper_1 p_12 ?_
  refine lv_aload_n B.1 B.2.1 dX1_askPaper_4 rfl (lv_at hl 0 rfl) ?_
  refine c_getn (k := 13) pk_X1 B hM t_this kd5 rfl (by decide) fl_X1_25 dX1_askPaper_5 p_8 ?_
  refine lv_iload_n B.1 B.2.1 dX1_askPaper_8 rfl (lv_at hl 1 rfl) ?_
  have hva := VVg.at hvv (i := a_at) (by omega) (by omega)
  have n21 : 1600 ≤ N g_vp ∧ N g_vp ≤ 1600 := gn90 hM.2.2.2.2.2.2.1 p_9
  obtain ⟨x22, e23⟩ : ∃ v, I g_vp a_at.toNat = v := ⟨_, rfl⟩
  have r24 : (0 : Int) ≤ x22 ∧ x22 ≤ 199 := by rw [← e23]; exact ga90 hM.2.2.2.2.2.2.1 p_9 (by omega)
  refine c_ild B hM p_9 kd90 an90 dX1_askPaper_9 (by omega) (by omega) e23 ?_
  obtain ⟨x25, e26⟩ : ∃ v, I g_ru 2 = v := ⟨_, rfl⟩
  have hFt := hF
  have hMt := hM
  have hv27 : ((-2147483648 : Int) ≤ x22 ∧ (x22 : Int) ≤ 2147483647) ∧ (15 ≤ 22) ∧ (22 ≤ 23) ∧ (0 ≤ x22) ∧ (x22 < I g_pl 2) := by first | omega | exact ⟨by first | omega | assumption | exact trivial, by first | omega | assumption | exact trivial, by first | omega | assumption | exact trivial, by first | omega | assumption | exact trivial, by first | omega | assumption | exact trivial⟩
  refine p_callr (c_runV (n := 1) (as := [.int (II x22)]) (rest := []) B hX hA hM hl.1 p_13 kd22 rfl (k_Jx4a65c_get_915e3 l D dA eA L T N I J R g_pl p_13 x22 hv27.1 hv27.2.1 hv27.2.2.1 hv27.2.2.2.1 hv27.2.2.2.2 _ _) ml_X1_85 nm_Jx4a65c_get_915e3 ⟨rfl, rfl⟩ ⟨Nat.le_of_ble_eq_true rfl, Nat.le_of_ble_eq_true rfl⟩ dX1_askPaper_10 rfl rfl (Nat.le_of_ble_eq_true rfl) ⟨by show 0 + 0 ≤ ((16 - I g_f 2).toNat + 2 * (500 - I g_fl 2).toNat + 4); omega, by show 0 + 0 ≤ (24 * (16 - I g_f 2).toNat + 11 * (500 - I g_fl 2).toNat + 3 * (750 - N (R g_fl 1 - 1)) + 807); omega⟩) (fun b29 hp28 => ?_)
  obtain ⟨tb29, hp28a⟩ := hp28
  replace hp28a : R (R g_pl 1 - 1) x22.toNat = b29 + 1 := hp28a
  clear hFt hMt
  refine c_cast B hM tb29 kd12 rfl cl_X1_116 dX1_askPaper_13 ?_
  obtain ⟨b30, e31, t32⟩ := g12_0 hC0 tb29
  refine c_getn (k := 0) pk_X5 B hM tb29 kd12 rfl (by decide) fl_X1_121 dX1_askPaper_16 e31 ?_
  refine lv_astore_n (lv' := [(2, .ref b30), (0, .ref a_this), (1, .int (II a_at))]) B.1 B.2.1 dX1_askPaper_19 rfl hl (by decide) rfl (fun ls hl => ?_)
  refine q_con B dX1_askPaper_20 ?_
  refine lv_istore_n (lv' := [(3, .int (II 0)), (2, .ref b30), (0, .ref a_this), (1, .int (II a_at))]) B.1 B.2.1 dX1_askPaper_21 rfl hl (by decide) rfl (fun ls hl => ?_)
  have LL22 : ∀ NN : Nat, ∀ (v22_3 : Int) (L_22 : List Nat) (T_22 : Nat → Nat) (N_22 : Nat → Nat) (I_22 : Nat → Nat → Int) (R_22 : Nat → Nat → Nat) (zc22 zs22 : Nat) (H : Heap) (locs : List Loc) (ls : Array Slot), (CWd D dA eA (cF dA L T N I J R s.heap.size) s.heap L_22 T_22 N_22 I_22 J R_22 H locs) → (Fr mo_X1_askPaper [] T N I J R T_22 N_22 I_22 J R_22) → lv_has ls 5 [(2, .ref b30), (0, .ref a_this), (1, .int (II a_at)), (3, .int (II v22_3))] → ((-2147483648 : Int) ≤ v22_3 ∧ v22_3 ≤ 2147483647) → (0 ≤ v22_3) → (v22_3 ≤ 16) → (I_22 a_this 0 ≤ I_22 a_this 9) → (I g_f 2 ≤ I_22 g_f 2) → (I g_fl 2 ≤ I_22 g_fl 2) → ((zc22 : Int) ≤ (I_22 g_f 2 - I g_f 2) + 2 * (I_22 g_fl 2 - I g_fl 2)) → ((zs22 : Int) + 3 * ((N (R g_fl 1 - 1) : Nat) : Int) ≤ 24 * (I_22 g_f 2 - I g_f 2) + 11 * (I_22 g_fl 2 - I g_fl 2) + 3 * ((N_22 (R_22 g_fl 1 - 1) : Nat) : Int)) → ((I_22 a_this 0 ≤ I_22 g_fl 2 ∨ 500 ≤ I_22 g_fl 2)) → (FLq I_22 R_22 g_ru g_f) → (VVg I_22 a_this g_vp g_vf g_pl) → (FUg I_22 R_22 a_this g_fl) → (0 ≤ 17 - v22_3) → (17 - v22_3 < (NN : Int)) → W p l e ({ frames := 11, cells := (16 - I g_f 2).toNat + 2 * (500 - I g_fl 2).toNat + 4, slots := 24 * (16 - I g_f 2).toNat + 11 * (500 - I g_fl 2).toNat + 3 * (750 - N (R g_fl 1 - 1)) + 807, locals := 338 }) s m args below meth c H locs zc22 zs22 (MQ below (gQ D dA eA (cF dA L T N I J R s.heap.size) s.heap.size (hs s.heap) PST) args s ((16 - I g_f 2).toNat + 2 * (500 - I g_fl 2).toNat + 4) (24 * (16 - I g_f 2).toNat + 11 * (500 - I g_fl 2).toNat + 3 * (750 - N (R g_fl 1 - 1)) + 807) (cF dA L T N I J R s.heap.size)) (F0 m 22 ls []) := by
    intro NN
    induction NN with
    | zero => intro v22_3 L_22 T_22 N_22 I_22 R_22 zc22 zs22 H locs ls hM hF hl hLL22_0 hLL22_1 hLL22_2 hLL22_3 hLL22_4 hLL22_5 hLL22_6 hLL22_7 hLL22_8 hLL22_9 hLL22_10 hLL22_11 hLL22_12 hN; exfalso; omega
    | succ NN IH22 =>
      intro v22_3 L_22 T_22 N_22 I_22 R_22 zc22 zs22 H locs ls hM hF hl hLL22_0 hLL22_1 hLL22_2 hLL22_3 hLL22_4 hLL22_5 hLL22_6 hLL22_7 hLL22_8 hLL22_9 hLL22_10 hLL22_11 hLL22_12 hN
      have hfl : FLq I_22 R_22 g_ru g_f := by assumption
      have hvv : VVg I_22 a_this g_vp g_vf g_pl := by assumption
      have hfu : FUg I_22 R_22 a_this g_fl := by assumption
      obtain ⟨x33, e34⟩ : ∃ v, I_22 g_f 2 = v := ⟨_, rfl⟩
      have t35 : T_22 g_f = 16 := hF.tt p_5 (by decide) nm0
      have r36 : (0 : Int) ≤ x33 ∧ x33 ≤ 16 := by rw [← e34]; exact g16_2 hM.2.2.2.2.2.2.1 t35
      obtain ⟨x37, e38⟩ : ∃ v, I_22 g_fl 2 = v := ⟨_, rfl⟩
      have t39 : T_22 g_fl = 23 := hF.tt p_7 (by decide) nm0
      have r40 : (0 : Int) ≤ x37 ∧ x37 ≤ 500 := by rw [← e38]; exact g23_2 hM.2.2.2.2.2.2.1 t39
      obtain ⟨x41, e42⟩ : ∃ v, I_22 a_this 9 = v := ⟨_, rfl⟩
      have t43 : T_22 a_this = 5 := hF.tt t_this (by decide) nm0
      have r44 : (0 : Int) ≤ x41 ∧ x41 ≤ 5000 := by rw [← e42]; exact g5_9 hM.2.2.2.2.2.2.1 t43
      obtain ⟨x45, e46⟩ : ∃ v, I_22 a_this 0 = v := ⟨_, rfl⟩
      have hnb := edBF hM.2.2.2.2.2.2.1 t39
      have r47 : (0 : Int) ≤ x45 ∧ x45 ≤ 5000 := by rw [← e46]; exact g5_0 hM.2.2.2.2.2.2.1 t43
      have e48 : I_22 a_this 19 = x1 := (hF.i t_this (by decide) nm0 rfl).trans e2
      have e49 : I_22 g_pl 2 = x4 := (hF.i p_13 (by decide) nm0 rfl).trans e5
      refine lv_iload_n B.1 B.2.1 dX1_askPaper_22 rfl (lv_at hl 3 rfl) ?_
      refine lv_aload_n B.1 B.2.1 dX1_askPaper_23 rfl (lv_at hl 0 rfl) ?_
      have t50 : T_22 b30 = 11 := hF.tt t32 (by decide) nm0
      obtain ⟨b51, e52, t53⟩ := g11_2 hC0 t32
      have e54 : R_22 b30 2 = b51 + 1 := (hF.r t32 (by decide) nm0 rfl).trans e52
      refine c_getn (k := 2) pk_X3 B hM t50 kd11 rfl (by decide) fl_X1_145 dX1_askPaper_24 e54 ?_
      have t55 : T_22 b51 = 78 := hF.tt t53 (by decide) nm0
      have n56 : 1 ≤ N_22 b51 ∧ N_22 b51 ≤ 16 := gn78 hM.2.2.2.2.2.2.1 t55
      have n57 : N_22 b51 = N b51 := hF.n t53 (by decide) nm0
      refine c_len B hM t55 kd78 (by decide) dX1_askPaper_27 rfl ?_
      refine q_cge (tgt := 71) B dX1_askPaper_28 (by decide) (by unfold inr; omega) (by unfold inr; omega) (fun c58 => ?_) (fun c58 => ?_)
      · refine q_con B dX1_askPaper_71 ?_
        refine lv_istore_n (lv' := [(3, .int (II 0)), (2, .ref b30), (0, .ref a_this), (1, .int (II a_at))]) B.1 B.2.1 dX1_askPaper_72 rfl hl (by decide) rfl (fun ls hl => ?_)
        have LL73 : ∀ NN : Nat, ∀ (v73_3 : Int) (L_73 : List Nat) (T_73 : Nat → Nat) (N_73 : Nat → Nat) (I_73 : Nat → Nat → Int) (R_73 : Nat → Nat → Nat) (zc73 zs73 : Nat) (H : Heap) (locs : List Loc) (ls : Array Slot), (CWd D dA eA (cF dA L T N I J R s.heap.size) s.heap L_73 T_73 N_73 I_73 J R_73 H locs) → (Fr mo_X1_askPaper [] T N I J R T_73 N_73 I_73 J R_73) → lv_has ls 5 [(2, .ref b30), (0, .ref a_this), (1, .int (II a_at)), (3, .int (II v73_3))] → ((-2147483648 : Int) ≤ v73_3 ∧ v73_3 ≤ 2147483647) → (0 ≤ v73_3) → (v73_3 ≤ 12) → (I_73 a_this 0 ≤ I_73 a_this 9) → (I g_f 2 ≤ I_73 g_f 2) → (I g_fl 2 ≤ I_73 g_fl 2) → ((zc73 : Int) ≤ (I_73 g_f 2 - I g_f 2) + 2 * (I_73 g_fl 2 - I g_fl 2)) → ((zs73 : Int) + 3 * ((N (R g_fl 1 - 1) : Nat) : Int) ≤ 24 * (I_73 g_f 2 - I g_f 2) + 11 * (I_73 g_fl 2 - I g_fl 2) + 3 * ((N_73 (R_73 g_fl 1 - 1) : Nat) : Int)) → ((I_73 a_this 0 ≤ I_73 g_fl 2 ∨ 500 ≤ I_73 g_fl 2)) → (FLq I_73 R_73 g_ru g_f) → (VVg I_73 a_this g_vp g_vf g_pl) → (FUg I_73 R_73 a_this g_fl) → (0 ≤ 13 - v73_3) → (13 - v73_3 < (NN : Int)) → W p l e ({ frames := 11, cells := (16 - I g_f 2).toNat + 2 * (500 - I g_fl 2).toNat + 4, slots := 24 * (16 - I g_f 2).toNat + 11 * (500 - I g_fl 2).toNat + 3 * (750 - N (R g_fl 1 - 1)) + 807, locals := 338 }) s m args below meth c H locs zc73 zs73 (MQ below (gQ D dA eA (cF dA L T N I J R s.heap.size) s.heap.size (hs s.heap) PST) args s ((16 - I g_f 2).toNat + 2 * (500 - I g_fl 2).toNat + 4) (24 * (16 - I g_f 2).toNat + 11 * (500 - I g_fl 2).toNat + 3 * (750 - N (R g_fl 1 - 1)) + 807) (cF dA L T N I J R s.heap.size)) (F0 m 73 ls []) := by
          intro NN
          induction NN with
          | zero => intro v73_3 L_73 T_73 N_73 I_73 R_73 zc73 zs73 H locs ls hM hF hl hLL73_0 hLL73_1 hLL73_2 hLL73_3 hLL73_4 hLL73_5 hLL73_6 hLL73_7 hLL73_8 hLL73_9 hLL73_10 hLL73_11 hLL73_12 hN; exfalso; omega
          | succ NN IH73 =>
            intro v73_3 L_73 T_73 N_73 I_73 R_73 zc73 zs73 H locs ls hM hF hl hLL73_0 hLL73_1 hLL73_2 hLL73_3 hLL73_4 hLL73_5 hLL73_6 hLL73_7 hLL73_8 hLL73_9 hLL73_10 hLL73_11 hLL73_12 hN
            have hfl : FLq I_73 R_73 g_ru g_f := by assumption
            have hvv : VVg I_73 a_this g_vp g_vf g_pl := by assumption
            have hfu : FUg I_73 R_73 a_this g_fl := by assumption
            obtain ⟨x59, e60⟩ : ∃ v, I_73 g_f 2 = v := ⟨_, rfl⟩
            have t61 : T_73 g_f = 16 := hF.tt p_5 (by decide) nm0
            have r62 : (0 : Int) ≤ x59 ∧ x59 ≤ 16 := by rw [← e60]; exact g16_2 hM.2.2.2.2.2.2.1 t61
            obtain ⟨x63, e64⟩ : ∃ v, I_73 g_fl 2 = v := ⟨_, rfl⟩
            have t65 : T_73 g_fl = 23 := hF.tt p_7 (by decide) nm0
            have r66 : (0 : Int) ≤ x63 ∧ x63 ≤ 500 := by rw [← e64]; exact g23_2 hM.2.2.2.2.2.2.1 t65
            obtain ⟨x67, e68⟩ : ∃ v, I_73 a_this 9 = v := ⟨_, rfl⟩
            have t69 : T_73 a_this = 5 := hF.tt t_this (by decide) nm0
            have r70 : (0 : Int) ≤ x67 ∧ x67 ≤ 5000 := by rw [← e68]; exact g5_9 hM.2.2.2.2.2.2.1 t69
            obtain ⟨x71, e72⟩ : ∃ v, I_73 a_this 0 = v := ⟨_, rfl⟩
            have hnb := edBF hM.2.2.2.2.2.2.1 t65
            have r73 : (0 : Int) ≤ x71 ∧ x71 ≤ 5000 := by rw [← e72]; exact g5_0 hM.2.2.2.2.2.2.1 t69
            have e74 : I_73 a_this 19 = x1 := (hF.i t_this (by decide) nm0 rfl).trans e2
            have e75 : I_73 g_pl 2 = x4 := (hF.i p_13 (by decide) nm0 rfl).trans e5
            refine lv_iload_n B.1 B.2.1 dX1_askPaper_73 rfl (lv_at hl 3 rfl) ?_
            refine lv_aload_n B.1 B.2.1 dX1_askPaper_74 rfl (lv_at hl 0 rfl) ?_
            have t76 : T_73 b30 = 11 := hF.tt t32 (by decide) nm0
            obtain ⟨b77, e78, t79⟩ := g11_3 hC0 t32
            have e80 : R_73 b30 3 = b77 + 1 := (hF.r t32 (by decide) nm0 rfl).trans e78
            refine c_getn (k := 3) pk_X3 B hM t76 kd11 rfl (by decide) fl_X1_125 dX1_askPaper_75 e80 ?_
            have e81 : I_73 g_ru 2 = x25 := (hF.i p_3 (by decide) nm0 rfl).trans e26
            have hFt := hF
            have hMt := hM
            have t82 : T_73 b77 = 19 := hF.tt t79 (by decide) nm0
            have hv83 : (15 ≤ 19) ∧ (19 ≤ 23) := by first | omega | exact ⟨by first | omega | assumption | exact trivial, by first | omega | assumption | exact trivial⟩
            refine p_calli (c_runV (n := 0) (as := []) (rest := [.int (II v73_3)]) B hX hA hM hl.1 t82 kd19 rfl (k_Jx4a65c_size_8abf5 l D dA eA L_73 T_73 N_73 I_73 J R_73 b77 t82 hv83.1 hv83.2 _ _) ml_X1_81 nm_Jx4a65c_size_8abf5 ⟨rfl, rfl⟩ ⟨Nat.le_of_ble_eq_true rfl, Nat.le_of_ble_eq_true rfl⟩ dX1_askPaper_78 rfl rfl (Nat.le_of_ble_eq_true rfl) ⟨by show zc73 + 0 ≤ ((16 - I g_f 2).toNat + 2 * (500 - I g_fl 2).toNat + 4); omega, by show zs73 + 0 ≤ (24 * (16 - I g_f 2).toNat + 11 * (500 - I g_fl 2).toNat + 3 * (750 - N (R g_fl 1 - 1)) + 807); omega⟩) (fun x85 ix85 hp84 => ?_)
            have hp84a := hp84
            replace hp84a : I_73 b77 2 = x85 ∧ 0 ≤ x85 ∧ x85 ≤ 12 := hp84a
            obtain ⟨hp84a_0, hp84a_1, hp84a_2⟩ := hp84a
            clear hFt hMt
            refine q_cge (tgt := 110) B dX1_askPaper_81 (by decide) (by unfold inr; omega) (by unfold inr; omega) (fun c86 => ?_) (fun c86 => ?_)
            · obtain ⟨v87, e88⟩ : ∃ v, R_73 g_fl 1 = v := ⟨_, rfl⟩
              refine g_vret B hM dX1_askPaper_110 ⟨by show zc73 ≤ ((16 - I g_f 2).toNat + 2 * (500 - I g_fl 2).toNat + 4); omega, by show zs73 ≤ (24 * (16 - I g_f 2).toNat + 11 * (500 - I g_fl 2).toNat + 3 * (750 - N (R g_fl 1 - 1)) + 807); omega⟩ ?_
              rw [← hPST]
              exact ⟨rfl, rfl, hF, by exact hfl, by exact hfu, by first | omega | assumption | exact trivial, by first | omega | assumption | exact trivial, by first | omega | assumption | exact trivial, by first | omega | assumption | exact trivial, by first | omega | assumption | exact trivial, by first | omega | assumption | exact trivial⟩
            · refine lv_aload_n B.1 B.2.1 dX1_askPaper_84 rfl (lv_at hl 1 rfl) ?_
              refine lv_aload_n B.1 B.2.1 dX1_askPaper_85 rfl (lv_at hl 0 rfl) ?_
              refine c_getn (k := 3) pk_X3 B hM t76 kd11 rfl (by decide) fl_X1_125 dX1_askPaper_86 e80 ?_
              refine lv_iload_n B.1 B.2.1 dX1_askPaper_89 rfl (lv_at hl 3 rfl) ?_
              have hFt := hF
              have hMt := hM
              have hv89 : ((-2147483648 : Int) ≤ v73_3 ∧ (v73_3 : Int) ≤ 2147483647) ∧ (15 ≤ 19) ∧ (19 ≤ 23) ∧ (0 ≤ v73_3) ∧ (v73_3 < I_73 b77 2) := by first | omega | exact ⟨by first | omega | assumption | exact trivial, by first | omega | assumption | exact trivial, by first | omega | assumption | exact trivial, by first | omega | assumption | exact trivial, by first | omega | assumption | exact trivial⟩
              refine p_callr (c_runV (n := 1) (as := [.int (II v73_3)]) (rest := [.ref a_this]) B hX hA hM hl.1 t82 kd19 rfl (k_Jx4a65c_get_915e3 l D dA eA L_73 T_73 N_73 I_73 J R_73 b77 t82 v73_3 hv89.1 hv89.2.1 hv89.2.2.1 hv89.2.2.2.1 hv89.2.2.2.2 _ _) ml_X1_85 nm_Jx4a65c_get_915e3 ⟨rfl, rfl⟩ ⟨Nat.le_of_ble_eq_true rfl, Nat.le_of_ble_eq_true rfl⟩ dX1_askPaper_90 rfl rfl (Nat.le_of_ble_eq_true rfl) ⟨by show zc73 + 0 ≤ ((16 - I g_f 2).toNat + 2 * (500 - I g_fl 2).toNat + 4); omega, by show zs73 + 0 ≤ (24 * (16 - I g_f 2).toNat + 11 * (500 - I g_fl 2).toNat + 3 * (750 - N (R g_fl 1 - 1)) + 807); omega⟩) (fun b91 hp90 => ?_)
              obtain ⟨tb91, hp90a⟩ := hp90
              replace hp90a : R_73 (R_73 b77 1 - 1) v73_3.toNat = b91 + 1 := hp90a
              clear hFt hMt
              refine c_cast B hM tb91 kd10 rfl cl_X1_130 dX1_askPaper_93 ?_
              obtain ⟨b92, e93, t94⟩ := g10_4 hM.2.2.2.2.2.2.1 tb91
              refine c_getn (k := 4) pk_X8 B hM tb91 kd10 rfl (by decide) fl_X1_156 dX1_askPaper_96 e93 ?_
              refine lv_iload_n B.1 B.2.1 dX1_askPaper_99 rfl (lv_at hl 2 rfl) ?_
              refine lv_iload_n B.1 B.2.1 dX1_askPaper_100 rfl (lv_at hl 3 rfl) ?_
              have hFt := hF
              have hMt := hM
              have e95 : R_73 a_this 4 = g_b + 1 := (hF.r t_this (by decide) nm0 rfl).trans p_0
              have e96 : R_73 g_b 0 = g_ru + 1 := (hF.r p_1 (by decide) nm0 rfl).trans p_2
              have e97 : R_73 g_b 1 = g_f + 1 := (hF.r p_1 (by decide) nm0 rfl).trans p_4
              have e98 : R_73 a_this 6 = g_fl + 1 := (hF.r t_this (by decide) nm0 rfl).trans p_6
              have e99 : R_73 a_this 13 = g_vp + 1 := (hF.r t_this (by decide) nm0 rfl).trans p_8
              have e100 : R_73 a_this 14 = g_vf + 1 := (hF.r t_this (by decide) nm0 rfl).trans p_10
              have e101 : R_73 a_this 5 = g_pl + 1 := (hF.r t_this (by decide) nm0 rfl).trans p_12
              have t102 : T_73 g_b = 6 := hF.tt p_1 (by decide) nm0
              have t103 : T_73 g_ru = 15 := hF.tt p_3 (by decide) nm0
              have t104 : T_73 g_vp = 90 := hF.tt p_9 (by decide) nm0
              have t105 : T_73 g_vf = 91 := hF.tt p_11 (by decide) nm0
              have t106 : T_73 g_pl = 22 := hF.tt p_13 (by decide) nm0
              have hv107 : ((-2147483648 : Int) ≤ a_at ∧ (a_at : Int) ≤ 2147483647) ∧ ((-2147483648 : Int) ≤ v73_3 ∧ (v73_3 : Int) ≤ 2147483647) ∧ ((I_73 a_this 0 ≤ I_73 g_fl 2 ∨ 500 ≤ I_73 g_fl 2)) ∧ (0 ≤ a_at) ∧ (a_at < I_73 a_this 19) ∧ (I_73 a_this 0 ≤ I_73 a_this 9) := by first | omega | exact ⟨by first | omega | assumption | exact trivial, by first | omega | assumption | exact trivial, by first | omega | assumption | exact trivial, by first | omega | assumption | exact trivial, by first | omega | assumption | exact trivial, by first | omega | assumption | exact trivial⟩
              refine g_callv hM hA (c_runV (n := 3) (as := [.ref b92, .int (II a_at), .int (II v73_3)]) (rest := []) B hX hA hM hl.1 t69 kd5 rfl (k_X1_askUses l D dA eA L_73 T_73 N_73 I_73 J R_73 a_this t69 b92 t94 a_at hv107.1 v73_3 hv107.2.1 g_b g_ru g_f g_fl g_vp g_vf g_pl (show R_73 a_this 4 = g_b + 1 from e95) (show T_73 g_b = 6 from t102) (show R_73 g_b 0 = g_ru + 1 from e96) (show T_73 g_ru = 15 from t103) (show R_73 g_b 1 = g_f + 1 from e97) (show T_73 g_f = 16 from t61) (show R_73 a_this 6 = g_fl + 1 from e98) (show T_73 g_fl = 23 from t65) (show R_73 a_this 13 = g_vp + 1 from e99) (show T_73 g_vp = 90 from t104) (show R_73 a_this 14 = g_vf + 1 from e100) (show T_73 g_vf = 91 from t105) (show R_73 a_this 5 = g_pl + 1 from e101) (show T_73 g_pl = 22 from t106) (show FLq I_73 R_73 g_ru g_f from by exact hfl) (show VVg I_73 a_this g_vp g_vf g_pl from by exact hvv) (show FUg I_73 R_73 a_this g_fl from by exact hfu) hv107.2.2.1 hv107.2.2.2.1 hv107.2.2.2.2.1 hv107.2.2.2.2.2 _ _) ml_X1_159 nm_X1_askUses ⟨rfl, rfl⟩ ⟨Nat.le_of_ble_eq_true rfl, Nat.le_of_ble_eq_true rfl⟩ dX1_askPaper_101 rfl rfl (Nat.le_of_ble_eq_true rfl) ⟨by show zc73 + ((16 - I_73 g_f 2).toNat + 2 * (500 - I_73 g_fl 2).toNat + 4) ≤ ((16 - I g_f 2).toNat + 2 * (500 - I g_fl 2).toNat + 4); omega, by show zs73 + (24 * (16 - I_73 g_f 2).toNat + 11 * (500 - I_73 g_fl 2).toNat + 3 * (750 - N_73 (R_73 g_fl 1 - 1)) + 807) ≤ (24 * (16 - I g_f 2).toNat + 11 * (500 - I g_fl 2).toNat + 3 * (750 - N (R g_fl 1 - 1)) + 807); omega⟩) (fun L110 T111 N112 I113 J114 R115 dz116 dl117 H locs hp108 hMn => ?_)
              obtain ⟨yJ114, hFc118, hp108a⟩ := hp108
              obtain rfl := yJ114.symm
              have t119 : T_73 b29 = 12 := hF.tt tb29 (by decide) nm0
              have t120 : T_73 b51 = 78 := hF.tt t53 (by decide) nm0
              replace hF : Fr mo_X1_askPaper [] T N I J R T111 N112 I113 J R115 := hF.trans hFc118 (by decide) e20
              have hM := hMn
              clear hMn
              replace hp108a : FLq I113 R115 g_ru g_f ∧ FUg I113 R115 a_this g_fl ∧ (I113 a_this 0 ≤ I113 g_fl 2 ∨ 500 ≤ I113 g_fl 2) ∧ I113 a_this 0 ≤ I113 a_this 9 ∧ I_73 g_f 2 ≤ I113 g_f 2 ∧ I_73 g_fl 2 ≤ I113 g_fl 2 ∧ (dz116 : Int) ≤ (I113 g_f 2 - I_73 g_f 2) + 2 * (I113 g_fl 2 - I_73 g_fl 2) ∧ (dl117 : Int) + 3 * ((N_73 (R_73 g_fl 1 - 1) : Nat) : Int) ≤ 24 * (I113 g_f 2 - I_73 g_f 2) + 11 * (I113 g_fl 2 - I_73 g_fl 2) + 3 * ((N112 (R115 g_fl 1 - 1) : Nat) : Int) := hp108a
              obtain ⟨hp108a_0, hp108a_1, hp108a_2, hp108a_3, hp108a_4, hp108a_5, hp108a_6, hp108a_7⟩ := hp108a
              replace hfl : FLq I113 R115 g_ru g_f := by assumption
              replace hvv : VVg I113 a_this g_vp g_vf g_pl := VVg.fr hvv t69 t104 t105 t106 hFc118 (fun _ _ => nm0) (by decide)
              replace hfu : FUg I113 R115 a_this g_fl := by assumption
              have e121 : I113 a_this 19 = x1 := (hF.i t_this (by decide) nm0 rfl).trans e2
              have e122 : I113 g_pl 2 = x4 := (hF.i p_13 (by decide) nm0 rfl).trans e5
              obtain ⟨x123, e124⟩ : ∃ v, I113 a_this 0 = v := ⟨_, rfl⟩
              obtain ⟨x125, e126⟩ : ∃ v, I113 a_this 9 = v := ⟨_, rfl⟩
              obtain ⟨x127, e128⟩ : ∃ v, I113 g_fl 2 = v := ⟨_, rfl⟩
              obtain ⟨x129, e130⟩ : ∃ v, I113 g_f 2 = v := ⟨_, rfl⟩
              have e131 : I113 g_ru 2 = x25 := (hF.i p_3 (by decide) nm0 rfl).trans e26
              have t132 : T111 g_f = 16 := hF.tt p_5 (by decide) nm0
              have r133 : (0 : Int) ≤ x129 ∧ x129 ≤ 16 := by rw [← e130]; exact g16_2 hM.2.2.2.2.2.2.1 t132
              have t134 : T111 g_fl = 23 := hF.tt p_7 (by decide) nm0
              have r135 : (0 : Int) ≤ x127 ∧ x127 ≤ 500 := by rw [← e128]; exact g23_2 hM.2.2.2.2.2.2.1 t134
              have t136 : T111 a_this = 5 := hF.tt t_this (by decide) nm0
              have r137 : (0 : Int) ≤ x125 ∧ x125 ≤ 5000 := by rw [← e126]; exact g5_9 hM.2.2.2.2.2.2.1 t136
              clear hFt hMt
              refine q_inc (lv' := [(3, .int (II (v73_3 + 1))), (2, .ref b30), (0, .ref a_this), (1, .int (II a_at))]) B dX1_askPaper_104 hl (k := 3) rfl (by decide) rfl (fun ls hl => ?_)
              refine lv_goto (tgt := 73) B.1 B.2.1 dX1_askPaper_107 (by decide) ?_
              obtain ⟨v138, e139⟩ : ∃ v, R115 g_fl 1 = v := ⟨_, rfl⟩
              have hv140 : ((-2147483648 : Int) ≤ v73_3 + 1 ∧ (v73_3 + 1 : Int) ≤ 2147483647) ∧ (0 ≤ (v73_3 + 1)) ∧ ((v73_3 + 1) ≤ 12) ∧ (I113 a_this 0 ≤ I113 a_this 9) ∧ (I g_f 2 ≤ I113 g_f 2) ∧ (I g_fl 2 ≤ I113 g_fl 2) ∧ ((zc73 + dz116 : Int) ≤ (I113 g_f 2 - I g_f 2) + 2 * (I113 g_fl 2 - I g_fl 2)) ∧ ((zs73 + dl117 : Int) + 3 * ((N (R g_fl 1 - 1) : Nat) : Int) ≤ 24 * (I113 g_f 2 - I g_f 2) + 11 * (I113 g_fl 2 - I g_fl 2) + 3 * ((N112 (R115 g_fl 1 - 1) : Nat) : Int)) ∧ ((I113 a_this 0 ≤ I113 g_fl 2 ∨ 500 ≤ I113 g_fl 2)) ∧ (0 ≤ 13 - (v73_3 + 1)) := by first | omega | exact ⟨by first | omega | assumption | exact trivial, by first | omega | assumption | exact trivial, by first | omega | assumption | exact trivial, by first | omega | assumption | exact trivial, by first | omega | assumption | exact trivial, by first | omega | assumption | exact trivial, by first | omega | assumption | exact trivial, by first | omega | assumption | exact trivial, by first | omega | assumption | exact trivial, by first | omega | assumption | exact trivial⟩
              exact IH73 (v73_3 + 1) L110 T111 N112 I113 R115 (zc73 + dz116) (zs73 + dl117) _ _ ls hM hF (lv_sub hl [1, 2, 3, 0] rfl) hv140.1 hv140.2.1 hv140.2.2.1 hv140.2.2.2.1 hv140.2.2.2.2.1 hv140.2.2.2.2.2.1 hv140.2.2.2.2.2.2.1 hv140.2.2.2.2.2.2.2.1 hv140.2.2.2.2.2.2.2.2.1 (by exact hfl) (by exact hvv) (by exact hfu) hv140.2.2.2.2.2.2.2.2.2 (by omega)
        obtain ⟨v141, e142⟩ : ∃ v, R_22 g_fl 1 = v := ⟨_, rfl⟩
        have hv143 : ((-2147483648 : Int) ≤ 0 ∧ (0 : Int) ≤ 2147483647) ∧ (0 ≤ (0 : Int)) ∧ ((0 : Int) ≤ 12) ∧ (I_22 a_this 0 ≤ I_22 a_this 9) ∧ (I g_f 2 ≤ I_22 g_f 2) ∧ (I g_fl 2 ≤ I_22 g_fl 2) ∧ ((zc22 : Int) ≤ (I_22 g_f 2 - I g_f 2) + 2 * (I_22 g_fl 2 - I g_fl 2)) ∧ ((zs22 : Int) + 3 * ((N (R g_fl 1 - 1) : Nat) : Int) ≤ 24 * (I_22 g_f 2 - I g_f 2) + 11 * (I_22 g_fl 2 - I g_fl 2) + 3 * ((N_22 (R_22 g_fl 1 - 1) : Nat) : Int)) ∧ ((I_22 a_this 0 ≤ I_22 g_fl 2 ∨ 500 ≤ I_22 g_fl 2)) ∧ (0 ≤ 13 - (0 : Int)) := by first | omega | exact ⟨by first | omega | assumption | exact trivial, by first | omega | assumption | exact trivial, by first | omega | assumption | exact trivial, by first | omega | assumption | exact trivial, by first | omega | assumption | exact trivial, by first | omega | assumption | exact trivial, by first | omega | assumption | exact trivial, by first | omega | assumption | exact trivial, by first | omega | assumption | exact trivial, by first | omega | assumption | exact trivial⟩
        exact LL73 (Int.toNat (13 - (0 : Int) + 1)) 0 L_22 T_22 N_22 I_22 R_22 zc22 zs22 _ _ ls hM hF (lv_sub hl [1, 2, 3, 0] rfl) hv143.1 hv143.2.1 hv143.2.2.1 hv143.2.2.2.1 hv143.2.2.2.2.1 hv143.2.2.2.2.2.1 hv143.2.2.2.2.2.2.1 hv143.2.2.2.2.2.2.2.1 hv143.2.2.2.2.2.2.2.2.1 (by exact hfl) (by exact hvv) (by exact hfu) hv143.2.2.2.2.2.2.2.2.2 (by omega)
      · refine lv_aload_n B.1 B.2.1 dX1_askPaper_31 rfl (lv_at hl 1 rfl) ?_
        have e144 : R_22 a_this 4 = g_b + 1 := (hF.r t_this (by decide) nm0 rfl).trans p_0
        refine c_getn (k := 4) pk_X1 B hM t43 kd5 rfl (by decide) fl_X1_66 dX1_askPaper_32 e144 ?_
        refine lv_aload_n B.1 B.2.1 dX1_askPaper_35 rfl (lv_at hl 0 rfl) ?_
        refine c_getn (k := 2) pk_X3 B hM t50 kd11 rfl (by decide) fl_X1_145 dX1_askPaper_36 e54 ?_
        refine lv_iload_n B.1 B.2.1 dX1_askPaper_39 rfl (lv_at hl 3 rfl) ?_
        obtain ⟨x145, e146⟩ : ∃ v, I b51 v22_3.toNat = v := ⟨_, rfl⟩
        have e147 : I_22 b51 v22_3.toNat = x145 := (hF.i t53 (by decide) nm0 (by rw [cd_arr (j := 0) (by decide)]; rfl)).trans e146
        have r148 : (-2147483648 : Int) ≤ x145 ∧ x145 ≤ 2147483647 := by rw [← e147]; exact ga78 hM.2.2.2.2.2.2.1 t55 (by omega)
        refine c_ild B hM t55 kd78 an78 dX1_askPaper_40 (by omega) (by omega) e147 ?_
        have e149 : I_22 g_ru 2 = x25 := (hF.i p_3 (by decide) nm0 rfl).trans e26
        have hFt := hF
        have hMt := hM
        have t150 : T_22 g_b = 6 := hF.tt p_1 (by decide) nm0
        refine p_callq (c_runV (n := 1) (as := [.int (II x145)]) (rest := []) B hX hA hM hl.1 t150 kd6 rfl (k_X0_kindAt l D dA eA L_22 T_22 N_22 I_22 J R_22 g_b t150 x145 (by first | omega | assumption | exact trivial) _ _) ml_X1_148 nm_X0_kindAt ⟨rfl, rfl⟩ ⟨Nat.le_of_ble_eq_true rfl, Nat.le_of_ble_eq_true rfl⟩ dX1_askPaper_41 rfl rfl (Nat.le_of_ble_eq_true rfl) ⟨by show zc22 + 0 ≤ ((16 - I g_f 2).toNat + 2 * (500 - I g_fl 2).toNat + 4); omega, by show zs22 + 0 ≤ (24 * (16 - I g_f 2).toNat + 11 * (500 - I g_fl 2).toNat + 3 * (750 - N (R g_fl 1 - 1)) + 807); omega⟩) (fun v152 hp151 => ?_)
        obtain ⟨qv152, hp151a⟩ := hp151
        replace hp151a : v152 = 0 ∨ (0 ≤ x145 ∧ I_22 (v152 - 1) 0 ≤ x145) := hp151a
        clear hFt hMt
        refine c_astore (lv' := [(4, cv v152), (2, .ref b30), (0, .ref a_this), (1, .int (II a_at)), (3, .int (II v22_3))]) B dX1_askPaper_44 hl (by decide) (by first | rfl | simp [cv_cat]) (fun ls hl => ?_)
        refine c_aload B dX1_askPaper_46 (lv_at hl 0 rfl) ?_
        rcases qv152 with rfl | ⟨b153, rfl, t154⟩
        · have hl : lv_has ls 5 [(4, .null), (2, .ref b30), (0, .ref a_this), (1, .int (II a_at)), (3, .int (II v22_3))] := hl
          refine lv_ifnullN (tgt := 65) B.1 B.2.1 dX1_askPaper_48 (by decide) ?_
          refine q_inc (lv' := [(3, .int (II (v22_3 + 1))), (4, .null), (2, .ref b30), (0, .ref a_this), (1, .int (II a_at))]) B dX1_askPaper_65 hl (k := 4) rfl (by decide) rfl (fun ls hl => ?_)
          refine lv_goto (tgt := 22) B.1 B.2.1 dX1_askPaper_68 (by decide) ?_
          obtain ⟨v155, e156⟩ : ∃ v, R_22 g_fl 1 = v := ⟨_, rfl⟩
          have hv157 : ((-2147483648 : Int) ≤ v22_3 + 1 ∧ (v22_3 + 1 : Int) ≤ 2147483647) ∧ (0 ≤ (v22_3 + 1)) ∧ ((v22_3 + 1) ≤ 16) ∧ (I_22 a_this 0 ≤ I_22 a_this 9) ∧ (I g_f 2 ≤ I_22 g_f 2) ∧ (I g_fl 2 ≤ I_22 g_fl 2) ∧ ((zc22 : Int) ≤ (I_22 g_f 2 - I g_f 2) + 2 * (I_22 g_fl 2 - I g_fl 2)) ∧ ((zs22 : Int) + 3 * ((N (R g_fl 1 - 1) : Nat) : Int) ≤ 24 * (I_22 g_f 2 - I g_f 2) + 11 * (I_22 g_fl 2 - I g_fl 2) + 3 * ((N_22 (R_22 g_fl 1 - 1) : Nat) : Int)) ∧ ((I_22 a_this 0 ≤ I_22 g_fl 2 ∨ 500 ≤ I_22 g_fl 2)) ∧ (0 ≤ 17 - (v22_3 + 1)) := by first | omega | exact ⟨by first | omega | assumption | exact trivial, by first | omega | assumption | exact trivial, by first | omega | assumption | exact trivial, by first | omega | assumption | exact trivial, by first | omega | assumption | exact trivial, by first | omega | assumption | exact trivial, by first | omega | assumption | exact trivial, by first | omega | assumption | exact trivial, by first | omega | assumption | exact trivial, by first | omega | assumption | exact trivial⟩
          exact IH22 (v22_3 + 1) L_22 T_22 N_22 I_22 R_22 zc22 zs22 _ _ ls hM hF (lv_sub hl [2, 3, 4, 0] rfl) hv157.1 hv157.2.1 hv157.2.2.1 hv157.2.2.2.1 hv157.2.2.2.2.1 hv157.2.2.2.2.2.1 hv157.2.2.2.2.2.2.1 hv157.2.2.2.2.2.2.2.1 hv157.2.2.2.2.2.2.2.2.1 (by exact hfl) (by exact hvv) (by exact hfu) hv157.2.2.2.2.2.2.2.2.2 (by omega)
        · have hl : lv_has ls 5 [(4, .ref b153), (2, .ref b30), (0, .ref a_this), (1, .int (II a_at)), (3, .int (II v22_3))] := hl
          refine lv_ifnull B.1 B.2.1 dX1_askPaper_48 ?_
          refine lv_aload_n B.1 B.2.1 dX1_askPaper_51 rfl (lv_at hl 2 rfl) ?_
          refine lv_aload B.1 B.2.1 dX1_askPaper_52 (lv_at hl 0 rfl) ?_
          obtain ⟨b158, e159, t160⟩ := g11_5 hM.2.2.2.2.2.2.1 t154
          refine c_getn (k := 5) pk_X3 B hM t154 kd11 rfl (by decide) fl_X1_152 dX1_askPaper_54 e159 ?_
          obtain ⟨b161, e162, t163⟩ := g10_4 hM.2.2.2.2.2.2.1 t160
          refine c_getn (k := 4) pk_X8 B hM t160 kd10 rfl (by decide) fl_X1_156 dX1_askPaper_57 e162 ?_
          refine lv_iload_n B.1 B.2.1 dX1_askPaper_60 rfl (lv_at hl 3 rfl) ?_
          refine q_con B dX1_askPaper_61 ?_
          have hFt := hF
          have hMt := hM
          have e164 : R_22 g_b 0 = g_ru + 1 := (hF.r p_1 (by decide) nm0 rfl).trans p_2
          have e165 : R_22 g_b 1 = g_f + 1 := (hF.r p_1 (by decide) nm0 rfl).trans p_4
          have e166 : R_22 a_this 6 = g_fl + 1 := (hF.r t_this (by decide) nm0 rfl).trans p_6
          have e167 : R_22 a_this 13 = g_vp + 1 := (hF.r t_this (by decide) nm0 rfl).trans p_8
          have e168 : R_22 a_this 14 = g_vf + 1 := (hF.r t_this (by decide) nm0 rfl).trans p_10
          have e169 : R_22 a_this 5 = g_pl + 1 := (hF.r t_this (by decide) nm0 rfl).trans p_12
          have t170 : T_22 g_ru = 15 := hF.tt p_3 (by decide) nm0
          have t171 : T_22 g_vp = 90 := hF.tt p_9 (by decide) nm0
          have t172 : T_22 g_vf = 91 := hF.tt p_11 (by decide) nm0
          have t173 : T_22 g_pl = 22 := hF.tt p_13 (by decide) nm0
          have hv174 : ((-2147483648 : Int) ≤ a_at ∧ (a_at : Int) ≤ 2147483647) ∧ ((-2147483648 : Int) ≤ -1 ∧ (-1 : Int) ≤ 2147483647) ∧ ((I_22 a_this 0 ≤ I_22 g_fl 2 ∨ 500 ≤ I_22 g_fl 2)) ∧ (0 ≤ a_at) ∧ (a_at < I_22 a_this 19) ∧ (I_22 a_this 0 ≤ I_22 a_this 9) := by first | omega | exact ⟨by first | omega | assumption | exact trivial, by first | omega | assumption | exact trivial, by first | omega | assumption | exact trivial, by first | omega | assumption | exact trivial, by first | omega | assumption | exact trivial, by first | omega | assumption | exact trivial⟩
          refine g_callv hM hA (c_runV (n := 3) (as := [.ref b161, .int (II a_at), .int (II (-1))]) (rest := []) B hX hA hM hl.1 t43 kd5 rfl (k_X1_askUses l D dA eA L_22 T_22 N_22 I_22 J R_22 a_this t43 b161 t163 a_at hv174.1 (-1) hv174.2.1 g_b g_ru g_f g_fl g_vp g_vf g_pl (show R_22 a_this 4 = g_b + 1 from e144) (show T_22 g_b = 6 from t150) (show R_22 g_b 0 = g_ru + 1 from e164) (show T_22 g_ru = 15 from t170) (show R_22 g_b 1 = g_f + 1 from e165) (show T_22 g_f = 16 from t35) (show R_22 a_this 6 = g_fl + 1 from e166) (show T_22 g_fl = 23 from t39) (show R_22 a_this 13 = g_vp + 1 from e167) (show T_22 g_vp = 90 from t171) (show R_22 a_this 14 = g_vf + 1 from e168) (show T_22 g_vf = 91 from t172) (show R_22 a_this 5 = g_pl + 1 from e169) (show T_22 g_pl = 22 from t173) (show FLq I_22 R_22 g_ru g_f from by exact hfl) (show VVg I_22 a_this g_vp g_vf g_pl from by exact hvv) (show FUg I_22 R_22 a_this g_fl from by exact hfu) hv174.2.2.1 hv174.2.2.2.1 hv174.2.2.2.2.1 hv174.2.2.2.2.2 _ _) ml_X1_159 nm_X1_askUses ⟨rfl, rfl⟩ ⟨Nat.le_of_ble_eq_true rfl, Nat.le_of_ble_eq_true rfl⟩ dX1_askPaper_62 rfl rfl (Nat.le_of_ble_eq_true rfl) ⟨by show zc22 + ((16 - I_22 g_f 2).toNat + 2 * (500 - I_22 g_fl 2).toNat + 4) ≤ ((16 - I g_f 2).toNat + 2 * (500 - I g_fl 2).toNat + 4); omega, by show zs22 + (24 * (16 - I_22 g_f 2).toNat + 11 * (500 - I_22 g_fl 2).toNat + 3 * (750 - N_22 (R_22 g_fl 1 - 1)) + 807) ≤ (24 * (16 - I g_f 2).toNat + 11 * (500 - I g_fl 2).toNat + 3 * (750 - N (R g_fl 1 - 1)) + 807); omega⟩) (fun L177 T178 N179 I180 J181 R182 dz183 dl184 H locs hp175 hMn => ?_)
          obtain ⟨yJ181, hFc185, hp175a⟩ := hp175
          obtain rfl := yJ181.symm
          have t186 : T_22 b29 = 12 := hF.tt tb29 (by decide) nm0
          replace hF : Fr mo_X1_askPaper [] T N I J R T178 N179 I180 J R182 := hF.trans hFc185 (by decide) e20
          have hM := hMn
          clear hMn
          replace hp175a : FLq I180 R182 g_ru g_f ∧ FUg I180 R182 a_this g_fl ∧ (I180 a_this 0 ≤ I180 g_fl 2 ∨ 500 ≤ I180 g_fl 2) ∧ I180 a_this 0 ≤ I180 a_this 9 ∧ I_22 g_f 2 ≤ I180 g_f 2 ∧ I_22 g_fl 2 ≤ I180 g_fl 2 ∧ (dz183 : Int) ≤ (I180 g_f 2 - I_22 g_f 2) + 2 * (I180 g_fl 2 - I_22 g_fl 2) ∧ (dl184 : Int) + 3 * ((N_22 (R_22 g_fl 1 - 1) : Nat) : Int) ≤ 24 * (I180 g_f 2 - I_22 g_f 2) + 11 * (I180 g_fl 2 - I_22 g_fl 2) + 3 * ((N179 (R182 g_fl 1 - 1) : Nat) : Int) := hp175a
          obtain ⟨hp175a_0, hp175a_1, hp175a_2, hp175a_3, hp175a_4, hp175a_5, hp175a_6, hp175a_7⟩ := hp175a
          replace hfl : FLq I180 R182 g_ru g_f := by assumption
          replace hvv : VVg I180 a_this g_vp g_vf g_pl := VVg.fr hvv t43 t171 t172 t173 hFc185 (fun _ _ => nm0) (by decide)
          replace hfu : FUg I180 R182 a_this g_fl := by assumption
          have e187 : I180 a_this 19 = x1 := (hF.i t_this (by decide) nm0 rfl).trans e2
          have e188 : I180 g_pl 2 = x4 := (hF.i p_13 (by decide) nm0 rfl).trans e5
          obtain ⟨x189, e190⟩ : ∃ v, I180 a_this 0 = v := ⟨_, rfl⟩
          obtain ⟨x191, e192⟩ : ∃ v, I180 a_this 9 = v := ⟨_, rfl⟩
          obtain ⟨x193, e194⟩ : ∃ v, I180 g_fl 2 = v := ⟨_, rfl⟩
          obtain ⟨x195, e196⟩ : ∃ v, I180 g_f 2 = v := ⟨_, rfl⟩
          have e197 : I180 g_ru 2 = x25 := (hF.i p_3 (by decide) nm0 rfl).trans e26
          have t198 : T178 g_f = 16 := hF.tt p_5 (by decide) nm0
          have r199 : (0 : Int) ≤ x195 ∧ x195 ≤ 16 := by rw [← e196]; exact g16_2 hM.2.2.2.2.2.2.1 t198
          have t200 : T178 g_fl = 23 := hF.tt p_7 (by decide) nm0
          have r201 : (0 : Int) ≤ x193 ∧ x193 ≤ 500 := by rw [← e194]; exact g23_2 hM.2.2.2.2.2.2.1 t200
          have t202 : T178 a_this = 5 := hF.tt t_this (by decide) nm0
          have r203 : (0 : Int) ≤ x191 ∧ x191 ≤ 5000 := by rw [← e192]; exact g5_9 hM.2.2.2.2.2.2.1 t202
          clear hFt hMt
          refine q_inc (lv' := [(3, .int (II (v22_3 + 1))), (4, .ref b153), (2, .ref b30), (0, .ref a_this), (1, .int (II a_at))]) B dX1_askPaper_65 hl (k := 4) rfl (by decide) rfl (fun ls hl => ?_)
          refine lv_goto (tgt := 22) B.1 B.2.1 dX1_askPaper_68 (by decide) ?_
          obtain ⟨v204, e205⟩ : ∃ v, R182 g_fl 1 = v := ⟨_, rfl⟩
          have hv206 : ((-2147483648 : Int) ≤ v22_3 + 1 ∧ (v22_3 + 1 : Int) ≤ 2147483647) ∧ (0 ≤ (v22_3 + 1)) ∧ ((v22_3 + 1) ≤ 16) ∧ (I180 a_this 0 ≤ I180 a_this 9) ∧ (I g_f 2 ≤ I180 g_f 2) ∧ (I g_fl 2 ≤ I180 g_fl 2) ∧ ((zc22 + dz183 : Int) ≤ (I180 g_f 2 - I g_f 2) + 2 * (I180 g_fl 2 - I g_fl 2)) ∧ ((zs22 + dl184 : Int) + 3 * ((N (R g_fl 1 - 1) : Nat) : Int) ≤ 24 * (I180 g_f 2 - I g_f 2) + 11 * (I180 g_fl 2 - I g_fl 2) + 3 * ((N179 (R182 g_fl 1 - 1) : Nat) : Int)) ∧ ((I180 a_this 0 ≤ I180 g_fl 2 ∨ 500 ≤ I180 g_fl 2)) ∧ (0 ≤ 17 - (v22_3 + 1)) := by first | omega | exact ⟨by first | omega | assumption | exact trivial, by first | omega | assumption | exact trivial, by first | omega | assumption | exact trivial, by first | omega | assumption | exact trivial, by first | omega | assumption | exact trivial, by first | omega | assumption | exact trivial, by first | omega | assumption | exact trivial, by first | omega | assumption | exact trivial, by first | omega | assumption | exact trivial, by first | omega | assumption | exact trivial⟩
          exact IH22 (v22_3 + 1) L177 T178 N179 I180 R182 (zc22 + dz183) (zs22 + dl184) _ _ ls hM hF (lv_sub hl [2, 3, 4, 0] rfl) hv206.1 hv206.2.1 hv206.2.2.1 hv206.2.2.2.1 hv206.2.2.2.2.1 hv206.2.2.2.2.2.1 hv206.2.2.2.2.2.2.1 hv206.2.2.2.2.2.2.2.1 hv206.2.2.2.2.2.2.2.2.1 (by exact hfl) (by exact hvv) (by exact hfu) hv206.2.2.2.2.2.2.2.2.2 (by omega)
  have hv207 : ((-2147483648 : Int) ≤ 0 ∧ (0 : Int) ≤ 2147483647) ∧ (0 ≤ (0 : Int)) ∧ ((0 : Int) ≤ 16) ∧ (I a_this 0 ≤ I a_this 9) ∧ (I g_f 2 ≤ I g_f 2) ∧ (I g_fl 2 ≤ I g_fl 2) ∧ (0 ≤ (I g_f 2 - I g_f 2) + 2 * (I g_fl 2 - I g_fl 2)) ∧ (0 + 3 * ((N (R g_fl 1 - 1) : Nat) : Int) ≤ 24 * (I g_f 2 - I g_f 2) + 11 * (I g_fl 2 - I g_fl 2) + 3 * ((N (R g_fl 1 - 1) : Nat) : Int)) ∧ ((I a_this 0 ≤ I g_fl 2 ∨ 500 ≤ I g_fl 2)) ∧ (0 ≤ 17 - (0 : Int)) := by first | omega | exact ⟨by first | omega | assumption | exact trivial, by first | omega | assumption | exact trivial, by first | omega | assumption | exact trivial, by first | omega | assumption | exact trivial, by first | omega | assumption | exact trivial, by first | omega | assumption | exact trivial, by first | omega | assumption | exact trivial, by first | omega | assumption | exact trivial, by first | omega | assumption | exact trivial, by first | omega | assumption | exact trivial⟩
  exact LL22 (Int.toNat (17 - (0 : Int) + 1)) 0 L T N I R 0 0 _ _ ls hM hF (lv_sub hl [1, 2, 3, 0] rfl) hv207.1 hv207.2.1 hv207.2.2.1 hv207.2.2.2.1 hv207.2.2.2.2.1 hv207.2.2.2.2.2.1 hv207.2.2.2.2.2.2.1 hv207.2.2.2.2.2.2.2.1 hv207.2.2.2.2.2.2.2.2.1 (by exact hfl) (by exact hvv) (by exact hfu) hv207.2.2.2.2.2.2.2.2.2 (by omega)
