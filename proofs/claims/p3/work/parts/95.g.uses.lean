def mo_X1_askUses : List Nat := [2368, 265, 261, 262, 512, 513, 514, 1632, 263, 264, 167, 160, 736, 737, 738, 1856, 416, 417, 418, 419, 420, 421, 422, 423, 424, 2816, 169]
set_option maxHeartbeats 1000000 in
set_option maxRecDepth 20000 in
theorem k_X1_askUses (l : Launch) (D : va_G) (dA : Nat → ClassId) (eA : Nat) (L : List Nat) (T N : Nat → Nat) (I : Nat → Nat → Int) (J : Nat → Nat → Int64) (R : Nat → Nat → Nat) (a_this : Nat) (t_this : T a_this = 5) (a_uses : Nat) (t_uses : T a_uses = 21) (a_at : Int) (i_at : (-2147483648 : Int) ≤ a_at ∧ a_at ≤ 2147483647) (a_m : Int) (i_m : (-2147483648 : Int) ≤ a_m ∧ a_m ≤ 2147483647) (g_b : Nat) (g_ru : Nat) (g_f : Nat) (g_fl : Nat) (g_vp : Nat) (g_vf : Nat) (g_pl : Nat) (p_0 : R a_this 4 = g_b + 1) (p_1 : T g_b = 6) (p_2 : R g_b 0 = g_ru + 1) (p_3 : T g_ru = 15) (p_4 : R g_b 1 = g_f + 1) (p_5 : T g_f = 16) (p_6 : R a_this 6 = g_fl + 1) (p_7 : T g_fl = 23) (p_8 : R a_this 13 = g_vp + 1) (p_9 : T g_vp = 90) (p_10 : R a_this 14 = g_vf + 1) (p_11 : T g_vf = 91) (p_12 : R a_this 5 = g_pl + 1) (p_13 : T g_pl = 22) (p_14 : FLq I R g_ru g_f) (p_15 : VVg I a_this g_vp g_vf g_pl) (p_16 : FUg I R a_this g_fl) (p_17 : (I a_this 0 ≤ I g_fl 2 ∨ 500 ≤ I g_fl 2)) (p_18 : 0 ≤ a_at) (p_19 : a_at < I a_this 19) (p_20 : I a_this 0 ≤ I a_this 9) : GC l yX1_askUses cX1_askUses 6 none ({ frames := 10, cells := (16 - I g_f 2).toNat + 2 * (500 - I g_fl 2).toNat + 4, slots := 24 * (16 - I g_f 2).toNat + 11 * (500 - I g_fl 2).toNat + 3 * (750 - N (R g_fl 1 - 1)) + 807, locals := 313 }) D dA eA L T N I J R [.ref a_this, .ref a_uses, .int (II a_at), .int (II a_m)] ((16 - I g_f 2).toNat + 2 * (500 - I g_fl 2).toNat + 4) (24 * (16 - I g_f 2).toNat + 11 * (500 - I g_fl 2).toNat + 3 * (750 - N (R g_fl 1 - 1)) + 807) (gV (fun L' T' N' I' J' R' dz dl => J' = J ∧ Fr mo_X1_askUses [] T N I J R T' N' I' J' R' ∧ FLq I' R' g_ru g_f ∧ FUg I' R' a_this g_fl ∧ (I' a_this 0 ≤ I' g_fl 2 ∨ 500 ≤ I' g_fl 2) ∧ I' a_this 0 ≤ I' a_this 9 ∧ I g_f 2 ≤ I' g_f 2 ∧ I g_fl 2 ≤ I' g_fl 2 ∧ (dz : Int) ≤ (I' g_f 2 - I g_f 2) + 2 * (I' g_fl 2 - I g_fl 2) ∧ (dl : Int) + 3 * ((N (R g_fl 1 - 1) : Nat) : Int) ≤ 24 * (I' g_f 2 - I g_f 2) + 11 * (I' g_fl 2 - I g_fl 2) + 3 * ((N' (R' g_fl 1 - 1) : Nat) : Int))) := by
  generalize hPST : (gV (fun L' T' N' I' J' R' dz dl => J' = J ∧ Fr mo_X1_askUses [] T N I J R T' N' I' J' R' ∧ FLq I' R' g_ru g_f ∧ FUg I' R' a_this g_fl ∧ (I' a_this 0 ≤ I' g_fl 2 ∨ 500 ≤ I' g_fl 2) ∧ I' a_this 0 ≤ I' a_this 9 ∧ I g_f 2 ≤ I' g_f 2 ∧ I g_fl 2 ≤ I' g_fl 2 ∧ (dz : Int) ≤ (I' g_f 2 - I g_f 2) + 2 * (I' g_fl 2 - I g_fl 2) ∧ (dl : Int) + 3 * ((N (R g_fl 1 - 1) : Nat) : Int) ≤ 24 * (I' g_f 2 - I g_f 2) + 11 * (I' g_fl 2 - I g_fl 2) + 3 * ((N' (R' g_fl 1 - 1) : Nat) : Int))) = PST
  refine g_enter (own := RX1) (by decide) rfl (Nat.le_of_ble_eq_true rfl) (fun p e s m args below meth c ls hm B hX hM hl => ?_)
  have hC0 := hM.2.2.2.2.2.2.1
  have hW0 := hM.2.2.2
  have hF : Fr mo_X1_askUses [] T N I J R T N I J R := Fr.rf
  have hA : ∀ q, s.heap.size ≤ q → cF dA L T N I J R s.heap.size q := fun q h => Or.inr h
  have hl : lv_has ls 6 [(0, .ref a_this), (1, .ref a_uses), (2, .int (II a_at)), (3, .int (II a_m))] := hl
  obtain ⟨x1, e2⟩ : ∃ v, I a_this 19 = v := ⟨_, rfl⟩
  have r3 : (0 : Int) ≤ x1 ∧ x1 ≤ 1600 := by rw [← e2]; exact g5_19 hM.2.2.2.2.2.2.1 t_this
  obtain ⟨x4, e5⟩ : ∃ v, I g_pl 2 = v := ⟨_, rfl⟩
  have r6 : (0 : Int) ≤ x4 ∧ x4 ≤ 200 := by rw [← e5]; exact g22_2 hM.2.2.2.2.2.2.1 p_13
  obtain ⟨v7, e8⟩ : ∃ v, R g_fl 1 = v := ⟨_, rfl⟩
  obtain ⟨x9, e10⟩ : ∃ v, I g_fl 2 = v := ⟨_, rfl⟩
  have r11 : (0 : Int) ≤ x9 ∧ x9 ≤ 500 := by rw [← e10]; exact g23_2 hM.2.2.2.2.2.2.1 p_7
  obtain ⟨x12, e13⟩ : ∃ v, I a_this 0 = v := ⟨_, rfl⟩
  have r14 : (0 : Int) ≤ x12 ∧ x12 ≤ 5000 := by rw [← e13]; exact g5_0 hM.2.2.2.2.2.2.1 t_this
  obtain ⟨x15, e16⟩ : ∃ v, I g_f 2 = v := ⟨_, rfl⟩
  have r17 : (0 : Int) ≤ x15 ∧ x15 ≤ 16 := by rw [← e16]; exact g16_2 hM.2.2.2.2.2.2.1 p_5
  obtain ⟨x18, e19⟩ : ∃ v, I a_this 9 = v := ⟨_, rfl⟩
  have r20 : (0 : Int) ≤ x18 ∧ x18 ≤ 5000 := by rw [← e19]; exact g5_9 hM.2.2.2.2.2.2.1 t_this
  have hfl := p_14
  have hvv := p_15
  have hfu := p_16
  have hnb := edBF hM.2.2.2.2.2.2.1 p_7
  refine q_con B dX1_askUses_0 ?_
  refine lv_istore (lv' := [(4, .int (II 0)), (0, .ref a_this), (1, .ref a_uses), (2, .int (II a_at)), (3, .int (II a_m))]) B.1 B.2.1 dX1_askUses_1 hl (by decide) rfl (fun ls hl => ?_)
  have LL3 : ∀ NN : Nat, ∀ (v3_4 : Int) (L_3 : List Nat) (T_3 : Nat → Nat) (N_3 : Nat → Nat) (I_3 : Nat → Nat → Int) (R_3 : Nat → Nat → Nat) (zc3 zs3 : Nat) (H : Heap) (locs : List Loc) (ls : Array Slot), (CWd D dA eA (cF dA L T N I J R s.heap.size) s.heap L_3 T_3 N_3 I_3 J R_3 H locs) → (Fr mo_X1_askUses [] T N I J R T_3 N_3 I_3 J R_3) → lv_has ls 6 [(0, .ref a_this), (1, .ref a_uses), (2, .int (II a_at)), (3, .int (II a_m)), (4, .int (II v3_4))] → ((-2147483648 : Int) ≤ v3_4 ∧ v3_4 ≤ 2147483647) → (0 ≤ v3_4) → (v3_4 ≤ 40) → (I_3 a_this 0 ≤ I_3 a_this 9) → (I g_f 2 ≤ I_3 g_f 2) → (I g_fl 2 ≤ I_3 g_fl 2) → ((zc3 : Int) ≤ (I_3 g_f 2 - I g_f 2) + 2 * (I_3 g_fl 2 - I g_fl 2)) → ((zs3 : Int) + 3 * ((N (R g_fl 1 - 1) : Nat) : Int) ≤ 24 * (I_3 g_f 2 - I g_f 2) + 11 * (I_3 g_fl 2 - I g_fl 2) + 3 * ((N_3 (R_3 g_fl 1 - 1) : Nat) : Int)) → ((I_3 a_this 0 ≤ I_3 g_fl 2 ∨ 500 ≤ I_3 g_fl 2)) → (FLq I_3 R_3 g_ru g_f) → (VVg I_3 a_this g_vp g_vf g_pl) → (FUg I_3 R_3 a_this g_fl) → (0 ≤ 41 - v3_4) → (41 - v3_4 < (NN : Int)) → W p l e ({ frames := 10, cells := (16 - I g_f 2).toNat + 2 * (500 - I g_fl 2).toNat + 4, slots := 24 * (16 - I g_f 2).toNat + 11 * (500 - I g_fl 2).toNat + 3 * (750 - N (R g_fl 1 - 1)) + 807, locals := 313 }) s m args below meth c H locs zc3 zs3 (MQ below (gQ D dA eA (cF dA L T N I J R s.heap.size) s.heap.size (hs s.heap) PST) args s ((16 - I g_f 2).toNat + 2 * (500 - I g_fl 2).toNat + 4) (24 * (16 - I g_f 2).toNat + 11 * (500 - I g_fl 2).toNat + 3 * (750 - N (R g_fl 1 - 1)) + 807) (cF dA L T N I J R s.heap.size)) (F0 m 3 ls []) := by
    intro NN
    induction NN with
    | zero => intro v3_4 L_3 T_3 N_3 I_3 R_3 zc3 zs3 H locs ls hM hF hl hLL3_0 hLL3_1 hLL3_2 hLL3_3 hLL3_4 hLL3_5 hLL3_6 hLL3_7 hLL3_8 hLL3_9 hLL3_10 hLL3_11 hLL3_12 hN; exfalso; omega
    | succ NN IH3 =>
      intro v3_4 L_3 T_3 N_3 I_3 R_3 zc3 zs3 H locs ls hM hF hl hLL3_0 hLL3_1 hLL3_2 hLL3_3 hLL3_4 hLL3_5 hLL3_6 hLL3_7 hLL3_8 hLL3_9 hLL3_10 hLL3_11 hLL3_12 hN
      have hfl : FLq I_3 R_3 g_ru g_f := by assumption
      have hvv : VVg I_3 a_this g_vp g_vf g_pl := by assumption
      have hfu : FUg I_3 R_3 a_this g_fl := by assumption
      obtain ⟨x21, e22⟩ : ∃ v, I_3 g_f 2 = v := ⟨_, rfl⟩
      have t23 : T_3 g_f = 16 := hF.tt p_5 (by decide) nm0
      have r24 : (0 : Int) ≤ x21 ∧ x21 ≤ 16 := by rw [← e22]; exact g16_2 hM.2.2.2.2.2.2.1 t23
      obtain ⟨x25, e26⟩ : ∃ v, I_3 g_fl 2 = v := ⟨_, rfl⟩
      have t27 : T_3 g_fl = 23 := hF.tt p_7 (by decide) nm0
      have r28 : (0 : Int) ≤ x25 ∧ x25 ≤ 500 := by rw [← e26]; exact g23_2 hM.2.2.2.2.2.2.1 t27
      obtain ⟨x29, e30⟩ : ∃ v, I_3 a_this 9 = v := ⟨_, rfl⟩
      have t31 : T_3 a_this = 5 := hF.tt t_this (by decide) nm0
      have r32 : (0 : Int) ≤ x29 ∧ x29 ≤ 5000 := by rw [← e30]; exact g5_9 hM.2.2.2.2.2.2.1 t31
      obtain ⟨x33, e34⟩ : ∃ v, I_3 a_this 0 = v := ⟨_, rfl⟩
      have hnb := edBF hM.2.2.2.2.2.2.1 t27
      have r35 : (0 : Int) ≤ x33 ∧ x33 ≤ 5000 := by rw [← e34]; exact g5_0 hM.2.2.2.2.2.2.1 t31
      have e36 : I_3 a_this 19 = x1 := (hF.i t_this (by decide) nm0 rfl).trans e2
      have e37 : I_3 g_pl 2 = x4 := (hF.i p_13 (by decide) nm0 rfl).trans e5
      refine lv_iload B.1 B.2.1 dX1_askUses_3 (lv_at hl 4 rfl) ?_
      refine lv_aload_n B.1 B.2.1 dX1_askUses_5 rfl (lv_at hl 1 rfl) ?_
      obtain ⟨x38, e39⟩ : ∃ v, I g_ru 2 = v := ⟨_, rfl⟩
      have e40 : I_3 g_ru 2 = x38 := (hF.i p_3 (by decide) nm0 rfl).trans e39
      have hFt := hF
      have hMt := hM
      have t41 : T_3 a_uses = 21 := hF.tt t_uses (by decide) nm0
      have hv42 : (15 ≤ 21) ∧ (21 ≤ 23) := by first | omega | exact ⟨by first | omega | assumption | exact trivial, by first | omega | assumption | exact trivial⟩
      refine p_calli (c_runV (n := 0) (as := []) (rest := [.int (II v3_4)]) B hX hA hM hl.1 t41 kd21 rfl (k_Jx4a65c_size_8abf5 l D dA eA L_3 T_3 N_3 I_3 J R_3 a_uses t41 hv42.1 hv42.2 _ _) ml_X1_81 nm_Jx4a65c_size_8abf5 ⟨rfl, rfl⟩ ⟨Nat.le_of_ble_eq_true rfl, Nat.le_of_ble_eq_true rfl⟩ dX1_askUses_6 rfl rfl (Nat.le_of_ble_eq_true rfl) ⟨by show zc3 + 0 ≤ ((16 - I g_f 2).toNat + 2 * (500 - I g_fl 2).toNat + 4); omega, by show zs3 + 0 ≤ (24 * (16 - I g_f 2).toNat + 11 * (500 - I g_fl 2).toNat + 3 * (750 - N (R g_fl 1 - 1)) + 807); omega⟩) (fun x44 ix44 hp43 => ?_)
      have hp43a := hp43
      replace hp43a : I_3 a_uses 2 = x44 ∧ 0 ≤ x44 ∧ x44 ≤ 40 := hp43a
      obtain ⟨hp43a_0, hp43a_1, hp43a_2⟩ := hp43a
      clear hFt hMt
      refine q_cge (tgt := 129) B dX1_askUses_9 (by decide) (by unfold inr; omega) (by unfold inr; omega) (fun c45 => ?_) (fun c45 => ?_)
      · obtain ⟨v46, e47⟩ : ∃ v, R_3 g_fl 1 = v := ⟨_, rfl⟩
        refine g_vret B hM dX1_askUses_129 ⟨by show zc3 ≤ ((16 - I g_f 2).toNat + 2 * (500 - I g_fl 2).toNat + 4); omega, by show zs3 ≤ (24 * (16 - I g_f 2).toNat + 11 * (500 - I g_fl 2).toNat + 3 * (750 - N (R g_fl 1 - 1)) + 807); omega⟩ ?_
        rw [← hPST]
        exact ⟨rfl, rfl, hF, by exact hfl, by exact hfu, by first | omega | assumption | exact trivial, by first | omega | assumption | exact trivial, by first | omega | assumption | exact trivial, by first | omega | assumption | exact trivial, by first | omega | assumption | exact trivial, by first | omega | assumption | exact trivial⟩
      · refine lv_aload_n B.1 B.2.1 dX1_askUses_12 rfl (lv_at hl 0 rfl) ?_
        refine c_geti (k := 9) pk_X1 B hM t31 kd5 rfl (by decide) fl_X1_53 dX1_askUses_13 e30 ?_
        refine q_sip B dX1_askUses_16 (by decide) ?_
        refine q_cge (tgt := 129) B dX1_askUses_19 (by decide) (by unfold inr; omega) (by unfold inr; omega) (fun c48 => ?_) (fun c48 => ?_)
        · obtain ⟨v49, e50⟩ : ∃ v, R_3 g_fl 1 = v := ⟨_, rfl⟩
          refine g_vret B hM dX1_askUses_129 ⟨by show zc3 ≤ ((16 - I g_f 2).toNat + 2 * (500 - I g_fl 2).toNat + 4); omega, by show zs3 ≤ (24 * (16 - I g_f 2).toNat + 11 * (500 - I g_fl 2).toNat + 3 * (750 - N (R g_fl 1 - 1)) + 807); omega⟩ ?_
          rw [← hPST]
          exact ⟨rfl, rfl, hF, by exact hfl, by exact hfu, by first | omega | assumption | exact trivial, by first | omega | assumption | exact trivial, by first | omega | assumption | exact trivial, by first | omega | assumption | exact trivial, by first | omega | assumption | exact trivial, by first | omega | assumption | exact trivial⟩
        · refine lv_aload_n B.1 B.2.1 dX1_askUses_22 rfl (lv_at hl 1 rfl) ?_
          refine lv_iload B.1 B.2.1 dX1_askUses_23 (lv_at hl 4 rfl) ?_
          have hFt := hF
          have hMt := hM
          have hv51 : ((-2147483648 : Int) ≤ v3_4 ∧ (v3_4 : Int) ≤ 2147483647) ∧ (15 ≤ 21) ∧ (21 ≤ 23) ∧ (0 ≤ v3_4) ∧ (v3_4 < I_3 a_uses 2) := by first | omega | exact ⟨by first | omega | assumption | exact trivial, by first | omega | assumption | exact trivial, by first | omega | assumption | exact trivial, by first | omega | assumption | exact trivial, by first | omega | assumption | exact trivial⟩
          refine p_callr (c_runV (n := 1) (as := [.int (II v3_4)]) (rest := []) B hX hA hM hl.1 t41 kd21 rfl (k_Jx4a65c_get_915e3 l D dA eA L_3 T_3 N_3 I_3 J R_3 a_uses t41 v3_4 hv51.1 hv51.2.1 hv51.2.2.1 hv51.2.2.2.1 hv51.2.2.2.2 _ _) ml_X1_85 nm_Jx4a65c_get_915e3 ⟨rfl, rfl⟩ ⟨Nat.le_of_ble_eq_true rfl, Nat.le_of_ble_eq_true rfl⟩ dX1_askUses_25 rfl rfl (Nat.le_of_ble_eq_true rfl) ⟨by show zc3 + 0 ≤ ((16 - I g_f 2).toNat + 2 * (500 - I g_fl 2).toNat + 4); omega, by show zs3 + 0 ≤ (24 * (16 - I g_f 2).toNat + 11 * (500 - I g_fl 2).toNat + 3 * (750 - N (R g_fl 1 - 1)) + 807); omega⟩) (fun b53 hp52 => ?_)
          obtain ⟨tb53, hp52a⟩ := hp52
          replace hp52a : R_3 (R_3 a_uses 1 - 1) v3_4.toNat = b53 + 1 := hp52a
          clear hFt hMt
          refine c_cast B hM tb53 kd9 rfl cl_X1_163 dX1_askUses_28 ?_
          refine lv_astore (lv' := [(5, .ref b53), (0, .ref a_this), (1, .ref a_uses), (2, .int (II a_at)), (3, .int (II a_m)), (4, .int (II v3_4))]) B.1 B.2.1 dX1_askUses_31 hl (by decide) rfl (fun ls hl => ?_)
          refine lv_aload B.1 B.2.1 dX1_askUses_33 (lv_at hl 0 rfl) ?_
          obtain ⟨x54, e55⟩ : ∃ v, I_3 b53 0 = v := ⟨_, rfl⟩
          have r56 : (-2147483648 : Int) ≤ x54 ∧ x54 ≤ 2147483647 := by rw [← e55]; exact g9_0 hM.2.2.2.2.2.2.1 tb53
          refine c_geti (k := 0) pk_X10 B hM tb53 kd9 rfl (by decide) fl_X1_165 dX1_askUses_35 e55 ?_
          refine q_con B dX1_askUses_38 ?_
          refine q_ceq (tgt := 123) B dX1_askUses_39 (by decide) (by unfold inr; omega) (by unfold inr; omega) (fun c57 => ?_) (fun c57 => ?_)
          · refine q_inc (lv' := [(4, .int (II (v3_4 + 1))), (5, .ref b53), (0, .ref a_this), (1, .ref a_uses), (2, .int (II a_at)), (3, .int (II a_m))]) B dX1_askUses_123 hl (k := 5) rfl (by decide) rfl (fun ls hl => ?_)
            refine lv_goto (tgt := 3) B.1 B.2.1 dX1_askUses_126 (by decide) ?_
            obtain ⟨v58, e59⟩ : ∃ v, R_3 g_fl 1 = v := ⟨_, rfl⟩
            have hv60 : ((-2147483648 : Int) ≤ v3_4 + 1 ∧ (v3_4 + 1 : Int) ≤ 2147483647) ∧ (0 ≤ (v3_4 + 1)) ∧ ((v3_4 + 1) ≤ 40) ∧ (I_3 a_this 0 ≤ I_3 a_this 9) ∧ (I g_f 2 ≤ I_3 g_f 2) ∧ (I g_fl 2 ≤ I_3 g_fl 2) ∧ ((zc3 : Int) ≤ (I_3 g_f 2 - I g_f 2) + 2 * (I_3 g_fl 2 - I g_fl 2)) ∧ ((zs3 : Int) + 3 * ((N (R g_fl 1 - 1) : Nat) : Int) ≤ 24 * (I_3 g_f 2 - I g_f 2) + 11 * (I_3 g_fl 2 - I g_fl 2) + 3 * ((N_3 (R_3 g_fl 1 - 1) : Nat) : Int)) ∧ ((I_3 a_this 0 ≤ I_3 g_fl 2 ∨ 500 ≤ I_3 g_fl 2)) ∧ (0 ≤ 41 - (v3_4 + 1)) := by first | omega | exact ⟨by first | omega | assumption | exact trivial, by first | omega | assumption | exact trivial, by first | omega | assumption | exact trivial, by first | omega | assumption | exact trivial, by first | omega | assumption | exact trivial, by first | omega | assumption | exact trivial, by first | omega | assumption | exact trivial, by first | omega | assumption | exact trivial, by first | omega | assumption | exact trivial, by first | omega | assumption | exact trivial⟩
            exact IH3 (v3_4 + 1) L_3 T_3 N_3 I_3 R_3 zc3 zs3 _ _ ls hM hF (lv_sub hl [2, 3, 4, 5, 0] rfl) hv60.1 hv60.2.1 hv60.2.2.1 hv60.2.2.2.1 hv60.2.2.2.2.1 hv60.2.2.2.2.2.1 hv60.2.2.2.2.2.2.1 hv60.2.2.2.2.2.2.2.1 hv60.2.2.2.2.2.2.2.2.1 (by exact hfl) (by exact hvv) (by exact hfu) hv60.2.2.2.2.2.2.2.2.2 (by omega)
          · refine lv_aload_n B.1 B.2.1 dX1_askUses_42 rfl (lv_at hl 1 rfl) ?_
            obtain ⟨x61, e62⟩ : ∃ v, I a_this 12 = v := ⟨_, rfl⟩
            have e63 : I_3 a_this 12 = x61 := (hF.i t_this (by decide) nm0 rfl).trans e62
            have r64 : (-2147483648 : Int) ≤ x61 ∧ x61 ≤ 2147483647 := by rw [← e63]; exact g5_12 hM.2.2.2.2.2.2.1 t31
            refine c_geti (k := 12) pk_X1 B hM t31 kd5 rfl (by decide) fl_X1_101 dX1_askUses_43 e63 ?_
            refine q_con B dX1_askUses_46 ?_
            refine lv_aload B.1 B.2.1 dX1_askUses_47 (lv_at hl 0 rfl) ?_
            obtain ⟨x65, e66⟩ : ∃ v, I_3 b53 6 = v := ⟨_, rfl⟩
            have r67 : (-2147483648 : Int) ≤ x65 ∧ x65 ≤ 2147483647 := by rw [← e66]; exact g9_6 hM.2.2.2.2.2.2.1 tb53
            refine c_geti (k := 6) pk_X10 B hM tb53 kd9 rfl (by decide) fl_X1_168 dX1_askUses_49 e66 ?_
            refine q_shl B dX1_askUses_52 (fun x68 ix68 => ?_)
            unfold inr at ix68
            refine q_and B dX1_askUses_53 (fun x69 ix69 ex69 => ?_)
            unfold inr at ix69
            refine q_ieq (tgt := 123) B dX1_askUses_54 (by decide) (by unfold inr; omega) (fun c70 => ?_) (fun c70 => ?_)
            · refine q_inc (lv' := [(4, .int (II (v3_4 + 1))), (5, .ref b53), (0, .ref a_this), (1, .ref a_uses), (2, .int (II a_at)), (3, .int (II a_m))]) B dX1_askUses_123 hl (k := 5) rfl (by decide) rfl (fun ls hl => ?_)
              refine lv_goto (tgt := 3) B.1 B.2.1 dX1_askUses_126 (by decide) ?_
              obtain ⟨v71, e72⟩ : ∃ v, R_3 g_fl 1 = v := ⟨_, rfl⟩
              have hv73 : ((-2147483648 : Int) ≤ v3_4 + 1 ∧ (v3_4 + 1 : Int) ≤ 2147483647) ∧ (0 ≤ (v3_4 + 1)) ∧ ((v3_4 + 1) ≤ 40) ∧ (I_3 a_this 0 ≤ I_3 a_this 9) ∧ (I g_f 2 ≤ I_3 g_f 2) ∧ (I g_fl 2 ≤ I_3 g_fl 2) ∧ ((zc3 : Int) ≤ (I_3 g_f 2 - I g_f 2) + 2 * (I_3 g_fl 2 - I g_fl 2)) ∧ ((zs3 : Int) + 3 * ((N (R g_fl 1 - 1) : Nat) : Int) ≤ 24 * (I_3 g_f 2 - I g_f 2) + 11 * (I_3 g_fl 2 - I g_fl 2) + 3 * ((N_3 (R_3 g_fl 1 - 1) : Nat) : Int)) ∧ ((I_3 a_this 0 ≤ I_3 g_fl 2 ∨ 500 ≤ I_3 g_fl 2)) ∧ (0 ≤ 41 - (v3_4 + 1)) := by first | omega | exact ⟨by first | omega | assumption | exact trivial, by first | omega | assumption | exact trivial, by first | omega | assumption | exact trivial, by first | omega | assumption | exact trivial, by first | omega | assumption | exact trivial, by first | omega | assumption | exact trivial, by first | omega | assumption | exact trivial, by first | omega | assumption | exact trivial, by first | omega | assumption | exact trivial, by first | omega | assumption | exact trivial⟩
              exact IH3 (v3_4 + 1) L_3 T_3 N_3 I_3 R_3 zc3 zs3 _ _ ls hM hF (lv_sub hl [2, 3, 4, 5, 0] rfl) hv73.1 hv73.2.1 hv73.2.2.1 hv73.2.2.2.1 hv73.2.2.2.2.1 hv73.2.2.2.2.2.1 hv73.2.2.2.2.2.2.1 hv73.2.2.2.2.2.2.2.1 hv73.2.2.2.2.2.2.2.2.1 (by exact hfl) (by exact hvv) (by exact hfu) hv73.2.2.2.2.2.2.2.2.2 (by omega)
            · refine lv_aload_n B.1 B.2.1 dX1_askUses_57 rfl (lv_at hl 1 rfl) ?_
              refine lv_dup B.1 B.2.1 dX1_askUses_58 rfl ?_
              refine c_geti (k := 9) pk_X1 B hM t31 kd5 rfl (by decide) fl_X1_53 dX1_askUses_59 e30 ?_
              refine q_con B dX1_askUses_62 ?_
              refine q_add B dX1_askUses_63 ?_
              have hMp := hM
              refine c_puti (k := 9) pk_X1 B hM t31 kd5 rfl (by decide) fl_X1_53 (Or.inl rfl) dX1_askUses_64 rfl rfl rfl (show (0 : Int) ≤ x29 + (1 : Int) from by omega) (show x29 + (1 : Int) ≤ (5000 : Int) from by omega) (fun I74 H locs hu75 hM => ?_)
              have hFt := hF
              have e76 : I74 a_this 9 = x29 + (1 : Int) := w2_at hu75
              replace hF : Fr mo_X1_askUses [] T N I J R T_3 N_3 I74 J R_3 := hF.wi hu75 (fun _ _ => by rw [t_this]; rfl)
              have t77 : T_3 g_ru = 15 := hF.tt p_3 (by decide) nm0
              replace hfl : FLq I74 R_3 g_ru g_f := FLq.wt hfl hMp.2.2.2.2.2.2.1 hMp.2.2.2.2.2.2.2 t77 t23 t31 (by decide) (by decide) (by decide) hu75
              have t78 : T_3 g_vp = 90 := hF.tt p_9 (by decide) nm0
              have t79 : T_3 g_vf = 91 := hF.tt p_11 (by decide) nm0
              have t80 : T_3 g_pl = 22 := hF.tt p_13 (by decide) nm0
              replace hvv : VVg I74 a_this g_vp g_vf g_pl := VVg.w hvv hu75 (Or.inr (by decide)) (tne t78 t31 (by decide)) (tne t79 t31 (by decide)) (Or.inl (tne t80 t31 (by decide)))
              replace hfu : FUg I74 R_3 a_this g_fl := FUg.wi hfu hu75 (Or.inr (by decide)) (Or.inl (tne t27 t31 (by decide)))
              clear hFt hMp
              refine lv_aload B.1 B.2.1 dX1_askUses_67 (lv_at hl 0 rfl) ?_
              have e81 : I74 b53 0 = x54 := (w2_ne hu75 (Or.inl (tne tb53 t31 (by decide)))).trans e55
              refine c_geti (k := 0) pk_X10 B hM tb53 kd9 rfl (by decide) fl_X1_165 dX1_askUses_69 e81 ?_
              refine q_bip B dX1_askUses_72 (by decide) ?_
              refine q_clt (tgt := 88) B dX1_askUses_74 (by decide) (by unfold inr; omega) (by unfold inr; omega) (fun c82 => ?_) (fun c82 => ?_)
              · refine lv_aload_n B.1 B.2.1 dX1_askUses_88 rfl (lv_at hl 1 rfl) ?_
                refine lv_aload B.1 B.2.1 dX1_askUses_89 (lv_at hl 0 rfl) ?_
                refine lv_aload_n B.1 B.2.1 dX1_askUses_91 rfl (lv_at hl 1 rfl) ?_
                have e83 : R_3 a_this 5 = g_pl + 1 := (hF.r t_this (by decide) nm0 rfl).trans p_12
                refine c_getn (k := 5) pk_X1 B hM t31 kd5 rfl (by decide) fl_X1_9 dX1_askUses_92 e83 ?_
                refine lv_aload_n B.1 B.2.1 dX1_askUses_95 rfl (lv_at hl 1 rfl) ?_
                have e84 : R_3 a_this 13 = g_vp + 1 := (hF.r t_this (by decide) nm0 rfl).trans p_8
                refine c_getn (k := 13) pk_X1 B hM t31 kd5 rfl (by decide) fl_X1_25 dX1_askUses_96 e84 ?_
                refine lv_iload_n B.1 B.2.1 dX1_askUses_99 rfl (lv_at hl 3 rfl) ?_
                have e85 : I74 a_this 19 = x1 := (hF.i t_this (by decide) nm0 rfl).trans e2
                have e86 : I74 g_pl 2 = x4 := (hF.i p_13 (by decide) nm0 rfl).trans e5
                have hva := VVg.at hvv (i := a_at) (by omega) (by omega)
                have n87 : 1600 ≤ N_3 g_vp ∧ N_3 g_vp ≤ 1600 := gn90 hM.2.2.2.2.2.2.1 t78
                obtain ⟨x88, e89⟩ : ∃ v, I g_vp a_at.toNat = v := ⟨_, rfl⟩
                have e90 : I74 g_vp a_at.toNat = x88 := (hF.i p_9 (by decide) nm0 (by rw [cd_arr (j := 0) (by decide)]; rfl)).trans e89
                have r91 : (0 : Int) ≤ x88 ∧ x88 ≤ 199 := by rw [← e90]; exact ga90 hM.2.2.2.2.2.2.1 t78 (by omega)
                refine c_ild B hM t78 kd90 an90 dX1_askUses_100 (by omega) (by omega) e90 ?_
                have e92 : I74 a_this 0 = x33 := (w2_ne hu75 (Or.inr (by decide))).trans e34
                have e93 : I74 g_fl 2 = x25 := (w2_ne hu75 (Or.inl (tne t27 t31 (by decide)))).trans e26
                have e94 : I74 g_f 2 = x21 := (w2_ne hu75 (Or.inl (tne t23 t31 (by decide)))).trans e22
                have e95 : I74 g_ru 2 = x38 := (hF.i p_3 (by decide) nm0 rfl).trans e39
                have hFt := hF
                have hMt := hM
                have hv96 : ((-2147483648 : Int) ≤ x88 ∧ (x88 : Int) ≤ 2147483647) ∧ (15 ≤ 22) ∧ (22 ≤ 23) ∧ (0 ≤ x88) ∧ (x88 < I74 g_pl 2) := by first | omega | exact ⟨by first | omega | assumption | exact trivial, by first | omega | assumption | exact trivial, by first | omega | assumption | exact trivial, by first | omega | assumption | exact trivial, by first | omega | assumption | exact trivial⟩
                refine p_callr (c_runV (n := 1) (as := [.int (II x88)]) (rest := [.ref b53, .ref a_this]) B hX hA hM hl.1 t80 kd22 rfl (k_Jx4a65c_get_915e3 l D dA eA L_3 T_3 N_3 I74 J R_3 g_pl t80 x88 hv96.1 hv96.2.1 hv96.2.2.1 hv96.2.2.2.1 hv96.2.2.2.2 _ _) ml_X1_85 nm_Jx4a65c_get_915e3 ⟨rfl, rfl⟩ ⟨Nat.le_of_ble_eq_true rfl, Nat.le_of_ble_eq_true rfl⟩ dX1_askUses_101 rfl rfl (Nat.le_of_ble_eq_true rfl) ⟨by show zc3 + 0 ≤ ((16 - I g_f 2).toNat + 2 * (500 - I g_fl 2).toNat + 4); omega, by show zs3 + 0 ≤ (24 * (16 - I g_f 2).toNat + 11 * (500 - I g_fl 2).toNat + 3 * (750 - N (R g_fl 1 - 1)) + 807); omega⟩) (fun b98 hp97 => ?_)
                obtain ⟨tb98, hp97a⟩ := hp97
                replace hp97a : R_3 (R_3 g_pl 1 - 1) x88.toNat = b98 + 1 := hp97a
                clear hFt hMt
                refine c_cast B hM tb98 kd12 rfl cl_X1_116 dX1_askUses_104 ?_
                refine lv_iload_n B.1 B.2.1 dX1_askUses_107 rfl (lv_at hl 4 rfl) ?_
                have hFt := hF
                have hMt := hM
                refine p_calli (c_runV (n := 3) (as := [.ref b53, .ref b98, .int (II a_m)]) (rest := []) B hX hA hM hl.1 t31 kd5 rfl (k_X1_holds l D dA eA L_3 T_3 N_3 I74 J R_3 a_this t31 b53 tb53 b98 tb98 a_m (by first | omega | assumption | exact trivial) _ _) ml_X1_175 nm_X1_holds ⟨rfl, rfl⟩ ⟨Nat.le_of_ble_eq_true rfl, Nat.le_of_ble_eq_true rfl⟩ dX1_askUses_108 rfl rfl (Nat.le_of_ble_eq_true rfl) ⟨by show zc3 + 0 ≤ ((16 - I g_f 2).toNat + 2 * (500 - I g_fl 2).toNat + 4); omega, by show zs3 + 0 ≤ (24 * (16 - I g_f 2).toNat + 11 * (500 - I g_fl 2).toNat + 3 * (750 - N (R g_fl 1 - 1)) + 807); omega⟩) (fun x100 ix100 hp99 => ?_)
                have hp99a := hp99
                replace hp99a : (0 : Int) ≤ x100 ∧ x100 ≤ 1 ∧ (True) := hp99a
                obtain ⟨hp99a_0, hp99a_1, hp99a_2⟩ := hp99a
                clear hFt hMt
                refine q_ine (tgt := 123) B dX1_askUses_111 (by decide) (by unfold inr; omega) (fun c101 => ?_) (fun c101 => ?_)
                · refine q_inc (lv' := [(4, .int (II (v3_4 + 1))), (5, .ref b53), (0, .ref a_this), (1, .ref a_uses), (2, .int (II a_at)), (3, .int (II a_m))]) B dX1_askUses_123 hl (k := 5) rfl (by decide) rfl (fun ls hl => ?_)
                  refine lv_goto (tgt := 3) B.1 B.2.1 dX1_askUses_126 (by decide) ?_
                  obtain ⟨v102, e103⟩ : ∃ v, R_3 g_fl 1 = v := ⟨_, rfl⟩
                  have hv104 : ((-2147483648 : Int) ≤ v3_4 + 1 ∧ (v3_4 + 1 : Int) ≤ 2147483647) ∧ (0 ≤ (v3_4 + 1)) ∧ ((v3_4 + 1) ≤ 40) ∧ (I74 a_this 0 ≤ I74 a_this 9) ∧ (I g_f 2 ≤ I74 g_f 2) ∧ (I g_fl 2 ≤ I74 g_fl 2) ∧ ((zc3 : Int) ≤ (I74 g_f 2 - I g_f 2) + 2 * (I74 g_fl 2 - I g_fl 2)) ∧ ((zs3 : Int) + 3 * ((N (R g_fl 1 - 1) : Nat) : Int) ≤ 24 * (I74 g_f 2 - I g_f 2) + 11 * (I74 g_fl 2 - I g_fl 2) + 3 * ((N_3 (R_3 g_fl 1 - 1) : Nat) : Int)) ∧ ((I74 a_this 0 ≤ I74 g_fl 2 ∨ 500 ≤ I74 g_fl 2)) ∧ (0 ≤ 41 - (v3_4 + 1)) := by first | omega | exact ⟨by first | omega | assumption | exact trivial, by first | omega | assumption | exact trivial, by first | omega | assumption | exact trivial, by first | omega | assumption | exact trivial, by first | omega | assumption | exact trivial, by first | omega | assumption | exact trivial, by first | omega | assumption | exact trivial, by first | omega | assumption | exact trivial, by first | omega | assumption | exact trivial, by first | omega | assumption | exact trivial⟩
                  exact IH3 (v3_4 + 1) L_3 T_3 N_3 I74 R_3 zc3 zs3 _ _ ls hM hF (lv_sub hl [2, 3, 4, 5, 0] rfl) hv104.1 hv104.2.1 hv104.2.2.1 hv104.2.2.2.1 hv104.2.2.2.2.1 hv104.2.2.2.2.2.1 hv104.2.2.2.2.2.2.1 hv104.2.2.2.2.2.2.2.1 hv104.2.2.2.2.2.2.2.2.1 (by exact hfl) (by exact hvv) (by exact hfu) hv104.2.2.2.2.2.2.2.2.2 (by omega)
                · refine lv_aload_n B.1 B.2.1 dX1_askUses_114 rfl (lv_at hl 1 rfl) ?_
                  refine lv_aload B.1 B.2.1 dX1_askUses_115 (lv_at hl 0 rfl) ?_
                  refine lv_iload_n B.1 B.2.1 dX1_askUses_117 rfl (lv_at hl 3 rfl) ?_
                  refine lv_iload_n B.1 B.2.1 dX1_askUses_118 rfl (lv_at hl 4 rfl) ?_
                  refine q_con B dX1_askUses_119 ?_
                  have r105 : (0 : Int) ≤ x29 + (1 : Int) ∧ x29 + (1 : Int) ≤ 5000 := by rw [← e76]; exact g5_9 hM.2.2.2.2.2.2.1 t31
                  have hFt := hF
                  have hMt := hM
                  have e106 : R_3 a_this 6 = g_fl + 1 := (hF.r t_this (by decide) nm0 rfl).trans p_6
                  have e107 : R_3 a_this 14 = g_vf + 1 := (hF.r t_this (by decide) nm0 rfl).trans p_10
                  have hv108 : ((-2147483648 : Int) ≤ a_at ∧ (a_at : Int) ≤ 2147483647) ∧ ((-2147483648 : Int) ≤ a_m ∧ (a_m : Int) ≤ 2147483647) ∧ ((-2147483648 : Int) ≤ 0 ∧ (0 : Int) ≤ 2147483647) ∧ ((I74 a_this 0 ≤ I74 g_fl 2 ∨ 500 ≤ I74 g_fl 2)) ∧ (0 ≤ a_at) ∧ (a_at < I74 a_this 19) ∧ (I74 a_this 0 < 5000) := by first | omega | exact ⟨by first | omega | assumption | exact trivial, by first | omega | assumption | exact trivial, by first | omega | assumption | exact trivial, by first | omega | assumption | exact trivial, by first | omega | assumption | exact trivial, by first | omega | assumption | exact trivial, by first | omega | assumption | exact trivial⟩
                  refine g_callv hM hA (c_runV (n := 4) (as := [.ref b53, .int (II a_at), .int (II a_m), .int (II 0)]) (rest := []) B hX hA hM hl.1 t31 kd5 rfl (k_X1_tell l D dA eA L_3 T_3 N_3 I74 J R_3 a_this t31 b53 tb53 a_at hv108.1 a_m hv108.2.1 (0) hv108.2.2.1 g_fl g_vp g_vf g_pl (show R_3 a_this 6 = g_fl + 1 from e106) (show T_3 g_fl = 23 from t27) (show R_3 a_this 13 = g_vp + 1 from e84) (show T_3 g_vp = 90 from t78) (show R_3 a_this 14 = g_vf + 1 from e107) (show T_3 g_vf = 91 from t79) (show R_3 a_this 5 = g_pl + 1 from e83) (show T_3 g_pl = 22 from t80) (show VVg I74 a_this g_vp g_vf g_pl from by exact hvv) (show FUg I74 R_3 a_this g_fl from by exact hfu) hv108.2.2.2.1 hv108.2.2.2.2.1 hv108.2.2.2.2.2.1 hv108.2.2.2.2.2.2 _ _) ml_X1_179 nm_X1_tell ⟨rfl, rfl⟩ ⟨Nat.le_of_ble_eq_true rfl, Nat.le_of_ble_eq_true rfl⟩ dX1_askUses_120 rfl rfl (Nat.le_of_ble_eq_true rfl) ⟨by show zc3 + 2 ≤ ((16 - I g_f 2).toNat + 2 * (500 - I g_fl 2).toNat + 4); omega, by show zs3 + 759 ≤ (24 * (16 - I g_f 2).toNat + 11 * (500 - I g_fl 2).toNat + 3 * (750 - N (R g_fl 1 - 1)) + 807); omega⟩) (fun L111 T112 N113 I114 J115 R116 dz117 dl118 H locs hp109 hMn => ?_)
                  obtain ⟨yJ115, hFc119, hp109a⟩ := hp109
                  obtain rfl := yJ115.symm
                  have t120 : T_3 g_b = 6 := hF.tt p_1 (by decide) nm0
                  replace hF : Fr mo_X1_askUses [] T N I J R T112 N113 I114 J R116 := hF.trans hFc119 (by decide) e20
                  have hM := hMn
                  clear hMn
                  replace hp109a : FUg I114 R116 a_this g_fl ∧ (I114 a_this 0 ≤ I114 g_fl 2 ∨ 500 ≤ I114 g_fl 2) ∧ I114 a_this 0 = I74 a_this 0 + 1 ∧ dz117 ≤ 2 ∧ dl118 ≤ 759 ∧ I74 g_fl 2 ≤ I114 g_fl 2 ∧ (dz117 : Int) ≤ 2 * (I114 g_fl 2 - I74 g_fl 2) ∧ (dl118 : Int) + 3 * ((N_3 (R_3 g_fl 1 - 1) : Nat) : Int) ≤ 11 * (I114 g_fl 2 - I74 g_fl 2) + 3 * ((N113 (R116 g_fl 1 - 1) : Nat) : Int) := hp109a
                  obtain ⟨hp109a_0, hp109a_1, hp109a_2, hp109a_3, hp109a_4, hp109a_5, hp109a_6, hp109a_7⟩ := hp109a
                  replace hfl : FLq I114 R116 g_ru g_f := FLq.fr hfl hMt.2.2.2.2.2.2.1 hMt.2.2.2.2.2.2.2 t77 t23 hFc119 (fun _ _ => nm0) (by decide)
                  replace hvv : VVg I114 a_this g_vp g_vf g_pl := VVg.fr hvv t31 t78 t79 t80 hFc119 (fun _ _ => nm0) (by decide)
                  replace hfu : FUg I114 R116 a_this g_fl := by assumption
                  have e121 : I114 a_this 19 = x1 := (hF.i t_this (by decide) nm0 rfl).trans e2
                  have e122 : I114 g_pl 2 = x4 := (hF.i p_13 (by decide) nm0 rfl).trans e5
                  have e123 : I114 a_this 9 = x29 + (1 : Int) := (hFc119.i t31 (by decide) nm0 rfl).trans e76
                  obtain ⟨x124, e125⟩ : ∃ v, I114 g_fl 2 = v := ⟨_, rfl⟩
                  have e126 : I114 g_f 2 = x21 := (hFc119.i t23 (by decide) nm0 rfl).trans e94
                  have e127 : I114 g_ru 2 = x38 := (hF.i p_3 (by decide) nm0 rfl).trans e39
                  have t128 : T112 g_f = 16 := hF.tt p_5 (by decide) nm0
                  have t129 : T112 g_fl = 23 := hF.tt p_7 (by decide) nm0
                  have r130 : (0 : Int) ≤ x124 ∧ x124 ≤ 500 := by rw [← e125]; exact g23_2 hM.2.2.2.2.2.2.1 t129
                  have t131 : T112 a_this = 5 := hF.tt t_this (by decide) nm0
                  clear hFt hMt
                  refine q_inc (lv' := [(4, .int (II (v3_4 + 1))), (5, .ref b53), (0, .ref a_this), (1, .ref a_uses), (2, .int (II a_at)), (3, .int (II a_m))]) B dX1_askUses_123 hl (k := 5) rfl (by decide) rfl (fun ls hl => ?_)
                  refine lv_goto (tgt := 3) B.1 B.2.1 dX1_askUses_126 (by decide) ?_
                  obtain ⟨v132, e133⟩ : ∃ v, R116 g_fl 1 = v := ⟨_, rfl⟩
                  have hv134 : ((-2147483648 : Int) ≤ v3_4 + 1 ∧ (v3_4 + 1 : Int) ≤ 2147483647) ∧ (0 ≤ (v3_4 + 1)) ∧ ((v3_4 + 1) ≤ 40) ∧ (I114 a_this 0 ≤ I114 a_this 9) ∧ (I g_f 2 ≤ I114 g_f 2) ∧ (I g_fl 2 ≤ I114 g_fl 2) ∧ ((zc3 + dz117 : Int) ≤ (I114 g_f 2 - I g_f 2) + 2 * (I114 g_fl 2 - I g_fl 2)) ∧ ((zs3 + dl118 : Int) + 3 * ((N (R g_fl 1 - 1) : Nat) : Int) ≤ 24 * (I114 g_f 2 - I g_f 2) + 11 * (I114 g_fl 2 - I g_fl 2) + 3 * ((N113 (R116 g_fl 1 - 1) : Nat) : Int)) ∧ ((I114 a_this 0 ≤ I114 g_fl 2 ∨ 500 ≤ I114 g_fl 2)) ∧ (0 ≤ 41 - (v3_4 + 1)) := by first | omega | exact ⟨by first | omega | assumption | exact trivial, by first | omega | assumption | exact trivial, by first | omega | assumption | exact trivial, by first | omega | assumption | exact trivial, by first | omega | assumption | exact trivial, by first | omega | assumption | exact trivial, by first | omega | assumption | exact trivial, by first | omega | assumption | exact trivial, by first | omega | assumption | exact trivial, by first | omega | assumption | exact trivial⟩
                  exact IH3 (v3_4 + 1) L111 T112 N113 I114 R116 (zc3 + dz117) (zs3 + dl118) _ _ ls hM hF (lv_sub hl [2, 3, 4, 5, 0] rfl) hv134.1 hv134.2.1 hv134.2.2.1 hv134.2.2.2.1 hv134.2.2.2.2.1 hv134.2.2.2.2.2.1 hv134.2.2.2.2.2.2.1 hv134.2.2.2.2.2.2.2.1 hv134.2.2.2.2.2.2.2.2.1 (by exact hfl) (by exact hvv) (by exact hfu) hv134.2.2.2.2.2.2.2.2.2 (by omega)
              · refine lv_aload_n B.1 B.2.1 dX1_askUses_77 rfl (lv_at hl 1 rfl) ?_
                refine lv_aload B.1 B.2.1 dX1_askUses_78 (lv_at hl 0 rfl) ?_
                refine lv_iload_n B.1 B.2.1 dX1_askUses_80 rfl (lv_at hl 3 rfl) ?_
                refine lv_iload_n B.1 B.2.1 dX1_askUses_81 rfl (lv_at hl 4 rfl) ?_
                have e135 : I74 a_this 19 = x1 := (hF.i t_this (by decide) nm0 rfl).trans e2
                have e136 : I74 g_pl 2 = x4 := (hF.i p_13 (by decide) nm0 rfl).trans e5
                have e137 : I74 a_this 0 = x33 := (w2_ne hu75 (Or.inr (by decide))).trans e34
                have e138 : I74 g_fl 2 = x25 := (w2_ne hu75 (Or.inl (tne t27 t31 (by decide)))).trans e26
                have e139 : I74 g_f 2 = x21 := (w2_ne hu75 (Or.inl (tne t23 t31 (by decide)))).trans e22
                have e140 : I74 g_ru 2 = x38 := (hF.i p_3 (by decide) nm0 rfl).trans e39
                have r141 : (0 : Int) ≤ x29 + (1 : Int) ∧ x29 + (1 : Int) ≤ 5000 := by rw [← e76]; exact g5_9 hM.2.2.2.2.2.2.1 t31
                have hFt := hF
                have hMt := hM
                have e142 : R_3 a_this 4 = g_b + 1 := (hF.r t_this (by decide) nm0 rfl).trans p_0
                have e143 : R_3 g_b 0 = g_ru + 1 := (hF.r p_1 (by decide) nm0 rfl).trans p_2
                have e144 : R_3 g_b 1 = g_f + 1 := (hF.r p_1 (by decide) nm0 rfl).trans p_4
                have e145 : R_3 a_this 6 = g_fl + 1 := (hF.r t_this (by decide) nm0 rfl).trans p_6
                have e146 : R_3 a_this 13 = g_vp + 1 := (hF.r t_this (by decide) nm0 rfl).trans p_8
                have e147 : R_3 a_this 14 = g_vf + 1 := (hF.r t_this (by decide) nm0 rfl).trans p_10
                have e148 : R_3 a_this 5 = g_pl + 1 := (hF.r t_this (by decide) nm0 rfl).trans p_12
                have t149 : T_3 g_b = 6 := hF.tt p_1 (by decide) nm0
                have hv150 : ((-2147483648 : Int) ≤ a_at ∧ (a_at : Int) ≤ 2147483647) ∧ ((-2147483648 : Int) ≤ a_m ∧ (a_m : Int) ≤ 2147483647) ∧ ((I74 a_this 0 ≤ I74 g_fl 2 ∨ 500 ≤ I74 g_fl 2)) ∧ (0 ≤ a_at) ∧ (a_at < I74 a_this 19) ∧ (I74 a_this 0 < 5000) := by first | omega | exact ⟨by first | omega | assumption | exact trivial, by first | omega | assumption | exact trivial, by first | omega | assumption | exact trivial, by first | omega | assumption | exact trivial, by first | omega | assumption | exact trivial, by first | omega | assumption | exact trivial⟩
                refine g_callv hM hA (c_runV (n := 3) (as := [.ref b53, .int (II a_at), .int (II a_m)]) (rest := []) B hX hA hM hl.1 t31 kd5 rfl (k_X1_askOwn l D dA eA L_3 T_3 N_3 I74 J R_3 a_this t31 b53 tb53 a_at hv150.1 a_m hv150.2.1 g_b g_ru g_f g_fl g_vp g_vf g_pl (show R_3 a_this 4 = g_b + 1 from e142) (show T_3 g_b = 6 from t149) (show R_3 g_b 0 = g_ru + 1 from e143) (show T_3 g_ru = 15 from t77) (show R_3 g_b 1 = g_f + 1 from e144) (show T_3 g_f = 16 from t23) (show R_3 a_this 6 = g_fl + 1 from e145) (show T_3 g_fl = 23 from t27) (show R_3 a_this 13 = g_vp + 1 from e146) (show T_3 g_vp = 90 from t78) (show R_3 a_this 14 = g_vf + 1 from e147) (show T_3 g_vf = 91 from t79) (show R_3 a_this 5 = g_pl + 1 from e148) (show T_3 g_pl = 22 from t80) (show FLq I74 R_3 g_ru g_f from by exact hfl) (show VVg I74 a_this g_vp g_vf g_pl from by exact hvv) (show FUg I74 R_3 a_this g_fl from by exact hfu) hv150.2.2.1 hv150.2.2.2.1 hv150.2.2.2.2.1 hv150.2.2.2.2.2 _ _) ml_X1_171 nm_X1_askOwn ⟨rfl, rfl⟩ ⟨Nat.le_of_ble_eq_true rfl, Nat.le_of_ble_eq_true rfl⟩ dX1_askUses_82 rfl rfl (Nat.le_of_ble_eq_true rfl) ⟨by show zc3 + ((16 - I74 g_f 2).toNat + 4) ≤ ((16 - I g_f 2).toNat + 2 * (500 - I g_fl 2).toNat + 4); omega, by show zs3 + (24 * (16 - I74 g_f 2).toNat + 807) ≤ (24 * (16 - I g_f 2).toNat + 11 * (500 - I g_fl 2).toNat + 3 * (750 - N (R g_fl 1 - 1)) + 807); omega⟩) (fun L153 T154 N155 I156 J157 R158 dz159 dl160 H locs hp151 hMn => ?_)
                obtain ⟨yJ157, hFc161, hp151a⟩ := hp151
                obtain rfl := yJ157.symm
                replace hF : Fr mo_X1_askUses [] T N I J R T154 N155 I156 J R158 := hF.trans hFc161 (by decide) e20
                have hM := hMn
                clear hMn
                replace hp151a : FLq I156 R158 g_ru g_f ∧ FUg I156 R158 a_this g_fl ∧ (I156 a_this 0 ≤ I156 g_fl 2 ∨ 500 ≤ I156 g_fl 2) ∧ I74 a_this 0 ≤ I156 a_this 0 ∧ I156 a_this 0 ≤ I74 a_this 0 + 1 ∧ I74 g_f 2 ≤ I156 g_f 2 ∧ I74 g_fl 2 ≤ I156 g_fl 2 ∧ (dz159 : Int) ≤ (I156 g_f 2 - I74 g_f 2) + 2 * (I156 g_fl 2 - I74 g_fl 2) ∧ (dl160 : Int) + 3 * ((N_3 (R_3 g_fl 1 - 1) : Nat) : Int) ≤ 24 * (I156 g_f 2 - I74 g_f 2) + 11 * (I156 g_fl 2 - I74 g_fl 2) + 3 * ((N155 (R158 g_fl 1 - 1) : Nat) : Int) := hp151a
                obtain ⟨hp151a_0, hp151a_1, hp151a_2, hp151a_3, hp151a_4, hp151a_5, hp151a_6, hp151a_7, hp151a_8⟩ := hp151a
                replace hfl : FLq I156 R158 g_ru g_f := by assumption
                replace hvv : VVg I156 a_this g_vp g_vf g_pl := VVg.fr hvv t31 t78 t79 t80 hFc161 (fun _ _ => nm0) (by decide)
                replace hfu : FUg I156 R158 a_this g_fl := by assumption
                have e162 : I156 a_this 19 = x1 := (hF.i t_this (by decide) nm0 rfl).trans e2
                have e163 : I156 g_pl 2 = x4 := (hF.i p_13 (by decide) nm0 rfl).trans e5
                obtain ⟨x164, e165⟩ : ∃ v, I156 a_this 0 = v := ⟨_, rfl⟩
                have e166 : I156 a_this 9 = x29 + (1 : Int) := (hFc161.i t31 (by decide) nm0 rfl).trans e76
                obtain ⟨x167, e168⟩ : ∃ v, I156 g_fl 2 = v := ⟨_, rfl⟩
                obtain ⟨x169, e170⟩ : ∃ v, I156 g_f 2 = v := ⟨_, rfl⟩
                have e171 : I156 g_ru 2 = x38 := (hF.i p_3 (by decide) nm0 rfl).trans e39
                have t172 : T154 g_f = 16 := hF.tt p_5 (by decide) nm0
                have r173 : (0 : Int) ≤ x169 ∧ x169 ≤ 16 := by rw [← e170]; exact g16_2 hM.2.2.2.2.2.2.1 t172
                have t174 : T154 g_fl = 23 := hF.tt p_7 (by decide) nm0
                have r175 : (0 : Int) ≤ x167 ∧ x167 ≤ 500 := by rw [← e168]; exact g23_2 hM.2.2.2.2.2.2.1 t174
                have t176 : T154 a_this = 5 := hF.tt t_this (by decide) nm0
                clear hFt hMt
                refine lv_goto (tgt := 123) B.1 B.2.1 dX1_askUses_85 (by decide) ?_
                refine q_inc (lv' := [(4, .int (II (v3_4 + 1))), (5, .ref b53), (0, .ref a_this), (1, .ref a_uses), (2, .int (II a_at)), (3, .int (II a_m))]) B dX1_askUses_123 hl (k := 5) rfl (by decide) rfl (fun ls hl => ?_)
                refine lv_goto (tgt := 3) B.1 B.2.1 dX1_askUses_126 (by decide) ?_
                obtain ⟨v177, e178⟩ : ∃ v, R158 g_fl 1 = v := ⟨_, rfl⟩
                have hv179 : ((-2147483648 : Int) ≤ v3_4 + 1 ∧ (v3_4 + 1 : Int) ≤ 2147483647) ∧ (0 ≤ (v3_4 + 1)) ∧ ((v3_4 + 1) ≤ 40) ∧ (I156 a_this 0 ≤ I156 a_this 9) ∧ (I g_f 2 ≤ I156 g_f 2) ∧ (I g_fl 2 ≤ I156 g_fl 2) ∧ ((zc3 + dz159 : Int) ≤ (I156 g_f 2 - I g_f 2) + 2 * (I156 g_fl 2 - I g_fl 2)) ∧ ((zs3 + dl160 : Int) + 3 * ((N (R g_fl 1 - 1) : Nat) : Int) ≤ 24 * (I156 g_f 2 - I g_f 2) + 11 * (I156 g_fl 2 - I g_fl 2) + 3 * ((N155 (R158 g_fl 1 - 1) : Nat) : Int)) ∧ ((I156 a_this 0 ≤ I156 g_fl 2 ∨ 500 ≤ I156 g_fl 2)) ∧ (0 ≤ 41 - (v3_4 + 1)) := by first | omega | exact ⟨by first | omega | assumption | exact trivial, by first | omega | assumption | exact trivial, by first | omega | assumption | exact trivial, by first | omega | assumption | exact trivial, by first | omega | assumption | exact trivial, by first | omega | assumption | exact trivial, by first | omega | assumption | exact trivial, by first | omega | assumption | exact trivial, by first | omega | assumption | exact trivial, by first | omega | assumption | exact trivial⟩
                exact IH3 (v3_4 + 1) L153 T154 N155 I156 R158 (zc3 + dz159) (zs3 + dl160) _ _ ls hM hF (lv_sub hl [2, 3, 4, 5, 0] rfl) hv179.1 hv179.2.1 hv179.2.2.1 hv179.2.2.2.1 hv179.2.2.2.2.1 hv179.2.2.2.2.2.1 hv179.2.2.2.2.2.2.1 hv179.2.2.2.2.2.2.2.1 hv179.2.2.2.2.2.2.2.2.1 (by exact hfl) (by exact hvv) (by exact hfu) hv179.2.2.2.2.2.2.2.2.2 (by omega)
  have hv180 : ((-2147483648 : Int) ≤ 0 ∧ (0 : Int) ≤ 2147483647) ∧ (0 ≤ (0 : Int)) ∧ ((0 : Int) ≤ 40) ∧ (I a_this 0 ≤ I a_this 9) ∧ (I g_f 2 ≤ I g_f 2) ∧ (I g_fl 2 ≤ I g_fl 2) ∧ (0 ≤ (I g_f 2 - I g_f 2) + 2 * (I g_fl 2 - I g_fl 2)) ∧ (0 + 3 * ((N (R g_fl 1 - 1) : Nat) : Int) ≤ 24 * (I g_f 2 - I g_f 2) + 11 * (I g_fl 2 - I g_fl 2) + 3 * ((N (R g_fl 1 - 1) : Nat) : Int)) ∧ ((I a_this 0 ≤ I g_fl 2 ∨ 500 ≤ I g_fl 2)) ∧ (0 ≤ 41 - (0 : Int)) := by first | omega | exact ⟨by first | omega | assumption | exact trivial, by first | omega | assumption | exact trivial, by first | omega | assumption | exact trivial, by first | omega | assumption | exact trivial, by first | omega | assumption | exact trivial, by first | omega | assumption | exact trivial, by first | omega | assumption | exact trivial, by first | omega | assumption | exact trivial, by first | omega | assumption | exact trivial, by first | omega | assumption | exact trivial⟩
  exact LL3 (Int.toNat (41 - (0 : Int) + 1)) 0 L T N I R 0 0 _ _ ls hM hF (lv_sub hl [1, 2, 3, 4, 0] rfl) hv180.1 hv180.2.1 hv180.2.2.1 hv180.2.2.2.1 hv180.2.2.2.2.1 hv180.2.2.2.2.2.1 hv180.2.2.2.2.2.2.1 hv180.2.2.2.2.2.2.2.1 hv180.2.2.2.2.2.2.2.2.1 (by exact hfl) (by exact hvv) (by exact hfu) hv180.2.2.2.2.2.2.2.2.2 (by omega)
