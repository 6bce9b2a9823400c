def mo_X1_setProposals : List Nat := [168, 2688, 2720]
set_option maxHeartbeats 1000000 in
set_option maxRecDepth 20000 in
theorem k_X1_setProposals (l : Launch) (D : va_G) (dA : Nat → ClassId) (eA : Nat) (L : List Nat) (T N : Nat → Nat) (I : Nat → Nat → Int) (J : Nat → Nat → Int64) (R : Nat → Nat → Nat) (a_this : Nat) (t_this : T a_this = 5) (g_b : Nat) (p_0 : R a_this 4 = g_b + 1) (p_1 : T g_b = 6) : GC l yX1_setProposals cX1_setProposals 5 (some .int) ({ frames := 5, cells := 0, slots := 0, locals := 130 }) D dA eA L T N I J R [.ref a_this] 0 0 (gI (fun r L' T' N' I' J' R' dz dl => L' = L ∧ T' = T ∧ N' = N ∧ J' = J ∧ R' = R ∧ Fr mo_X1_setProposals [] T N I J R T' N' I' J' R' ∧ (True))) := by
  generalize hPST : (gI (fun r L' T' N' I' J' R' dz dl => L' = L ∧ T' = T ∧ N' = N ∧ J' = J ∧ R' = R ∧ Fr mo_X1_setProposals [] T N I J R T' N' I' J' R' ∧ (True))) = PST
  refine g_enter (own := RX1) (by decide) rfl (Nat.le_of_ble_eq_true rfl) (fun p e s m args below meth c ls hm B hX hM hl => ?_)
  have hC0 := hM.2.2.2.2.2.2.1
  have hW0 := hM.2.2.2
  have hF : Fr mo_X1_setProposals [] T N I J R T N I J R := Fr.rf
  have hA : ∀ q, s.heap.size ≤ q → cF dA L T N I J R s.heap.size q := fun q h => Or.inr h
  have hl : lv_has ls 5 [(0, .ref a_this)] := hl
  refine lv_aload_n B.1 B.2.1 dX1_setProposals_0 rfl (lv_at hl 0 rfl) ?_
  obtain ⟨x1, e2⟩ : ∃ v, I a_this 1 = v := ⟨_, rfl⟩
  have r3 : (-2147483648 : Int) ≤ x1 ∧ x1 ≤ 2147483647 := by rw [← e2]; exact g5_1 hM.2.2.2.2.2.2.1 t_this
  refine c_geti (k := 1) pk_X1 B hM t_this kd5 rfl (by decide) fl_X1_70 dX1_setProposals_1 e2 ?_
  refine q_con B dX1_setProposals_4 ?_
  have JJ15 : ∀  (H : Heap) (locs : List Loc) (ls : Array Slot), (CWd D dA eA (cF dA L T N I J R s.heap.size) s.heap L T N I J R H locs) → lv_has ls 5 [(0, .ref a_this)] → W p l e ({ frames := 5, cells := 0, slots := 0, locals := 130 }) s m args below meth c H locs 0 0 (MQ below (gQ D dA eA (cF dA L T N I J R s.heap.size) s.heap.size (hs s.heap) PST) args s 0 0 (cF dA L T N I J R s.heap.size)) (F0 m 15 ls []) := by
    intro  H locs ls hM hl 
    refine q_con B dX1_setProposals_15 ?_
    refine g_iret B hM dX1_setProposals_16 ⟨Nat.le_refl _, Nat.le_refl _⟩ ?_
    rw [← hPST]
    exact ⟨(-1), rfl, by omega, rfl, rfl, rfl, rfl, rfl, hF, by first | omega | assumption | exact trivial⟩
  refine q_ceq (tgt := 15) B dX1_setProposals_5 (by decide) (by unfold inr; omega) (by unfold inr; omega) (fun c4 => ?_) (fun c4 => ?_)
  · exact JJ15  _ _ ls hM (lv_sub hl [0] rfl)
  · refine lv_aload_n B.1 B.2.1 dX1_setProposals_8 rfl (lv_at hl 0 rfl) ?_
    obtain ⟨x5, e6⟩ : ∃ v, I a_this 8 = v := ⟨_, rfl⟩
    have r7 : (0 : Int) ≤ x5 ∧ x5 ≤ 1 := by rw [← e6]; exact g5_8 hM.2.2.2.2.2.2.1 t_this
    refine c_geti (k := 8) pk_X1 B hM t_this kd5 rfl (by decide) fl_X1_60 dX1_setProposals_9 e6 ?_
    refine q_ieq (tgt := 17) B dX1_setProposals_12 (by decide) (by unfold inr; omega) (fun c8 => ?_) (fun c8 => ?_)
    · refine lv_aload_n B.1 B.2.1 dX1_setProposals_17 rfl (lv_at hl 0 rfl) ?_
      refine q_con B dX1_setProposals_18 ?_
      refine c_puti (k := 8) pk_X1 B hM t_this kd5 rfl (by decide) fl_X1_60 (Or.inl rfl) dX1_setProposals_19 rfl (narZ (by omega)) rfl (show (0 : Int) ≤ 1 from by omega) (show 1 ≤ (1 : Int) from by omega) (fun I9 H locs hu10 hM => ?_)
      have e11 : I9 a_this 8 = 1 := w2_at hu10
      replace hF : Fr mo_X1_setProposals [] T N I J R T N I9 J R := hF.wi hu10 (fun _ _ => by rw [t_this]; rfl)
      refine q_con B dX1_setProposals_22 ?_
      refine lv_istore_n (lv' := [(1, .int (II 0)), (0, .ref a_this)]) B.1 B.2.1 dX1_setProposals_23 rfl hl (by decide) rfl (fun ls hl => ?_)
      refine q_con B dX1_setProposals_24 ?_
      refine lv_istore_n (lv' := [(2, .int (II 0)), (1, .int (II 0)), (0, .ref a_this)]) B.1 B.2.1 dX1_setProposals_25 rfl hl (by decide) rfl (fun ls hl => ?_)
      have LL26 : ∀ NN : Nat, ∀ (v26_1 : Int) (v26_2 : Int) (I_26 : Nat → Nat → Int) (H : Heap) (locs : List Loc) (ls : Array Slot), (CWd D dA eA (cF dA L T N I J R s.heap.size) s.heap L T N I_26 J R H locs) → (Fr mo_X1_setProposals [] T N I J R T N I_26 J R) → lv_has ls 5 [(0, .ref a_this), (1, .int (II v26_1)), (2, .int (II v26_2))] → ((-2147483648 : Int) ≤ v26_1 ∧ v26_1 ≤ 2147483647) → ((-2147483648 : Int) ≤ v26_2 ∧ v26_2 ≤ 2147483647) → (0 ≤ v26_2) → (v26_2 ≤ 5000) → (0 ≤ v26_1) → (v26_1 ≤ v26_2) → (0 ≤ 5001 - v26_2) → (5001 - v26_2 < (NN : Int)) → W p l e ({ frames := 5, cells := 0, slots := 0, locals := 130 }) s m args below meth c H locs 0 0 (MQ below (gQ D dA eA (cF dA L T N I J R s.heap.size) s.heap.size (hs s.heap) PST) args s 0 0 (cF dA L T N I J R s.heap.size)) (F0 m 26 ls []) := by
        intro NN
        induction NN with
        | zero => intro v26_1 v26_2 I_26 H locs ls hM hF hl hLL26_0 hLL26_1 hLL26_2 hLL26_3 hLL26_4 hLL26_5 hLL26_6 hN; exfalso; omega
        | succ NN IH26 =>
          intro v26_1 v26_2 I_26 H locs ls hM hF hl hLL26_0 hLL26_1 hLL26_2 hLL26_3 hLL26_4 hLL26_5 hLL26_6 hN
          refine lv_iload_n B.1 B.2.1 dX1_setProposals_26 rfl (lv_at hl 2 rfl) ?_
          refine lv_aload_n B.1 B.2.1 dX1_setProposals_27 rfl (lv_at hl 0 rfl) ?_
          obtain ⟨x12, e13⟩ : ∃ v, I a_this 0 = v := ⟨_, rfl⟩
          have e14 : I_26 a_this 0 = x12 := (hF.i t_this (by decide) nm0 rfl).trans e13
          have r15 : (0 : Int) ≤ x12 ∧ x12 ≤ 5000 := by rw [← e14]; exact g5_0 hM.2.2.2.2.2.2.1 t_this
          refine c_geti (k := 0) pk_X1 B hM t_this kd5 rfl (by decide) fl_X1_43 dX1_setProposals_28 e14 ?_
          refine q_cge (tgt := 143) B dX1_setProposals_31 (by decide) (by unfold inr; omega) (by unfold inr; omega) (fun c16 => ?_) (fun c16 => ?_)
          · refine lv_iload_n B.1 B.2.1 dX1_setProposals_143 rfl (lv_at hl 1 rfl) ?_
            refine g_iret B hM dX1_setProposals_144 ⟨Nat.le_refl _, Nat.le_refl _⟩ ?_
            rw [← hPST]
            exact ⟨v26_1, rfl, by omega, rfl, rfl, rfl, rfl, rfl, hF, by first | omega | assumption | exact trivial⟩
          · refine lv_iload_n B.1 B.2.1 dX1_setProposals_34 rfl (lv_at hl 2 rfl) ?_
            refine lv_aload_n B.1 B.2.1 dX1_setProposals_35 rfl (lv_at hl 0 rfl) ?_
            obtain ⟨b17, e18, t19⟩ := g5_6 hC0 t_this
            refine c_getn (k := 6) pk_X1 B hM t_this kd5 rfl (by decide) fl_X1_18 dX1_setProposals_36 e18 ?_
            have hv20 : (15 ≤ 23) ∧ (23 ≤ 23) := by first | omega | exact ⟨by first | omega | assumption | exact trivial, by first | omega | assumption | exact trivial⟩
            refine p_calli (c_runV (n := 0) (as := []) (rest := [.int (II v26_2)]) B hX hA hM hl.1 t19 kd23 rfl (k_Jx4a65c_size_8abf5 l D dA eA L T N I_26 J R b17 t19 hv20.1 hv20.2 _ _) ml_X1_81 nm_Jx4a65c_size_8abf5 ⟨rfl, rfl⟩ ⟨Nat.le_of_ble_eq_true rfl, Nat.le_of_ble_eq_true rfl⟩ dX1_setProposals_39 rfl rfl (Nat.le_of_ble_eq_true rfl) ⟨Nat.zero_le _, Nat.zero_le _⟩) (fun x22 ix22 hp21 => ?_)
            have hp21a := hp21
            replace hp21a : I_26 b17 2 = x22 ∧ 0 ≤ x22 ∧ x22 ≤ 500 := hp21a
            obtain ⟨hp21a_0, hp21a_1, hp21a_2⟩ := hp21a
            refine q_cge (tgt := 143) B dX1_setProposals_42 (by decide) (by unfold inr; omega) (by unfold inr; omega) (fun c23 => ?_) (fun c23 => ?_)
            · refine lv_iload_n B.1 B.2.1 dX1_setProposals_143 rfl (lv_at hl 1 rfl) ?_
              refine g_iret B hM dX1_setProposals_144 ⟨Nat.le_refl _, Nat.le_refl _⟩ ?_
              rw [← hPST]
              exact ⟨v26_1, rfl, by omega, rfl, rfl, rfl, rfl, rfl, hF, by first | omega | assumption | exact trivial⟩
            · refine lv_aload_n B.1 B.2.1 dX1_setProposals_45 rfl (lv_at hl 0 rfl) ?_
              refine c_getn (k := 6) pk_X1 B hM t_this kd5 rfl (by decide) fl_X1_18 dX1_setProposals_46 e18 ?_
              refine lv_iload_n B.1 B.2.1 dX1_setProposals_49 rfl (lv_at hl 2 rfl) ?_
              have hv24 : ((-2147483648 : Int) ≤ v26_2 ∧ (v26_2 : Int) ≤ 2147483647) ∧ (15 ≤ 23) ∧ (23 ≤ 23) ∧ (0 ≤ v26_2) ∧ (v26_2 < I_26 b17 2) := by first | omega | exact ⟨by first | omega | assumption | exact trivial, by first | omega | assumption | exact trivial, by first | omega | assumption | exact trivial, by first | omega | assumption | exact trivial, by first | omega | assumption | exact trivial⟩
              refine p_callr (c_runV (n := 1) (as := [.int (II v26_2)]) (rest := []) B hX hA hM hl.1 t19 kd23 rfl (k_Jx4a65c_get_915e3 l D dA eA L T N I_26 J R b17 t19 v26_2 hv24.1 hv24.2.1 hv24.2.2.1 hv24.2.2.2.1 hv24.2.2.2.2 _ _) ml_X1_85 nm_Jx4a65c_get_915e3 ⟨rfl, rfl⟩ ⟨Nat.le_of_ble_eq_true rfl, Nat.le_of_ble_eq_true rfl⟩ dX1_setProposals_50 rfl rfl (Nat.le_of_ble_eq_true rfl) ⟨Nat.zero_le _, Nat.zero_le _⟩) (fun b26 hp25 => ?_)
              obtain ⟨tb26, hp25a⟩ := hp25
              replace hp25a : R (R b17 1 - 1) v26_2.toNat = b26 + 1 := hp25a
              refine c_cast B hM tb26 kd13 rfl cl_X1_226 dX1_setProposals_53 ?_
              refine lv_astore_n (lv' := [(3, .ref b26), (0, .ref a_this), (1, .int (II v26_1)), (2, .int (II v26_2))]) B.1 B.2.1 dX1_setProposals_56 rfl hl (by decide) rfl (fun ls hl => ?_)
              refine lv_aload_n B.1 B.2.1 dX1_setProposals_57 rfl (lv_at hl 0 rfl) ?_
              obtain ⟨x27, e28⟩ : ∃ v, I b26 8 = v := ⟨_, rfl⟩
              have e29 : I_26 b26 8 = x27 := (hF.i tb26 (by decide) nm0 rfl).trans e28
              have r30 : (0 : Int) ≤ x27 ∧ x27 ≤ 1 := by rw [← e29]; exact g13_8 hM.2.2.2.2.2.2.1 tb26
              refine c_geti (k := 8) pk_X2 B hM tb26 kd13 rfl (by decide) fl_X1_271 dX1_setProposals_58 e29 ?_
              refine q_ieq (tgt := 137) B dX1_setProposals_61 (by decide) (by unfold inr; omega) (fun c31 => ?_) (fun c31 => ?_)
              · refine q_inc (lv' := [(2, .int (II (v26_2 + 1))), (3, .ref b26), (0, .ref a_this), (1, .int (II v26_1))]) B dX1_setProposals_137 hl (k := 3) rfl (by decide) rfl (fun ls hl => ?_)
                refine lv_goto (tgt := 26) B.1 B.2.1 dX1_setProposals_140 (by decide) ?_
                have hv32 : ((-2147483648 : Int) ≤ v26_1 ∧ (v26_1 : Int) ≤ 2147483647) ∧ ((-2147483648 : Int) ≤ v26_2 + 1 ∧ (v26_2 + 1 : Int) ≤ 2147483647) ∧ (0 ≤ (v26_2 + 1)) ∧ ((v26_2 + 1) ≤ 5000) ∧ (0 ≤ v26_1) ∧ (v26_1 ≤ (v26_2 + 1)) ∧ (0 ≤ 5001 - (v26_2 + 1)) := by first | omega | exact ⟨by first | omega | assumption | exact trivial, by first | omega | assumption | exact trivial, by first | omega | assumption | exact trivial, by first | omega | assumption | exact trivial, by first | omega | assumption | exact trivial, by first | omega | assumption | exact trivial, by first | omega | assumption | exact trivial⟩
                exact IH26 v26_1 (v26_2 + 1) I_26 _ _ ls hM hF (lv_sub hl [2, 3, 0] rfl) hv32.1 hv32.2.1 hv32.2.2.1 hv32.2.2.2.1 hv32.2.2.2.2.1 hv32.2.2.2.2.2.1 hv32.2.2.2.2.2.2 (by omega)
              · refine lv_aload_n B.1 B.2.1 dX1_setProposals_64 rfl (lv_at hl 0 rfl) ?_
                obtain ⟨x33, e34⟩ : ∃ v, I b26 2 = v := ⟨_, rfl⟩
                have e35 : I_26 b26 2 = x33 := (hF.i tb26 (by decide) nm0 rfl).trans e34
                have r36 : (-2147483648 : Int) ≤ x33 ∧ x33 ≤ 2147483647 := by rw [← e35]; exact g13_2 hM.2.2.2.2.2.2.1 tb26
                refine c_geti (k := 2) pk_X2 B hM tb26 kd13 rfl (by decide) fl_X1_240 dX1_setProposals_65 e35 ?_
                refine q_ilt (tgt := 137) B dX1_setProposals_68 (by decide) (by unfold inr; omega) (fun c37 => ?_) (fun c37 => ?_)
                · refine q_inc (lv' := [(2, .int (II (v26_2 + 1))), (3, .ref b26), (0, .ref a_this), (1, .int (II v26_1))]) B dX1_setProposals_137 hl (k := 3) rfl (by decide) rfl (fun ls hl => ?_)
                  refine lv_goto (tgt := 26) B.1 B.2.1 dX1_setProposals_140 (by decide) ?_
                  have hv38 : ((-2147483648 : Int) ≤ v26_1 ∧ (v26_1 : Int) ≤ 2147483647) ∧ ((-2147483648 : Int) ≤ v26_2 + 1 ∧ (v26_2 + 1 : Int) ≤ 2147483647) ∧ (0 ≤ (v26_2 + 1)) ∧ ((v26_2 + 1) ≤ 5000) ∧ (0 ≤ v26_1) ∧ (v26_1 ≤ (v26_2 + 1)) ∧ (0 ≤ 5001 - (v26_2 + 1)) := by first | omega | exact ⟨by first | omega | assumption | exact trivial, by first | omega | assumption | exact trivial, by first | omega | assumption | exact trivial, by first | omega | assumption | exact trivial, by first | omega | assumption | exact trivial, by first | omega | assumption | exact trivial, by first | omega | assumption | exact trivial⟩
                  exact IH26 v26_1 (v26_2 + 1) I_26 _ _ ls hM hF (lv_sub hl [2, 3, 0] rfl) hv38.1 hv38.2.1 hv38.2.2.1 hv38.2.2.2.1 hv38.2.2.2.2.1 hv38.2.2.2.2.2.1 hv38.2.2.2.2.2.2 (by omega)
                · refine lv_aload_n B.1 B.2.1 dX1_setProposals_71 rfl (lv_at hl 0 rfl) ?_
                  refine c_geti (k := 2) pk_X2 B hM tb26 kd13 rfl (by decide) fl_X1_240 dX1_setProposals_72 e35 ?_
                  refine lv_aload_n B.1 B.2.1 dX1_setProposals_75 rfl (lv_at hl 1 rfl) ?_
                  obtain ⟨b39, e40, t41⟩ := g5_5 hC0 t_this
                  refine c_getn (k := 5) pk_X1 B hM t_this kd5 rfl (by decide) fl_X1_9 dX1_setProposals_76 e40 ?_
                  have hv42 : (15 ≤ 22) ∧ (22 ≤ 23) := by first | omega | exact ⟨by first | omega | assumption | exact trivial, by first | omega | assumption | exact trivial⟩
                  refine p_calli (c_runV (n := 0) (as := []) (rest := [.int (II x33)]) B hX hA hM hl.1 t41 kd22 rfl (k_Jx4a65c_size_8abf5 l D dA eA L T N I_26 J R b39 t41 hv42.1 hv42.2 _ _) ml_X1_81 nm_Jx4a65c_size_8abf5 ⟨rfl, rfl⟩ ⟨Nat.le_of_ble_eq_true rfl, Nat.le_of_ble_eq_true rfl⟩ dX1_setProposals_79 rfl rfl (Nat.le_of_ble_eq_true rfl) ⟨Nat.zero_le _, Nat.zero_le _⟩) (fun x44 ix44 hp43 => ?_)
                  have hp43a := hp43
                  replace hp43a : I_26 b39 2 = x44 ∧ 0 ≤ x44 ∧ x44 ≤ 200 := hp43a
                  obtain ⟨hp43a_0, hp43a_1, hp43a_2⟩ := hp43a
                  refine q_cge (tgt := 137) B dX1_setProposals_82 (by decide) (by unfold inr; omega) (by unfold inr; omega) (fun c45 => ?_) (fun c45 => ?_)
                  · refine q_inc (lv' := [(2, .int (II (v26_2 + 1))), (3, .ref b26), (0, .ref a_this), (1, .int (II v26_1))]) B dX1_setProposals_137 hl (k := 3) rfl (by decide) rfl (fun ls hl => ?_)
                    refine lv_goto (tgt := 26) B.1 B.2.1 dX1_setProposals_140 (by decide) ?_
                    have hv46 : ((-2147483648 : Int) ≤ v26_1 ∧ (v26_1 : Int) ≤ 2147483647) ∧ ((-2147483648 : Int) ≤ v26_2 + 1 ∧ (v26_2 + 1 : Int) ≤ 2147483647) ∧ (0 ≤ (v26_2 + 1)) ∧ ((v26_2 + 1) ≤ 5000) ∧ (0 ≤ v26_1) ∧ (v26_1 ≤ (v26_2 + 1)) ∧ (0 ≤ 5001 - (v26_2 + 1)) := by first | omega | exact ⟨by first | omega | assumption | exact trivial, by first | omega | assumption | exact trivial, by first | omega | assumption | exact trivial, by first | omega | assumption | exact trivial, by first | omega | assumption | exact trivial, by first | omega | assumption | exact trivial, by first | omega | assumption | exact trivial⟩
                    exact IH26 v26_1 (v26_2 + 1) I_26 _ _ ls hM hF (lv_sub hl [2, 3, 0] rfl) hv46.1 hv46.2.1 hv46.2.2.1 hv46.2.2.2.1 hv46.2.2.2.2.1 hv46.2.2.2.2.2.1 hv46.2.2.2.2.2.2 (by omega)
                  · refine lv_aload_n B.1 B.2.1 dX1_setProposals_85 rfl (lv_at hl 1 rfl) ?_
                    refine c_getn (k := 5) pk_X1 B hM t_this kd5 rfl (by decide) fl_X1_9 dX1_setProposals_86 e40 ?_
                    refine lv_aload_n B.1 B.2.1 dX1_setProposals_89 rfl (lv_at hl 0 rfl) ?_
                    refine c_geti (k := 2) pk_X2 B hM tb26 kd13 rfl (by decide) fl_X1_240 dX1_setProposals_90 e35 ?_
                    have hv47 : ((-2147483648 : Int) ≤ x33 ∧ (x33 : Int) ≤ 2147483647) ∧ (15 ≤ 22) ∧ (22 ≤ 23) ∧ (0 ≤ x33) ∧ (x33 < I_26 b39 2) := by first | omega | exact ⟨by first | omega | assumption | exact trivial, by first | omega | assumption | exact trivial, by first | omega | assumption | exact trivial, by first | omega | assumption | exact trivial, by first | omega | assumption | exact trivial⟩
                    refine p_callr (c_runV (n := 1) (as := [.int (II x33)]) (rest := []) B hX hA hM hl.1 t41 kd22 rfl (k_Jx4a65c_get_915e3 l D dA eA L T N I_26 J R b39 t41 x33 hv47.1 hv47.2.1 hv47.2.2.1 hv47.2.2.2.1 hv47.2.2.2.2 _ _) ml_X1_85 nm_Jx4a65c_get_915e3 ⟨rfl, rfl⟩ ⟨Nat.le_of_ble_eq_true rfl, Nat.le_of_ble_eq_true rfl⟩ dX1_setProposals_93 rfl rfl (Nat.le_of_ble_eq_true rfl) ⟨Nat.zero_le _, Nat.zero_le _⟩) (fun b49 hp48 => ?_)
                    obtain ⟨tb49, hp48a⟩ := hp48
                    replace hp48a : R (R b39 1 - 1) x33.toNat = b49 + 1 := hp48a
                    refine c_cast B hM tb49 kd12 rfl cl_X1_116 dX1_setProposals_96 ?_
                    refine lv_astore (lv' := [(4, .ref b49), (3, .ref b26), (0, .ref a_this), (1, .int (II v26_1)), (2, .int (II v26_2))]) B.1 B.2.1 dX1_setProposals_99 hl (by decide) rfl (fun ls hl => ?_)
                    refine lv_aload_n B.1 B.2.1 dX1_setProposals_101 rfl (lv_at hl 2 rfl) ?_
                    refine c_getn (k := 4) pk_X1 B hM t_this kd5 rfl (by decide) fl_X1_66 dX1_setProposals_102 p_0 ?_
                    refine lv_aload B.1 B.2.1 dX1_setProposals_105 (lv_at hl 0 rfl) ?_
                    obtain ⟨b50, e51, t52⟩ := g12_0 hC0 tb49
                    refine c_getn (k := 0) pk_X5 B hM tb49 kd12 rfl (by decide) fl_X1_121 dX1_setProposals_107 e51 ?_
                    refine lv_aload_n B.1 B.2.1 dX1_setProposals_110 rfl (lv_at hl 1 rfl) ?_
                    obtain ⟨x53, e54⟩ : ∃ v, I b26 3 = v := ⟨_, rfl⟩
                    have e55 : I_26 b26 3 = x53 := (hF.i tb26 (by decide) nm0 rfl).trans e54
                    have r56 : (-2147483648 : Int) ≤ x53 ∧ x53 ≤ 2147483647 := by rw [← e55]; exact g13_3 hM.2.2.2.2.2.2.1 tb26
                    refine c_geti (k := 3) pk_X2 B hM tb26 kd13 rfl (by decide) fl_X1_243 dX1_setProposals_111 e55 ?_
                    refine p_calli (c_runV (n := 2) (as := [.ref b50, .int (II x53)]) (rest := []) B hX hA hM hl.1 p_1 kd6 rfl (k_X0_isRead l D dA eA L T N I_26 J R g_b p_1 b50 t52 x53 (by first | omega | assumption | exact trivial) _ _) ml_X1_274 nm_X0_isRead ⟨rfl, rfl⟩ ⟨Nat.le_of_ble_eq_true rfl, Nat.le_of_ble_eq_true rfl⟩ dX1_setProposals_114 rfl rfl (Nat.le_of_ble_eq_true rfl) ⟨Nat.zero_le _, Nat.zero_le _⟩) (fun x58 ix58 hp57 => ?_)
                    have hp57a := hp57
                    replace hp57a : (0 : Int) ≤ x58 ∧ x58 ≤ 1 ∧ (True) := hp57a
                    obtain ⟨hp57a_0, hp57a_1, hp57a_2⟩ := hp57a
                    refine q_ine (tgt := 137) B dX1_setProposals_117 (by decide) (by unfold inr; omega) (fun c59 => ?_) (fun c59 => ?_)
                    · refine q_inc (lv' := [(2, .int (II (v26_2 + 1))), (4, .ref b49), (3, .ref b26), (0, .ref a_this), (1, .int (II v26_1))]) B dX1_setProposals_137 hl (k := 4) rfl (by decide) rfl (fun ls hl => ?_)
                      refine lv_goto (tgt := 26) B.1 B.2.1 dX1_setProposals_140 (by decide) ?_
                      have hv60 : ((-2147483648 : Int) ≤ v26_1 ∧ (v26_1 : Int) ≤ 2147483647) ∧ ((-2147483648 : Int) ≤ v26_2 + 1 ∧ (v26_2 + 1 : Int) ≤ 2147483647) ∧ (0 ≤ (v26_2 + 1)) ∧ ((v26_2 + 1) ≤ 5000) ∧ (0 ≤ v26_1) ∧ (v26_1 ≤ (v26_2 + 1)) ∧ (0 ≤ 5001 - (v26_2 + 1)) := by first | omega | exact ⟨by first | omega | assumption | exact trivial, by first | omega | assumption | exact trivial, by first | omega | assumption | exact trivial, by first | omega | assumption | exact trivial, by first | omega | assumption | exact trivial, by first | omega | assumption | exact trivial, by first | omega | assumption | exact trivial⟩
                      exact IH26 v26_1 (v26_2 + 1) I_26 _ _ ls hM hF (lv_sub hl [3, 4, 0] rfl) hv60.1 hv60.2.1 hv60.2.2.1 hv60.2.2.2.1 hv60.2.2.2.2.1 hv60.2.2.2.2.2.1 hv60.2.2.2.2.2.2 (by omega)
                    · refine lv_aload B.1 B.2.1 dX1_setProposals_120 (lv_at hl 0 rfl) ?_
                      refine lv_aload_n B.1 B.2.1 dX1_setProposals_122 rfl (lv_at hl 1 rfl) ?_
                      refine c_geti (k := 3) pk_X2 B hM tb26 kd13 rfl (by decide) fl_X1_243 dX1_setProposals_123 e55 ?_
                      refine lv_aload_n B.1 B.2.1 dX1_setProposals_126 rfl (lv_at hl 1 rfl) ?_
                      obtain ⟨x61, e62⟩ : ∃ v, I b26 7 = v := ⟨_, rfl⟩
                      have e63 : I_26 b26 7 = x61 := (hF.i tb26 (by decide) nm0 rfl).trans e62
                      have r64 : (-2147483648 : Int) ≤ x61 ∧ x61 ≤ 2147483647 := by rw [← e63]; exact g13_7 hM.2.2.2.2.2.2.1 tb26
                      refine c_geti (k := 7) pk_X2 B hM tb26 kd13 rfl (by decide) fl_X1_264 dX1_setProposals_127 e63 ?_
                      refine q_con B dX1_setProposals_130 ?_
                      have hv65 : ((-2147483648 : Int) ≤ x53 ∧ (x53 : Int) ≤ 2147483647) ∧ ((-2147483648 : Int) ≤ x61 ∧ (x61 : Int) ≤ 2147483647) ∧ ((0 : Int) ≤ 1 ∧ (1 : Int) ≤ 1) := by first | omega | exact ⟨by first | omega | assumption | exact trivial, by first | omega | assumption | exact trivial, by first | omega | assumption | exact trivial⟩
                      refine z_callv hM hA (c_runV (n := 3) (as := [.int (II x53), .int (II x61), .int (II 1)]) (rest := []) B hX hA hM hl.1 tb49 kd12 rfl (k_X5_put l D dA eA L T N I_26 J R b49 tb49 x53 hv65.1 x61 hv65.2.1 (1) hv65.2.2 _ _) ml_X1_278 nm_X5_put ⟨rfl, rfl⟩ ⟨Nat.le_of_ble_eq_true rfl, Nat.le_of_ble_eq_true rfl⟩ dX1_setProposals_131 rfl rfl (Nat.le_of_ble_eq_true rfl) ⟨Nat.zero_le _, Nat.zero_le _⟩) (fun L68 T69 N70 I71 J72 R73 dz74 dl75 H locs hp66 hMn => ?_)
                      obtain ⟨yL68, yT69, yN70, yJ72, yR73, hFc76, hp66a⟩ := hp66
                      obtain rfl := yL68.symm; obtain rfl := yT69.symm; obtain rfl := yN70.symm; obtain rfl := yJ72.symm; obtain rfl := yR73.symm
                      replace hF : Fr mo_X1_setProposals [] T N I J R T N I71 J R := hF.trans hFc76 (by decide) e20
                      have hM := hMn
                      clear hMn
                      clear hp66a
                      refine q_inc (lv' := [(1, .int (II (v26_1 + 1))), (4, .ref b49), (3, .ref b26), (0, .ref a_this), (2, .int (II v26_2))]) B dX1_setProposals_134 hl (k := 3) rfl (by decide) rfl (fun ls hl => ?_)
                      refine q_inc (lv' := [(2, .int (II (v26_2 + 1))), (1, .int (II (v26_1 + 1))), (4, .ref b49), (3, .ref b26), (0, .ref a_this)]) B dX1_setProposals_137 hl (k := 4) rfl (by decide) rfl (fun ls hl => ?_)
                      refine lv_goto (tgt := 26) B.1 B.2.1 dX1_setProposals_140 (by decide) ?_
                      have hv77 : ((-2147483648 : Int) ≤ v26_1 + 1 ∧ (v26_1 + 1 : Int) ≤ 2147483647) ∧ ((-2147483648 : Int) ≤ v26_2 + 1 ∧ (v26_2 + 1 : Int) ≤ 2147483647) ∧ (0 ≤ (v26_2 + 1)) ∧ ((v26_2 + 1) ≤ 5000) ∧ (0 ≤ (v26_1 + 1)) ∧ ((v26_1 + 1) ≤ (v26_2 + 1)) ∧ (0 ≤ 5001 - (v26_2 + 1)) := by first | omega | exact ⟨by first | omega | assumption | exact trivial, by first | omega | assumption | exact trivial, by first | omega | assumption | exact trivial, by first | omega | assumption | exact trivial, by first | omega | assumption | exact trivial, by first | omega | assumption | exact trivial, by first | omega | assumption | exact trivial⟩
                      exact IH26 (v26_1 + 1) (v26_2 + 1) I71 _ _ ls hM hF (lv_sub hl [4, 1, 0] rfl) hv77.1 hv77.2.1 hv77.2.2.1 hv77.2.2.2.1 hv77.2.2.2.2.1 hv77.2.2.2.2.2.1 hv77.2.2.2.2.2.2 (by omega)
      have hv78 : ((-2147483648 : Int) ≤ 0 ∧ (0 : Int) ≤ 2147483647) ∧ ((-2147483648 : Int) ≤ 0 ∧ (0 : Int) ≤ 2147483647) ∧ (0 ≤ (0 : Int)) ∧ ((0 : Int) ≤ 5000) ∧ (0 ≤ (0 : Int)) ∧ ((0 : Int) ≤ (0 : Int)) ∧ (0 ≤ 5001 - (0 : Int)) := by first | omega | exact ⟨by first | omega | assumption | exact trivial, by first | omega | assumption | exact trivial, by first | omega | assumption | exact trivial, by first | omega | assumption | exact trivial, by first | omega | assumption | exact trivial, by first | omega | assumption | exact trivial, by first | omega | assumption | exact trivial⟩
      exact LL26 (Int.toNat (5001 - (0 : Int) + 1)) 0 0 I9 _ _ ls hM hF (lv_sub hl [2, 1, 0] rfl) hv78.1 hv78.2.1 hv78.2.2.1 hv78.2.2.2.1 hv78.2.2.2.2.1 hv78.2.2.2.2.2.1 hv78.2.2.2.2.2.2 (by omega)
    · exact JJ15  _ _ ls hM (lv_sub hl [0] rfl)
