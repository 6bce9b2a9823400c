set_option maxHeartbeats 1000000 in
set_option maxRecDepth 20000 in
theorem k_X1_foundAt (l : Launch) (D : va_G) (dA : Nat → ClassId) (eA : Nat) (L : List Nat) (T N : Nat → Nat) (I : Nat → Nat → Int) (J : Nat → Nat → Int64) (R : Nat → Nat → Nat) (a_this : Nat) (t_this : T a_this = 5) (a_k : Int) (i_k : (-2147483648 : Int) ≤ a_k ∧ a_k ≤ 2147483647) (p_0 : FUp I R a_this) : PC l yX1_foundAt cX1_foundAt 2 (some (.object "CustomsDesk$Found")) ({ frames := 3, cells := 0, slots := 0, locals := 81 }) D dA eA L T N I J R [.ref a_this, .int (II a_k)] (rQ (fun r => (r = 0 ∨ ∃ b, r = b + 1 ∧ T b = 13) ∧ (r = 0 ∨ R (r - 1) 0 ≠ 0))) := by
  generalize hPST : (rQ (fun r => (r = 0 ∨ ∃ b, r = b + 1 ∧ T b = 13) ∧ (r = 0 ∨ R (r - 1) 0 ≠ 0))) = PST
  refine p_enter (own := RX1) (by decide) rfl (Nat.le_of_ble_eq_true rfl) (fun p e s m args below meth c ls B hX hM hl => ?_)
  have hA : ∀ q, s.heap.size ≤ q → cF dA L T N I J R s.heap.size q := fun q h => Or.inr h
  have hl : lv_has ls 2 [(0, .ref a_this), (1, .int (II a_k))] := hl
  refine lv_iload_n B.1 B.2.1 dX1_foundAt_0 rfl (lv_at hl 1 rfl) ?_
  refine q_ilt (tgt := 37) B dX1_foundAt_1 (by decide) (by unfold inr; omega) (fun c1 => ?_) (fun c1 => ?_)
  · refine lv_null B.1 B.2.1 dX1_foundAt_37 ?_
    refine p_aret (v := 0) B (Or.inl ⟨_, rfl⟩) dX1_foundAt_38 rfl ?_
    rw [← hPST]
    exact ⟨0, rfl, Or.inl rfl, by exact Or.inl rfl⟩
  · refine lv_iload_n B.1 B.2.1 dX1_foundAt_4 rfl (lv_at hl 1 rfl) ?_
    refine lv_aload_n B.1 B.2.1 dX1_foundAt_5 rfl (lv_at hl 0 rfl) ?_
    obtain ⟨x2, e3⟩ : ∃ v, I a_this 0 = v := ⟨_, rfl⟩
    have r4 : (0 : Int) ≤ x2 ∧ x2 ≤ 5000 := by rw [← e3]; exact g5_0 hM.2.2.2.2.2.2.1 t_this
    refine c_geti (k := 0) pk_X1 B hM t_this kd5 rfl (by decide) fl_X1_43 dX1_foundAt_6 e3 ?_
    refine q_cge (tgt := 37) B dX1_foundAt_9 (by decide) (by unfold inr; omega) (by unfold inr; omega) (fun c5 => ?_) (fun c5 => ?_)
    · refine lv_null B.1 B.2.1 dX1_foundAt_37 ?_
      refine p_aret (v := 0) B (Or.inl ⟨_, rfl⟩) dX1_foundAt_38 rfl ?_
      rw [← hPST]
      exact ⟨0, rfl, Or.inl rfl, by exact Or.inl rfl⟩
    · refine lv_iload_n B.1 B.2.1 dX1_foundAt_12 rfl (lv_at hl 1 rfl) ?_
      refine lv_aload_n B.1 B.2.1 dX1_foundAt_13 rfl (lv_at hl 0 rfl) ?_
      obtain ⟨b6, e7, t8⟩ := g5_6 hM.2.2.2.2.2.2.1 t_this
      refine c_getn (k := 6) pk_X1 B hM t_this kd5 rfl (by decide) fl_X1_18 dX1_foundAt_14 e7 ?_
      have hv9 : (15 ≤ 23) ∧ (23 ≤ 23) := by first | omega | exact ⟨by first | omega | assumption | exact trivial, by first | omega | assumption | exact trivial⟩
      refine p_calli (c_runV (n := 0) (as := []) (rest := [.int (II a_k)]) B hX hA hM hl.1 t8 kd23 rfl (k_Jx4a65c_size_8abf5 l D dA eA L T N I J R b6 t8 hv9.1 hv9.2 _ _) ml_X1_81 nm_Jx4a65c_size_8abf5 ⟨rfl, rfl⟩ ⟨Nat.le_of_ble_eq_true rfl, Nat.le_of_ble_eq_true rfl⟩ dX1_foundAt_17 rfl rfl (Nat.le_of_ble_eq_true rfl) ⟨Nat.zero_le _, Nat.zero_le _⟩) (fun x11 ix11 hp10 => ?_)
      have hp10a := hp10
      replace hp10a : I b6 2 = x11 ∧ 0 ≤ x11 ∧ x11 ≤ 500 := hp10a
      obtain ⟨hp10a_0, hp10a_1, hp10a_2⟩ := hp10a
      refine q_cge (tgt := 37) B dX1_foundAt_20 (by decide) (by unfold inr; omega) (by unfold inr; omega) (fun c12 => ?_) (fun c12 => ?_)
      · refine lv_null B.1 B.2.1 dX1_foundAt_37 ?_
        refine p_aret (v := 0) B (Or.inl ⟨_, rfl⟩) dX1_foundAt_38 rfl ?_
        rw [← hPST]
        exact ⟨0, rfl, Or.inl rfl, by exact Or.inl rfl⟩
      · refine lv_aload_n B.1 B.2.1 dX1_foundAt_23 rfl (lv_at hl 0 rfl) ?_
        refine c_getn (k := 6) pk_X1 B hM t_this kd5 rfl (by decide) fl_X1_18 dX1_foundAt_24 e7 ?_
        refine lv_iload_n B.1 B.2.1 dX1_foundAt_27 rfl (lv_at hl 1 rfl) ?_
        have hv13 : ((-2147483648 : Int) ≤ a_k ∧ (a_k : Int) ≤ 2147483647) ∧ (15 ≤ 23) ∧ (23 ≤ 23) ∧ (0 ≤ a_k) ∧ (a_k < I b6 2) := by first | omega | exact ⟨by first | omega | assumption | exact trivial, by first | omega | assumption | exact trivial, by first | omega | assumption | exact trivial, by first | omega | assumption | exact trivial, by first | omega | assumption | exact trivial⟩
        refine p_callr (c_runV (n := 1) (as := [.int (II a_k)]) (rest := []) B hX hA hM hl.1 t8 kd23 rfl (k_Jx4a65c_get_915e3 l D dA eA L T N I J R b6 t8 a_k hv13.1 hv13.2.1 hv13.2.2.1 hv13.2.2.2.1 hv13.2.2.2.2 _ _) ml_X1_85 nm_Jx4a65c_get_915e3 ⟨rfl, rfl⟩ ⟨Nat.le_of_ble_eq_true rfl, Nat.le_of_ble_eq_true rfl⟩ dX1_foundAt_28 rfl rfl (Nat.le_of_ble_eq_true rfl) ⟨Nat.zero_le _, Nat.zero_le _⟩) (fun b15 hp14 => ?_)
        obtain ⟨tb15, hp14a⟩ := hp14
        replace hp14a : R (R b6 1 - 1) a_k.toNat = b15 + 1 := hp14a
        refine c_cast B hM tb15 kd13 rfl cl_X1_226 dX1_foundAt_31 ?_
        refine lv_goto (tgt := 38) B.1 B.2.1 dX1_foundAt_34 (by decide) ?_
        refine p_aret (v := b15 + 1) B (Or.inl ⟨_, rfl⟩) dX1_foundAt_38 rfl ?_
        rw [← hPST]
        exact ⟨b15 + 1, rfl, Or.inr ⟨_, rfl, tb15⟩, by exact Or.inr (by rw [Nat.add_sub_cancel]; exact FUp.at (i := a_k) p_0 e7 (by omega) (by omega) (by omega) (by assumption))⟩

set_option maxHeartbeats 1000000 in
set_option maxRecDepth 20000 in
theorem k_X1_wayLength (l : Launch) (D : va_G) (dA : Nat → ClassId) (eA : Nat) (L : List Nat) (T N : Nat → Nat) (I : Nat → Nat → Int) (J : Nat → Nat → Int64) (R : Nat → Nat → Nat) (a_this : Nat) (t_this : T a_this = 5) (a_f : Nat) (t_f : T a_f = 13) : PC l yX1_wayLength cX1_wayLength 2 (some .int) ({ frames := 0, cells := 0, slots := 0, locals := 0 }) D dA eA L T N I J R [.ref a_this, .ref a_f] (rI (fun r => True)) := by
  generalize hPST : (rI (fun r => True)) = PST
  refine p_enter (own := RX1) (by decide) rfl (Nat.le_of_ble_eq_true rfl) (fun p e s m args below meth c ls B hX hM hl => ?_)
  have hA : ∀ q, s.heap.size ≤ q → cF dA L T N I J R s.heap.size q := fun q h => Or.inr h
  have hl : lv_has ls 2 [(0, .ref a_this), (1, .ref a_f)] := hl
  refine lv_aload_n B.1 B.2.1 dX1_wayLength_0 rfl (lv_at hl 0 rfl) ?_
  obtain ⟨b1, e2, t3⟩ := g5_16 hM.2.2.2.2.2.2.1 t_this
  refine c_getn (k := 16) pk_X1 B hM t_this kd5 rfl (by decide) fl_X1_34 dX1_wayLength_1 e2 ?_
  refine lv_aload_n B.1 B.2.1 dX1_wayLength_4 rfl (lv_at hl 1 rfl) ?_
  obtain ⟨x4, e5⟩ : ∃ v, I a_f 1 = v := ⟨_, rfl⟩
  have r6 : (0 : Int) ≤ x4 ∧ x4 ≤ 1599 := by rw [← e5]; exact g13_1 hM.2.2.2.2.2.2.1 t_f
  refine c_geti (k := 1) pk_X2 B hM t_f kd13 rfl (by decide) fl_X1_237 dX1_wayLength_5 e5 ?_
  have n7 : 1600 ≤ N b1 ∧ N b1 ≤ 1600 := gn93 hM.2.2.2.2.2.2.1 t3
  obtain ⟨x8, e9⟩ : ∃ v, I b1 x4.toNat = v := ⟨_, rfl⟩
  have r10 : (-2147483648 : Int) ≤ x8 ∧ x8 ≤ 2147483647 := by rw [← e9]; exact ga93 hM.2.2.2.2.2.2.1 t3 (by omega)
  refine c_ild B hM t3 kd93 an93 dX1_wayLength_8 (by omega) (by omega) e9 ?_
  refine p_iret B dX1_wayLength_9 ?_
  rw [← hPST]
  exact ⟨x8, rfl, by omega, by first | omega | assumption | exact trivial⟩

set_option maxHeartbeats 1000000 in
set_option maxRecDepth 20000 in
theorem k_X1_wayStep (l : Launch) (D : va_G) (dA : Nat → ClassId) (eA : Nat) (L : List Nat) (T N : Nat → Nat) (I : Nat → Nat → Int) (J : Nat → Nat → Int64) (R : Nat → Nat → Nat) (a_this : Nat) (t_this : T a_this = 5) (a_f : Nat) (t_f : T a_f = 13) (a_i : Int) (i_i : (-2147483648 : Int) ≤ a_i ∧ a_i ≤ 2147483647) : PC l yX1_wayStep cX1_wayStep 6 (some .int) ({ frames := 0, cells := 0, slots := 0, locals := 0 }) D dA eA L T N I J R [.ref a_this, .ref a_f, .int (II a_i)] (rI (fun r => True)) := by
  generalize hPST : (rI (fun r => True)) = PST
  refine p_enter (own := RX1) (by decide) rfl (Nat.le_of_ble_eq_true rfl) (fun p e s m args below meth c ls B hX hM hl => ?_)
  have hA : ∀ q, s.heap.size ≤ q → cF dA L T N I J R s.heap.size q := fun q h => Or.inr h
  have hl : lv_has ls 6 [(0, .ref a_this), (1, .ref a_f), (2, .int (II a_i))] := hl
  refine lv_aload_n B.1 B.2.1 dX1_wayStep_0 rfl (lv_at hl 1 rfl) ?_
  obtain ⟨x1, e2⟩ : ∃ v, I a_f 1 = v := ⟨_, rfl⟩
  have r3 : (0 : Int) ≤ x1 ∧ x1 ≤ 1599 := by rw [← e2]; exact g13_1 hM.2.2.2.2.2.2.1 t_f
  refine c_geti (k := 1) pk_X2 B hM t_f kd13 rfl (by decide) fl_X1_237 dX1_wayStep_1 e2 ?_
  refine lv_istore_n (lv' := [(3, .int (II x1)), (0, .ref a_this), (1, .ref a_f), (2, .int (II a_i))]) B.1 B.2.1 dX1_wayStep_4 rfl hl (by decide) rfl (fun ls hl => ?_)
  refine lv_aload_n B.1 B.2.1 dX1_wayStep_5 rfl (lv_at hl 1 rfl) ?_
  obtain ⟨b4, e5, t6⟩ := g5_16 hM.2.2.2.2.2.2.1 t_this
  refine c_getn (k := 16) pk_X1 B hM t_this kd5 rfl (by decide) fl_X1_34 dX1_wayStep_6 e5 ?_
  refine lv_iload_n B.1 B.2.1 dX1_wayStep_9 rfl (lv_at hl 0 rfl) ?_
  have n7 : 1600 ≤ N b4 ∧ N b4 ≤ 1600 := gn93 hM.2.2.2.2.2.2.1 t6
  obtain ⟨x8, e9⟩ : ∃ v, I b4 x1.toNat = v := ⟨_, rfl⟩
  have r10 : (-2147483648 : Int) ≤ x8 ∧ x8 ≤ 2147483647 := by rw [← e9]; exact ga93 hM.2.2.2.2.2.2.1 t6 (by omega)
  refine c_ild B hM t6 kd93 an93 dX1_wayStep_10 (by omega) (by omega) e9 ?_
  refine lv_istore (lv' := [(4, .int (II x8)), (3, .int (II x1)), (0, .ref a_this), (1, .ref a_f), (2, .int (II a_i))]) B.1 B.2.1 dX1_wayStep_11 hl (by decide) rfl (fun ls hl => ?_)
  refine lv_iload_n B.1 B.2.1 dX1_wayStep_13 rfl (lv_at hl 4 rfl) ?_
  refine q_ilt (tgt := 29) B dX1_wayStep_14 (by decide) (by unfold inr; omega) (fun c11 => ?_) (fun c11 => ?_)
  · refine q_con B dX1_wayStep_29 ?_
    refine p_iret B dX1_wayStep_30 ?_
    rw [← hPST]
    exact ⟨(-1), rfl, by omega, by first | omega | assumption | exact trivial⟩
  · refine lv_iload_n B.1 B.2.1 dX1_wayStep_17 rfl (lv_at hl 4 rfl) ?_
    refine lv_iload B.1 B.2.1 dX1_wayStep_18 (lv_at hl 0 rfl) ?_
    refine q_cge (tgt := 29) B dX1_wayStep_20 (by decide) (by unfold inr; omega) (by unfold inr; omega) (fun c12 => ?_) (fun c12 => ?_)
    · refine q_con B dX1_wayStep_29 ?_
      refine p_iret B dX1_wayStep_30 ?_
      rw [← hPST]
      exact ⟨(-1), rfl, by omega, by first | omega | assumption | exact trivial⟩
    · refine lv_iload_n B.1 B.2.1 dX1_wayStep_23 rfl (lv_at hl 4 rfl) ?_
      refine q_bip B dX1_wayStep_24 (by decide) ?_
      refine q_clt (tgt := 31) B dX1_wayStep_26 (by decide) (by unfold inr; omega) (by unfold inr; omega) (fun c13 => ?_) (fun c13 => ?_)
      · refine lv_iload B.1 B.2.1 dX1_wayStep_31 (lv_at hl 0 rfl) ?_
        refine lv_istore (lv' := [(5, .int (II x8)), (4, .int (II x8)), (3, .int (II x1)), (0, .ref a_this), (1, .ref a_f), (2, .int (II a_i))]) B.1 B.2.1 dX1_wayStep_33 hl (by decide) rfl (fun ls hl => ?_)
        have LL35 : ∀ NN : Nat, ∀ (v35_3 : Int) (v35_5 : Int) (ls : Array Slot), lv_has ls 6 [(4, .int (II x8)), (0, .ref a_this), (1, .ref a_f), (2, .int (II a_i)), (3, .int (II v35_3)), (5, .int (II v35_5))] → ((-2147483648 : Int) ≤ v35_3 ∧ v35_3 ≤ 2147483647) → ((-2147483648 : Int) ≤ v35_5 ∧ v35_5 ≤ 2147483647) → (0 ≤ v35_3) → (v35_3 ≤ 1599) → (v35_5 ≤ x8) → (0 ≤ v35_5 + 2147483648) → (v35_5 + 2147483648 < (NN : Int)) → W p l e ({ frames := 0, cells := 0, slots := 0, locals := 0 }) s m args below meth c s.heap [] 0 0 (MQ below (pQ PST) args s 0 0 (fun _ => False)) (F0 m 35 ls []) := by
          intro NN
          induction NN with
          | zero => intro v35_3 v35_5 ls hl hLL35_0 hLL35_1 hLL35_2 hLL35_3 hLL35_4 hLL35_5 hN; exfalso; omega
          | succ NN IH35 =>
            intro v35_3 v35_5 ls hl hLL35_0 hLL35_1 hLL35_2 hLL35_3 hLL35_4 hLL35_5 hN
            refine lv_iload B.1 B.2.1 dX1_wayStep_35 (lv_at hl 5 rfl) ?_
            refine lv_iload_n B.1 B.2.1 dX1_wayStep_37 rfl (lv_at hl 3 rfl) ?_
            refine q_con B dX1_wayStep_38 ?_
            refine q_add B dX1_wayStep_39 ?_
            refine q_cle (tgt := 66) B dX1_wayStep_40 (by decide) (by unfold inr; omega) (by unfold inr; omega) (fun c14 => ?_) (fun c14 => ?_)
            · refine lv_aload_n B.1 B.2.1 dX1_wayStep_66 rfl (lv_at hl 1 rfl) ?_
              obtain ⟨b15, e16, t17⟩ := g5_15 hM.2.2.2.2.2.2.1 t_this
              refine c_getn (k := 15) pk_X1 B hM t_this kd5 rfl (by decide) fl_X1_31 dX1_wayStep_67 e16 ?_
              refine lv_iload_n B.1 B.2.1 dX1_wayStep_70 rfl (lv_at hl 4 rfl) ?_
              have n18 : 1600 ≤ N b15 ∧ N b15 ≤ 1600 := gn92 hM.2.2.2.2.2.2.1 t17
              obtain ⟨x19, e20⟩ : ∃ v, I b15 v35_3.toNat = v := ⟨_, rfl⟩
              have r21 : (-2147483648 : Int) ≤ x19 ∧ x19 ≤ 2147483647 := by rw [← e20]; exact ga92 hM.2.2.2.2.2.2.1 t17 (by omega)
              refine c_ild B hM t17 kd92 an92 dX1_wayStep_71 (by omega) (by omega) e20 ?_
              refine p_iret B dX1_wayStep_72 ?_
              rw [← hPST]
              exact ⟨x19, rfl, by omega, by first | omega | assumption | exact trivial⟩
            · refine lv_aload_n B.1 B.2.1 dX1_wayStep_43 rfl (lv_at hl 1 rfl) ?_
              obtain ⟨b22, e23, t24⟩ := g5_14 hM.2.2.2.2.2.2.1 t_this
              refine c_getn (k := 14) pk_X1 B hM t_this kd5 rfl (by decide) fl_X1_28 dX1_wayStep_44 e23 ?_
              refine lv_iload_n B.1 B.2.1 dX1_wayStep_47 rfl (lv_at hl 4 rfl) ?_
              have n25 : 1600 ≤ N b22 ∧ N b22 ≤ 1600 := gn91 hM.2.2.2.2.2.2.1 t24
              obtain ⟨x26, e27⟩ : ∃ v, I b22 v35_3.toNat = v := ⟨_, rfl⟩
              have r28 : (-1 : Int) ≤ x26 ∧ x26 ≤ 1599 := by rw [← e27]; exact ga91 hM.2.2.2.2.2.2.1 t24 (by omega)
              refine c_ild B hM t24 kd91 an91 dX1_wayStep_48 (by omega) (by omega) e27 ?_
              refine q_con B dX1_wayStep_49 ?_
              refine q_ceq (tgt := 66) B dX1_wayStep_50 (by decide) (by unfold inr; omega) (by unfold inr; omega) (fun c29 => ?_) (fun c29 => ?_)
              · refine lv_aload_n B.1 B.2.1 dX1_wayStep_66 rfl (lv_at hl 1 rfl) ?_
                obtain ⟨b30, e31, t32⟩ := g5_15 hM.2.2.2.2.2.2.1 t_this
                refine c_getn (k := 15) pk_X1 B hM t_this kd5 rfl (by decide) fl_X1_31 dX1_wayStep_67 e31 ?_
                refine lv_iload_n B.1 B.2.1 dX1_wayStep_70 rfl (lv_at hl 4 rfl) ?_
                have n33 : 1600 ≤ N b30 ∧ N b30 ≤ 1600 := gn92 hM.2.2.2.2.2.2.1 t32
                obtain ⟨x34, e35⟩ : ∃ v, I b30 v35_3.toNat = v := ⟨_, rfl⟩
                have r36 : (-2147483648 : Int) ≤ x34 ∧ x34 ≤ 2147483647 := by rw [← e35]; exact ga92 hM.2.2.2.2.2.2.1 t32 (by omega)
                refine c_ild B hM t32 kd92 an92 dX1_wayStep_71 (by omega) (by omega) e35 ?_
                refine p_iret B dX1_wayStep_72 ?_
                rw [← hPST]
                exact ⟨x34, rfl, by omega, by first | omega | assumption | exact trivial⟩
              · refine lv_aload_n B.1 B.2.1 dX1_wayStep_53 rfl (lv_at hl 1 rfl) ?_
                refine c_getn (k := 14) pk_X1 B hM t_this kd5 rfl (by decide) fl_X1_28 dX1_wayStep_54 e23 ?_
                refine lv_iload_n B.1 B.2.1 dX1_wayStep_57 rfl (lv_at hl 4 rfl) ?_
                refine c_ild B hM t24 kd91 an91 dX1_wayStep_58 (by omega) (by omega) e27 ?_
                refine lv_istore_n (lv' := [(3, .int (II x26)), (4, .int (II x8)), (0, .ref a_this), (1, .ref a_f), (2, .int (II a_i)), (5, .int (II v35_5))]) B.1 B.2.1 dX1_wayStep_59 rfl hl (by decide) rfl (fun ls hl => ?_)
                refine q_inc (lv' := [(5, .int (II (v35_5 + (-1)))), (3, .int (II x26)), (4, .int (II x8)), (0, .ref a_this), (1, .ref a_f), (2, .int (II a_i))]) B dX1_wayStep_60 hl (k := 5) rfl (by decide) rfl (fun ls hl => ?_)
                refine lv_goto (tgt := 35) B.1 B.2.1 dX1_wayStep_63 (by decide) ?_
                have hv37 : ((-2147483648 : Int) ≤ x26 ∧ (x26 : Int) ≤ 2147483647) ∧ ((-2147483648 : Int) ≤ v35_5 + (-1) ∧ (v35_5 + (-1) : Int) ≤ 2147483647) ∧ (0 ≤ x26) ∧ (x26 ≤ 1599) ∧ ((v35_5 + (-1)) ≤ x8) ∧ (0 ≤ (v35_5 + (-1)) + 2147483648) := by first | omega | exact ⟨by first | omega | assumption | exact trivial, by first | omega | assumption | exact trivial, by first | omega | assumption | exact trivial, by first | omega | assumption | exact trivial, by first | omega | assumption | exact trivial, by first | omega | assumption | exact trivial⟩
                exact IH35 x26 (v35_5 + (-1)) ls (lv_sub hl [2, 3, 4, 5, 1, 0] rfl) hv37.1 hv37.2.1 hv37.2.2.1 hv37.2.2.2.1 hv37.2.2.2.2.1 hv37.2.2.2.2.2 (by omega)
        have hv38 : ((-2147483648 : Int) ≤ x1 ∧ (x1 : Int) ≤ 2147483647) ∧ ((-2147483648 : Int) ≤ x8 ∧ (x8 : Int) ≤ 2147483647) ∧ (0 ≤ x1) ∧ (x1 ≤ 1599) ∧ (x8 ≤ x8) ∧ (0 ≤ x8 + 2147483648) := by first | omega | exact ⟨by first | omega | assumption | exact trivial, by first | omega | assumption | exact trivial, by first | omega | assumption | exact trivial, by first | omega | assumption | exact trivial, by first | omega | assumption | exact trivial, by first | omega | assumption | exact trivial⟩
        exact LL35 (Int.toNat (x8 + 2147483648 + 1)) x1 x8 ls (lv_sub hl [1, 3, 4, 5, 2, 0] rfl) hv38.1 hv38.2.1 hv38.2.2.1 hv38.2.2.2.1 hv38.2.2.2.2.1 hv38.2.2.2.2.2 (by omega)
      · refine q_con B dX1_wayStep_29 ?_
        refine p_iret B dX1_wayStep_30 ?_
        rw [← hPST]
        exact ⟨(-1), rfl, by omega, by first | omega | assumption | exact trivial⟩

set_option maxHeartbeats 1000000 in
set_option maxRecDepth 20000 in
theorem k_X1_sum (l : Launch) (D : va_G) (dA : Nat → ClassId) (eA : Nat) (L : List Nat) (T N : Nat → Nat) (I : Nat → Nat → Int) (J : Nat → Nat → Int64) (R : Nat → Nat → Nat) (a_this : Nat) (t_this : T a_this = 5) (a_p : Nat) (t_p : T a_p = 12) (a_l : Int) (i_l : (-2147483648 : Int) ≤ a_l ∧ a_l ≤ 2147483647) (a_m : Int) (i_m : (-2147483648 : Int) ≤ a_m ∧ a_m ≤ 2147483647) : PC l yX1_sum cX1_sum 9 (some .long) ({ frames := 3, cells := 0, slots := 0, locals := 81 }) D dA eA L T N I J R [.ref a_this, .ref a_p, .int (II a_l), .int (II a_m)] (rL (fun r => True)) := by
  generalize hPST : (rL (fun r => True)) = PST
  refine p_enter (own := RX1) (by decide) rfl (Nat.le_of_ble_eq_true rfl) (fun p e s m args below meth c ls B hX hM hl => ?_)
  have hA : ∀ q, s.heap.size ≤ q → cF dA L T N I J R s.heap.size q := fun q h => Or.inr h
  have hl : lv_has ls 9 [(0, .ref a_this), (1, .ref a_p), (2, .int (II a_l)), (3, .int (II a_m))] := hl
  refine lv_lconst (v := 0) B.1 B.2.1 dX1_sum_0 (by decide) ?_
  refine lv_lstore (lv' := [(4, .long ((0 : Int64))), (0, .ref a_this), (1, .ref a_p), (2, .int (II a_l)), (3, .int (II a_m))]) B.1 B.2.1 dX1_sum_1 hl (by decide) rfl (fun ls hl => ?_)
  refine lv_aload_n B.1 B.2.1 dX1_sum_3 rfl (lv_at hl 2 rfl) ?_
  refine lv_iload_n B.1 B.2.1 dX1_sum_4 rfl (lv_at hl 3 rfl) ?_
  refine p_calli (c_runV (n := 1) (as := [.int (II a_l)]) (rest := []) B hX hA hM hl.1 t_p kd12 rfl (k_X5_valueOf l D dA eA L T N I J R a_p t_p a_l (by first | omega | assumption | exact trivial) _ _) ml_X1_195 nm_X5_valueOf ⟨rfl, rfl⟩ ⟨Nat.le_of_ble_eq_true rfl, Nat.le_of_ble_eq_true rfl⟩ dX1_sum_5 rfl rfl (Nat.le_of_ble_eq_true rfl) ⟨Nat.zero_le _, Nat.zero_le _⟩) (fun x2 ix2 hp1 => ?_)
  have hp1a := hp1
  clear hp1a
  refine q_bip B dX1_sum_8 (by decide) ?_
  refine c_mmin B ml_X1_218 hl.1 (by unfold inr; omega) (by unfold inr; omega) (Nat.le_of_ble_eq_true rfl) (Nat.le_of_ble_eq_true rfl) (Nat.zero_le _) (Nat.zero_le _) dX1_sum_10 (fun x3 ox3 lx3 ux3 => ?_)
  refine lv_istore (lv' := [(6, .int (II x3)), (4, .long ((0 : Int64))), (0, .ref a_this), (1, .ref a_p), (2, .int (II a_l)), (3, .int (II a_m))]) B.1 B.2.1 dX1_sum_13 hl (by decide) rfl (fun ls hl => ?_)
  refine q_con B dX1_sum_15 ?_
  refine lv_istore (lv' := [(7, .int (II 0)), (6, .int (II x3)), (4, .long ((0 : Int64))), (0, .ref a_this), (1, .ref a_p), (2, .int (II a_l)), (3, .int (II a_m))]) B.1 B.2.1 dX1_sum_16 hl (by decide) rfl (fun ls hl => ?_)
  have LL18 : ∀ NN : Nat, ∀ (v18_4 : Int64) (v18_7 : Int) (ls : Array Slot), lv_has ls 9 [(6, .int (II x3)), (0, .ref a_this), (1, .ref a_p), (2, .int (II a_l)), (3, .int (II a_m)), (4, .long v18_4), (7, .int (II v18_7))] → ((-2147483648 : Int) ≤ v18_7 ∧ v18_7 ≤ 2147483647) → (0 ≤ v18_7) → (v18_7 ≤ 20) → (0 ≤ 21 - v18_7) → (21 - v18_7 < (NN : Int)) → W p l e ({ frames := 3, cells := 0, slots := 0, locals := 81 }) s m args below meth c s.heap [] 0 0 (MQ below (pQ PST) args s 0 0 (fun _ => False)) (F0 m 18 ls []) := by
    intro NN
    induction NN with
    | zero => intro v18_4 v18_7 ls hl hLL18_0 hLL18_1 hLL18_2 hLL18_3 hN; exfalso; omega
    | succ NN IH18 =>
      intro v18_4 v18_7 ls hl hLL18_0 hLL18_1 hLL18_2 hLL18_3 hN
      refine lv_iload B.1 B.2.1 dX1_sum_18 (lv_at hl 6 rfl) ?_
      refine lv_iload B.1 B.2.1 dX1_sum_20 (lv_at hl 0 rfl) ?_
      refine q_cge (tgt := 79) B dX1_sum_22 (by decide) (by unfold inr; omega) (by unfold inr; omega) (fun c4 => ?_) (fun c4 => ?_)
      · refine lv_lload B.1 B.2.1 dX1_sum_79 (lv_at hl 5 rfl) ?_
        refine p_lret B dX1_sum_81 ?_
        rw [← hPST]
        exact ⟨v18_4, rfl, by first | omega | assumption | exact trivial⟩
      · refine lv_aload_n B.1 B.2.1 dX1_sum_25 rfl (lv_at hl 2 rfl) ?_
        refine lv_iload_n B.1 B.2.1 dX1_sum_26 rfl (lv_at hl 3 rfl) ?_
        refine lv_iload B.1 B.2.1 dX1_sum_27 (lv_at hl 6 rfl) ?_
        have hv5 : ((-2147483648 : Int) ≤ a_l ∧ (a_l : Int) ≤ 2147483647) ∧ ((-2147483648 : Int) ≤ v18_7 ∧ (v18_7 : Int) ≤ 2147483647) := by first | omega | exact ⟨by first | omega | assumption | exact trivial, by first | omega | assumption | exact trivial⟩
        refine p_calli (c_runV (n := 2) (as := [.int (II a_l), .int (II v18_7)]) (rest := []) B hX hA hM hl.1 t_p kd12 rfl (k_X5_target l D dA eA L T N I J R a_p t_p a_l hv5.1 v18_7 hv5.2 _ _) ml_X1_138 nm_X5_target ⟨rfl, rfl⟩ ⟨Nat.le_of_ble_eq_true rfl, Nat.le_of_ble_eq_true rfl⟩ dX1_sum_29 rfl rfl (Nat.le_of_ble_eq_true rfl) ⟨Nat.zero_le _, Nat.zero_le _⟩) (fun x7 ix7 hp6 => ?_)
        have hp6a := hp6
        clear hp6a
        refine lv_istore (lv' := [(8, .int (II x7)), (6, .int (II x3)), (0, .ref a_this), (1, .ref a_p), (2, .int (II a_l)), (3, .int (II a_m)), (4, .long v18_4), (7, .int (II v18_7))]) B.1 B.2.1 dX1_sum_32 hl (by decide) rfl (fun ls hl => ?_)
        refine lv_iload B.1 B.2.1 dX1_sum_34 (lv_at hl 0 rfl) ?_
        refine q_ilt (tgt := 73) B dX1_sum_36 (by decide) (by unfold inr; omega) (fun c8 => ?_) (fun c8 => ?_)
        · refine q_inc (lv' := [(7, .int (II (v18_7 + 1))), (8, .int (II x7)), (6, .int (II x3)), (0, .ref a_this), (1, .ref a_p), (2, .int (II a_l)), (3, .int (II a_m)), (4, .long v18_4)]) B dX1_sum_73 hl (k := 7) rfl (by decide) rfl (fun ls hl => ?_)
          refine lv_goto (tgt := 18) B.1 B.2.1 dX1_sum_76 (by decide) ?_
          have hv9 : ((-2147483648 : Int) ≤ v18_7 + 1 ∧ (v18_7 + 1 : Int) ≤ 2147483647) ∧ (0 ≤ (v18_7 + 1)) ∧ ((v18_7 + 1) ≤ 20) ∧ (0 ≤ 21 - (v18_7 + 1)) := by first | omega | exact ⟨by first | omega | assumption | exact trivial, by first | omega | assumption | exact trivial, by first | omega | assumption | exact trivial, by first | omega | assumption | exact trivial⟩
          exact IH18 v18_4 (v18_7 + 1) ls (lv_sub hl [2, 3, 4, 5, 6, 7, 0] rfl) hv9.1 hv9.2.1 hv9.2.2.1 hv9.2.2.2 (by omega)
        · refine lv_iload B.1 B.2.1 dX1_sum_39 (lv_at hl 0 rfl) ?_
          refine lv_aload_n B.1 B.2.1 dX1_sum_41 rfl (lv_at hl 2 rfl) ?_
          obtain ⟨b10, e11, t12⟩ := g5_5 hM.2.2.2.2.2.2.1 t_this
          refine c_getn (k := 5) pk_X1 B hM t_this kd5 rfl (by decide) fl_X1_9 dX1_sum_42 e11 ?_
          have hv13 : (15 ≤ 22) ∧ (22 ≤ 23) := by first | omega | exact ⟨by first | omega | assumption | exact trivial, by first | omega | assumption | exact trivial⟩
          refine p_calli (c_runV (n := 0) (as := []) (rest := [.int (II x7)]) B hX hA hM hl.1 t12 kd22 rfl (k_Jx4a65c_size_8abf5 l D dA eA L T N I J R b10 t12 hv13.1 hv13.2 _ _) ml_X1_81 nm_Jx4a65c_size_8abf5 ⟨rfl, rfl⟩ ⟨Nat.le_of_ble_eq_true rfl, Nat.le_of_ble_eq_true rfl⟩ dX1_sum_45 rfl rfl (Nat.le_of_ble_eq_true rfl) ⟨Nat.zero_le _, Nat.zero_le _⟩) (fun x15 ix15 hp14 => ?_)
          have hp14a := hp14
          replace hp14a : I b10 2 = x15 ∧ 0 ≤ x15 ∧ x15 ≤ 200 := hp14a
          obtain ⟨hp14a_0, hp14a_1, hp14a_2⟩ := hp14a
          refine q_cge (tgt := 73) B dX1_sum_48 (by decide) (by unfold inr; omega) (by unfold inr; omega) (fun c16 => ?_) (fun c16 => ?_)
          · refine q_inc (lv' := [(7, .int (II (v18_7 + 1))), (8, .int (II x7)), (6, .int (II x3)), (0, .ref a_this), (1, .ref a_p), (2, .int (II a_l)), (3, .int (II a_m)), (4, .long v18_4)]) B dX1_sum_73 hl (k := 7) rfl (by decide) rfl (fun ls hl => ?_)
            refine lv_goto (tgt := 18) B.1 B.2.1 dX1_sum_76 (by decide) ?_
            have hv17 : ((-2147483648 : Int) ≤ v18_7 + 1 ∧ (v18_7 + 1 : Int) ≤ 2147483647) ∧ (0 ≤ (v18_7 + 1)) ∧ ((v18_7 + 1) ≤ 20) ∧ (0 ≤ 21 - (v18_7 + 1)) := by first | omega | exact ⟨by first | omega | assumption | exact trivial, by first | omega | assumption | exact trivial, by first | omega | assumption | exact trivial, by first | omega | assumption | exact trivial⟩
            exact IH18 v18_4 (v18_7 + 1) ls (lv_sub hl [2, 3, 4, 5, 6, 7, 0] rfl) hv17.1 hv17.2.1 hv17.2.2.1 hv17.2.2.2 (by omega)
          · refine lv_lload B.1 B.2.1 dX1_sum_51 (lv_at hl 6 rfl) ?_
            refine lv_aload_n B.1 B.2.1 dX1_sum_53 rfl (lv_at hl 2 rfl) ?_
            refine c_getn (k := 5) pk_X1 B hM t_this kd5 rfl (by decide) fl_X1_9 dX1_sum_54 e11 ?_
            refine lv_iload B.1 B.2.1 dX1_sum_57 (lv_at hl 0 rfl) ?_
            have hv18 : ((-2147483648 : Int) ≤ x7 ∧ (x7 : Int) ≤ 2147483647) ∧ (15 ≤ 22) ∧ (22 ≤ 23) ∧ (0 ≤ x7) ∧ (x7 < I b10 2) := by first | omega | exact ⟨by first | omega | assumption | exact trivial, by first | omega | assumption | exact trivial, by first | omega | assumption | exact trivial, by first | omega | assumption | exact trivial, by first | omega | assumption | exact trivial⟩
            refine p_callr (c_runV (n := 1) (as := [.int (II x7)]) (rest := [.long v18_4]) B hX hA hM hl.1 t12 kd22 rfl (k_Jx4a65c_get_915e3 l D dA eA L T N I J R b10 t12 x7 hv18.1 hv18.2.1 hv18.2.2.1 hv18.2.2.2.1 hv18.2.2.2.2 _ _) ml_X1_85 nm_Jx4a65c_get_915e3 ⟨rfl, rfl⟩ ⟨Nat.le_of_ble_eq_true rfl, Nat.le_of_ble_eq_true rfl⟩ dX1_sum_59 rfl rfl (Nat.le_of_ble_eq_true rfl) ⟨Nat.zero_le _, Nat.zero_le _⟩) (fun b20 hp19 => ?_)
            obtain ⟨tb20, hp19a⟩ := hp19
            replace hp19a : R (R b10 1 - 1) x7.toNat = b20 + 1 := hp19a
            refine c_cast B hM tb20 kd12 rfl cl_X1_116 dX1_sum_62 ?_
            refine lv_iload_n B.1 B.2.1 dX1_sum_65 rfl (lv_at hl 5 rfl) ?_
            refine p_calli (c_runV (n := 1) (as := [.int (II a_m)]) (rest := [.long v18_4]) B hX hA hM hl.1 tb20 kd12 rfl (k_X5_valueOf l D dA eA L T N I J R b20 tb20 a_m (by first | omega | assumption | exact trivial) _ _) ml_X1_195 nm_X5_valueOf ⟨rfl, rfl⟩ ⟨Nat.le_of_ble_eq_true rfl, Nat.le_of_ble_eq_true rfl⟩ dX1_sum_66 rfl rfl (Nat.le_of_ble_eq_true rfl) ⟨Nat.zero_le _, Nat.zero_le _⟩) (fun x22 ix22 hp21 => ?_)
            have hp21a := hp21
            clear hp21a
            refine q_i2l B dX1_sum_69 (fun w23 => ?_)
            refine lv_ladd B.1 B.2.1 dX1_sum_70 ?_
            refine lv_topl (fun w24 ew24 => ?_)
            refine lv_lstore (lv' := [(4, .long w24), (8, .int (II x7)), (6, .int (II x3)), (0, .ref a_this), (1, .ref a_p), (2, .int (II a_l)), (3, .int (II a_m)), (7, .int (II v18_7))]) B.1 B.2.1 dX1_sum_71 hl (by decide) rfl (fun ls hl => ?_)
            refine q_inc (lv' := [(7, .int (II (v18_7 + 1))), (4, .long w24), (8, .int (II x7)), (6, .int (II x3)), (0, .ref a_this), (1, .ref a_p), (2, .int (II a_l)), (3, .int (II a_m))]) B dX1_sum_73 hl (k := 7) rfl (by decide) rfl (fun ls hl => ?_)
            refine lv_goto (tgt := 18) B.1 B.2.1 dX1_sum_76 (by decide) ?_
            have hv25 : ((-2147483648 : Int) ≤ v18_7 + 1 ∧ (v18_7 + 1 : Int) ≤ 2147483647) ∧ (0 ≤ (v18_7 + 1)) ∧ ((v18_7 + 1) ≤ 20) ∧ (0 ≤ 21 - (v18_7 + 1)) := by first | omega | exact ⟨by first | omega | assumption | exact trivial, by first | omega | assumption | exact trivial, by first | omega | assumption | exact trivial, by first | omega | assumption | exact trivial⟩
            exact IH18 w24 (v18_7 + 1) ls (lv_sub hl [3, 4, 5, 6, 7, 1, 0] rfl) hv25.1 hv25.2.1 hv25.2.2.1 hv25.2.2.2 (by omega)
  have hv26 : ((-2147483648 : Int) ≤ 0 ∧ (0 : Int) ≤ 2147483647) ∧ (0 ≤ (0 : Int)) ∧ ((0 : Int) ≤ 20) ∧ (0 ≤ 21 - (0 : Int)) := by first | omega | exact ⟨by first | omega | assumption | exact trivial, by first | omega | assumption | exact trivial, by first | omega | assumption | exact trivial, by first | omega | assumption | exact trivial⟩
  exact LL18 (Int.toNat (21 - (0 : Int) + 1)) ((0 : Int64)) 0 ls (lv_sub hl [1, 3, 4, 5, 6, 2, 0] rfl) hv26.1 hv26.2.1 hv26.2.2.1 hv26.2.2.2 (by omega)

set_option maxHeartbeats 1000000 in
set_option maxRecDepth 20000 in
theorem k_X1_holds (l : Launch) (D : va_G) (dA : Nat → ClassId) (eA : Nat) (L : List Nat) (T N : Nat → Nat) (I : Nat → Nat → Int) (J : Nat → Nat → Int64) (R : Nat → Nat → Nat) (a_this : Nat) (t_this : T a_this = 5) (a_use : Nat) (t_use : T a_use = 9) (a_p : Nat) (t_p : T a_p = 12) (a_m : Int) (i_m : (-2147483648 : Int) ≤ a_m ∧ a_m ≤ 2147483647) : PC l yX1_holds cX1_holds 6 (some .boolean) ({ frames := 5, cells := 0, slots := 0, locals := 124 }) D dA eA L T N I J R [.ref a_this, .ref a_use, .ref a_p, .int (II a_m)] (rI (fun r => (0 : Int) ≤ r ∧ r ≤ 1 ∧ (True))) := by
  generalize hPST : (rI (fun r => (0 : Int) ≤ r ∧ r ≤ 1 ∧ (True))) = PST
  refine p_enter (own := RX1) (by decide) rfl (Nat.le_of_ble_eq_true rfl) (fun p e s m args below meth c ls B hX hM hl => ?_)
  have hA : ∀ q, s.heap.size ≤ q → cF dA L T N I J R s.heap.size q := fun q h => Or.inr h
  have hl : lv_has ls 6 [(0, .ref a_this), (1, .ref a_use), (2, .ref a_p), (3, .int (II a_m))] := hl
  refine lv_aload_n B.1 B.2.1 dX1_holds_0 rfl (lv_at hl 1 rfl) ?_
  obtain ⟨x1, e2⟩ : ∃ v, I a_use 0 = v := ⟨_, rfl⟩
  have r3 : (-2147483648 : Int) ≤ x1 ∧ x1 ≤ 2147483647 := by rw [← e2]; exact g9_0 hM.2.2.2.2.2.2.1 t_use
  refine c_geti (k := 0) pk_X10 B hM t_use kd9 rfl (by decide) fl_X1_165 dX1_holds_1 e2 ?_
  refine q_con B dX1_holds_4 ?_
  refine q_cne (tgt := 39) B dX1_holds_5 (by decide) (by unfold inr; omega) (by unfold inr; omega) (fun c4 => ?_) (fun c4 => ?_)
  · refine lv_aload_n B.1 B.2.1 dX1_holds_39 rfl (lv_at hl 1 rfl) ?_
    refine c_geti (k := 0) pk_X10 B hM t_use kd9 rfl (by decide) fl_X1_165 dX1_holds_40 e2 ?_
    refine q_bip B dX1_holds_43 (by decide) ?_
    refine q_cne (tgt := 101) B dX1_holds_45 (by decide) (by unfold inr; omega) (by unfold inr; omega) (fun c5 => ?_) (fun c5 => ?_)
    · refine lv_aload_n B.1 B.2.1 dX1_holds_101 rfl (lv_at hl 1 rfl) ?_
      refine c_geti (k := 0) pk_X10 B hM t_use kd9 rfl (by decide) fl_X1_165 dX1_holds_102 e2 ?_
      refine q_bip B dX1_holds_105 (by decide) ?_
      refine q_cne (tgt := 158) B dX1_holds_107 (by decide) (by unfold inr; omega) (by unfold inr; omega) (fun c6 => ?_) (fun c6 => ?_)
      · refine lv_aload_n B.1 B.2.1 dX1_holds_158 rfl (lv_at hl 2 rfl) ?_
        refine lv_iload_n B.1 B.2.1 dX1_holds_159 rfl (lv_at hl 3 rfl) ?_
        refine p_calli (c_runV (n := 1) (as := [.int (II a_m)]) (rest := []) B hX hA hM hl.1 t_p kd12 rfl (k_X5_has l D dA eA L T N I J R a_p t_p a_m (by first | omega | assumption | exact trivial) _ _) ml_X1_191 nm_X5_has ⟨rfl, rfl⟩ ⟨Nat.le_of_ble_eq_true rfl, Nat.le_of_ble_eq_true rfl⟩ dX1_holds_160 rfl rfl (Nat.le_of_ble_eq_true rfl) ⟨Nat.zero_le _, Nat.zero_le _⟩) (fun x8 ix8 hp7 => ?_)
        have hp7a := hp7
        replace hp7a : (0 : Int) ≤ x8 ∧ x8 ≤ 1 ∧ (True) := hp7a
        obtain ⟨hp7a_0, hp7a_1, hp7a_2⟩ := hp7a
        refine q_ieq (tgt := 178) B dX1_holds_163 (by decide) (by unfold inr; omega) (fun c9 => ?_) (fun c9 => ?_)
        · refine q_con B dX1_holds_178 ?_
          refine lv_goto (tgt := 183) B.1 B.2.1 dX1_holds_179 (by decide) ?_
          refine p_zret B dX1_holds_183 (by omega) (by omega) ?_
          rw [← hPST]
          exact ⟨(1), rfl, by omega, by omega, by omega, by first | omega | assumption | exact trivial⟩
        · refine lv_aload_n B.1 B.2.1 dX1_holds_166 rfl (lv_at hl 1 rfl) ?_
          refine lv_aload_n B.1 B.2.1 dX1_holds_167 rfl (lv_at hl 2 rfl) ?_
          refine lv_iload_n B.1 B.2.1 dX1_holds_168 rfl (lv_at hl 3 rfl) ?_
          refine p_calli (c_runV (n := 1) (as := [.int (II a_m)]) (rest := [.ref a_use]) B hX hA hM hl.1 t_p kd12 rfl (k_X5_valueOf l D dA eA L T N I J R a_p t_p a_m (by first | omega | assumption | exact trivial) _ _) ml_X1_195 nm_X5_valueOf ⟨rfl, rfl⟩ ⟨Nat.le_of_ble_eq_true rfl, Nat.le_of_ble_eq_true rfl⟩ dX1_holds_169 rfl rfl (Nat.le_of_ble_eq_true rfl) ⟨Nat.zero_le _, Nat.zero_le _⟩) (fun x11 ix11 hp10 => ?_)
          have hp10a := hp10
          clear hp10a
          refine p_calli (c_runV (n := 1) (as := [.int (II x11)]) (rest := []) B hX hA hM hl.1 t_use kd9 rfl (k_X10_lets l D dA eA L T N I J R a_use t_use x11 (by first | omega | assumption | exact trivial) _ _) ml_X1_215 nm_X10_lets ⟨rfl, rfl⟩ ⟨Nat.le_of_ble_eq_true rfl, Nat.le_of_ble_eq_true rfl⟩ dX1_holds_172 rfl rfl (Nat.le_of_ble_eq_true rfl) ⟨Nat.zero_le _, Nat.zero_le _⟩) (fun x13 ix13 hp12 => ?_)
          have hp12a := hp12
          replace hp12a : (0 : Int) ≤ x13 ∧ x13 ≤ 1 ∧ (True) := hp12a
          obtain ⟨hp12a_0, hp12a_1, hp12a_2⟩ := hp12a
          refine q_ieq (tgt := 182) B dX1_holds_175 (by decide) (by unfold inr; omega) (fun c14 => ?_) (fun c14 => ?_)
          · refine q_con B dX1_holds_182 ?_
            refine p_zret B dX1_holds_183 (by omega) (by omega) ?_
            rw [← hPST]
            exact ⟨(0), rfl, by omega, by omega, by omega, by first | omega | assumption | exact trivial⟩
          · refine q_con B dX1_holds_178 ?_
            refine lv_goto (tgt := 183) B.1 B.2.1 dX1_holds_179 (by decide) ?_
            refine p_zret B dX1_holds_183 (by omega) (by omega) ?_
            rw [← hPST]
            exact ⟨(1), rfl, by omega, by omega, by omega, by first | omega | assumption | exact trivial⟩
      · refine lv_aload_n B.1 B.2.1 dX1_holds_110 rfl (lv_at hl 1 rfl) ?_
        refine q_con B dX1_holds_111 ?_
        refine p_calli (c_runV (n := 1) (as := [.int (II 2)]) (rest := []) B hX hA hM hl.1 t_use kd9 rfl (k_X10_read l D dA eA L T N I J R a_use t_use (2) (by first | omega | assumption | exact trivial) _ _) ml_X1_208 nm_X10_read ⟨rfl, rfl⟩ ⟨Nat.le_of_ble_eq_true rfl, Nat.le_of_ble_eq_true rfl⟩ dX1_holds_112 rfl rfl (Nat.le_of_ble_eq_true rfl) ⟨Nat.zero_le _, Nat.zero_le _⟩) (fun x16 ix16 hp15 => ?_)
        have hp15a := hp15
        clear hp15a
        refine lv_istore (lv' := [(4, .int (II x16)), (0, .ref a_this), (1, .ref a_use), (2, .ref a_p), (3, .int (II a_m))]) B.1 B.2.1 dX1_holds_115 hl (by decide) rfl (fun ls hl => ?_)
        refine lv_aload_n B.1 B.2.1 dX1_holds_117 rfl (lv_at hl 3 rfl) ?_
        refine lv_iload B.1 B.2.1 dX1_holds_118 (lv_at hl 0 rfl) ?_
        refine p_calli (c_runV (n := 1) (as := [.int (II x16)]) (rest := []) B hX hA hM hl.1 t_p kd12 rfl (k_X5_has l D dA eA L T N I J R a_p t_p x16 (by first | omega | assumption | exact trivial) _ _) ml_X1_191 nm_X5_has ⟨rfl, rfl⟩ ⟨Nat.le_of_ble_eq_true rfl, Nat.le_of_ble_eq_true rfl⟩ dX1_holds_120 rfl rfl (Nat.le_of_ble_eq_true rfl) ⟨Nat.zero_le _, Nat.zero_le _⟩) (fun x18 ix18 hp17 => ?_)
        have hp17a := hp17
        replace hp17a : (0 : Int) ≤ x18 ∧ x18 ≤ 1 ∧ (True) := hp17a
        obtain ⟨hp17a_0, hp17a_1, hp17a_2⟩ := hp17a
        refine q_ieq (tgt := 152) B dX1_holds_123 (by decide) (by unfold inr; omega) (fun c19 => ?_) (fun c19 => ?_)
        · refine q_con B dX1_holds_152 ?_
          refine lv_goto (tgt := 157) B.1 B.2.1 dX1_holds_153 (by decide) ?_
          refine p_zret B dX1_holds_157 (by omega) (by omega) ?_
          rw [← hPST]
          exact ⟨(1), rfl, by omega, by omega, by omega, by first | omega | assumption | exact trivial⟩
        · refine lv_aload_n B.1 B.2.1 dX1_holds_126 rfl (lv_at hl 3 rfl) ?_
          refine lv_iload B.1 B.2.1 dX1_holds_127 (lv_at hl 0 rfl) ?_
          refine p_calli (c_runV (n := 1) (as := [.int (II x16)]) (rest := []) B hX hA hM hl.1 t_p kd12 rfl (k_X5_valueOf l D dA eA L T N I J R a_p t_p x16 (by first | omega | assumption | exact trivial) _ _) ml_X1_195 nm_X5_valueOf ⟨rfl, rfl⟩ ⟨Nat.le_of_ble_eq_true rfl, Nat.le_of_ble_eq_true rfl⟩ dX1_holds_129 rfl rfl (Nat.le_of_ble_eq_true rfl) ⟨Nat.zero_le _, Nat.zero_le _⟩) (fun x21 ix21 hp20 => ?_)
          have hp20a := hp20
          clear hp20a
          refine q_i2l B dX1_holds_132 (fun w22 => ?_)
          refine lv_aload_n B.1 B.2.1 dX1_holds_133 rfl (lv_at hl 1 rfl) ?_
          refine lv_aload_n B.1 B.2.1 dX1_holds_134 rfl (lv_at hl 3 rfl) ?_
          refine lv_aload_n B.1 B.2.1 dX1_holds_135 rfl (lv_at hl 2 rfl) ?_
          refine q_con B dX1_holds_136 ?_
          refine p_calli (c_runV (n := 1) (as := [.int (II 0)]) (rest := [.ref a_p, .ref a_this, .long w22]) B hX hA hM hl.1 t_use kd9 rfl (k_X10_read l D dA eA L T N I J R a_use t_use (0) (by first | omega | assumption | exact trivial) _ _) ml_X1_208 nm_X10_read ⟨rfl, rfl⟩ ⟨Nat.le_of_ble_eq_true rfl, Nat.le_of_ble_eq_true rfl⟩ dX1_holds_137 rfl rfl (Nat.le_of_ble_eq_true rfl) ⟨Nat.zero_le _, Nat.zero_le _⟩) (fun x24 ix24 hp23 => ?_)
          have hp23a := hp23
          clear hp23a
          refine lv_aload_n B.1 B.2.1 dX1_holds_140 rfl (lv_at hl 2 rfl) ?_
          refine q_con B dX1_holds_141 ?_
          refine p_calli (c_runV (n := 1) (as := [.int (II 1)]) (rest := [.int (II x24), .ref a_p, .ref a_this, .long w22]) B hX hA hM hl.1 t_use kd9 rfl (k_X10_read l D dA eA L T N I J R a_use t_use (1) (by first | omega | assumption | exact trivial) _ _) ml_X1_208 nm_X10_read ⟨rfl, rfl⟩ ⟨Nat.le_of_ble_eq_true rfl, Nat.le_of_ble_eq_true rfl⟩ dX1_holds_142 rfl rfl (Nat.le_of_ble_eq_true rfl) ⟨Nat.zero_le _, Nat.zero_le _⟩) (fun x26 ix26 hp25 => ?_)
          have hp25a := hp25
          clear hp25a
          have hv27 : ((-2147483648 : Int) ≤ x24 ∧ (x24 : Int) ≤ 2147483647) ∧ ((-2147483648 : Int) ≤ x26 ∧ (x26 : Int) ≤ 2147483647) := by first | omega | exact ⟨by first | omega | assumption | exact trivial, by first | omega | assumption | exact trivial⟩
          refine p_calll (c_runV (n := 3) (as := [.ref a_p, .int (II x24), .int (II x26)]) (rest := [.long w22]) B hX hA hM hl.1 t_this kd5 rfl (k_X1_sum l D dA eA L T N I J R a_this t_this a_p t_p x24 hv27.1 x26 hv27.2 _ _) ml_X1_211 nm_X1_sum ⟨rfl, rfl⟩ ⟨Nat.le_of_ble_eq_true rfl, Nat.le_of_ble_eq_true rfl⟩ dX1_holds_145 rfl rfl (Nat.le_of_ble_eq_true rfl) ⟨Nat.zero_le _, Nat.zero_le _⟩) (fun w29 hp28 => ?_)
          have hp28a := hp28
          clear hp28a
          refine q_lcmp B dX1_holds_148 (fun x30 lx30 ux30 ex30 => ?_)
          refine q_ine (tgt := 156) B dX1_holds_149 (by decide) (by unfold inr; omega) (fun c31 => ?_) (fun c31 => ?_)
          · refine q_con B dX1_holds_156 ?_
            refine p_zret B dX1_holds_157 (by omega) (by omega) ?_
            rw [← hPST]
            exact ⟨(0), rfl, by omega, by omega, by omega, by first | omega | assumption | exact trivial⟩
          · refine q_con B dX1_holds_152 ?_
            refine lv_goto (tgt := 157) B.1 B.2.1 dX1_holds_153 (by decide) ?_
            refine p_zret B dX1_holds_157 (by omega) (by omega) ?_
            rw [← hPST]
            exact ⟨(1), rfl, by omega, by omega, by omega, by first | omega | assumption | exact trivial⟩
    · refine lv_aload_n B.1 B.2.1 dX1_holds_48 rfl (lv_at hl 1 rfl) ?_
      refine q_con B dX1_holds_49 ?_
      refine p_calli (c_runV (n := 1) (as := [.int (II 0)]) (rest := []) B hX hA hM hl.1 t_use kd9 rfl (k_X10_read l D dA eA L T N I J R a_use t_use (0) (by first | omega | assumption | exact trivial) _ _) ml_X1_208 nm_X10_read ⟨rfl, rfl⟩ ⟨Nat.le_of_ble_eq_true rfl, Nat.le_of_ble_eq_true rfl⟩ dX1_holds_50 rfl rfl (Nat.le_of_ble_eq_true rfl) ⟨Nat.zero_le _, Nat.zero_le _⟩) (fun x33 ix33 hp32 => ?_)
      have hp32a := hp32
      clear hp32a
      refine lv_istore (lv' := [(4, .int (II x33)), (0, .ref a_this), (1, .ref a_use), (2, .ref a_p), (3, .int (II a_m))]) B.1 B.2.1 dX1_holds_53 hl (by decide) rfl (fun ls hl => ?_)
      refine lv_aload_n B.1 B.2.1 dX1_holds_55 rfl (lv_at hl 2 rfl) ?_
      refine q_con B dX1_holds_56 ?_
      refine p_calli (c_runV (n := 1) (as := [.int (II 1)]) (rest := []) B hX hA hM hl.1 t_use kd9 rfl (k_X10_read l D dA eA L T N I J R a_use t_use (1) (by first | omega | assumption | exact trivial) _ _) ml_X1_208 nm_X10_read ⟨rfl, rfl⟩ ⟨Nat.le_of_ble_eq_true rfl, Nat.le_of_ble_eq_true rfl⟩ dX1_holds_57 rfl rfl (Nat.le_of_ble_eq_true rfl) ⟨Nat.zero_le _, Nat.zero_le _⟩) (fun x35 ix35 hp34 => ?_)
      have hp34a := hp34
      clear hp34a
      refine lv_istore (lv' := [(5, .int (II x35)), (4, .int (II x33)), (0, .ref a_this), (1, .ref a_use), (2, .ref a_p), (3, .int (II a_m))]) B.1 B.2.1 dX1_holds_60 hl (by decide) rfl (fun ls hl => ?_)
      refine lv_aload_n B.1 B.2.1 dX1_holds_62 rfl (lv_at hl 4 rfl) ?_
      refine lv_iload B.1 B.2.1 dX1_holds_63 (lv_at hl 1 rfl) ?_
      refine p_calli (c_runV (n := 1) (as := [.int (II x33)]) (rest := []) B hX hA hM hl.1 t_p kd12 rfl (k_X5_has l D dA eA L T N I J R a_p t_p x33 (by first | omega | assumption | exact trivial) _ _) ml_X1_191 nm_X5_has ⟨rfl, rfl⟩ ⟨Nat.le_of_ble_eq_true rfl, Nat.le_of_ble_eq_true rfl⟩ dX1_holds_65 rfl rfl (Nat.le_of_ble_eq_true rfl) ⟨Nat.zero_le _, Nat.zero_le _⟩) (fun x37 ix37 hp36 => ?_)
      have hp36a := hp36
      replace hp36a : (0 : Int) ≤ x37 ∧ x37 ≤ 1 ∧ (True) := hp36a
      obtain ⟨hp36a_0, hp36a_1, hp36a_2⟩ := hp36a
      refine q_ieq (tgt := 95) B dX1_holds_68 (by decide) (by unfold inr; omega) (fun c38 => ?_) (fun c38 => ?_)
      · refine q_con B dX1_holds_95 ?_
        refine lv_goto (tgt := 100) B.1 B.2.1 dX1_holds_96 (by decide) ?_
        refine p_zret B dX1_holds_100 (by omega) (by omega) ?_
        rw [← hPST]
        exact ⟨(1), rfl, by omega, by omega, by omega, by first | omega | assumption | exact trivial⟩
      · refine lv_aload_n B.1 B.2.1 dX1_holds_71 rfl (lv_at hl 4 rfl) ?_
        refine lv_iload B.1 B.2.1 dX1_holds_72 (lv_at hl 0 rfl) ?_
        refine p_calli (c_runV (n := 1) (as := [.int (II x35)]) (rest := []) B hX hA hM hl.1 t_p kd12 rfl (k_X5_has l D dA eA L T N I J R a_p t_p x35 (by first | omega | assumption | exact trivial) _ _) ml_X1_191 nm_X5_has ⟨rfl, rfl⟩ ⟨Nat.le_of_ble_eq_true rfl, Nat.le_of_ble_eq_true rfl⟩ dX1_holds_74 rfl rfl (Nat.le_of_ble_eq_true rfl) ⟨Nat.zero_le _, Nat.zero_le _⟩) (fun x40 ix40 hp39 => ?_)
        have hp39a := hp39
        replace hp39a : (0 : Int) ≤ x40 ∧ x40 ≤ 1 ∧ (True) := hp39a
        obtain ⟨hp39a_0, hp39a_1, hp39a_2⟩ := hp39a
        refine q_ieq (tgt := 95) B dX1_holds_77 (by decide) (by unfold inr; omega) (fun c41 => ?_) (fun c41 => ?_)
        · refine q_con B dX1_holds_95 ?_
          refine lv_goto (tgt := 100) B.1 B.2.1 dX1_holds_96 (by decide) ?_
          refine p_zret B dX1_holds_100 (by omega) (by omega) ?_
          rw [← hPST]
          exact ⟨(1), rfl, by omega, by omega, by omega, by first | omega | assumption | exact trivial⟩
        · refine lv_aload_n B.1 B.2.1 dX1_holds_80 rfl (lv_at hl 4 rfl) ?_
          refine lv_iload B.1 B.2.1 dX1_holds_81 (lv_at hl 1 rfl) ?_
          refine p_calli (c_runV (n := 1) (as := [.int (II x33)]) (rest := []) B hX hA hM hl.1 t_p kd12 rfl (k_X5_valueOf l D dA eA L T N I J R a_p t_p x33 (by first | omega | assumption | exact trivial) _ _) ml_X1_195 nm_X5_valueOf ⟨rfl, rfl⟩ ⟨Nat.le_of_ble_eq_true rfl, Nat.le_of_ble_eq_true rfl⟩ dX1_holds_83 rfl rfl (Nat.le_of_ble_eq_true rfl) ⟨Nat.zero_le _, Nat.zero_le _⟩) (fun x43 ix43 hp42 => ?_)
          have hp42a := hp42
          clear hp42a
          refine lv_aload_n B.1 B.2.1 dX1_holds_86 rfl (lv_at hl 4 rfl) ?_
          refine lv_iload B.1 B.2.1 dX1_holds_87 (lv_at hl 0 rfl) ?_
          refine p_calli (c_runV (n := 1) (as := [.int (II x35)]) (rest := [.int (II x43)]) B hX hA hM hl.1 t_p kd12 rfl (k_X5_valueOf l D dA eA L T N I J R a_p t_p x35 (by first | omega | assumption | exact trivial) _ _) ml_X1_195 nm_X5_valueOf ⟨rfl, rfl⟩ ⟨Nat.le_of_ble_eq_true rfl, Nat.le_of_ble_eq_true rfl⟩ dX1_holds_89 rfl rfl (Nat.le_of_ble_eq_true rfl) ⟨Nat.zero_le _, Nat.zero_le _⟩) (fun x45 ix45 hp44 => ?_)
          have hp44a := hp44
          clear hp44a
          refine q_cge (tgt := 99) B dX1_holds_92 (by decide) (by unfold inr; omega) (by unfold inr; omega) (fun c46 => ?_) (fun c46 => ?_)
          · refine q_con B dX1_holds_99 ?_
            refine p_zret B dX1_holds_100 (by omega) (by omega) ?_
            rw [← hPST]
            exact ⟨(0), rfl, by omega, by omega, by omega, by first | omega | assumption | exact trivial⟩
          · refine q_con B dX1_holds_95 ?_
            refine lv_goto (tgt := 100) B.1 B.2.1 dX1_holds_96 (by decide) ?_
            refine p_zret B dX1_holds_100 (by omega) (by omega) ?_
            rw [← hPST]
            exact ⟨(1), rfl, by omega, by omega, by omega, by first | omega | assumption | exact trivial⟩
  · refine lv_aload_n B.1 B.2.1 dX1_holds_8 rfl (lv_at hl 2 rfl) ?_
    refine lv_iload_n B.1 B.2.1 dX1_holds_9 rfl (lv_at hl 3 rfl) ?_
    refine p_calli (c_runV (n := 1) (as := [.int (II a_m)]) (rest := []) B hX hA hM hl.1 t_p kd12 rfl (k_X5_typeOf l D dA eA L T N I J R a_p t_p a_m (by first | omega | assumption | exact trivial) _ _) ml_X1_205 nm_X5_typeOf ⟨rfl, rfl⟩ ⟨Nat.le_of_ble_eq_true rfl, Nat.le_of_ble_eq_true rfl⟩ dX1_holds_10 rfl rfl (Nat.le_of_ble_eq_true rfl) ⟨Nat.zero_le _, Nat.zero_le _⟩) (fun x48 ix48 hp47 => ?_)
    have hp47a := hp47
    replace hp47a : x48 = -1 ∨ (0 ≤ a_m ∧ a_m < N (R a_p 2 - 1)) := hp47a
    obtain ⟨b49, e50, t51⟩ := g12_2 hM.2.2.2.2.2.2.1 t_p
    have pq52 : N (R a_p 2 - 1) = N b49 := by rw [e50, Nat.add_sub_cancel]
    refine q_con B dX1_holds_13 ?_
    refine q_cne (tgt := 33) B dX1_holds_14 (by decide) (by unfold inr; omega) (by unfold inr; omega) (fun c53 => ?_) (fun c53 => ?_)
    · refine lv_aload_n B.1 B.2.1 dX1_holds_33 rfl (lv_at hl 2 rfl) ?_
      refine lv_iload_n B.1 B.2.1 dX1_holds_34 rfl (lv_at hl 3 rfl) ?_
      refine p_calli (c_runV (n := 1) (as := [.int (II a_m)]) (rest := []) B hX hA hM hl.1 t_p kd12 rfl (k_X5_has l D dA eA L T N I J R a_p t_p a_m (by first | omega | assumption | exact trivial) _ _) ml_X1_191 nm_X5_has ⟨rfl, rfl⟩ ⟨Nat.le_of_ble_eq_true rfl, Nat.le_of_ble_eq_true rfl⟩ dX1_holds_35 rfl rfl (Nat.le_of_ble_eq_true rfl) ⟨Nat.zero_le _, Nat.zero_le _⟩) (fun x55 ix55 hp54 => ?_)
      have hp54a := hp54
      replace hp54a : (0 : Int) ≤ x55 ∧ x55 ≤ 1 ∧ (True) := hp54a
      obtain ⟨hp54a_0, hp54a_1, hp54a_2⟩ := hp54a
      refine p_zret B dX1_holds_38 (by omega) (by omega) ?_
      rw [← hPST]
      exact ⟨x55, rfl, by omega, by omega, by omega, by first | omega | assumption | exact trivial⟩
    · refine lv_aload_n B.1 B.2.1 dX1_holds_17 rfl (lv_at hl 2 rfl) ?_
      refine lv_iload_n B.1 B.2.1 dX1_holds_18 rfl (lv_at hl 3 rfl) ?_
      refine p_calli (c_runV (n := 1) (as := [.int (II a_m)]) (rest := []) B hX hA hM hl.1 t_p kd12 rfl (k_X5_valueOf l D dA eA L T N I J R a_p t_p a_m (by first | omega | assumption | exact trivial) _ _) ml_X1_195 nm_X5_valueOf ⟨rfl, rfl⟩ ⟨Nat.le_of_ble_eq_true rfl, Nat.le_of_ble_eq_true rfl⟩ dX1_holds_19 rfl rfl (Nat.le_of_ble_eq_true rfl) ⟨Nat.zero_le _, Nat.zero_le _⟩) (fun x57 ix57 hp56 => ?_)
      have hp56a := hp56
      clear hp56a
      refine q_ile (tgt := 29) B dX1_holds_22 (by decide) (by unfold inr; omega) (fun c58 => ?_) (fun c58 => ?_)
      · refine q_con B dX1_holds_29 ?_
        refine lv_goto (tgt := 38) B.1 B.2.1 dX1_holds_30 (by decide) ?_
        refine p_zret B dX1_holds_38 (by omega) (by omega) ?_
        rw [← hPST]
        exact ⟨(0), rfl, by omega, by omega, by omega, by first | omega | assumption | exact trivial⟩
      · refine q_con B dX1_holds_25 ?_
        refine lv_goto (tgt := 38) B.1 B.2.1 dX1_holds_26 (by decide) ?_
        refine p_zret B dX1_holds_38 (by omega) (by omega) ?_
        rw [← hPST]
        exact ⟨(1), rfl, by omega, by omega, by omega, by first | omega | assumption | exact trivial⟩

set_option maxHeartbeats 1000000 in
set_option maxRecDepth 20000 in
theorem k_X11_paperAt (l : Launch) (D : va_G) (dA : Nat → ClassId) (eA : Nat) (L : List Nat) (T N : Nat → Nat) (I : Nat → Nat → Int) (J : Nat → Nat → Int64) (R : Nat → Nat → Nat) (a_this : Nat) (t_this : T a_this = 2) (a_i : Int) (i_i : (-2147483648 : Int) ≤ a_i ∧ a_i ≤ 2147483647) : PC l yX11_paperAt cX11_paperAt 2 (some (.object "CustomsDesk$Paper")) ({ frames := 3, cells := 0, slots := 0, locals := 81 }) D dA eA L T N I J R [.ref a_this, .int (II a_i)] (rQ (fun r => (r = 0 ∨ ∃ b, r = b + 1 ∧ T b = 12) ∧ (True))) := by
  generalize hPST : (rQ (fun r => (r = 0 ∨ ∃ b, r = b + 1 ∧ T b = 12) ∧ (True))) = PST
  refine p_enter (own := RX11) (by decide) rfl (Nat.le_of_ble_eq_true rfl) (fun p e s m args below meth c ls B hX hM hl => ?_)
  have hA : ∀ q, s.heap.size ≤ q → cF dA L T N I J R s.heap.size q := fun q h => Or.inr h
  have hl : lv_has ls 2 [(0, .ref a_this), (1, .int (II a_i))] := hl
  refine lv_iload_n B.1 B.2.1 dX11_paperAt_0 rfl (lv_at hl 1 rfl) ?_
  refine q_ilt (tgt := 29) B dX11_paperAt_1 (by decide) (by unfold inr; omega) (fun c1 => ?_) (fun c1 => ?_)
  · refine lv_null B.1 B.2.1 dX11_paperAt_29 ?_
    refine p_aret (v := 0) B (Or.inl ⟨_, rfl⟩) dX11_paperAt_30 rfl ?_
    rw [← hPST]
    exact ⟨0, rfl, Or.inl rfl, by first | omega | assumption | exact trivial⟩
  · refine lv_iload_n B.1 B.2.1 dX11_paperAt_4 rfl (lv_at hl 1 rfl) ?_
    refine lv_aload_n B.1 B.2.1 dX11_paperAt_5 rfl (lv_at hl 0 rfl) ?_
    obtain ⟨b2, e3, t4⟩ := g2_4 hM.2.2.2.2.2.2.1 t_this
    refine c_getn (k := 4) pk_X11 B hM t_this kd2 rfl (by decide) fl_X11_30 dX11_paperAt_6 e3 ?_
    have hv5 : (15 ≤ 22) ∧ (22 ≤ 23) := by first | omega | exact ⟨by first | omega | assumption | exact trivial, by first | omega | assumption | exact trivial⟩
    refine p_calli (c_runV (n := 0) (as := []) (rest := [.int (II a_i)]) B hX hA hM hl.1 t4 kd22 rfl (k_Jx4a65c_size_8abf5 l D dA eA L T N I J R b2 t4 hv5.1 hv5.2 _ _) ml_X11_112 nm_Jx4a65c_size_8abf5 ⟨rfl, rfl⟩ ⟨Nat.le_of_ble_eq_true rfl, Nat.le_of_ble_eq_true rfl⟩ dX11_paperAt_9 rfl rfl (Nat.le_of_ble_eq_true rfl) ⟨Nat.zero_le _, Nat.zero_le _⟩) (fun x7 ix7 hp6 => ?_)
    have hp6a := hp6
    replace hp6a : I b2 2 = x7 ∧ 0 ≤ x7 ∧ x7 ≤ 200 := hp6a
    obtain ⟨hp6a_0, hp6a_1, hp6a_2⟩ := hp6a
    refine q_cge (tgt := 29) B dX11_paperAt_12 (by decide) (by unfold inr; omega) (by unfold inr; omega) (fun c8 => ?_) (fun c8 => ?_)
    · refine lv_null B.1 B.2.1 dX11_paperAt_29 ?_
      refine p_aret (v := 0) B (Or.inl ⟨_, rfl⟩) dX11_paperAt_30 rfl ?_
      rw [← hPST]
      exact ⟨0, rfl, Or.inl rfl, by first | omega | assumption | exact trivial⟩
    · refine lv_aload_n B.1 B.2.1 dX11_paperAt_15 rfl (lv_at hl 0 rfl) ?_
      refine c_getn (k := 4) pk_X11 B hM t_this kd2 rfl (by decide) fl_X11_30 dX11_paperAt_16 e3 ?_
      refine lv_iload_n B.1 B.2.1 dX11_paperAt_19 rfl (lv_at hl 1 rfl) ?_
      have hv9 : ((-2147483648 : Int) ≤ a_i ∧ (a_i : Int) ≤ 2147483647) ∧ (15 ≤ 22) ∧ (22 ≤ 23) ∧ (0 ≤ a_i) ∧ (a_i < I b2 2) := by first | omega | exact ⟨by first | omega | assumption | exact trivial, by first | omega | assumption | exact trivial, by first | omega | assumption | exact trivial, by first | omega | assumption | exact trivial, by first | omega | assumption | exact trivial⟩
      refine p_callr (c_runV (n := 1) (as := [.int (II a_i)]) (rest := []) B hX hA hM hl.1 t4 kd22 rfl (k_Jx4a65c_get_915e3 l D dA eA L T N I J R b2 t4 a_i hv9.1 hv9.2.1 hv9.2.2.1 hv9.2.2.2.1 hv9.2.2.2.2 _ _) ml_X11_153 nm_Jx4a65c_get_915e3 ⟨rfl, rfl⟩ ⟨Nat.le_of_ble_eq_true rfl, Nat.le_of_ble_eq_true rfl⟩ dX11_paperAt_20 rfl rfl (Nat.le_of_ble_eq_true rfl) ⟨Nat.zero_le _, Nat.zero_le _⟩) (fun b11 hp10 => ?_)
      obtain ⟨tb11, hp10a⟩ := hp10
      replace hp10a : R (R b2 1 - 1) a_i.toNat = b11 + 1 := hp10a
      refine c_cast B hM tb11 kd12 rfl cl_X11_144 dX11_paperAt_23 ?_
      refine lv_goto (tgt := 30) B.1 B.2.1 dX11_paperAt_26 (by decide) ?_
      refine p_aret (v := b11 + 1) B (Or.inl ⟨_, rfl⟩) dX11_paperAt_30 rfl ?_
      rw [← hPST]
      exact ⟨b11 + 1, rfl, Or.inr ⟨_, rfl, tb11⟩, by first | omega | assumption | exact trivial⟩

set_option maxHeartbeats 1000000 in
set_option maxRecDepth 20000 in
theorem k_X11_fault (l : Launch) (D : va_G) (dA : Nat → ClassId) (eA : Nat) (L : List Nat) (T N : Nat → Nat) (I : Nat → Nat → Int) (J : Nat → Nat → Int64) (R : Nat → Nat → Nat) (a_this : Nat) (t_this : T a_this = 2) (a_w : Int) (i_w : (-2147483648 : Int) ≤ a_w ∧ a_w ≤ 2147483647) : PC l yX11_fault cX11_fault 2 (some .int) ({ frames := 0, cells := 0, slots := 0, locals := 0 }) D dA eA L T N I J R [.ref a_this, .int (II a_w)] (rI (fun r => True)) := by
  generalize hPST : (rI (fun r => True)) = PST
  refine p_enter (own := RX11) (by decide) rfl (Nat.le_of_ble_eq_true rfl) (fun p e s m args below meth c ls B hX hM hl => ?_)
  have hA : ∀ q, s.heap.size ≤ q → cF dA L T N I J R s.heap.size q := fun q h => Or.inr h
  have hl : lv_has ls 2 [(0, .ref a_this), (1, .int (II a_w))] := hl
  refine lv_iload_n B.1 B.2.1 dX11_fault_0 rfl (lv_at hl 1 rfl) ?_
  refine q_ine (tgt := 9) B dX11_fault_1 (by decide) (by unfold inr; omega) (fun c1 => ?_) (fun c1 => ?_)
  · refine lv_iload_n B.1 B.2.1 dX11_fault_9 rfl (lv_at hl 1 rfl) ?_
    refine q_con B dX11_fault_10 ?_
    refine q_cne (tgt := 21) B dX11_fault_11 (by decide) (by unfold inr; omega) (by unfold inr; omega) (fun c2 => ?_) (fun c2 => ?_)
    · refine q_con B dX11_fault_21 ?_
      refine p_iret B dX11_fault_22 ?_
      rw [← hPST]
      exact ⟨(-1), rfl, by omega, by first | omega | assumption | exact trivial⟩
    · refine lv_aload_n B.1 B.2.1 dX11_fault_14 rfl (lv_at hl 0 rfl) ?_
      obtain ⟨x3, e4⟩ : ∃ v, I a_this 9 = v := ⟨_, rfl⟩
      have r5 : (-2147483648 : Int) ≤ x3 ∧ x3 ≤ 2147483647 := by rw [← e4]; exact g2_9 hM.2.2.2.2.2.2.1 t_this
      refine c_geti (k := 9) pk_X11 B hM t_this kd2 rfl (by decide) fl_X11_61 dX11_fault_15 e4 ?_
      refine lv_goto (tgt := 22) B.1 B.2.1 dX11_fault_18 (by decide) ?_
      refine p_iret B dX11_fault_22 ?_
      rw [← hPST]
      exact ⟨x3, rfl, by omega, by first | omega | assumption | exact trivial⟩
  · refine lv_aload_n B.1 B.2.1 dX11_fault_4 rfl (lv_at hl 0 rfl) ?_
    obtain ⟨x6, e7⟩ : ∃ v, I a_this 8 = v := ⟨_, rfl⟩
    have r8 : (-2147483648 : Int) ≤ x6 ∧ x6 ≤ 2147483647 := by rw [← e7]; exact g2_8 hM.2.2.2.2.2.2.1 t_this
    refine c_geti (k := 8) pk_X11 B hM t_this kd2 rfl (by decide) fl_X11_88 dX11_fault_5 e7 ?_
    refine p_iret B dX11_fault_8 ?_
    rw [← hPST]
    exact ⟨x6, rfl, by omega, by first | omega | assumption | exact trivial⟩

set_option maxHeartbeats 1000000 in
set_option maxRecDepth 20000 in
theorem k_X11_groups (l : Launch) (D : va_G) (dA : Nat → ClassId) (eA : Nat) (L : List Nat) (T N : Nat → Nat) (I : Nat → Nat → Int) (J : Nat → Nat → Int64) (R : Nat → Nat → Nat) (a_this : Nat) (t_this : T a_this = 2) : PC l yX11_groups cX11_groups 1 (some .int) ({ frames := 0, cells := 0, slots := 0, locals := 0 }) D dA eA L T N I J R [.ref a_this] (rI (fun r => True)) := by
  generalize hPST : (rI (fun r => True)) = PST
  refine p_enter (own := RX11) (by decide) rfl (Nat.le_of_ble_eq_true rfl) (fun p e s m args below meth c ls B hX hM hl => ?_)
  have hA : ∀ q, s.heap.size ≤ q → cF dA L T N I J R s.heap.size q := fun q h => Or.inr h
  have hl : lv_has ls 1 [(0, .ref a_this)] := hl
  refine lv_aload_n B.1 B.2.1 dX11_groups_0 rfl (lv_at hl 0 rfl) ?_
  obtain ⟨b1, e2, t3⟩ := g2_3 hM.2.2.2.2.2.2.1 t_this
  refine c_getn (k := 3) pk_X11 B hM t_this kd2 rfl (by decide) fl_X11_39 dX11_groups_1 e2 ?_
  obtain ⟨x4, e5⟩ : ∃ v, I b1 1 = v := ⟨_, rfl⟩
  have r6 : (-2147483648 : Int) ≤ x4 ∧ x4 ≤ 2147483647 := by rw [← e5]; exact g5_1 hM.2.2.2.2.2.2.1 t3
  refine c_geti (k := 1) pk_X1 B hM t3 kd5 rfl (by decide) fl_X11_298 dX11_groups_4 e5 ?_
  refine p_iret B dX11_groups_7 ?_
  rw [← hPST]
  exact ⟨x4, rfl, by omega, by first | omega | assumption | exact trivial⟩

set_option maxHeartbeats 1000000 in
set_option maxRecDepth 20000 in
theorem k_X11_cut (l : Launch) (D : va_G) (dA : Nat → ClassId) (eA : Nat) (L : List Nat) (T N : Nat → Nat) (I : Nat → Nat → Int) (J : Nat → Nat → Int64) (R : Nat → Nat → Nat) (a_this : Nat) (t_this : T a_this = 2) (a_k : Int) (i_k : (-2147483648 : Int) ≤ a_k ∧ a_k ≤ 2147483647) : PC l yX11_cut cX11_cut 2 (some .int) ({ frames := 0, cells := 0, slots := 0, locals := 0 }) D dA eA L T N I J R [.ref a_this, .int (II a_k)] (rI (fun r => True)) := by
  generalize hPST : (rI (fun r => True)) = PST
  refine p_enter (own := RX11) (by decide) rfl (Nat.le_of_ble_eq_true rfl) (fun p e s m args below meth c ls B hX hM hl => ?_)
  have hA : ∀ q, s.heap.size ≤ q → cF dA L T N I J R s.heap.size q := fun q h => Or.inr h
  have hl : lv_has ls 2 [(0, .ref a_this), (1, .int (II a_k))] := hl
  refine lv_iload_n B.1 B.2.1 dX11_cut_0 rfl (lv_at hl 1 rfl) ?_
  refine q_ilt (tgt := 27) B dX11_cut_1 (by decide) (by unfold inr; omega) (fun c1 => ?_) (fun c1 => ?_)
  · refine q_con B dX11_cut_27 ?_
    refine p_iret B dX11_cut_28 ?_
    rw [← hPST]
    exact ⟨(-1), rfl, by omega, by first | omega | assumption | exact trivial⟩
  · refine lv_iload_n B.1 B.2.1 dX11_cut_4 rfl (lv_at hl 1 rfl) ?_
    refine lv_aload_n B.1 B.2.1 dX11_cut_5 rfl (lv_at hl 0 rfl) ?_
    obtain ⟨b2, e3, t4⟩ := g2_3 hM.2.2.2.2.2.2.1 t_this
    refine c_getn (k := 3) pk_X11 B hM t_this kd2 rfl (by decide) fl_X11_39 dX11_cut_6 e3 ?_
    obtain ⟨x5, e6⟩ : ∃ v, I b2 3 = v := ⟨_, rfl⟩
    have r7 : (0 : Int) ≤ x5 ∧ x5 ≤ 60 := by rw [← e6]; exact g5_3 hM.2.2.2.2.2.2.1 t4
    refine c_geti (k := 3) pk_X1 B hM t4 kd5 rfl (by decide) fl_X11_291 dX11_cut_9 e6 ?_
    refine q_cge (tgt := 27) B dX11_cut_12 (by decide) (by unfold inr; omega) (by unfold inr; omega) (fun c8 => ?_) (fun c8 => ?_)
    · refine q_con B dX11_cut_27 ?_
      refine p_iret B dX11_cut_28 ?_
      rw [← hPST]
      exact ⟨(-1), rfl, by omega, by first | omega | assumption | exact trivial⟩
    · refine lv_aload_n B.1 B.2.1 dX11_cut_15 rfl (lv_at hl 0 rfl) ?_
      refine c_getn (k := 3) pk_X11 B hM t_this kd2 rfl (by decide) fl_X11_39 dX11_cut_16 e3 ?_
      obtain ⟨b9, e10, t11⟩ := g5_2 hM.2.2.2.2.2.2.1 t4
      refine c_getn (k := 2) pk_X1 B hM t4 kd5 rfl (by decide) fl_X11_294 dX11_cut_19 e10 ?_
      refine lv_iload_n B.1 B.2.1 dX11_cut_22 rfl (lv_at hl 1 rfl) ?_
      have n12 : 60 ≤ N b9 ∧ N b9 ≤ 60 := gn89 hM.2.2.2.2.2.2.1 t11
      obtain ⟨x13, e14⟩ : ∃ v, I b9 a_k.toNat = v := ⟨_, rfl⟩
      have r15 : (-2147483648 : Int) ≤ x13 ∧ x13 ≤ 2147483647 := by rw [← e14]; exact ga89 hM.2.2.2.2.2.2.1 t11 (by omega)
      refine c_ild B hM t11 kd89 an89 dX11_cut_23 (by omega) (by omega) e14 ?_
      refine lv_goto (tgt := 28) B.1 B.2.1 dX11_cut_24 (by decide) ?_
      refine p_iret B dX11_cut_28 ?_
      rw [← hPST]
      exact ⟨x13, rfl, by omega, by first | omega | assumption | exact trivial⟩

set_option maxHeartbeats 1000000 in
set_option maxRecDepth 20000 in
theorem k_X11_named (l : Launch) (D : va_G) (dA : Nat → ClassId) (eA : Nat) (L : List Nat) (T N : Nat → Nat) (I : Nat → Nat → Int) (J : Nat → Nat → Int64) (R : Nat → Nat → Nat) (a_this : Nat) (t_this : T a_this = 2) (a_name : Int64) : PC l yX11_named cX11_named 3 (some .int) ({ frames := 1, cells := 0, slots := 0, locals := 26 }) D dA eA L T N I J R [.ref a_this, .long a_name] (rI (fun r => True)) := by
  generalize hPST : (rI (fun r => True)) = PST
  refine p_enter (own := RX11) (by decide) rfl (Nat.le_of_ble_eq_true rfl) (fun p e s m args below meth c ls B hX hM hl => ?_)
  have hA : ∀ q, s.heap.size ≤ q → cF dA L T N I J R s.heap.size q := fun q h => Or.inr h
  have hl : lv_has ls 3 [(0, .ref a_this), (1, .long a_name)] := hl
  refine lv_aload_n B.1 B.2.1 dX11_named_0 rfl (lv_at hl 0 rfl) ?_
  obtain ⟨b1, e2, t3⟩ := g2_6 hM.2.2.2.2.2.2.1 t_this
  refine c_getn (k := 6) pk_X11 B hM t_this kd2 rfl (by decide) fl_X11_53 dX11_named_1 e2 ?_
  refine lv_lload_n B.1 B.2.1 dX11_named_4 rfl (lv_at hl 1 rfl) ?_
  refine p_calll (c_runS (n := 1) (as := [.long a_name]) (rest := [.ref b1]) B hX hA hM hl.1 (k_X0_pack l D dA eA L T N I J R a_name _ _) ml_X11_116 nm_X0_pack ⟨rfl, rfl⟩ ⟨Nat.le_of_ble_eq_true rfl, Nat.le_of_ble_eq_true rfl⟩ dX11_named_5 rfl rfl (Nat.le_of_ble_eq_true rfl) ⟨Nat.zero_le _, Nat.zero_le _⟩) (fun w5 hp4 => ?_)
  have hp4a := hp4
  clear hp4a
  refine p_calli (c_runV (n := 1) (as := [.long w5]) (rest := []) B hX hA hM hl.1 t3 kd6 rfl (k_X0_find l D dA eA L T N I J R b1 t3 w5 _ _) ml_X11_120 nm_X0_find ⟨rfl, rfl⟩ ⟨Nat.le_of_ble_eq_true rfl, Nat.le_of_ble_eq_true rfl⟩ dX11_named_8 rfl rfl (Nat.le_of_ble_eq_true rfl) ⟨Nat.zero_le _, Nat.zero_le _⟩) (fun x7 ix7 hp6 => ?_)
  have hp6a := hp6
  clear hp6a
  refine p_iret B dX11_named_11 ?_
  rw [← hPST]
  exact ⟨x7, rfl, by omega, by first | omega | assumption | exact trivial⟩

set_option maxHeartbeats 1000000 in
set_option maxRecDepth 20000 in
theorem k_X11_kind (l : Launch) (D : va_G) (dA : Nat → ClassId) (eA : Nat) (L : List Nat) (T N : Nat → Nat) (I : Nat → Nat → Int) (J : Nat → Nat → Int64) (R : Nat → Nat → Nat) (a_this : Nat) (t_this : T a_this = 2) (a_k : Int) (i_k : (-2147483648 : Int) ≤ a_k ∧ a_k ≤ 2147483647) (a_w : Int) (i_w : (-2147483648 : Int) ≤ a_w ∧ a_w ≤ 2147483647) : PC l yX11_kind cX11_kind 4 (some .int) ({ frames := 4, cells := 0, slots := 0, locals := 102 }) D dA eA L T N I J R [.ref a_this, .int (II a_k), .int (II a_w)] (rI (fun r => True)) := by
  generalize hPST : (rI (fun r => True)) = PST
  refine p_enter (own := RX11) (by decide) rfl (Nat.le_of_ble_eq_true rfl) (fun p e s m args below meth c ls B hX hM hl => ?_)
  have hA : ∀ q, s.heap.size ≤ q → cF dA L T N I J R s.heap.size q := fun q h => Or.inr h
  have hl : lv_has ls 4 [(0, .ref a_this), (1, .int (II a_k)), (2, .int (II a_w))] := hl
  refine lv_aload_n B.1 B.2.1 dX11_kind_0 rfl (lv_at hl 0 rfl) ?_
  obtain ⟨b1, e2, t3⟩ := g2_6 hM.2.2.2.2.2.2.1 t_this
  refine c_getn (k := 6) pk_X11 B hM t_this kd2 rfl (by decide) fl_X11_53 dX11_kind_1 e2 ?_
  refine lv_iload_n B.1 B.2.1 dX11_kind_4 rfl (lv_at hl 1 rfl) ?_
  refine p_callq (c_runV (n := 1) (as := [.int (II a_k)]) (rest := []) B hX hA hM hl.1 t3 kd6 rfl (k_X0_kindAt l D dA eA L T N I J R b1 t3 a_k (by first | omega | assumption | exact trivial) _ _) ml_X11_124 nm_X0_kindAt ⟨rfl, rfl⟩ ⟨Nat.le_of_ble_eq_true rfl, Nat.le_of_ble_eq_true rfl⟩ dX11_kind_5 rfl rfl (Nat.le_of_ble_eq_true rfl) ⟨Nat.zero_le _, Nat.zero_le _⟩) (fun v5 hp4 => ?_)
  obtain ⟨qv5, hp4a⟩ := hp4
  replace hp4a : v5 = 0 ∨ (0 ≤ a_k ∧ I (v5 - 1) 0 ≤ a_k) := hp4a
  refine c_astore_n (lv' := [(3, cv v5), (0, .ref a_this), (1, .int (II a_k)), (2, .int (II a_w))]) B dX11_kind_8 rfl hl (by decide) (by first | rfl | simp [cv_cat]) (fun ls hl => ?_)
  refine c_aload_n B dX11_kind_9 rfl (lv_at hl 0 rfl) ?_
  rcases qv5 with rfl | ⟨b6, rfl, t7⟩
  · have hl : lv_has ls 4 [(3, .null), (0, .ref a_this), (1, .int (II a_k)), (2, .int (II a_w))] := hl
    refine lv_ifnonnullN B.1 B.2.1 dX11_kind_10 ?_
    refine q_con B dX11_kind_13 ?_
    refine p_iret B dX11_kind_14 ?_
    rw [← hPST]
    exact ⟨(-1), rfl, by omega, by first | omega | assumption | exact trivial⟩
  · have hl : lv_has ls 4 [(3, .ref b6), (0, .ref a_this), (1, .int (II a_k)), (2, .int (II a_w))] := hl
    refine lv_ifnonnull (tgt := 15) B.1 B.2.1 dX11_kind_10 (by decide) ?_
    refine lv_iload_n B.1 B.2.1 dX11_kind_15 rfl (lv_at hl 3 rfl) ?_
    refine q_ine (tgt := 27) B dX11_kind_16 (by decide) (by unfold inr; omega) (fun c8 => ?_) (fun c8 => ?_)
    · refine lv_iload_n B.1 B.2.1 dX11_kind_27 rfl (lv_at hl 3 rfl) ?_
      refine q_con B dX11_kind_28 ?_
      refine q_cne (tgt := 39) B dX11_kind_29 (by decide) (by unfold inr; omega) (by unfold inr; omega) (fun c9 => ?_) (fun c9 => ?_)
      · refine q_con B dX11_kind_39 ?_
        refine p_iret B dX11_kind_40 ?_
        rw [← hPST]
        exact ⟨(-1), rfl, by omega, by first | omega | assumption | exact trivial⟩
      · refine lv_aload_n B.1 B.2.1 dX11_kind_32 rfl (lv_at hl 0 rfl) ?_
        obtain ⟨x10, e11⟩ : ∃ v, I b6 1 = v := ⟨_, rfl⟩
        have r12 : (-2147483648 : Int) ≤ x10 ∧ x10 ≤ 2147483647 := by rw [← e11]; exact g11_1 hM.2.2.2.2.2.2.1 t7
        refine c_geti (k := 1) pk_X3 B hM t7 kd11 rfl (by decide) fl_X11_133 dX11_kind_33 e11 ?_
        refine lv_goto (tgt := 40) B.1 B.2.1 dX11_kind_36 (by decide) ?_
        refine p_iret B dX11_kind_40 ?_
        rw [← hPST]
        exact ⟨x10, rfl, by omega, by first | omega | assumption | exact trivial⟩
    · refine lv_aload_n B.1 B.2.1 dX11_kind_19 rfl (lv_at hl 0 rfl) ?_
      obtain ⟨b13, e14, t15⟩ := g11_3 hM.2.2.2.2.2.2.1 t7
      refine c_getn (k := 3) pk_X3 B hM t7 kd11 rfl (by decide) fl_X11_128 dX11_kind_20 e14 ?_
      have hv16 : (15 ≤ 19) ∧ (19 ≤ 23) := by first | omega | exact ⟨by first | omega | assumption | exact trivial, by first | omega | assumption | exact trivial⟩
      refine p_calli (c_runV (n := 0) (as := []) (rest := []) B hX hA hM hl.1 t15 kd19 rfl (k_Jx4a65c_size_8abf5 l D dA eA L T N I J R b13 t15 hv16.1 hv16.2 _ _) ml_X11_112 nm_Jx4a65c_size_8abf5 ⟨rfl, rfl⟩ ⟨Nat.le_of_ble_eq_true rfl, Nat.le_of_ble_eq_true rfl⟩ dX11_kind_23 rfl rfl (Nat.le_of_ble_eq_true rfl) ⟨Nat.zero_le _, Nat.zero_le _⟩) (fun x18 ix18 hp17 => ?_)
      have hp17a := hp17
      replace hp17a : I b13 2 = x18 ∧ 0 ≤ x18 ∧ x18 ≤ 12 := hp17a
      obtain ⟨hp17a_0, hp17a_1, hp17a_2⟩ := hp17a
      refine p_iret B dX11_kind_26 ?_
      rw [← hPST]
      exact ⟨x18, rfl, by omega, by first | omega | assumption | exact trivial⟩

set_option maxHeartbeats 1000000 in
set_option maxRecDepth 20000 in
theorem k_X11_member (l : Launch) (D : va_G) (dA : Nat → ClassId) (eA : Nat) (L : List Nat) (T N : Nat → Nat) (I : Nat → Nat → Int) (J : Nat → Nat → Int64) (R : Nat → Nat → Nat) (a_this : Nat) (t_this : T a_this = 2) (a_k : Int) (i_k : (-2147483648 : Int) ≤ a_k ∧ a_k ≤ 2147483647) (a_name : Int64) : PC l yX11_member cX11_member 5 (some .int) ({ frames := 4, cells := 0, slots := 0, locals := 104 }) D dA eA L T N I J R [.ref a_this, .int (II a_k), .long a_name] (rI (fun r => True)) := by
  generalize hPST : (rI (fun r => True)) = PST
  refine p_enter (own := RX11) (by decide) rfl (Nat.le_of_ble_eq_true rfl) (fun p e s m args below meth c ls B hX hM hl => ?_)
  have hA : ∀ q, s.heap.size ≤ q → cF dA L T N I J R s.heap.size q := fun q h => Or.inr h
  have hl : lv_has ls 5 [(0, .ref a_this), (1, .int (II a_k)), (2, .long a_name)] := hl
  refine lv_aload_n B.1 B.2.1 dX11_member_0 rfl (lv_at hl 0 rfl) ?_
  obtain ⟨b1, e2, t3⟩ := g2_6 hM.2.2.2.2.2.2.1 t_this
  refine c_getn (k := 6) pk_X11 B hM t_this kd2 rfl (by decide) fl_X11_53 dX11_member_1 e2 ?_
  refine lv_iload_n B.1 B.2.1 dX11_member_4 rfl (lv_at hl 1 rfl) ?_
  refine p_callq (c_runV (n := 1) (as := [.int (II a_k)]) (rest := []) B hX hA hM hl.1 t3 kd6 rfl (k_X0_kindAt l D dA eA L T N I J R b1 t3 a_k (by first | omega | assumption | exact trivial) _ _) ml_X11_124 nm_X0_kindAt ⟨rfl, rfl⟩ ⟨Nat.le_of_ble_eq_true rfl, Nat.le_of_ble_eq_true rfl⟩ dX11_member_5 rfl rfl (Nat.le_of_ble_eq_true rfl) ⟨Nat.zero_le _, Nat.zero_le _⟩) (fun v5 hp4 => ?_)
  obtain ⟨qv5, hp4a⟩ := hp4
  replace hp4a : v5 = 0 ∨ (0 ≤ a_k ∧ I (v5 - 1) 0 ≤ a_k) := hp4a
  refine c_astore (lv' := [(4, cv v5), (0, .ref a_this), (1, .int (II a_k)), (2, .long a_name)]) B dX11_member_8 hl (by decide) (by first | rfl | simp [cv_cat]) (fun ls hl => ?_)
  refine c_aload B dX11_member_10 (lv_at hl 0 rfl) ?_
  rcases qv5 with rfl | ⟨b6, rfl, t7⟩
  · have hl : lv_has ls 5 [(4, .null), (0, .ref a_this), (1, .int (II a_k)), (2, .long a_name)] := hl
    refine lv_ifnonnullN B.1 B.2.1 dX11_member_12 ?_
    refine q_con B dX11_member_15 ?_
    refine lv_goto (tgt := 28) B.1 B.2.1 dX11_member_16 (by decide) ?_
    refine p_iret B dX11_member_28 ?_
    rw [← hPST]
    exact ⟨(-1), rfl, by omega, by first | omega | assumption | exact trivial⟩
  · have hl : lv_has ls 5 [(4, .ref b6), (0, .ref a_this), (1, .int (II a_k)), (2, .long a_name)] := hl
    refine lv_ifnonnull (tgt := 19) B.1 B.2.1 dX11_member_12 (by decide) ?_
    refine lv_aload B.1 B.2.1 dX11_member_19 (lv_at hl 0 rfl) ?_
    refine lv_lload_n B.1 B.2.1 dX11_member_21 rfl (lv_at hl 3 rfl) ?_
    refine p_calll (c_runS (n := 1) (as := [.long a_name]) (rest := [.ref b6]) B hX hA hM hl.1 (k_X0_pack l D dA eA L T N I J R a_name _ _) ml_X11_116 nm_X0_pack ⟨rfl, rfl⟩ ⟨Nat.le_of_ble_eq_true rfl, Nat.le_of_ble_eq_true rfl⟩ dX11_member_22 rfl rfl (Nat.le_of_ble_eq_true rfl) ⟨Nat.zero_le _, Nat.zero_le _⟩) (fun w9 hp8 => ?_)
    have hp8a := hp8
    clear hp8a
    refine p_calli (c_runV (n := 1) (as := [.long w9]) (rest := []) B hX hA hM hl.1 t7 kd11 rfl (k_X3_find l D dA eA L T N I J R b6 t7 w9 _ _) ml_X11_136 nm_X3_find ⟨rfl, rfl⟩ ⟨Nat.le_of_ble_eq_true rfl, Nat.le_of_ble_eq_true rfl⟩ dX11_member_25 rfl rfl (Nat.le_of_ble_eq_true rfl) ⟨Nat.zero_le _, Nat.zero_le _⟩) (fun x11 ix11 hp10 => ?_)
    have hp10a := hp10
    replace hp10a : x11 = -1 ∨ (0 ≤ x11 ∧ x11 < I (R b6 3 - 1) 2) := hp10a
    obtain ⟨b12, e13, t14⟩ := g11_3 hM.2.2.2.2.2.2.1 t7
    have pq15 : I (R b6 3 - 1) 2 = I b12 2 := by rw [e13, Nat.add_sub_cancel]
    obtain ⟨x16, e17⟩ : ∃ v, I b12 2 = v := ⟨_, rfl⟩
    refine p_iret B dX11_member_28 ?_
    rw [← hPST]
    exact ⟨x11, rfl, by omega, by first | omega | assumption | exact trivial⟩

set_option maxHeartbeats 1000000 in
set_option maxRecDepth 20000 in
theorem k_X11_misuse (l : Launch) (D : va_G) (dA : Nat → ClassId) (eA : Nat) (L : List Nat) (T N : Nat → Nat) (I : Nat → Nat → Int) (J : Nat → Nat → Int64) (R : Nat → Nat → Nat) (a_this : Nat) (t_this : T a_this = 2) (a_k : Int) (i_k : (-2147483648 : Int) ≤ a_k ∧ a_k ≤ 2147483647) (a_w : Int) (i_w : (-2147483648 : Int) ≤ a_w ∧ a_w ≤ 2147483647) : PC l yX11_misuse cX11_misuse 3 (some .int) ({ frames := 0, cells := 0, slots := 0, locals := 0 }) D dA eA L T N I J R [.ref a_this, .int (II a_k), .int (II a_w)] (rI (fun r => True)) := by
  generalize hPST : (rI (fun r => True)) = PST
  refine p_enter (own := RX11) (by decide) rfl (Nat.le_of_ble_eq_true rfl) (fun p e s m args below meth c ls B hX hM hl => ?_)
  have hA : ∀ q, s.heap.size ≤ q → cF dA L T N I J R s.heap.size q := fun q h => Or.inr h
  have hl : lv_has ls 3 [(0, .ref a_this), (1, .int (II a_k)), (2, .int (II a_w))] := hl
  refine lv_iload_n B.1 B.2.1 dX11_misuse_0 rfl (lv_at hl 1 rfl) ?_
  refine q_ilt (tgt := 24) B dX11_misuse_1 (by decide) (by unfold inr; omega) (fun c1 => ?_) (fun c1 => ?_)
  · refine q_con B dX11_misuse_24 ?_
    refine p_iret B dX11_misuse_25 ?_
    rw [← hPST]
    exact ⟨(-1), rfl, by omega, by first | omega | assumption | exact trivial⟩
  · refine lv_iload_n B.1 B.2.1 dX11_misuse_4 rfl (lv_at hl 1 rfl) ?_
    refine lv_aload_n B.1 B.2.1 dX11_misuse_5 rfl (lv_at hl 0 rfl) ?_
    obtain ⟨b2, e3, t4⟩ := g2_2 hM.2.2.2.2.2.2.1 t_this
    refine c_getn (k := 2) pk_X11 B hM t_this kd2 rfl (by decide) fl_X11_23 dX11_misuse_6 e3 ?_
    obtain ⟨x5, e6⟩ : ∃ v, I b2 1 = v := ⟨_, rfl⟩
    have r7 : (0 : Int) ≤ x5 ∧ x5 ≤ 200 := by rw [← e6]; exact g4_1 hM.2.2.2.2.2.2.1 t4
    refine c_geti (k := 1) pk_X4 B hM t4 kd4 rfl (by decide) fl_X11_137 dX11_misuse_9 e6 ?_
    refine q_cge (tgt := 24) B dX11_misuse_12 (by decide) (by unfold inr; omega) (by unfold inr; omega) (fun c8 => ?_) (fun c8 => ?_)
    · refine q_con B dX11_misuse_24 ?_
      refine p_iret B dX11_misuse_25 ?_
      rw [← hPST]
      exact ⟨(-1), rfl, by omega, by first | omega | assumption | exact trivial⟩
    · refine lv_iload_n B.1 B.2.1 dX11_misuse_15 rfl (lv_at hl 2 rfl) ?_
      refine q_ilt (tgt := 24) B dX11_misuse_16 (by decide) (by unfold inr; omega) (fun c9 => ?_) (fun c9 => ?_)
      · refine q_con B dX11_misuse_24 ?_
        refine p_iret B dX11_misuse_25 ?_
        rw [← hPST]
        exact ⟨(-1), rfl, by omega, by first | omega | assumption | exact trivial⟩
      · refine lv_iload_n B.1 B.2.1 dX11_misuse_19 rfl (lv_at hl 2 rfl) ?_
        refine q_con B dX11_misuse_20 ?_
        refine q_cle (tgt := 26) B dX11_misuse_21 (by decide) (by unfold inr; omega) (by unfold inr; omega) (fun c10 => ?_) (fun c10 => ?_)
        · refine lv_aload_n B.1 B.2.1 dX11_misuse_26 rfl (lv_at hl 0 rfl) ?_
          refine c_getn (k := 2) pk_X11 B hM t_this kd2 rfl (by decide) fl_X11_23 dX11_misuse_27 e3 ?_
          obtain ⟨b11, e12, t13⟩ := g4_0 hM.2.2.2.2.2.2.1 t4
          refine c_getn (k := 0) pk_X4 B hM t4 kd4 rfl (by decide) fl_X11_140 dX11_misuse_30 e12 ?_
          refine lv_iload_n B.1 B.2.1 dX11_misuse_33 rfl (lv_at hl 1 rfl) ?_
          have n14 : 200 ≤ N b11 ∧ N b11 ≤ 200 := gn79 hM.2.2.2.2.2.2.1 t13
          obtain ⟨b15, e16, t17⟩ := ga79 hM.2.2.2.2.2.2.1 t13 (k := a_k.toNat) (by omega)
          refine c_aldn B hM t13 kd79 an79 dX11_misuse_34 (by omega) (by omega) e16 ?_
          refine lv_iload_n B.1 B.2.1 dX11_misuse_35 rfl (lv_at hl 2 rfl) ?_
          have n18 : 4 ≤ N b15 ∧ N b15 ≤ 4 := gn80 hM.2.2.2.2.2.2.1 t17
          obtain ⟨x19, e20⟩ : ∃ v, I b15 a_w.toNat = v := ⟨_, rfl⟩
          have r21 : (-2147483648 : Int) ≤ x19 ∧ x19 ≤ 2147483647 := by rw [← e20]; exact ga80 hM.2.2.2.2.2.2.1 t17 (by omega)
          refine c_ild B hM t17 kd80 an80 dX11_misuse_36 (by omega) (by omega) e20 ?_
          refine p_iret B dX11_misuse_37 ?_
          rw [← hPST]
          exact ⟨x19, rfl, by omega, by first | omega | assumption | exact trivial⟩
        · refine q_con B dX11_misuse_24 ?_
          refine p_iret B dX11_misuse_25 ?_
          rw [← hPST]
          exact ⟨(-1), rfl, by omega, by first | omega | assumption | exact trivial⟩

set_option maxHeartbeats 1000000 in
set_option maxRecDepth 20000 in
theorem k_X11_value (l : Launch) (D : va_G) (dA : Nat → ClassId) (eA : Nat) (L : List Nat) (T N : Nat → Nat) (I : Nat → Nat → Int) (J : Nat → Nat → Int64) (R : Nat → Nat → Nat) (a_this : Nat) (t_this : T a_this = 2) (a_p : Int) (i_p : (-2147483648 : Int) ≤ a_p ∧ a_p ≤ 2147483647) (a_m : Int) (i_m : (-2147483648 : Int) ≤ a_m ∧ a_m ≤ 2147483647) (a_w : Int) (i_w : (-2147483648 : Int) ≤ a_w ∧ a_w ≤ 2147483647) : PC l yX11_value cX11_value 5 (some .int) ({ frames := 5, cells := 0, slots := 0, locals := 124 }) D dA eA L T N I J R [.ref a_this, .int (II a_p), .int (II a_m), .int (II a_w)] (rI (fun r => True)) := by
  generalize hPST : (rI (fun r => True)) = PST
  refine p_enter (own := RX11) (by decide) rfl (Nat.le_of_ble_eq_true rfl) (fun p e s m args below meth c ls B hX hM hl => ?_)
  have hA : ∀ q, s.heap.size ≤ q → cF dA L T N I J R s.heap.size q := fun q h => Or.inr h
  have hl : lv_has ls 5 [(0, .ref a_this), (1, .int (II a_p)), (2, .int (II a_m)), (3, .int (II a_w))] := hl
  refine lv_aload_n B.1 B.2.1 dX11_value_0 rfl (lv_at hl 0 rfl) ?_
  refine lv_iload_n B.1 B.2.1 dX11_value_1 rfl (lv_at hl 1 rfl) ?_
  refine p_callq (c_runV (n := 1) (as := [.int (II a_p)]) (rest := []) B hX hA hM hl.1 t_this kd2 rfl (k_X11_paperAt l D dA eA L T N I J R a_this t_this a_p (by first | omega | assumption | exact trivial) _ _) ml_X11_157 nm_X11_paperAt ⟨rfl, rfl⟩ ⟨Nat.le_of_ble_eq_true rfl, Nat.le_of_ble_eq_true rfl⟩ dX11_value_2 rfl rfl (Nat.le_of_ble_eq_true rfl) ⟨Nat.zero_le _, Nat.zero_le _⟩) (fun v2 hp1 => ?_)
  obtain ⟨qv2, hp1a⟩ := hp1
  clear hp1a
  refine c_astore (lv' := [(4, cv v2), (0, .ref a_this), (1, .int (II a_p)), (2, .int (II a_m)), (3, .int (II a_w))]) B dX11_value_5 hl (by decide) (by first | rfl | simp [cv_cat]) (fun ls hl => ?_)
  refine c_aload B dX11_value_7 (lv_at hl 0 rfl) ?_
  rcases qv2 with rfl | ⟨b3, rfl, t4⟩
  · have hl : lv_has ls 5 [(4, .null), (0, .ref a_this), (1, .int (II a_p)), (2, .int (II a_m)), (3, .int (II a_w))] := hl
    refine lv_ifnullN (tgt := 31) B.1 B.2.1 dX11_value_9 (by decide) ?_
    refine q_con B dX11_value_31 ?_
    refine p_iret B dX11_value_32 ?_
    rw [← hPST]
    exact ⟨(-1), rfl, by omega, by first | omega | assumption | exact trivial⟩
  · have hl : lv_has ls 5 [(4, .ref b3), (0, .ref a_this), (1, .int (II a_p)), (2, .int (II a_m)), (3, .int (II a_w))] := hl
    refine lv_ifnull B.1 B.2.1 dX11_value_9 ?_
    refine lv_aload B.1 B.2.1 dX11_value_12 (lv_at hl 0 rfl) ?_
    refine lv_iload_n B.1 B.2.1 dX11_value_14 rfl (lv_at hl 3 rfl) ?_
    refine p_calli (c_runV (n := 1) (as := [.int (II a_m)]) (rest := []) B hX hA hM hl.1 t4 kd12 rfl (k_X5_typeOf l D dA eA L T N I J R b3 t4 a_m (by first | omega | assumption | exact trivial) _ _) ml_X11_161 nm_X5_typeOf ⟨rfl, rfl⟩ ⟨Nat.le_of_ble_eq_true rfl, Nat.le_of_ble_eq_true rfl⟩ dX11_value_15 rfl rfl (Nat.le_of_ble_eq_true rfl) ⟨Nat.zero_le _, Nat.zero_le _⟩) (fun x6 ix6 hp5 => ?_)
    have hp5a := hp5
    replace hp5a : x6 = -1 ∨ (0 ≤ a_m ∧ a_m < N (R b3 2 - 1)) := hp5a
    obtain ⟨b7, e8, t9⟩ := g12_2 hM.2.2.2.2.2.2.1 t4
    have pq10 : N (R b3 2 - 1) = N b7 := by rw [e8, Nat.add_sub_cancel]
    refine q_con B dX11_value_18 ?_
    refine q_ceq (tgt := 31) B dX11_value_19 (by decide) (by unfold inr; omega) (by unfold inr; omega) (fun c11 => ?_) (fun c11 => ?_)
    · refine q_con B dX11_value_31 ?_
      refine p_iret B dX11_value_32 ?_
      rw [← hPST]
      exact ⟨(-1), rfl, by omega, by first | omega | assumption | exact trivial⟩
    · refine lv_iload_n B.1 B.2.1 dX11_value_22 rfl (lv_at hl 4 rfl) ?_
      refine q_ilt (tgt := 31) B dX11_value_23 (by decide) (by unfold inr; omega) (fun c12 => ?_) (fun c12 => ?_)
      · refine q_con B dX11_value_31 ?_
        refine p_iret B dX11_value_32 ?_
        rw [← hPST]
        exact ⟨(-1), rfl, by omega, by first | omega | assumption | exact trivial⟩
      · refine lv_iload_n B.1 B.2.1 dX11_value_26 rfl (lv_at hl 4 rfl) ?_
        refine q_con B dX11_value_27 ?_
        refine q_cle (tgt := 33) B dX11_value_28 (by decide) (by unfold inr; omega) (by unfold inr; omega) (fun c13 => ?_) (fun c13 => ?_)
        · refine lv_iload_n B.1 B.2.1 dX11_value_33 rfl (lv_at hl 4 rfl) ?_
          refine q_ine (tgt := 52) B dX11_value_34 (by decide) (by unfold inr; omega) (fun c14 => ?_) (fun c14 => ?_)
          · refine lv_aload B.1 B.2.1 dX11_value_52 (lv_at hl 0 rfl) ?_
            refine lv_iload_n B.1 B.2.1 dX11_value_54 rfl (lv_at hl 3 rfl) ?_
            refine p_calli (c_runV (n := 1) (as := [.int (II a_m)]) (rest := []) B hX hA hM hl.1 t4 kd12 rfl (k_X5_valueOf l D dA eA L T N I J R b3 t4 a_m (by first | omega | assumption | exact trivial) _ _) ml_X11_190 nm_X5_valueOf ⟨rfl, rfl⟩ ⟨Nat.le_of_ble_eq_true rfl, Nat.le_of_ble_eq_true rfl⟩ dX11_value_55 rfl rfl (Nat.le_of_ble_eq_true rfl) ⟨Nat.zero_le _, Nat.zero_le _⟩) (fun x16 ix16 hp15 => ?_)
            have hp15a := hp15
            clear hp15a
            refine p_iret B dX11_value_58 ?_
            rw [← hPST]
            exact ⟨x16, rfl, by omega, by first | omega | assumption | exact trivial⟩
          · refine lv_aload B.1 B.2.1 dX11_value_37 (lv_at hl 0 rfl) ?_
            refine lv_iload_n B.1 B.2.1 dX11_value_39 rfl (lv_at hl 3 rfl) ?_
            refine p_calli (c_runV (n := 1) (as := [.int (II a_m)]) (rest := []) B hX hA hM hl.1 t4 kd12 rfl (k_X5_has l D dA eA L T N I J R b3 t4 a_m (by first | omega | assumption | exact trivial) _ _) ml_X11_187 nm_X5_has ⟨rfl, rfl⟩ ⟨Nat.le_of_ble_eq_true rfl, Nat.le_of_ble_eq_true rfl⟩ dX11_value_40 rfl rfl (Nat.le_of_ble_eq_true rfl) ⟨Nat.zero_le _, Nat.zero_le _⟩) (fun x18 ix18 hp17 => ?_)
            have hp17a := hp17
            replace hp17a : (0 : Int) ≤ x18 ∧ x18 ≤ 1 ∧ (True) := hp17a
            obtain ⟨hp17a_0, hp17a_1, hp17a_2⟩ := hp17a
            refine q_ieq (tgt := 50) B dX11_value_43 (by decide) (by unfold inr; omega) (fun c19 => ?_) (fun c19 => ?_)
            · refine q_con B dX11_value_50 ?_
              refine p_iret B dX11_value_51 ?_
              rw [← hPST]
              exact ⟨(0), rfl, by omega, by first | omega | assumption | exact trivial⟩
            · refine q_con B dX11_value_46 ?_
              refine lv_goto (tgt := 51) B.1 B.2.1 dX11_value_47 (by decide) ?_
              refine p_iret B dX11_value_51 ?_
              rw [← hPST]
              exact ⟨(1), rfl, by omega, by first | omega | assumption | exact trivial⟩
        · refine q_con B dX11_value_31 ?_
          refine p_iret B dX11_value_32 ?_
          rw [← hPST]
          exact ⟨(-1), rfl, by omega, by first | omega | assumption | exact trivial⟩

set_option maxHeartbeats 1000000 in
set_option maxRecDepth 20000 in
theorem k_X11_asked (l : Launch) (D : va_G) (dA : Nat → ClassId) (eA : Nat) (L : List Nat) (T N : Nat → Nat) (I : Nat → Nat → Int) (J : Nat → Nat → Int64) (R : Nat → Nat → Nat) (a_this : Nat) (t_this : T a_this = 2) (a_r : Int) (i_r : (-2147483648 : Int) ≤ a_r ∧ a_r ≤ 2147483647) (a_w : Int) (i_w : (-2147483648 : Int) ≤ a_w ∧ a_w ≤ 2147483647) : PC l yX11_asked cX11_asked 4 (some .int) ({ frames := 4, cells := 0, slots := 0, locals := 102 }) D dA eA L T N I J R [.ref a_this, .int (II a_r), .int (II a_w)] (rI (fun r => True)) := by
  generalize hPST : (rI (fun r => True)) = PST
  refine p_enter (own := RX11) (by decide) rfl (Nat.le_of_ble_eq_true rfl) (fun p e s m args below meth c ls B hX hM hl => ?_)
  have hA : ∀ q, s.heap.size ≤ q → cF dA L T N I J R s.heap.size q := fun q h => Or.inr h
  have hl : lv_has ls 4 [(0, .ref a_this), (1, .int (II a_r)), (2, .int (II a_w))] := hl
  refine lv_aload_n B.1 B.2.1 dX11_asked_0 rfl (lv_at hl 0 rfl) ?_
  obtain ⟨b1, e2, t3⟩ := g2_6 hM.2.2.2.2.2.2.1 t_this
  refine c_getn (k := 6) pk_X11 B hM t_this kd2 rfl (by decide) fl_X11_53 dX11_asked_1 e2 ?_
  refine lv_iload_n B.1 B.2.1 dX11_asked_4 rfl (lv_at hl 1 rfl) ?_
  refine p_callq (c_runV (n := 1) (as := [.int (II a_r)]) (rest := []) B hX hA hM hl.1 t3 kd6 rfl (k_X0_ruleAt l D dA eA L T N I J R b1 t3 a_r (by first | omega | assumption | exact trivial) _ _) ml_X11_281 nm_X0_ruleAt ⟨rfl, rfl⟩ ⟨Nat.le_of_ble_eq_true rfl, Nat.le_of_ble_eq_true rfl⟩ dX11_asked_5 rfl rfl (Nat.le_of_ble_eq_true rfl) ⟨Nat.zero_le _, Nat.zero_le _⟩) (fun v5 hp4 => ?_)
  obtain ⟨qv5, hp4a⟩ := hp4
  replace hp4a : v5 = 0 ∨ (0 ≤ a_r ∧ a_r < I (R b1 0 - 1) 2 ∧ R (R (R b1 0 - 1) 1 - 1) a_r.toNat = v5) := hp4a
  obtain ⟨b6, e7, t8⟩ := g6_0 hM.2.2.2.2.2.2.1 t3
  have pq9 : I (R b1 0 - 1) 2 = I b6 2 := by rw [e7, Nat.add_sub_cancel]
  obtain ⟨x10, e11⟩ : ∃ v, I b6 2 = v := ⟨_, rfl⟩
  have pq12 : R (R b1 0 - 1) 1 = R b6 1 := by rw [e7, Nat.add_sub_cancel]
  refine c_astore_n (lv' := [(3, cv v5), (0, .ref a_this), (1, .int (II a_r)), (2, .int (II a_w))]) B dX11_asked_8 rfl hl (by decide) (by first | rfl | simp [cv_cat]) (fun ls hl => ?_)
  refine c_aload_n B dX11_asked_9 rfl (lv_at hl 0 rfl) ?_
  rcases qv5 with rfl | ⟨b13, rfl, t14⟩
  · have hl : lv_has ls 4 [(3, .null), (0, .ref a_this), (1, .int (II a_r)), (2, .int (II a_w))] := hl
    refine lv_ifnonnullN B.1 B.2.1 dX11_asked_10 ?_
    refine q_con B dX11_asked_13 ?_
    refine p_iret B dX11_asked_14 ?_
    rw [← hPST]
    exact ⟨(-1), rfl, by omega, by first | omega | assumption | exact trivial⟩
  · have hl : lv_has ls 4 [(3, .ref b13), (0, .ref a_this), (1, .int (II a_r)), (2, .int (II a_w))] := hl
    refine lv_ifnonnull (tgt := 15) B.1 B.2.1 dX11_asked_10 (by decide) ?_
    refine lv_iload_n B.1 B.2.1 dX11_asked_15 rfl (lv_at hl 3 rfl) ?_
    refine q_ine (tgt := 24) B dX11_asked_16 (by decide) (by unfold inr; omega) (fun c15 => ?_) (fun c15 => ?_)
    · refine lv_iload_n B.1 B.2.1 dX11_asked_24 rfl (lv_at hl 3 rfl) ?_
      refine q_con B dX11_asked_25 ?_
      refine q_cne (tgt := 36) B dX11_asked_26 (by decide) (by unfold inr; omega) (by unfold inr; omega) (fun c16 => ?_) (fun c16 => ?_)
      · refine q_con B dX11_asked_36 ?_
        refine p_iret B dX11_asked_37 ?_
        rw [← hPST]
        exact ⟨(-1), rfl, by omega, by first | omega | assumption | exact trivial⟩
      · refine lv_aload_n B.1 B.2.1 dX11_asked_29 rfl (lv_at hl 0 rfl) ?_
        obtain ⟨x17, e18⟩ : ∃ v, I b13 5 = v := ⟨_, rfl⟩
        have r19 : (-2147483648 : Int) ≤ x17 ∧ x17 ≤ 2147483647 := by rw [← e18]; exact g8_5 hM.2.2.2.2.2.2.1 t14
        refine c_geti (k := 5) pk_X7 B hM t14 kd8 rfl (by decide) fl_X11_288 dX11_asked_30 e18 ?_
        refine lv_goto (tgt := 37) B.1 B.2.1 dX11_asked_33 (by decide) ?_
        refine p_iret B dX11_asked_37 ?_
        rw [← hPST]
        exact ⟨x17, rfl, by omega, by first | omega | assumption | exact trivial⟩
    · refine lv_aload_n B.1 B.2.1 dX11_asked_19 rfl (lv_at hl 0 rfl) ?_
      obtain ⟨x20, e21⟩ : ∃ v, I b13 8 = v := ⟨_, rfl⟩
      have r22 : (-2147483648 : Int) ≤ x20 ∧ x20 ≤ 2147483647 := by rw [← e21]; exact g8_8 hM.2.2.2.2.2.2.1 t14
      refine c_geti (k := 8) pk_X7 B hM t14 kd8 rfl (by decide) fl_X11_285 dX11_asked_20 e21 ?_
      refine p_iret B dX11_asked_23 ?_
      rw [← hPST]
      exact ⟨x20, rfl, by omega, by first | omega | assumption | exact trivial⟩

def mo_X11_setInt : List Nat := [2688, 2720]
set_option maxHeartbeats 1000000 in
set_option maxRecDepth 20000 in
theorem k_X11_setInt (l : Launch) (D : va_G) (dA : Nat → ClassId) (eA : Nat) (L : List Nat) (T N : Nat → Nat) (I : Nat → Nat → Int) (J : Nat → Nat → Int64) (R : Nat → Nat → Nat) (a_this : Nat) (t_this : T a_this = 2) (a_p : Int) (i_p : (-2147483648 : Int) ≤ a_p ∧ a_p ≤ 2147483647) (a_m : Int) (i_m : (-2147483648 : Int) ≤ a_m ∧ a_m ≤ 2147483647) (a_v : Int) (i_v : (-2147483648 : Int) ≤ a_v ∧ a_v ≤ 2147483647) (a_t : Int) (i_t : (0 : Int) ≤ a_t ∧ a_t ≤ 1) : GC l yX11_setInt cX11_setInt 6 (some .boolean) ({ frames := 4, cells := 0, slots := 0, locals := 102 }) D dA eA L T N I J R [.ref a_this, .int (II a_p), .int (II a_m), .int (II a_v), .int (II a_t)] 0 0 (gI (fun r L' T' N' I' J' R' dz dl => L' = L ∧ T' = T ∧ N' = N ∧ J' = J ∧ R' = R ∧ Fr mo_X11_setInt [] T N I J R T' N' I' J' R' ∧ (0 : Int) ≤ r ∧ r ≤ 1 ∧ (True))) := by
  generalize hPST : (gI (fun r L' T' N' I' J' R' dz dl => L' = L ∧ T' = T ∧ N' = N ∧ J' = J ∧ R' = R ∧ Fr mo_X11_setInt [] T N I J R T' N' I' J' R' ∧ (0 : Int) ≤ r ∧ r ≤ 1 ∧ (True))) = PST
  refine g_enter (own := RX11) (by decide) rfl (Nat.le_of_ble_eq_true rfl) (fun p e s m args below meth c ls hm B hX hM hl => ?_)
  have hC0 := hM.2.2.2.2.2.2.1
  have hW0 := hM.2.2.2
  have hF : Fr mo_X11_setInt [] T N I J R T N I J R := Fr.rf
  have hA : ∀ q, s.heap.size ≤ q → cF dA L T N I J R s.heap.size q := fun q h => Or.inr h
  have hl : lv_has ls 6 [(0, .ref a_this), (1, .int (II a_p)), (2, .int (II a_m)), (3, .int (II a_v)), (4, .int (II a_t))] := hl
  refine lv_aload_n B.1 B.2.1 dX11_setInt_0 rfl (lv_at hl 0 rfl) ?_
  refine lv_iload_n B.1 B.2.1 dX11_setInt_1 rfl (lv_at hl 1 rfl) ?_
  refine p_callq (c_runV (n := 1) (as := [.int (II a_p)]) (rest := []) B hX hA hM hl.1 t_this kd2 rfl (k_X11_paperAt l D dA eA L T N I J R a_this t_this a_p (by first | omega | assumption | exact trivial) _ _) ml_X11_157 nm_X11_paperAt ⟨rfl, rfl⟩ ⟨Nat.le_of_ble_eq_true rfl, Nat.le_of_ble_eq_true rfl⟩ dX11_setInt_2 rfl rfl (Nat.le_of_ble_eq_true rfl) ⟨Nat.zero_le _, Nat.zero_le _⟩) (fun v2 hp1 => ?_)
  obtain ⟨qv2, hp1a⟩ := hp1
  clear hp1a
  refine c_astore (lv' := [(5, cv v2), (0, .ref a_this), (1, .int (II a_p)), (2, .int (II a_m)), (3, .int (II a_v)), (4, .int (II a_t))]) B dX11_setInt_5 hl (by decide) (by first | rfl | simp [cv_cat]) (fun ls hl => ?_)
  refine c_aload B dX11_setInt_7 (lv_at hl 0 rfl) ?_
  rcases qv2 with rfl | ⟨b3, rfl, t4⟩
  · have hl : lv_has ls 6 [(5, .null), (0, .ref a_this), (1, .int (II a_p)), (2, .int (II a_m)), (3, .int (II a_v)), (4, .int (II a_t))] := hl
    refine lv_ifnullN (tgt := 22) B.1 B.2.1 dX11_setInt_9 (by decide) ?_
    refine q_con B dX11_setInt_22 ?_
    refine g_zret B hM dX11_setInt_23 ⟨Nat.le_refl _, Nat.le_refl _⟩ (by omega) (by omega) ?_
    rw [← hPST]
    exact ⟨(0), rfl, by omega, rfl, rfl, rfl, rfl, rfl, hF, by omega, by omega, by first | omega | assumption | exact trivial⟩
  · have hl : lv_has ls 6 [(5, .ref b3), (0, .ref a_this), (1, .int (II a_p)), (2, .int (II a_m)), (3, .int (II a_v)), (4, .int (II a_t))] := hl
    refine lv_ifnull B.1 B.2.1 dX11_setInt_9 ?_
    refine lv_aload B.1 B.2.1 dX11_setInt_12 (lv_at hl 0 rfl) ?_
    refine lv_iload_n B.1 B.2.1 dX11_setInt_14 rfl (lv_at hl 3 rfl) ?_
    refine p_calli (c_runV (n := 1) (as := [.int (II a_m)]) (rest := []) B hX hA hM hl.1 t4 kd12 rfl (k_X5_typeOf l D dA eA L T N I J R b3 t4 a_m (by first | omega | assumption | exact trivial) _ _) ml_X11_161 nm_X5_typeOf ⟨rfl, rfl⟩ ⟨Nat.le_of_ble_eq_true rfl, Nat.le_of_ble_eq_true rfl⟩ dX11_setInt_15 rfl rfl (Nat.le_of_ble_eq_true rfl) ⟨Nat.zero_le _, Nat.zero_le _⟩) (fun x6 ix6 hp5 => ?_)
    have hp5a := hp5
    replace hp5a : x6 = -1 ∨ (0 ≤ a_m ∧ a_m < N (R b3 2 - 1)) := hp5a
    obtain ⟨b7, e8, t9⟩ := g12_2 hM.2.2.2.2.2.2.1 t4
    have pq10 : N (R b3 2 - 1) = N b7 := by rw [e8, Nat.add_sub_cancel]
    refine q_con B dX11_setInt_18 ?_
    refine q_ceq (tgt := 24) B dX11_setInt_19 (by decide) (by unfold inr; omega) (by unfold inr; omega) (fun c11 => ?_) (fun c11 => ?_)
    · refine lv_aload B.1 B.2.1 dX11_setInt_24 (lv_at hl 0 rfl) ?_
      refine lv_iload_n B.1 B.2.1 dX11_setInt_26 rfl (lv_at hl 3 rfl) ?_
      refine lv_iload_n B.1 B.2.1 dX11_setInt_27 rfl (lv_at hl 4 rfl) ?_
      refine lv_iload B.1 B.2.1 dX11_setInt_28 (lv_at hl 5 rfl) ?_
      have hv12 : ((-2147483648 : Int) ≤ a_m ∧ (a_m : Int) ≤ 2147483647) ∧ ((-2147483648 : Int) ≤ a_v ∧ (a_v : Int) ≤ 2147483647) ∧ ((0 : Int) ≤ a_t ∧ (a_t : Int) ≤ 1) := by first | omega | exact ⟨by first | omega | assumption | exact trivial, by first | omega | assumption | exact trivial, by first | omega | assumption | exact trivial⟩
      refine z_callv hM hA (c_runV (n := 3) (as := [.int (II a_m), .int (II a_v), .int (II a_t)]) (rest := []) B hX hA hM hl.1 t4 kd12 rfl (k_X5_put l D dA eA L T N I J R b3 t4 a_m hv12.1 a_v hv12.2.1 a_t hv12.2.2 _ _) ml_X11_165 nm_X5_put ⟨rfl, rfl⟩ ⟨Nat.le_of_ble_eq_true rfl, Nat.le_of_ble_eq_true rfl⟩ dX11_setInt_30 rfl rfl (Nat.le_of_ble_eq_true rfl) ⟨Nat.zero_le _, Nat.zero_le _⟩) (fun L15 T16 N17 I18 J19 R20 dz21 dl22 H locs hp13 hMn => ?_)
      obtain ⟨yL15, yT16, yN17, yJ19, yR20, hFc23, hp13a⟩ := hp13
      obtain rfl := yL15.symm; obtain rfl := yT16.symm; obtain rfl := yN17.symm; obtain rfl := yJ19.symm; obtain rfl := yR20.symm
      replace hF : Fr mo_X11_setInt [] T N I J R T N I18 J R := hF.trans hFc23 (by decide) e20
      have hM := hMn
      clear hMn
      clear hp13a
      refine q_con B dX11_setInt_33 ?_
      refine g_zret B hM dX11_setInt_34 ⟨Nat.le_refl _, Nat.le_refl _⟩ (by omega) (by omega) ?_
      rw [← hPST]
      exact ⟨(1), rfl, by omega, rfl, rfl, rfl, rfl, rfl, hF, by omega, by omega, by first | omega | assumption | exact trivial⟩
    · refine q_con B dX11_setInt_22 ?_
      refine g_zret B hM dX11_setInt_23 ⟨Nat.le_refl _, Nat.le_refl _⟩ (by omega) (by omega) ?_
      rw [← hPST]
      exact ⟨(0), rfl, by omega, rfl, rfl, rfl, rfl, rfl, hF, by omega, by omega, by first | omega | assumption | exact trivial⟩

def mo_X11_setText : List Nat := [2688, 2720]
set_option maxHeartbeats 1000000 in
set_option maxRecDepth 20000 in
theorem k_X11_setText (l : Launch) (D : va_G) (dA : Nat → ClassId) (eA : Nat) (L : List Nat) (T N : Nat → Nat) (I : Nat → Nat → Int) (J : Nat → Nat → Int64) (R : Nat → Nat → Nat) (a_this : Nat) (t_this : T a_this = 2) (a_p : Int) (i_p : (-2147483648 : Int) ≤ a_p ∧ a_p ≤ 2147483647) (a_m : Int) (i_m : (-2147483648 : Int) ≤ a_m ∧ a_m ≤ 2147483647) (a_l : Int64) (a_t : Int) (i_t : (0 : Int) ≤ a_t ∧ a_t ≤ 1) : GC l yX11_setText cX11_setText 8 (some .boolean) ({ frames := 4, cells := 0, slots := 0, locals := 102 }) D dA eA L T N I J R [.ref a_this, .int (II a_p), .int (II a_m), .long a_l, .int (II a_t)] 0 0 (gI (fun r L' T' N' I' J' R' dz dl => L' = L ∧ T' = T ∧ N' = N ∧ J' = J ∧ R' = R ∧ Fr mo_X11_setText [] T N I J R T' N' I' J' R' ∧ (0 : Int) ≤ r ∧ r ≤ 1 ∧ (True))) := by
  generalize hPST : (gI (fun r L' T' N' I' J' R' dz dl => L' = L ∧ T' = T ∧ N' = N ∧ J' = J ∧ R' = R ∧ Fr mo_X11_setText [] T N I J R T' N' I' J' R' ∧ (0 : Int) ≤ r ∧ r ≤ 1 ∧ (True))) = PST
  refine g_enter (own := RX11) (by decide) rfl (Nat.le_of_ble_eq_true rfl) (fun p e s m args below meth c ls hm B hX hM hl => ?_)
  have hC0 := hM.2.2.2.2.2.2.1
  have hW0 := hM.2.2.2
  have hF : Fr mo_X11_setText [] T N I J R T N I J R := Fr.rf
  have hA : ∀ q, s.heap.size ≤ q → cF dA L T N I J R s.heap.size q := fun q h => Or.inr h
  have hl : lv_has ls 8 [(0, .ref a_this), (1, .int (II a_p)), (2, .int (II a_m)), (3, .long a_l), (5, .int (II a_t))] := hl
  refine lv_aload_n B.1 B.2.1 dX11_setText_0 rfl (lv_at hl 0 rfl) ?_
  refine lv_iload_n B.1 B.2.1 dX11_setText_1 rfl (lv_at hl 1 rfl) ?_
  refine p_callq (c_runV (n := 1) (as := [.int (II a_p)]) (rest := []) B hX hA hM hl.1 t_this kd2 rfl (k_X11_paperAt l D dA eA L T N I J R a_this t_this a_p (by first | omega | assumption | exact trivial) _ _) ml_X11_157 nm_X11_paperAt ⟨rfl, rfl⟩ ⟨Nat.le_of_ble_eq_true rfl, Nat.le_of_ble_eq_true rfl⟩ dX11_setText_2 rfl rfl (Nat.le_of_ble_eq_true rfl) ⟨Nat.zero_le _, Nat.zero_le _⟩) (fun v2 hp1 => ?_)
  obtain ⟨qv2, hp1a⟩ := hp1
  clear hp1a
  refine c_astore (lv' := [(6, cv v2), (0, .ref a_this), (1, .int (II a_p)), (2, .int (II a_m)), (3, .long a_l), (5, .int (II a_t))]) B dX11_setText_5 hl (by decide) (by first | rfl | simp [cv_cat]) (fun ls hl => ?_)
  refine c_aload B dX11_setText_7 (lv_at hl 0 rfl) ?_
  rcases qv2 with rfl | ⟨b3, rfl, t4⟩
  · have hl : lv_has ls 8 [(6, .null), (0, .ref a_this), (1, .int (II a_p)), (2, .int (II a_m)), (3, .long a_l), (5, .int (II a_t))] := hl
    refine lv_ifnullN (tgt := 22) B.1 B.2.1 dX11_setText_9 (by decide) ?_
    refine q_con B dX11_setText_22 ?_
    refine g_zret B hM dX11_setText_23 ⟨Nat.le_refl _, Nat.le_refl _⟩ (by omega) (by omega) ?_
    rw [← hPST]
    exact ⟨(0), rfl, by omega, rfl, rfl, rfl, rfl, rfl, hF, by omega, by omega, by first | omega | assumption | exact trivial⟩
  · have hl : lv_has ls 8 [(6, .ref b3), (0, .ref a_this), (1, .int (II a_p)), (2, .int (II a_m)), (3, .long a_l), (5, .int (II a_t))] := hl
    refine lv_ifnull B.1 B.2.1 dX11_setText_9 ?_
    refine lv_aload B.1 B.2.1 dX11_setText_12 (lv_at hl 0 rfl) ?_
    refine lv_iload_n B.1 B.2.1 dX11_setText_14 rfl (lv_at hl 3 rfl) ?_
    refine p_calli (c_runV (n := 1) (as := [.int (II a_m)]) (rest := []) B hX hA hM hl.1 t4 kd12 rfl (k_X5_typeOf l D dA eA L T N I J R b3 t4 a_m (by first | omega | assumption | exact trivial) _ _) ml_X11_161 nm_X5_typeOf ⟨rfl, rfl⟩ ⟨Nat.le_of_ble_eq_true rfl, Nat.le_of_ble_eq_true rfl⟩ dX11_setText_15 rfl rfl (Nat.le_of_ble_eq_true rfl) ⟨Nat.zero_le _, Nat.zero_le _⟩) (fun x6 ix6 hp5 => ?_)
    have hp5a := hp5
    replace hp5a : x6 = -1 ∨ (0 ≤ a_m ∧ a_m < N (R b3 2 - 1)) := hp5a
    obtain ⟨b7, e8, t9⟩ := g12_2 hM.2.2.2.2.2.2.1 t4
    have pq10 : N (R b3 2 - 1) = N b7 := by rw [e8, Nat.add_sub_cancel]
    refine q_con B dX11_setText_18 ?_
    refine q_ceq (tgt := 24) B dX11_setText_19 (by decide) (by unfold inr; omega) (by unfold inr; omega) (fun c11 => ?_) (fun c11 => ?_)
    · refine lv_lload_n B.1 B.2.1 dX11_setText_24 rfl (lv_at hl 4 rfl) ?_
      refine p_calli (c_runS (n := 1) (as := [.long a_l]) (rest := []) B hX hA hM hl.1 (k_X11_countLetters l D dA eA L T N I J R a_l _ _) ml_X11_169 nm_X11_countLetters ⟨rfl, rfl⟩ ⟨Nat.le_of_ble_eq_true rfl, Nat.le_of_ble_eq_true rfl⟩ dX11_setText_25 rfl rfl (Nat.le_of_ble_eq_true rfl) ⟨Nat.zero_le _, Nat.zero_le _⟩) (fun x13 ix13 hp12 => ?_)
      have hp12a := hp12
      clear hp12a
      refine lv_istore (lv' := [(7, .int (II x13)), (6, .ref b3), (0, .ref a_this), (1, .int (II a_p)), (2, .int (II a_m)), (3, .long a_l), (5, .int (II a_t))]) B.1 B.2.1 dX11_setText_28 hl (by decide) rfl (fun ls hl => ?_)
      refine lv_iload B.1 B.2.1 dX11_setText_30 (lv_at hl 0 rfl) ?_
      refine q_con B dX11_setText_32 ?_
      refine q_cne (tgt := 38) B dX11_setText_33 (by decide) (by unfold inr; omega) (by unfold inr; omega) (fun c14 => ?_) (fun c14 => ?_)
      · refine lv_aload B.1 B.2.1 dX11_setText_38 (lv_at hl 1 rfl) ?_
        refine lv_iload_n B.1 B.2.1 dX11_setText_40 rfl (lv_at hl 4 rfl) ?_
        refine lv_iload B.1 B.2.1 dX11_setText_41 (lv_at hl 0 rfl) ?_
        refine lv_iload B.1 B.2.1 dX11_setText_43 (lv_at hl 6 rfl) ?_
        have hv15 : ((-2147483648 : Int) ≤ a_m ∧ (a_m : Int) ≤ 2147483647) ∧ ((-2147483648 : Int) ≤ x13 ∧ (x13 : Int) ≤ 2147483647) ∧ ((0 : Int) ≤ a_t ∧ (a_t : Int) ≤ 1) := by first | omega | exact ⟨by first | omega | assumption | exact trivial, by first | omega | assumption | exact trivial, by first | omega | assumption | exact trivial⟩
        refine z_callv hM hA (c_runV (n := 3) (as := [.int (II a_m), .int (II x13), .int (II a_t)]) (rest := []) B hX hA hM hl.1 t4 kd12 rfl (k_X5_put l D dA eA L T N I J R b3 t4 a_m hv15.1 x13 hv15.2.1 a_t hv15.2.2 _ _) ml_X11_165 nm_X5_put ⟨rfl, rfl⟩ ⟨Nat.le_of_ble_eq_true rfl, Nat.le_of_ble_eq_true rfl⟩ dX11_setText_45 rfl rfl (Nat.le_of_ble_eq_true rfl) ⟨Nat.zero_le _, Nat.zero_le _⟩) (fun L18 T19 N20 I21 J22 R23 dz24 dl25 H locs hp16 hMn => ?_)
        obtain ⟨yL18, yT19, yN20, yJ22, yR23, hFc26, hp16a⟩ := hp16
        obtain rfl := yL18.symm; obtain rfl := yT19.symm; obtain rfl := yN20.symm; obtain rfl := yJ22.symm; obtain rfl := yR23.symm
        replace hF : Fr mo_X11_setText [] T N I J R T N I21 J R := hF.trans hFc26 (by decide) e20
        have hM := hMn
        clear hMn
        clear hp16a
        refine q_con B dX11_setText_48 ?_
        refine g_zret B hM dX11_setText_49 ⟨Nat.le_refl _, Nat.le_refl _⟩ (by omega) (by omega) ?_
        rw [← hPST]
        exact ⟨(1), rfl, by omega, rfl, rfl, rfl, rfl, rfl, hF, by omega, by omega, by first | omega | assumption | exact trivial⟩
      · refine q_con B dX11_setText_36 ?_
        refine g_zret B hM dX11_setText_37 ⟨Nat.le_refl _, Nat.le_refl _⟩ (by omega) (by omega) ?_
        rw [← hPST]
        exact ⟨(0), rfl, by omega, rfl, rfl, rfl, rfl, rfl, hF, by omega, by omega, by first | omega | assumption | exact trivial⟩
    · refine q_con B dX11_setText_22 ?_
      refine g_zret B hM dX11_setText_23 ⟨Nat.le_refl _, Nat.le_refl _⟩ (by omega) (by omega) ?_
      rw [← hPST]
      exact ⟨(0), rfl, by omega, rfl, rfl, rfl, rfl, rfl, hF, by omega, by omega, by first | omega | assumption | exact trivial⟩

def mo_X11_link : List Nat := [2688, 2720]
set_option maxHeartbeats 1000000 in
set_option maxRecDepth 20000 in
theorem k_X11_link (l : Launch) (D : va_G) (dA : Nat → ClassId) (eA : Nat) (L : List Nat) (T N : Nat → Nat) (I : Nat → Nat → Int) (J : Nat → Nat → Int64) (R : Nat → Nat → Nat) (a_this : Nat) (t_this : T a_this = 2) (a_p : Int) (i_p : (-2147483648 : Int) ≤ a_p ∧ a_p ≤ 2147483647) (a_m : Int) (i_m : (-2147483648 : Int) ≤ a_m ∧ a_m ≤ 2147483647) (a_o : Int) (i_o : (-2147483648 : Int) ≤ a_o ∧ a_o ≤ 2147483647) : GC l yX11_link cX11_link 6 (some .boolean) ({ frames := 4, cells := 0, slots := 0, locals := 102 }) D dA eA L T N I J R [.ref a_this, .int (II a_p), .int (II a_m), .int (II a_o)] 0 0 (gI (fun r L' T' N' I' J' R' dz dl => L' = L ∧ T' = T ∧ N' = N ∧ J' = J ∧ R' = R ∧ Fr mo_X11_link [] T N I J R T' N' I' J' R' ∧ (0 : Int) ≤ r ∧ r ≤ 1 ∧ (True))) := by
  generalize hPST : (gI (fun r L' T' N' I' J' R' dz dl => L' = L ∧ T' = T ∧ N' = N ∧ J' = J ∧ R' = R ∧ Fr mo_X11_link [] T N I J R T' N' I' J' R' ∧ (0 : Int) ≤ r ∧ r ≤ 1 ∧ (True))) = PST
  refine g_enter (own := RX11) (by decide) rfl (Nat.le_of_ble_eq_true rfl) (fun p e s m args below meth c ls hm B hX hM hl => ?_)
  have hC0 := hM.2.2.2.2.2.2.1
  have hW0 := hM.2.2.2
  have hF : Fr mo_X11_link [] T N I J R T N I J R := Fr.rf
  have hA : ∀ q, s.heap.size ≤ q → cF dA L T N I J R s.heap.size q := fun q h => Or.inr h
  have hl : lv_has ls 6 [(0, .ref a_this), (1, .int (II a_p)), (2, .int (II a_m)), (3, .int (II a_o))] := hl
  refine lv_aload_n B.1 B.2.1 dX11_link_0 rfl (lv_at hl 0 rfl) ?_
  refine lv_iload_n B.1 B.2.1 dX11_link_1 rfl (lv_at hl 1 rfl) ?_
  refine p_callq (c_runV (n := 1) (as := [.int (II a_p)]) (rest := []) B hX hA hM hl.1 t_this kd2 rfl (k_X11_paperAt l D dA eA L T N I J R a_this t_this a_p (by first | omega | assumption | exact trivial) _ _) ml_X11_157 nm_X11_paperAt ⟨rfl, rfl⟩ ⟨Nat.le_of_ble_eq_true rfl, Nat.le_of_ble_eq_true rfl⟩ dX11_link_2 rfl rfl (Nat.le_of_ble_eq_true rfl) ⟨Nat.zero_le _, Nat.zero_le _⟩) (fun v2 hp1 => ?_)
  obtain ⟨qv2, hp1a⟩ := hp1
  clear hp1a
  refine c_astore (lv' := [(4, cv v2), (0, .ref a_this), (1, .int (II a_p)), (2, .int (II a_m)), (3, .int (II a_o))]) B dX11_link_5 hl (by decide) (by first | rfl | simp [cv_cat]) (fun ls hl => ?_)
  refine c_aload B dX11_link_7 (lv_at hl 0 rfl) ?_
  rcases qv2 with rfl | ⟨b3, rfl, t4⟩
  · have hl : lv_has ls 6 [(4, .null), (0, .ref a_this), (1, .int (II a_p)), (2, .int (II a_m)), (3, .int (II a_o))] := hl
    refine lv_ifnullN (tgt := 22) B.1 B.2.1 dX11_link_9 (by decide) ?_
    refine q_con B dX11_link_22 ?_
    refine g_zret B hM dX11_link_23 ⟨Nat.le_refl _, Nat.le_refl _⟩ (by omega) (by omega) ?_
    rw [← hPST]
    exact ⟨(0), rfl, by omega, rfl, rfl, rfl, rfl, rfl, hF, by omega, by omega, by first | omega | assumption | exact trivial⟩
  · have hl : lv_has ls 6 [(4, .ref b3), (0, .ref a_this), (1, .int (II a_p)), (2, .int (II a_m)), (3, .int (II a_o))] := hl
    refine lv_ifnull B.1 B.2.1 dX11_link_9 ?_
    refine lv_aload B.1 B.2.1 dX11_link_12 (lv_at hl 0 rfl) ?_
    refine lv_iload_n B.1 B.2.1 dX11_link_14 rfl (lv_at hl 3 rfl) ?_
    refine p_calli (c_runV (n := 1) (as := [.int (II a_m)]) (rest := []) B hX hA hM hl.1 t4 kd12 rfl (k_X5_typeOf l D dA eA L T N I J R b3 t4 a_m (by first | omega | assumption | exact trivial) _ _) ml_X11_161 nm_X5_typeOf ⟨rfl, rfl⟩ ⟨Nat.le_of_ble_eq_true rfl, Nat.le_of_ble_eq_true rfl⟩ dX11_link_15 rfl rfl (Nat.le_of_ble_eq_true rfl) ⟨Nat.zero_le _, Nat.zero_le _⟩) (fun x6 ix6 hp5 => ?_)
    have hp5a := hp5
    replace hp5a : x6 = -1 ∨ (0 ≤ a_m ∧ a_m < N (R b3 2 - 1)) := hp5a
    obtain ⟨b7, e8, t9⟩ := g12_2 hM.2.2.2.2.2.2.1 t4
    have pq10 : N (R b3 2 - 1) = N b7 := by rw [e8, Nat.add_sub_cancel]
    refine q_con B dX11_link_18 ?_
    refine q_ceq (tgt := 24) B dX11_link_19 (by decide) (by unfold inr; omega) (by unfold inr; omega) (fun c11 => ?_) (fun c11 => ?_)
    · refine lv_iload_n B.1 B.2.1 dX11_link_24 rfl (lv_at hl 4 rfl) ?_
      refine q_con B dX11_link_25 ?_
      refine q_cne (tgt := 39) B dX11_link_26 (by decide) (by unfold inr; omega) (by unfold inr; omega) (fun c12 => ?_) (fun c12 => ?_)
      · refine lv_aload_n B.1 B.2.1 dX11_link_39 rfl (lv_at hl 1 rfl) ?_
        refine lv_iload_n B.1 B.2.1 dX11_link_40 rfl (lv_at hl 4 rfl) ?_
        refine p_callq (c_runV (n := 1) (as := [.int (II a_o)]) (rest := []) B hX hA hM hl.1 t_this kd2 rfl (k_X11_paperAt l D dA eA L T N I J R a_this t_this a_o (by first | omega | assumption | exact trivial) _ _) ml_X11_157 nm_X11_paperAt ⟨rfl, rfl⟩ ⟨Nat.le_of_ble_eq_true rfl, Nat.le_of_ble_eq_true rfl⟩ dX11_link_41 rfl rfl (Nat.le_of_ble_eq_true rfl) ⟨Nat.zero_le _, Nat.zero_le _⟩) (fun v14 hp13 => ?_)
        obtain ⟨qv14, hp13a⟩ := hp13
        clear hp13a
        refine c_astore (lv' := [(5, cv v14), (4, .ref b3), (0, .ref a_this), (1, .int (II a_p)), (2, .int (II a_m)), (3, .int (II a_o))]) B dX11_link_44 hl (by decide) (by first | rfl | simp [cv_cat]) (fun ls hl => ?_)
        refine c_aload B dX11_link_46 (lv_at hl 0 rfl) ?_
        rcases qv14 with rfl | ⟨b15, rfl, t16⟩
        · have hl : lv_has ls 6 [(5, .null), (4, .ref b3), (0, .ref a_this), (1, .int (II a_p)), (2, .int (II a_m)), (3, .int (II a_o))] := hl
          refine lv_ifnullN (tgt := 68) B.1 B.2.1 dX11_link_48 (by decide) ?_
          refine q_con B dX11_link_68 ?_
          refine g_zret B hM dX11_link_69 ⟨Nat.le_refl _, Nat.le_refl _⟩ (by omega) (by omega) ?_
          rw [← hPST]
          exact ⟨(0), rfl, by omega, rfl, rfl, rfl, rfl, rfl, hF, by omega, by omega, by first | omega | assumption | exact trivial⟩
        · have hl : lv_has ls 6 [(5, .ref b15), (4, .ref b3), (0, .ref a_this), (1, .int (II a_p)), (2, .int (II a_m)), (3, .int (II a_o))] := hl
          refine lv_ifnull B.1 B.2.1 dX11_link_48 ?_
          refine lv_aload B.1 B.2.1 dX11_link_51 (lv_at hl 0 rfl) ?_
          obtain ⟨b17, e18, t19⟩ := g12_0 hM.2.2.2.2.2.2.1 t16
          refine c_getn (k := 0) pk_X5 B hM t16 kd12 rfl (by decide) fl_X11_172 dX11_link_53 e18 ?_
          refine lv_aload B.1 B.2.1 dX11_link_56 (lv_at hl 1 rfl) ?_
          refine lv_iload_n B.1 B.2.1 dX11_link_58 rfl (lv_at hl 4 rfl) ?_
          refine p_calli (c_runV (n := 1) (as := [.int (II a_m)]) (rest := [.ref b17]) B hX hA hM hl.1 t4 kd12 rfl (k_X5_kindOf l D dA eA L T N I J R b3 t4 a_m (by first | omega | assumption | exact trivial) _ _) ml_X11_176 nm_X5_kindOf ⟨rfl, rfl⟩ ⟨Nat.le_of_ble_eq_true rfl, Nat.le_of_ble_eq_true rfl⟩ dX11_link_59 rfl rfl (Nat.le_of_ble_eq_true rfl) ⟨Nat.zero_le _, Nat.zero_le _⟩) (fun x21 ix21 hp20 => ?_)
          have hp20a := hp20
          clear hp20a
          refine p_calli (c_runV (n := 1) (as := [.int (II x21)]) (rest := []) B hX hA hM hl.1 t19 kd11 rfl (k_X3_isOf l D dA eA L T N I J R b17 t19 x21 (by first | omega | assumption | exact trivial) _ _) ml_X11_179 nm_X3_isOf ⟨rfl, rfl⟩ ⟨Nat.le_of_ble_eq_true rfl, Nat.le_of_ble_eq_true rfl⟩ dX11_link_62 rfl rfl (Nat.le_of_ble_eq_true rfl) ⟨Nat.zero_le _, Nat.zero_le _⟩) (fun x23 ix23 hp22 => ?_)
          have hp22a := hp22
          replace hp22a : (0 : Int) ≤ x23 ∧ x23 ≤ 1 ∧ (True) := hp22a
          obtain ⟨hp22a_0, hp22a_1, hp22a_2⟩ := hp22a
          refine q_ine (tgt := 70) B dX11_link_65 (by decide) (by unfold inr; omega) (fun c24 => ?_) (fun c24 => ?_)
          · refine lv_aload B.1 B.2.1 dX11_link_70 (lv_at hl 1 rfl) ?_
            refine lv_iload_n B.1 B.2.1 dX11_link_72 rfl (lv_at hl 4 rfl) ?_
            refine lv_iload_n B.1 B.2.1 dX11_link_73 rfl (lv_at hl 5 rfl) ?_
            refine q_con B dX11_link_74 ?_
            have hv25 : ((-2147483648 : Int) ≤ a_m ∧ (a_m : Int) ≤ 2147483647) ∧ ((-2147483648 : Int) ≤ a_o ∧ (a_o : Int) ≤ 2147483647) ∧ ((0 : Int) ≤ 1 ∧ (1 : Int) ≤ 1) := by first | omega | exact ⟨by first | omega | assumption | exact trivial, by first | omega | assumption | exact trivial, by first | omega | assumption | exact trivial⟩
            refine z_callv hM hA (c_runV (n := 3) (as := [.int (II a_m), .int (II a_o), .int (II 1)]) (rest := []) B hX hA hM hl.1 t4 kd12 rfl (k_X5_put l D dA eA L T N I J R b3 t4 a_m hv25.1 a_o hv25.2.1 (1) hv25.2.2 _ _) ml_X11_165 nm_X5_put ⟨rfl, rfl⟩ ⟨Nat.le_of_ble_eq_true rfl, Nat.le_of_ble_eq_true rfl⟩ dX11_link_75 rfl rfl (Nat.le_of_ble_eq_true rfl) ⟨Nat.zero_le _, Nat.zero_le _⟩) (fun L28 T29 N30 I31 J32 R33 dz34 dl35 H locs hp26 hMn => ?_)
            obtain ⟨yL28, yT29, yN30, yJ32, yR33, hFc36, hp26a⟩ := hp26
            obtain rfl := yL28.symm; obtain rfl := yT29.symm; obtain rfl := yN30.symm; obtain rfl := yJ32.symm; obtain rfl := yR33.symm
            replace hF : Fr mo_X11_link [] T N I J R T N I31 J R := hF.trans hFc36 (by decide) e20
            have hM := hMn
            clear hMn
            clear hp26a
            refine q_con B dX11_link_78 ?_
            refine g_zret B hM dX11_link_79 ⟨Nat.le_refl _, Nat.le_refl _⟩ (by omega) (by omega) ?_
            rw [← hPST]
            exact ⟨(1), rfl, by omega, rfl, rfl, rfl, rfl, rfl, hF, by omega, by omega, by first | omega | assumption | exact trivial⟩
          · refine q_con B dX11_link_68 ?_
            refine g_zret B hM dX11_link_69 ⟨Nat.le_refl _, Nat.le_refl _⟩ (by omega) (by omega) ?_
            rw [← hPST]
            exact ⟨(0), rfl, by omega, rfl, rfl, rfl, rfl, rfl, hF, by omega, by omega, by first | omega | assumption | exact trivial⟩
      · refine lv_aload B.1 B.2.1 dX11_link_29 (lv_at hl 0 rfl) ?_
        refine lv_iload_n B.1 B.2.1 dX11_link_31 rfl (lv_at hl 3 rfl) ?_
        refine q_con B dX11_link_32 ?_
        refine q_con B dX11_link_33 ?_
        have hv37 : ((-2147483648 : Int) ≤ a_m ∧ (a_m : Int) ≤ 2147483647) ∧ ((-2147483648 : Int) ≤ 0 ∧ (0 : Int) ≤ 2147483647) ∧ ((0 : Int) ≤ 0 ∧ (0 : Int) ≤ 1) := by first | omega | exact ⟨by first | omega | assumption | exact trivial, by first | omega | assumption | exact trivial, by first | omega | assumption | exact trivial⟩
        refine z_callv hM hA (c_runV (n := 3) (as := [.int (II a_m), .int (II 0), .int (II 0)]) (rest := []) B hX hA hM hl.1 t4 kd12 rfl (k_X5_put l D dA eA L T N I J R b3 t4 a_m hv37.1 (0) hv37.2.1 (0) hv37.2.2 _ _) ml_X11_165 nm_X5_put ⟨rfl, rfl⟩ ⟨Nat.le_of_ble_eq_true rfl, Nat.le_of_ble_eq_true rfl⟩ dX11_link_34 rfl rfl (Nat.le_of_ble_eq_true rfl) ⟨Nat.zero_le _, Nat.zero_le _⟩) (fun L40 T41 N42 I43 J44 R45 dz46 dl47 H locs hp38 hMn => ?_)
        obtain ⟨yL40, yT41, yN42, yJ44, yR45, hFc48, hp38a⟩ := hp38
        obtain rfl := yL40.symm; obtain rfl := yT41.symm; obtain rfl := yN42.symm; obtain rfl := yJ44.symm; obtain rfl := yR45.symm
        replace hF : Fr mo_X11_link [] T N I J R T N I43 J R := hF.trans hFc48 (by decide) e20
        have hM := hMn
        clear hMn
        clear hp38a
        refine q_con B dX11_link_37 ?_
        refine g_zret B hM dX11_link_38 ⟨Nat.le_refl _, Nat.le_refl _⟩ (by omega) (by omega) ?_
        rw [← hPST]
        exact ⟨(1), rfl, by omega, rfl, rfl, rfl, rfl, rfl, hF, by omega, by omega, by first | omega | assumption | exact trivial⟩
    · refine q_con B dX11_link_22 ?_
      refine g_zret B hM dX11_link_23 ⟨Nat.le_refl _, Nat.le_refl _⟩ (by omega) (by omega) ?_
      rw [← hPST]
      exact ⟨(0), rfl, by omega, rfl, rfl, rfl, rfl, rfl, hF, by omega, by omega, by first | omega | assumption | exact trivial⟩

def mo_X11_end : List Nat := [71]
set_option maxHeartbeats 1000000 in
set_option maxRecDepth 20000 in
theorem k_X11_end (l : Launch) (D : va_G) (dA : Nat → ClassId) (eA : Nat) (L : List Nat) (T N : Nat → Nat) (I : Nat → Nat → Int) (J : Nat → Nat → Int64) (R : Nat → Nat → Nat) (a_this : Nat) (t_this : T a_this = 2) (a_n : Int) (i_n : (-2147483648 : Int) ≤ a_n ∧ a_n ≤ 2147483647) : GC l yX11_end cX11_end 2 (some .int) ({ frames := 0, cells := 0, slots := 0, locals := 0 }) D dA eA L T N I J R [.ref a_this, .int (II a_n)] 0 0 (gI (fun r L' T' N' I' J' R' dz dl => L' = L ∧ T' = T ∧ N' = N ∧ J' = J ∧ R' = R ∧ Fr mo_X11_end [] T N I J R T' N' I' J' R' ∧ ((0 ≤ a_n ∧ a_n ≤ I a_this 7 ∧ r = a_n ∧ I' a_this 7 = a_n) ∨ ((a_n < 0 ∨ I a_this 7 < a_n) ∧ r = -1 ∧ I' a_this 7 = I a_this 7)))) := by
  generalize hPST : (gI (fun r L' T' N' I' J' R' dz dl => L' = L ∧ T' = T ∧ N' = N ∧ J' = J ∧ R' = R ∧ Fr mo_X11_end [] T N I J R T' N' I' J' R' ∧ ((0 ≤ a_n ∧ a_n ≤ I a_this 7 ∧ r = a_n ∧ I' a_this 7 = a_n) ∨ ((a_n < 0 ∨ I a_this 7 < a_n) ∧ r = -1 ∧ I' a_this 7 = I a_this 7)))) = PST
  refine g_enter (own := RX11) (by decide) rfl (Nat.le_of_ble_eq_true rfl) (fun p e s m args below meth c ls hm B hX hM hl => ?_)
  have hC0 := hM.2.2.2.2.2.2.1
  have hW0 := hM.2.2.2
  have hF : Fr mo_X11_end [] T N I J R T N I J R := Fr.rf
  have hA : ∀ q, s.heap.size ≤ q → cF dA L T N I J R s.heap.size q := fun q h => Or.inr h
  have hl : lv_has ls 2 [(0, .ref a_this), (1, .int (II a_n))] := hl
  refine lv_iload_n B.1 B.2.1 dX11_end_0 rfl (lv_at hl 1 rfl) ?_
  refine q_ilt (tgt := 12) B dX11_end_1 (by decide) (by unfold inr; omega) (fun c1 => ?_) (fun c1 => ?_)
  · refine q_con B dX11_end_12 ?_
    obtain ⟨x2, e3⟩ : ∃ v, I a_this 7 = v := ⟨_, rfl⟩
    refine g_iret B hM dX11_end_13 ⟨Nat.le_refl _, Nat.le_refl _⟩ ?_
    rw [← hPST]
    exact ⟨(-1), rfl, by omega, rfl, rfl, rfl, rfl, rfl, hF, by first | omega | assumption | exact trivial⟩
  · refine lv_iload_n B.1 B.2.1 dX11_end_4 rfl (lv_at hl 1 rfl) ?_
    refine lv_aload_n B.1 B.2.1 dX11_end_5 rfl (lv_at hl 0 rfl) ?_
    obtain ⟨x4, e5⟩ : ∃ v, I a_this 7 = v := ⟨_, rfl⟩
    have r6 : (0 : Int) ≤ x4 ∧ x4 ≤ 3000 := by rw [← e5]; exact g2_7 hM.2.2.2.2.2.2.1 t_this
    refine c_geti (k := 7) pk_X11 B hM t_this kd2 rfl (by decide) fl_X11_65 dX11_end_6 e5 ?_
    refine q_cle (tgt := 14) B dX11_end_9 (by decide) (by unfold inr; omega) (by unfold inr; omega) (fun c7 => ?_) (fun c7 => ?_)
    · refine lv_aload_n B.1 B.2.1 dX11_end_14 rfl (lv_at hl 0 rfl) ?_
      refine lv_iload_n B.1 B.2.1 dX11_end_15 rfl (lv_at hl 1 rfl) ?_
      refine c_puti (k := 7) pk_X11 B hM t_this kd2 rfl (by decide) fl_X11_65 (Or.inl rfl) dX11_end_16 rfl rfl rfl (show (0 : Int) ≤ a_n from by omega) (show a_n ≤ (3000 : Int) from by omega) (fun I8 H locs hu9 hM => ?_)
      have e10 : I8 a_this 7 = a_n := w2_at hu9
      replace hF : Fr mo_X11_end [] T N I J R T N I8 J R := hF.wi hu9 (fun _ _ => by rw [t_this]; rfl)
      refine lv_iload_n B.1 B.2.1 dX11_end_19 rfl (lv_at hl 1 rfl) ?_
      refine g_iret B hM dX11_end_20 ⟨Nat.le_refl _, Nat.le_refl _⟩ ?_
      rw [← hPST]
      exact ⟨a_n, rfl, by omega, rfl, rfl, rfl, rfl, rfl, hF, by first | omega | assumption | exact trivial⟩
    · refine q_con B dX11_end_12 ?_
      refine g_iret B hM dX11_end_13 ⟨Nat.le_refl _, Nat.le_refl _⟩ ?_
      rw [← hPST]
      exact ⟨(-1), rfl, by omega, rfl, rfl, rfl, rfl, rfl, hF, by first | omega | assumption | exact trivial⟩

def mo_X11_putBytes : List Nat := [1920, 71]
set_option maxHeartbeats 1000000 in
set_option maxRecDepth 20000 in
theorem k_X11_putBytes (l : Launch) (D : va_G) (dA : Nat → ClassId) (eA : Nat) (L : List Nat) (T N : Nat → Nat) (I : Nat → Nat → Int) (J : Nat → Nat → Int64) (R : Nat → Nat → Nat) (a_this : Nat) (t_this : T a_this = 2) (a_four : Int) (i_four : (-2147483648 : Int) ≤ a_four ∧ a_four ≤ 2147483647) (p_0 : I a_this 7 ≤ 2996) : GC l yX11_putBytes cX11_putBytes 3 none ({ frames := 0, cells := 0, slots := 0, locals := 0 }) D dA eA L T N I J R [.ref a_this, .int (II a_four)] 0 0 (gV (fun L' T' N' I' J' R' dz dl => L' = L ∧ T' = T ∧ N' = N ∧ J' = J ∧ R' = R ∧ Fr mo_X11_putBytes [] T N I J R T' N' I' J' R' ∧ (I' a_this 7 = I a_this 7 + 4))) := by
  generalize hPST : (gV (fun L' T' N' I' J' R' dz dl => L' = L ∧ T' = T ∧ N' = N ∧ J' = J ∧ R' = R ∧ Fr mo_X11_putBytes [] T N I J R T' N' I' J' R' ∧ (I' a_this 7 = I a_this 7 + 4))) = PST
  refine g_enter (own := RX11) (by decide) rfl (Nat.le_of_ble_eq_true rfl) (fun p e s m args below meth c ls hm B hX hM hl => ?_)
  have hC0 := hM.2.2.2.2.2.2.1
  have hW0 := hM.2.2.2
  have hF : Fr mo_X11_putBytes [] T N I J R T N I J R := Fr.rf
  have hA : ∀ q, s.heap.size ≤ q → cF dA L T N I J R s.heap.size q := fun q h => Or.inr h
  have hl : lv_has ls 3 [(0, .ref a_this), (1, .int (II a_four))] := hl
  refine q_bip B dX11_putBytes_0 (by decide) ?_
  refine lv_istore_n (lv' := [(2, .int (II 24)), (0, .ref a_this), (1, .int (II a_four))]) B.1 B.2.1 dX11_putBytes_2 rfl hl (by decide) rfl (fun ls hl => ?_)
  have LL3 : ∀ NN : Nat, ∀ (v3_2 : Int) (I_3 : Nat → Nat → Int) (H : Heap) (locs : List Loc) (ls : Array Slot), (CWd D dA eA (cF dA L T N I J R s.heap.size) s.heap L T N I_3 J R H locs) → (Fr mo_X11_putBytes [] T N I J R T N I_3 J R) → lv_has ls 3 [(0, .ref a_this), (1, .int (II a_four)), (2, .int (II v3_2))] → ((-2147483648 : Int) ≤ v3_2 ∧ v3_2 ≤ 2147483647) → (-8 ≤ v3_2) → (v3_2 ≤ 24) → (8 * I_3 a_this 7 = 8 * I a_this 7 + 24 - v3_2) → (0 ≤ v3_2 + 8) → (v3_2 + 8 < (NN : Int)) → W p l e ({ frames := 0, cells := 0, slots := 0, locals := 0 }) s m args below meth c H locs 0 0 (MQ below (gQ D dA eA (cF dA L T N I J R s.heap.size) s.heap.size (hs s.heap) PST) args s 0 0 (cF dA L T N I J R s.heap.size)) (F0 m 3 ls []) := by
    intro NN
    induction NN with
    | zero => intro v3_2 I_3 H locs ls hM hF hl hLL3_0 hLL3_1 hLL3_2 hLL3_3 hLL3_4 hN; exfalso; omega
    | succ NN IH3 =>
      intro v3_2 I_3 H locs ls hM hF hl hLL3_0 hLL3_1 hLL3_2 hLL3_3 hLL3_4 hN
      refine lv_iload_n B.1 B.2.1 dX11_putBytes_3 rfl (lv_at hl 2 rfl) ?_
      refine q_ilt (tgt := 46) B dX11_putBytes_4 (by decide) (by unfold inr; omega) (fun c1 => ?_) (fun c1 => ?_)
      · obtain ⟨x2, e3⟩ : ∃ v, I_3 a_this 7 = v := ⟨_, rfl⟩
        refine g_vret B hM dX11_putBytes_46 ⟨Nat.le_refl _, Nat.le_refl _⟩ ?_
        rw [← hPST]
        exact ⟨rfl, rfl, rfl, rfl, rfl, rfl, hF, by first | omega | assumption | exact trivial⟩
      · refine lv_aload_n B.1 B.2.1 dX11_putBytes_7 rfl (lv_at hl 0 rfl) ?_
        obtain ⟨x4, e5⟩ : ∃ v, I_3 a_this 7 = v := ⟨_, rfl⟩
        have r6 : (0 : Int) ≤ x4 ∧ x4 ≤ 3000 := by rw [← e5]; exact g2_7 hM.2.2.2.2.2.2.1 t_this
        refine c_geti (k := 7) pk_X11 B hM t_this kd2 rfl (by decide) fl_X11_65 dX11_putBytes_8 e5 ?_
        refine q_sip B dX11_putBytes_11 (by decide) ?_
        refine q_cge (tgt := 46) B dX11_putBytes_14 (by decide) (by unfold inr; omega) (by unfold inr; omega) (fun c7 => ?_) (fun c7 => ?_)
        · refine g_vret B hM dX11_putBytes_46 ⟨Nat.le_refl _, Nat.le_refl _⟩ ?_
          rw [← hPST]
          exact ⟨rfl, rfl, rfl, rfl, rfl, rfl, hF, by first | omega | assumption | exact trivial⟩
        · refine lv_aload_n B.1 B.2.1 dX11_putBytes_17 rfl (lv_at hl 0 rfl) ?_
          obtain ⟨b8, e9, t10⟩ := g2_0 hC0 t_this
          refine c_getn (k := 0) pk_X11 B hM t_this kd2 rfl (by decide) fl_X11_9 dX11_putBytes_18 e9 ?_
          refine lv_aload_n B.1 B.2.1 dX11_putBytes_21 rfl (lv_at hl 0 rfl) ?_
          refine c_geti (k := 7) pk_X11 B hM t_this kd2 rfl (by decide) fl_X11_65 dX11_putBytes_22 e5 ?_
          refine lv_iload_n B.1 B.2.1 dX11_putBytes_25 rfl (lv_at hl 1 rfl) ?_
          refine lv_iload_n B.1 B.2.1 dX11_putBytes_26 rfl (lv_at hl 2 rfl) ?_
          refine q_shr B dX11_putBytes_27 (fun x11 ix11 => ?_)
          unfold inr at ix11
          refine q_i2b B dX11_putBytes_28 (fun x12 ix12 => ?_)
          unfold inr at ix12
          have n13 : 3000 ≤ N b8 ∧ N b8 ≤ 3000 := gn60 hM.2.2.2.2.2.2.1 t10
          refine c_bst B hM t10 kd60 aq60 dX11_putBytes_29 (by omega) (by omega) (fun I15 H locs x16 lx16 ux16 hu14 hM => ?_)
          have e17 : I15 b8 x4.toNat = x16 := w2_at hu14
          replace hF : Fr mo_X11_putBytes [] T N I J R T N I15 J R := hF.wi hu14 (fun _ _ => by rw [t10, cd_arr (j := 0) (by decide)]; rfl)
          refine lv_aload_n B.1 B.2.1 dX11_putBytes_30 rfl (lv_at hl 0 rfl) ?_
          refine lv_dup B.1 B.2.1 dX11_putBytes_31 rfl ?_
          have e18 : I15 a_this 7 = x4 := (w2_ne hu14 (Or.inl (tne t_this t10 (by decide)))).trans e5
          refine c_geti (k := 7) pk_X11 B hM t_this kd2 rfl (by decide) fl_X11_65 dX11_putBytes_32 e18 ?_
          refine q_con B dX11_putBytes_35 ?_
          refine q_add B dX11_putBytes_36 ?_
          refine c_puti (k := 7) pk_X11 B hM t_this kd2 rfl (by decide) fl_X11_65 (Or.inl rfl) dX11_putBytes_37 rfl rfl rfl (show (0 : Int) ≤ x4 + (1 : Int) from by omega) (show x4 + (1 : Int) ≤ (3000 : Int) from by omega) (fun I19 H locs hu20 hM => ?_)
          have e21 : I19 a_this 7 = x4 + (1 : Int) := w2_at hu20
          replace hF : Fr mo_X11_putBytes [] T N I J R T N I19 J R := hF.wi hu20 (fun _ _ => by rw [t_this]; rfl)
          refine q_inc (lv' := [(2, .int (II (v3_2 + (-8)))), (0, .ref a_this), (1, .int (II a_four))]) B dX11_putBytes_40 hl (k := 2) rfl (by decide) rfl (fun ls hl => ?_)
          refine lv_goto (tgt := 3) B.1 B.2.1 dX11_putBytes_43 (by decide) ?_
          have hv22 : ((-2147483648 : Int) ≤ v3_2 + (-8) ∧ (v3_2 + (-8) : Int) ≤ 2147483647) ∧ (-8 ≤ (v3_2 + (-8))) ∧ ((v3_2 + (-8)) ≤ 24) ∧ (8 * I19 a_this 7 = 8 * I a_this 7 + 24 - (v3_2 + (-8))) ∧ (0 ≤ (v3_2 + (-8)) + 8) := by first | omega | exact ⟨by first | omega | assumption | exact trivial, by first | omega | assumption | exact trivial, by first | omega | assumption | exact trivial, by first | omega | assumption | exact trivial, by first | omega | assumption | exact trivial⟩
          exact IH3 (v3_2 + (-8)) I19 _ _ ls hM hF (lv_sub hl [1, 2, 0] rfl) hv22.1 hv22.2.1 hv22.2.2.1 hv22.2.2.2.1 hv22.2.2.2.2 (by omega)
  obtain ⟨x23, e24⟩ : ∃ v, I a_this 7 = v := ⟨_, rfl⟩
  have hv25 : ((-2147483648 : Int) ≤ 24 ∧ (24 : Int) ≤ 2147483647) ∧ (-8 ≤ (24 : Int)) ∧ ((24 : Int) ≤ 24) ∧ (8 * I a_this 7 = 8 * I a_this 7 + 24 - (24 : Int)) ∧ (0 ≤ (24 : Int) + 8) := by first | omega | exact ⟨by first | omega | assumption | exact trivial, by first | omega | assumption | exact trivial, by first | omega | assumption | exact trivial, by first | omega | assumption | exact trivial, by first | omega | assumption | exact trivial⟩
  exact LL3 (Int.toNat ((24 : Int) + 8 + 1)) 24 I _ _ ls hM hF (lv_sub hl [1, 2, 0] rfl) hv25.1 hv25.2.1 hv25.2.2.1 hv25.2.2.2.1 hv25.2.2.2.2 (by omega)

def mo_X11_feed : List Nat := [1920, 71]
set_option maxHeartbeats 1000000 in
set_option maxRecDepth 20000 in
theorem k_X11_feed (l : Launch) (D : va_G) (dA : Nat → ClassId) (eA : Nat) (L : List Nat) (T N : Nat → Nat) (I : Nat → Nat → Int) (J : Nat → Nat → Int64) (R : Nat → Nat → Nat) (a_this : Nat) (t_this : T a_this = 2) (a_a : Int) (i_a : (-2147483648 : Int) ≤ a_a ∧ a_a ≤ 2147483647) (a_b : Int) (i_b : (-2147483648 : Int) ≤ a_b ∧ a_b ≤ 2147483647) (a_c : Int) (i_c : (-2147483648 : Int) ≤ a_c ∧ a_c ≤ 2147483647) (a_d : Int) (i_d : (-2147483648 : Int) ≤ a_d ∧ a_d ≤ 2147483647) (a_e : Int) (i_e : (-2147483648 : Int) ≤ a_e ∧ a_e ≤ 2147483647) : GC l yX11_feed cX11_feed 6 (some .int) ({ frames := 1, cells := 0, slots := 0, locals := 22 }) D dA eA L T N I J R [.ref a_this, .int (II a_a), .int (II a_b), .int (II a_c), .int (II a_d), .int (II a_e)] 0 0 (gI (fun r L' T' N' I' J' R' dz dl => L' = L ∧ T' = T ∧ N' = N ∧ J' = J ∧ R' = R ∧ Fr mo_X11_feed [] T N I J R T' N' I' J' R' ∧ ((I a_this 7 ≤ 2980 ∧ r = I a_this 7 + 20 ∧ I' a_this 7 = I a_this 7 + 20) ∨ (2980 < I a_this 7 ∧ r = -1 ∧ I' a_this 7 = I a_this 7)))) := by
  generalize hPST : (gI (fun r L' T' N' I' J' R' dz dl => L' = L ∧ T' = T ∧ N' = N ∧ J' = J ∧ R' = R ∧ Fr mo_X11_feed [] T N I J R T' N' I' J' R' ∧ ((I a_this 7 ≤ 2980 ∧ r = I a_this 7 + 20 ∧ I' a_this 7 = I a_this 7 + 20) ∨ (2980 < I a_this 7 ∧ r = -1 ∧ I' a_this 7 = I a_this 7)))) = PST
  refine g_enter (own := RX11) (by decide) rfl (Nat.le_of_ble_eq_true rfl) (fun p e s m args below meth c ls hm B hX hM hl => ?_)
  have hC0 := hM.2.2.2.2.2.2.1
  have hW0 := hM.2.2.2
  have hF : Fr mo_X11_feed [] T N I J R T N I J R := Fr.rf
  have hA : ∀ q, s.heap.size ≤ q → cF dA L T N I J R s.heap.size q := fun q h => Or.inr h
  have hl : lv_has ls 6 [(0, .ref a_this), (1, .int (II a_a)), (2, .int (II a_b)), (3, .int (II a_c)), (4, .int (II a_d)), (5, .int (II a_e))] := hl
  refine lv_aload_n B.1 B.2.1 dX11_feed_0 rfl (lv_at hl 0 rfl) ?_
  obtain ⟨x1, e2⟩ : ∃ v, I a_this 7 = v := ⟨_, rfl⟩
  have r3 : (0 : Int) ≤ x1 ∧ x1 ≤ 3000 := by rw [← e2]; exact g2_7 hM.2.2.2.2.2.2.1 t_this
  refine c_geti (k := 7) pk_X11 B hM t_this kd2 rfl (by decide) fl_X11_65 dX11_feed_1 e2 ?_
  refine q_sip B dX11_feed_4 (by decide) ?_
  refine q_cle (tgt := 12) B dX11_feed_7 (by decide) (by unfold inr; omega) (by unfold inr; omega) (fun c4 => ?_) (fun c4 => ?_)
  · refine lv_aload_n B.1 B.2.1 dX11_feed_12 rfl (lv_at hl 0 rfl) ?_
    refine lv_iload_n B.1 B.2.1 dX11_feed_13 rfl (lv_at hl 1 rfl) ?_
    have hv5 : ((-2147483648 : Int) ≤ a_a ∧ (a_a : Int) ≤ 2147483647) ∧ (I a_this 7 ≤ 2996) := by first | omega | exact ⟨by first | omega | assumption | exact trivial, by first | omega | assumption | exact trivial⟩
    refine z_callv hM hA (c_runV (n := 1) (as := [.int (II a_a)]) (rest := []) B hX hA hM hl.1 t_this kd2 rfl (k_X11_putBytes l D dA eA L T N I J R a_this t_this a_a hv5.1 hv5.2 _ _) ml_X11_68 nm_X11_putBytes ⟨rfl, rfl⟩ ⟨Nat.le_of_ble_eq_true rfl, Nat.le_of_ble_eq_true rfl⟩ dX11_feed_14 rfl rfl (Nat.le_of_ble_eq_true rfl) ⟨Nat.zero_le _, Nat.zero_le _⟩) (fun L8 T9 N10 I11 J12 R13 dz14 dl15 H locs hp6 hMn => ?_)
    obtain ⟨yL8, yT9, yN10, yJ12, yR13, hFc16, hp6a⟩ := hp6
    obtain rfl := yL8.symm; obtain rfl := yT9.symm; obtain rfl := yN10.symm; obtain rfl := yJ12.symm; obtain rfl := yR13.symm
    replace hF : Fr mo_X11_feed [] T N I J R T N I11 J R := hF.trans hFc16 (by decide) e20
    have hM := hMn
    clear hMn
    replace hp6a : I11 a_this 7 = I a_this 7 + 4 := hp6a
    refine lv_aload_n B.1 B.2.1 dX11_feed_17 rfl (lv_at hl 0 rfl) ?_
    refine lv_iload_n B.1 B.2.1 dX11_feed_18 rfl (lv_at hl 2 rfl) ?_
    have hv17 : ((-2147483648 : Int) ≤ a_b ∧ (a_b : Int) ≤ 2147483647) ∧ (I11 a_this 7 ≤ 2996) := by first | omega | exact ⟨by first | omega | assumption | exact trivial, by first | omega | assumption | exact trivial⟩
    refine z_callv hM hA (c_runV (n := 1) (as := [.int (II a_b)]) (rest := []) B hX hA hM hl.1 t_this kd2 rfl (k_X11_putBytes l D dA eA L T N I11 J R a_this t_this a_b hv17.1 hv17.2 _ _) ml_X11_68 nm_X11_putBytes ⟨rfl, rfl⟩ ⟨Nat.le_of_ble_eq_true rfl, Nat.le_of_ble_eq_true rfl⟩ dX11_feed_19 rfl rfl (Nat.le_of_ble_eq_true rfl) ⟨Nat.zero_le _, Nat.zero_le _⟩) (fun L20 T21 N22 I23 J24 R25 dz26 dl27 H locs hp18 hMn => ?_)
    obtain ⟨yL20, yT21, yN22, yJ24, yR25, hFc28, hp18a⟩ := hp18
    obtain rfl := yL20.symm; obtain rfl := yT21.symm; obtain rfl := yN22.symm; obtain rfl := yJ24.symm; obtain rfl := yR25.symm
    replace hF : Fr mo_X11_feed [] T N I J R T N I23 J R := hF.trans hFc28 (by decide) e20
    have hM := hMn
    clear hMn
    replace hp18a : I23 a_this 7 = I11 a_this 7 + 4 := hp18a
    refine lv_aload_n B.1 B.2.1 dX11_feed_22 rfl (lv_at hl 0 rfl) ?_
    refine lv_iload_n B.1 B.2.1 dX11_feed_23 rfl (lv_at hl 3 rfl) ?_
    have hv29 : ((-2147483648 : Int) ≤ a_c ∧ (a_c : Int) ≤ 2147483647) ∧ (I23 a_this 7 ≤ 2996) := by first | omega | exact ⟨by first | omega | assumption | exact trivial, by first | omega | assumption | exact trivial⟩
    refine z_callv hM hA (c_runV (n := 1) (as := [.int (II a_c)]) (rest := []) B hX hA hM hl.1 t_this kd2 rfl (k_X11_putBytes l D dA eA L T N I23 J R a_this t_this a_c hv29.1 hv29.2 _ _) ml_X11_68 nm_X11_putBytes ⟨rfl, rfl⟩ ⟨Nat.le_of_ble_eq_true rfl, Nat.le_of_ble_eq_true rfl⟩ dX11_feed_24 rfl rfl (Nat.le_of_ble_eq_true rfl) ⟨Nat.zero_le _, Nat.zero_le _⟩) (fun L32 T33 N34 I35 J36 R37 dz38 dl39 H locs hp30 hMn => ?_)
    obtain ⟨yL32, yT33, yN34, yJ36, yR37, hFc40, hp30a⟩ := hp30
    obtain rfl := yL32.symm; obtain rfl := yT33.symm; obtain rfl := yN34.symm; obtain rfl := yJ36.symm; obtain rfl := yR37.symm
    replace hF : Fr mo_X11_feed [] T N I J R T N I35 J R := hF.trans hFc40 (by decide) e20
    have hM := hMn
    clear hMn
    replace hp30a : I35 a_this 7 = I23 a_this 7 + 4 := hp30a
    refine lv_aload_n B.1 B.2.1 dX11_feed_27 rfl (lv_at hl 0 rfl) ?_
    refine lv_iload B.1 B.2.1 dX11_feed_28 (lv_at hl 4 rfl) ?_
    have hv41 : ((-2147483648 : Int) ≤ a_d ∧ (a_d : Int) ≤ 2147483647) ∧ (I35 a_this 7 ≤ 2996) := by first | omega | exact ⟨by first | omega | assumption | exact trivial, by first | omega | assumption | exact trivial⟩
    refine z_callv hM hA (c_runV (n := 1) (as := [.int (II a_d)]) (rest := []) B hX hA hM hl.1 t_this kd2 rfl (k_X11_putBytes l D dA eA L T N I35 J R a_this t_this a_d hv41.1 hv41.2 _ _) ml_X11_68 nm_X11_putBytes ⟨rfl, rfl⟩ ⟨Nat.le_of_ble_eq_true rfl, Nat.le_of_ble_eq_true rfl⟩ dX11_feed_30 rfl rfl (Nat.le_of_ble_eq_true rfl) ⟨Nat.zero_le _, Nat.zero_le _⟩) (fun L44 T45 N46 I47 J48 R49 dz50 dl51 H locs hp42 hMn => ?_)
    obtain ⟨yL44, yT45, yN46, yJ48, yR49, hFc52, hp42a⟩ := hp42
    obtain rfl := yL44.symm; obtain rfl := yT45.symm; obtain rfl := yN46.symm; obtain rfl := yJ48.symm; obtain rfl := yR49.symm
    replace hF : Fr mo_X11_feed [] T N I J R T N I47 J R := hF.trans hFc52 (by decide) e20
    have hM := hMn
    clear hMn
    replace hp42a : I47 a_this 7 = I35 a_this 7 + 4 := hp42a
    refine lv_aload_n B.1 B.2.1 dX11_feed_33 rfl (lv_at hl 0 rfl) ?_
    refine lv_iload B.1 B.2.1 dX11_feed_34 (lv_at hl 5 rfl) ?_
    have hv53 : ((-2147483648 : Int) ≤ a_e ∧ (a_e : Int) ≤ 2147483647) ∧ (I47 a_this 7 ≤ 2996) := by first | omega | exact ⟨by first | omega | assumption | exact trivial, by first | omega | assumption | exact trivial⟩
    refine z_callv hM hA (c_runV (n := 1) (as := [.int (II a_e)]) (rest := []) B hX hA hM hl.1 t_this kd2 rfl (k_X11_putBytes l D dA eA L T N I47 J R a_this t_this a_e hv53.1 hv53.2 _ _) ml_X11_68 nm_X11_putBytes ⟨rfl, rfl⟩ ⟨Nat.le_of_ble_eq_true rfl, Nat.le_of_ble_eq_true rfl⟩ dX11_feed_36 rfl rfl (Nat.le_of_ble_eq_true rfl) ⟨Nat.zero_le _, Nat.zero_le _⟩) (fun L56 T57 N58 I59 J60 R61 dz62 dl63 H locs hp54 hMn => ?_)
    obtain ⟨yL56, yT57, yN58, yJ60, yR61, hFc64, hp54a⟩ := hp54
    obtain rfl := yL56.symm; obtain rfl := yT57.symm; obtain rfl := yN58.symm; obtain rfl := yJ60.symm; obtain rfl := yR61.symm
    replace hF : Fr mo_X11_feed [] T N I J R T N I59 J R := hF.trans hFc64 (by decide) e20
    have hM := hMn
    clear hMn
    replace hp54a : I59 a_this 7 = I47 a_this 7 + 4 := hp54a
    refine lv_aload_n B.1 B.2.1 dX11_feed_39 rfl (lv_at hl 0 rfl) ?_
    have r65 : (0 : Int) ≤ I47 a_this 7 + 4 ∧ I47 a_this 7 + 4 ≤ 3000 := by rw [← hp54a]; exact g2_7 hM.2.2.2.2.2.2.1 t_this
    refine c_geti (k := 7) pk_X11 B hM t_this kd2 rfl (by decide) fl_X11_65 dX11_feed_40 hp54a ?_
    refine g_iret B hM dX11_feed_43 ⟨Nat.le_refl _, Nat.le_refl _⟩ ?_
    rw [← hPST]
    exact ⟨(I47 a_this 7 + 4), rfl, by omega, rfl, rfl, rfl, rfl, rfl, hF, by first | omega | assumption | exact trivial⟩
  · refine q_con B dX11_feed_10 ?_
    refine g_iret B hM dX11_feed_11 ⟨Nat.le_refl _, Nat.le_refl _⟩ ?_
    rw [← hPST]
    exact ⟨(-1), rfl, by omega, rfl, rfl, rfl, rfl, rfl, hF, by first | omega | assumption | exact trivial⟩
