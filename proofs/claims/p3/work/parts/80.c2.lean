set_option maxHeartbeats 200000000 in
set_option maxRecDepth 20000 in
theorem k_X0_builtIn (l : Launch) (D : va_G) (dA : Nat → ClassId) (eA : Nat) (L : List Nat) (T N : Nat → Nat) (I : Nat → Nat → Int) (J : Nat → Nat → Int64) (R : Nat → Nat → Nat) (a_name : Int64) : PC l yX0_builtIn cX0_builtIn 3 (some .int) ({ frames := 0, cells := 0, slots := 0, locals := 0 }) D dA eA L T N I J R [.long a_name] (rI (fun r => 0 ≤ r ∧ r ≤ 8)) := by
  generalize hPST : (rI (fun r => 0 ≤ r ∧ r ≤ 8)) = PST
  refine p_enter (own := RX0) (by decide) rfl (Nat.le_of_ble_eq_true rfl) (fun p e s m args below meth c ls B hX hM hl => ?_)
  have hA : ∀ q, s.heap.size ≤ q → cF dA L T N I J R s.heap.size q := fun q h => Or.inr h
  have hl : lv_has ls 3 [(0, .long a_name)] := hl
  refine q_con B dX0_builtIn_0 ?_
  refine lv_istore_n (lv' := [(2, .int (II 0)), (0, .long a_name)]) B.1 B.2.1 dX0_builtIn_1 rfl hl (by decide) rfl (fun ls hl => ?_)
  have LL2 : ∀ NN : Nat, ∀ (v2_2 : Int) (ls : Array Slot), lv_has ls 3 [(0, .long a_name), (2, .int (II v2_2))] → ((-2147483648 : Int) ≤ v2_2 ∧ v2_2 ≤ 2147483647) → (0 ≤ v2_2) → (0 ≤ 8 - v2_2) → (8 - v2_2 < (NN : Int)) → W p l e ({ frames := 0, cells := 0, slots := 0, locals := 0 }) s m args below meth c s.heap [] 0 0 (MQ below (pQ PST) args s 0 0 (fun _ => False)) (F0 m 2 ls []) := by
    intro NN
    induction NN with
    | zero => intro v2_2 ls hl hLL2_0 hLL2_1 hLL2_2 hN; exfalso; omega
    | succ NN IH2 =>
      intro v2_2 ls hl hLL2_0 hLL2_1 hLL2_2 hN
      refine lv_iload_n B.1 B.2.1 dX0_builtIn_2 rfl (lv_at hl 1 rfl) ?_
      obtain ⟨fw1, aw2, hz3, ht4⟩ := hX.2.2.2.2.1
      refine va_getsN B.1 B.2.1 hz3 hM.2.2.1 B.2.2.2.1 (va_Nw.use rfl hX.2.2.2.2.2.2.2.2.1.2.1) (fun _ h => h) dX0_builtIn_3 ?_
      refine c_slen B ht4 hM.2.2.1 (by decide) dX0_builtIn_6 ?_
      refine q_cge (tgt := 30) B dX0_builtIn_7 (by decide) (by unfold inr; omega) (by unfold inr; omega) (fun c5 => ?_) (fun c5 => ?_)
      · refine q_con B dX0_builtIn_30 ?_
        refine p_iret B dX0_builtIn_31 ?_
        rw [← hPST]
        exact ⟨(0), rfl, by omega, by first | omega | assumption | exact trivial, by first | omega | assumption | exact trivial⟩
      · obtain ⟨fw6, aw7, hz8, ht9⟩ := hX.2.2.2.2.1
        refine va_getsN B.1 B.2.1 hz8 hM.2.2.1 B.2.2.2.1 (va_Nw.use rfl hX.2.2.2.2.2.2.2.2.1.2.1) (fun _ h => h) dX0_builtIn_10 ?_
        refine lv_iload_n B.1 B.2.1 dX0_builtIn_13 rfl (lv_at hl 1 rfl) ?_
        refine c_slld B ht9 hM.2.2.1 (by omega) (by omega) (by decide) dX0_builtIn_14 (fun w10 => ?_)
        refine lv_lload_n B.1 B.2.1 dX0_builtIn_15 rfl (lv_at hl 0 rfl) ?_
        refine q_lcmp B dX0_builtIn_16 (fun x11 lx11 ux11 ex11 => ?_)
        refine q_ine (tgt := 24) B dX0_builtIn_17 (by decide) (by unfold inr; omega) (fun c12 => ?_) (fun c12 => ?_)
        · refine q_inc (lv' := [(2, .int (II (v2_2 + 1))), (0, .long a_name)]) B dX0_builtIn_24 hl (k := 1) rfl (by decide) rfl (fun ls hl => ?_)
          refine lv_goto (tgt := 2) B.1 B.2.1 dX0_builtIn_27 (by decide) ?_
          have hv13 : ((-2147483648 : Int) ≤ v2_2 + 1 ∧ (v2_2 + 1 : Int) ≤ 2147483647) ∧ (0 ≤ (v2_2 + 1)) ∧ (0 ≤ 8 - (v2_2 + 1)) := by first | omega | exact ⟨by first | omega | assumption | exact trivial, by first | omega | assumption | exact trivial, by first | omega | assumption | exact trivial⟩
          exact IH2 (v2_2 + 1) ls (lv_sub hl [1, 0] rfl) hv13.1 hv13.2.1 hv13.2.2 (by omega)
        · refine lv_iload_n B.1 B.2.1 dX0_builtIn_20 rfl (lv_at hl 1 rfl) ?_
          refine q_con B dX0_builtIn_21 ?_
          refine q_add B dX0_builtIn_22 ?_
          refine p_iret B dX0_builtIn_23 ?_
          rw [← hPST]
          exact ⟨(v2_2 + (1 : Int)), rfl, by omega, by first | omega | assumption | exact trivial, by first | omega | assumption | exact trivial⟩
  have hv14 : ((-2147483648 : Int) ≤ 0 ∧ (0 : Int) ≤ 2147483647) ∧ (0 ≤ (0 : Int)) ∧ (0 ≤ 8 - (0 : Int)) := by first | omega | exact ⟨by first | omega | assumption | exact trivial, by first | omega | assumption | exact trivial, by first | omega | assumption | exact trivial⟩
  exact LL2 (Int.toNat (8 - (0 : Int) + 1)) 0 ls (lv_sub hl [1, 0] rfl) hv14.1 hv14.2.1 hv14.2.2 (by omega)

set_option maxHeartbeats 200000000 in
set_option maxRecDepth 20000 in
theorem k_X0_kindAt (l : Launch) (D : va_G) (dA : Nat → ClassId) (eA : Nat) (L : List Nat) (T N : Nat → Nat) (I : Nat → Nat → Int) (J : Nat → Nat → Int64) (R : Nat → Nat → Nat) (a_this : Nat) (t_this : T a_this = 6) (a_i : Int) (i_i : (-2147483648 : Int) ≤ a_i ∧ a_i ≤ 2147483647) : PC l yX0_kindAt cX0_kindAt 2 (some (.object "CustomsDesk$Kind")) ({ frames := 3, cells := 0, slots := 0, locals := 81 }) D dA eA L T N I J R [.ref a_this, .int (II a_i)] (rQ (fun r => (r = 0 ∨ ∃ b, r = b + 1 ∧ T b = 11) ∧ (r = 0 ∨ (0 ≤ a_i ∧ I (r - 1) 0 ≤ a_i)))) := by
  generalize hPST : (rQ (fun r => (r = 0 ∨ ∃ b, r = b + 1 ∧ T b = 11) ∧ (r = 0 ∨ (0 ≤ a_i ∧ I (r - 1) 0 ≤ a_i)))) = PST
  refine p_enter (own := RX0) (by decide) rfl (Nat.le_of_ble_eq_true rfl) (fun p e s m args below meth c ls B hX hM hl => ?_)
  have hA : ∀ q, s.heap.size ≤ q → cF dA L T N I J R s.heap.size q := fun q h => Or.inr h
  have hl : lv_has ls 2 [(0, .ref a_this), (1, .int (II a_i))] := hl
  refine lv_iload_n B.1 B.2.1 dX0_kindAt_0 rfl (lv_at hl 1 rfl) ?_
  refine q_ilt (tgt := 29) B dX0_kindAt_1 (by decide) (by unfold inr; omega) (fun c1 => ?_) (fun c1 => ?_)
  · refine lv_null B.1 B.2.1 dX0_kindAt_29 ?_
    refine p_aret (v := 0) B (Or.inl ⟨_, rfl⟩) dX0_kindAt_30 rfl ?_
    rw [← hPST]
    exact ⟨0, rfl, Or.inl rfl, by exact Or.inl rfl⟩
  · refine lv_iload_n B.1 B.2.1 dX0_kindAt_4 rfl (lv_at hl 1 rfl) ?_
    refine lv_aload_n B.1 B.2.1 dX0_kindAt_5 rfl (lv_at hl 0 rfl) ?_
    obtain ⟨b2, e3, t4⟩ := g6_3 hM.2.2.2.2.2.2.1 t_this
    refine c_getn (k := 3) pk_X0 B hM t_this kd6 rfl (by decide) fl_X0_24 dX0_kindAt_6 e3 ?_
    have hv5 : (15 ≤ 18) ∧ (18 ≤ 23) := by first | omega | exact ⟨by first | omega | assumption | exact trivial, by first | omega | assumption | exact trivial⟩
    refine p_calli (c_runV (n := 0) (as := []) (rest := [.int (II a_i)]) B hX hA hM hl.1 t4 kd18 rfl (k_Jx4a65c_size_8abf5 l D dA eA L T N I J R b2 t4 hv5.1 hv5.2 _ _) ml_X0_70 nm_Jx4a65c_size_8abf5 ⟨rfl, rfl⟩ ⟨Nat.le_of_ble_eq_true rfl, Nat.le_of_ble_eq_true rfl⟩ dX0_kindAt_9 rfl rfl (Nat.le_of_ble_eq_true rfl) ⟨Nat.zero_le _, Nat.zero_le _⟩) (fun x7 ix7 hp6 => ?_)
    have hp6a := hp6
    replace hp6a : I b2 2 = x7 ∧ 0 ≤ x7 ∧ x7 ≤ 16 := hp6a
    obtain ⟨hp6a_0, hp6a_1, hp6a_2⟩ := hp6a
    refine q_cge (tgt := 29) B dX0_kindAt_12 (by decide) (by unfold inr; omega) (by unfold inr; omega) (fun c8 => ?_) (fun c8 => ?_)
    · refine lv_null B.1 B.2.1 dX0_kindAt_29 ?_
      refine p_aret (v := 0) B (Or.inl ⟨_, rfl⟩) dX0_kindAt_30 rfl ?_
      rw [← hPST]
      exact ⟨0, rfl, Or.inl rfl, by exact Or.inl rfl⟩
    · refine lv_aload_n B.1 B.2.1 dX0_kindAt_15 rfl (lv_at hl 0 rfl) ?_
      refine c_getn (k := 3) pk_X0 B hM t_this kd6 rfl (by decide) fl_X0_24 dX0_kindAt_16 e3 ?_
      refine lv_iload_n B.1 B.2.1 dX0_kindAt_19 rfl (lv_at hl 1 rfl) ?_
      have hv9 : ((-2147483648 : Int) ≤ a_i ∧ (a_i : Int) ≤ 2147483647) ∧ (15 ≤ 18) ∧ (18 ≤ 23) ∧ (0 ≤ a_i) ∧ (a_i < I b2 2) := by first | omega | exact ⟨by first | omega | assumption | exact trivial, by first | omega | assumption | exact trivial, by first | omega | assumption | exact trivial, by first | omega | assumption | exact trivial, by first | omega | assumption | exact trivial⟩
      refine p_callr (c_runV (n := 1) (as := [.int (II a_i)]) (rest := []) B hX hA hM hl.1 t4 kd18 rfl (k_Jx4a65c_get_915e3 l D dA eA L T N I J R b2 t4 a_i hv9.1 hv9.2.1 hv9.2.2.1 hv9.2.2.2.1 hv9.2.2.2.2 _ _) ml_X0_74 nm_Jx4a65c_get_915e3 ⟨rfl, rfl⟩ ⟨Nat.le_of_ble_eq_true rfl, Nat.le_of_ble_eq_true rfl⟩ dX0_kindAt_20 rfl rfl (Nat.le_of_ble_eq_true rfl) ⟨Nat.zero_le _, Nat.zero_le _⟩) (fun b11 hp10 => ?_)
      obtain ⟨tb11, hp10a⟩ := hp10
      replace hp10a : R (R b2 1 - 1) a_i.toNat = b11 + 1 := hp10a
      refine c_cast B hM tb11 kd11 rfl cl_X0_78 dX0_kindAt_23 ?_
      refine lv_goto (tgt := 30) B.1 B.2.1 dX0_kindAt_26 (by decide) ?_
      refine p_aret (v := b11 + 1) B (Or.inl ⟨_, rfl⟩) dX0_kindAt_30 rfl ?_
      rw [← hPST]
      exact ⟨b11 + 1, rfl, Or.inr ⟨_, rfl, tb11⟩, by exact Or.inr ⟨by omega, by rw [Nat.add_sub_cancel]; exact gp4 hM.2.2.2.2.2.2.2 t4 (by omega) (by omega) (by assumption)⟩⟩

set_option maxHeartbeats 200000000 in
set_option maxRecDepth 20000 in
theorem k_X0_ruleAt (l : Launch) (D : va_G) (dA : Nat → ClassId) (eA : Nat) (L : List Nat) (T N : Nat → Nat) (I : Nat → Nat → Int) (J : Nat → Nat → Int64) (R : Nat → Nat → Nat) (a_this : Nat) (t_this : T a_this = 6) (a_i : Int) (i_i : (-2147483648 : Int) ≤ a_i ∧ a_i ≤ 2147483647) : PC l yX0_ruleAt cX0_ruleAt 2 (some (.object "CustomsDesk$Rule")) ({ frames := 3, cells := 0, slots := 0, locals := 81 }) D dA eA L T N I J R [.ref a_this, .int (II a_i)] (rQ (fun r => (r = 0 ∨ ∃ b, r = b + 1 ∧ T b = 8) ∧ (r = 0 ∨ (0 ≤ a_i ∧ a_i < I (R a_this 0 - 1) 2 ∧ R (R (R a_this 0 - 1) 1 - 1) a_i.toNat = r)))) := by
  generalize hPST : (rQ (fun r => (r = 0 ∨ ∃ b, r = b + 1 ∧ T b = 8) ∧ (r = 0 ∨ (0 ≤ a_i ∧ a_i < I (R a_this 0 - 1) 2 ∧ R (R (R a_this 0 - 1) 1 - 1) a_i.toNat = r)))) = PST
  refine p_enter (own := RX0) (by decide) rfl (Nat.le_of_ble_eq_true rfl) (fun p e s m args below meth c ls B hX hM hl => ?_)
  have hA : ∀ q, s.heap.size ≤ q → cF dA L T N I J R s.heap.size q := fun q h => Or.inr h
  have hl : lv_has ls 2 [(0, .ref a_this), (1, .int (II a_i))] := hl
  refine lv_iload_n B.1 B.2.1 dX0_ruleAt_0 rfl (lv_at hl 1 rfl) ?_
  refine q_ilt (tgt := 29) B dX0_ruleAt_1 (by decide) (by unfold inr; omega) (fun c1 => ?_) (fun c1 => ?_)
  · refine lv_null B.1 B.2.1 dX0_ruleAt_29 ?_
    obtain ⟨v2, e3⟩ : ∃ v, R a_this 0 = v := ⟨_, rfl⟩
    refine p_aret (v := 0) B (Or.inl ⟨_, rfl⟩) dX0_ruleAt_30 rfl ?_
    rw [← hPST]
    exact ⟨0, rfl, Or.inl rfl, by exact Or.inl rfl⟩
  · refine lv_iload_n B.1 B.2.1 dX0_ruleAt_4 rfl (lv_at hl 1 rfl) ?_
    refine lv_aload_n B.1 B.2.1 dX0_ruleAt_5 rfl (lv_at hl 0 rfl) ?_
    obtain ⟨b4, e5, t6⟩ := g6_0 hM.2.2.2.2.2.2.1 t_this
    refine c_getn (k := 0) pk_X0 B hM t_this kd6 rfl (by decide) fl_X0_12 dX0_ruleAt_6 e5 ?_
    have hv7 : (15 ≤ 15) ∧ (15 ≤ 23) := by first | omega | exact ⟨by first | omega | assumption | exact trivial, by first | omega | assumption | exact trivial⟩
    refine p_calli (c_runV (n := 0) (as := []) (rest := [.int (II a_i)]) B hX hA hM hl.1 t6 kd15 rfl (k_Jx4a65c_size_8abf5 l D dA eA L T N I J R b4 t6 hv7.1 hv7.2 _ _) ml_X0_70 nm_Jx4a65c_size_8abf5 ⟨rfl, rfl⟩ ⟨Nat.le_of_ble_eq_true rfl, Nat.le_of_ble_eq_true rfl⟩ dX0_ruleAt_9 rfl rfl (Nat.le_of_ble_eq_true rfl) ⟨Nat.zero_le _, Nat.zero_le _⟩) (fun x9 ix9 hp8 => ?_)
    have hp8a := hp8
    replace hp8a : I b4 2 = x9 ∧ 0 ≤ x9 ∧ x9 ≤ 16 := hp8a
    obtain ⟨hp8a_0, hp8a_1, hp8a_2⟩ := hp8a
    refine q_cge (tgt := 29) B dX0_ruleAt_12 (by decide) (by unfold inr; omega) (by unfold inr; omega) (fun c10 => ?_) (fun c10 => ?_)
    · refine lv_null B.1 B.2.1 dX0_ruleAt_29 ?_
      have pq11 : I (R a_this 0 - 1) 2 = I b4 2 := by rw [e5, Nat.add_sub_cancel]
      have pq12 : R (R a_this 0 - 1) 1 = R b4 1 := by rw [e5, Nat.add_sub_cancel]
      refine p_aret (v := 0) B (Or.inl ⟨_, rfl⟩) dX0_ruleAt_30 rfl ?_
      rw [← hPST]
      exact ⟨0, rfl, Or.inl rfl, by exact Or.inl rfl⟩
    · refine lv_aload_n B.1 B.2.1 dX0_ruleAt_15 rfl (lv_at hl 0 rfl) ?_
      refine c_getn (k := 0) pk_X0 B hM t_this kd6 rfl (by decide) fl_X0_12 dX0_ruleAt_16 e5 ?_
      refine lv_iload_n B.1 B.2.1 dX0_ruleAt_19 rfl (lv_at hl 1 rfl) ?_
      have hv13 : ((-2147483648 : Int) ≤ a_i ∧ (a_i : Int) ≤ 2147483647) ∧ (15 ≤ 15) ∧ (15 ≤ 23) ∧ (0 ≤ a_i) ∧ (a_i < I b4 2) := by first | omega | exact ⟨by first | omega | assumption | exact trivial, by first | omega | assumption | exact trivial, by first | omega | assumption | exact trivial, by first | omega | assumption | exact trivial, by first | omega | assumption | exact trivial⟩
      refine p_callr (c_runV (n := 1) (as := [.int (II a_i)]) (rest := []) B hX hA hM hl.1 t6 kd15 rfl (k_Jx4a65c_get_915e3 l D dA eA L T N I J R b4 t6 a_i hv13.1 hv13.2.1 hv13.2.2.1 hv13.2.2.2.1 hv13.2.2.2.2 _ _) ml_X0_74 nm_Jx4a65c_get_915e3 ⟨rfl, rfl⟩ ⟨Nat.le_of_ble_eq_true rfl, Nat.le_of_ble_eq_true rfl⟩ dX0_ruleAt_20 rfl rfl (Nat.le_of_ble_eq_true rfl) ⟨Nat.zero_le _, Nat.zero_le _⟩) (fun b15 hp14 => ?_)
      obtain ⟨tb15, hp14a⟩ := hp14
      replace hp14a : R (R b4 1 - 1) a_i.toNat = b15 + 1 := hp14a
      refine c_cast B hM tb15 kd8 rfl cl_X0_80 dX0_ruleAt_23 ?_
      refine lv_goto (tgt := 30) B.1 B.2.1 dX0_ruleAt_26 (by decide) ?_
      have pq16 : I (R a_this 0 - 1) 2 = I b4 2 := by rw [e5, Nat.add_sub_cancel]
      have pq17 : R (R a_this 0 - 1) 1 = R b4 1 := by rw [e5, Nat.add_sub_cancel]
      refine p_aret (v := b15 + 1) B (Or.inl ⟨_, rfl⟩) dX0_ruleAt_30 rfl ?_
      rw [← hPST]
      exact ⟨b15 + 1, rfl, Or.inr ⟨_, rfl, tb15⟩, by exact Or.inr ⟨by omega, by omega, by rw [e5, Nat.add_sub_cancel]; assumption⟩⟩

set_option maxHeartbeats 200000000 in
set_option maxRecDepth 20000 in
theorem k_X3_isOf (l : Launch) (D : va_G) (dA : Nat → ClassId) (eA : Nat) (L : List Nat) (T N : Nat → Nat) (I : Nat → Nat → Int) (J : Nat → Nat → Int64) (R : Nat → Nat → Nat) (a_this : Nat) (t_this : T a_this = 11) (a_o : Int) (i_o : (-2147483648 : Int) ≤ a_o ∧ a_o ≤ 2147483647) : PC l yX3_isOf cX3_isOf 3 (some .boolean) ({ frames := 0, cells := 0, slots := 0, locals := 0 }) D dA eA L T N I J R [.ref a_this, .int (II a_o)] (rI (fun r => (0 : Int) ≤ r ∧ r ≤ 1 ∧ (True))) := by
  generalize hPST : (rI (fun r => (0 : Int) ≤ r ∧ r ≤ 1 ∧ (True))) = PST
  refine p_enter (own := RX3) (by decide) rfl (Nat.le_of_ble_eq_true rfl) (fun p e s m args below meth c ls B hX hM hl => ?_)
  have hA : ∀ q, s.heap.size ≤ q → cF dA L T N I J R s.heap.size q := fun q h => Or.inr h
  have hl : lv_has ls 3 [(0, .ref a_this), (1, .int (II a_o))] := hl
  refine q_con B dX3_isOf_0 ?_
  refine lv_istore_n (lv' := [(2, .int (II 0)), (0, .ref a_this), (1, .int (II a_o))]) B.1 B.2.1 dX3_isOf_1 rfl hl (by decide) rfl (fun ls hl => ?_)
  have LL2 : ∀ NN : Nat, ∀ (v2_2 : Int) (ls : Array Slot), lv_has ls 3 [(0, .ref a_this), (1, .int (II a_o)), (2, .int (II v2_2))] → ((-2147483648 : Int) ≤ v2_2 ∧ v2_2 ≤ 2147483647) → (0 ≤ v2_2) → (v2_2 ≤ 16) → (0 ≤ 16 - v2_2) → (16 - v2_2 < (NN : Int)) → W p l e ({ frames := 0, cells := 0, slots := 0, locals := 0 }) s m args below meth c s.heap [] 0 0 (MQ below (pQ PST) args s 0 0 (fun _ => False)) (F0 m 2 ls []) := by
    intro NN
    induction NN with
    | zero => intro v2_2 ls hl hLL2_0 hLL2_1 hLL2_2 hLL2_3 hN; exfalso; omega
    | succ NN IH2 =>
      intro v2_2 ls hl hLL2_0 hLL2_1 hLL2_2 hLL2_3 hN
      refine lv_iload_n B.1 B.2.1 dX3_isOf_2 rfl (lv_at hl 2 rfl) ?_
      refine lv_aload_n B.1 B.2.1 dX3_isOf_3 rfl (lv_at hl 0 rfl) ?_
      obtain ⟨b1, e2, t3⟩ := g11_2 hM.2.2.2.2.2.2.1 t_this
      refine c_getn (k := 2) pk_X3 B hM t_this kd11 rfl (by decide) fl_X3_34 dX3_isOf_4 e2 ?_
      have n4 : 1 ≤ N b1 ∧ N b1 ≤ 16 := gn78 hM.2.2.2.2.2.2.1 t3
      refine c_len B hM t3 kd78 (by decide) dX3_isOf_7 rfl ?_
      refine q_cge (tgt := 29) B dX3_isOf_8 (by decide) (by unfold inr; omega) (by unfold inr; omega) (fun c5 => ?_) (fun c5 => ?_)
      · refine q_con B dX3_isOf_29 ?_
        refine p_zret B dX3_isOf_30 (by omega) (by omega) ?_
        rw [← hPST]
        exact ⟨(0), rfl, by omega, by omega, by omega, by first | omega | assumption | exact trivial⟩
      · refine lv_aload_n B.1 B.2.1 dX3_isOf_11 rfl (lv_at hl 0 rfl) ?_
        refine c_getn (k := 2) pk_X3 B hM t_this kd11 rfl (by decide) fl_X3_34 dX3_isOf_12 e2 ?_
        refine lv_iload_n B.1 B.2.1 dX3_isOf_15 rfl (lv_at hl 2 rfl) ?_
        obtain ⟨x6, e7⟩ : ∃ v, I b1 v2_2.toNat = v := ⟨_, rfl⟩
        have r8 : (-2147483648 : Int) ≤ x6 ∧ x6 ≤ 2147483647 := by rw [← e7]; exact ga78 hM.2.2.2.2.2.2.1 t3 (by omega)
        refine c_ild B hM t3 kd78 (by decide) dX3_isOf_16 (by omega) (by omega) e7 ?_
        refine lv_iload_n B.1 B.2.1 dX3_isOf_17 rfl (lv_at hl 1 rfl) ?_
        refine q_cne (tgt := 23) B dX3_isOf_18 (by decide) (by unfold inr; omega) (by unfold inr; omega) (fun c9 => ?_) (fun c9 => ?_)
        · refine q_inc (lv' := [(2, .int (II (v2_2 + 1))), (0, .ref a_this), (1, .int (II a_o))]) B dX3_isOf_23 hl (k := 2) rfl (by decide) rfl (fun ls hl => ?_)
          refine lv_goto (tgt := 2) B.1 B.2.1 dX3_isOf_26 (by decide) ?_
          have hv10 : ((-2147483648 : Int) ≤ v2_2 + 1 ∧ (v2_2 + 1 : Int) ≤ 2147483647) ∧ (0 ≤ (v2_2 + 1)) ∧ ((v2_2 + 1) ≤ 16) ∧ (0 ≤ 16 - (v2_2 + 1)) := by first | omega | exact ⟨by first | omega | assumption | exact trivial, by first | omega | assumption | exact trivial, by first | omega | assumption | exact trivial, by first | omega | assumption | exact trivial⟩
          exact IH2 (v2_2 + 1) ls (lv_sub hl [1, 2, 0] rfl) hv10.1 hv10.2.1 hv10.2.2.1 hv10.2.2.2 (by omega)
        · refine q_con B dX3_isOf_21 ?_
          refine p_zret B dX3_isOf_22 (by omega) (by omega) ?_
          rw [← hPST]
          exact ⟨(1), rfl, by omega, by omega, by omega, by first | omega | assumption | exact trivial⟩
  have hv11 : ((-2147483648 : Int) ≤ 0 ∧ (0 : Int) ≤ 2147483647) ∧ (0 ≤ (0 : Int)) ∧ ((0 : Int) ≤ 16) ∧ (0 ≤ 16 - (0 : Int)) := by first | omega | exact ⟨by first | omega | assumption | exact trivial, by first | omega | assumption | exact trivial, by first | omega | assumption | exact trivial, by first | omega | assumption | exact trivial⟩
  exact LL2 (Int.toNat (16 - (0 : Int) + 1)) 0 ls (lv_sub hl [1, 2, 0] rfl) hv11.1 hv11.2.1 hv11.2.2.1 hv11.2.2.2 (by omega)

set_option maxHeartbeats 200000000 in
set_option maxRecDepth 20000 in
theorem k_X3_find (l : Launch) (D : va_G) (dA : Nat → ClassId) (eA : Nat) (L : List Nat) (T N : Nat → Nat) (I : Nat → Nat → Int) (J : Nat → Nat → Int64) (R : Nat → Nat → Nat) (a_this : Nat) (t_this : T a_this = 11) (a_name : Int64) : PC l yX3_find cX3_find 4 (some .int) ({ frames := 3, cells := 0, slots := 0, locals := 81 }) D dA eA L T N I J R [.ref a_this, .long a_name] (rI (fun r => r = -1 ∨ (0 ≤ r ∧ r < I (R a_this 3 - 1) 2))) := by
  generalize hPST : (rI (fun r => r = -1 ∨ (0 ≤ r ∧ r < I (R a_this 3 - 1) 2))) = PST
  refine p_enter (own := RX3) (by decide) rfl (Nat.le_of_ble_eq_true rfl) (fun p e s m args below meth c ls B hX hM hl => ?_)
  have hA : ∀ q, s.heap.size ≤ q → cF dA L T N I J R s.heap.size q := fun q h => Or.inr h
  have hl : lv_has ls 4 [(0, .ref a_this), (1, .long a_name)] := hl
  refine q_con B dX3_find_0 ?_
  refine lv_istore_n (lv' := [(3, .int (II 0)), (0, .ref a_this), (1, .long a_name)]) B.1 B.2.1 dX3_find_1 rfl hl (by decide) rfl (fun ls hl => ?_)
  have LL2 : ∀ NN : Nat, ∀ (v2_3 : Int) (ls : Array Slot), lv_has ls 4 [(0, .ref a_this), (1, .long a_name), (3, .int (II v2_3))] → ((-2147483648 : Int) ≤ v2_3 ∧ v2_3 ≤ 2147483647) → (0 ≤ v2_3) → (v2_3 ≤ 12) → (0 ≤ 12 - v2_3) → (12 - v2_3 < (NN : Int)) → W p l e ({ frames := 3, cells := 0, slots := 0, locals := 81 }) s m args below meth c s.heap [] 0 0 (MQ below (pQ PST) args s 0 0 (fun _ => False)) (F0 m 2 ls []) := by
    intro NN
    induction NN with
    | zero => intro v2_3 ls hl hLL2_0 hLL2_1 hLL2_2 hLL2_3 hN; exfalso; omega
    | succ NN IH2 =>
      intro v2_3 ls hl hLL2_0 hLL2_1 hLL2_2 hLL2_3 hN
      refine lv_iload_n B.1 B.2.1 dX3_find_2 rfl (lv_at hl 2 rfl) ?_
      refine lv_aload_n B.1 B.2.1 dX3_find_3 rfl (lv_at hl 0 rfl) ?_
      obtain ⟨b1, e2, t3⟩ := g11_3 hM.2.2.2.2.2.2.1 t_this
      refine c_getn (k := 3) pk_X3 B hM t_this kd11 rfl (by decide) fl_X3_18 dX3_find_4 e2 ?_
      have hv4 : (15 ≤ 19) ∧ (19 ≤ 23) := by first | omega | exact ⟨by first | omega | assumption | exact trivial, by first | omega | assumption | exact trivial⟩
      refine p_calli (c_runV (n := 0) (as := []) (rest := [.int (II v2_3)]) B hX hA hM hl.1 t3 kd19 rfl (k_Jx4a65c_size_8abf5 l D dA eA L T N I J R b1 t3 hv4.1 hv4.2 _ _) ml_X3_44 nm_Jx4a65c_size_8abf5 ⟨rfl, rfl⟩ ⟨Nat.le_of_ble_eq_true rfl, Nat.le_of_ble_eq_true rfl⟩ dX3_find_7 rfl rfl (Nat.le_of_ble_eq_true rfl) ⟨Nat.zero_le _, Nat.zero_le _⟩) (fun x6 ix6 hp5 => ?_)
      have hp5a := hp5
      replace hp5a : I b1 2 = x6 ∧ 0 ≤ x6 ∧ x6 ≤ 12 := hp5a
      obtain ⟨hp5a_0, hp5a_1, hp5a_2⟩ := hp5a
      refine q_cge (tgt := 40) B dX3_find_10 (by decide) (by unfold inr; omega) (by unfold inr; omega) (fun c7 => ?_) (fun c7 => ?_)
      · refine q_con B dX3_find_40 ?_
        have pq8 : I (R a_this 3 - 1) 2 = I b1 2 := by rw [e2, Nat.add_sub_cancel]
        refine p_iret B dX3_find_41 ?_
        rw [← hPST]
        exact ⟨(-1), rfl, by omega, by first | omega | assumption | exact trivial⟩
      · refine lv_aload_n B.1 B.2.1 dX3_find_13 rfl (lv_at hl 0 rfl) ?_
        refine c_getn (k := 3) pk_X3 B hM t_this kd11 rfl (by decide) fl_X3_18 dX3_find_14 e2 ?_
        refine lv_iload_n B.1 B.2.1 dX3_find_17 rfl (lv_at hl 2 rfl) ?_
        have hv9 : ((-2147483648 : Int) ≤ v2_3 ∧ (v2_3 : Int) ≤ 2147483647) ∧ (15 ≤ 19) ∧ (19 ≤ 23) ∧ (0 ≤ v2_3) ∧ (v2_3 < I b1 2) := by first | omega | exact ⟨by first | omega | assumption | exact trivial, by first | omega | assumption | exact trivial, by first | omega | assumption | exact trivial, by first | omega | assumption | exact trivial, by first | omega | assumption | exact trivial⟩
        refine p_callr (c_runV (n := 1) (as := [.int (II v2_3)]) (rest := []) B hX hA hM hl.1 t3 kd19 rfl (k_Jx4a65c_get_915e3 l D dA eA L T N I J R b1 t3 v2_3 hv9.1 hv9.2.1 hv9.2.2.1 hv9.2.2.2.1 hv9.2.2.2.2 _ _) ml_X3_48 nm_Jx4a65c_get_915e3 ⟨rfl, rfl⟩ ⟨Nat.le_of_ble_eq_true rfl, Nat.le_of_ble_eq_true rfl⟩ dX3_find_18 rfl rfl (Nat.le_of_ble_eq_true rfl) ⟨Nat.zero_le _, Nat.zero_le _⟩) (fun b11 hp10 => ?_)
        obtain ⟨tb11, hp10a⟩ := hp10
        replace hp10a : R (R b1 1 - 1) v2_3.toNat = b11 + 1 := hp10a
        refine c_cast B hM tb11 kd10 rfl cl_X3_22 dX3_find_21 ?_
        obtain ⟨w12, e13⟩ : ∃ v, J b11 0 = v := ⟨_, rfl⟩
        refine c_getl (k := 0) pk_X8 B hM tb11 kd10 rfl (by decide) fl_X3_59 dX3_find_24 e13 ?_
        refine lv_lload_n B.1 B.2.1 dX3_find_27 rfl (lv_at hl 1 rfl) ?_
        refine q_lcmp B dX3_find_28 (fun x14 lx14 ux14 ex14 => ?_)
        refine q_ine (tgt := 34) B dX3_find_29 (by decide) (by unfold inr; omega) (fun c15 => ?_) (fun c15 => ?_)
        · refine q_inc (lv' := [(3, .int (II (v2_3 + 1))), (0, .ref a_this), (1, .long a_name)]) B dX3_find_34 hl (k := 2) rfl (by decide) rfl (fun ls hl => ?_)
          refine lv_goto (tgt := 2) B.1 B.2.1 dX3_find_37 (by decide) ?_
          have hv16 : ((-2147483648 : Int) ≤ v2_3 + 1 ∧ (v2_3 + 1 : Int) ≤ 2147483647) ∧ (0 ≤ (v2_3 + 1)) ∧ ((v2_3 + 1) ≤ 12) ∧ (0 ≤ 12 - (v2_3 + 1)) := by first | omega | exact ⟨by first | omega | assumption | exact trivial, by first | omega | assumption | exact trivial, by first | omega | assumption | exact trivial, by first | omega | assumption | exact trivial⟩
          exact IH2 (v2_3 + 1) ls (lv_sub hl [1, 2, 0] rfl) hv16.1 hv16.2.1 hv16.2.2.1 hv16.2.2.2 (by omega)
        · refine lv_iload_n B.1 B.2.1 dX3_find_32 rfl (lv_at hl 2 rfl) ?_
          have pq17 : I (R a_this 3 - 1) 2 = I b1 2 := by rw [e2, Nat.add_sub_cancel]
          refine p_iret B dX3_find_33 ?_
          rw [← hPST]
          exact ⟨v2_3, rfl, by omega, by first | omega | assumption | exact trivial⟩
  have hv18 : ((-2147483648 : Int) ≤ 0 ∧ (0 : Int) ≤ 2147483647) ∧ (0 ≤ (0 : Int)) ∧ ((0 : Int) ≤ 12) ∧ (0 ≤ 12 - (0 : Int)) := by first | omega | exact ⟨by first | omega | assumption | exact trivial, by first | omega | assumption | exact trivial, by first | omega | assumption | exact trivial, by first | omega | assumption | exact trivial⟩
  exact LL2 (Int.toNat (12 - (0 : Int) + 1)) 0 ls (lv_sub hl [1, 2, 0] rfl) hv18.1 hv18.2.1 hv18.2.2.1 hv18.2.2.2 (by omega)

set_option maxHeartbeats 200000000 in
set_option maxRecDepth 20000 in
theorem k_X3_findTyped (l : Launch) (D : va_G) (dA : Nat → ClassId) (eA : Nat) (L : List Nat) (T N : Nat → Nat) (I : Nat → Nat → Int) (J : Nat → Nat → Int64) (R : Nat → Nat → Nat) (a_this : Nat) (t_this : T a_this = 11) (a_name : Int64) (a_type : Int) (i_type : (-2147483648 : Int) ≤ a_type ∧ a_type ≤ 2147483647) : PC l yX3_findTyped cX3_findTyped 5 (some .int) ({ frames := 4, cells := 0, slots := 0, locals := 104 }) D dA eA L T N I J R [.ref a_this, .long a_name, .int (II a_type)] (rI (fun r => r = -1 ∨ (0 ≤ r ∧ r < I (R a_this 3 - 1) 2))) := by
  generalize hPST : (rI (fun r => r = -1 ∨ (0 ≤ r ∧ r < I (R a_this 3 - 1) 2))) = PST
  refine p_enter (own := RX3) (by decide) rfl (Nat.le_of_ble_eq_true rfl) (fun p e s m args below meth c ls B hX hM hl => ?_)
  have hA : ∀ q, s.heap.size ≤ q → cF dA L T N I J R s.heap.size q := fun q h => Or.inr h
  have hl : lv_has ls 5 [(0, .ref a_this), (1, .long a_name), (3, .int (II a_type))] := hl
  refine lv_aload_n B.1 B.2.1 dX3_findTyped_0 rfl (lv_at hl 0 rfl) ?_
  refine lv_lload_n B.1 B.2.1 dX3_findTyped_1 rfl (lv_at hl 1 rfl) ?_
  refine p_calli (c_runV (n := 1) (as := [.long a_name]) (rest := []) B hX hA hM hl.1 t_this kd11 rfl (k_X3_find l D dA eA L T N I J R a_this t_this a_name _ _) ml_X3_63 nm_X3_find ⟨rfl, rfl⟩ ⟨Nat.le_of_ble_eq_true rfl, Nat.le_of_ble_eq_true rfl⟩ dX3_findTyped_2 rfl rfl (Nat.le_of_ble_eq_true rfl) ⟨Nat.zero_le _, Nat.zero_le _⟩) (fun x2 ix2 hp1 => ?_)
  have hp1a := hp1
  replace hp1a : x2 = -1 ∨ (0 ≤ x2 ∧ x2 < I (R a_this 3 - 1) 2) := hp1a
  obtain ⟨b3, e4, t5⟩ := g11_3 hM.2.2.2.2.2.2.1 t_this
  have pq6 : I (R a_this 3 - 1) 2 = I b3 2 := by rw [e4, Nat.add_sub_cancel]
  obtain ⟨x7, e8⟩ : ∃ v, I b3 2 = v := ⟨_, rfl⟩
  refine lv_istore (lv' := [(4, .int (II x2)), (0, .ref a_this), (1, .long a_name), (3, .int (II a_type))]) B.1 B.2.1 dX3_findTyped_5 hl (by decide) rfl (fun ls hl => ?_)
  refine lv_iload B.1 B.2.1 dX3_findTyped_7 (lv_at hl 0 rfl) ?_
  refine q_con B dX3_findTyped_9 ?_
  refine q_ceq (tgt := 37) B dX3_findTyped_10 (by decide) (by unfold inr; omega) (by unfold inr; omega) (fun c9 => ?_) (fun c9 => ?_)
  · refine q_con B dX3_findTyped_37 ?_
    refine p_iret B dX3_findTyped_38 ?_
    rw [← hPST]
    exact ⟨(-1), rfl, by omega, by first | omega | assumption | exact trivial⟩
  · refine lv_aload_n B.1 B.2.1 dX3_findTyped_13 rfl (lv_at hl 1 rfl) ?_
    refine c_getn (k := 3) pk_X3 B hM t_this kd11 rfl (by decide) fl_X3_18 dX3_findTyped_14 e4 ?_
    refine lv_iload B.1 B.2.1 dX3_findTyped_17 (lv_at hl 0 rfl) ?_
    have hv10 : ((-2147483648 : Int) ≤ x2 ∧ (x2 : Int) ≤ 2147483647) ∧ (15 ≤ 19) ∧ (19 ≤ 23) ∧ (0 ≤ x2) ∧ (x2 < I b3 2) := by first | omega | exact ⟨by first | omega | assumption | exact trivial, by first | omega | assumption | exact trivial, by first | omega | assumption | exact trivial, by first | omega | assumption | exact trivial, by first | omega | assumption | exact trivial⟩
    refine p_callr (c_runV (n := 1) (as := [.int (II x2)]) (rest := []) B hX hA hM hl.1 t5 kd19 rfl (k_Jx4a65c_get_915e3 l D dA eA L T N I J R b3 t5 x2 hv10.1 hv10.2.1 hv10.2.2.1 hv10.2.2.2.1 hv10.2.2.2.2 _ _) ml_X3_48 nm_Jx4a65c_get_915e3 ⟨rfl, rfl⟩ ⟨Nat.le_of_ble_eq_true rfl, Nat.le_of_ble_eq_true rfl⟩ dX3_findTyped_19 rfl rfl (Nat.le_of_ble_eq_true rfl) ⟨Nat.zero_le _, Nat.zero_le _⟩) (fun b12 hp11 => ?_)
    obtain ⟨tb12, hp11a⟩ := hp11
    replace hp11a : R (R b3 1 - 1) x2.toNat = b12 + 1 := hp11a
    refine c_cast B hM tb12 kd10 rfl cl_X3_22 dX3_findTyped_22 ?_
    obtain ⟨x13, e14⟩ : ∃ v, I b12 1 = v := ⟨_, rfl⟩
    have r15 : (-2147483648 : Int) ≤ x13 ∧ x13 ≤ 2147483647 := by rw [← e14]; exact g10_1 hM.2.2.2.2.2.2.1 tb12
    refine c_geti (k := 1) pk_X8 B hM tb12 kd10 rfl (by decide) fl_X3_67 dX3_findTyped_25 e14 ?_
    refine lv_iload_n B.1 B.2.1 dX3_findTyped_28 rfl (lv_at hl 3 rfl) ?_
    refine q_cne (tgt := 37) B dX3_findTyped_29 (by decide) (by unfold inr; omega) (by unfold inr; omega) (fun c16 => ?_) (fun c16 => ?_)
    · refine q_con B dX3_findTyped_37 ?_
      refine p_iret B dX3_findTyped_38 ?_
      rw [← hPST]
      exact ⟨(-1), rfl, by omega, by first | omega | assumption | exact trivial⟩
    · refine lv_iload B.1 B.2.1 dX3_findTyped_32 (lv_at hl 0 rfl) ?_
      refine lv_goto (tgt := 38) B.1 B.2.1 dX3_findTyped_34 (by decide) ?_
      refine p_iret B dX3_findTyped_38 ?_
      rw [← hPST]
      exact ⟨x2, rfl, by omega, by first | omega | assumption | exact trivial⟩

set_option maxHeartbeats 200000000 in
set_option maxRecDepth 20000 in
theorem k_X3_listKind (l : Launch) (D : va_G) (dA : Nat → ClassId) (eA : Nat) (L : List Nat) (T N : Nat → Nat) (I : Nat → Nat → Int) (J : Nat → Nat → Int64) (R : Nat → Nat → Nat) (a_this : Nat) (t_this : T a_this = 11) (a_use : Nat) (t_use : T a_use = 9) : PC l yX3_listKind cX3_listKind 3 (some .int) ({ frames := 3, cells := 0, slots := 0, locals := 81 }) D dA eA L T N I J R [.ref a_this, .ref a_use] (rI (fun r => True)) := by
  generalize hPST : (rI (fun r => True)) = PST
  refine p_enter (own := RX3) (by decide) rfl (Nat.le_of_ble_eq_true rfl) (fun p e s m args below meth c ls B hX hM hl => ?_)
  have hA : ∀ q, s.heap.size ≤ q → cF dA L T N I J R s.heap.size q := fun q h => Or.inr h
  have hl : lv_has ls 3 [(0, .ref a_this), (1, .ref a_use)] := hl
  refine lv_aload_n B.1 B.2.1 dX3_listKind_0 rfl (lv_at hl 1 rfl) ?_
  refine q_con B dX3_listKind_1 ?_
  refine p_calli (c_runV (n := 1) (as := [.int (II 0)]) (rest := []) B hX hA hM hl.1 t_use kd9 rfl (k_X10_read l D dA eA L T N I J R a_use t_use (0) (by first | omega | assumption | exact trivial) _ _) ml_X3_70 nm_X10_read ⟨rfl, rfl⟩ ⟨Nat.le_of_ble_eq_true rfl, Nat.le_of_ble_eq_true rfl⟩ dX3_listKind_2 rfl rfl (Nat.le_of_ble_eq_true rfl) ⟨Nat.zero_le _, Nat.zero_le _⟩) (fun x2 ix2 hp1 => ?_)
  have hp1a := hp1
  clear hp1a
  refine lv_istore_n (lv' := [(2, .int (II x2)), (0, .ref a_this), (1, .ref a_use)]) B.1 B.2.1 dX3_listKind_5 rfl hl (by decide) rfl (fun ls hl => ?_)
  refine lv_iload_n B.1 B.2.1 dX3_listKind_6 rfl (lv_at hl 0 rfl) ?_
  refine q_ilt (tgt := 38) B dX3_listKind_7 (by decide) (by unfold inr; omega) (fun c3 => ?_) (fun c3 => ?_)
  · refine q_con B dX3_listKind_38 ?_
    refine p_iret B dX3_listKind_39 ?_
    rw [← hPST]
    exact ⟨(-1), rfl, by omega, by first | omega | assumption | exact trivial⟩
  · refine lv_iload_n B.1 B.2.1 dX3_listKind_10 rfl (lv_at hl 0 rfl) ?_
    refine lv_aload_n B.1 B.2.1 dX3_listKind_11 rfl (lv_at hl 1 rfl) ?_
    obtain ⟨b4, e5, t6⟩ := g11_3 hM.2.2.2.2.2.2.1 t_this
    refine c_getn (k := 3) pk_X3 B hM t_this kd11 rfl (by decide) fl_X3_18 dX3_listKind_12 e5 ?_
    have hv7 : (15 ≤ 19) ∧ (19 ≤ 23) := by first | omega | exact ⟨by first | omega | assumption | exact trivial, by first | omega | assumption | exact trivial⟩
    refine p_calli (c_runV (n := 0) (as := []) (rest := [.int (II x2)]) B hX hA hM hl.1 t6 kd19 rfl (k_Jx4a65c_size_8abf5 l D dA eA L T N I J R b4 t6 hv7.1 hv7.2 _ _) ml_X3_44 nm_Jx4a65c_size_8abf5 ⟨rfl, rfl⟩ ⟨Nat.le_of_ble_eq_true rfl, Nat.le_of_ble_eq_true rfl⟩ dX3_listKind_15 rfl rfl (Nat.le_of_ble_eq_true rfl) ⟨Nat.zero_le _, Nat.zero_le _⟩) (fun x9 ix9 hp8 => ?_)
    have hp8a := hp8
    replace hp8a : I b4 2 = x9 ∧ 0 ≤ x9 ∧ x9 ≤ 12 := hp8a
    obtain ⟨hp8a_0, hp8a_1, hp8a_2⟩ := hp8a
    refine q_cge (tgt := 38) B dX3_listKind_18 (by decide) (by unfold inr; omega) (by unfold inr; omega) (fun c10 => ?_) (fun c10 => ?_)
    · refine q_con B dX3_listKind_38 ?_
      refine p_iret B dX3_listKind_39 ?_
      rw [← hPST]
      exact ⟨(-1), rfl, by omega, by first | omega | assumption | exact trivial⟩
    · refine lv_aload_n B.1 B.2.1 dX3_listKind_21 rfl (lv_at hl 1 rfl) ?_
      refine c_getn (k := 3) pk_X3 B hM t_this kd11 rfl (by decide) fl_X3_18 dX3_listKind_22 e5 ?_
      refine lv_iload_n B.1 B.2.1 dX3_listKind_25 rfl (lv_at hl 0 rfl) ?_
      have hv11 : ((-2147483648 : Int) ≤ x2 ∧ (x2 : Int) ≤ 2147483647) ∧ (15 ≤ 19) ∧ (19 ≤ 23) ∧ (0 ≤ x2) ∧ (x2 < I b4 2) := by first | omega | exact ⟨by first | omega | assumption | exact trivial, by first | omega | assumption | exact trivial, by first | omega | assumption | exact trivial, by first | omega | assumption | exact trivial, by first | omega | assumption | exact trivial⟩
      refine p_callr (c_runV (n := 1) (as := [.int (II x2)]) (rest := []) B hX hA hM hl.1 t6 kd19 rfl (k_Jx4a65c_get_915e3 l D dA eA L T N I J R b4 t6 x2 hv11.1 hv11.2.1 hv11.2.2.1 hv11.2.2.2.1 hv11.2.2.2.2 _ _) ml_X3_48 nm_Jx4a65c_get_915e3 ⟨rfl, rfl⟩ ⟨Nat.le_of_ble_eq_true rfl, Nat.le_of_ble_eq_true rfl⟩ dX3_listKind_26 rfl rfl (Nat.le_of_ble_eq_true rfl) ⟨Nat.zero_le _, Nat.zero_le _⟩) (fun b13 hp12 => ?_)
      obtain ⟨tb13, hp12a⟩ := hp12
      replace hp12a : R (R b4 1 - 1) x2.toNat = b13 + 1 := hp12a
      refine c_cast B hM tb13 kd10 rfl cl_X3_22 dX3_listKind_29 ?_
      obtain ⟨x14, e15⟩ : ∃ v, I b13 2 = v := ⟨_, rfl⟩
      have r16 : (-2147483648 : Int) ≤ x14 ∧ x14 ≤ 2147483647 := by rw [← e15]; exact g10_2 hM.2.2.2.2.2.2.1 tb13
      refine c_geti (k := 2) pk_X8 B hM tb13 kd10 rfl (by decide) fl_X3_76 dX3_listKind_32 e15 ?_
      refine lv_goto (tgt := 39) B.1 B.2.1 dX3_listKind_35 (by decide) ?_
      refine p_iret B dX3_listKind_39 ?_
      rw [← hPST]
      exact ⟨x14, rfl, by omega, by first | omega | assumption | exact trivial⟩

set_option maxHeartbeats 200000000 in
set_option maxRecDepth 20000 in
theorem k_X5_typeOf (l : Launch) (D : va_G) (dA : Nat → ClassId) (eA : Nat) (L : List Nat) (T N : Nat → Nat) (I : Nat → Nat → Int) (J : Nat → Nat → Int64) (R : Nat → Nat → Nat) (a_this : Nat) (t_this : T a_this = 12) (a_m : Int) (i_m : (-2147483648 : Int) ≤ a_m ∧ a_m ≤ 2147483647) : PC l yX5_typeOf cX5_typeOf 2 (some .int) ({ frames := 3, cells := 0, slots := 0, locals := 81 }) D dA eA L T N I J R [.ref a_this, .int (II a_m)] (rI (fun r => r = -1 ∨ (0 ≤ a_m ∧ a_m < N (R a_this 2 - 1)))) := by
  generalize hPST : (rI (fun r => r = -1 ∨ (0 ≤ a_m ∧ a_m < N (R a_this 2 - 1)))) = PST
  refine p_enter (own := RX5) (by decide) rfl (Nat.le_of_ble_eq_true rfl) (fun p e s m args below meth c ls B hX hM hl => ?_)
  have hA : ∀ q, s.heap.size ≤ q → cF dA L T N I J R s.heap.size q := fun q h => Or.inr h
  have hl : lv_has ls 2 [(0, .ref a_this), (1, .int (II a_m))] := hl
  refine lv_iload_n B.1 B.2.1 dX5_typeOf_0 rfl (lv_at hl 1 rfl) ?_
  refine q_ilt (tgt := 33) B dX5_typeOf_1 (by decide) (by unfold inr; omega) (fun c1 => ?_) (fun c1 => ?_)
  · refine q_con B dX5_typeOf_33 ?_
    obtain ⟨v2, e3⟩ : ∃ v, R a_this 2 = v := ⟨_, rfl⟩
    refine p_iret B dX5_typeOf_34 ?_
    rw [← hPST]
    exact ⟨(-1), rfl, by omega, by first | omega | assumption | exact trivial⟩
  · refine lv_iload_n B.1 B.2.1 dX5_typeOf_4 rfl (lv_at hl 1 rfl) ?_
    refine lv_aload_n B.1 B.2.1 dX5_typeOf_5 rfl (lv_at hl 0 rfl) ?_
    obtain ⟨b4, e5, t6⟩ := g12_2 hM.2.2.2.2.2.2.1 t_this
    refine c_getn (k := 2) pk_X5 B hM t_this kd12 rfl (by decide) fl_X5_27 dX5_typeOf_6 e5 ?_
    have n7 : 0 ≤ N b4 ∧ N b4 ≤ 12 := gn84 hM.2.2.2.2.2.2.1 t6
    refine c_len B hM t6 kd84 (by decide) dX5_typeOf_9 rfl ?_
    refine q_cge (tgt := 33) B dX5_typeOf_10 (by decide) (by unfold inr; omega) (by unfold inr; omega) (fun c8 => ?_) (fun c8 => ?_)
    · refine q_con B dX5_typeOf_33 ?_
      have pq9 : N (R a_this 2 - 1) = N b4 := by rw [e5, Nat.add_sub_cancel]
      refine p_iret B dX5_typeOf_34 ?_
      rw [← hPST]
      exact ⟨(-1), rfl, by omega, by first | omega | assumption | exact trivial⟩
    · refine lv_aload_n B.1 B.2.1 dX5_typeOf_13 rfl (lv_at hl 0 rfl) ?_
      obtain ⟨b10, e11, t12⟩ := g12_0 hM.2.2.2.2.2.2.1 t_this
      refine c_getn (k := 0) pk_X5 B hM t_this kd12 rfl (by decide) fl_X5_9 dX5_typeOf_14 e11 ?_
      obtain ⟨b13, e14, t15⟩ := g11_3 hM.2.2.2.2.2.2.1 t12
      refine c_getn (k := 3) pk_X3 B hM t12 kd11 rfl (by decide) fl_X5_15 dX5_typeOf_17 e14 ?_
      refine lv_iload_n B.1 B.2.1 dX5_typeOf_20 rfl (lv_at hl 1 rfl) ?_
      obtain ⟨b16, e17, t18⟩ := g12_3 hM.2.2.2.2.2.2.1 t_this
      obtain ⟨b19, e20, t21⟩ := g12_4 hM.2.2.2.2.2.2.1 t_this
      obtain ⟨b22, e23, t24⟩ := g12_5 hM.2.2.2.2.2.2.1 t_this
      obtain ⟨gp25a, gp25b, gp25c, gp25d⟩ := gp2 hM.2.2.2.2.2.2.2 t_this e11 e14 e5 e17 e20 e23
      obtain ⟨x26, e27⟩ : ∃ v, I b13 2 = v := ⟨_, rfl⟩
      have hv28 : ((-2147483648 : Int) ≤ a_m ∧ (a_m : Int) ≤ 2147483647) ∧ (15 ≤ 19) ∧ (19 ≤ 23) ∧ (0 ≤ a_m) ∧ (a_m < I b13 2) := by first | omega | exact ⟨by first | omega | assumption | exact trivial, by first | omega | assumption | exact trivial, by first | omega | assumption | exact trivial, by first | omega | assumption | exact trivial, by first | omega | assumption | exact trivial⟩
      refine p_callr (c_runV (n := 1) (as := [.int (II a_m)]) (rest := []) B hX hA hM hl.1 t15 kd19 rfl (k_Jx4a65c_get_915e3 l D dA eA L T N I J R b13 t15 a_m hv28.1 hv28.2.1 hv28.2.2.1 hv28.2.2.2.1 hv28.2.2.2.2 _ _) ml_X5_43 nm_Jx4a65c_get_915e3 ⟨rfl, rfl⟩ ⟨Nat.le_of_ble_eq_true rfl, Nat.le_of_ble_eq_true rfl⟩ dX5_typeOf_21 rfl rfl (Nat.le_of_ble_eq_true rfl) ⟨Nat.zero_le _, Nat.zero_le _⟩) (fun b30 hp29 => ?_)
      obtain ⟨tb30, hp29a⟩ := hp29
      replace hp29a : R (R b13 1 - 1) a_m.toNat = b30 + 1 := hp29a
      refine c_cast B hM tb30 kd10 rfl cl_X5_47 dX5_typeOf_24 ?_
      obtain ⟨x31, e32⟩ : ∃ v, I b30 1 = v := ⟨_, rfl⟩
      have r33 : (-2147483648 : Int) ≤ x31 ∧ x31 ≤ 2147483647 := by rw [← e32]; exact g10_1 hM.2.2.2.2.2.2.1 tb30
      refine c_geti (k := 1) pk_X8 B hM tb30 kd10 rfl (by decide) fl_X5_49 dX5_typeOf_27 e32 ?_
      refine lv_goto (tgt := 34) B.1 B.2.1 dX5_typeOf_30 (by decide) ?_
      have pq34 : N (R a_this 2 - 1) = N b4 := by rw [e5, Nat.add_sub_cancel]
      refine p_iret B dX5_typeOf_34 ?_
      rw [← hPST]
      exact ⟨x31, rfl, by omega, by first | omega | assumption | exact trivial⟩

set_option maxHeartbeats 200000000 in
set_option maxRecDepth 20000 in
theorem k_X5_kindOf (l : Launch) (D : va_G) (dA : Nat → ClassId) (eA : Nat) (L : List Nat) (T N : Nat → Nat) (I : Nat → Nat → Int) (J : Nat → Nat → Int64) (R : Nat → Nat → Nat) (a_this : Nat) (t_this : T a_this = 12) (a_m : Int) (i_m : (-2147483648 : Int) ≤ a_m ∧ a_m ≤ 2147483647) : PC l yX5_kindOf cX5_kindOf 2 (some .int) ({ frames := 3, cells := 0, slots := 0, locals := 81 }) D dA eA L T N I J R [.ref a_this, .int (II a_m)] (rI (fun r => True)) := by
  generalize hPST : (rI (fun r => True)) = PST
  refine p_enter (own := RX5) (by decide) rfl (Nat.le_of_ble_eq_true rfl) (fun p e s m args below meth c ls B hX hM hl => ?_)
  have hA : ∀ q, s.heap.size ≤ q → cF dA L T N I J R s.heap.size q := fun q h => Or.inr h
  have hl : lv_has ls 2 [(0, .ref a_this), (1, .int (II a_m))] := hl
  refine lv_iload_n B.1 B.2.1 dX5_kindOf_0 rfl (lv_at hl 1 rfl) ?_
  refine q_ilt (tgt := 33) B dX5_kindOf_1 (by decide) (by unfold inr; omega) (fun c1 => ?_) (fun c1 => ?_)
  · refine q_con B dX5_kindOf_33 ?_
    refine p_iret B dX5_kindOf_34 ?_
    rw [← hPST]
    exact ⟨(-1), rfl, by omega, by first | omega | assumption | exact trivial⟩
  · refine lv_iload_n B.1 B.2.1 dX5_kindOf_4 rfl (lv_at hl 1 rfl) ?_
    refine lv_aload_n B.1 B.2.1 dX5_kindOf_5 rfl (lv_at hl 0 rfl) ?_
    obtain ⟨b2, e3, t4⟩ := g12_2 hM.2.2.2.2.2.2.1 t_this
    refine c_getn (k := 2) pk_X5 B hM t_this kd12 rfl (by decide) fl_X5_27 dX5_kindOf_6 e3 ?_
    have n5 : 0 ≤ N b2 ∧ N b2 ≤ 12 := gn84 hM.2.2.2.2.2.2.1 t4
    refine c_len B hM t4 kd84 (by decide) dX5_kindOf_9 rfl ?_
    refine q_cge (tgt := 33) B dX5_kindOf_10 (by decide) (by unfold inr; omega) (by unfold inr; omega) (fun c6 => ?_) (fun c6 => ?_)
    · refine q_con B dX5_kindOf_33 ?_
      refine p_iret B dX5_kindOf_34 ?_
      rw [← hPST]
      exact ⟨(-1), rfl, by omega, by first | omega | assumption | exact trivial⟩
    · refine lv_aload_n B.1 B.2.1 dX5_kindOf_13 rfl (lv_at hl 0 rfl) ?_
      obtain ⟨b7, e8, t9⟩ := g12_0 hM.2.2.2.2.2.2.1 t_this
      refine c_getn (k := 0) pk_X5 B hM t_this kd12 rfl (by decide) fl_X5_9 dX5_kindOf_14 e8 ?_
      obtain ⟨b10, e11, t12⟩ := g11_3 hM.2.2.2.2.2.2.1 t9
      refine c_getn (k := 3) pk_X3 B hM t9 kd11 rfl (by decide) fl_X5_15 dX5_kindOf_17 e11 ?_
      refine lv_iload_n B.1 B.2.1 dX5_kindOf_20 rfl (lv_at hl 1 rfl) ?_
      obtain ⟨b13, e14, t15⟩ := g12_3 hM.2.2.2.2.2.2.1 t_this
      obtain ⟨b16, e17, t18⟩ := g12_4 hM.2.2.2.2.2.2.1 t_this
      obtain ⟨b19, e20, t21⟩ := g12_5 hM.2.2.2.2.2.2.1 t_this
      obtain ⟨gp22a, gp22b, gp22c, gp22d⟩ := gp2 hM.2.2.2.2.2.2.2 t_this e8 e11 e3 e14 e17 e20
      obtain ⟨x23, e24⟩ : ∃ v, I b10 2 = v := ⟨_, rfl⟩
      have hv25 : ((-2147483648 : Int) ≤ a_m ∧ (a_m : Int) ≤ 2147483647) ∧ (15 ≤ 19) ∧ (19 ≤ 23) ∧ (0 ≤ a_m) ∧ (a_m < I b10 2) := by first | omega | exact ⟨by first | omega | assumption | exact trivial, by first | omega | assumption | exact trivial, by first | omega | assumption | exact trivial, by first | omega | assumption | exact trivial, by first | omega | assumption | exact trivial⟩
      refine p_callr (c_runV (n := 1) (as := [.int (II a_m)]) (rest := []) B hX hA hM hl.1 t12 kd19 rfl (k_Jx4a65c_get_915e3 l D dA eA L T N I J R b10 t12 a_m hv25.1 hv25.2.1 hv25.2.2.1 hv25.2.2.2.1 hv25.2.2.2.2 _ _) ml_X5_43 nm_Jx4a65c_get_915e3 ⟨rfl, rfl⟩ ⟨Nat.le_of_ble_eq_true rfl, Nat.le_of_ble_eq_true rfl⟩ dX5_kindOf_21 rfl rfl (Nat.le_of_ble_eq_true rfl) ⟨Nat.zero_le _, Nat.zero_le _⟩) (fun b27 hp26 => ?_)
      obtain ⟨tb27, hp26a⟩ := hp26
      replace hp26a : R (R b10 1 - 1) a_m.toNat = b27 + 1 := hp26a
      refine c_cast B hM tb27 kd10 rfl cl_X5_47 dX5_kindOf_24 ?_
      obtain ⟨x28, e29⟩ : ∃ v, I b27 2 = v := ⟨_, rfl⟩
      have r30 : (-2147483648 : Int) ≤ x28 ∧ x28 ≤ 2147483647 := by rw [← e29]; exact g10_2 hM.2.2.2.2.2.2.1 tb27
      refine c_geti (k := 2) pk_X8 B hM tb27 kd10 rfl (by decide) fl_X5_53 dX5_kindOf_27 e29 ?_
      refine lv_goto (tgt := 34) B.1 B.2.1 dX5_kindOf_30 (by decide) ?_
      refine p_iret B dX5_kindOf_34 ?_
      rw [← hPST]
      exact ⟨x28, rfl, by omega, by first | omega | assumption | exact trivial⟩

set_option maxHeartbeats 200000000 in
set_option maxRecDepth 20000 in
theorem k_X5_has (l : Launch) (D : va_G) (dA : Nat → ClassId) (eA : Nat) (L : List Nat) (T N : Nat → Nat) (I : Nat → Nat → Int) (J : Nat → Nat → Int64) (R : Nat → Nat → Nat) (a_this : Nat) (t_this : T a_this = 12) (a_m : Int) (i_m : (-2147483648 : Int) ≤ a_m ∧ a_m ≤ 2147483647) : PC l yX5_has cX5_has 3 (some .boolean) ({ frames := 4, cells := 0, slots := 0, locals := 102 }) D dA eA L T N I J R [.ref a_this, .int (II a_m)] (rI (fun r => (0 : Int) ≤ r ∧ r ≤ 1 ∧ (True))) := by
  generalize hPST : (rI (fun r => (0 : Int) ≤ r ∧ r ≤ 1 ∧ (True))) = PST
  refine p_enter (own := RX5) (by decide) rfl (Nat.le_of_ble_eq_true rfl) (fun p e s m args below meth c ls B hX hM hl => ?_)
  have hA : ∀ q, s.heap.size ≤ q → cF dA L T N I J R s.heap.size q := fun q h => Or.inr h
  have hl : lv_has ls 3 [(0, .ref a_this), (1, .int (II a_m))] := hl
  refine lv_aload_n B.1 B.2.1 dX5_has_0 rfl (lv_at hl 0 rfl) ?_
  refine lv_iload_n B.1 B.2.1 dX5_has_1 rfl (lv_at hl 1 rfl) ?_
  refine p_calli (c_runV (n := 1) (as := [.int (II a_m)]) (rest := []) B hX hA hM hl.1 t_this kd12 rfl (k_X5_typeOf l D dA eA L T N I J R a_this t_this a_m (by first | omega | assumption | exact trivial) _ _) ml_X5_55 nm_X5_typeOf ⟨rfl, rfl⟩ ⟨Nat.le_of_ble_eq_true rfl, Nat.le_of_ble_eq_true rfl⟩ dX5_has_2 rfl rfl (Nat.le_of_ble_eq_true rfl) ⟨Nat.zero_le _, Nat.zero_le _⟩) (fun x2 ix2 hp1 => ?_)
  have hp1a := hp1
  replace hp1a : x2 = -1 ∨ (0 ≤ a_m ∧ a_m < N (R a_this 2 - 1)) := hp1a
  obtain ⟨b3, e4, t5⟩ := g12_2 hM.2.2.2.2.2.2.1 t_this
  have pq6 : N (R a_this 2 - 1) = N b3 := by rw [e4, Nat.add_sub_cancel]
  refine lv_istore_n (lv' := [(2, .int (II x2)), (0, .ref a_this), (1, .int (II a_m))]) B.1 B.2.1 dX5_has_5 rfl hl (by decide) rfl (fun ls hl => ?_)
  refine lv_iload_n B.1 B.2.1 dX5_has_6 rfl (lv_at hl 0 rfl) ?_
  refine q_con B dX5_has_7 ?_
  refine q_ceq (tgt := 25) B dX5_has_8 (by decide) (by unfold inr; omega) (by unfold inr; omega) (fun c7 => ?_) (fun c7 => ?_)
  · refine q_con B dX5_has_25 ?_
    refine lv_goto (tgt := 30) B.1 B.2.1 dX5_has_26 (by decide) ?_
    refine p_zret B dX5_has_30 (by omega) (by omega) ?_
    rw [← hPST]
    exact ⟨(1), rfl, by omega, by omega, by omega, by first | omega | assumption | exact trivial⟩
  · refine lv_iload_n B.1 B.2.1 dX5_has_11 rfl (lv_at hl 0 rfl) ?_
    refine q_con B dX5_has_12 ?_
    refine q_ceq (tgt := 29) B dX5_has_13 (by decide) (by unfold inr; omega) (by unfold inr; omega) (fun c8 => ?_) (fun c8 => ?_)
    · refine q_con B dX5_has_29 ?_
      refine p_zret B dX5_has_30 (by omega) (by omega) ?_
      rw [← hPST]
      exact ⟨(0), rfl, by omega, by omega, by omega, by first | omega | assumption | exact trivial⟩
    · refine lv_aload_n B.1 B.2.1 dX5_has_16 rfl (lv_at hl 1 rfl) ?_
      obtain ⟨b9, e10, t11⟩ := g12_0 hM.2.2.2.2.2.2.1 t_this
      obtain ⟨b12, e13, t14⟩ := g11_3 hM.2.2.2.2.2.2.1 t11
      obtain ⟨b15, e16, t17⟩ := g12_3 hM.2.2.2.2.2.2.1 t_this
      obtain ⟨b18, e19, t20⟩ := g12_4 hM.2.2.2.2.2.2.1 t_this
      obtain ⟨b21, e22, t23⟩ := g12_5 hM.2.2.2.2.2.2.1 t_this
      obtain ⟨gp24a, gp24b, gp24c, gp24d⟩ := gp2 hM.2.2.2.2.2.2.2 t_this e10 e13 e4 e16 e19 e22
      refine c_getn (k := 3) pk_X5 B hM t_this kd12 rfl (by decide) fl_X5_31 dX5_has_17 e16 ?_
      refine lv_iload_n B.1 B.2.1 dX5_has_20 rfl (lv_at hl 2 rfl) ?_
      have n25 : 0 ≤ N b15 ∧ N b15 ≤ 12 := gn85 hM.2.2.2.2.2.2.1 t17
      obtain ⟨x26, e27⟩ : ∃ v, I b15 a_m.toNat = v := ⟨_, rfl⟩
      have r28 : (0 : Int) ≤ x26 ∧ x26 ≤ 1 := by rw [← e27]; exact ga85 hM.2.2.2.2.2.2.1 t17 (by omega)
      refine c_zld B hM t17 kd85 (by decide) dX5_has_21 (by omega) (by omega) e27 ?_
      refine q_ieq (tgt := 29) B dX5_has_22 (by decide) (by unfold inr; omega) (fun c29 => ?_) (fun c29 => ?_)
      · refine q_con B dX5_has_29 ?_
        refine p_zret B dX5_has_30 (by omega) (by omega) ?_
        rw [← hPST]
        exact ⟨(0), rfl, by omega, by omega, by omega, by first | omega | assumption | exact trivial⟩
      · refine q_con B dX5_has_25 ?_
        refine lv_goto (tgt := 30) B.1 B.2.1 dX5_has_26 (by decide) ?_
        refine p_zret B dX5_has_30 (by omega) (by omega) ?_
        rw [← hPST]
        exact ⟨(1), rfl, by omega, by omega, by omega, by first | omega | assumption | exact trivial⟩

set_option maxHeartbeats 200000000 in
set_option maxRecDepth 20000 in
theorem k_X5_valueOf (l : Launch) (D : va_G) (dA : Nat → ClassId) (eA : Nat) (L : List Nat) (T N : Nat → Nat) (I : Nat → Nat → Int) (J : Nat → Nat → Int64) (R : Nat → Nat → Nat) (a_this : Nat) (t_this : T a_this = 12) (a_m : Int) (i_m : (-2147483648 : Int) ≤ a_m ∧ a_m ≤ 2147483647) : PC l yX5_valueOf cX5_valueOf 2 (some .int) ({ frames := 0, cells := 0, slots := 0, locals := 0 }) D dA eA L T N I J R [.ref a_this, .int (II a_m)] (rI (fun r => True)) := by
  generalize hPST : (rI (fun r => True)) = PST
  refine p_enter (own := RX5) (by decide) rfl (Nat.le_of_ble_eq_true rfl) (fun p e s m args below meth c ls B hX hM hl => ?_)
  have hA : ∀ q, s.heap.size ≤ q → cF dA L T N I J R s.heap.size q := fun q h => Or.inr h
  have hl : lv_has ls 2 [(0, .ref a_this), (1, .int (II a_m))] := hl
  refine lv_iload_n B.1 B.2.1 dX5_valueOf_0 rfl (lv_at hl 1 rfl) ?_
  refine q_ilt (tgt := 22) B dX5_valueOf_1 (by decide) (by unfold inr; omega) (fun c1 => ?_) (fun c1 => ?_)
  · refine q_con B dX5_valueOf_22 ?_
    refine p_iret B dX5_valueOf_23 ?_
    rw [← hPST]
    exact ⟨(0), rfl, by omega, by first | omega | assumption | exact trivial⟩
  · refine lv_iload_n B.1 B.2.1 dX5_valueOf_4 rfl (lv_at hl 1 rfl) ?_
    refine lv_aload_n B.1 B.2.1 dX5_valueOf_5 rfl (lv_at hl 0 rfl) ?_
    obtain ⟨b2, e3, t4⟩ := g12_2 hM.2.2.2.2.2.2.1 t_this
    refine c_getn (k := 2) pk_X5 B hM t_this kd12 rfl (by decide) fl_X5_27 dX5_valueOf_6 e3 ?_
    have n5 : 0 ≤ N b2 ∧ N b2 ≤ 12 := gn84 hM.2.2.2.2.2.2.1 t4
    refine c_len B hM t4 kd84 (by decide) dX5_valueOf_9 rfl ?_
    refine q_cge (tgt := 22) B dX5_valueOf_10 (by decide) (by unfold inr; omega) (by unfold inr; omega) (fun c6 => ?_) (fun c6 => ?_)
    · refine q_con B dX5_valueOf_22 ?_
      refine p_iret B dX5_valueOf_23 ?_
      rw [← hPST]
      exact ⟨(0), rfl, by omega, by first | omega | assumption | exact trivial⟩
    · refine lv_aload_n B.1 B.2.1 dX5_valueOf_13 rfl (lv_at hl 0 rfl) ?_
      refine c_getn (k := 2) pk_X5 B hM t_this kd12 rfl (by decide) fl_X5_27 dX5_valueOf_14 e3 ?_
      refine lv_iload_n B.1 B.2.1 dX5_valueOf_17 rfl (lv_at hl 1 rfl) ?_
      obtain ⟨x7, e8⟩ : ∃ v, I b2 a_m.toNat = v := ⟨_, rfl⟩
      have r9 : (-2147483648 : Int) ≤ x7 ∧ x7 ≤ 2147483647 := by rw [← e8]; exact ga84 hM.2.2.2.2.2.2.1 t4 (by omega)
      refine c_ild B hM t4 kd84 (by decide) dX5_valueOf_18 (by omega) (by omega) e8 ?_
      refine lv_goto (tgt := 23) B.1 B.2.1 dX5_valueOf_19 (by decide) ?_
      refine p_iret B dX5_valueOf_23 ?_
      rw [← hPST]
      exact ⟨x7, rfl, by omega, by first | omega | assumption | exact trivial⟩

set_option maxHeartbeats 200000000 in
set_option maxRecDepth 20000 in
theorem k_X5_countTargets (l : Launch) (D : va_G) (dA : Nat → ClassId) (eA : Nat) (L : List Nat) (T N : Nat → Nat) (I : Nat → Nat → Int) (J : Nat → Nat → Int64) (R : Nat → Nat → Nat) (a_this : Nat) (t_this : T a_this = 12) (a_m : Int) (i_m : (-2147483648 : Int) ≤ a_m ∧ a_m ≤ 2147483647) : PC l yX5_countTargets cX5_countTargets 3 (some .int) ({ frames := 4, cells := 0, slots := 0, locals := 102 }) D dA eA L T N I J R [.ref a_this, .int (II a_m)] (rI (fun r => True)) := by
  generalize hPST : (rI (fun r => True)) = PST
  refine p_enter (own := RX5) (by decide) rfl (Nat.le_of_ble_eq_true rfl) (fun p e s m args below meth c ls B hX hM hl => ?_)
  have hA : ∀ q, s.heap.size ≤ q → cF dA L T N I J R s.heap.size q := fun q h => Or.inr h
  have hl : lv_has ls 3 [(0, .ref a_this), (1, .int (II a_m))] := hl
  refine lv_aload_n B.1 B.2.1 dX5_countTargets_0 rfl (lv_at hl 0 rfl) ?_
  refine lv_iload_n B.1 B.2.1 dX5_countTargets_1 rfl (lv_at hl 1 rfl) ?_
  refine p_calli (c_runV (n := 1) (as := [.int (II a_m)]) (rest := []) B hX hA hM hl.1 t_this kd12 rfl (k_X5_typeOf l D dA eA L T N I J R a_this t_this a_m (by first | omega | assumption | exact trivial) _ _) ml_X5_55 nm_X5_typeOf ⟨rfl, rfl⟩ ⟨Nat.le_of_ble_eq_true rfl, Nat.le_of_ble_eq_true rfl⟩ dX5_countTargets_2 rfl rfl (Nat.le_of_ble_eq_true rfl) ⟨Nat.zero_le _, Nat.zero_le _⟩) (fun x2 ix2 hp1 => ?_)
  have hp1a := hp1
  replace hp1a : x2 = -1 ∨ (0 ≤ a_m ∧ a_m < N (R a_this 2 - 1)) := hp1a
  obtain ⟨b3, e4, t5⟩ := g12_2 hM.2.2.2.2.2.2.1 t_this
  have pq6 : N (R a_this 2 - 1) = N b3 := by rw [e4, Nat.add_sub_cancel]
  refine lv_istore_n (lv' := [(2, .int (II x2)), (0, .ref a_this), (1, .int (II a_m))]) B.1 B.2.1 dX5_countTargets_5 rfl hl (by decide) rfl (fun ls hl => ?_)
  refine lv_iload_n B.1 B.2.1 dX5_countTargets_6 rfl (lv_at hl 0 rfl) ?_
  refine q_con B dX5_countTargets_7 ?_
  refine q_cne (tgt := 18) B dX5_countTargets_8 (by decide) (by unfold inr; omega) (by unfold inr; omega) (fun c7 => ?_) (fun c7 => ?_)
  · refine lv_iload_n B.1 B.2.1 dX5_countTargets_18 rfl (lv_at hl 0 rfl) ?_
    refine q_con B dX5_countTargets_19 ?_
    refine q_cne (tgt := 36) B dX5_countTargets_20 (by decide) (by unfold inr; omega) (by unfold inr; omega) (fun c8 => ?_) (fun c8 => ?_)
    · refine q_con B dX5_countTargets_36 ?_
      refine p_iret B dX5_countTargets_37 ?_
      rw [← hPST]
      exact ⟨(0), rfl, by omega, by first | omega | assumption | exact trivial⟩
    · refine lv_aload_n B.1 B.2.1 dX5_countTargets_23 rfl (lv_at hl 1 rfl) ?_
      obtain ⟨b9, e10, t11⟩ := g12_0 hM.2.2.2.2.2.2.1 t_this
      obtain ⟨b12, e13, t14⟩ := g11_3 hM.2.2.2.2.2.2.1 t11
      obtain ⟨b15, e16, t17⟩ := g12_3 hM.2.2.2.2.2.2.1 t_this
      obtain ⟨b18, e19, t20⟩ := g12_4 hM.2.2.2.2.2.2.1 t_this
      obtain ⟨b21, e22, t23⟩ := g12_5 hM.2.2.2.2.2.2.1 t_this
      obtain ⟨gp24a, gp24b, gp24c, gp24d⟩ := gp2 hM.2.2.2.2.2.2.2 t_this e10 e13 e4 e16 e19 e22
      refine c_getn (k := 3) pk_X5 B hM t_this kd12 rfl (by decide) fl_X5_31 dX5_countTargets_24 e16 ?_
      refine lv_iload_n B.1 B.2.1 dX5_countTargets_27 rfl (lv_at hl 2 rfl) ?_
      have n25 : 0 ≤ N b15 ∧ N b15 ≤ 12 := gn85 hM.2.2.2.2.2.2.1 t17
      obtain ⟨x26, e27⟩ : ∃ v, I b15 a_m.toNat = v := ⟨_, rfl⟩
      have r28 : (0 : Int) ≤ x26 ∧ x26 ≤ 1 := by rw [← e27]; exact ga85 hM.2.2.2.2.2.2.1 t17 (by omega)
      refine c_zld B hM t17 kd85 (by decide) dX5_countTargets_28 (by omega) (by omega) e27 ?_
      refine q_ieq (tgt := 36) B dX5_countTargets_29 (by decide) (by unfold inr; omega) (fun c29 => ?_) (fun c29 => ?_)
      · refine q_con B dX5_countTargets_36 ?_
        refine p_iret B dX5_countTargets_37 ?_
        rw [← hPST]
        exact ⟨(0), rfl, by omega, by first | omega | assumption | exact trivial⟩
      · refine q_con B dX5_countTargets_32 ?_
        refine lv_goto (tgt := 37) B.1 B.2.1 dX5_countTargets_33 (by decide) ?_
        refine p_iret B dX5_countTargets_37 ?_
        rw [← hPST]
        exact ⟨(1), rfl, by omega, by first | omega | assumption | exact trivial⟩
  · refine lv_aload_n B.1 B.2.1 dX5_countTargets_11 rfl (lv_at hl 1 rfl) ?_
    obtain ⟨b30, e31, t32⟩ := g12_0 hM.2.2.2.2.2.2.1 t_this
    obtain ⟨b33, e34, t35⟩ := g11_3 hM.2.2.2.2.2.2.1 t32
    obtain ⟨b36, e37, t38⟩ := g12_3 hM.2.2.2.2.2.2.1 t_this
    obtain ⟨b39, e40, t41⟩ := g12_4 hM.2.2.2.2.2.2.1 t_this
    obtain ⟨b42, e43, t44⟩ := g12_5 hM.2.2.2.2.2.2.1 t_this
    obtain ⟨gp45a, gp45b, gp45c, gp45d⟩ := gp2 hM.2.2.2.2.2.2.2 t_this e31 e34 e4 e37 e40 e43
    refine c_getn (k := 2) pk_X5 B hM t_this kd12 rfl (by decide) fl_X5_27 dX5_countTargets_12 e4 ?_
    refine lv_iload_n B.1 B.2.1 dX5_countTargets_15 rfl (lv_at hl 2 rfl) ?_
    have n46 : 0 ≤ N b3 ∧ N b3 ≤ 12 := gn84 hM.2.2.2.2.2.2.1 t5
    obtain ⟨x47, e48⟩ : ∃ v, I b3 a_m.toNat = v := ⟨_, rfl⟩
    have r49 : (-2147483648 : Int) ≤ x47 ∧ x47 ≤ 2147483647 := by rw [← e48]; exact ga84 hM.2.2.2.2.2.2.1 t5 (by omega)
    refine c_ild B hM t5 kd84 (by decide) dX5_countTargets_16 (by omega) (by omega) e48 ?_
    refine p_iret B dX5_countTargets_17 ?_
    rw [← hPST]
    exact ⟨x47, rfl, by omega, by first | omega | assumption | exact trivial⟩

set_option maxHeartbeats 200000000 in
set_option maxRecDepth 20000 in
theorem k_X5_target (l : Launch) (D : va_G) (dA : Nat → ClassId) (eA : Nat) (L : List Nat) (T N : Nat → Nat) (I : Nat → Nat → Int) (J : Nat → Nat → Int64) (R : Nat → Nat → Nat) (a_this : Nat) (t_this : T a_this = 12) (a_m : Int) (i_m : (-2147483648 : Int) ≤ a_m ∧ a_m ≤ 2147483647) (a_i : Int) (i_i : (-2147483648 : Int) ≤ a_i ∧ a_i ≤ 2147483647) : PC l yX5_target cX5_target 3 (some .int) ({ frames := 0, cells := 0, slots := 0, locals := 0 }) D dA eA L T N I J R [.ref a_this, .int (II a_m), .int (II a_i)] (rI (fun r => True)) := by
  generalize hPST : (rI (fun r => True)) = PST
  refine p_enter (own := RX5) (by decide) rfl (Nat.le_of_ble_eq_true rfl) (fun p e s m args below meth c ls B hX hM hl => ?_)
  have hA : ∀ q, s.heap.size ≤ q → cF dA L T N I J R s.heap.size q := fun q h => Or.inr h
  have hl : lv_has ls 3 [(0, .ref a_this), (1, .int (II a_m)), (2, .int (II a_i))] := hl
  refine lv_iload_n B.1 B.2.1 dX5_target_0 rfl (lv_at hl 1 rfl) ?_
  refine q_ilt (tgt := 23) B dX5_target_1 (by decide) (by unfold inr; omega) (fun c1 => ?_) (fun c1 => ?_)
  · refine q_con B dX5_target_23 ?_
    refine p_iret B dX5_target_24 ?_
    rw [← hPST]
    exact ⟨(-1), rfl, by omega, by first | omega | assumption | exact trivial⟩
  · refine lv_iload_n B.1 B.2.1 dX5_target_4 rfl (lv_at hl 1 rfl) ?_
    refine lv_aload_n B.1 B.2.1 dX5_target_5 rfl (lv_at hl 0 rfl) ?_
    obtain ⟨b2, e3, t4⟩ := g12_2 hM.2.2.2.2.2.2.1 t_this
    refine c_getn (k := 2) pk_X5 B hM t_this kd12 rfl (by decide) fl_X5_27 dX5_target_6 e3 ?_
    have n5 : 0 ≤ N b2 ∧ N b2 ≤ 12 := gn84 hM.2.2.2.2.2.2.1 t4
    refine c_len B hM t4 kd84 (by decide) dX5_target_9 rfl ?_
    refine q_cge (tgt := 23) B dX5_target_10 (by decide) (by unfold inr; omega) (by unfold inr; omega) (fun c6 => ?_) (fun c6 => ?_)
    · refine q_con B dX5_target_23 ?_
      refine p_iret B dX5_target_24 ?_
      rw [← hPST]
      exact ⟨(-1), rfl, by omega, by first | omega | assumption | exact trivial⟩
    · refine lv_iload_n B.1 B.2.1 dX5_target_13 rfl (lv_at hl 2 rfl) ?_
      refine q_ilt (tgt := 23) B dX5_target_14 (by decide) (by unfold inr; omega) (fun c7 => ?_) (fun c7 => ?_)
      · refine q_con B dX5_target_23 ?_
        refine p_iret B dX5_target_24 ?_
        rw [← hPST]
        exact ⟨(-1), rfl, by omega, by first | omega | assumption | exact trivial⟩
      · refine lv_iload_n B.1 B.2.1 dX5_target_17 rfl (lv_at hl 2 rfl) ?_
        refine q_bip B dX5_target_18 (by decide) ?_
        refine q_clt (tgt := 25) B dX5_target_20 (by decide) (by unfold inr; omega) (by unfold inr; omega) (fun c8 => ?_) (fun c8 => ?_)
        · refine lv_aload_n B.1 B.2.1 dX5_target_25 rfl (lv_at hl 0 rfl) ?_
          obtain ⟨b9, e10, t11⟩ := g12_0 hM.2.2.2.2.2.2.1 t_this
          obtain ⟨b12, e13, t14⟩ := g11_3 hM.2.2.2.2.2.2.1 t11
          obtain ⟨b15, e16, t17⟩ := g12_3 hM.2.2.2.2.2.2.1 t_this
          obtain ⟨b18, e19, t20⟩ := g12_4 hM.2.2.2.2.2.2.1 t_this
          obtain ⟨b21, e22, t23⟩ := g12_5 hM.2.2.2.2.2.2.1 t_this
          obtain ⟨gp24a, gp24b, gp24c, gp24d⟩ := gp2 hM.2.2.2.2.2.2.2 t_this e10 e13 e3 e16 e19 e22
          refine c_getn (k := 4) pk_X5 B hM t_this kd12 rfl (by decide) fl_X5_36 dX5_target_26 e19 ?_
          refine lv_iload_n B.1 B.2.1 dX5_target_29 rfl (lv_at hl 1 rfl) ?_
          have n25 : 0 ≤ N b18 ∧ N b18 ≤ 12 := gn86 hM.2.2.2.2.2.2.1 t20
          obtain ⟨v26, e27⟩ : ∃ v, R b18 a_m.toNat = v := ⟨_, rfl⟩
          have q28 : v26 = 0 ∨ ∃ b, v26 = b + 1 ∧ T b = 87 := by rw [← e27]; exact ga86 hM.2.2.2.2.2.2.1 t20 (k := a_m.toNat) (by omega)
          refine c_ald B hM t20 kd86 (by decide) dX5_target_30 (by omega) (by omega) e27 ?_
          rcases q28 with rfl | ⟨b29, rfl, t30⟩
          · have hl : lv_has ls 3 [(0, .ref a_this), (1, .int (II a_m)), (2, .int (II a_i))] := hl
            refine lv_ifnonnullN B.1 B.2.1 dX5_target_31 ?_
            refine lv_aload_n B.1 B.2.1 dX5_target_34 rfl (lv_at hl 0 rfl) ?_
            refine c_getn (k := 2) pk_X5 B hM t_this kd12 rfl (by decide) fl_X5_27 dX5_target_35 e3 ?_
            refine lv_iload_n B.1 B.2.1 dX5_target_38 rfl (lv_at hl 1 rfl) ?_
            obtain ⟨x31, e32⟩ : ∃ v, I b2 a_m.toNat = v := ⟨_, rfl⟩
            have r33 : (-2147483648 : Int) ≤ x31 ∧ x31 ≤ 2147483647 := by rw [← e32]; exact ga84 hM.2.2.2.2.2.2.1 t4 (by omega)
            refine c_ild B hM t4 kd84 (by decide) dX5_target_39 (by omega) (by omega) e32 ?_
            refine lv_goto (tgt := 51) B.1 B.2.1 dX5_target_40 (by decide) ?_
            refine p_iret B dX5_target_51 ?_
            rw [← hPST]
            exact ⟨x31, rfl, by omega, by first | omega | assumption | exact trivial⟩
          · have hl : lv_has ls 3 [(0, .ref a_this), (1, .int (II a_m)), (2, .int (II a_i))] := hl
            refine lv_ifnonnull (tgt := 43) B.1 B.2.1 dX5_target_31 (by decide) ?_
            refine lv_aload_n B.1 B.2.1 dX5_target_43 rfl (lv_at hl 0 rfl) ?_
            refine c_getn (k := 4) pk_X5 B hM t_this kd12 rfl (by decide) fl_X5_36 dX5_target_44 e19 ?_
            refine lv_iload_n B.1 B.2.1 dX5_target_47 rfl (lv_at hl 1 rfl) ?_
            refine c_aldn B hM t20 kd86 (by decide) dX5_target_48 (by omega) (by omega) e27 ?_
            refine lv_iload_n B.1 B.2.1 dX5_target_49 rfl (lv_at hl 2 rfl) ?_
            have n34 : 20 ≤ N b29 ∧ N b29 ≤ 20 := gn87 hM.2.2.2.2.2.2.1 t30
            obtain ⟨x35, e36⟩ : ∃ v, I b29 a_i.toNat = v := ⟨_, rfl⟩
            have r37 : (-2147483648 : Int) ≤ x35 ∧ x35 ≤ 2147483647 := by rw [← e36]; exact ga87 hM.2.2.2.2.2.2.1 t30 (by omega)
            refine c_ild B hM t30 kd87 (by decide) dX5_target_50 (by omega) (by omega) e36 ?_
            refine p_iret B dX5_target_51 ?_
            rw [← hPST]
            exact ⟨x35, rfl, by omega, by first | omega | assumption | exact trivial⟩
        · refine q_con B dX5_target_23 ?_
          refine p_iret B dX5_target_24 ?_
          rw [← hPST]
          exact ⟨(-1), rfl, by omega, by first | omega | assumption | exact trivial⟩

set_option maxHeartbeats 200000000 in
set_option maxRecDepth 20000 in
theorem k_X5_shown (l : Launch) (D : va_G) (dA : Nat → ClassId) (eA : Nat) (L : List Nat) (T N : Nat → Nat) (I : Nat → Nat → Int) (J : Nat → Nat → Int64) (R : Nat → Nat → Nat) (a_this : Nat) (t_this : T a_this = 12) (a_m : Int) (i_m : (-2147483648 : Int) ≤ a_m ∧ a_m ≤ 2147483647) : PC l yX5_shown cX5_shown 2 (some .int) ({ frames := 3, cells := 0, slots := 0, locals := 81 }) D dA eA L T N I J R [.ref a_this, .int (II a_m)] (rI (fun r => True)) := by
  generalize hPST : (rI (fun r => True)) = PST
  refine p_enter (own := RX5) (by decide) rfl (Nat.le_of_ble_eq_true rfl) (fun p e s m args below meth c ls B hX hM hl => ?_)
  have hA : ∀ q, s.heap.size ≤ q → cF dA L T N I J R s.heap.size q := fun q h => Or.inr h
  have hl : lv_has ls 2 [(0, .ref a_this), (1, .int (II a_m))] := hl
  refine lv_iload_n B.1 B.2.1 dX5_shown_0 rfl (lv_at hl 1 rfl) ?_
  refine q_ilt (tgt := 13) B dX5_shown_1 (by decide) (by unfold inr; omega) (fun c1 => ?_) (fun c1 => ?_)
  · refine q_con B dX5_shown_13 ?_
    refine p_iret B dX5_shown_14 ?_
    rw [← hPST]
    exact ⟨(0), rfl, by omega, by first | omega | assumption | exact trivial⟩
  · refine lv_iload_n B.1 B.2.1 dX5_shown_4 rfl (lv_at hl 1 rfl) ?_
    refine lv_aload_n B.1 B.2.1 dX5_shown_5 rfl (lv_at hl 0 rfl) ?_
    obtain ⟨b2, e3, t4⟩ := g12_2 hM.2.2.2.2.2.2.1 t_this
    refine c_getn (k := 2) pk_X5 B hM t_this kd12 rfl (by decide) fl_X5_27 dX5_shown_6 e3 ?_
    have n5 : 0 ≤ N b2 ∧ N b2 ≤ 12 := gn84 hM.2.2.2.2.2.2.1 t4
    refine c_len B hM t4 kd84 (by decide) dX5_shown_9 rfl ?_
    refine q_clt (tgt := 15) B dX5_shown_10 (by decide) (by unfold inr; omega) (by unfold inr; omega) (fun c6 => ?_) (fun c6 => ?_)
    · refine lv_aload_n B.1 B.2.1 dX5_shown_15 rfl (lv_at hl 0 rfl) ?_
      obtain ⟨b7, e8, t9⟩ := g12_0 hM.2.2.2.2.2.2.1 t_this
      refine c_getn (k := 0) pk_X5 B hM t_this kd12 rfl (by decide) fl_X5_9 dX5_shown_16 e8 ?_
      obtain ⟨b10, e11, t12⟩ := g11_3 hM.2.2.2.2.2.2.1 t9
      refine c_getn (k := 3) pk_X3 B hM t9 kd11 rfl (by decide) fl_X5_15 dX5_shown_19 e11 ?_
      refine lv_iload_n B.1 B.2.1 dX5_shown_22 rfl (lv_at hl 1 rfl) ?_
      obtain ⟨b13, e14, t15⟩ := g12_3 hM.2.2.2.2.2.2.1 t_this
      obtain ⟨b16, e17, t18⟩ := g12_4 hM.2.2.2.2.2.2.1 t_this
      obtain ⟨b19, e20, t21⟩ := g12_5 hM.2.2.2.2.2.2.1 t_this
      obtain ⟨gp22a, gp22b, gp22c, gp22d⟩ := gp2 hM.2.2.2.2.2.2.2 t_this e8 e11 e3 e14 e17 e20
      obtain ⟨x23, e24⟩ : ∃ v, I b10 2 = v := ⟨_, rfl⟩
      have hv25 : ((-2147483648 : Int) ≤ a_m ∧ (a_m : Int) ≤ 2147483647) ∧ (15 ≤ 19) ∧ (19 ≤ 23) ∧ (0 ≤ a_m) ∧ (a_m < I b10 2) := by first | omega | exact ⟨by first | omega | assumption | exact trivial, by first | omega | assumption | exact trivial, by first | omega | assumption | exact trivial, by first | omega | assumption | exact trivial, by first | omega | assumption | exact trivial⟩
      refine p_callr (c_runV (n := 1) (as := [.int (II a_m)]) (rest := []) B hX hA hM hl.1 t12 kd19 rfl (k_Jx4a65c_get_915e3 l D dA eA L T N I J R b10 t12 a_m hv25.1 hv25.2.1 hv25.2.2.1 hv25.2.2.2.1 hv25.2.2.2.2 _ _) ml_X5_43 nm_Jx4a65c_get_915e3 ⟨rfl, rfl⟩ ⟨Nat.le_of_ble_eq_true rfl, Nat.le_of_ble_eq_true rfl⟩ dX5_shown_23 rfl rfl (Nat.le_of_ble_eq_true rfl) ⟨Nat.zero_le _, Nat.zero_le _⟩) (fun b27 hp26 => ?_)
      obtain ⟨tb27, hp26a⟩ := hp26
      replace hp26a : R (R b10 1 - 1) a_m.toNat = b27 + 1 := hp26a
      refine c_cast B hM tb27 kd10 rfl cl_X5_47 dX5_shown_26 ?_
      obtain ⟨x28, e29⟩ : ∃ v, I b27 1 = v := ⟨_, rfl⟩
      have r30 : (-2147483648 : Int) ≤ x28 ∧ x28 ≤ 2147483647 := by rw [← e29]; exact g10_1 hM.2.2.2.2.2.2.1 tb27
      refine c_geti (k := 1) pk_X8 B hM tb27 kd10 rfl (by decide) fl_X5_49 dX5_shown_29 e29 ?_
      refine q_con B dX5_shown_32 ?_
      refine q_cne (tgt := 51) B dX5_shown_33 (by decide) (by unfold inr; omega) (by unfold inr; omega) (fun c31 => ?_) (fun c31 => ?_)
      · refine lv_aload_n B.1 B.2.1 dX5_shown_51 rfl (lv_at hl 0 rfl) ?_
        refine c_getn (k := 2) pk_X5 B hM t_this kd12 rfl (by decide) fl_X5_27 dX5_shown_52 e3 ?_
        refine lv_iload_n B.1 B.2.1 dX5_shown_55 rfl (lv_at hl 1 rfl) ?_
        obtain ⟨x32, e33⟩ : ∃ v, I b2 a_m.toNat = v := ⟨_, rfl⟩
        have r34 : (-2147483648 : Int) ≤ x32 ∧ x32 ≤ 2147483647 := by rw [← e33]; exact ga84 hM.2.2.2.2.2.2.1 t4 (by omega)
        refine c_ild B hM t4 kd84 (by decide) dX5_shown_56 (by omega) (by omega) e33 ?_
        refine p_iret B dX5_shown_57 ?_
        rw [← hPST]
        exact ⟨x32, rfl, by omega, by first | omega | assumption | exact trivial⟩
      · refine lv_aload_n B.1 B.2.1 dX5_shown_36 rfl (lv_at hl 0 rfl) ?_
        refine c_getn (k := 3) pk_X5 B hM t_this kd12 rfl (by decide) fl_X5_31 dX5_shown_37 e14 ?_
        refine lv_iload_n B.1 B.2.1 dX5_shown_40 rfl (lv_at hl 1 rfl) ?_
        have n35 : 0 ≤ N b13 ∧ N b13 ≤ 12 := gn85 hM.2.2.2.2.2.2.1 t15
        obtain ⟨x36, e37⟩ : ∃ v, I b13 a_m.toNat = v := ⟨_, rfl⟩
        have r38 : (0 : Int) ≤ x36 ∧ x36 ≤ 1 := by rw [← e37]; exact ga85 hM.2.2.2.2.2.2.1 t15 (by omega)
        refine c_zld B hM t15 kd85 (by decide) dX5_shown_41 (by omega) (by omega) e37 ?_
        refine q_ieq (tgt := 49) B dX5_shown_42 (by decide) (by unfold inr; omega) (fun c39 => ?_) (fun c39 => ?_)
        · refine q_con B dX5_shown_49 ?_
          refine p_iret B dX5_shown_50 ?_
          rw [← hPST]
          exact ⟨(0), rfl, by omega, by first | omega | assumption | exact trivial⟩
        · refine q_con B dX5_shown_45 ?_
          refine lv_goto (tgt := 50) B.1 B.2.1 dX5_shown_46 (by decide) ?_
          refine p_iret B dX5_shown_50 ?_
          rw [← hPST]
          exact ⟨(1), rfl, by omega, by first | omega | assumption | exact trivial⟩
    · refine q_con B dX5_shown_13 ?_
      refine p_iret B dX5_shown_14 ?_
      rw [← hPST]
      exact ⟨(0), rfl, by omega, by first | omega | assumption | exact trivial⟩

set_option maxHeartbeats 200000000 in
set_option maxRecDepth 20000 in
theorem k_X4_usedMarks (l : Launch) (D : va_G) (dA : Nat → ClassId) (eA : Nat) (L : List Nat) (T N : Nat → Nat) (I : Nat → Nat → Int) (J : Nat → Nat → Int64) (R : Nat → Nat → Nat) (a_uses : Nat) (t_uses : T a_uses = 20) : PC l yX4_usedMarks cX4_usedMarks 4 (some .int) ({ frames := 3, cells := 0, slots := 0, locals := 81 }) D dA eA L T N I J R [.ref a_uses] (rI (fun r => True)) := by
  generalize hPST : (rI (fun r => True)) = PST
  refine p_enter (own := RX4) (by decide) rfl (Nat.le_of_ble_eq_true rfl) (fun p e s m args below meth c ls B hX hM hl => ?_)
  have hA : ∀ q, s.heap.size ≤ q → cF dA L T N I J R s.heap.size q := fun q h => Or.inr h
  have hl : lv_has ls 4 [(0, .ref a_uses)] := hl
  refine q_con B dX4_usedMarks_0 ?_
  refine lv_istore_n (lv' := [(1, .int (II 0)), (0, .ref a_uses)]) B.1 B.2.1 dX4_usedMarks_1 rfl hl (by decide) rfl (fun ls hl => ?_)
  refine q_con B dX4_usedMarks_2 ?_
  refine lv_istore_n (lv' := [(2, .int (II 0)), (1, .int (II 0)), (0, .ref a_uses)]) B.1 B.2.1 dX4_usedMarks_3 rfl hl (by decide) rfl (fun ls hl => ?_)
  have LL4 : ∀ NN : Nat, ∀ (v4_1 : Int) (v4_2 : Int) (ls : Array Slot), lv_has ls 4 [(0, .ref a_uses), (1, .int (II v4_1)), (2, .int (II v4_2))] → ((-2147483648 : Int) ≤ v4_1 ∧ v4_1 ≤ 2147483647) → ((-2147483648 : Int) ≤ v4_2 ∧ v4_2 ≤ 2147483647) → (0 ≤ v4_2) → (v4_2 ≤ 8) → (0 ≤ 8 - v4_2) → (8 - v4_2 < (NN : Int)) → W p l e ({ frames := 3, cells := 0, slots := 0, locals := 81 }) s m args below meth c s.heap [] 0 0 (MQ below (pQ PST) args s 0 0 (fun _ => False)) (F0 m 4 ls []) := by
    intro NN
    induction NN with
    | zero => intro v4_1 v4_2 ls hl hLL4_0 hLL4_1 hLL4_2 hLL4_3 hLL4_4 hN; exfalso; omega
    | succ NN IH4 =>
      intro v4_1 v4_2 ls hl hLL4_0 hLL4_1 hLL4_2 hLL4_3 hLL4_4 hN
      refine lv_iload_n B.1 B.2.1 dX4_usedMarks_4 rfl (lv_at hl 2 rfl) ?_
      refine lv_aload_n B.1 B.2.1 dX4_usedMarks_5 rfl (lv_at hl 0 rfl) ?_
      have hv1 : (15 ≤ 20) ∧ (20 ≤ 23) := by first | omega | exact ⟨by first | omega | assumption | exact trivial, by first | omega | assumption | exact trivial⟩
      refine p_calli (c_runV (n := 0) (as := []) (rest := [.int (II v4_2)]) B hX hA hM hl.1 t_uses kd20 rfl (k_Jx4a65c_size_8abf5 l D dA eA L T N I J R a_uses t_uses hv1.1 hv1.2 _ _) ml_X4_40 nm_Jx4a65c_size_8abf5 ⟨rfl, rfl⟩ ⟨Nat.le_of_ble_eq_true rfl, Nat.le_of_ble_eq_true rfl⟩ dX4_usedMarks_6 rfl rfl (Nat.le_of_ble_eq_true rfl) ⟨Nat.zero_le _, Nat.zero_le _⟩) (fun x3 ix3 hp2 => ?_)
      have hp2a := hp2
      replace hp2a : I a_uses 2 = x3 ∧ 0 ≤ x3 ∧ x3 ≤ 8 := hp2a
      obtain ⟨hp2a_0, hp2a_1, hp2a_2⟩ := hp2a
      refine q_cge (tgt := 50) B dX4_usedMarks_9 (by decide) (by unfold inr; omega) (by unfold inr; omega) (fun c4 => ?_) (fun c4 => ?_)
      · refine lv_iload_n B.1 B.2.1 dX4_usedMarks_50 rfl (lv_at hl 1 rfl) ?_
        refine p_iret B dX4_usedMarks_51 ?_
        rw [← hPST]
        exact ⟨v4_1, rfl, by omega, by first | omega | assumption | exact trivial⟩
      · refine lv_aload_n B.1 B.2.1 dX4_usedMarks_12 rfl (lv_at hl 0 rfl) ?_
        refine lv_iload_n B.1 B.2.1 dX4_usedMarks_13 rfl (lv_at hl 2 rfl) ?_
        have hv5 : ((-2147483648 : Int) ≤ v4_2 ∧ (v4_2 : Int) ≤ 2147483647) ∧ (15 ≤ 20) ∧ (20 ≤ 23) ∧ (0 ≤ v4_2) ∧ (v4_2 < I a_uses 2) := by first | omega | exact ⟨by first | omega | assumption | exact trivial, by first | omega | assumption | exact trivial, by first | omega | assumption | exact trivial, by first | omega | assumption | exact trivial, by first | omega | assumption | exact trivial⟩
        refine p_callr (c_runV (n := 1) (as := [.int (II v4_2)]) (rest := []) B hX hA hM hl.1 t_uses kd20 rfl (k_Jx4a65c_get_915e3 l D dA eA L T N I J R a_uses t_uses v4_2 hv5.1 hv5.2.1 hv5.2.2.1 hv5.2.2.2.1 hv5.2.2.2.2 _ _) ml_X4_46 nm_Jx4a65c_get_915e3 ⟨rfl, rfl⟩ ⟨Nat.le_of_ble_eq_true rfl, Nat.le_of_ble_eq_true rfl⟩ dX4_usedMarks_14 rfl rfl (Nat.le_of_ble_eq_true rfl) ⟨Nat.zero_le _, Nat.zero_le _⟩) (fun b7 hp6 => ?_)
        obtain ⟨tb7, hp6a⟩ := hp6
        replace hp6a : R (R a_uses 1 - 1) v4_2.toNat = b7 + 1 := hp6a
        refine c_cast B hM tb7 kd9 rfl cl_X4_95 dX4_usedMarks_17 ?_
        obtain ⟨x8, e9⟩ : ∃ v, I b7 0 = v := ⟨_, rfl⟩
        have r10 : (-2147483648 : Int) ≤ x8 ∧ x8 ≤ 2147483647 := by rw [← e9]; exact g9_0 hM.2.2.2.2.2.2.1 tb7
        refine c_geti (k := 0) pk_X10 B hM tb7 kd9 rfl (by decide) fl_X4_97 dX4_usedMarks_20 e9 ?_
        refine q_sip B dX4_usedMarks_23 (by decide) ?_
        refine q_sub B dX4_usedMarks_26 ?_
        refine q_wrap (fun x11 ix11 => ?_)
        refine lv_istore_n (lv' := [(3, .int (II x11)), (0, .ref a_uses), (1, .int (II v4_1)), (2, .int (II v4_2))]) B.1 B.2.1 dX4_usedMarks_27 rfl hl (by decide) rfl (fun ls hl => ?_)
        refine lv_iload_n B.1 B.2.1 dX4_usedMarks_28 rfl (lv_at hl 0 rfl) ?_
        refine q_ilt (tgt := 44) B dX4_usedMarks_29 (by decide) (by unfold inr; omega) (fun c12 => ?_) (fun c12 => ?_)
        · refine q_inc (lv' := [(2, .int (II (v4_2 + 1))), (3, .int (II x11)), (0, .ref a_uses), (1, .int (II v4_1))]) B dX4_usedMarks_44 hl (k := 3) rfl (by decide) rfl (fun ls hl => ?_)
          refine lv_goto (tgt := 4) B.1 B.2.1 dX4_usedMarks_47 (by decide) ?_
          have hv13 : ((-2147483648 : Int) ≤ v4_1 ∧ (v4_1 : Int) ≤ 2147483647) ∧ ((-2147483648 : Int) ≤ v4_2 + 1 ∧ (v4_2 + 1 : Int) ≤ 2147483647) ∧ (0 ≤ (v4_2 + 1)) ∧ ((v4_2 + 1) ≤ 8) ∧ (0 ≤ 8 - (v4_2 + 1)) := by first | omega | exact ⟨by first | omega | assumption | exact trivial, by first | omega | assumption | exact trivial, by first | omega | assumption | exact trivial, by first | omega | assumption | exact trivial, by first | omega | assumption | exact trivial⟩
          exact IH4 v4_1 (v4_2 + 1) ls (lv_sub hl [2, 3, 0] rfl) hv13.1 hv13.2.1 hv13.2.2.1 hv13.2.2.2.1 hv13.2.2.2.2 (by omega)
        · refine lv_iload_n B.1 B.2.1 dX4_usedMarks_32 rfl (lv_at hl 0 rfl) ?_
          refine q_bip B dX4_usedMarks_33 (by decide) ?_
          refine q_cge (tgt := 44) B dX4_usedMarks_35 (by decide) (by unfold inr; omega) (by unfold inr; omega) (fun c14 => ?_) (fun c14 => ?_)
          · refine q_inc (lv' := [(2, .int (II (v4_2 + 1))), (3, .int (II x11)), (0, .ref a_uses), (1, .int (II v4_1))]) B dX4_usedMarks_44 hl (k := 3) rfl (by decide) rfl (fun ls hl => ?_)
            refine lv_goto (tgt := 4) B.1 B.2.1 dX4_usedMarks_47 (by decide) ?_
            have hv15 : ((-2147483648 : Int) ≤ v4_1 ∧ (v4_1 : Int) ≤ 2147483647) ∧ ((-2147483648 : Int) ≤ v4_2 + 1 ∧ (v4_2 + 1 : Int) ≤ 2147483647) ∧ (0 ≤ (v4_2 + 1)) ∧ ((v4_2 + 1) ≤ 8) ∧ (0 ≤ 8 - (v4_2 + 1)) := by first | omega | exact ⟨by first | omega | assumption | exact trivial, by first | omega | assumption | exact trivial, by first | omega | assumption | exact trivial, by first | omega | assumption | exact trivial, by first | omega | assumption | exact trivial⟩
            exact IH4 v4_1 (v4_2 + 1) ls (lv_sub hl [2, 3, 0] rfl) hv15.1 hv15.2.1 hv15.2.2.1 hv15.2.2.2.1 hv15.2.2.2.2 (by omega)
          · refine lv_iload_n B.1 B.2.1 dX4_usedMarks_38 rfl (lv_at hl 2 rfl) ?_
            refine q_con B dX4_usedMarks_39 ?_
            refine lv_iload_n B.1 B.2.1 dX4_usedMarks_40 rfl (lv_at hl 0 rfl) ?_
            refine q_shl B dX4_usedMarks_41 (fun x16 ix16 => ?_)
            unfold inr at ix16
            refine q_or B dX4_usedMarks_42 (fun x17 ix17 ex17 => ?_)
            unfold inr at ix17
            refine lv_istore_n (lv' := [(1, .int (II x17)), (3, .int (II x11)), (0, .ref a_uses), (2, .int (II v4_2))]) B.1 B.2.1 dX4_usedMarks_43 rfl hl (by decide) rfl (fun ls hl => ?_)
            refine q_inc (lv' := [(2, .int (II (v4_2 + 1))), (1, .int (II x17)), (3, .int (II x11)), (0, .ref a_uses)]) B dX4_usedMarks_44 hl (k := 3) rfl (by decide) rfl (fun ls hl => ?_)
            refine lv_goto (tgt := 4) B.1 B.2.1 dX4_usedMarks_47 (by decide) ?_
            have hv18 : ((-2147483648 : Int) ≤ x17 ∧ (x17 : Int) ≤ 2147483647) ∧ ((-2147483648 : Int) ≤ v4_2 + 1 ∧ (v4_2 + 1 : Int) ≤ 2147483647) ∧ (0 ≤ (v4_2 + 1)) ∧ ((v4_2 + 1) ≤ 8) ∧ (0 ≤ 8 - (v4_2 + 1)) := by first | omega | exact ⟨by first | omega | assumption | exact trivial, by first | omega | assumption | exact trivial, by first | omega | assumption | exact trivial, by first | omega | assumption | exact trivial, by first | omega | assumption | exact trivial⟩
            exact IH4 x17 (v4_2 + 1) ls (lv_sub hl [3, 1, 0] rfl) hv18.1 hv18.2.1 hv18.2.2.1 hv18.2.2.2.1 hv18.2.2.2.2 (by omega)
  have hv19 : ((-2147483648 : Int) ≤ 0 ∧ (0 : Int) ≤ 2147483647) ∧ ((-2147483648 : Int) ≤ 0 ∧ (0 : Int) ≤ 2147483647) ∧ (0 ≤ (0 : Int)) ∧ ((0 : Int) ≤ 8) ∧ (0 ≤ 8 - (0 : Int)) := by first | omega | exact ⟨by first | omega | assumption | exact trivial, by first | omega | assumption | exact trivial, by first | omega | assumption | exact trivial, by first | omega | assumption | exact trivial, by first | omega | assumption | exact trivial⟩
  exact LL4 (Int.toNat (8 - (0 : Int) + 1)) 0 0 ls (lv_sub hl [2, 1, 0] rfl) hv19.1 hv19.2.1 hv19.2.2.1 hv19.2.2.2.1 hv19.2.2.2.2 (by omega)

set_option maxHeartbeats 200000000 in
set_option maxRecDepth 20000 in
theorem k_X4_fitsNumbers (l : Launch) (D : va_G) (dA : Nat → ClassId) (eA : Nat) (L : List Nat) (T N : Nat → Nat) (I : Nat → Nat → Int) (J : Nat → Nat → Int64) (R : Nat → Nat → Nat) (a_use : Nat) (t_use : T a_use = 9) : PC l yX4_fitsNumbers cX4_fitsNumbers 1 (some .boolean) ({ frames := 2, cells := 0, slots := 0, locals := 44 }) D dA eA L T N I J R [.ref a_use] (rI (fun r => (0 : Int) ≤ r ∧ r ≤ 1 ∧ (True))) := by
  generalize hPST : (rI (fun r => (0 : Int) ≤ r ∧ r ≤ 1 ∧ (True))) = PST
  refine p_enter (own := RX4) (by decide) rfl (Nat.le_of_ble_eq_true rfl) (fun p e s m args below meth c ls B hX hM hl => ?_)
  have hA : ∀ q, s.heap.size ≤ q → cF dA L T N I J R s.heap.size q := fun q h => Or.inr h
  have hl : lv_has ls 1 [(0, .ref a_use)] := hl
  refine lv_aload_n B.1 B.2.1 dX4_fitsNumbers_0 rfl (lv_at hl 0 rfl) ?_
  obtain ⟨x1, e2⟩ : ∃ v, I a_use 0 = v := ⟨_, rfl⟩
  have r3 : (-2147483648 : Int) ≤ x1 ∧ x1 ≤ 2147483647 := by rw [← e2]; exact g9_0 hM.2.2.2.2.2.2.1 t_use
  refine c_geti (k := 0) pk_X10 B hM t_use kd9 rfl (by decide) fl_X4_97 dX4_fitsNumbers_1 e2 ?_
  by_cases hsw : x1 < 1 ∨ 6 < x1
  · refine lv_tableOut (tgt := 78) B.1 B.2.1 dX4_fitsNumbers_4 (by rw [II_toInt (by unfold inr; omega)]; omega) (by decide) ?_
    refine lv_aload_n B.1 B.2.1 dX4_fitsNumbers_78 rfl (lv_at hl 0 rfl) ?_
    refine q_con B dX4_fitsNumbers_79 ?_
    refine q_con B dX4_fitsNumbers_80 ?_
    have hv4 : ((-2147483648 : Int) ≤ 0 ∧ (0 : Int) ≤ 2147483647) ∧ ((-2147483648 : Int) ≤ 2 ∧ (2 : Int) ≤ 2147483647) := by first | omega | exact ⟨by first | omega | assumption | exact trivial, by first | omega | assumption | exact trivial⟩
    refine p_calli (c_runV (n := 2) (as := [.int (II 0), .int (II 2)]) (rest := []) B hX hA hM hl.1 t_use kd9 rfl (k_X10_takesNumbers l D dA eA L T N I J R a_use t_use (0) hv4.1 (2) hv4.2 _ _) ml_X4_182 nm_X10_takesNumbers ⟨rfl, rfl⟩ ⟨Nat.le_of_ble_eq_true rfl, Nat.le_of_ble_eq_true rfl⟩ dX4_fitsNumbers_81 rfl rfl (Nat.le_of_ble_eq_true rfl) ⟨Nat.zero_le _, Nat.zero_le _⟩) (fun x6 ix6 hp5 => ?_)
    have hp5a := hp5
    replace hp5a : (0 : Int) ≤ x6 ∧ x6 ≤ 1 ∧ (True) := hp5a
    obtain ⟨hp5a_0, hp5a_1, hp5a_2⟩ := hp5a
    refine p_zret B dX4_fitsNumbers_84 (by omega) (by omega) ?_
    rw [← hPST]
    exact ⟨x6, rfl, by omega, by omega, by omega, by first | omega | assumption | exact trivial⟩
  have hdj : x1 = 1 ∨ x1 = 2 ∨ x1 = 3 ∨ x1 = 4 ∨ x1 = 5 ∨ x1 = 6 := by omega
  clear hsw
  rcases hdj with hsw0 | hsw1 | hsw2 | hsw3 | hsw4 | hsw5
  · refine lv_tableIn (off := 40) (tgt := 44) B.1 B.2.1 dX4_fitsNumbers_4 (by rw [II_toInt (by unfold inr; omega)]; omega) (by rw [II_toInt (by unfold inr; omega)]; omega) (by rw [II_toInt (by unfold inr; omega), hsw0]; decide) (by decide) ?_
    refine lv_aload_n B.1 B.2.1 dX4_fitsNumbers_44 rfl (lv_at hl 0 rfl) ?_
    obtain ⟨x7, e8⟩ : ∃ v, I a_use 1 = v := ⟨_, rfl⟩
    have r9 : (-2147483648 : Int) ≤ x7 ∧ x7 ≤ 2147483647 := by rw [← e8]; exact g9_1 hM.2.2.2.2.2.2.1 t_use
    refine c_geti (k := 1) pk_X10 B hM t_use kd9 rfl (by decide) fl_X4_179 dX4_fitsNumbers_45 e8 ?_
    refine q_ine (tgt := 55) B dX4_fitsNumbers_48 (by decide) (by unfold inr; omega) (fun c10 => ?_) (fun c10 => ?_)
    · refine q_con B dX4_fitsNumbers_55 ?_
      refine p_zret B dX4_fitsNumbers_56 (by omega) (by omega) ?_
      rw [← hPST]
      exact ⟨(0), rfl, by omega, by omega, by omega, by first | omega | assumption | exact trivial⟩
    · refine q_con B dX4_fitsNumbers_51 ?_
      refine lv_goto (tgt := 56) B.1 B.2.1 dX4_fitsNumbers_52 (by decide) ?_
      refine p_zret B dX4_fitsNumbers_56 (by omega) (by omega) ?_
      rw [← hPST]
      exact ⟨(1), rfl, by omega, by omega, by omega, by first | omega | assumption | exact trivial⟩
  · refine lv_tableIn (off := 40) (tgt := 44) B.1 B.2.1 dX4_fitsNumbers_4 (by rw [II_toInt (by unfold inr; omega)]; omega) (by rw [II_toInt (by unfold inr; omega)]; omega) (by rw [II_toInt (by unfold inr; omega), hsw1]; decide) (by decide) ?_
    refine lv_aload_n B.1 B.2.1 dX4_fitsNumbers_44 rfl (lv_at hl 0 rfl) ?_
    obtain ⟨x11, e12⟩ : ∃ v, I a_use 1 = v := ⟨_, rfl⟩
    have r13 : (-2147483648 : Int) ≤ x11 ∧ x11 ≤ 2147483647 := by rw [← e12]; exact g9_1 hM.2.2.2.2.2.2.1 t_use
    refine c_geti (k := 1) pk_X10 B hM t_use kd9 rfl (by decide) fl_X4_179 dX4_fitsNumbers_45 e12 ?_
    refine q_ine (tgt := 55) B dX4_fitsNumbers_48 (by decide) (by unfold inr; omega) (fun c14 => ?_) (fun c14 => ?_)
    · refine q_con B dX4_fitsNumbers_55 ?_
      refine p_zret B dX4_fitsNumbers_56 (by omega) (by omega) ?_
      rw [← hPST]
      exact ⟨(0), rfl, by omega, by omega, by omega, by first | omega | assumption | exact trivial⟩
    · refine q_con B dX4_fitsNumbers_51 ?_
      refine lv_goto (tgt := 56) B.1 B.2.1 dX4_fitsNumbers_52 (by decide) ?_
      refine p_zret B dX4_fitsNumbers_56 (by omega) (by omega) ?_
      rw [← hPST]
      exact ⟨(1), rfl, by omega, by omega, by omega, by first | omega | assumption | exact trivial⟩
  · refine lv_tableIn (off := 53) (tgt := 57) B.1 B.2.1 dX4_fitsNumbers_4 (by rw [II_toInt (by unfold inr; omega)]; omega) (by rw [II_toInt (by unfold inr; omega)]; omega) (by rw [II_toInt (by unfold inr; omega), hsw2]; decide) (by decide) ?_
    refine lv_aload_n B.1 B.2.1 dX4_fitsNumbers_57 rfl (lv_at hl 0 rfl) ?_
    refine q_con B dX4_fitsNumbers_58 ?_
    refine q_con B dX4_fitsNumbers_59 ?_
    have hv15 : ((-2147483648 : Int) ≤ 1 ∧ (1 : Int) ≤ 2147483647) ∧ ((-2147483648 : Int) ≤ 1 ∧ (1 : Int) ≤ 2147483647) := by first | omega | exact ⟨by first | omega | assumption | exact trivial, by first | omega | assumption | exact trivial⟩
    refine p_calli (c_runV (n := 2) (as := [.int (II 1), .int (II 1)]) (rest := []) B hX hA hM hl.1 t_use kd9 rfl (k_X10_takesNumbers l D dA eA L T N I J R a_use t_use (1) hv15.1 (1) hv15.2 _ _) ml_X4_182 nm_X10_takesNumbers ⟨rfl, rfl⟩ ⟨Nat.le_of_ble_eq_true rfl, Nat.le_of_ble_eq_true rfl⟩ dX4_fitsNumbers_60 rfl rfl (Nat.le_of_ble_eq_true rfl) ⟨Nat.zero_le _, Nat.zero_le _⟩) (fun x17 ix17 hp16 => ?_)
    have hp16a := hp16
    replace hp16a : (0 : Int) ≤ x17 ∧ x17 ≤ 1 ∧ (True) := hp16a
    obtain ⟨hp16a_0, hp16a_1, hp16a_2⟩ := hp16a
    refine p_zret B dX4_fitsNumbers_63 (by omega) (by omega) ?_
    rw [← hPST]
    exact ⟨x17, rfl, by omega, by omega, by omega, by first | omega | assumption | exact trivial⟩
  · refine lv_tableIn (off := 53) (tgt := 57) B.1 B.2.1 dX4_fitsNumbers_4 (by rw [II_toInt (by unfold inr; omega)]; omega) (by rw [II_toInt (by unfold inr; omega)]; omega) (by rw [II_toInt (by unfold inr; omega), hsw3]; decide) (by decide) ?_
    refine lv_aload_n B.1 B.2.1 dX4_fitsNumbers_57 rfl (lv_at hl 0 rfl) ?_
    refine q_con B dX4_fitsNumbers_58 ?_
    refine q_con B dX4_fitsNumbers_59 ?_
    have hv18 : ((-2147483648 : Int) ≤ 1 ∧ (1 : Int) ≤ 2147483647) ∧ ((-2147483648 : Int) ≤ 1 ∧ (1 : Int) ≤ 2147483647) := by first | omega | exact ⟨by first | omega | assumption | exact trivial, by first | omega | assumption | exact trivial⟩
    refine p_calli (c_runV (n := 2) (as := [.int (II 1), .int (II 1)]) (rest := []) B hX hA hM hl.1 t_use kd9 rfl (k_X10_takesNumbers l D dA eA L T N I J R a_use t_use (1) hv18.1 (1) hv18.2 _ _) ml_X4_182 nm_X10_takesNumbers ⟨rfl, rfl⟩ ⟨Nat.le_of_ble_eq_true rfl, Nat.le_of_ble_eq_true rfl⟩ dX4_fitsNumbers_60 rfl rfl (Nat.le_of_ble_eq_true rfl) ⟨Nat.zero_le _, Nat.zero_le _⟩) (fun x20 ix20 hp19 => ?_)
    have hp19a := hp19
    replace hp19a : (0 : Int) ≤ x20 ∧ x20 ≤ 1 ∧ (True) := hp19a
    obtain ⟨hp19a_0, hp19a_1, hp19a_2⟩ := hp19a
    refine p_zret B dX4_fitsNumbers_63 (by omega) (by omega) ?_
    rw [← hPST]
    exact ⟨x20, rfl, by omega, by omega, by omega, by first | omega | assumption | exact trivial⟩
  · refine lv_tableIn (off := 60) (tgt := 64) B.1 B.2.1 dX4_fitsNumbers_4 (by rw [II_toInt (by unfold inr; omega)]; omega) (by rw [II_toInt (by unfold inr; omega)]; omega) (by rw [II_toInt (by unfold inr; omega), hsw4]; decide) (by decide) ?_
    refine lv_aload_n B.1 B.2.1 dX4_fitsNumbers_64 rfl (lv_at hl 0 rfl) ?_
    refine q_con B dX4_fitsNumbers_65 ?_
    refine q_con B dX4_fitsNumbers_66 ?_
    have hv21 : ((-2147483648 : Int) ≤ 2 ∧ (2 : Int) ≤ 2147483647) ∧ ((-2147483648 : Int) ≤ 2 ∧ (2 : Int) ≤ 2147483647) := by first | omega | exact ⟨by first | omega | assumption | exact trivial, by first | omega | assumption | exact trivial⟩
    refine p_calli (c_runV (n := 2) (as := [.int (II 2), .int (II 2)]) (rest := []) B hX hA hM hl.1 t_use kd9 rfl (k_X10_takesNumbers l D dA eA L T N I J R a_use t_use (2) hv21.1 (2) hv21.2 _ _) ml_X4_182 nm_X10_takesNumbers ⟨rfl, rfl⟩ ⟨Nat.le_of_ble_eq_true rfl, Nat.le_of_ble_eq_true rfl⟩ dX4_fitsNumbers_67 rfl rfl (Nat.le_of_ble_eq_true rfl) ⟨Nat.zero_le _, Nat.zero_le _⟩) (fun x23 ix23 hp22 => ?_)
    have hp22a := hp22
    replace hp22a : (0 : Int) ≤ x23 ∧ x23 ≤ 1 ∧ (True) := hp22a
    obtain ⟨hp22a_0, hp22a_1, hp22a_2⟩ := hp22a
    refine p_zret B dX4_fitsNumbers_70 (by omega) (by omega) ?_
    rw [← hPST]
    exact ⟨x23, rfl, by omega, by omega, by omega, by first | omega | assumption | exact trivial⟩
  · refine lv_tableIn (off := 67) (tgt := 71) B.1 B.2.1 dX4_fitsNumbers_4 (by rw [II_toInt (by unfold inr; omega)]; omega) (by rw [II_toInt (by unfold inr; omega)]; omega) (by rw [II_toInt (by unfold inr; omega), hsw5]; decide) (by decide) ?_
    refine lv_aload_n B.1 B.2.1 dX4_fitsNumbers_71 rfl (lv_at hl 0 rfl) ?_
    refine q_con B dX4_fitsNumbers_72 ?_
    refine q_con B dX4_fitsNumbers_73 ?_
    have hv24 : ((-2147483648 : Int) ≤ 1 ∧ (1 : Int) ≤ 2147483647) ∧ ((-2147483648 : Int) ≤ 4 ∧ (4 : Int) ≤ 2147483647) := by first | omega | exact ⟨by first | omega | assumption | exact trivial, by first | omega | assumption | exact trivial⟩
    refine p_calli (c_runV (n := 2) (as := [.int (II 1), .int (II 4)]) (rest := []) B hX hA hM hl.1 t_use kd9 rfl (k_X10_takesNumbers l D dA eA L T N I J R a_use t_use (1) hv24.1 (4) hv24.2 _ _) ml_X4_182 nm_X10_takesNumbers ⟨rfl, rfl⟩ ⟨Nat.le_of_ble_eq_true rfl, Nat.le_of_ble_eq_true rfl⟩ dX4_fitsNumbers_74 rfl rfl (Nat.le_of_ble_eq_true rfl) ⟨Nat.zero_le _, Nat.zero_le _⟩) (fun x26 ix26 hp25 => ?_)
    have hp25a := hp25
    replace hp25a : (0 : Int) ≤ x26 ∧ x26 ≤ 1 ∧ (True) := hp25a
    obtain ⟨hp25a_0, hp25a_1, hp25a_2⟩ := hp25a
    refine p_zret B dX4_fitsNumbers_77 (by omega) (by omega) ?_
    rw [← hPST]
    exact ⟨x26, rfl, by omega, by omega, by omega, by first | omega | assumption | exact trivial⟩

set_option maxHeartbeats 200000000 in
set_option maxRecDepth 20000 in
theorem k_X6_twoEquals (l : Launch) (D : va_G) (dA : Nat → ClassId) (eA : Nat) (L : List Nat) (T N : Nat → Nat) (I : Nat → Nat → Int) (J : Nat → Nat → Int64) (R : Nat → Nat → Nat) (a_this : Nat) (t_this : T a_this = 7) : PC l yX6_twoEquals cX6_twoEquals 1 (some .boolean) ({ frames := 0, cells := 0, slots := 0, locals := 0 }) D dA eA L T N I J R [.ref a_this] (rI (fun r => (0 : Int) ≤ r ∧ r ≤ 1 ∧ (True))) := by
  generalize hPST : (rI (fun r => (0 : Int) ≤ r ∧ r ≤ 1 ∧ (True))) = PST
  refine p_enter (own := RX6) (by decide) rfl (Nat.le_of_ble_eq_true rfl) (fun p e s m args below meth c ls B hX hM hl => ?_)
  have hA : ∀ q, s.heap.size ≤ q → cF dA L T N I J R s.heap.size q := fun q h => Or.inr h
  have hl : lv_has ls 1 [(0, .ref a_this)] := hl
  refine lv_aload_n B.1 B.2.1 dX6_twoEquals_0 rfl (lv_at hl 0 rfl) ?_
  obtain ⟨x1, e2⟩ : ∃ v, I a_this 5 = v := ⟨_, rfl⟩
  have r3 : (0 : Int) ≤ x1 ∧ x1 ≤ 3000 := by rw [← e2]; exact g7_5 hM.2.2.2.2.2.2.1 t_this
  refine c_geti (k := 5) pk_X6 B hM t_this kd7 rfl (by decide) fl_X6_39 dX6_twoEquals_1 e2 ?_
  refine q_sip B dX6_twoEquals_4 (by decide) ?_
  refine q_cge (tgt := 33) B dX6_twoEquals_7 (by decide) (by unfold inr; omega) (by unfold inr; omega) (fun c4 => ?_) (fun c4 => ?_)
  · refine q_con B dX6_twoEquals_33 ?_
    refine p_zret B dX6_twoEquals_34 (by omega) (by omega) ?_
    rw [← hPST]
    exact ⟨(0), rfl, by omega, by omega, by omega, by first | omega | assumption | exact trivial⟩
  · refine lv_aload_n B.1 B.2.1 dX6_twoEquals_10 rfl (lv_at hl 0 rfl) ?_
    obtain ⟨b5, e6, t7⟩ := g7_3 hM.2.2.2.2.2.2.1 t_this
    refine c_getn (k := 3) pk_X6 B hM t_this kd7 rfl (by decide) fl_X6_9 dX6_twoEquals_11 e6 ?_
    obtain ⟨b8, e9, t10⟩ := g3_0 hM.2.2.2.2.2.2.1 t7
    refine c_getn (k := 0) pk_X9 B hM t7 kd3 rfl (by decide) fl_X6_42 dX6_twoEquals_14 e9 ?_
    refine lv_aload_n B.1 B.2.1 dX6_twoEquals_17 rfl (lv_at hl 0 rfl) ?_
    refine c_geti (k := 5) pk_X6 B hM t_this kd7 rfl (by decide) fl_X6_39 dX6_twoEquals_18 e2 ?_
    refine q_con B dX6_twoEquals_21 ?_
    refine q_add B dX6_twoEquals_22 ?_
    have n11 : 3001 ≤ N b8 ∧ N b8 ≤ 3001 := gn62 hM.2.2.2.2.2.2.1 t10
    obtain ⟨x12, e13⟩ : ∃ v, I b8 ((x1 + (1 : Int)).toNat) = v := ⟨_, rfl⟩
    have r14 : (-2147483648 : Int) ≤ x12 ∧ x12 ≤ 2147483647 := by rw [← e13]; exact ga62 hM.2.2.2.2.2.2.1 t10 (by omega)
    refine c_ild B hM t10 kd62 (by decide) dX6_twoEquals_23 (by omega) (by omega) e13 ?_
    refine q_bip B dX6_twoEquals_24 (by decide) ?_
    refine q_cne (tgt := 33) B dX6_twoEquals_26 (by decide) (by unfold inr; omega) (by unfold inr; omega) (fun c15 => ?_) (fun c15 => ?_)
    · refine q_con B dX6_twoEquals_33 ?_
      refine p_zret B dX6_twoEquals_34 (by omega) (by omega) ?_
      rw [← hPST]
      exact ⟨(0), rfl, by omega, by omega, by omega, by first | omega | assumption | exact trivial⟩
    · refine q_con B dX6_twoEquals_29 ?_
      refine lv_goto (tgt := 34) B.1 B.2.1 dX6_twoEquals_30 (by decide) ?_
      refine p_zret B dX6_twoEquals_34 (by omega) (by omega) ?_
      rw [← hPST]
      exact ⟨(1), rfl, by omega, by omega, by omega, by first | omega | assumption | exact trivial⟩

set_option maxHeartbeats 200000000 in
set_option maxRecDepth 20000 in
theorem k_X6_depthBehind (l : Launch) (D : va_G) (dA : Nat → ClassId) (eA : Nat) (L : List Nat) (T N : Nat → Nat) (I : Nat → Nat → Int) (J : Nat → Nat → Int64) (R : Nat → Nat → Nat) (a_op : Int) (i_op : (-2147483648 : Int) ≤ a_op ∧ a_op ≤ 2147483647) (a_d : Int) (i_d : (-2147483648 : Int) ≤ a_d ∧ a_d ≤ 2147483647) (a_s : Int) (i_s : (0 : Int) ≤ a_s ∧ a_s ≤ 1) (p_0 : 0 ≤ a_d) (p_1 : a_d ≤ 16) : PC l yX6_depthBehind cX6_depthBehind 4 (some .int) ({ frames := 0, cells := 0, slots := 0, locals := 0 }) D dA eA L T N I J R [.int (II a_op), .int (II a_d), .int (II a_s)] (rI (fun r => r = -1 ∨ (0 ≤ r ∧ r ≤ 16))) := by
  generalize hPST : (rI (fun r => r = -1 ∨ (0 ≤ r ∧ r ≤ 16))) = PST
  refine p_enter (own := RX6) (by decide) rfl (Nat.le_of_ble_eq_true rfl) (fun p e s m args below meth c ls B hX hM hl => ?_)
  have hA : ∀ q, s.heap.size ≤ q → cF dA L T N I J R s.heap.size q := fun q h => Or.inr h
  have hl : lv_has ls 4 [(0, .int (II a_op)), (1, .int (II a_d)), (2, .int (II a_s))] := hl
  refine lv_iload_n B.1 B.2.1 dX6_depthBehind_0 rfl (lv_at hl 0 rfl) ?_
  refine q_bip B dX6_depthBehind_1 (by decide) ?_
  have JJ23 : ∀ (s23_0 : Int) (ls : Array Slot), lv_has ls 4 [(0, .int (II a_op)), (1, .int (II a_d)), (2, .int (II a_s))] → ((-2147483648 : Int) ≤ s23_0 ∧ s23_0 ≤ 2147483647) → (0 ≤ s23_0) → (s23_0 ≤ 1) → W p l e ({ frames := 0, cells := 0, slots := 0, locals := 0 }) s m args below meth c s.heap [] 0 0 (MQ below (pQ PST) args s 0 0 (fun _ => False)) (F0 m 23 ls [.int (II s23_0)]) := by
    intro s23_0 ls hl hJJ23_0 hJJ23_1 hJJ23_2
    refine lv_istore_n (lv' := [(3, .int (II s23_0)), (0, .int (II a_op)), (1, .int (II a_d)), (2, .int (II a_s))]) B.1 B.2.1 dX6_depthBehind_23 rfl hl (by decide) rfl (fun ls hl => ?_)
    refine lv_iload_n B.1 B.2.1 dX6_depthBehind_24 rfl (lv_at hl 0 rfl) ?_
    refine q_ine (tgt := 34) B dX6_depthBehind_25 (by decide) (by unfold inr; omega) (fun c1 => ?_) (fun c1 => ?_)
    · refine lv_iload_n B.1 B.2.1 dX6_depthBehind_34 rfl (lv_at hl 0 rfl) ?_
      refine q_ieq (tgt := 42) B dX6_depthBehind_35 (by decide) (by unfold inr; omega) (fun c2 => ?_) (fun c2 => ?_)
      · refine lv_iload_n B.1 B.2.1 dX6_depthBehind_42 rfl (lv_at hl 2 rfl) ?_
        refine q_bip B dX6_depthBehind_43 (by decide) ?_
        refine q_clt (tgt := 52) B dX6_depthBehind_45 (by decide) (by unfold inr; omega) (by unfold inr; omega) (fun c3 => ?_) (fun c3 => ?_)
        · refine lv_iload_n B.1 B.2.1 dX6_depthBehind_52 rfl (lv_at hl 2 rfl) ?_
          refine q_con B dX6_depthBehind_53 ?_
          refine q_add B dX6_depthBehind_54 ?_
          refine p_iret B dX6_depthBehind_55 ?_
          rw [← hPST]
          exact ⟨(a_d + (1 : Int)), rfl, by omega, by first | omega | assumption | exact trivial⟩
        · refine q_con B dX6_depthBehind_48 ?_
          refine lv_goto (tgt := 55) B.1 B.2.1 dX6_depthBehind_49 (by decide) ?_
          refine p_iret B dX6_depthBehind_55 ?_
          rw [← hPST]
          exact ⟨(-1), rfl, by omega, by first | omega | assumption | exact trivial⟩
      · refine lv_iload_n B.1 B.2.1 dX6_depthBehind_38 rfl (lv_at hl 3 rfl) ?_
        refine q_ine (tgt := 48) B dX6_depthBehind_39 (by decide) (by unfold inr; omega) (fun c4 => ?_) (fun c4 => ?_)
        · refine q_con B dX6_depthBehind_48 ?_
          refine lv_goto (tgt := 55) B.1 B.2.1 dX6_depthBehind_49 (by decide) ?_
          refine p_iret B dX6_depthBehind_55 ?_
          rw [← hPST]
          exact ⟨(-1), rfl, by omega, by first | omega | assumption | exact trivial⟩
        · refine lv_iload_n B.1 B.2.1 dX6_depthBehind_42 rfl (lv_at hl 2 rfl) ?_
          refine q_bip B dX6_depthBehind_43 (by decide) ?_
          refine q_clt (tgt := 52) B dX6_depthBehind_45 (by decide) (by unfold inr; omega) (by unfold inr; omega) (fun c5 => ?_) (fun c5 => ?_)
          · refine lv_iload_n B.1 B.2.1 dX6_depthBehind_52 rfl (lv_at hl 2 rfl) ?_
            refine q_con B dX6_depthBehind_53 ?_
            refine q_add B dX6_depthBehind_54 ?_
            refine p_iret B dX6_depthBehind_55 ?_
            rw [← hPST]
            exact ⟨(a_d + (1 : Int)), rfl, by omega, by first | omega | assumption | exact trivial⟩
          · refine q_con B dX6_depthBehind_48 ?_
            refine lv_goto (tgt := 55) B.1 B.2.1 dX6_depthBehind_49 (by decide) ?_
            refine p_iret B dX6_depthBehind_55 ?_
            rw [← hPST]
            exact ⟨(-1), rfl, by omega, by first | omega | assumption | exact trivial⟩
    · refine lv_iload_n B.1 B.2.1 dX6_depthBehind_28 rfl (lv_at hl 1 rfl) ?_
      refine q_bip B dX6_depthBehind_29 (by decide) ?_
      refine q_cne (tgt := 56) B dX6_depthBehind_31 (by decide) (by unfold inr; omega) (by unfold inr; omega) (fun c6 => ?_) (fun c6 => ?_)
      · refine lv_iload_n B.1 B.2.1 dX6_depthBehind_56 rfl (lv_at hl 1 rfl) ?_
        refine q_bip B dX6_depthBehind_57 (by decide) ?_
        refine q_cne (tgt := 73) B dX6_depthBehind_59 (by decide) (by unfold inr; omega) (by unfold inr; omega) (fun c7 => ?_) (fun c7 => ?_)
        · refine lv_iload_n B.1 B.2.1 dX6_depthBehind_73 rfl (lv_at hl 2 rfl) ?_
          refine q_con B dX6_depthBehind_74 ?_
          refine q_cge (tgt := 82) B dX6_depthBehind_75 (by decide) (by unfold inr; omega) (by unfold inr; omega) (fun c8 => ?_) (fun c8 => ?_)
          · refine lv_iload_n B.1 B.2.1 dX6_depthBehind_82 rfl (lv_at hl 2 rfl) ?_
            refine q_con B dX6_depthBehind_83 ?_
            refine q_sub B dX6_depthBehind_84 ?_
            refine p_iret B dX6_depthBehind_85 ?_
            rw [← hPST]
            exact ⟨(a_d - (1 : Int)), rfl, by omega, by first | omega | assumption | exact trivial⟩
          · refine q_con B dX6_depthBehind_78 ?_
            refine lv_goto (tgt := 85) B.1 B.2.1 dX6_depthBehind_79 (by decide) ?_
            refine p_iret B dX6_depthBehind_85 ?_
            rw [← hPST]
            exact ⟨(-1), rfl, by omega, by first | omega | assumption | exact trivial⟩
        · refine lv_iload_n B.1 B.2.1 dX6_depthBehind_62 rfl (lv_at hl 2 rfl) ?_
          refine q_con B dX6_depthBehind_63 ?_
          refine q_cge (tgt := 71) B dX6_depthBehind_64 (by decide) (by unfold inr; omega) (by unfold inr; omega) (fun c9 => ?_) (fun c9 => ?_)
          · refine lv_iload_n B.1 B.2.1 dX6_depthBehind_71 rfl (lv_at hl 2 rfl) ?_
            refine p_iret B dX6_depthBehind_72 ?_
            rw [← hPST]
            exact ⟨a_d, rfl, by omega, by first | omega | assumption | exact trivial⟩
          · refine q_con B dX6_depthBehind_67 ?_
            refine lv_goto (tgt := 72) B.1 B.2.1 dX6_depthBehind_68 (by decide) ?_
            refine p_iret B dX6_depthBehind_72 ?_
            rw [← hPST]
            exact ⟨(-1), rfl, by omega, by first | omega | assumption | exact trivial⟩
      · refine lv_iload_n B.1 B.2.1 dX6_depthBehind_34 rfl (lv_at hl 0 rfl) ?_
        refine q_ieq (tgt := 42) B dX6_depthBehind_35 (by decide) (by unfold inr; omega) (fun c10 => ?_) (fun c10 => ?_)
        · refine lv_iload_n B.1 B.2.1 dX6_depthBehind_42 rfl (lv_at hl 2 rfl) ?_
          refine q_bip B dX6_depthBehind_43 (by decide) ?_
          refine q_clt (tgt := 52) B dX6_depthBehind_45 (by decide) (by unfold inr; omega) (by unfold inr; omega) (fun c11 => ?_) (fun c11 => ?_)
          · refine lv_iload_n B.1 B.2.1 dX6_depthBehind_52 rfl (lv_at hl 2 rfl) ?_
            refine q_con B dX6_depthBehind_53 ?_
            refine q_add B dX6_depthBehind_54 ?_
            refine p_iret B dX6_depthBehind_55 ?_
            rw [← hPST]
            exact ⟨(a_d + (1 : Int)), rfl, by omega, by first | omega | assumption | exact trivial⟩
          · refine q_con B dX6_depthBehind_48 ?_
            refine lv_goto (tgt := 55) B.1 B.2.1 dX6_depthBehind_49 (by decide) ?_
            refine p_iret B dX6_depthBehind_55 ?_
            rw [← hPST]
            exact ⟨(-1), rfl, by omega, by first | omega | assumption | exact trivial⟩
        · refine lv_iload_n B.1 B.2.1 dX6_depthBehind_38 rfl (lv_at hl 3 rfl) ?_
          refine q_ine (tgt := 48) B dX6_depthBehind_39 (by decide) (by unfold inr; omega) (fun c12 => ?_) (fun c12 => ?_)
          · refine q_con B dX6_depthBehind_48 ?_
            refine lv_goto (tgt := 55) B.1 B.2.1 dX6_depthBehind_49 (by decide) ?_
            refine p_iret B dX6_depthBehind_55 ?_
            rw [← hPST]
            exact ⟨(-1), rfl, by omega, by first | omega | assumption | exact trivial⟩
          · refine lv_iload_n B.1 B.2.1 dX6_depthBehind_42 rfl (lv_at hl 2 rfl) ?_
            refine q_bip B dX6_depthBehind_43 (by decide) ?_
            refine q_clt (tgt := 52) B dX6_depthBehind_45 (by decide) (by unfold inr; omega) (by unfold inr; omega) (fun c13 => ?_) (fun c13 => ?_)
            · refine lv_iload_n B.1 B.2.1 dX6_depthBehind_52 rfl (lv_at hl 2 rfl) ?_
              refine q_con B dX6_depthBehind_53 ?_
              refine q_add B dX6_depthBehind_54 ?_
              refine p_iret B dX6_depthBehind_55 ?_
              rw [← hPST]
              exact ⟨(a_d + (1 : Int)), rfl, by omega, by first | omega | assumption | exact trivial⟩
            · refine q_con B dX6_depthBehind_48 ?_
              refine lv_goto (tgt := 55) B.1 B.2.1 dX6_depthBehind_49 (by decide) ?_
              refine p_iret B dX6_depthBehind_55 ?_
              rw [← hPST]
              exact ⟨(-1), rfl, by omega, by first | omega | assumption | exact trivial⟩
  refine q_ceq (tgt := 18) B dX6_depthBehind_3 (by decide) (by unfold inr; omega) (by unfold inr; omega) (fun c14 => ?_) (fun c14 => ?_)
  · refine q_con B dX6_depthBehind_18 ?_
    refine lv_goto (tgt := 23) B.1 B.2.1 dX6_depthBehind_19 (by decide) ?_
    have hv15 : ((-2147483648 : Int) ≤ 1 ∧ (1 : Int) ≤ 2147483647) ∧ (0 ≤ (1 : Int)) ∧ ((1 : Int) ≤ 1) := by first | omega | exact ⟨by first | omega | assumption | exact trivial, by first | omega | assumption | exact trivial, by first | omega | assumption | exact trivial⟩
    exact JJ23 1 ls (lv_sub hl [0, 1, 2] rfl) hv15.1 hv15.2.1 hv15.2.2
  · refine lv_iload_n B.1 B.2.1 dX6_depthBehind_6 rfl (lv_at hl 0 rfl) ?_
    refine q_bip B dX6_depthBehind_7 (by decide) ?_
    refine q_ceq (tgt := 18) B dX6_depthBehind_9 (by decide) (by unfold inr; omega) (by unfold inr; omega) (fun c16 => ?_) (fun c16 => ?_)
    · refine q_con B dX6_depthBehind_18 ?_
      refine lv_goto (tgt := 23) B.1 B.2.1 dX6_depthBehind_19 (by decide) ?_
      have hv17 : ((-2147483648 : Int) ≤ 1 ∧ (1 : Int) ≤ 2147483647) ∧ (0 ≤ (1 : Int)) ∧ ((1 : Int) ≤ 1) := by first | omega | exact ⟨by first | omega | assumption | exact trivial, by first | omega | assumption | exact trivial, by first | omega | assumption | exact trivial⟩
      exact JJ23 1 ls (lv_sub hl [0, 1, 2] rfl) hv17.1 hv17.2.1 hv17.2.2
    · refine lv_iload_n B.1 B.2.1 dX6_depthBehind_12 rfl (lv_at hl 0 rfl) ?_
      refine q_bip B dX6_depthBehind_13 (by decide) ?_
      refine q_cne (tgt := 22) B dX6_depthBehind_15 (by decide) (by unfold inr; omega) (by unfold inr; omega) (fun c18 => ?_) (fun c18 => ?_)
      · refine q_con B dX6_depthBehind_22 ?_
        have hv19 : ((-2147483648 : Int) ≤ 0 ∧ (0 : Int) ≤ 2147483647) ∧ (0 ≤ (0 : Int)) ∧ ((0 : Int) ≤ 1) := by first | omega | exact ⟨by first | omega | assumption | exact trivial, by first | omega | assumption | exact trivial, by first | omega | assumption | exact trivial⟩
        exact JJ23 0 ls (lv_sub hl [0, 1, 2] rfl) hv19.1 hv19.2.1 hv19.2.2
      · refine q_con B dX6_depthBehind_18 ?_
        refine lv_goto (tgt := 23) B.1 B.2.1 dX6_depthBehind_19 (by decide) ?_
        have hv20 : ((-2147483648 : Int) ≤ 1 ∧ (1 : Int) ≤ 2147483647) ∧ (0 ≤ (1 : Int)) ∧ ((1 : Int) ≤ 1) := by first | omega | exact ⟨by first | omega | assumption | exact trivial, by first | omega | assumption | exact trivial, by first | omega | assumption | exact trivial⟩
        exact JJ23 1 ls (lv_sub hl [0, 1, 2] rfl) hv20.1 hv20.2.1 hv20.2.2
