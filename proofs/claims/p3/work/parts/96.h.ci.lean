set_option maxRecDepth 20000 in
theorem k_J0_checkIndex_df160 (l : Launch) (D : va_G) (dA : Nat → ClassId) (eA : Nat) (L : List Nat) (T N : Nat → Nat) (I : Nat → Nat → Int) (J : Nat → Nat → Int64) (R : Nat → Nat → Nat) (a_i : Int) (i_i : (-2147483648 : Int) ≤ a_i ∧ a_i ≤ 2147483647) (a_n : Int) (i_n : (-2147483648 : Int) ≤ a_n ∧ a_n ≤ 2147483647) (p_0 : 0 ≤ a_i) (p_1 : a_i < a_n) : PC l yJ0_checkIndex_df160 cJ0_checkIndex_df160 2 none ({ frames := 1, cells := 0, slots := 0, locals := 22 }) D dA eA L T N I J R [.int (II a_i), .int (II a_n)] (rV (True)) := by
  generalize hPST : (rV (True)) = PST
  refine p_enter (own := RJ0) (by decide) rfl (Nat.le_of_ble_eq_true rfl) (fun p e s m args below meth c ls B hX hM hl => ?_)
  have hA : ∀ q, s.heap.size ≤ q → cF dA L T N I J R s.heap.size q := fun q h => Or.inr h
  have hl : lv_has ls 2 [(0, .int (II a_i)), (1, .int (II a_n))] := hl
  refine lv_iload_n B.1 B.2.1 dJ0_checkIndex_df160_0 rfl (lv_at hl 0 rfl) ?_
  refine lv_iload_n B.1 B.2.1 dJ0_checkIndex_df160_1 rfl (lv_at hl 1 rfl) ?_
  rcases hX.2.2.1 with hz | ⟨t, hz⟩
  · refine va_gets B.1 B.2.1 hz hM.2.2.1 B.2.2.2.1 (B.2.2.2.2.1 _ fl_J0_1053) (fun _ h => h) dJ0_checkIndex_df160_2 ?_
    refine p_calli (c_runS (n := 3) (as := [.int (II a_i), .int (II a_n), .null]) (rest := []) B hX hA hM hl.1 (k_J3_checkIndex_8e157 l D dA eA L T N I J R a_i i_i a_n i_n p_0 p_1 _ _) ml_J0_1059 nm_J3_checkIndex_8e157 ⟨rfl, rfl⟩ ⟨Nat.le_of_ble_eq_true rfl, Nat.le_of_ble_eq_true rfl⟩ dJ0_checkIndex_df160_5 rfl rfl (Nat.le_of_ble_eq_true rfl) ⟨Nat.zero_le _, Nat.zero_le _⟩) (fun x3 ix3 hp2 => ?_)
    refine lv_pop B.1 B.2.1 dJ0_checkIndex_df160_8 rfl ?_
    refine p_vret B dJ0_checkIndex_df160_9 ?_
    rw [← hPST]
    exact ⟨rfl, trivial⟩
  · refine va_gets B.1 B.2.1 hz hM.2.2.1 B.2.2.2.1 (B.2.2.2.2.1 _ fl_J0_1053) (fun _ h => h) dJ0_checkIndex_df160_2 ?_
    refine p_calli (c_runS (n := 3) (as := [.int (II a_i), .int (II a_n), .ref t]) (rest := []) B hX hA hM hl.1 (k_J3_checkIndexR l D dA eA L T N I J R a_i i_i a_n i_n t p_0 p_1 _ _) ml_J0_1059 nm_J3_checkIndex_8e157 ⟨rfl, rfl⟩ ⟨Nat.le_of_ble_eq_true rfl, Nat.le_of_ble_eq_true rfl⟩ dJ0_checkIndex_df160_5 rfl rfl (Nat.le_of_ble_eq_true rfl) ⟨Nat.zero_le _, Nat.zero_le _⟩) (fun x3 ix3 hp2 => ?_)
    refine lv_pop B.1 B.2.1 dJ0_checkIndex_df160_8 rfl ?_
    refine p_vret B dJ0_checkIndex_df160_9 ?_
    rw [← hPST]
    exact ⟨rfl, trivial⟩
