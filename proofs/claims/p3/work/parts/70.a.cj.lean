set_option maxHeartbeats 200000000 in
set_option maxRecDepth 20000 in
theorem k_J3_checkIndex_8e157 (l : Launch) (D : va_G) (dA : Nat → ClassId) (eA : Nat) (L : List Nat) (T N : Nat → Nat) (I : Nat → Nat → Int) (J : Nat → Nat → Int64) (R : Nat → Nat → Nat) (a_i : Int) (i_i : (-2147483648 : Int) ≤ a_i ∧ a_i ≤ 2147483647) (a_n : Int) (i_n : (-2147483648 : Int) ≤ a_n ∧ a_n ≤ 2147483647) (p_0 : 0 ≤ a_i) (p_1 : a_i < a_n) : PC l yJ3_checkIndex_8e157 cJ3_checkIndex_8e157 3 (some .int) ({ frames := 0, cells := 0, slots := 0, locals := 0 }) D dA eA L T N I J R [.int (II a_i), .int (II a_n), .null] (rI (fun r => True)) := by
  generalize hPST : (rI (fun r => True)) = PST
  refine p_enter (own := RJ3) (by decide) rfl (Nat.le_of_ble_eq_true rfl) (fun p e s m args below meth c ls B hX hM hl => ?_)
  have hA : ∀ q, s.heap.size ≤ q → cF dA L T N I J R s.heap.size q := fun q h => Or.inr h
  have hl : lv_has ls 3 [(0, .int (II a_i)), (1, .int (II a_n)), (2, .null)] := hl
  refine lv_iload_n B.1 B.2.1 dJ3_checkIndex_8e157_0 rfl (lv_at hl 0 rfl) ?_
  refine q_ilt (tgt := 9) B dJ3_checkIndex_8e157_1 (by decide) (by unfold inr; omega) (fun c1 => absurd c1 (by omega)) (fun c1 => ?_)
  refine lv_iload_n B.1 B.2.1 dJ3_checkIndex_8e157_4 rfl (lv_at hl 0 rfl) ?_
  refine lv_iload_n B.1 B.2.1 dJ3_checkIndex_8e157_5 rfl (lv_at hl 1 rfl) ?_
  refine q_clt (tgt := 16) B dJ3_checkIndex_8e157_6 (by decide) (by unfold inr; omega) (by unfold inr; omega) (fun c2 => ?_) (fun c2 => absurd c2 (by omega))
  refine lv_iload_n B.1 B.2.1 dJ3_checkIndex_8e157_16 rfl (lv_at hl 0 rfl) ?_
  refine p_iret B dJ3_checkIndex_8e157_17 ?_
  rw [← hPST]
  exact ⟨a_i, rfl, by omega, by first | omega | assumption | exact trivial⟩

set_option maxHeartbeats 200000000 in
set_option maxRecDepth 20000 in
theorem k_J15_checkIndex_7cf53 (l : Launch) (D : va_G) (dA : Nat → ClassId) (eA : Nat) (L : List Nat) (T N : Nat → Nat) (I : Nat → Nat → Int) (J : Nat → Nat → Int64) (R : Nat → Nat → Nat) (a_i : Int) (i_i : (-2147483648 : Int) ≤ a_i ∧ a_i ≤ 2147483647) (a_n : Int) (i_n : (-2147483648 : Int) ≤ a_n ∧ a_n ≤ 2147483647) (p_0 : 0 ≤ a_i) (p_1 : a_i < a_n) : PC l yJ15_checkIndex_7cf53 cJ15_checkIndex_7cf53 2 (some .int) ({ frames := 1, cells := 0, slots := 0, locals := 22 }) D dA eA L T N I J R [.int (II a_i), .int (II a_n)] (rI (fun r => True)) := by
  generalize hPST : (rI (fun r => True)) = PST
  refine p_enter (own := RJ15) (by decide) rfl (Nat.le_of_ble_eq_true rfl) (fun p e s m args below meth c ls B hX hM hl => ?_)
  have hA : ∀ q, s.heap.size ≤ q → cF dA L T N I J R s.heap.size q := fun q h => Or.inr h
  have hl : lv_has ls 2 [(0, .int (II a_i)), (1, .int (II a_n))] := hl
  refine lv_iload_n B.1 B.2.1 dJ15_checkIndex_7cf53_0 rfl (lv_at hl 0 rfl) ?_
  refine lv_iload_n B.1 B.2.1 dJ15_checkIndex_7cf53_1 rfl (lv_at hl 1 rfl) ?_
  refine lv_null B.1 B.2.1 dJ15_checkIndex_7cf53_2 ?_
  have hv1 : ((-2147483648 : Int) ≤ a_i ∧ (a_i : Int) ≤ 2147483647) ∧ ((-2147483648 : Int) ≤ a_n ∧ (a_n : Int) ≤ 2147483647) ∧ (0 ≤ a_i) ∧ (a_i < a_n) := by first | omega | exact ⟨by first | omega | assumption | exact trivial, by first | omega | assumption | exact trivial, by first | omega | assumption | exact trivial, by first | omega | assumption | exact trivial⟩
  refine p_calli (c_runS (n := 3) (as := [.int (II a_i), .int (II a_n), .null]) (rest := []) B hX hA hM hl.1 (k_J3_checkIndex_8e157 l D dA eA L T N I J R a_i hv1.1 a_n hv1.2.1 hv1.2.2.1 hv1.2.2.2 _ _) ml_J15_105 nm_J3_checkIndex_8e157 ⟨rfl, rfl⟩ ⟨Nat.le_of_ble_eq_true rfl, Nat.le_of_ble_eq_true rfl⟩ dJ15_checkIndex_7cf53_3 rfl rfl (Nat.le_of_ble_eq_true rfl) ⟨Nat.zero_le _, Nat.zero_le _⟩) (fun x3 ix3 hp2 => ?_)
  have hp2a := hp2
  clear hp2a
  refine p_iret B dJ15_checkIndex_7cf53_6 ?_
  rw [← hPST]
  exact ⟨x3, rfl, by omega, by first | omega | assumption | exact trivial⟩

set_option maxHeartbeats 200000000 in
set_option maxRecDepth 20000 in
theorem k_J8_newLength_cabcc (l : Launch) (D : va_G) (dA : Nat → ClassId) (eA : Nat) (L : List Nat) (T N : Nat → Nat) (I : Nat → Nat → Int) (J : Nat → Nat → Int64) (R : Nat → Nat → Nat) (a_o : Int) (i_o : (-2147483648 : Int) ≤ a_o ∧ a_o ≤ 2147483647) (a_m : Int) (i_m : (-2147483648 : Int) ≤ a_m ∧ a_m ≤ 2147483647) (a_p : Int) (i_p : (-2147483648 : Int) ≤ a_p ∧ a_p ≤ 2147483647) (p_0 : 0 ≤ a_o) (p_1 : a_o ≤ 100000) (p_2 : 1 ≤ a_m) (p_3 : a_m ≤ 100000) (p_4 : 0 ≤ a_p) (p_5 : a_p ≤ 100002) : PC l yJ8_newLength_cabcc cJ8_newLength_cabcc 4 (some .int) ({ frames := 1, cells := 0, slots := 0, locals := 30 }) D dA eA L T N I J R [.int (II a_o), .int (II a_m), .int (II a_p)] (rI (fun r => (r = a_o + a_m ∨ r = a_o + a_p) ∧ a_o + a_m ≤ r ∧ a_o + a_p ≤ r)) := by
  generalize hPST : (rI (fun r => (r = a_o + a_m ∨ r = a_o + a_p) ∧ a_o + a_m ≤ r ∧ a_o + a_p ≤ r)) = PST
  refine p_enter (own := RJ8) (by decide) rfl (Nat.le_of_ble_eq_true rfl) (fun p e s m args below meth c ls B hX hM hl => ?_)
  have hA : ∀ q, s.heap.size ≤ q → cF dA L T N I J R s.heap.size q := fun q h => Or.inr h
  have hl : lv_has ls 4 [(0, .int (II a_o)), (1, .int (II a_m)), (2, .int (II a_p))] := hl
  refine lv_iload_n B.1 B.2.1 dJ8_newLength_cabcc_0 rfl (lv_at hl 0 rfl) ?_
  refine lv_iload_n B.1 B.2.1 dJ8_newLength_cabcc_1 rfl (lv_at hl 1 rfl) ?_
  refine lv_iload_n B.1 B.2.1 dJ8_newLength_cabcc_2 rfl (lv_at hl 2 rfl) ?_
  refine c_mmax B ml_J8_194 hl.1 (by unfold inr; omega) (by unfold inr; omega) (Nat.le_of_ble_eq_true rfl) (Nat.le_of_ble_eq_true rfl) (Nat.zero_le _) (Nat.zero_le _) dJ8_newLength_cabcc_3 (fun x1 ox1 lx1 ux1 => ?_)
  refine q_add B dJ8_newLength_cabcc_6 ?_
  refine lv_istore_n (lv' := [(3, .int (II (a_o + x1))), (0, .int (II a_o)), (1, .int (II a_m)), (2, .int (II a_p))]) B.1 B.2.1 dJ8_newLength_cabcc_7 rfl hl (by decide) rfl (fun ls hl => ?_)
  refine q_con B dJ8_newLength_cabcc_8 ?_
  refine lv_iload_n B.1 B.2.1 dJ8_newLength_cabcc_9 rfl (lv_at hl 0 rfl) ?_
  refine q_cge (tgt := 21) B dJ8_newLength_cabcc_10 (by decide) (by unfold inr; omega) (by unfold inr; omega) (fun c2 => absurd c2 (by omega)) (fun c2 => ?_)
  refine lv_iload_n B.1 B.2.1 dJ8_newLength_cabcc_13 rfl (lv_at hl 0 rfl) ?_
  refine q_ldc (z := 2147483639) B (by decide) ic_J8_200 dJ8_newLength_cabcc_14 ?_
  refine q_cgt (tgt := 21) B dJ8_newLength_cabcc_16 (by decide) (by unfold inr; omega) (by unfold inr; omega) (fun c3 => absurd c3 (by omega)) (fun c3 => ?_)
  refine lv_iload_n B.1 B.2.1 dJ8_newLength_cabcc_19 rfl (lv_at hl 0 rfl) ?_
  refine p_iret B dJ8_newLength_cabcc_20 ?_
  rw [← hPST]
  exact ⟨(a_o + x1), rfl, by omega, by first | omega | assumption | exact trivial, by first | omega | assumption | exact trivial, by first | omega | assumption | exact trivial⟩
