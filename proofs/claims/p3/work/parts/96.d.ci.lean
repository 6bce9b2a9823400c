set_option maxHeartbeats 1000000 in
set_option maxRecDepth 20000 in
theorem k_J3_checkIndexR (l : Launch) (D : va_G) (dA : Nat → ClassId) (eA : Nat) (L : List Nat) (T N : Nat → Nat) (I : Nat → Nat → Int) (J : Nat → Nat → Int64) (R : Nat → Nat → Nat) (a_i : Int) (i_i : (-2147483648 : Int) ≤ a_i ∧ a_i ≤ 2147483647) (a_n : Int) (i_n : (-2147483648 : Int) ≤ a_n ∧ a_n ≤ 2147483647) (a_f : Nat) (p_0 : 0 ≤ a_i) (p_1 : a_i < a_n) : PC l yJ3_checkIndex_8e157 cJ3_checkIndex_8e157 3 (some .int) ({ frames := 0, cells := 0, slots := 0, locals := 0 }) D dA eA L T N I J R [.int (II a_i), .int (II a_n), .ref a_f] (rI (fun r => True)) := by
  generalize hPST : (rI (fun r => True)) = PST
  refine p_enter (own := RJ3) (by decide) rfl (Nat.le_of_ble_eq_true rfl) (fun p e s m args below meth c ls B hX hM hl => ?_)
  have hA : ∀ q, s.heap.size ≤ q → cF dA L T N I J R s.heap.size q := fun q h => Or.inr h
  have hl : lv_has ls 3 [(0, .int (II a_i)), (1, .int (II a_n)), (2, .ref a_f)] := hl
  refine lv_iload_n B.1 B.2.1 dJ3_checkIndex_8e157_0 rfl (lv_at hl 0 rfl) ?_
  refine q_ilt (tgt := 9) B dJ3_checkIndex_8e157_1 (by decide) (by unfold inr; omega) (fun c1 => absurd c1 (by omega)) (fun c1 => ?_)
  refine lv_iload_n B.1 B.2.1 dJ3_checkIndex_8e157_4 rfl (lv_at hl 0 rfl) ?_
  refine lv_iload_n B.1 B.2.1 dJ3_checkIndex_8e157_5 rfl (lv_at hl 1 rfl) ?_
  refine q_clt (tgt := 16) B dJ3_checkIndex_8e157_6 (by decide) (by unfold inr; omega) (by unfold inr; omega) (fun c2 => ?_) (fun c2 => absurd c2 (by omega))
  refine lv_iload_n B.1 B.2.1 dJ3_checkIndex_8e157_16 rfl (lv_at hl 0 rfl) ?_
  refine p_iret B dJ3_checkIndex_8e157_17 ?_
  rw [← hPST]
  exact ⟨a_i, rfl, by omega, by first | omega | assumption | exact trivial⟩
