set_option maxHeartbeats 1000000 in
set_option maxRecDepth 20000 in
theorem k_J1_canEncode_9a6ad (l : Launch) (D : va_G) (dA : Nat → ClassId) (eA : Nat) (L : List Nat) (T N : Nat → Nat) (I : Nat → Nat → Int) (J : Nat → Nat → Int64) (R : Nat → Nat → Nat) (a_c : Int) (i_c : (-2147483648 : Int) ≤ a_c ∧ a_c ≤ 2147483647) : PC l yJ1_canEncode_9a6ad cJ1_canEncode_9a6ad 1 (some .boolean) ({ frames := 0, cells := 0, slots := 0, locals := 0 }) D dA eA L T N I J R [.int (II a_c)] (rI (fun r => (0 : Int) ≤ r ∧ r ≤ 1 ∧ (r = 1 → 0 ≤ a_c ∧ a_c ≤ 255))) := by
  generalize hPST : (rI (fun r => (0 : Int) ≤ r ∧ r ≤ 1 ∧ (r = 1 → 0 ≤ a_c ∧ a_c ≤ 255))) = PST
  refine p_enter (own := RJ1) (by decide) rfl (Nat.le_of_ble_eq_true rfl) (fun p e s m args below meth c ls B hX hM hl => ?_)
  have hA : ∀ q, s.heap.size ≤ q → cF dA L T N I J R s.heap.size q := fun q h => Or.inr h
  have hl : lv_has ls 1 [(0, .int (II a_c))] := hl
  refine lv_iload_n B.1 B.2.1 dJ1_canEncode_9a6ad_0 rfl (lv_at hl 0 rfl) ?_
  refine q_ilt (tgt := 15) B dJ1_canEncode_9a6ad_1 (by decide) (by unfold inr; omega) (fun c1 => ?_) (fun c1 => ?_)
  · refine q_con B dJ1_canEncode_9a6ad_15 ?_
    refine p_zret B dJ1_canEncode_9a6ad_16 (by omega) (by omega) ?_
    rw [← hPST]
    exact ⟨(0), rfl, by omega, by omega, by omega, by first | omega | assumption | exact trivial⟩
  · refine lv_iload_n B.1 B.2.1 dJ1_canEncode_9a6ad_4 rfl (lv_at hl 0 rfl) ?_
    refine q_sip B dJ1_canEncode_9a6ad_5 (by decide) ?_
    refine q_cgt (tgt := 15) B dJ1_canEncode_9a6ad_8 (by decide) (by unfold inr; omega) (by unfold inr; omega) (fun c2 => ?_) (fun c2 => ?_)
    · refine q_con B dJ1_canEncode_9a6ad_15 ?_
      refine p_zret B dJ1_canEncode_9a6ad_16 (by omega) (by omega) ?_
      rw [← hPST]
      exact ⟨(0), rfl, by omega, by omega, by omega, by first | omega | assumption | exact trivial⟩
    · refine q_con B dJ1_canEncode_9a6ad_11 ?_
      refine lv_goto (tgt := 16) B.1 B.2.1 dJ1_canEncode_9a6ad_12 (by decide) ?_
      refine p_zret B dJ1_canEncode_9a6ad_16 (by omega) (by omega) ?_
      rw [← hPST]
      exact ⟨(1), rfl, by omega, by omega, by omega, by first | omega | assumption | exact trivial⟩

set_option maxHeartbeats 1000000 in
set_option maxRecDepth 20000 in
theorem k_J1_canEncode_fc78d (l : Launch) (D : va_G) (dA : Nat → ClassId) (eA : Nat) (L : List Nat) (T N : Nat → Nat) (I : Nat → Nat → Int) (J : Nat → Nat → Int64) (R : Nat → Nat → Nat) (a_c : Int) (i_c : (0 : Int) ≤ a_c ∧ a_c ≤ 65535) : PC l yJ1_canEncode_fc78d cJ1_canEncode_fc78d 1 (some .boolean) ({ frames := 0, cells := 0, slots := 0, locals := 0 }) D dA eA L T N I J R [.int (II a_c)] (rI (fun r => (0 : Int) ≤ r ∧ r ≤ 1 ∧ (((r = 1 ∧ a_c ≤ 255) ∨ (r = 0 ∧ 255 < a_c))))) := by
  generalize hPST : (rI (fun r => (0 : Int) ≤ r ∧ r ≤ 1 ∧ (((r = 1 ∧ a_c ≤ 255) ∨ (r = 0 ∧ 255 < a_c))))) = PST
  refine p_enter (own := RJ1) (by decide) rfl (Nat.le_of_ble_eq_true rfl) (fun p e s m args below meth c ls B hX hM hl => ?_)
  have hA : ∀ q, s.heap.size ≤ q → cF dA L T N I J R s.heap.size q := fun q h => Or.inr h
  have hl : lv_has ls 1 [(0, .int (II a_c))] := hl
  refine lv_iload_n B.1 B.2.1 dJ1_canEncode_fc78d_0 rfl (lv_at hl 0 rfl) ?_
  refine q_sip B dJ1_canEncode_fc78d_1 (by decide) ?_
  refine q_cgt (tgt := 11) B dJ1_canEncode_fc78d_4 (by decide) (by unfold inr; omega) (by unfold inr; omega) (fun c1 => ?_) (fun c1 => ?_)
  · refine q_con B dJ1_canEncode_fc78d_11 ?_
    refine p_zret B dJ1_canEncode_fc78d_12 (by omega) (by omega) ?_
    rw [← hPST]
    exact ⟨(0), rfl, by omega, by omega, by omega, by first | omega | assumption | exact trivial⟩
  · refine q_con B dJ1_canEncode_fc78d_7 ?_
    refine lv_goto (tgt := 12) B.1 B.2.1 dJ1_canEncode_fc78d_8 (by decide) ?_
    refine p_zret B dJ1_canEncode_fc78d_12 (by omega) (by omega) ?_
    rw [← hPST]
    exact ⟨(1), rfl, by omega, by omega, by omega, by first | omega | assumption | exact trivial⟩
