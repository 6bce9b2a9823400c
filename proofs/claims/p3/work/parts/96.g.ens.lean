set_option maxHeartbeats 1000000 in
set_option maxRecDepth 20000 in
theorem k_J5_newCapacity_0f7a4 (l : Launch) (D : va_G) (dA : Nat → ClassId) (eA : Nat) (L : List Nat) (T N : Nat → Nat) (I : Nat → Nat → Int) (J : Nat → Nat → Int64) (R : Nat → Nat → Nat) (a_this : Nat) (t_this : T a_this = 14) (a_c : Int) (i_c : (-2147483648 : Int) ≤ a_c ∧ a_c ≤ 2147483647) (p_0 : 1 ≤ a_c) (p_1 : a_c ≤ 34000) (p_2 : ((N (R a_this 0 - 1) : Nat) : Int) < a_c) : PC l yJ5_newCapacity_0f7a4 cJ5_newCapacity_0f7a4 6 (some .int) ({ frames := 2, cells := 0, slots := 0, locals := 53 }) D dA eA L T N I J R [.ref a_this, .int (II a_c)] (rI (fun r => (r = a_c ∨ r = 2 * ((N (R a_this 0 - 1) : Nat) : Int) + 2) ∧ a_c ≤ r ∧ 2 * ((N (R a_this 0 - 1) : Nat) : Int) + 2 ≤ r)) := by
  generalize hPST : (rI (fun r => (r = a_c ∨ r = 2 * ((N (R a_this 0 - 1) : Nat) : Int) + 2) ∧ a_c ≤ r ∧ 2 * ((N (R a_this 0 - 1) : Nat) : Int) + 2 ≤ r)) = PST
  refine p_enter (own := RJ5) (by decide) rfl (Nat.le_of_ble_eq_true rfl) (fun p e s m args below meth c ls B hX hM hl => ?_)
  have hA : ∀ q, s.heap.size ≤ q → cF dA L T N I J R s.heap.size q := fun q h => Or.inr h
  have hl : lv_has ls 6 [(0, .ref a_this), (1, .int (II a_c))] := hl
  obtain ⟨b1, e2, t3⟩ := g14_0 hM.2.2.2.2.2.2.1 t_this
  have n4 : 16 ≤ N b1 ∧ N b1 ≤ 70000 := gn96 hM.2.2.2.2.2.2.1 t3
  have pq5 : N (R a_this 0 - 1) = N b1 := by rw [e2, Nat.add_sub_cancel]
  refine lv_aload_n B.1 B.2.1 dJ5_newCapacity_0f7a4_0 rfl (lv_at hl 0 rfl) ?_
  refine c_getn (k := 0) pk_J4 B hM t_this kd14 rfl (by decide) fl_J5_15 dJ5_newCapacity_0f7a4_1 e2 ?_
  refine c_len B hM t3 kd96 (by decide) dJ5_newCapacity_0f7a4_4 rfl ?_
  refine lv_istore_n (lv' := [(2, .int (II (((N b1 : Nat) : Int)))), (0, .ref a_this), (1, .int (II a_c))]) B.1 B.2.1 dJ5_newCapacity_0f7a4_5 rfl hl (by decide) rfl (fun ls hl => ?_)
  refine lv_iload_n B.1 B.2.1 dJ5_newCapacity_0f7a4_6 rfl (lv_at hl 2 rfl) ?_
  refine lv_aload_n B.1 B.2.1 dJ5_newCapacity_0f7a4_7 rfl (lv_at hl 1 rfl) ?_
  have e6 : I a_this 1 = 0 := by have h9 := g14_1 hM.2.2.2.2.2.2.1 t_this; omega
  refine c_geti (k := 1) pk_J4 B hM t_this kd14 rfl (by decide) fl_J5_22 dJ5_newCapacity_0f7a4_8 e6 ?_
  refine q_shl0 B dJ5_newCapacity_0f7a4_11 ?_
  refine lv_istore_n (lv' := [(3, .int (II a_c)), (2, .int (II (((N b1 : Nat) : Int)))), (0, .ref a_this), (1, .int (II a_c))]) B.1 B.2.1 dJ5_newCapacity_0f7a4_12 rfl hl (by decide) rfl (fun ls hl => ?_)
  refine lv_iload_n B.1 B.2.1 dJ5_newCapacity_0f7a4_13 rfl (lv_at hl 0 rfl) ?_
  refine lv_iload_n B.1 B.2.1 dJ5_newCapacity_0f7a4_14 rfl (lv_at hl 1 rfl) ?_
  refine q_sub B dJ5_newCapacity_0f7a4_15 ?_
  refine lv_istore (lv' := [(4, .int (II (a_c - (((N b1 : Nat) : Int))))), (3, .int (II a_c)), (2, .int (II (((N b1 : Nat) : Int)))), (0, .ref a_this), (1, .int (II a_c))]) B.1 B.2.1 dJ5_newCapacity_0f7a4_16 hl (by decide) rfl (fun ls hl => ?_)
  refine lv_iload_n B.1 B.2.1 dJ5_newCapacity_0f7a4_18 rfl (lv_at hl 2 rfl) ?_
  refine lv_iload B.1 B.2.1 dJ5_newCapacity_0f7a4_19 (lv_at hl 0 rfl) ?_
  refine lv_iload_n B.1 B.2.1 dJ5_newCapacity_0f7a4_21 rfl (lv_at hl 2 rfl) ?_
  refine q_con B dJ5_newCapacity_0f7a4_22 ?_
  refine lv_aload_n B.1 B.2.1 dJ5_newCapacity_0f7a4_23 rfl (lv_at hl 3 rfl) ?_
  refine c_geti (k := 1) pk_J4 B hM t_this kd14 rfl (by decide) fl_J5_22 dJ5_newCapacity_0f7a4_24 e6 ?_
  refine q_shl0 B dJ5_newCapacity_0f7a4_27 ?_
  refine q_add B dJ5_newCapacity_0f7a4_28 ?_
  have hv7 : ((-2147483648 : Int) ≤ ((N b1 : Nat) : Int) ∧ (((N b1 : Nat) : Int) : Int) ≤ 2147483647) ∧ ((-2147483648 : Int) ≤ a_c - (((N b1 : Nat) : Int)) ∧ (a_c - (((N b1 : Nat) : Int)) : Int) ≤ 2147483647) ∧ ((-2147483648 : Int) ≤ (((N b1 : Nat) : Int)) + (2 : Int) ∧ ((((N b1 : Nat) : Int)) + (2 : Int) : Int) ≤ 2147483647) ∧ (0 ≤ (((N b1 : Nat) : Int))) ∧ ((((N b1 : Nat) : Int)) ≤ 100000) ∧ (1 ≤ (a_c - (((N b1 : Nat) : Int)))) ∧ ((a_c - (((N b1 : Nat) : Int))) ≤ 100000) ∧ (0 ≤ ((((N b1 : Nat) : Int)) + (2 : Int))) ∧ (((((N b1 : Nat) : Int)) + (2 : Int)) ≤ 100002) := by first | omega | exact ⟨by first | omega | assumption | exact trivial, by first | omega | assumption | exact trivial, by first | omega | assumption | exact trivial, by first | omega | assumption | exact trivial, by first | omega | assumption | exact trivial, by first | omega | assumption | exact trivial, by first | omega | assumption | exact trivial, by first | omega | assumption | exact trivial, by first | omega | assumption | exact trivial⟩
  refine p_calli (c_runS (n := 3) (as := [.int (II (((N b1 : Nat) : Int))), .int (II (a_c - (((N b1 : Nat) : Int)))), .int (II ((((N b1 : Nat) : Int)) + (2 : Int)))]) (rest := []) B hX hA hM hl.1 (k_J8_newLength_cabcc l D dA eA L T N I J R (((N b1 : Nat) : Int)) hv7.1 (a_c - (((N b1 : Nat) : Int))) hv7.2.1 ((((N b1 : Nat) : Int)) + (2 : Int)) hv7.2.2.1 hv7.2.2.2.1 hv7.2.2.2.2.1 hv7.2.2.2.2.2.1 hv7.2.2.2.2.2.2.1 hv7.2.2.2.2.2.2.2.1 hv7.2.2.2.2.2.2.2.2 _ _) ml_J5_114 nm_J8_newLength_cabcc ⟨rfl, rfl⟩ ⟨Nat.le_of_ble_eq_true rfl, Nat.le_of_ble_eq_true rfl⟩ dJ5_newCapacity_0f7a4_29 rfl rfl (Nat.le_of_ble_eq_true rfl) ⟨Nat.zero_le _, Nat.zero_le _⟩) (fun x9 ix9 hp8 => ?_)
  have hp8a := hp8
  replace hp8a : (x9 = (((N b1 : Nat) : Int)) + (a_c - (((N b1 : Nat) : Int))) ∨ x9 = (((N b1 : Nat) : Int)) + ((((N b1 : Nat) : Int)) + (2 : Int))) ∧ (((N b1 : Nat) : Int)) + (a_c - (((N b1 : Nat) : Int))) ≤ x9 ∧ (((N b1 : Nat) : Int)) + ((((N b1 : Nat) : Int)) + (2 : Int)) ≤ x9 := hp8a
  obtain ⟨hp8a_0, hp8a_1, hp8a_2⟩ := hp8a
  refine lv_istore (lv' := [(5, .int (II x9)), (4, .int (II (a_c - (((N b1 : Nat) : Int))))), (3, .int (II a_c)), (2, .int (II (((N b1 : Nat) : Int)))), (0, .ref a_this), (1, .int (II a_c))]) B.1 B.2.1 dJ5_newCapacity_0f7a4_32 hl (by decide) rfl (fun ls hl => ?_)
  refine lv_iload B.1 B.2.1 dJ5_newCapacity_0f7a4_34 (lv_at hl 0 rfl) ?_
  refine q_ldc (z := 2147483647) B (by decide) ic_J5_39 dJ5_newCapacity_0f7a4_36 ?_
  refine q_cne (tgt := 51) B dJ5_newCapacity_0f7a4_38 (by decide) (by unfold inr; omega) (by unfold inr; omega) (fun c10 => ?_) (fun c10 => absurd c10 (by omega))
  refine lv_iload B.1 B.2.1 dJ5_newCapacity_0f7a4_51 (lv_at hl 0 rfl) ?_
  refine lv_aload_n B.1 B.2.1 dJ5_newCapacity_0f7a4_53 rfl (lv_at hl 4 rfl) ?_
  refine c_geti (k := 1) pk_J4 B hM t_this kd14 rfl (by decide) fl_J5_22 dJ5_newCapacity_0f7a4_54 e6 ?_
  refine q_shr0 B dJ5_newCapacity_0f7a4_57 ?_
  have pq11 : N (R a_this 0 - 1) = N b1 := by rw [e2, Nat.add_sub_cancel]
  refine p_iret B dJ5_newCapacity_0f7a4_58 ?_
  rw [← hPST]
  exact ⟨x9, rfl, by omega, by first | omega | assumption | exact trivial, by first | omega | assumption | exact trivial, by first | omega | assumption | exact trivial⟩

def mo_J5_ensureCapacityInternal_d00df : List Nat := [448, 3072]
set_option maxHeartbeats 1000000 in
set_option maxRecDepth 20000 in
theorem k_J5_ensureCapacityInternal_d00df (l : Launch) (D : va_G) (dA : Nat → ClassId) (eA : Nat) (L : List Nat) (T N : Nat → Nat) (I : Nat → Nat → Int) (J : Nat → Nat → Int64) (R : Nat → Nat → Nat) (a_this : Nat) (t_this : T a_this = 14) (a_c : Int) (i_c : (-2147483648 : Int) ≤ a_c ∧ a_c ≤ 2147483647) (p_0 : a_c ≤ 34000) (p_1 : 0 ≤ a_c) : GC l yJ5_ensureCapacityInternal_d00df cJ5_ensureCapacityInternal_d00df 3 none ({ frames := 3, cells := (70000 - N (R a_this 0 - 1)) / 18 + 1, slots := 2 * (70000 - N (R a_this 0 - 1)), locals := 82 }) D dA eA L T N I J R [.ref a_this, .int (II a_c)] ((70000 - N (R a_this 0 - 1)) / 18 + 1) (2 * (70000 - N (R a_this 0 - 1))) (gV (fun L' T' N' I' J' R' dz dl => J' = J ∧ Fr mo_J5_ensureCapacityInternal_d00df [] T N I J R T' N' I' J' R' ∧ a_c ≤ ((N' (R' a_this 0 - 1) : Nat) : Int) ∧ ((N (R a_this 0 - 1) : Nat) : Int) ≤ ((N' (R' a_this 0 - 1) : Nat) : Int) ∧ (dz : Int) * 18 ≤ ((N' (R' a_this 0 - 1) : Nat) : Int) - ((N (R a_this 0 - 1) : Nat) : Int) ∧ (dl : Int) ≤ 2 * (((N' (R' a_this 0 - 1) : Nat) : Int) - ((N (R a_this 0 - 1) : Nat) : Int)))) := by
  generalize hPST : (gV (fun L' T' N' I' J' R' dz dl => J' = J ∧ Fr mo_J5_ensureCapacityInternal_d00df [] T N I J R T' N' I' J' R' ∧ a_c ≤ ((N' (R' a_this 0 - 1) : Nat) : Int) ∧ ((N (R a_this 0 - 1) : Nat) : Int) ≤ ((N' (R' a_this 0 - 1) : Nat) : Int) ∧ (dz : Int) * 18 ≤ ((N' (R' a_this 0 - 1) : Nat) : Int) - ((N (R a_this 0 - 1) : Nat) : Int) ∧ (dl : Int) ≤ 2 * (((N' (R' a_this 0 - 1) : Nat) : Int) - ((N (R a_this 0 - 1) : Nat) : Int)))) = PST
  refine g_enter (own := RJ5) (by decide) rfl (Nat.le_of_ble_eq_true rfl) (fun p e s m args below meth c ls hm B hX hM hl => ?_)
  have hC0 := hM.2.2.2.2.2.2.1
  have hW0 := hM.2.2.2
  have hF : Fr mo_J5_ensureCapacityInternal_d00df [] T N I J R T N I J R := Fr.rf
  have hA : ∀ q, s.heap.size ≤ q → cF dA L T N I J R s.heap.size q := fun q h => Or.inr h
  have hl : lv_has ls 3 [(0, .ref a_this), (1, .int (II a_c))] := hl
  obtain ⟨b1, e2, t3⟩ := g14_0 hM.2.2.2.2.2.2.1 t_this
  have n4 : 16 ≤ N b1 ∧ N b1 ≤ 70000 := gn96 hM.2.2.2.2.2.2.1 t3
  have pq5 : N (R a_this 0 - 1) = N b1 := by rw [e2, Nat.add_sub_cancel]
  refine lv_aload_n B.1 B.2.1 dJ5_ensureCapacityInternal_d00df_0 rfl (lv_at hl 0 rfl) ?_
  refine c_getn (k := 0) pk_J4 B hM t_this kd14 rfl (by decide) fl_J5_15 dJ5_ensureCapacityInternal_d00df_1 e2 ?_
  refine c_len B hM t3 kd96 (by decide) dJ5_ensureCapacityInternal_d00df_4 rfl ?_
  refine lv_aload_n B.1 B.2.1 dJ5_ensureCapacityInternal_d00df_5 rfl (lv_at hl 0 rfl) ?_
  have e6 : I a_this 1 = 0 := by have h9 := g14_1 hM.2.2.2.2.2.2.1 t_this; omega
  refine c_geti (k := 1) pk_J4 B hM t_this kd14 rfl (by decide) fl_J5_22 dJ5_ensureCapacityInternal_d00df_6 e6 ?_
  refine q_shr0 B dJ5_ensureCapacityInternal_d00df_9 ?_
  refine lv_istore_n (lv' := [(2, .int (II (((N b1 : Nat) : Int)))), (0, .ref a_this), (1, .int (II a_c))]) B.1 B.2.1 dJ5_ensureCapacityInternal_d00df_10 rfl hl (by decide) rfl (fun ls hl => ?_)
  refine lv_iload_n B.1 B.2.1 dJ5_ensureCapacityInternal_d00df_11 rfl (lv_at hl 2 rfl) ?_
  refine lv_iload_n B.1 B.2.1 dJ5_ensureCapacityInternal_d00df_12 rfl (lv_at hl 0 rfl) ?_
  refine q_sub B dJ5_ensureCapacityInternal_d00df_13 ?_
  refine q_ile (tgt := 38) B dJ5_ensureCapacityInternal_d00df_14 (by decide) (by unfold inr; omega) (fun c7 => ?_) (fun c7 => ?_)
  · have pq8 : N (R a_this 0 - 1) = N b1 := by rw [e2, Nat.add_sub_cancel]
    have pq9 : N (R a_this 0 - 1) = N b1 := by rw [e2, Nat.add_sub_cancel]
    refine g_vret B hM dJ5_ensureCapacityInternal_d00df_38 ⟨by show 0 ≤ ((70000 - N (R a_this 0 - 1)) / 18 + 1); omega, by show 0 ≤ (2 * (70000 - N (R a_this 0 - 1))); omega⟩ ?_
    rw [← hPST]
    exact ⟨rfl, rfl, hF, by first | omega | assumption | exact trivial, by first | omega | assumption | exact trivial, by first | omega | assumption | exact trivial, by first | omega | assumption | exact trivial⟩
  · refine lv_aload_n B.1 B.2.1 dJ5_ensureCapacityInternal_d00df_17 rfl (lv_at hl 1 rfl) ?_
    refine lv_aload_n B.1 B.2.1 dJ5_ensureCapacityInternal_d00df_18 rfl (lv_at hl 1 rfl) ?_
    refine c_getn (k := 0) pk_J4 B hM t_this kd14 rfl (by decide) fl_J5_15 dJ5_ensureCapacityInternal_d00df_19 e2 ?_
    refine lv_aload_n B.1 B.2.1 dJ5_ensureCapacityInternal_d00df_22 rfl (lv_at hl 1 rfl) ?_
    refine lv_iload_n B.1 B.2.1 dJ5_ensureCapacityInternal_d00df_23 rfl (lv_at hl 2 rfl) ?_
    have pq10 : N (R a_this 0 - 1) = N b1 := by rw [e2, Nat.add_sub_cancel]
    have hv11 : ((-2147483648 : Int) ≤ a_c ∧ (a_c : Int) ≤ 2147483647) ∧ (1 ≤ a_c) ∧ (a_c ≤ 34000) ∧ (((N (R a_this 0 - 1) : Nat) : Int) < a_c) := by first | omega | exact ⟨by first | omega | assumption | exact trivial, by first | omega | assumption | exact trivial, by first | omega | assumption | exact trivial, by first | omega | assumption | exact trivial⟩
    refine p_calli (c_runVS (n := 1) (as := [.int (II a_c)]) (rest := [.ref b1, .ref a_this]) B hX hA hM hl.1 t_this (k_J5_newCapacity_0f7a4 l D dA eA L T N I J R a_this t_this a_c hv11.1 hv11.2.1 hv11.2.2.1 hv11.2.2.2 _ _) mv_J5_104 nm_J5_newCapacity_0f7a4 ⟨rfl, rfl⟩ ⟨Nat.le_of_ble_eq_true rfl, Nat.le_of_ble_eq_true rfl⟩ dJ5_ensureCapacityInternal_d00df_24 rfl rfl (Nat.le_of_ble_eq_true rfl) ⟨by show 0 + 0 ≤ ((70000 - N (R a_this 0 - 1)) / 18 + 1); omega, by show 0 + 0 ≤ (2 * (70000 - N (R a_this 0 - 1))); omega⟩) (fun x13 ix13 hp12 => ?_)
    have hp12a := hp12
    replace hp12a : (x13 = a_c ∨ x13 = 2 * ((N (R a_this 0 - 1) : Nat) : Int) + 2) ∧ a_c ≤ x13 ∧ 2 * ((N (R a_this 0 - 1) : Nat) : Int) + 2 ≤ x13 := hp12a
    obtain ⟨hp12a_0, hp12a_1, hp12a_2⟩ := hp12a
    refine lv_aload_n B.1 B.2.1 dJ5_ensureCapacityInternal_d00df_27 rfl (lv_at hl 1 rfl) ?_
    refine c_geti (k := 1) pk_J4 B hM t_this kd14 rfl (by decide) fl_J5_22 dJ5_ensureCapacityInternal_d00df_28 e6 ?_
    refine q_shl0 B dJ5_ensureCapacityInternal_d00df_31 ?_
    have hv14 : ((-2147483648 : Int) ≤ x13 ∧ (x13 : Int) ≤ 2147483647) ∧ (0 ≤ x13) ∧ (16 ≤ x13.toNat) ∧ (x13.toNat ≤ 70000) := by first | omega | exact ⟨by first | omega | assumption | exact trivial, by first | omega | assumption | exact trivial, by first | omega | assumption | exact trivial, by first | omega | assumption | exact trivial⟩
    refine g_callr hM hA (c_runS (n := 2) (as := [.ref b1, .int (II x13)]) (rest := [.ref a_this]) B hX hA hM hl.1 (k_J7_copyOf_9075b l D dA eA L T N I J R b1 t3 x13 hv14.1 96 kd96 kd96 (by decide +kernel) (fun k _ hk9 => by have h9 := ga96 hM.2.2.2.2.2.2.1 t3 hk9; exact ⟨h9, h9⟩) hv14.2.1 hv14.2.2.1 hv14.2.2.2 _ _) ml_J5_108 nm_J7_copyOf_9075b ⟨rfl, rfl⟩ ⟨Nat.le_of_ble_eq_true rfl, Nat.le_of_ble_eq_true rfl⟩ dJ5_ensureCapacityInternal_d00df_32 rfl rfl (Nat.le_of_ble_eq_true rfl) ⟨by show 0 + 1 ≤ ((70000 - N (R a_this 0 - 1)) / 18 + 1); omega, by show 0 + x13.toNat ≤ (2 * (70000 - N (R a_this 0 - 1))); omega⟩) (fun b16 L17 T18 N19 I20 J21 R22 dz23 dl24 H locs hp15 hMn => ?_)
    obtain ⟨yJ21, yR22, hFc25, tb16, hp15a⟩ := hp15
    obtain rfl := yJ21.symm; obtain rfl := yR22.symm
    have hFo := hF
    replace hF : Fr mo_J5_ensureCapacityInternal_d00df [] T N I J R T18 N19 I20 J R := hF.trans hFc25 (by decide) e20
    have hM := hMn
    clear hMn
    replace hp15a : N19 b16 = x13.toNat ∧ T b16 = 0 ∧ dz23 ≤ 1 ∧ dl24 ≤ x13.toNat := hp15a
    obtain ⟨hp15a_0, hp15a_1, hp15a_2, hp15a_3⟩ := hp15a
    have z26 : T b16 = 0 := T0_x hFo hp15a_1 nm0
    clear hFo
    have t27 : T18 a_this = 14 := hF.tt t_this (by decide) nm0
    refine c_putr (k := 0) (v := b16 + 1) pk_J4 B hM t27 kd14 rfl (by decide) fl_J5_15 (Or.inl rfl) dJ5_ensureCapacityInternal_d00df_35 rfl rfl ⟨rfl, fun _ => rfl, rfl, fun _ => rfl⟩ (rokR tb16 rfl) (fun R28 H locs hu29 hM => ?_)
    have e30 : R28 a_this 0 = b16 + 1 := w2_at hu29
    replace hF : Fr mo_J5_ensureCapacityInternal_d00df [] T N I J R T18 N19 I20 J R28 := hF.wr hu29 (fun _ _ => by rw [t_this]; rfl)
    have n31 : 16 ≤ N19 b16 ∧ N19 b16 ≤ 70000 := gn96 hM.2.2.2.2.2.2.1 tb16
    have pq32 : N19 (R28 a_this 0 - 1) = N19 b16 := by rw [e30, Nat.add_sub_cancel]
    have pq33 : N19 (R28 a_this 0 - 1) = N19 b16 := by rw [e30, Nat.add_sub_cancel]
    refine g_vret B hM dJ5_ensureCapacityInternal_d00df_38 ⟨by show 0 + dz23 ≤ ((70000 - N (R a_this 0 - 1)) / 18 + 1); omega, by show 0 + dl24 ≤ (2 * (70000 - N (R a_this 0 - 1))); omega⟩ ?_
    rw [← hPST]
    exact ⟨rfl, rfl, hF, by first | omega | assumption | exact trivial, by first | omega | assumption | exact trivial, by first | omega | assumption | exact trivial, by first | omega | assumption | exact trivial⟩
