def mo_J5_setLength_d00df : List Nat := [448, 3072, 451, 450]
set_option maxHeartbeats 1000000 in
set_option maxRecDepth 20000 in
theorem k_J5_setLength_d00df (l : Launch) (D : va_G) (dA : Nat → ClassId) (eA : Nat) (L : List Nat) (T N : Nat → Nat) (I : Nat → Nat → Int) (J : Nat → Nat → Int64) (R : Nat → Nat → Nat) (a_this : Nat) (t_this : T a_this = 14) (a_n : Int) (i_n : (-2147483648 : Int) ≤ a_n ∧ a_n ≤ 2147483647) (p_0 : a_n = 0) : GC l yJ5_setLength_d00df cJ5_setLength_d00df 2 none ({ frames := 4, cells := (70000 - N (R a_this 0 - 1)) / 18 + 1, slots := 2 * (70000 - N (R a_this 0 - 1)), locals := 104 }) D dA eA L T N I J R [.ref a_this, .int (II a_n)] ((70000 - N (R a_this 0 - 1)) / 18 + 1) (2 * (70000 - N (R a_this 0 - 1))) (gV (fun L' T' N' I' J' R' dz dl => J' = J ∧ Fr mo_J5_setLength_d00df [] T N I J R T' N' I' J' R' ∧ I' a_this 3 = 0 ∧ I' a_this 3 ≤ ((N' (R' a_this 0 - 1) : Nat) : Int) ∧ (dz : Int) * 18 ≤ ((N' (R' a_this 0 - 1) : Nat) : Int) - ((N (R a_this 0 - 1) : Nat) : Int) ∧ (dl : Int) ≤ 2 * (((N' (R' a_this 0 - 1) : Nat) : Int) - ((N (R a_this 0 - 1) : Nat) : Int)))) := by
  generalize hPST : (gV (fun L' T' N' I' J' R' dz dl => J' = J ∧ Fr mo_J5_setLength_d00df [] T N I J R T' N' I' J' R' ∧ I' a_this 3 = 0 ∧ I' a_this 3 ≤ ((N' (R' a_this 0 - 1) : Nat) : Int) ∧ (dz : Int) * 18 ≤ ((N' (R' a_this 0 - 1) : Nat) : Int) - ((N (R a_this 0 - 1) : Nat) : Int) ∧ (dl : Int) ≤ 2 * (((N' (R' a_this 0 - 1) : Nat) : Int) - ((N (R a_this 0 - 1) : Nat) : Int)))) = PST
  refine g_enter (own := RJ5) (by decide) rfl (Nat.le_of_ble_eq_true rfl) (fun p e s m args below meth c ls hm B hX hM hl => ?_)
  have hC0 := hM.2.2.2.2.2.2.1
  have hW0 := hM.2.2.2
  have hF : Fr mo_J5_setLength_d00df [] T N I J R T N I J R := Fr.rf
  have hA : ∀ q, s.heap.size ≤ q → cF dA L T N I J R s.heap.size q := fun q h => Or.inr h
  have hl : lv_has ls 2 [(0, .ref a_this), (1, .int (II a_n))] := hl
  obtain ⟨b1, e2, t3⟩ := g14_0 hM.2.2.2.2.2.2.1 t_this
  have n4 : 16 ≤ N b1 ∧ N b1 ≤ 70000 := gn96 hM.2.2.2.2.2.2.1 t3
  have pq5 : N (R a_this 0 - 1) = N b1 := by rw [e2, Nat.add_sub_cancel]
  obtain ⟨x6, e7⟩ : ∃ v, I a_this 3 = v := ⟨_, rfl⟩
  have r8 : (0 : Int) ≤ x6 ∧ x6 ≤ 40000 := by rw [← e7]; exact g14_3 hM.2.2.2.2.2.2.1 t_this
  refine lv_iload_n B.1 B.2.1 dJ5_setLength_d00df_0 rfl (lv_at hl 1 rfl) ?_
  refine q_ige (tgt := 13) B dJ5_setLength_d00df_1 (by decide) (by unfold inr; omega) (fun c9 => ?_) (fun c9 => absurd c9 (by omega))
  refine lv_aload_n B.1 B.2.1 dJ5_setLength_d00df_13 rfl (lv_at hl 0 rfl) ?_
  refine lv_iload_n B.1 B.2.1 dJ5_setLength_d00df_14 rfl (lv_at hl 1 rfl) ?_
  have hFt := hF
  have hMt := hM
  have hv10 : ((-2147483648 : Int) ≤ a_n ∧ (a_n : Int) ≤ 2147483647) ∧ (a_n ≤ 34000) ∧ (0 ≤ a_n) := by first | omega | exact ⟨by first | omega | assumption | exact trivial, by first | omega | assumption | exact trivial, by first | omega | assumption | exact trivial⟩
  refine g_callv hM hA (c_runVS (n := 1) (as := [.int (II a_n)]) (rest := []) B hX hA hM hl.1 t_this (k_J5_ensureCapacityInternal_d00df l D dA eA L T N I J R a_this t_this a_n hv10.1 hv10.2.1 hv10.2.2 _ _) mv_J5_100 nm_J5_ensureCapacityInternal_d00df ⟨rfl, rfl⟩ ⟨Nat.le_of_ble_eq_true rfl, Nat.le_of_ble_eq_true rfl⟩ dJ5_setLength_d00df_15 rfl rfl (Nat.le_of_ble_eq_true rfl) ⟨by show 0 + ((70000 - N (R a_this 0 - 1)) / 18 + 1) ≤ ((70000 - N (R a_this 0 - 1)) / 18 + 1); omega, by show 0 + (2 * (70000 - N (R a_this 0 - 1))) ≤ (2 * (70000 - N (R a_this 0 - 1))); omega⟩) (fun L13 T14 N15 I16 J17 R18 dz19 dl20 H locs hp11 hMn => ?_)
  obtain ⟨yJ17, hFc21, hp11a⟩ := hp11
  obtain rfl := yJ17.symm
  replace hF : Fr mo_J5_setLength_d00df [] T N I J R T14 N15 I16 J R18 := hF.trans hFc21 (by decide) e20
  have hM := hMn
  clear hMn
  replace hp11a : a_n ≤ ((N15 (R18 a_this 0 - 1) : Nat) : Int) ∧ ((N (R a_this 0 - 1) : Nat) : Int) ≤ ((N15 (R18 a_this 0 - 1) : Nat) : Int) ∧ (dz19 : Int) * 18 ≤ ((N15 (R18 a_this 0 - 1) : Nat) : Int) - ((N (R a_this 0 - 1) : Nat) : Int) ∧ (dl20 : Int) ≤ 2 * (((N15 (R18 a_this 0 - 1) : Nat) : Int) - ((N (R a_this 0 - 1) : Nat) : Int)) := hp11a
  obtain ⟨hp11a_0, hp11a_1, hp11a_2, hp11a_3⟩ := hp11a
  obtain ⟨v22, e23⟩ : ∃ v, R18 a_this 0 = v := ⟨_, rfl⟩
  have t24 : T14 a_this = 14 := hF.tt t_this (by decide) nm0
  obtain ⟨b25, e26, t27⟩ := g14_0 hM.2.2.2.2.2.2.1 t24
  have pq28 : N15 (R18 a_this 0 - 1) = N15 b25 := by rw [e26, Nat.add_sub_cancel]
  have n29 : 16 ≤ N15 b25 ∧ N15 b25 ≤ 70000 := gn96 hM.2.2.2.2.2.2.1 t27
  have pq30 : N15 (R18 a_this 0 - 1) = N15 b25 := by rw [e26, Nat.add_sub_cancel]
  clear hFt hMt
  refine lv_aload_n B.1 B.2.1 dJ5_setLength_d00df_18 rfl (lv_at hl 0 rfl) ?_
  have e31 : I16 a_this 3 = x6 := (hFc21.i t_this (by decide) nm0 rfl).trans e7
  refine c_geti (k := 3) pk_J4 B hM t24 kd14 rfl (by decide) fl_J5_79 dJ5_setLength_d00df_19 e31 ?_
  refine lv_iload_n B.1 B.2.1 dJ5_setLength_d00df_22 rfl (lv_at hl 1 rfl) ?_
  refine q_cge (tgt := 63) B dJ5_setLength_d00df_23 (by decide) (by unfold inr; omega) (by unfold inr; omega) (fun c32 => ?_) (fun c32 => absurd c32 (by omega))
  refine lv_aload_n B.1 B.2.1 dJ5_setLength_d00df_63 rfl (lv_at hl 0 rfl) ?_
  refine c_geti (k := 3) pk_J4 B hM t24 kd14 rfl (by decide) fl_J5_79 dJ5_setLength_d00df_64 e31 ?_
  refine lv_iload_n B.1 B.2.1 dJ5_setLength_d00df_67 rfl (lv_at hl 1 rfl) ?_
  refine q_cle (tgt := 76) B dJ5_setLength_d00df_68 (by decide) (by unfold inr; omega) (by unfold inr; omega) (fun c33 => ?_) (fun c33 => ?_)
  · refine lv_aload_n B.1 B.2.1 dJ5_setLength_d00df_76 rfl (lv_at hl 0 rfl) ?_
    refine lv_iload_n B.1 B.2.1 dJ5_setLength_d00df_77 rfl (lv_at hl 1 rfl) ?_
    refine c_puti (k := 3) pk_J4 B hM t24 kd14 rfl (by decide) fl_J5_79 (Or.inl rfl) dJ5_setLength_d00df_78 rfl rfl rfl (show (0 : Int) ≤ a_n from by omega) (show a_n ≤ (40000 : Int) from by omega) (fun I34 H locs hu35 hM => ?_)
    have e36 : I34 a_this 3 = a_n := w2_at hu35
    replace hF : Fr mo_J5_setLength_d00df [] T N I J R T14 N15 I34 J R18 := hF.wi hu35 (fun _ _ => by rw [t_this]; rfl)
    have pq37 : N15 (R18 a_this 0 - 1) = N15 b25 := by rw [e26, Nat.add_sub_cancel]
    refine g_vret B hM dJ5_setLength_d00df_81 ⟨by show 0 + dz19 ≤ ((70000 - N (R a_this 0 - 1)) / 18 + 1); omega, by show 0 + dl20 ≤ (2 * (70000 - N (R a_this 0 - 1))); omega⟩ ?_
    rw [← hPST]
    exact ⟨rfl, rfl, hF, by first | omega | assumption | exact trivial, by first | omega | assumption | exact trivial, by first | omega | assumption | exact trivial, by first | omega | assumption | exact trivial⟩
  · refine lv_aload_n B.1 B.2.1 dJ5_setLength_d00df_71 rfl (lv_at hl 0 rfl) ?_
    refine q_con B dJ5_setLength_d00df_72 ?_
    refine c_puti (k := 2) pk_J4 B hM t24 kd14 rfl (by decide) fl_J5_73 (Or.inl rfl) dJ5_setLength_d00df_73 rfl (narZ (by omega)) rfl (show (0 : Int) ≤ 1 from by omega) (show 1 ≤ (1 : Int) from by omega) (fun I38 H locs hu39 hM => ?_)
    have e40 : I38 a_this 2 = 1 := w2_at hu39
    replace hF : Fr mo_J5_setLength_d00df [] T N I J R T14 N15 I38 J R18 := hF.wi hu39 (fun _ _ => by rw [t_this]; rfl)
    refine lv_aload_n B.1 B.2.1 dJ5_setLength_d00df_76 rfl (lv_at hl 0 rfl) ?_
    refine lv_iload_n B.1 B.2.1 dJ5_setLength_d00df_77 rfl (lv_at hl 1 rfl) ?_
    refine c_puti (k := 3) pk_J4 B hM t24 kd14 rfl (by decide) fl_J5_79 (Or.inl rfl) dJ5_setLength_d00df_78 rfl rfl rfl (show (0 : Int) ≤ a_n from by omega) (show a_n ≤ (40000 : Int) from by omega) (fun I41 H locs hu42 hM => ?_)
    have e43 : I41 a_this 3 = a_n := w2_at hu42
    replace hF : Fr mo_J5_setLength_d00df [] T N I J R T14 N15 I41 J R18 := hF.wi hu42 (fun _ _ => by rw [t_this]; rfl)
    have pq44 : N15 (R18 a_this 0 - 1) = N15 b25 := by rw [e26, Nat.add_sub_cancel]
    refine g_vret B hM dJ5_setLength_d00df_81 ⟨by show 0 + dz19 ≤ ((70000 - N (R a_this 0 - 1)) / 18 + 1); omega, by show 0 + dl20 ≤ (2 * (70000 - N (R a_this 0 - 1))); omega⟩ ?_
    rw [← hPST]
    exact ⟨rfl, rfl, hF, by first | omega | assumption | exact trivial, by first | omega | assumption | exact trivial, by first | omega | assumption | exact trivial, by first | omega | assumption | exact trivial⟩

def mo_J4_setLength_d00df : List Nat := [448, 3072, 451, 450]
set_option maxHeartbeats 1000000 in
set_option maxRecDepth 20000 in
theorem k_J4_setLength_d00df (l : Launch) (D : va_G) (dA : Nat → ClassId) (eA : Nat) (L : List Nat) (T N : Nat → Nat) (I : Nat → Nat → Int) (J : Nat → Nat → Int64) (R : Nat → Nat → Nat) (a_this : Nat) (t_this : T a_this = 14) (a_n : Int) (i_n : (-2147483648 : Int) ≤ a_n ∧ a_n ≤ 2147483647) (p_0 : a_n = 0) : GC l yJ4_setLength_d00df cJ4_setLength_d00df 2 none ({ frames := 5, cells := (70000 - N (R a_this 0 - 1)) / 18 + 1, slots := 2 * (70000 - N (R a_this 0 - 1)), locals := 125 }) D dA eA L T N I J R [.ref a_this, .int (II a_n)] ((70000 - N (R a_this 0 - 1)) / 18 + 1) (2 * (70000 - N (R a_this 0 - 1))) (gV (fun L' T' N' I' J' R' dz dl => J' = J ∧ Fr mo_J4_setLength_d00df [] T N I J R T' N' I' J' R' ∧ I' a_this 3 = 0 ∧ I' a_this 3 ≤ ((N' (R' a_this 0 - 1) : Nat) : Int) ∧ (dz : Int) * 18 ≤ ((N' (R' a_this 0 - 1) : Nat) : Int) - ((N (R a_this 0 - 1) : Nat) : Int) ∧ (dl : Int) ≤ 2 * (((N' (R' a_this 0 - 1) : Nat) : Int) - ((N (R a_this 0 - 1) : Nat) : Int)))) := by
  generalize hPST : (gV (fun L' T' N' I' J' R' dz dl => J' = J ∧ Fr mo_J4_setLength_d00df [] T N I J R T' N' I' J' R' ∧ I' a_this 3 = 0 ∧ I' a_this 3 ≤ ((N' (R' a_this 0 - 1) : Nat) : Int) ∧ (dz : Int) * 18 ≤ ((N' (R' a_this 0 - 1) : Nat) : Int) - ((N (R a_this 0 - 1) : Nat) : Int) ∧ (dl : Int) ≤ 2 * (((N' (R' a_this 0 - 1) : Nat) : Int) - ((N (R a_this 0 - 1) : Nat) : Int)))) = PST
  refine g_enter (own := RJ4) (by decide) rfl (Nat.le_of_ble_eq_true rfl) (fun p e s m args below meth c ls hm B hX hM hl => ?_)
  have hC0 := hM.2.2.2.2.2.2.1
  have hW0 := hM.2.2.2
  have hF : Fr mo_J4_setLength_d00df [] T N I J R T N I J R := Fr.rf
  have hA : ∀ q, s.heap.size ≤ q → cF dA L T N I J R s.heap.size q := fun q h => Or.inr h
  have hl : lv_has ls 2 [(0, .ref a_this), (1, .int (II a_n))] := hl
  obtain ⟨b1, e2, t3⟩ := g14_0 hM.2.2.2.2.2.2.1 t_this
  have n4 : 16 ≤ N b1 ∧ N b1 ≤ 70000 := gn96 hM.2.2.2.2.2.2.1 t3
  have pq5 : N (R a_this 0 - 1) = N b1 := by rw [e2, Nat.add_sub_cancel]
  obtain ⟨x6, e7⟩ : ∃ v, I a_this 3 = v := ⟨_, rfl⟩
  have r8 : (0 : Int) ≤ x6 ∧ x6 ≤ 40000 := by rw [← e7]; exact g14_3 hM.2.2.2.2.2.2.1 t_this
  refine lv_aload_n B.1 B.2.1 dJ4_setLength_d00df_0 rfl (lv_at hl 0 rfl) ?_
  refine lv_iload_n B.1 B.2.1 dJ4_setLength_d00df_1 rfl (lv_at hl 1 rfl) ?_
  have hFt := hF
  have hMt := hM
  have hv9 : ((-2147483648 : Int) ≤ a_n ∧ (a_n : Int) ≤ 2147483647) ∧ (a_n = 0) := by first | omega | exact ⟨by first | omega | assumption | exact trivial, by first | omega | assumption | exact trivial⟩
  refine g_callv hM hA (c_runSU (n := 1) (as := [.int (II a_n)]) (rest := []) B hX hA hM hl.1 t_this kd14 (k_J5_setLength_d00df l D dA eA L T N I J R a_this t_this a_n hv9.1 hv9.2 _ _) mu_J4_333 nm_J5_setLength_d00df ⟨rfl, rfl⟩ ⟨Nat.le_of_ble_eq_true rfl, Nat.le_of_ble_eq_true rfl⟩ dJ4_setLength_d00df_2 rfl rfl (Nat.le_of_ble_eq_true rfl) ⟨by show 0 + ((70000 - N (R a_this 0 - 1)) / 18 + 1) ≤ ((70000 - N (R a_this 0 - 1)) / 18 + 1); omega, by show 0 + (2 * (70000 - N (R a_this 0 - 1))) ≤ (2 * (70000 - N (R a_this 0 - 1))); omega⟩ (by decide)) (fun L12 T13 N14 I15 J16 R17 dz18 dl19 H locs hp10 hMn => ?_)
  obtain ⟨yJ16, hFc20, hp10a⟩ := hp10
  obtain rfl := yJ16.symm
  replace hF : Fr mo_J4_setLength_d00df [] T N I J R T13 N14 I15 J R17 := hF.trans hFc20 (by decide) e20
  have hM := hMn
  clear hMn
  replace hp10a : I15 a_this 3 = 0 ∧ I15 a_this 3 ≤ ((N14 (R17 a_this 0 - 1) : Nat) : Int) ∧ (dz18 : Int) * 18 ≤ ((N14 (R17 a_this 0 - 1) : Nat) : Int) - ((N (R a_this 0 - 1) : Nat) : Int) ∧ (dl19 : Int) ≤ 2 * (((N14 (R17 a_this 0 - 1) : Nat) : Int) - ((N (R a_this 0 - 1) : Nat) : Int)) := hp10a
  obtain ⟨hp10a_0, hp10a_1, hp10a_2, hp10a_3⟩ := hp10a
  obtain ⟨v21, e22⟩ : ∃ v, R17 a_this 0 = v := ⟨_, rfl⟩
  have t23 : T13 a_this = 14 := hF.tt t_this (by decide) nm0
  obtain ⟨b24, e25, t26⟩ := g14_0 hM.2.2.2.2.2.2.1 t23
  have pq27 : N14 (R17 a_this 0 - 1) = N14 b24 := by rw [e25, Nat.add_sub_cancel]
  have n28 : 16 ≤ N14 b24 ∧ N14 b24 ≤ 70000 := gn96 hM.2.2.2.2.2.2.1 t26
  have pq29 : N14 (R17 a_this 0 - 1) = N14 b24 := by rw [e25, Nat.add_sub_cancel]
  clear hFt hMt
  have pq30 : N14 (R17 a_this 0 - 1) = N14 b24 := by rw [e25, Nat.add_sub_cancel]
  refine g_vret B hM dJ4_setLength_d00df_5 ⟨by show 0 + dz18 ≤ ((70000 - N (R a_this 0 - 1)) / 18 + 1); omega, by show 0 + dl19 ≤ (2 * (70000 - N (R a_this 0 - 1))); omega⟩ ?_
  rw [← hPST]
  exact ⟨rfl, rfl, hF, by first | omega | assumption | exact trivial, by first | omega | assumption | exact trivial, by first | omega | assumption | exact trivial, by first | omega | assumption | exact trivial⟩

set_option maxHeartbeats 1000000 in
set_option maxRecDepth 20000 in
theorem k_J5_length_8abf5 (l : Launch) (D : va_G) (dA : Nat → ClassId) (eA : Nat) (L : List Nat) (T N : Nat → Nat) (I : Nat → Nat → Int) (J : Nat → Nat → Int64) (R : Nat → Nat → Nat) (a_this : Nat) (t_this : T a_this = 14) : PC l yJ5_length_8abf5 cJ5_length_8abf5 1 (some .int) ({ frames := 0, cells := 0, slots := 0, locals := 0 }) D dA eA L T N I J R [.ref a_this] (rI (fun r => r = I a_this 3)) := by
  generalize hPST : (rI (fun r => r = I a_this 3)) = PST
  refine p_enter (own := RJ5) (by decide) rfl (Nat.le_of_ble_eq_true rfl) (fun p e s m args below meth c ls B hX hM hl => ?_)
  have hA : ∀ q, s.heap.size ≤ q → cF dA L T N I J R s.heap.size q := fun q h => Or.inr h
  have hl : lv_has ls 1 [(0, .ref a_this)] := hl
  refine lv_aload_n B.1 B.2.1 dJ5_length_8abf5_0 rfl (lv_at hl 0 rfl) ?_
  obtain ⟨x1, e2⟩ : ∃ v, I a_this 3 = v := ⟨_, rfl⟩
  have r3 : (0 : Int) ≤ x1 ∧ x1 ≤ 40000 := by rw [← e2]; exact g14_3 hM.2.2.2.2.2.2.1 t_this
  refine c_geti (k := 3) pk_J4 B hM t_this kd14 rfl (by decide) fl_J5_79 dJ5_length_8abf5_1 e2 ?_
  refine p_iret B dJ5_length_8abf5_4 ?_
  rw [← hPST]
  exact ⟨x1, rfl, by omega, by first | omega | assumption | exact trivial⟩

set_option maxHeartbeats 1000000 in
set_option maxRecDepth 20000 in
theorem k_J4_length_8abf5 (l : Launch) (D : va_G) (dA : Nat → ClassId) (eA : Nat) (L : List Nat) (T N : Nat → Nat) (I : Nat → Nat → Int) (J : Nat → Nat → Int64) (R : Nat → Nat → Nat) (a_this : Nat) (t_this : T a_this = 14) : PC l yJ4_length_8abf5 cJ4_length_8abf5 1 (some .int) ({ frames := 1, cells := 0, slots := 0, locals := 20 }) D dA eA L T N I J R [.ref a_this] (rI (fun r => r = I a_this 3)) := by
  generalize hPST : (rI (fun r => r = I a_this 3)) = PST
  refine p_enter (own := RJ4) (by decide) rfl (Nat.le_of_ble_eq_true rfl) (fun p e s m args below meth c ls B hX hM hl => ?_)
  have hA : ∀ q, s.heap.size ≤ q → cF dA L T N I J R s.heap.size q := fun q h => Or.inr h
  have hl : lv_has ls 1 [(0, .ref a_this)] := hl
  refine lv_aload_n B.1 B.2.1 dJ4_length_8abf5_0 rfl (lv_at hl 0 rfl) ?_
  refine p_calli (c_runSU (n := 0) (as := []) (rest := []) B hX hA hM hl.1 t_this kd14 (k_J5_length_8abf5 l D dA eA L T N I J R a_this t_this _ _) mu_J4_343 nm_J5_length_8abf5 ⟨rfl, rfl⟩ ⟨Nat.le_of_ble_eq_true rfl, Nat.le_of_ble_eq_true rfl⟩ dJ4_length_8abf5_1 rfl rfl (Nat.le_of_ble_eq_true rfl) ⟨Nat.zero_le _, Nat.zero_le _⟩ (by decide)) (fun x2 ix2 hp1 => ?_)
  have hp1a := hp1
  replace hp1a : x2 = I a_this 3 := hp1a
  obtain ⟨x3, e4⟩ : ∃ v, I a_this 3 = v := ⟨_, rfl⟩
  refine p_iret B dJ4_length_8abf5_4 ?_
  rw [← hPST]
  exact ⟨x2, rfl, by omega, by first | omega | assumption | exact trivial⟩

set_option maxHeartbeats 1000000 in
set_option maxRecDepth 20000 in
theorem k_J5_charAt_5068e (l : Launch) (D : va_G) (dA : Nat → ClassId) (eA : Nat) (L : List Nat) (T N : Nat → Nat) (I : Nat → Nat → Int) (J : Nat → Nat → Int64) (R : Nat → Nat → Nat) (a_this : Nat) (t_this : T a_this = 14) (a_i : Int) (i_i : (-2147483648 : Int) ≤ a_i ∧ a_i ≤ 2147483647) (p_0 : 0 ≤ a_i) (p_1 : a_i < I a_this 3) (p_2 : I a_this 3 ≤ ((N (R a_this 0 - 1) : Nat) : Int)) : PC l yJ5_charAt_5068e cJ5_charAt_5068e 5 (some .char) ({ frames := 2, cells := 0, slots := 0, locals := 43 }) D dA eA L T N I J R [.ref a_this, .int (II a_i)] (rI (fun r => (0 : Int) ≤ r ∧ r ≤ 65535 ∧ (True))) := by
  generalize hPST : (rI (fun r => (0 : Int) ≤ r ∧ r ≤ 65535 ∧ (True))) = PST
  refine p_enter (own := RJ5) (by decide) rfl (Nat.le_of_ble_eq_true rfl) (fun p e s m args below meth c ls B hX hM hl => ?_)
  have hA : ∀ q, s.heap.size ≤ q → cF dA L T N I J R s.heap.size q := fun q h => Or.inr h
  have hl : lv_has ls 5 [(0, .ref a_this), (1, .int (II a_i))] := hl
  obtain ⟨b1, e2, t3⟩ := g14_0 hM.2.2.2.2.2.2.1 t_this
  have n4 : 16 ≤ N b1 ∧ N b1 ≤ 70000 := gn96 hM.2.2.2.2.2.2.1 t3
  have pq5 : N (R a_this 0 - 1) = N b1 := by rw [e2, Nat.add_sub_cancel]
  obtain ⟨x6, e7⟩ : ∃ v, I a_this 3 = v := ⟨_, rfl⟩
  have r8 : (0 : Int) ≤ x6 ∧ x6 ≤ 40000 := by rw [← e7]; exact g14_3 hM.2.2.2.2.2.2.1 t_this
  refine lv_aload_n B.1 B.2.1 dJ5_charAt_5068e_0 rfl (lv_at hl 0 rfl) ?_
  have e9 : I a_this 1 = 0 := by have h9 := g14_1 hM.2.2.2.2.2.2.1 t_this; omega
  refine c_geti (k := 1) pk_J4 B hM t_this kd14 rfl (by decide) fl_J5_22 dJ5_charAt_5068e_1 e9 ?_
  refine lv_istore_n (lv' := [(2, .int (II 0)), (0, .ref a_this), (1, .int (II a_i))]) B.1 B.2.1 dJ5_charAt_5068e_4 rfl hl (by decide) rfl (fun ls hl => ?_)
  refine lv_aload_n B.1 B.2.1 dJ5_charAt_5068e_5 rfl (lv_at hl 1 rfl) ?_
  refine c_getn (k := 0) pk_J4 B hM t_this kd14 rfl (by decide) fl_J5_15 dJ5_charAt_5068e_6 e2 ?_
  refine lv_astore_n (lv' := [(3, .ref b1), (2, .int (II 0)), (0, .ref a_this), (1, .int (II a_i))]) B.1 B.2.1 dJ5_charAt_5068e_9 rfl hl (by decide) rfl (fun ls hl => ?_)
  refine lv_aload_n B.1 B.2.1 dJ5_charAt_5068e_10 rfl (lv_at hl 2 rfl) ?_
  refine c_geti (k := 3) pk_J4 B hM t_this kd14 rfl (by decide) fl_J5_79 dJ5_charAt_5068e_11 e7 ?_
  refine lv_aload_n B.1 B.2.1 dJ5_charAt_5068e_14 rfl (lv_at hl 0 rfl) ?_
  refine c_len B hM t3 kd96 (by decide) dJ5_charAt_5068e_15 rfl ?_
  refine lv_iload_n B.1 B.2.1 dJ5_charAt_5068e_16 rfl (lv_at hl 1 rfl) ?_
  refine q_shr0 B dJ5_charAt_5068e_17 ?_
  refine c_mmin B ml_J5_138 hl.1 (by unfold inr; omega) (by unfold inr; omega) (Nat.le_of_ble_eq_true rfl) (Nat.le_of_ble_eq_true rfl) (Nat.zero_le _) (Nat.zero_le _) dJ5_charAt_5068e_18 (fun x10 ox10 lx10 ux10 => ?_)
  refine lv_istore (lv' := [(4, .int (II x10)), (3, .ref b1), (2, .int (II 0)), (0, .ref a_this), (1, .int (II a_i))]) B.1 B.2.1 dJ5_charAt_5068e_21 hl (by decide) rfl (fun ls hl => ?_)
  refine lv_iload_n B.1 B.2.1 dJ5_charAt_5068e_23 rfl (lv_at hl 4 rfl) ?_
  refine lv_iload B.1 B.2.1 dJ5_charAt_5068e_24 (lv_at hl 0 rfl) ?_
  have hv11 : ((-2147483648 : Int) ≤ a_i ∧ (a_i : Int) ≤ 2147483647) ∧ ((-2147483648 : Int) ≤ x10 ∧ (x10 : Int) ≤ 2147483647) ∧ (0 ≤ a_i) ∧ (a_i < x10) := by first | omega | exact ⟨by first | omega | assumption | exact trivial, by first | omega | assumption | exact trivial, by first | omega | assumption | exact trivial, by first | omega | assumption | exact trivial⟩
  refine p_callv (c_runS (n := 2) (as := [.int (II a_i), .int (II x10)]) (rest := []) B hX hA hM hl.1 (k_J0_checkIndex_df160 l D dA eA L T N I J R a_i hv11.1 x10 hv11.2.1 hv11.2.2.1 hv11.2.2.2 _ _) ml_J5_144 nm_J0_checkIndex_df160 ⟨rfl, rfl⟩ ⟨Nat.le_of_ble_eq_true rfl, Nat.le_of_ble_eq_true rfl⟩ dJ5_charAt_5068e_26 rfl rfl (Nat.le_of_ble_eq_true rfl) ⟨Nat.zero_le _, Nat.zero_le _⟩) (fun hp12 => ?_)
  have hp12a := hp12
  clear hp12a
  refine lv_iload_n B.1 B.2.1 dJ5_charAt_5068e_29 rfl (lv_at hl 2 rfl) ?_
  refine q_ine (tgt := 42) B dJ5_charAt_5068e_30 (by decide) (by unfold inr; omega) (fun c14 => absurd c14 (by omega)) (fun c14 => ?_)
  refine lv_aload_n B.1 B.2.1 dJ5_charAt_5068e_33 rfl (lv_at hl 1 rfl) ?_
  refine lv_iload_n B.1 B.2.1 dJ5_charAt_5068e_34 rfl (lv_at hl 4 rfl) ?_
  obtain ⟨x15, e16⟩ : ∃ v, I b1 a_i.toNat = v := ⟨_, rfl⟩
  have r17 : (-128 : Int) ≤ x15 ∧ x15 ≤ 127 := by rw [← e16]; exact ga96 hM.2.2.2.2.2.2.1 t3 (by omega)
  refine c_bld B hM t3 kd96 an96 dJ5_charAt_5068e_35 (by omega) (by omega) e16 ?_
  refine q_sip B dJ5_charAt_5068e_36 (by decide) ?_
  refine q_andm B dJ5_charAt_5068e_39 (by decide) (inr_lit rfl) (fun x18 ix18 lx18 ux18 => ?_)
  unfold inr at ix18
  refine q_i2c B (by unfold inr; omega) dJ5_charAt_5068e_40 (fun x19 lx19 ux19 ex19 => ?_)
  refine p_cret B dJ5_charAt_5068e_41 (by omega) (by omega) ?_
  rw [← hPST]
  exact ⟨x19, rfl, by omega, by omega, by omega, by first | omega | assumption | exact trivial⟩

set_option maxHeartbeats 1000000 in
set_option maxRecDepth 20000 in
theorem k_J4_charAt_5068e (l : Launch) (D : va_G) (dA : Nat → ClassId) (eA : Nat) (L : List Nat) (T N : Nat → Nat) (I : Nat → Nat → Int) (J : Nat → Nat → Int64) (R : Nat → Nat → Nat) (a_this : Nat) (t_this : T a_this = 14) (a_i : Int) (i_i : (-2147483648 : Int) ≤ a_i ∧ a_i ≤ 2147483647) (p_0 : 0 ≤ a_i) (p_1 : a_i < I a_this 3) (p_2 : I a_this 3 ≤ ((N (R a_this 0 - 1) : Nat) : Int)) : PC l yJ4_charAt_5068e cJ4_charAt_5068e 2 (some .char) ({ frames := 3, cells := 0, slots := 0, locals := 67 }) D dA eA L T N I J R [.ref a_this, .int (II a_i)] (rI (fun r => (0 : Int) ≤ r ∧ r ≤ 65535 ∧ (True))) := by
  generalize hPST : (rI (fun r => (0 : Int) ≤ r ∧ r ≤ 65535 ∧ (True))) = PST
  refine p_enter (own := RJ4) (by decide) rfl (Nat.le_of_ble_eq_true rfl) (fun p e s m args below meth c ls B hX hM hl => ?_)
  have hA : ∀ q, s.heap.size ≤ q → cF dA L T N I J R s.heap.size q := fun q h => Or.inr h
  have hl : lv_has ls 2 [(0, .ref a_this), (1, .int (II a_i))] := hl
  obtain ⟨b1, e2, t3⟩ := g14_0 hM.2.2.2.2.2.2.1 t_this
  have n4 : 16 ≤ N b1 ∧ N b1 ≤ 70000 := gn96 hM.2.2.2.2.2.2.1 t3
  have pq5 : N (R a_this 0 - 1) = N b1 := by rw [e2, Nat.add_sub_cancel]
  refine lv_aload_n B.1 B.2.1 dJ4_charAt_5068e_0 rfl (lv_at hl 0 rfl) ?_
  refine lv_iload_n B.1 B.2.1 dJ4_charAt_5068e_1 rfl (lv_at hl 1 rfl) ?_
  obtain ⟨x6, e7⟩ : ∃ v, I a_this 3 = v := ⟨_, rfl⟩
  have pq8 : N (R a_this 0 - 1) = N b1 := by rw [e2, Nat.add_sub_cancel]
  have hv9 : ((-2147483648 : Int) ≤ a_i ∧ (a_i : Int) ≤ 2147483647) ∧ (0 ≤ a_i) ∧ (a_i < I a_this 3) ∧ (I a_this 3 ≤ ((N (R a_this 0 - 1) : Nat) : Int)) := by first | omega | exact ⟨by first | omega | assumption | exact trivial, by first | omega | assumption | exact trivial, by first | omega | assumption | exact trivial, by first | omega | assumption | exact trivial⟩
  refine p_calli (c_runSU (n := 1) (as := [.int (II a_i)]) (rest := []) B hX hA hM hl.1 t_this kd14 (k_J5_charAt_5068e l D dA eA L T N I J R a_this t_this a_i hv9.1 hv9.2.1 hv9.2.2.1 hv9.2.2.2 _ _) mu_J4_329 nm_J5_charAt_5068e ⟨rfl, rfl⟩ ⟨Nat.le_of_ble_eq_true rfl, Nat.le_of_ble_eq_true rfl⟩ dJ4_charAt_5068e_2 rfl rfl (Nat.le_of_ble_eq_true rfl) ⟨Nat.zero_le _, Nat.zero_le _⟩ (by decide)) (fun x11 ix11 hp10 => ?_)
  have hp10a := hp10
  replace hp10a : (0 : Int) ≤ x11 ∧ x11 ≤ 65535 ∧ (True) := hp10a
  obtain ⟨hp10a_0, hp10a_1, hp10a_2⟩ := hp10a
  refine p_cret B dJ4_charAt_5068e_5 (by omega) (by omega) ?_
  rw [← hPST]
  exact ⟨x11, rfl, by omega, by omega, by omega, by first | omega | assumption | exact trivial⟩
