def mo_J5_append_3fe6f : List Nat := [448, 3072, 451]
set_option maxHeartbeats 1000000 in
set_option maxRecDepth 20000 in
theorem k_J5_append_3fe6f (l : Launch) (D : va_G) (dA : Nat → ClassId) (eA : Nat) (L : List Nat) (T N : Nat → Nat) (I : Nat → Nat → Int) (J : Nat → Nat → Int64) (R : Nat → Nat → Nat) (a_this : Nat) (t_this : T a_this = 14) (a_c : Int) (i_c : (0 : Int) ≤ a_c ∧ a_c ≤ 65535) (p_0 : a_c ≤ 255) (p_1 : I a_this 3 ≤ ((N (R a_this 0 - 1) : Nat) : Int)) (p_2 : I a_this 3 ≤ 33900) : GC l yJ5_append_3fe6f cJ5_append_3fe6f 2 (some (.object "java/lang/AbstractStringBuilder")) ({ frames := 4, cells := (70000 - N (R a_this 0 - 1)) / 18 + 1, slots := 2 * (70000 - N (R a_this 0 - 1)), locals := 104 }) D dA eA L T N I J R [.ref a_this, .int (II a_c)] ((70000 - N (R a_this 0 - 1)) / 18 + 1) (2 * (70000 - N (R a_this 0 - 1))) (gR (fun r L' T' N' I' J' R' dz dl => J' = J ∧ Fr mo_J5_append_3fe6f [] T N I J R T' N' I' J' R' ∧ T' r = 14 ∧ (I' a_this 3 = I a_this 3 + 1 ∧ I' a_this 3 ≤ ((N' (R' a_this 0 - 1) : Nat) : Int) ∧ (dz : Int) * 18 ≤ ((N' (R' a_this 0 - 1) : Nat) : Int) - ((N (R a_this 0 - 1) : Nat) : Int) ∧ (dl : Int) ≤ 2 * (((N' (R' a_this 0 - 1) : Nat) : Int) - ((N (R a_this 0 - 1) : Nat) : Int))))) := by
  generalize hPST : (gR (fun r L' T' N' I' J' R' dz dl => J' = J ∧ Fr mo_J5_append_3fe6f [] T N I J R T' N' I' J' R' ∧ T' r = 14 ∧ (I' a_this 3 = I a_this 3 + 1 ∧ I' a_this 3 ≤ ((N' (R' a_this 0 - 1) : Nat) : Int) ∧ (dz : Int) * 18 ≤ ((N' (R' a_this 0 - 1) : Nat) : Int) - ((N (R a_this 0 - 1) : Nat) : Int) ∧ (dl : Int) ≤ 2 * (((N' (R' a_this 0 - 1) : Nat) : Int) - ((N (R a_this 0 - 1) : Nat) : Int))))) = PST
  refine g_enter (own := RJ5) (by decide) rfl (Nat.le_of_ble_eq_true rfl) (fun p e s m args below meth c ls hm B hX hM hl => ?_)
  have hC0 := hM.2.2.2.2.2.2.1
  have hW0 := hM.2.2.2
  have hF : Fr mo_J5_append_3fe6f [] T N I J R T N I J R := Fr.rf
  have hA : ∀ q, s.heap.size ≤ q → cF dA L T N I J R s.heap.size q := fun q h => Or.inr h
  have hl : lv_has ls 2 [(0, .ref a_this), (1, .int (II a_c))] := hl
  obtain ⟨b1, e2, t3⟩ := g14_0 hM.2.2.2.2.2.2.1 t_this
  have n4 : 16 ≤ N b1 ∧ N b1 ≤ 70000 := gn96 hM.2.2.2.2.2.2.1 t3
  have pq5 : N (R a_this 0 - 1) = N b1 := by rw [e2, Nat.add_sub_cancel]
  obtain ⟨x6, e7⟩ : ∃ v, I a_this 3 = v := ⟨_, rfl⟩
  have r8 : (0 : Int) ≤ x6 ∧ x6 ≤ 40000 := by rw [← e7]; exact g14_3 hM.2.2.2.2.2.2.1 t_this
  refine lv_aload_n B.1 B.2.1 dJ5_append_3fe6f_0 rfl (lv_at hl 0 rfl) ?_
  refine lv_aload_n B.1 B.2.1 dJ5_append_3fe6f_1 rfl (lv_at hl 0 rfl) ?_
  refine c_geti (k := 3) pk_J4 B hM t_this kd14 rfl (by decide) fl_J5_79 dJ5_append_3fe6f_2 e7 ?_
  refine q_con B dJ5_append_3fe6f_5 ?_
  refine q_add B dJ5_append_3fe6f_6 ?_
  have hFt := hF
  have hMt := hM
  have hv9 : ((-2147483648 : Int) ≤ x6 + (1 : Int) ∧ (x6 + (1 : Int) : Int) ≤ 2147483647) ∧ ((x6 + (1 : Int)) ≤ 34000) ∧ (0 ≤ (x6 + (1 : Int))) := by first | omega | exact ⟨by first | omega | assumption | exact trivial, by first | omega | assumption | exact trivial, by first | omega | assumption | exact trivial⟩
  refine g_callv hM hA (c_runVS (n := 1) (as := [.int (II (x6 + (1 : Int)))]) (rest := []) B hX hA hM hl.1 t_this (k_J5_ensureCapacityInternal_d00df l D dA eA L T N I J R a_this t_this (x6 + (1 : Int)) hv9.1 hv9.2.1 hv9.2.2 _ _) mv_J5_100 nm_J5_ensureCapacityInternal_d00df ⟨rfl, rfl⟩ ⟨Nat.le_of_ble_eq_true rfl, Nat.le_of_ble_eq_true rfl⟩ dJ5_append_3fe6f_7 rfl rfl (Nat.le_of_ble_eq_true rfl) ⟨by show 0 + ((70000 - N (R a_this 0 - 1)) / 18 + 1) ≤ ((70000 - N (R a_this 0 - 1)) / 18 + 1); omega, by show 0 + (2 * (70000 - N (R a_this 0 - 1))) ≤ (2 * (70000 - N (R a_this 0 - 1))); omega⟩) (fun L12 T13 N14 I15 J16 R17 dz18 dl19 H locs hp10 hMn => ?_)
  obtain ⟨yJ16, hFc20, hp10a⟩ := hp10
  obtain rfl := yJ16.symm
  replace hF : Fr mo_J5_append_3fe6f [] T N I J R T13 N14 I15 J R17 := hF.trans hFc20 (by decide) e20
  have hM := hMn
  clear hMn
  replace hp10a : (x6 + (1 : Int)) ≤ ((N14 (R17 a_this 0 - 1) : Nat) : Int) ∧ ((N (R a_this 0 - 1) : Nat) : Int) ≤ ((N14 (R17 a_this 0 - 1) : Nat) : Int) ∧ (dz18 : Int) * 18 ≤ ((N14 (R17 a_this 0 - 1) : Nat) : Int) - ((N (R a_this 0 - 1) : Nat) : Int) ∧ (dl19 : Int) ≤ 2 * (((N14 (R17 a_this 0 - 1) : Nat) : Int) - ((N (R a_this 0 - 1) : Nat) : Int)) := hp10a
  obtain ⟨hp10a_0, hp10a_1, hp10a_2, hp10a_3⟩ := hp10a
  obtain ⟨v21, e22⟩ : ∃ v, R17 a_this 0 = v := ⟨_, rfl⟩
  have t23 : T13 a_this = 14 := hF.tt t_this (by decide) nm0
  obtain ⟨b24, e25, t26⟩ := g14_0 hM.2.2.2.2.2.2.1 t23
  have pq27 : N14 (R17 a_this 0 - 1) = N14 b24 := by rw [e25, Nat.add_sub_cancel]
  have n28 : 16 ≤ N14 b24 ∧ N14 b24 ≤ 70000 := gn96 hM.2.2.2.2.2.2.1 t26
  have pq29 : N14 (R17 a_this 0 - 1) = N14 b24 := by rw [e25, Nat.add_sub_cancel]
  clear hFt hMt
  refine lv_aload_n B.1 B.2.1 dJ5_append_3fe6f_10 rfl (lv_at hl 0 rfl) ?_
  have hFt := hF
  have hMt := hM
  refine p_calli (c_runVS (n := 0) (as := []) (rest := []) B hX hA hM hl.1 t23 (k_J5_isLatin1_aae02 l D dA eA L12 T13 N14 I15 J R17 a_this t23 _ _) mv_J5_83 nm_J5_isLatin1_aae02 ⟨rfl, rfl⟩ ⟨Nat.le_of_ble_eq_true rfl, Nat.le_of_ble_eq_true rfl⟩ dJ5_append_3fe6f_11 rfl rfl (Nat.le_of_ble_eq_true rfl) ⟨by show 0 + dz18 + 0 ≤ ((70000 - N (R a_this 0 - 1)) / 18 + 1); omega, by show 0 + dl19 + 0 ≤ (2 * (70000 - N (R a_this 0 - 1))); omega⟩) (fun x31 ix31 hp30 => ?_)
  have hp30a := hp30
  replace hp30a : (0 : Int) ≤ x31 ∧ x31 ≤ 1 ∧ (x31 = 1) := hp30a
  obtain ⟨hp30a_0, hp30a_1, hp30a_2⟩ := hp30a
  clear hFt hMt
  refine q_ieq (tgt := 45) B dJ5_append_3fe6f_14 (by decide) (by unfold inr; omega) (fun c32 => absurd c32 (by omega)) (fun c32 => ?_)
  refine lv_iload_n B.1 B.2.1 dJ5_append_3fe6f_17 rfl (lv_at hl 1 rfl) ?_
  have hFt := hF
  have hMt := hM
  refine p_calli (c_runS (n := 1) (as := [.int (II a_c)]) (rest := []) B hX hA hM hl.1 (k_J1_canEncode_fc78d l D dA eA L12 T13 N14 I15 J R17 a_c (by first | omega | assumption | exact trivial) _ _) ml_J5_191 nm_J1_canEncode_fc78d ⟨rfl, rfl⟩ ⟨Nat.le_of_ble_eq_true rfl, Nat.le_of_ble_eq_true rfl⟩ dJ5_append_3fe6f_18 rfl rfl (Nat.le_of_ble_eq_true rfl) ⟨by show 0 + dz18 + 0 ≤ ((70000 - N (R a_this 0 - 1)) / 18 + 1); omega, by show 0 + dl19 + 0 ≤ (2 * (70000 - N (R a_this 0 - 1))); omega⟩) (fun x34 ix34 hp33 => ?_)
  have hp33a := hp33
  replace hp33a : (0 : Int) ≤ x34 ∧ x34 ≤ 1 ∧ (((x34 = 1 ∧ a_c ≤ 255) ∨ (x34 = 0 ∧ 255 < a_c))) := hp33a
  obtain ⟨hp33a_0, hp33a_1, hp33a_2⟩ := hp33a
  clear hFt hMt
  refine q_ieq (tgt := 45) B dJ5_append_3fe6f_21 (by decide) (by unfold inr; omega) (fun c35 => absurd c35 (by omega)) (fun c35 => ?_)
  refine lv_aload_n B.1 B.2.1 dJ5_append_3fe6f_24 rfl (lv_at hl 0 rfl) ?_
  refine c_getn (k := 0) pk_J4 B hM t23 kd14 rfl (by decide) fl_J5_15 dJ5_append_3fe6f_25 e25 ?_
  refine lv_aload_n B.1 B.2.1 dJ5_append_3fe6f_28 rfl (lv_at hl 0 rfl) ?_
  refine lv_dup B.1 B.2.1 dJ5_append_3fe6f_29 rfl ?_
  have e36 : I15 a_this 3 = x6 := (hFc20.i t_this (by decide) nm0 rfl).trans e7
  refine c_geti (k := 3) pk_J4 B hM t23 kd14 rfl (by decide) fl_J5_79 dJ5_append_3fe6f_30 e36 ?_
  refine lv_dup_x1 B.1 B.2.1 dJ5_append_3fe6f_33 rfl rfl ?_
  refine q_con B dJ5_append_3fe6f_34 ?_
  refine q_add B dJ5_append_3fe6f_35 ?_
  refine c_puti (k := 3) pk_J4 B hM t23 kd14 rfl (by decide) fl_J5_79 (Or.inl rfl) dJ5_append_3fe6f_36 rfl rfl rfl (show (0 : Int) ≤ x6 + (1 : Int) from by omega) (show x6 + (1 : Int) ≤ (40000 : Int) from by omega) (fun I37 H locs hu38 hM => ?_)
  have e39 : I37 a_this 3 = x6 + (1 : Int) := w2_at hu38
  replace hF : Fr mo_J5_append_3fe6f [] T N I J R T13 N14 I37 J R17 := hF.wi hu38 (fun _ _ => by rw [t_this]; rfl)
  refine lv_iload_n B.1 B.2.1 dJ5_append_3fe6f_39 rfl (lv_at hl 1 rfl) ?_
  refine q_i2b B dJ5_append_3fe6f_40 (fun x40 ix40 => ?_)
  unfold inr at ix40
  refine c_bst B hM t26 kd96 aq96 dJ5_append_3fe6f_41 (by omega) (by omega) (fun I42 H locs x43 lx43 ux43 hu41 hM => ?_)
  have e44 : I42 b24 x6.toNat = x43 := w2_at hu41
  replace hF : Fr mo_J5_append_3fe6f [] T N I J R T13 N14 I42 J R17 := hF.wi hu41 (Fr_c hF t26 (by rw [cd_arr (j := 0) (by decide)]; rfl))
  refine lv_goto (tgt := 75) B.1 B.2.1 dJ5_append_3fe6f_42 (by decide) ?_
  refine lv_aload_n B.1 B.2.1 dJ5_append_3fe6f_75 rfl (lv_at hl 0 rfl) ?_
  have pq45 : N14 (R17 a_this 0 - 1) = N14 b24 := by rw [e25, Nat.add_sub_cancel]
  have e46 : I42 a_this 3 = x6 + (1 : Int) := (w2_ne hu41 (Or.inl (tne t23 t26 (by decide)))).trans e39
  refine g_aret (v := a_this + 1) B (Or.inl ⟨_, rfl⟩) hM dJ5_append_3fe6f_76 ⟨by show 0 + dz18 ≤ ((70000 - N (R a_this 0 - 1)) / 18 + 1); omega, by show 0 + dl19 ≤ (2 * (70000 - N (R a_this 0 - 1))); omega⟩ rfl ?_
  rw [← hPST]
  exact ⟨a_this, rfl, rfl, hF, t23, by first | omega | assumption | exact trivial, by first | omega | assumption | exact trivial, by first | omega | assumption | exact trivial, by first | omega | assumption | exact trivial⟩

def mo_J4_append_cf468 : List Nat := [448, 3072, 451]
set_option maxHeartbeats 1000000 in
set_option maxRecDepth 20000 in
theorem k_J4_append_cf468 (l : Launch) (D : va_G) (dA : Nat → ClassId) (eA : Nat) (L : List Nat) (T N : Nat → Nat) (I : Nat → Nat → Int) (J : Nat → Nat → Int64) (R : Nat → Nat → Nat) (a_this : Nat) (t_this : T a_this = 14) (a_c : Int) (i_c : (0 : Int) ≤ a_c ∧ a_c ≤ 65535) (p_0 : a_c ≤ 255) (p_1 : I a_this 3 ≤ ((N (R a_this 0 - 1) : Nat) : Int)) (p_2 : I a_this 3 ≤ 33900) : GC l yJ4_append_cf468 cJ4_append_cf468 2 (some (.object "java/lang/StringBuilder")) ({ frames := 5, cells := (70000 - N (R a_this 0 - 1)) / 18 + 1, slots := 2 * (70000 - N (R a_this 0 - 1)), locals := 125 }) D dA eA L T N I J R [.ref a_this, .int (II a_c)] ((70000 - N (R a_this 0 - 1)) / 18 + 1) (2 * (70000 - N (R a_this 0 - 1))) (gR (fun r L' T' N' I' J' R' dz dl => J' = J ∧ Fr mo_J4_append_cf468 [] T N I J R T' N' I' J' R' ∧ T' r = 14 ∧ (I' a_this 3 = I a_this 3 + 1 ∧ I' a_this 3 ≤ ((N' (R' a_this 0 - 1) : Nat) : Int) ∧ (dz : Int) * 18 ≤ ((N' (R' a_this 0 - 1) : Nat) : Int) - ((N (R a_this 0 - 1) : Nat) : Int) ∧ (dl : Int) ≤ 2 * (((N' (R' a_this 0 - 1) : Nat) : Int) - ((N (R a_this 0 - 1) : Nat) : Int))))) := by
  generalize hPST : (gR (fun r L' T' N' I' J' R' dz dl => J' = J ∧ Fr mo_J4_append_cf468 [] T N I J R T' N' I' J' R' ∧ T' r = 14 ∧ (I' a_this 3 = I a_this 3 + 1 ∧ I' a_this 3 ≤ ((N' (R' a_this 0 - 1) : Nat) : Int) ∧ (dz : Int) * 18 ≤ ((N' (R' a_this 0 - 1) : Nat) : Int) - ((N (R a_this 0 - 1) : Nat) : Int) ∧ (dl : Int) ≤ 2 * (((N' (R' a_this 0 - 1) : Nat) : Int) - ((N (R a_this 0 - 1) : Nat) : Int))))) = PST
  refine g_enter (own := RJ4) (by decide) rfl (Nat.le_of_ble_eq_true rfl) (fun p e s m args below meth c ls hm B hX hM hl => ?_)
  have hC0 := hM.2.2.2.2.2.2.1
  have hW0 := hM.2.2.2
  have hF : Fr mo_J4_append_cf468 [] T N I J R T N I J R := Fr.rf
  have hA : ∀ q, s.heap.size ≤ q → cF dA L T N I J R s.heap.size q := fun q h => Or.inr h
  have hl : lv_has ls 2 [(0, .ref a_this), (1, .int (II a_c))] := hl
  obtain ⟨b1, e2, t3⟩ := g14_0 hM.2.2.2.2.2.2.1 t_this
  have n4 : 16 ≤ N b1 ∧ N b1 ≤ 70000 := gn96 hM.2.2.2.2.2.2.1 t3
  have pq5 : N (R a_this 0 - 1) = N b1 := by rw [e2, Nat.add_sub_cancel]
  obtain ⟨x6, e7⟩ : ∃ v, I a_this 3 = v := ⟨_, rfl⟩
  have r8 : (0 : Int) ≤ x6 ∧ x6 ≤ 40000 := by rw [← e7]; exact g14_3 hM.2.2.2.2.2.2.1 t_this
  refine lv_aload_n B.1 B.2.1 dJ4_append_cf468_0 rfl (lv_at hl 0 rfl) ?_
  refine lv_iload_n B.1 B.2.1 dJ4_append_cf468_1 rfl (lv_at hl 1 rfl) ?_
  have hFt := hF
  have hMt := hM
  have pq9 : N (R a_this 0 - 1) = N b1 := by rw [e2, Nat.add_sub_cancel]
  have hv10 : ((0 : Int) ≤ a_c ∧ (a_c : Int) ≤ 65535) ∧ (a_c ≤ 255) ∧ (I a_this 3 ≤ ((N (R a_this 0 - 1) : Nat) : Int)) ∧ (I a_this 3 ≤ 33900) := by first | omega | exact ⟨by first | omega | assumption | exact trivial, by first | omega | assumption | exact trivial, by first | omega | assumption | exact trivial, by first | omega | assumption | exact trivial⟩
  refine g_callr hM hA (c_runSU (n := 1) (as := [.int (II a_c)]) (rest := []) B hX hA hM hl.1 t_this kd14 (k_J5_append_3fe6f l D dA eA L T N I J R a_this t_this a_c hv10.1 hv10.2.1 hv10.2.2.1 hv10.2.2.2 _ _) mu_J4_50 nm_J5_append_3fe6f ⟨rfl, rfl⟩ ⟨Nat.le_of_ble_eq_true rfl, Nat.le_of_ble_eq_true rfl⟩ dJ4_append_cf468_2 rfl rfl (Nat.le_of_ble_eq_true rfl) ⟨by show 0 + ((70000 - N (R a_this 0 - 1)) / 18 + 1) ≤ ((70000 - N (R a_this 0 - 1)) / 18 + 1); omega, by show 0 + (2 * (70000 - N (R a_this 0 - 1))) ≤ (2 * (70000 - N (R a_this 0 - 1))); omega⟩ (by decide)) (fun b12 L13 T14 N15 I16 J17 R18 dz19 dl20 H locs hp11 hMn => ?_)
  obtain ⟨yJ17, hFc21, tb12, hp11a⟩ := hp11
  obtain rfl := yJ17.symm
  replace hF : Fr mo_J4_append_cf468 [] T N I J R T14 N15 I16 J R18 := hF.trans hFc21 (by decide) e20
  have hM := hMn
  clear hMn
  replace hp11a : I16 a_this 3 = I a_this 3 + 1 ∧ I16 a_this 3 ≤ ((N15 (R18 a_this 0 - 1) : Nat) : Int) ∧ (dz19 : Int) * 18 ≤ ((N15 (R18 a_this 0 - 1) : Nat) : Int) - ((N (R a_this 0 - 1) : Nat) : Int) ∧ (dl20 : Int) ≤ 2 * (((N15 (R18 a_this 0 - 1) : Nat) : Int) - ((N (R a_this 0 - 1) : Nat) : Int)) := hp11a
  obtain ⟨hp11a_0, hp11a_1, hp11a_2, hp11a_3⟩ := hp11a
  obtain ⟨v22, e23⟩ : ∃ v, R18 a_this 0 = v := ⟨_, rfl⟩
  have t24 : T14 a_this = 14 := hF.tt t_this (by decide) nm0
  obtain ⟨b25, e26, t27⟩ := g14_0 hM.2.2.2.2.2.2.1 t24
  have pq28 : N15 (R18 a_this 0 - 1) = N15 b25 := by rw [e26, Nat.add_sub_cancel]
  have n29 : 16 ≤ N15 b25 ∧ N15 b25 ≤ 70000 := gn96 hM.2.2.2.2.2.2.1 t27
  have pq30 : N15 (R18 a_this 0 - 1) = N15 b25 := by rw [e26, Nat.add_sub_cancel]
  clear hFt hMt
  refine lv_pop B.1 B.2.1 dJ4_append_cf468_5 rfl ?_
  refine lv_aload_n B.1 B.2.1 dJ4_append_cf468_6 rfl (lv_at hl 0 rfl) ?_
  have pq31 : N15 (R18 a_this 0 - 1) = N15 b25 := by rw [e26, Nat.add_sub_cancel]
  refine g_aret (v := a_this + 1) B (Or.inl ⟨_, rfl⟩) hM dJ4_append_cf468_7 ⟨by show 0 + dz19 ≤ ((70000 - N (R a_this 0 - 1)) / 18 + 1); omega, by show 0 + dl20 ≤ (2 * (70000 - N (R a_this 0 - 1))); omega⟩ rfl ?_
  rw [← hPST]
  exact ⟨a_this, rfl, rfl, hF, t24, by first | omega | assumption | exact trivial, by first | omega | assumption | exact trivial, by first | omega | assumption | exact trivial, by first | omega | assumption | exact trivial⟩

def mo_J5_append_c97b9 : List Nat := [448, 3072, 451]
set_option maxHeartbeats 1000000 in
set_option maxRecDepth 20000 in
theorem k_J5_append_c97b9 (l : Launch) (D : va_G) (dA : Nat → ClassId) (eA : Nat) (L : List Nat) (T N : Nat → Nat) (I : Nat → Nat → Int) (J : Nat → Nat → Int64) (R : Nat → Nat → Nat) (a_this : Nat) (t_this : T a_this = 14) (a_i : Int) (i_i : (-2147483648 : Int) ≤ a_i ∧ a_i ≤ 2147483647) (p_0 : I a_this 3 ≤ ((N (R a_this 0 - 1) : Nat) : Int)) (p_1 : I a_this 3 ≤ 33900) : GC l yJ5_append_c97b9 cJ5_append_c97b9 4 (some (.object "java/lang/AbstractStringBuilder")) ({ frames := 4, cells := (70000 - N (R a_this 0 - 1)) / 18 + 1, slots := 2 * (70000 - N (R a_this 0 - 1)), locals := 104 }) D dA eA L T N I J R [.ref a_this, .int (II a_i)] ((70000 - N (R a_this 0 - 1)) / 18 + 1) (2 * (70000 - N (R a_this 0 - 1))) (gR (fun r L' T' N' I' J' R' dz dl => J' = J ∧ Fr mo_J5_append_c97b9 [] T N I J R T' N' I' J' R' ∧ T' r = 14 ∧ (I' a_this 3 ≤ I a_this 3 + 11 ∧ I a_this 3 ≤ I' a_this 3 ∧ I' a_this 3 ≤ ((N' (R' a_this 0 - 1) : Nat) : Int) ∧ (dz : Int) * 18 ≤ ((N' (R' a_this 0 - 1) : Nat) : Int) - ((N (R a_this 0 - 1) : Nat) : Int) ∧ (dl : Int) ≤ 2 * (((N' (R' a_this 0 - 1) : Nat) : Int) - ((N (R a_this 0 - 1) : Nat) : Int))))) := by
  generalize hPST : (gR (fun r L' T' N' I' J' R' dz dl => J' = J ∧ Fr mo_J5_append_c97b9 [] T N I J R T' N' I' J' R' ∧ T' r = 14 ∧ (I' a_this 3 ≤ I a_this 3 + 11 ∧ I a_this 3 ≤ I' a_this 3 ∧ I' a_this 3 ≤ ((N' (R' a_this 0 - 1) : Nat) : Int) ∧ (dz : Int) * 18 ≤ ((N' (R' a_this 0 - 1) : Nat) : Int) - ((N (R a_this 0 - 1) : Nat) : Int) ∧ (dl : Int) ≤ 2 * (((N' (R' a_this 0 - 1) : Nat) : Int) - ((N (R a_this 0 - 1) : Nat) : Int))))) = PST
  refine g_enter (own := RJ5) (by decide) rfl (Nat.le_of_ble_eq_true rfl) (fun p e s m args below meth c ls hm B hX hM hl => ?_)
  have hC0 := hM.2.2.2.2.2.2.1
  have hW0 := hM.2.2.2
  have hF : Fr mo_J5_append_c97b9 [] T N I J R T N I J R := Fr.rf
  have hA : ∀ q, s.heap.size ≤ q → cF dA L T N I J R s.heap.size q := fun q h => Or.inr h
  have hl : lv_has ls 4 [(0, .ref a_this), (1, .int (II a_i))] := hl
  obtain ⟨b1, e2, t3⟩ := g14_0 hM.2.2.2.2.2.2.1 t_this
  have n4 : 16 ≤ N b1 ∧ N b1 ≤ 70000 := gn96 hM.2.2.2.2.2.2.1 t3
  have pq5 : N (R a_this 0 - 1) = N b1 := by rw [e2, Nat.add_sub_cancel]
  obtain ⟨x6, e7⟩ : ∃ v, I a_this 3 = v := ⟨_, rfl⟩
  have r8 : (0 : Int) ≤ x6 ∧ x6 ≤ 40000 := by rw [← e7]; exact g14_3 hM.2.2.2.2.2.2.1 t_this
  refine lv_aload_n B.1 B.2.1 dJ5_append_c97b9_0 rfl (lv_at hl 0 rfl) ?_
  refine c_geti (k := 3) pk_J4 B hM t_this kd14 rfl (by decide) fl_J5_79 dJ5_append_c97b9_1 e7 ?_
  refine lv_istore_n (lv' := [(2, .int (II x6)), (0, .ref a_this), (1, .int (II a_i))]) B.1 B.2.1 dJ5_append_c97b9_4 rfl hl (by decide) rfl (fun ls hl => ?_)
  refine lv_iload_n B.1 B.2.1 dJ5_append_c97b9_5 rfl (lv_at hl 0 rfl) ?_
  refine lv_iload_n B.1 B.2.1 dJ5_append_c97b9_6 rfl (lv_at hl 2 rfl) ?_
  have hFt := hF
  have hMt := hM
  refine p_calli (c_runS (n := 1) (as := [.int (II a_i)]) (rest := [.int (II x6)]) B hX hA hM hl.1 (k_J6_stringSize_0f7a4 l D dA eA L T N I J R a_i (by first | omega | assumption | exact trivial) _ _) ml_J5_245 nm_J6_stringSize_0f7a4 ⟨rfl, rfl⟩ ⟨Nat.le_of_ble_eq_true rfl, Nat.le_of_ble_eq_true rfl⟩ dJ5_append_c97b9_7 rfl rfl (Nat.le_of_ble_eq_true rfl) ⟨by show 0 + 0 ≤ ((70000 - N (R a_this 0 - 1)) / 18 + 1); omega, by show 0 + 0 ≤ (2 * (70000 - N (R a_this 0 - 1))); omega⟩) (fun x10 ix10 hp9 => ?_)
  have hp9a := hp9
  replace hp9a : 1 ≤ x10 ∧ x10 ≤ 11 ∧ (0 ≤ a_i → DG a_i x10) ∧ (a_i < 0 → DG (-a_i) (x10 - 1) ∧ 2 ≤ x10) := hp9a
  obtain ⟨hp9a_0, hp9a_1, hp9a_2, hp9a_3⟩ := hp9a
  clear hFt hMt
  have HSa := hp9a_2
  have HSb := hp9a_3
  refine q_add B dJ5_append_c97b9_10 ?_
  refine lv_istore_n (lv' := [(3, .int (II (x6 + x10))), (2, .int (II x6)), (0, .ref a_this), (1, .int (II a_i))]) B.1 B.2.1 dJ5_append_c97b9_11 rfl hl (by decide) rfl (fun ls hl => ?_)
  refine lv_aload_n B.1 B.2.1 dJ5_append_c97b9_12 rfl (lv_at hl 2 rfl) ?_
  refine lv_iload_n B.1 B.2.1 dJ5_append_c97b9_13 rfl (lv_at hl 0 rfl) ?_
  have hFt := hF
  have hMt := hM
  have hv11 : ((-2147483648 : Int) ≤ x6 + x10 ∧ (x6 + x10 : Int) ≤ 2147483647) ∧ ((x6 + x10) ≤ 34000) ∧ (0 ≤ (x6 + x10)) := by first | omega | exact ⟨by first | omega | assumption | exact trivial, by first | omega | assumption | exact trivial, by first | omega | assumption | exact trivial⟩
  refine g_callv hM hA (c_runVS (n := 1) (as := [.int (II (x6 + x10))]) (rest := []) B hX hA hM hl.1 t_this (k_J5_ensureCapacityInternal_d00df l D dA eA L T N I J R a_this t_this (x6 + x10) hv11.1 hv11.2.1 hv11.2.2 _ _) mv_J5_100 nm_J5_ensureCapacityInternal_d00df ⟨rfl, rfl⟩ ⟨Nat.le_of_ble_eq_true rfl, Nat.le_of_ble_eq_true rfl⟩ dJ5_append_c97b9_14 rfl rfl (Nat.le_of_ble_eq_true rfl) ⟨by show 0 + ((70000 - N (R a_this 0 - 1)) / 18 + 1) ≤ ((70000 - N (R a_this 0 - 1)) / 18 + 1); omega, by show 0 + (2 * (70000 - N (R a_this 0 - 1))) ≤ (2 * (70000 - N (R a_this 0 - 1))); omega⟩) (fun L14 T15 N16 I17 J18 R19 dz20 dl21 H locs hp12 hMn => ?_)
  obtain ⟨yJ18, hFc22, hp12a⟩ := hp12
  obtain rfl := yJ18.symm
  replace hF : Fr mo_J5_append_c97b9 [] T N I J R T15 N16 I17 J R19 := hF.trans hFc22 (by decide) e20
  have hM := hMn
  clear hMn
  replace hp12a : (x6 + x10) ≤ ((N16 (R19 a_this 0 - 1) : Nat) : Int) ∧ ((N (R a_this 0 - 1) : Nat) : Int) ≤ ((N16 (R19 a_this 0 - 1) : Nat) : Int) ∧ (dz20 : Int) * 18 ≤ ((N16 (R19 a_this 0 - 1) : Nat) : Int) - ((N (R a_this 0 - 1) : Nat) : Int) ∧ (dl21 : Int) ≤ 2 * (((N16 (R19 a_this 0 - 1) : Nat) : Int) - ((N (R a_this 0 - 1) : Nat) : Int)) := hp12a
  obtain ⟨hp12a_0, hp12a_1, hp12a_2, hp12a_3⟩ := hp12a
  obtain ⟨v23, e24⟩ : ∃ v, R19 a_this 0 = v := ⟨_, rfl⟩
  have t25 : T15 a_this = 14 := hF.tt t_this (by decide) nm0
  obtain ⟨b26, e27, t28⟩ := g14_0 hM.2.2.2.2.2.2.1 t25
  have pq29 : N16 (R19 a_this 0 - 1) = N16 b26 := by rw [e27, Nat.add_sub_cancel]
  have n30 : 16 ≤ N16 b26 ∧ N16 b26 ≤ 70000 := gn96 hM.2.2.2.2.2.2.1 t28
  have pq31 : N16 (R19 a_this 0 - 1) = N16 b26 := by rw [e27, Nat.add_sub_cancel]
  clear hFt hMt
  refine lv_aload_n B.1 B.2.1 dJ5_append_c97b9_17 rfl (lv_at hl 2 rfl) ?_
  have hFt := hF
  have hMt := hM
  refine p_calli (c_runVS (n := 0) (as := []) (rest := []) B hX hA hM hl.1 t25 (k_J5_isLatin1_aae02 l D dA eA L14 T15 N16 I17 J R19 a_this t25 _ _) mv_J5_83 nm_J5_isLatin1_aae02 ⟨rfl, rfl⟩ ⟨Nat.le_of_ble_eq_true rfl, Nat.le_of_ble_eq_true rfl⟩ dJ5_append_c97b9_18 rfl rfl (Nat.le_of_ble_eq_true rfl) ⟨by show 0 + dz20 + 0 ≤ ((70000 - N (R a_this 0 - 1)) / 18 + 1); omega, by show 0 + dl21 + 0 ≤ (2 * (70000 - N (R a_this 0 - 1))); omega⟩) (fun x33 ix33 hp32 => ?_)
  have hp32a := hp32
  replace hp32a : (0 : Int) ≤ x33 ∧ x33 ≤ 1 ∧ (x33 = 1) := hp32a
  obtain ⟨hp32a_0, hp32a_1, hp32a_2⟩ := hp32a
  clear hFt hMt
  refine q_ieq (tgt := 37) B dJ5_append_c97b9_21 (by decide) (by unfold inr; omega) (fun c34 => absurd c34 (by omega)) (fun c34 => ?_)
  refine lv_iload_n B.1 B.2.1 dJ5_append_c97b9_24 rfl (lv_at hl 3 rfl) ?_
  refine lv_iload_n B.1 B.2.1 dJ5_append_c97b9_25 rfl (lv_at hl 0 rfl) ?_
  refine lv_aload_n B.1 B.2.1 dJ5_append_c97b9_26 rfl (lv_at hl 2 rfl) ?_
  refine c_getn (k := 0) pk_J4 B hM t25 kd14 rfl (by decide) fl_J5_15 dJ5_append_c97b9_27 e27 ?_
  have hFt := hF
  have hMt := hM
  have hv35 : ((-2147483648 : Int) ≤ a_i ∧ (a_i : Int) ≤ 2147483647) ∧ ((-2147483648 : Int) ≤ x6 + x10 ∧ (x6 + x10 : Int) ≤ 2147483647) ∧ (1 ≤ (x6 + x10)) ∧ ((x6 + x10) ≤ ((N16 b26 : Nat) : Int)) := by first | omega | exact ⟨by first | omega | assumption | exact trivial, by first | omega | assumption | exact trivial, by first | omega | assumption | exact trivial, by first | omega | assumption | exact trivial⟩
  refine z_calli hM hA (c_runS (n := 3) (as := [.int (II a_i), .int (II (x6 + x10)), .ref b26]) (rest := []) B hX hA hM hl.1 (k_J6_getChars_ba4f3 l D dA eA L14 T15 N16 I17 J R19 a_i hv35.1 (x6 + x10) hv35.2.1 b26 t28 (show 0 ≤ a_i → DG a_i (x6 + x10) from by intro h9; exact DG.mono (HSa h9) (by omega)) (show a_i < 0 → DG (-a_i) ((x6 + x10) - 1) ∧ 2 ≤ (x6 + x10) from by intro h9; exact ⟨DG.mono (HSb h9).1 (by omega), by have h8 := (HSb h9).2; omega⟩) hv35.2.2.1 hv35.2.2.2 _ _) ml_J5_248 nm_J6_getChars_ba4f3 ⟨rfl, rfl⟩ ⟨Nat.le_of_ble_eq_true rfl, Nat.le_of_ble_eq_true rfl⟩ dJ5_append_c97b9_30 rfl rfl (Nat.le_of_ble_eq_true rfl) ⟨by show 0 + dz20 + 0 ≤ ((70000 - N (R a_this 0 - 1)) / 18 + 1); omega, by show 0 + dl21 + 0 ≤ (2 * (70000 - N (R a_this 0 - 1))); omega⟩) (fun x37 ix37 L38 T39 N40 I41 J42 R43 dz44 dl45 H locs hp36 hMn => ?_)
  obtain ⟨yL38, yT39, yN40, yJ42, yR43, hFc46, hp36a⟩ := hp36
  obtain rfl := yL38.symm; obtain rfl := yT39.symm; obtain rfl := yN40.symm; obtain rfl := yJ42.symm; obtain rfl := yR43.symm
  replace hF : Fr mo_J5_append_c97b9 [] T N I J R T15 N16 I41 J R19 := hF.trans hFc46 (by decide) e20
  have hM := hMn
  clear hMn
  clear hp36a
  clear hFt hMt
  refine lv_pop B.1 B.2.1 dJ5_append_c97b9_33 rfl ?_
  refine lv_goto (tgt := 48) B.1 B.2.1 dJ5_append_c97b9_34 (by decide) ?_
  refine lv_aload_n B.1 B.2.1 dJ5_append_c97b9_48 rfl (lv_at hl 2 rfl) ?_
  refine lv_iload_n B.1 B.2.1 dJ5_append_c97b9_49 rfl (lv_at hl 0 rfl) ?_
  refine c_puti (k := 3) pk_J4 B hM t25 kd14 rfl (by decide) fl_J5_79 (Or.inl rfl) dJ5_append_c97b9_50 rfl rfl rfl (show (0 : Int) ≤ x6 + x10 from by omega) (show x6 + x10 ≤ (40000 : Int) from by omega) (fun I47 H locs hu48 hM => ?_)
  have e49 : I47 a_this 3 = x6 + x10 := w2_at hu48
  replace hF : Fr mo_J5_append_c97b9 [] T N I J R T15 N16 I47 J R19 := hF.wi hu48 (fun _ _ => by rw [t_this]; rfl)
  refine lv_aload_n B.1 B.2.1 dJ5_append_c97b9_53 rfl (lv_at hl 2 rfl) ?_
  have pq50 : N16 (R19 a_this 0 - 1) = N16 b26 := by rw [e27, Nat.add_sub_cancel]
  refine g_aret (v := a_this + 1) B (Or.inl ⟨_, rfl⟩) hM dJ5_append_c97b9_54 ⟨by show 0 + dz20 ≤ ((70000 - N (R a_this 0 - 1)) / 18 + 1); omega, by show 0 + dl21 ≤ (2 * (70000 - N (R a_this 0 - 1))); omega⟩ rfl ?_
  rw [← hPST]
  exact ⟨a_this, rfl, rfl, hF, t25, by first | omega | assumption | exact trivial, by first | omega | assumption | exact trivial, by first | omega | assumption | exact trivial, by first | omega | assumption | exact trivial, by first | omega | assumption | exact trivial⟩

def mo_J4_append_bf812 : List Nat := [448, 3072, 451]
set_option maxHeartbeats 1000000 in
set_option maxRecDepth 20000 in
theorem k_J4_append_bf812 (l : Launch) (D : va_G) (dA : Nat → ClassId) (eA : Nat) (L : List Nat) (T N : Nat → Nat) (I : Nat → Nat → Int) (J : Nat → Nat → Int64) (R : Nat → Nat → Nat) (a_this : Nat) (t_this : T a_this = 14) (a_i : Int) (i_i : (-2147483648 : Int) ≤ a_i ∧ a_i ≤ 2147483647) (p_0 : I a_this 3 ≤ ((N (R a_this 0 - 1) : Nat) : Int)) (p_1 : I a_this 3 ≤ 33900) : GC l yJ4_append_bf812 cJ4_append_bf812 2 (some (.object "java/lang/StringBuilder")) ({ frames := 5, cells := (70000 - N (R a_this 0 - 1)) / 18 + 1, slots := 2 * (70000 - N (R a_this 0 - 1)), locals := 127 }) D dA eA L T N I J R [.ref a_this, .int (II a_i)] ((70000 - N (R a_this 0 - 1)) / 18 + 1) (2 * (70000 - N (R a_this 0 - 1))) (gR (fun r L' T' N' I' J' R' dz dl => J' = J ∧ Fr mo_J4_append_bf812 [] T N I J R T' N' I' J' R' ∧ T' r = 14 ∧ (I' a_this 3 ≤ I a_this 3 + 11 ∧ I a_this 3 ≤ I' a_this 3 ∧ I' a_this 3 ≤ ((N' (R' a_this 0 - 1) : Nat) : Int) ∧ (dz : Int) * 18 ≤ ((N' (R' a_this 0 - 1) : Nat) : Int) - ((N (R a_this 0 - 1) : Nat) : Int) ∧ (dl : Int) ≤ 2 * (((N' (R' a_this 0 - 1) : Nat) : Int) - ((N (R a_this 0 - 1) : Nat) : Int))))) := by
  generalize hPST : (gR (fun r L' T' N' I' J' R' dz dl => J' = J ∧ Fr mo_J4_append_bf812 [] T N I J R T' N' I' J' R' ∧ T' r = 14 ∧ (I' a_this 3 ≤ I a_this 3 + 11 ∧ I a_this 3 ≤ I' a_this 3 ∧ I' a_this 3 ≤ ((N' (R' a_this 0 - 1) : Nat) : Int) ∧ (dz : Int) * 18 ≤ ((N' (R' a_this 0 - 1) : Nat) : Int) - ((N (R a_this 0 - 1) : Nat) : Int) ∧ (dl : Int) ≤ 2 * (((N' (R' a_this 0 - 1) : Nat) : Int) - ((N (R a_this 0 - 1) : Nat) : Int))))) = PST
  refine g_enter (own := RJ4) (by decide) rfl (Nat.le_of_ble_eq_true rfl) (fun p e s m args below meth c ls hm B hX hM hl => ?_)
  have hC0 := hM.2.2.2.2.2.2.1
  have hW0 := hM.2.2.2
  have hF : Fr mo_J4_append_bf812 [] T N I J R T N I J R := Fr.rf
  have hA : ∀ q, s.heap.size ≤ q → cF dA L T N I J R s.heap.size q := fun q h => Or.inr h
  have hl : lv_has ls 2 [(0, .ref a_this), (1, .int (II a_i))] := hl
  obtain ⟨b1, e2, t3⟩ := g14_0 hM.2.2.2.2.2.2.1 t_this
  have n4 : 16 ≤ N b1 ∧ N b1 ≤ 70000 := gn96 hM.2.2.2.2.2.2.1 t3
  have pq5 : N (R a_this 0 - 1) = N b1 := by rw [e2, Nat.add_sub_cancel]
  obtain ⟨x6, e7⟩ : ∃ v, I a_this 3 = v := ⟨_, rfl⟩
  have r8 : (0 : Int) ≤ x6 ∧ x6 ≤ 40000 := by rw [← e7]; exact g14_3 hM.2.2.2.2.2.2.1 t_this
  refine lv_aload_n B.1 B.2.1 dJ4_append_bf812_0 rfl (lv_at hl 0 rfl) ?_
  refine lv_iload_n B.1 B.2.1 dJ4_append_bf812_1 rfl (lv_at hl 1 rfl) ?_
  have hFt := hF
  have hMt := hM
  have pq9 : N (R a_this 0 - 1) = N b1 := by rw [e2, Nat.add_sub_cancel]
  have hv10 : ((-2147483648 : Int) ≤ a_i ∧ (a_i : Int) ≤ 2147483647) ∧ (I a_this 3 ≤ ((N (R a_this 0 - 1) : Nat) : Int)) ∧ (I a_this 3 ≤ 33900) := by first | omega | exact ⟨by first | omega | assumption | exact trivial, by first | omega | assumption | exact trivial, by first | omega | assumption | exact trivial⟩
  refine g_callr hM hA (c_runSU (n := 1) (as := [.int (II a_i)]) (rest := []) B hX hA hM hl.1 t_this kd14 (k_J5_append_c97b9 l D dA eA L T N I J R a_this t_this a_i hv10.1 hv10.2.1 hv10.2.2 _ _) mu_J4_53 nm_J5_append_c97b9 ⟨rfl, rfl⟩ ⟨Nat.le_of_ble_eq_true rfl, Nat.le_of_ble_eq_true rfl⟩ dJ4_append_bf812_2 rfl rfl (Nat.le_of_ble_eq_true rfl) ⟨by show 0 + ((70000 - N (R a_this 0 - 1)) / 18 + 1) ≤ ((70000 - N (R a_this 0 - 1)) / 18 + 1); omega, by show 0 + (2 * (70000 - N (R a_this 0 - 1))) ≤ (2 * (70000 - N (R a_this 0 - 1))); omega⟩ (by decide)) (fun b12 L13 T14 N15 I16 J17 R18 dz19 dl20 H locs hp11 hMn => ?_)
  obtain ⟨yJ17, hFc21, tb12, hp11a⟩ := hp11
  obtain rfl := yJ17.symm
  replace hF : Fr mo_J4_append_bf812 [] T N I J R T14 N15 I16 J R18 := hF.trans hFc21 (by decide) e20
  have hM := hMn
  clear hMn
  replace hp11a : I16 a_this 3 ≤ I a_this 3 + 11 ∧ I a_this 3 ≤ I16 a_this 3 ∧ I16 a_this 3 ≤ ((N15 (R18 a_this 0 - 1) : Nat) : Int) ∧ (dz19 : Int) * 18 ≤ ((N15 (R18 a_this 0 - 1) : Nat) : Int) - ((N (R a_this 0 - 1) : Nat) : Int) ∧ (dl20 : Int) ≤ 2 * (((N15 (R18 a_this 0 - 1) : Nat) : Int) - ((N (R a_this 0 - 1) : Nat) : Int)) := hp11a
  obtain ⟨hp11a_0, hp11a_1, hp11a_2, hp11a_3, hp11a_4⟩ := hp11a
  obtain ⟨v22, e23⟩ : ∃ v, R18 a_this 0 = v := ⟨_, rfl⟩
  have t24 : T14 a_this = 14 := hF.tt t_this (by decide) nm0
  obtain ⟨b25, e26, t27⟩ := g14_0 hM.2.2.2.2.2.2.1 t24
  have pq28 : N15 (R18 a_this 0 - 1) = N15 b25 := by rw [e26, Nat.add_sub_cancel]
  have n29 : 16 ≤ N15 b25 ∧ N15 b25 ≤ 70000 := gn96 hM.2.2.2.2.2.2.1 t27
  have pq30 : N15 (R18 a_this 0 - 1) = N15 b25 := by rw [e26, Nat.add_sub_cancel]
  clear hFt hMt
  refine lv_pop B.1 B.2.1 dJ4_append_bf812_5 rfl ?_
  refine lv_aload_n B.1 B.2.1 dJ4_append_bf812_6 rfl (lv_at hl 0 rfl) ?_
  have pq31 : N15 (R18 a_this 0 - 1) = N15 b25 := by rw [e26, Nat.add_sub_cancel]
  obtain ⟨x32, e33⟩ : ∃ v, I16 a_this 3 = v := ⟨_, rfl⟩
  refine g_aret (v := a_this + 1) B (Or.inl ⟨_, rfl⟩) hM dJ4_append_bf812_7 ⟨by show 0 + dz19 ≤ ((70000 - N (R a_this 0 - 1)) / 18 + 1); omega, by show 0 + dl20 ≤ (2 * (70000 - N (R a_this 0 - 1))); omega⟩ rfl ?_
  rw [← hPST]
  exact ⟨a_this, rfl, rfl, hF, t24, by first | omega | assumption | exact trivial, by first | omega | assumption | exact trivial, by first | omega | assumption | exact trivial, by first | omega | assumption | exact trivial, by first | omega | assumption | exact trivial⟩
