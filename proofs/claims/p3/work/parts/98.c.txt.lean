def mo_X11_composeText : List Nat := [448, 3072, 451, 450]
set_option maxHeartbeats 1000000 in
set_option maxRecDepth 20000 in
theorem k_X11_composeText (l : Launch) (D : va_G) (dA : Nat → ClassId) (eA : Nat) (L : List Nat) (T N : Nat → Nat) (I : Nat → Nat → Int) (J : Nat → Nat → Int64) (R : Nat → Nat → Nat) (a_this : Nat) (t_this : T a_this = 2) (a_f : Nat) (t_f : T a_f = 13) (g_w : Nat) (g_u : Nat) (p_0 : R a_this 5 = g_w + 1) (p_1 : T g_w = 14) (p_2 : R a_f 0 = g_u + 1) (p_3 : T g_u = 9) : GC l yX11_composeText cX11_composeText 2 (some .int) ({ frames := 7, cells := (70000 - N (R g_w 0 - 1)) / 18 + 1, slots := 2 * (70000 - N (R g_w 0 - 1)), locals := 175 }) D dA eA L T N I J R [.ref a_this, .ref a_f] ((70000 - N (R g_w 0 - 1)) / 18 + 1) (2 * (70000 - N (R g_w 0 - 1))) (gI (fun r L' T' N' I' J' R' dz dl => J' = J ∧ Fr mo_X11_composeText [] T N I J R T' N' I' J' R' ∧ r ≤ I' g_w 3 ∧ I' g_w 3 ≤ ((N' (R' g_w 0 - 1) : Nat) : Int) ∧ (dz : Int) * 18 ≤ ((N' (R' g_w 0 - 1) : Nat) : Int) - ((N (R g_w 0 - 1) : Nat) : Int) ∧ (dl : Int) ≤ 2 * (((N' (R' g_w 0 - 1) : Nat) : Int) - ((N (R g_w 0 - 1) : Nat) : Int)))) := by
  generalize hPST : (gI (fun r L' T' N' I' J' R' dz dl => J' = J ∧ Fr mo_X11_composeText [] T N I J R T' N' I' J' R' ∧ r ≤ I' g_w 3 ∧ I' g_w 3 ≤ ((N' (R' g_w 0 - 1) : Nat) : Int) ∧ (dz : Int) * 18 ≤ ((N' (R' g_w 0 - 1) : Nat) : Int) - ((N (R g_w 0 - 1) : Nat) : Int) ∧ (dl : Int) ≤ 2 * (((N' (R' g_w 0 - 1) : Nat) : Int) - ((N (R g_w 0 - 1) : Nat) : Int)))) = PST
  refine g_enter (own := RX11) (by decide) rfl (Nat.le_of_ble_eq_true rfl) (fun p e s m args below meth c ls hm B hX hM hl => ?_)
  have hC0 := hM.2.2.2.2.2.2.1
  have hW0 := hM.2.2.2
  have hF : Fr mo_X11_composeText [] T N I J R T N I J R := Fr.rf
  have hA : ∀ q, s.heap.size ≤ q → cF dA L T N I J R s.heap.size q := fun q h => Or.inr h
  have hl : lv_has ls 2 [(0, .ref a_this), (1, .ref a_f)] := hl
  obtain ⟨b1, e2, t3⟩ := g14_0 hM.2.2.2.2.2.2.1 p_1
  have n4 : 16 ≤ N b1 ∧ N b1 ≤ 70000 := gn96 hM.2.2.2.2.2.2.1 t3
  have pq5 : N (R g_w 0 - 1) = N b1 := by rw [e2, Nat.add_sub_cancel]
  obtain ⟨x6, e7⟩ : ∃ v, I g_w 3 = v := ⟨_, rfl⟩
  have r8 : (0 : Int) ≤ x6 ∧ x6 ≤ 40000 := by rw [← e7]; exact g14_3 hM.2.2.2.2.2.2.1 p_1
  refine lv_aload_n B.1 B.2.1 dX11_composeText_0 rfl (lv_at hl 0 rfl) ?_
  refine c_getn (k := 5) pk_X11 B hM t_this kd2 rfl (by decide) fl_X11_46 dX11_composeText_1 p_0 ?_
  refine q_con B dX11_composeText_4 ?_
  have hFt := hF
  have hMt := hM
  have hv9 : ((-2147483648 : Int) ≤ 0 ∧ (0 : Int) ≤ 2147483647) ∧ ((0 : Int) = 0) := by first | omega | exact ⟨by first | omega | assumption | exact trivial, by first | omega | assumption | exact trivial⟩
  refine g_callv hM hA (c_runV (n := 1) (as := [.int (II 0)]) (rest := []) B hX hA hM hl.1 p_1 kd14 rfl (k_J4_setLength_d00df l D dA eA L T N I J R g_w p_1 (0) hv9.1 hv9.2 _ _) ml_X11_258 nm_J4_setLength_d00df ⟨rfl, rfl⟩ ⟨Nat.le_of_ble_eq_true rfl, Nat.le_of_ble_eq_true rfl⟩ dX11_composeText_5 rfl rfl (Nat.le_of_ble_eq_true rfl) ⟨by show 0 + ((70000 - N (R g_w 0 - 1)) / 18 + 1) ≤ ((70000 - N (R g_w 0 - 1)) / 18 + 1); omega, by show 0 + (2 * (70000 - N (R g_w 0 - 1))) ≤ (2 * (70000 - N (R g_w 0 - 1))); omega⟩) (fun L12 T13 N14 I15 J16 R17 dz18 dl19 H locs hp10 hMn => ?_)
  obtain ⟨yJ16, hFc20, hp10a⟩ := hp10
  obtain rfl := yJ16.symm
  replace hF : Fr mo_X11_composeText [] T N I J R T13 N14 I15 J R17 := hF.trans hFc20 (by decide) e20
  have hM := hMn
  clear hMn
  replace hp10a : I15 g_w 3 = 0 ∧ I15 g_w 3 ≤ ((N14 (R17 g_w 0 - 1) : Nat) : Int) ∧ (dz18 : Int) * 18 ≤ ((N14 (R17 g_w 0 - 1) : Nat) : Int) - ((N (R g_w 0 - 1) : Nat) : Int) ∧ (dl19 : Int) ≤ 2 * (((N14 (R17 g_w 0 - 1) : Nat) : Int) - ((N (R g_w 0 - 1) : Nat) : Int)) := hp10a
  obtain ⟨hp10a_0, hp10a_1, hp10a_2, hp10a_3⟩ := hp10a
  obtain ⟨v21, e22⟩ : ∃ v, R17 g_w 0 = v := ⟨_, rfl⟩
  have t23 : T13 g_w = 14 := hF.tt p_1 (by decide) nm0
  obtain ⟨b24, e25, t26⟩ := g14_0 hM.2.2.2.2.2.2.1 t23
  have pq27 : N14 (R17 g_w 0 - 1) = N14 b24 := by rw [e25, Nat.add_sub_cancel]
  have n28 : 16 ≤ N14 b24 ∧ N14 b24 ≤ 70000 := gn96 hM.2.2.2.2.2.2.1 t26
  have pq29 : N14 (R17 g_w 0 - 1) = N14 b24 := by rw [e25, Nat.add_sub_cancel]
  clear hFt hMt
  refine lv_aload_n B.1 B.2.1 dX11_composeText_8 rfl (lv_at hl 1 rfl) ?_
  refine lv_aload_n B.1 B.2.1 dX11_composeText_9 rfl (lv_at hl 0 rfl) ?_
  have t30 : T13 a_this = 2 := hF.tt t_this (by decide) nm0
  obtain ⟨b31, e32, t33⟩ := g2_6 hC0 t_this
  have e34 : R17 a_this 6 = b31 + 1 := (hF.r t_this (by decide) nm0 rfl).trans e32
  refine c_getn (k := 6) pk_X11 B hM t30 kd2 rfl (by decide) fl_X11_53 dX11_composeText_10 e34 ?_
  have t35 : T13 b31 = 6 := hF.tt t33 (by decide) nm0
  obtain ⟨v36, e37⟩ : ∃ v, R b31 7 = v := ⟨_, rfl⟩
  have e38 : R17 b31 7 = v36 := (hF.r t33 (by decide) nm0 rfl).trans e37
  have q39 : v36 = 0 ∨ ∃ b, v36 = b + 1 ∧ T b = 61 := by rw [← e37]; exact g6_7 hC0 t33
  refine c_getr (k := 7) pk_X0 B hM t35 kd6 rfl (by decide) fl_X11_100 dX11_composeText_13 e38 ?_
  refine lv_aload_n B.1 B.2.1 dX11_composeText_16 rfl (lv_at hl 0 rfl) ?_
  have e40 : R17 a_this 5 = g_w + 1 := (hF.r t_this (by decide) nm0 rfl).trans p_0
  refine c_getn (k := 5) pk_X11 B hM t30 kd2 rfl (by decide) fl_X11_46 dX11_composeText_17 e40 ?_
  have hFt := hF
  have hMt := hM
  have t41 : T13 a_f = 13 := hF.tt t_f (by decide) nm0
  have q42 : v36 = 0 ∨ ∃ b, v36 = b + 1 ∧ T13 b = 61 := qFr hF q39 (by decide) (fun _ _ => nm0)
  have e43 : R17 a_f 0 = g_u + 1 := (hF.r t_f (by decide) nm0 rfl).trans p_2
  have t44 : T13 g_u = 9 := hF.tt p_3 (by decide) nm0
  refine g_callv hM hA (c_runV (n := 2) (as := [cv v36, .ref g_w]) (rest := []) B hX hA hM hl.1 t41 kd13 rfl (k_X2_compose l D dA eA L12 T13 N14 I15 J R17 a_f t41 v36 q42 g_w t23 g_u (show R17 a_f 0 = g_u + 1 from e43) (show T13 g_u = 9 from t44) (show I15 g_w 3 = 0 from by first | omega | assumption | exact trivial) _ _) ml_X11_261 nm_X2_compose ⟨rfl, rfl⟩ ⟨Nat.le_of_ble_eq_true rfl, Nat.le_of_ble_eq_true rfl⟩ dX11_composeText_20 rfl rfl (Nat.le_of_ble_eq_true rfl) ⟨by show 0 + dz18 + ((70000 - N14 (R17 g_w 0 - 1)) / 18 + 1) ≤ ((70000 - N (R g_w 0 - 1)) / 18 + 1); omega, by show 0 + dl19 + (2 * (70000 - N14 (R17 g_w 0 - 1))) ≤ (2 * (70000 - N (R g_w 0 - 1))); omega⟩) (fun L47 T48 N49 I50 J51 R52 dz53 dl54 H locs hp45 hMn => ?_)
  obtain ⟨yJ51, hFc55, hp45a⟩ := hp45
  obtain rfl := yJ51.symm
  replace hF : Fr mo_X11_composeText [] T N I J R T48 N49 I50 J R52 := hF.trans hFc55 (by decide) e20
  have hM := hMn
  clear hMn
  replace hp45a : I50 g_w 3 ≤ ((N49 (R52 g_w 0 - 1) : Nat) : Int) ∧ (dz53 : Int) * 18 ≤ ((N49 (R52 g_w 0 - 1) : Nat) : Int) - ((N14 (R17 g_w 0 - 1) : Nat) : Int) ∧ (dl54 : Int) ≤ 2 * (((N49 (R52 g_w 0 - 1) : Nat) : Int) - ((N14 (R17 g_w 0 - 1) : Nat) : Int)) := hp45a
  obtain ⟨hp45a_0, hp45a_1, hp45a_2⟩ := hp45a
  obtain ⟨v56, e57⟩ : ∃ v, R52 g_w 0 = v := ⟨_, rfl⟩
  have t58 : T48 g_w = 14 := hF.tt p_1 (by decide) nm0
  obtain ⟨b59, e60, t61⟩ := g14_0 hM.2.2.2.2.2.2.1 t58
  have pq62 : N49 (R52 g_w 0 - 1) = N49 b59 := by rw [e60, Nat.add_sub_cancel]
  have n63 : 16 ≤ N49 b59 ∧ N49 b59 ≤ 70000 := gn96 hM.2.2.2.2.2.2.1 t61
  have pq64 : N49 (R52 g_w 0 - 1) = N49 b59 := by rw [e60, Nat.add_sub_cancel]
  obtain ⟨x65, e66⟩ : ∃ v, I50 g_w 3 = v := ⟨_, rfl⟩
  have r67 : (0 : Int) ≤ x65 ∧ x65 ≤ 40000 := by rw [← e66]; exact g14_3 hM.2.2.2.2.2.2.1 t58
  clear hFt hMt
  refine lv_aload_n B.1 B.2.1 dX11_composeText_23 rfl (lv_at hl 0 rfl) ?_
  have t68 : T48 a_this = 2 := hF.tt t_this (by decide) nm0
  have e69 : R52 a_this 5 = g_w + 1 := (hF.r t_this (by decide) nm0 rfl).trans p_0
  refine c_getn (k := 5) pk_X11 B hM t68 kd2 rfl (by decide) fl_X11_46 dX11_composeText_24 e69 ?_
  have hFt := hF
  have hMt := hM
  refine p_calli (c_runV (n := 0) (as := []) (rest := []) B hX hA hM hl.1 t58 kd14 rfl (k_J4_length_8abf5 l D dA eA L47 T48 N49 I50 J R52 g_w t58 _ _) ml_X11_265 nm_J4_length_8abf5 ⟨rfl, rfl⟩ ⟨Nat.le_of_ble_eq_true rfl, Nat.le_of_ble_eq_true rfl⟩ dX11_composeText_27 rfl rfl (Nat.le_of_ble_eq_true rfl) ⟨by show 0 + dz18 + dz53 + 0 ≤ ((70000 - N (R g_w 0 - 1)) / 18 + 1); omega, by show 0 + dl19 + dl54 + 0 ≤ (2 * (70000 - N (R g_w 0 - 1))); omega⟩) (fun x71 ix71 hp70 => ?_)
  have hp70a := hp70
  replace hp70a : x71 = I50 g_w 3 := hp70a
  clear hFt hMt
  refine q_bip B dX11_composeText_30 (by decide) ?_
  have hFt := hF
  have hMt := hM
  refine c_mmin B ml_X11_267 hl.1 (by unfold inr; omega) (by unfold inr; omega) (Nat.le_of_ble_eq_true rfl) (Nat.le_of_ble_eq_true rfl) (by show 0 + dz18 + dz53 ≤ ((70000 - N (R g_w 0 - 1)) / 18 + 1); omega) (by show 0 + dl19 + dl54 ≤ (2 * (70000 - N (R g_w 0 - 1))); omega) dX11_composeText_32 (fun x72 ox72 lx72 ux72 => ?_)
  clear hFt hMt
  have pq73 : N49 (R52 g_w 0 - 1) = N49 b59 := by rw [e60, Nat.add_sub_cancel]
  refine g_iret B hM dX11_composeText_35 ⟨by show 0 + dz18 + dz53 ≤ ((70000 - N (R g_w 0 - 1)) / 18 + 1); omega, by show 0 + dl19 + dl54 ≤ (2 * (70000 - N (R g_w 0 - 1))); omega⟩ ?_
  rw [← hPST]
  exact ⟨x72, rfl, by omega, rfl, hF, by first | omega | assumption | exact trivial, by first | omega | assumption | exact trivial, by first | omega | assumption | exact trivial, by first | omega | assumption | exact trivial⟩

def mo_X11_text : List Nat := [448, 3072, 451, 450]
set_option maxHeartbeats 1000000 in
set_option maxRecDepth 20000 in
theorem k_X11_text (l : Launch) (D : va_G) (dA : Nat → ClassId) (eA : Nat) (L : List Nat) (T N : Nat → Nat) (I : Nat → Nat → Int) (J : Nat → Nat → Int64) (R : Nat → Nat → Nat) (a_this : Nat) (t_this : T a_this = 2) (a_k : Int) (i_k : (-2147483648 : Int) ≤ a_k ∧ a_k ≤ 2147483647) (a_i : Int) (i_i : (-2147483648 : Int) ≤ a_i ∧ a_i ≤ 2147483647) (g_w : Nat) (g_c : Nat) (p_0 : R a_this 5 = g_w + 1) (p_1 : T g_w = 14) (p_2 : R a_this 3 = g_c + 1) (p_3 : T g_c = 5) (p_4 : FUp I R g_c) : GC l yX11_text cX11_text 4 (some .int) ({ frames := 8, cells := (70000 - N (R g_w 0 - 1)) / 18 + 1, slots := 2 * (70000 - N (R g_w 0 - 1)), locals := 196 }) D dA eA L T N I J R [.ref a_this, .int (II a_k), .int (II a_i)] ((70000 - N (R g_w 0 - 1)) / 18 + 1) (2 * (70000 - N (R g_w 0 - 1))) (gI (fun r L' T' N' I' J' R' dz dl => J' = J ∧ Fr mo_X11_text [] T N I J R T' N' I' J' R' ∧ (dz : Int) * 18 ≤ ((N' (R' g_w 0 - 1) : Nat) : Int) - ((N (R g_w 0 - 1) : Nat) : Int) ∧ (dl : Int) ≤ 2 * (((N' (R' g_w 0 - 1) : Nat) : Int) - ((N (R g_w 0 - 1) : Nat) : Int)))) := by
  generalize hPST : (gI (fun r L' T' N' I' J' R' dz dl => J' = J ∧ Fr mo_X11_text [] T N I J R T' N' I' J' R' ∧ (dz : Int) * 18 ≤ ((N' (R' g_w 0 - 1) : Nat) : Int) - ((N (R g_w 0 - 1) : Nat) : Int) ∧ (dl : Int) ≤ 2 * (((N' (R' g_w 0 - 1) : Nat) : Int) - ((N (R g_w 0 - 1) : Nat) : Int)))) = PST
  refine g_enter (own := RX11) (by decide) rfl (Nat.le_of_ble_eq_true rfl) (fun p e s m args below meth c ls hm B hX hM hl => ?_)
  have hC0 := hM.2.2.2.2.2.2.1
  have hW0 := hM.2.2.2
  have hF : Fr mo_X11_text [] T N I J R T N I J R := Fr.rf
  have hA : ∀ q, s.heap.size ≤ q → cF dA L T N I J R s.heap.size q := fun q h => Or.inr h
  have hl : lv_has ls 4 [(0, .ref a_this), (1, .int (II a_k)), (2, .int (II a_i))] := hl
  obtain ⟨b1, e2, t3⟩ := g14_0 hM.2.2.2.2.2.2.1 p_1
  have n4 : 16 ≤ N b1 ∧ N b1 ≤ 70000 := gn96 hM.2.2.2.2.2.2.1 t3
  have pq5 : N (R g_w 0 - 1) = N b1 := by rw [e2, Nat.add_sub_cancel]
  obtain ⟨x6, e7⟩ : ∃ v, I g_w 3 = v := ⟨_, rfl⟩
  have r8 : (0 : Int) ≤ x6 ∧ x6 ≤ 40000 := by rw [← e7]; exact g14_3 hM.2.2.2.2.2.2.1 p_1
  refine lv_aload_n B.1 B.2.1 dX11_text_0 rfl (lv_at hl 0 rfl) ?_
  refine c_getn (k := 3) pk_X11 B hM t_this kd2 rfl (by decide) fl_X11_39 dX11_text_1 p_2 ?_
  refine lv_iload_n B.1 B.2.1 dX11_text_4 rfl (lv_at hl 1 rfl) ?_
  have hFt := hF
  have hMt := hM
  have hv9 : ((-2147483648 : Int) ≤ a_k ∧ (a_k : Int) ≤ 2147483647) ∧ (FUp I R g_c) := by first | omega | exact ⟨by first | omega | assumption | exact trivial, by first | omega | assumption | exact trivial⟩
  refine p_callq (c_runV (n := 1) (as := [.int (II a_k)]) (rest := []) B hX hA hM hl.1 p_3 kd5 rfl (k_X1_foundAt l D dA eA L T N I J R g_c p_3 a_k hv9.1 hv9.2 _ _) ml_X11_206 nm_X1_foundAt ⟨rfl, rfl⟩ ⟨Nat.le_of_ble_eq_true rfl, Nat.le_of_ble_eq_true rfl⟩ dX11_text_5 rfl rfl (Nat.le_of_ble_eq_true rfl) ⟨by show 0 + 0 ≤ ((70000 - N (R g_w 0 - 1)) / 18 + 1); omega, by show 0 + 0 ≤ (2 * (70000 - N (R g_w 0 - 1))); omega⟩) (fun v11 hp10 => ?_)
  obtain ⟨qv11, hp10a⟩ := hp10
  replace hp10a : v11 = 0 ∨ R (v11 - 1) 0 ≠ 0 := hp10a
  clear hFt hMt
  refine c_astore_n (lv' := [(3, cv v11), (0, .ref a_this), (1, .int (II a_k)), (2, .int (II a_i))]) B dX11_text_8 rfl hl (by decide) (by first | rfl | simp [cv_cat]) (fun ls hl => ?_)
  refine c_aload_n B dX11_text_9 rfl (lv_at hl 0 rfl) ?_
  rcases qv11 with rfl | ⟨b12, rfl, t13⟩
  · have hl : lv_has ls 4 [(3, .null), (0, .ref a_this), (1, .int (II a_k)), (2, .int (II a_i))] := hl
    refine lv_ifnullN (tgt := 26) B.1 B.2.1 dX11_text_10 (by decide) ?_
    refine q_con B dX11_text_26 ?_
    have pq14 : N (R g_w 0 - 1) = N b1 := by rw [e2, Nat.add_sub_cancel]
    have pq15 : N (R g_w 0 - 1) = N b1 := by rw [e2, Nat.add_sub_cancel]
    refine g_iret B hM dX11_text_27 ⟨by show 0 ≤ ((70000 - N (R g_w 0 - 1)) / 18 + 1); omega, by show 0 ≤ (2 * (70000 - N (R g_w 0 - 1))); omega⟩ ?_
    rw [← hPST]
    exact ⟨(-1), rfl, by omega, rfl, hF, by first | omega | assumption | exact trivial, by first | omega | assumption | exact trivial⟩
  · have hl : lv_has ls 4 [(3, .ref b12), (0, .ref a_this), (1, .int (II a_k)), (2, .int (II a_i))] := hl
    refine lv_ifnull B.1 B.2.1 dX11_text_10 ?_
    obtain ⟨b16, e17, t18⟩ : ∃ b, R b12 0 = b + 1 ∧ T b = 9 := by
      rcases g13_0 hM.2.2.2.2.2.2.1 t13 with h | h
      · exfalso; rcases hp10a with h2 | h2
        · omega
        · rw [Nat.add_sub_cancel] at h2; exact h2 h
      · exact h
    refine lv_iload_n B.1 B.2.1 dX11_text_13 rfl (lv_at hl 3 rfl) ?_
    refine q_ilt (tgt := 26) B dX11_text_14 (by decide) (by unfold inr; omega) (fun c19 => ?_) (fun c19 => ?_)
    · refine q_con B dX11_text_26 ?_
      have pq20 : N (R g_w 0 - 1) = N b1 := by rw [e2, Nat.add_sub_cancel]
      have pq21 : N (R g_w 0 - 1) = N b1 := by rw [e2, Nat.add_sub_cancel]
      refine g_iret B hM dX11_text_27 ⟨by show 0 ≤ ((70000 - N (R g_w 0 - 1)) / 18 + 1); omega, by show 0 ≤ (2 * (70000 - N (R g_w 0 - 1))); omega⟩ ?_
      rw [← hPST]
      exact ⟨(-1), rfl, by omega, rfl, hF, by first | omega | assumption | exact trivial, by first | omega | assumption | exact trivial⟩
    · refine lv_iload_n B.1 B.2.1 dX11_text_17 rfl (lv_at hl 3 rfl) ?_
      refine lv_aload_n B.1 B.2.1 dX11_text_18 rfl (lv_at hl 1 rfl) ?_
      refine lv_aload_n B.1 B.2.1 dX11_text_19 rfl (lv_at hl 0 rfl) ?_
      have hFt := hF
      have hMt := hM
      refine g_calli hM hA (c_runV (n := 1) (as := [.ref b12]) (rest := [.int (II a_i)]) B hX hA hM hl.1 t_this kd2 rfl (k_X11_composeText l D dA eA L T N I J R a_this t_this b12 t13 g_w b16 (show R a_this 5 = g_w + 1 from p_0) (show T g_w = 14 from p_1) (show R b12 0 = b16 + 1 from e17) (show T b16 = 9 from t18) _ _) ml_X11_240 nm_X11_composeText ⟨rfl, rfl⟩ ⟨Nat.le_of_ble_eq_true rfl, Nat.le_of_ble_eq_true rfl⟩ dX11_text_20 rfl rfl (Nat.le_of_ble_eq_true rfl) ⟨by show 0 + ((70000 - N (R g_w 0 - 1)) / 18 + 1) ≤ ((70000 - N (R g_w 0 - 1)) / 18 + 1); omega, by show 0 + (2 * (70000 - N (R g_w 0 - 1))) ≤ (2 * (70000 - N (R g_w 0 - 1))); omega⟩) (fun x23 ix23 L24 T25 N26 I27 J28 R29 dz30 dl31 H locs hp22 hMn => ?_)
      obtain ⟨yJ28, hFc32, hp22a⟩ := hp22
      obtain rfl := yJ28.symm
      replace hF : Fr mo_X11_text [] T N I J R T25 N26 I27 J R29 := hF.trans hFc32 (by decide) e20
      have hM := hMn
      clear hMn
      replace hp22a : x23 ≤ I27 g_w 3 ∧ I27 g_w 3 ≤ ((N26 (R29 g_w 0 - 1) : Nat) : Int) ∧ (dz30 : Int) * 18 ≤ ((N26 (R29 g_w 0 - 1) : Nat) : Int) - ((N (R g_w 0 - 1) : Nat) : Int) ∧ (dl31 : Int) ≤ 2 * (((N26 (R29 g_w 0 - 1) : Nat) : Int) - ((N (R g_w 0 - 1) : Nat) : Int)) := hp22a
      obtain ⟨hp22a_0, hp22a_1, hp22a_2, hp22a_3⟩ := hp22a
      obtain ⟨v33, e34⟩ : ∃ v, R29 g_w 0 = v := ⟨_, rfl⟩
      have t35 : T25 g_w = 14 := hF.tt p_1 (by decide) nm0
      obtain ⟨b36, e37, t38⟩ := g14_0 hM.2.2.2.2.2.2.1 t35
      have pq39 : N26 (R29 g_w 0 - 1) = N26 b36 := by rw [e37, Nat.add_sub_cancel]
      have n40 : 16 ≤ N26 b36 ∧ N26 b36 ≤ 70000 := gn96 hM.2.2.2.2.2.2.1 t38
      have pq41 : N26 (R29 g_w 0 - 1) = N26 b36 := by rw [e37, Nat.add_sub_cancel]
      obtain ⟨x42, e43⟩ : ∃ v, I27 g_w 3 = v := ⟨_, rfl⟩
      have r44 : (0 : Int) ≤ x42 ∧ x42 ≤ 40000 := by rw [← e43]; exact g14_3 hM.2.2.2.2.2.2.1 t35
      clear hFt hMt
      refine q_clt (tgt := 28) B dX11_text_23 (by decide) (by unfold inr; omega) (by unfold inr; omega) (fun c45 => ?_) (fun c45 => ?_)
      · refine lv_aload_n B.1 B.2.1 dX11_text_28 rfl (lv_at hl 1 rfl) ?_
        have t46 : T25 a_this = 2 := hF.tt t_this (by decide) nm0
        have e47 : R29 a_this 5 = g_w + 1 := (hF.r t_this (by decide) nm0 rfl).trans p_0
        refine c_getn (k := 5) pk_X11 B hM t46 kd2 rfl (by decide) fl_X11_46 dX11_text_29 e47 ?_
        refine lv_iload_n B.1 B.2.1 dX11_text_32 rfl (lv_at hl 3 rfl) ?_
        have hFt := hF
        have hMt := hM
        have hv48 : ((-2147483648 : Int) ≤ a_i ∧ (a_i : Int) ≤ 2147483647) ∧ (0 ≤ a_i) ∧ (a_i < I27 g_w 3) ∧ (I27 g_w 3 ≤ ((N26 (R29 g_w 0 - 1) : Nat) : Int)) := by first | omega | exact ⟨by first | omega | assumption | exact trivial, by first | omega | assumption | exact trivial, by first | omega | assumption | exact trivial, by first | omega | assumption | exact trivial⟩
        refine p_calli (c_runV (n := 1) (as := [.int (II a_i)]) (rest := []) B hX hA hM hl.1 t35 kd14 rfl (k_J4_charAt_5068e l D dA eA L24 T25 N26 I27 J R29 g_w t35 a_i hv48.1 hv48.2.1 hv48.2.2.1 hv48.2.2.2 _ _) ml_X11_254 nm_J4_charAt_5068e ⟨rfl, rfl⟩ ⟨Nat.le_of_ble_eq_true rfl, Nat.le_of_ble_eq_true rfl⟩ dX11_text_33 rfl rfl (Nat.le_of_ble_eq_true rfl) ⟨by show 0 + dz30 + 0 ≤ ((70000 - N (R g_w 0 - 1)) / 18 + 1); omega, by show 0 + dl31 + 0 ≤ (2 * (70000 - N (R g_w 0 - 1))); omega⟩) (fun x50 ix50 hp49 => ?_)
        have hp49a := hp49
        replace hp49a : (0 : Int) ≤ x50 ∧ x50 ≤ 65535 ∧ (True) := hp49a
        obtain ⟨hp49a_0, hp49a_1, hp49a_2⟩ := hp49a
        clear hFt hMt
        have pq51 : N26 (R29 g_w 0 - 1) = N26 b36 := by rw [e37, Nat.add_sub_cancel]
        refine g_iret B hM dX11_text_36 ⟨by show 0 + dz30 ≤ ((70000 - N (R g_w 0 - 1)) / 18 + 1); omega, by show 0 + dl31 ≤ (2 * (70000 - N (R g_w 0 - 1))); omega⟩ ?_
        rw [← hPST]
        exact ⟨x50, rfl, by omega, rfl, hF, by first | omega | assumption | exact trivial, by first | omega | assumption | exact trivial⟩
      · refine q_con B dX11_text_26 ?_
        have pq52 : N26 (R29 g_w 0 - 1) = N26 b36 := by rw [e37, Nat.add_sub_cancel]
        refine g_iret B hM dX11_text_27 ⟨by show 0 + dz30 ≤ ((70000 - N (R g_w 0 - 1)) / 18 + 1); omega, by show 0 + dl31 ≤ (2 * (70000 - N (R g_w 0 - 1))); omega⟩ ?_
        rw [← hPST]
        exact ⟨(-1), rfl, by omega, rfl, hF, by first | omega | assumption | exact trivial, by first | omega | assumption | exact trivial⟩

def mo_X11_found : List Nat := [448, 3072, 451, 450]
set_option maxHeartbeats 1000000 in
set_option maxRecDepth 20000 in
theorem k_X11_found (l : Launch) (D : va_G) (dA : Nat → ClassId) (eA : Nat) (L : List Nat) (T N : Nat → Nat) (I : Nat → Nat → Int) (J : Nat → Nat → Int64) (R : Nat → Nat → Nat) (a_this : Nat) (t_this : T a_this = 2) (a_k : Int) (i_k : (-2147483648 : Int) ≤ a_k ∧ a_k ≤ 2147483647) (a_w : Int) (i_w : (-2147483648 : Int) ≤ a_w ∧ a_w ≤ 2147483647) (g_w : Nat) (g_c : Nat) (p_0 : R a_this 5 = g_w + 1) (p_1 : T g_w = 14) (p_2 : R a_this 3 = g_c + 1) (p_3 : T g_c = 5) (p_4 : FUp I R g_c) : GC l yX11_found cX11_found 4 (some .int) ({ frames := 8, cells := (70000 - N (R g_w 0 - 1)) / 18 + 1, slots := 2 * (70000 - N (R g_w 0 - 1)), locals := 196 }) D dA eA L T N I J R [.ref a_this, .int (II a_k), .int (II a_w)] ((70000 - N (R g_w 0 - 1)) / 18 + 1) (2 * (70000 - N (R g_w 0 - 1))) (gI (fun r L' T' N' I' J' R' dz dl => J' = J ∧ Fr mo_X11_found [] T N I J R T' N' I' J' R' ∧ (dz : Int) * 18 ≤ ((N' (R' g_w 0 - 1) : Nat) : Int) - ((N (R g_w 0 - 1) : Nat) : Int) ∧ (dl : Int) ≤ 2 * (((N' (R' g_w 0 - 1) : Nat) : Int) - ((N (R g_w 0 - 1) : Nat) : Int)))) := by
  generalize hPST : (gI (fun r L' T' N' I' J' R' dz dl => J' = J ∧ Fr mo_X11_found [] T N I J R T' N' I' J' R' ∧ (dz : Int) * 18 ≤ ((N' (R' g_w 0 - 1) : Nat) : Int) - ((N (R g_w 0 - 1) : Nat) : Int) ∧ (dl : Int) ≤ 2 * (((N' (R' g_w 0 - 1) : Nat) : Int) - ((N (R g_w 0 - 1) : Nat) : Int)))) = PST
  refine g_enter (own := RX11) (by decide) rfl (Nat.le_of_ble_eq_true rfl) (fun p e s m args below meth c ls hm B hX hM hl => ?_)
  have hC0 := hM.2.2.2.2.2.2.1
  have hW0 := hM.2.2.2
  have hF : Fr mo_X11_found [] T N I J R T N I J R := Fr.rf
  have hA : ∀ q, s.heap.size ≤ q → cF dA L T N I J R s.heap.size q := fun q h => Or.inr h
  have hl : lv_has ls 4 [(0, .ref a_this), (1, .int (II a_k)), (2, .int (II a_w))] := hl
  obtain ⟨b1, e2, t3⟩ := g14_0 hM.2.2.2.2.2.2.1 p_1
  have n4 : 16 ≤ N b1 ∧ N b1 ≤ 70000 := gn96 hM.2.2.2.2.2.2.1 t3
  have pq5 : N (R g_w 0 - 1) = N b1 := by rw [e2, Nat.add_sub_cancel]
  obtain ⟨x6, e7⟩ : ∃ v, I g_w 3 = v := ⟨_, rfl⟩
  have r8 : (0 : Int) ≤ x6 ∧ x6 ≤ 40000 := by rw [← e7]; exact g14_3 hM.2.2.2.2.2.2.1 p_1
  refine lv_aload_n B.1 B.2.1 dX11_found_0 rfl (lv_at hl 0 rfl) ?_
  refine c_getn (k := 3) pk_X11 B hM t_this kd2 rfl (by decide) fl_X11_39 dX11_found_1 p_2 ?_
  refine lv_iload_n B.1 B.2.1 dX11_found_4 rfl (lv_at hl 1 rfl) ?_
  have hFt := hF
  have hMt := hM
  have hv9 : ((-2147483648 : Int) ≤ a_k ∧ (a_k : Int) ≤ 2147483647) ∧ (FUp I R g_c) := by first | omega | exact ⟨by first | omega | assumption | exact trivial, by first | omega | assumption | exact trivial⟩
  refine p_callq (c_runV (n := 1) (as := [.int (II a_k)]) (rest := []) B hX hA hM hl.1 p_3 kd5 rfl (k_X1_foundAt l D dA eA L T N I J R g_c p_3 a_k hv9.1 hv9.2 _ _) ml_X11_206 nm_X1_foundAt ⟨rfl, rfl⟩ ⟨Nat.le_of_ble_eq_true rfl, Nat.le_of_ble_eq_true rfl⟩ dX11_found_5 rfl rfl (Nat.le_of_ble_eq_true rfl) ⟨by show 0 + 0 ≤ ((70000 - N (R g_w 0 - 1)) / 18 + 1); omega, by show 0 + 0 ≤ (2 * (70000 - N (R g_w 0 - 1))); omega⟩) (fun v11 hp10 => ?_)
  obtain ⟨qv11, hp10a⟩ := hp10
  replace hp10a : v11 = 0 ∨ R (v11 - 1) 0 ≠ 0 := hp10a
  clear hFt hMt
  refine c_astore_n (lv' := [(3, cv v11), (0, .ref a_this), (1, .int (II a_k)), (2, .int (II a_w))]) B dX11_found_8 rfl hl (by decide) (by first | rfl | simp [cv_cat]) (fun ls hl => ?_)
  refine c_aload_n B dX11_found_9 rfl (lv_at hl 0 rfl) ?_
  rcases qv11 with rfl | ⟨b12, rfl, t13⟩
  · have hl : lv_has ls 4 [(3, .null), (0, .ref a_this), (1, .int (II a_k)), (2, .int (II a_w))] := hl
    refine lv_ifnonnullN B.1 B.2.1 dX11_found_10 ?_
    refine q_con B dX11_found_13 ?_
    have pq14 : N (R g_w 0 - 1) = N b1 := by rw [e2, Nat.add_sub_cancel]
    have pq15 : N (R g_w 0 - 1) = N b1 := by rw [e2, Nat.add_sub_cancel]
    refine g_iret B hM dX11_found_14 ⟨by show 0 ≤ ((70000 - N (R g_w 0 - 1)) / 18 + 1); omega, by show 0 ≤ (2 * (70000 - N (R g_w 0 - 1))); omega⟩ ?_
    rw [← hPST]
    exact ⟨(-1), rfl, by omega, rfl, hF, by first | omega | assumption | exact trivial, by first | omega | assumption | exact trivial⟩
  · have hl : lv_has ls 4 [(3, .ref b12), (0, .ref a_this), (1, .int (II a_k)), (2, .int (II a_w))] := hl
    refine lv_ifnonnull (tgt := 15) B.1 B.2.1 dX11_found_10 (by decide) ?_
    obtain ⟨b16, e17, t18⟩ : ∃ b, R b12 0 = b + 1 ∧ T b = 9 := by
      rcases g13_0 hM.2.2.2.2.2.2.1 t13 with h | h
      · exfalso; rcases hp10a with h2 | h2
        · omega
        · rw [Nat.add_sub_cancel] at h2; exact h2 h
      · exact h
    refine lv_iload_n B.1 B.2.1 dX11_found_15 rfl (lv_at hl 3 rfl) ?_
    by_cases hsw : a_w < 0 ∨ 9 < a_w
    · refine lv_tableOut (tgt := 144) B.1 B.2.1 dX11_found_16 (by rw [II_toInt (by unfold inr; omega)]; omega) (by decide) ?_
      refine q_con B dX11_found_144 ?_
      have pq19 : N (R g_w 0 - 1) = N b1 := by rw [e2, Nat.add_sub_cancel]
      have pq20 : N (R g_w 0 - 1) = N b1 := by rw [e2, Nat.add_sub_cancel]
      refine g_iret B hM dX11_found_145 ⟨by show 0 ≤ ((70000 - N (R g_w 0 - 1)) / 18 + 1); omega, by show 0 ≤ (2 * (70000 - N (R g_w 0 - 1))); omega⟩ ?_
      rw [← hPST]
      exact ⟨(-1), rfl, by omega, rfl, hF, by first | omega | assumption | exact trivial, by first | omega | assumption | exact trivial⟩
    have hdj : a_w = 0 ∨ a_w = 1 ∨ a_w = 2 ∨ a_w = 3 ∨ a_w = 4 ∨ a_w = 5 ∨ a_w = 6 ∨ a_w = 7 ∨ a_w = 8 ∨ a_w = 9 := by omega
    clear hsw
    rcases hdj with hsw0 | hsw1 | hsw2 | hsw3 | hsw4 | hsw5 | hsw6 | hsw7 | hsw8 | hsw9
    · refine lv_tableIn (off := 56) (tgt := 72) B.1 B.2.1 dX11_found_16 (by rw [II_toInt (by unfold inr; omega)]; omega) (by rw [II_toInt (by unfold inr; omega)]; omega) (by rw [II_toInt (by unfold inr; omega), hsw0]; decide) (by decide) ?_
      refine lv_aload_n B.1 B.2.1 dX11_found_72 rfl (lv_at hl 0 rfl) ?_
      refine c_getn (k := 0) pk_X2 B hM t13 kd13 rfl (by decide) fl_X11_210 dX11_found_73 e17 ?_
      obtain ⟨x21, e22⟩ : ∃ v, I b16 0 = v := ⟨_, rfl⟩
      have r23 : (-2147483648 : Int) ≤ x21 ∧ x21 ≤ 2147483647 := by rw [← e22]; exact g9_0 hM.2.2.2.2.2.2.1 t18
      refine c_geti (k := 0) pk_X10 B hM t18 kd9 rfl (by decide) fl_X11_216 dX11_found_76 e22 ?_
      have pq24 : N (R g_w 0 - 1) = N b1 := by rw [e2, Nat.add_sub_cancel]
      have pq25 : N (R g_w 0 - 1) = N b1 := by rw [e2, Nat.add_sub_cancel]
      refine g_iret B hM dX11_found_79 ⟨by show 0 ≤ ((70000 - N (R g_w 0 - 1)) / 18 + 1); omega, by show 0 ≤ (2 * (70000 - N (R g_w 0 - 1))); omega⟩ ?_
      rw [← hPST]
      exact ⟨x21, rfl, by omega, rfl, hF, by first | omega | assumption | exact trivial, by first | omega | assumption | exact trivial⟩
    · refine lv_tableIn (off := 64) (tgt := 80) B.1 B.2.1 dX11_found_16 (by rw [II_toInt (by unfold inr; omega)]; omega) (by rw [II_toInt (by unfold inr; omega)]; omega) (by rw [II_toInt (by unfold inr; omega), hsw1]; decide) (by decide) ?_
      refine lv_aload_n B.1 B.2.1 dX11_found_80 rfl (lv_at hl 0 rfl) ?_
      refine c_getn (k := 0) pk_X2 B hM t13 kd13 rfl (by decide) fl_X11_210 dX11_found_81 e17 ?_
      obtain ⟨x26, e27⟩ : ∃ v, I b16 5 = v := ⟨_, rfl⟩
      have r28 : (-2147483648 : Int) ≤ x26 ∧ x26 ≤ 2147483647 := by rw [← e27]; exact g9_5 hM.2.2.2.2.2.2.1 t18
      refine c_geti (k := 5) pk_X10 B hM t18 kd9 rfl (by decide) fl_X11_221 dX11_found_84 e27 ?_
      have pq29 : N (R g_w 0 - 1) = N b1 := by rw [e2, Nat.add_sub_cancel]
      have pq30 : N (R g_w 0 - 1) = N b1 := by rw [e2, Nat.add_sub_cancel]
      refine g_iret B hM dX11_found_87 ⟨by show 0 ≤ ((70000 - N (R g_w 0 - 1)) / 18 + 1); omega, by show 0 ≤ (2 * (70000 - N (R g_w 0 - 1))); omega⟩ ?_
      rw [← hPST]
      exact ⟨x26, rfl, by omega, rfl, hF, by first | omega | assumption | exact trivial, by first | omega | assumption | exact trivial⟩
    · refine lv_tableIn (off := 72) (tgt := 88) B.1 B.2.1 dX11_found_16 (by rw [II_toInt (by unfold inr; omega)]; omega) (by rw [II_toInt (by unfold inr; omega)]; omega) (by rw [II_toInt (by unfold inr; omega), hsw2]; decide) (by decide) ?_
      refine lv_aload_n B.1 B.2.1 dX11_found_88 rfl (lv_at hl 0 rfl) ?_
      refine c_getn (k := 0) pk_X2 B hM t13 kd13 rfl (by decide) fl_X11_210 dX11_found_89 e17 ?_
      obtain ⟨x31, e32⟩ : ∃ v, I b16 8 = v := ⟨_, rfl⟩
      have r33 : (-2147483648 : Int) ≤ x31 ∧ x31 ≤ 2147483647 := by rw [← e32]; exact g9_8 hM.2.2.2.2.2.2.1 t18
      refine c_geti (k := 8) pk_X10 B hM t18 kd9 rfl (by decide) fl_X11_224 dX11_found_92 e32 ?_
      have pq34 : N (R g_w 0 - 1) = N b1 := by rw [e2, Nat.add_sub_cancel]
      have pq35 : N (R g_w 0 - 1) = N b1 := by rw [e2, Nat.add_sub_cancel]
      refine g_iret B hM dX11_found_95 ⟨by show 0 ≤ ((70000 - N (R g_w 0 - 1)) / 18 + 1); omega, by show 0 ≤ (2 * (70000 - N (R g_w 0 - 1))); omega⟩ ?_
      rw [← hPST]
      exact ⟨x31, rfl, by omega, rfl, hF, by first | omega | assumption | exact trivial, by first | omega | assumption | exact trivial⟩
    · refine lv_tableIn (off := 80) (tgt := 96) B.1 B.2.1 dX11_found_16 (by rw [II_toInt (by unfold inr; omega)]; omega) (by rw [II_toInt (by unfold inr; omega)]; omega) (by rw [II_toInt (by unfold inr; omega), hsw3]; decide) (by decide) ?_
      refine lv_aload_n B.1 B.2.1 dX11_found_96 rfl (lv_at hl 0 rfl) ?_
      obtain ⟨x36, e37⟩ : ∃ v, I b12 2 = v := ⟨_, rfl⟩
      have r38 : (-2147483648 : Int) ≤ x36 ∧ x36 ≤ 2147483647 := by rw [← e37]; exact g13_2 hM.2.2.2.2.2.2.1 t13
      refine c_geti (k := 2) pk_X2 B hM t13 kd13 rfl (by decide) fl_X11_227 dX11_found_97 e37 ?_
      have pq39 : N (R g_w 0 - 1) = N b1 := by rw [e2, Nat.add_sub_cancel]
      have pq40 : N (R g_w 0 - 1) = N b1 := by rw [e2, Nat.add_sub_cancel]
      refine g_iret B hM dX11_found_100 ⟨by show 0 ≤ ((70000 - N (R g_w 0 - 1)) / 18 + 1); omega, by show 0 ≤ (2 * (70000 - N (R g_w 0 - 1))); omega⟩ ?_
      rw [← hPST]
      exact ⟨x36, rfl, by omega, rfl, hF, by first | omega | assumption | exact trivial, by first | omega | assumption | exact trivial⟩
    · refine lv_tableIn (off := 85) (tgt := 101) B.1 B.2.1 dX11_found_16 (by rw [II_toInt (by unfold inr; omega)]; omega) (by rw [II_toInt (by unfold inr; omega)]; omega) (by rw [II_toInt (by unfold inr; omega), hsw4]; decide) (by decide) ?_
      refine lv_aload_n B.1 B.2.1 dX11_found_101 rfl (lv_at hl 0 rfl) ?_
      obtain ⟨x41, e42⟩ : ∃ v, I b12 3 = v := ⟨_, rfl⟩
      have r43 : (-2147483648 : Int) ≤ x41 ∧ x41 ≤ 2147483647 := by rw [← e42]; exact g13_3 hM.2.2.2.2.2.2.1 t13
      refine c_geti (k := 3) pk_X2 B hM t13 kd13 rfl (by decide) fl_X11_230 dX11_found_102 e42 ?_
      have pq44 : N (R g_w 0 - 1) = N b1 := by rw [e2, Nat.add_sub_cancel]
      have pq45 : N (R g_w 0 - 1) = N b1 := by rw [e2, Nat.add_sub_cancel]
      refine g_iret B hM dX11_found_105 ⟨by show 0 ≤ ((70000 - N (R g_w 0 - 1)) / 18 + 1); omega, by show 0 ≤ (2 * (70000 - N (R g_w 0 - 1))); omega⟩ ?_
      rw [← hPST]
      exact ⟨x41, rfl, by omega, rfl, hF, by first | omega | assumption | exact trivial, by first | omega | assumption | exact trivial⟩
    · refine lv_tableIn (off := 90) (tgt := 106) B.1 B.2.1 dX11_found_16 (by rw [II_toInt (by unfold inr; omega)]; omega) (by rw [II_toInt (by unfold inr; omega)]; omega) (by rw [II_toInt (by unfold inr; omega), hsw5]; decide) (by decide) ?_
      refine lv_aload_n B.1 B.2.1 dX11_found_106 rfl (lv_at hl 0 rfl) ?_
      obtain ⟨x46, e47⟩ : ∃ v, I b12 4 = v := ⟨_, rfl⟩
      have r48 : (-2147483648 : Int) ≤ x46 ∧ x46 ≤ 2147483647 := by rw [← e47]; exact g13_4 hM.2.2.2.2.2.2.1 t13
      refine c_geti (k := 4) pk_X2 B hM t13 kd13 rfl (by decide) fl_X11_233 dX11_found_107 e47 ?_
      have pq49 : N (R g_w 0 - 1) = N b1 := by rw [e2, Nat.add_sub_cancel]
      have pq50 : N (R g_w 0 - 1) = N b1 := by rw [e2, Nat.add_sub_cancel]
      refine g_iret B hM dX11_found_110 ⟨by show 0 ≤ ((70000 - N (R g_w 0 - 1)) / 18 + 1); omega, by show 0 ≤ (2 * (70000 - N (R g_w 0 - 1))); omega⟩ ?_
      rw [← hPST]
      exact ⟨x46, rfl, by omega, rfl, hF, by first | omega | assumption | exact trivial, by first | omega | assumption | exact trivial⟩
    · refine lv_tableIn (off := 95) (tgt := 111) B.1 B.2.1 dX11_found_16 (by rw [II_toInt (by unfold inr; omega)]; omega) (by rw [II_toInt (by unfold inr; omega)]; omega) (by rw [II_toInt (by unfold inr; omega), hsw6]; decide) (by decide) ?_
      refine lv_aload_n B.1 B.2.1 dX11_found_111 rfl (lv_at hl 1 rfl) ?_
      refine c_getn (k := 3) pk_X11 B hM t_this kd2 rfl (by decide) fl_X11_39 dX11_found_112 p_2 ?_
      refine lv_aload_n B.1 B.2.1 dX11_found_115 rfl (lv_at hl 0 rfl) ?_
      have hFt := hF
      have hMt := hM
      refine p_calli (c_runV (n := 1) (as := [.ref b12]) (rest := []) B hX hA hM hl.1 p_3 kd5 rfl (k_X1_wayLength l D dA eA L T N I J R g_c p_3 b12 t13 _ _) ml_X11_236 nm_X1_wayLength ⟨rfl, rfl⟩ ⟨Nat.le_of_ble_eq_true rfl, Nat.le_of_ble_eq_true rfl⟩ dX11_found_116 rfl rfl (Nat.le_of_ble_eq_true rfl) ⟨by show 0 + 0 ≤ ((70000 - N (R g_w 0 - 1)) / 18 + 1); omega, by show 0 + 0 ≤ (2 * (70000 - N (R g_w 0 - 1))); omega⟩) (fun x52 ix52 hp51 => ?_)
      have hp51a := hp51
      clear hp51a
      clear hFt hMt
      have pq53 : N (R g_w 0 - 1) = N b1 := by rw [e2, Nat.add_sub_cancel]
      have pq54 : N (R g_w 0 - 1) = N b1 := by rw [e2, Nat.add_sub_cancel]
      refine g_iret B hM dX11_found_119 ⟨by show 0 ≤ ((70000 - N (R g_w 0 - 1)) / 18 + 1); omega, by show 0 ≤ (2 * (70000 - N (R g_w 0 - 1))); omega⟩ ?_
      rw [← hPST]
      exact ⟨x52, rfl, by omega, rfl, hF, by first | omega | assumption | exact trivial, by first | omega | assumption | exact trivial⟩
    · refine lv_tableIn (off := 104) (tgt := 120) B.1 B.2.1 dX11_found_16 (by rw [II_toInt (by unfold inr; omega)]; omega) (by rw [II_toInt (by unfold inr; omega)]; omega) (by rw [II_toInt (by unfold inr; omega), hsw7]; decide) (by decide) ?_
      refine lv_aload_n B.1 B.2.1 dX11_found_120 rfl (lv_at hl 1 rfl) ?_
      refine lv_aload_n B.1 B.2.1 dX11_found_121 rfl (lv_at hl 0 rfl) ?_
      have hFt := hF
      have hMt := hM
      refine g_calli hM hA (c_runV (n := 1) (as := [.ref b12]) (rest := []) B hX hA hM hl.1 t_this kd2 rfl (k_X11_composeText l D dA eA L T N I J R a_this t_this b12 t13 g_w b16 (show R a_this 5 = g_w + 1 from p_0) (show T g_w = 14 from p_1) (show R b12 0 = b16 + 1 from e17) (show T b16 = 9 from t18) _ _) ml_X11_240 nm_X11_composeText ⟨rfl, rfl⟩ ⟨Nat.le_of_ble_eq_true rfl, Nat.le_of_ble_eq_true rfl⟩ dX11_found_122 rfl rfl (Nat.le_of_ble_eq_true rfl) ⟨by show 0 + ((70000 - N (R g_w 0 - 1)) / 18 + 1) ≤ ((70000 - N (R g_w 0 - 1)) / 18 + 1); omega, by show 0 + (2 * (70000 - N (R g_w 0 - 1))) ≤ (2 * (70000 - N (R g_w 0 - 1))); omega⟩) (fun x56 ix56 L57 T58 N59 I60 J61 R62 dz63 dl64 H locs hp55 hMn => ?_)
      obtain ⟨yJ61, hFc65, hp55a⟩ := hp55
      obtain rfl := yJ61.symm
      replace hF : Fr mo_X11_found [] T N I J R T58 N59 I60 J R62 := hF.trans hFc65 (by decide) e20
      have hM := hMn
      clear hMn
      replace hp55a : x56 ≤ I60 g_w 3 ∧ I60 g_w 3 ≤ ((N59 (R62 g_w 0 - 1) : Nat) : Int) ∧ (dz63 : Int) * 18 ≤ ((N59 (R62 g_w 0 - 1) : Nat) : Int) - ((N (R g_w 0 - 1) : Nat) : Int) ∧ (dl64 : Int) ≤ 2 * (((N59 (R62 g_w 0 - 1) : Nat) : Int) - ((N (R g_w 0 - 1) : Nat) : Int)) := hp55a
      obtain ⟨hp55a_0, hp55a_1, hp55a_2, hp55a_3⟩ := hp55a
      obtain ⟨v66, e67⟩ : ∃ v, R62 g_w 0 = v := ⟨_, rfl⟩
      have t68 : T58 g_w = 14 := hF.tt p_1 (by decide) nm0
      obtain ⟨b69, e70, t71⟩ := g14_0 hM.2.2.2.2.2.2.1 t68
      have pq72 : N59 (R62 g_w 0 - 1) = N59 b69 := by rw [e70, Nat.add_sub_cancel]
      have n73 : 16 ≤ N59 b69 ∧ N59 b69 ≤ 70000 := gn96 hM.2.2.2.2.2.2.1 t71
      have pq74 : N59 (R62 g_w 0 - 1) = N59 b69 := by rw [e70, Nat.add_sub_cancel]
      obtain ⟨x75, e76⟩ : ∃ v, I60 g_w 3 = v := ⟨_, rfl⟩
      have r77 : (0 : Int) ≤ x75 ∧ x75 ≤ 40000 := by rw [← e76]; exact g14_3 hM.2.2.2.2.2.2.1 t68
      clear hFt hMt
      have pq78 : N59 (R62 g_w 0 - 1) = N59 b69 := by rw [e70, Nat.add_sub_cancel]
      refine g_iret B hM dX11_found_125 ⟨by show 0 + dz63 ≤ ((70000 - N (R g_w 0 - 1)) / 18 + 1); omega, by show 0 + dl64 ≤ (2 * (70000 - N (R g_w 0 - 1))); omega⟩ ?_
      rw [← hPST]
      exact ⟨x56, rfl, by omega, rfl, hF, by first | omega | assumption | exact trivial, by first | omega | assumption | exact trivial⟩
    · refine lv_tableIn (off := 110) (tgt := 126) B.1 B.2.1 dX11_found_16 (by rw [II_toInt (by unfold inr; omega)]; omega) (by rw [II_toInt (by unfold inr; omega)]; omega) (by rw [II_toInt (by unfold inr; omega), hsw8]; decide) (by decide) ?_
      refine lv_aload_n B.1 B.2.1 dX11_found_126 rfl (lv_at hl 0 rfl) ?_
      obtain ⟨x79, e80⟩ : ∃ v, I b12 6 = v := ⟨_, rfl⟩
      have r81 : (0 : Int) ≤ x79 ∧ x79 ≤ 1 := by rw [← e80]; exact g13_6 hM.2.2.2.2.2.2.1 t13
      refine c_geti (k := 6) pk_X2 B hM t13 kd13 rfl (by decide) fl_X11_243 dX11_found_127 e80 ?_
      refine q_ieq (tgt := 137) B dX11_found_130 (by decide) (by unfold inr; omega) (fun c82 => ?_) (fun c82 => ?_)
      · refine q_con B dX11_found_137 ?_
        have pq83 : N (R g_w 0 - 1) = N b1 := by rw [e2, Nat.add_sub_cancel]
        have pq84 : N (R g_w 0 - 1) = N b1 := by rw [e2, Nat.add_sub_cancel]
        refine g_iret B hM dX11_found_138 ⟨by show 0 ≤ ((70000 - N (R g_w 0 - 1)) / 18 + 1); omega, by show 0 ≤ (2 * (70000 - N (R g_w 0 - 1))); omega⟩ ?_
        rw [← hPST]
        exact ⟨(0), rfl, by omega, rfl, hF, by first | omega | assumption | exact trivial, by first | omega | assumption | exact trivial⟩
      · refine q_con B dX11_found_133 ?_
        refine lv_goto (tgt := 138) B.1 B.2.1 dX11_found_134 (by decide) ?_
        have pq85 : N (R g_w 0 - 1) = N b1 := by rw [e2, Nat.add_sub_cancel]
        have pq86 : N (R g_w 0 - 1) = N b1 := by rw [e2, Nat.add_sub_cancel]
        refine g_iret B hM dX11_found_138 ⟨by show 0 ≤ ((70000 - N (R g_w 0 - 1)) / 18 + 1); omega, by show 0 ≤ (2 * (70000 - N (R g_w 0 - 1))); omega⟩ ?_
        rw [← hPST]
        exact ⟨(1), rfl, by omega, rfl, hF, by first | omega | assumption | exact trivial, by first | omega | assumption | exact trivial⟩
    · refine lv_tableIn (off := 123) (tgt := 139) B.1 B.2.1 dX11_found_16 (by rw [II_toInt (by unfold inr; omega)]; omega) (by rw [II_toInt (by unfold inr; omega)]; omega) (by rw [II_toInt (by unfold inr; omega), hsw9]; decide) (by decide) ?_
      refine lv_aload_n B.1 B.2.1 dX11_found_139 rfl (lv_at hl 0 rfl) ?_
      obtain ⟨x87, e88⟩ : ∃ v, I b12 7 = v := ⟨_, rfl⟩
      have r89 : (-2147483648 : Int) ≤ x87 ∧ x87 ≤ 2147483647 := by rw [← e88]; exact g13_7 hM.2.2.2.2.2.2.1 t13
      refine c_geti (k := 7) pk_X2 B hM t13 kd13 rfl (by decide) fl_X11_247 dX11_found_140 e88 ?_
      have pq90 : N (R g_w 0 - 1) = N b1 := by rw [e2, Nat.add_sub_cancel]
      have pq91 : N (R g_w 0 - 1) = N b1 := by rw [e2, Nat.add_sub_cancel]
      refine g_iret B hM dX11_found_143 ⟨by show 0 ≤ ((70000 - N (R g_w 0 - 1)) / 18 + 1); omega, by show 0 ≤ (2 * (70000 - N (R g_w 0 - 1))); omega⟩ ?_
      rw [← hPST]
      exact ⟨x87, rfl, by omega, rfl, hF, by first | omega | assumption | exact trivial, by first | omega | assumption | exact trivial⟩
