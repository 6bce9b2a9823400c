def mo_X11_check : List Nat := [2368, 265, 261, 262, 512, 513, 514, 1632, 263, 264, 167, 160, 736, 737, 738, 1856, 416, 417, 418, 419, 420, 421, 422, 423, 424, 2816, 169, 385, 2880, 2912, 2944, 2976, 3008, 3040, 179, 2848, 163, 168, 170, 161, 171, 172]
set_option maxHeartbeats 1000000 in
set_option maxRecDepth 20000 in
theorem k_X11_check (l : Launch) (D : va_G) (dA : Nat → ClassId) (eA : Nat) (L : List Nat) (T N : Nat → Nat) (I : Nat → Nat → Int) (J : Nat → Nat → Int64) (R : Nat → Nat → Nat) (a_this : Nat) (t_this : T a_this = 2) (a_p : Int) (i_p : (-2147483648 : Int) ≤ a_p ∧ a_p ≤ 2147483647) (a_chain : Int) (i_chain : (-2147483648 : Int) ≤ a_chain ∧ a_chain ≤ 2147483647) (g_c : Nat) (g_b : Nat) (g_ru : Nat) (g_f : Nat) (g_fl : Nat) (g_vp : Nat) (g_vf : Nat) (g_pl : Nat) (p_0 : R a_this 3 = g_c + 1) (p_1 : T g_c = 5) (p_2 : R a_this 6 = g_b + 1) (p_3 : R a_this 4 = g_pl + 1) (p_4 : R g_c 4 = g_b + 1) (p_5 : T g_b = 6) (p_6 : R g_b 0 = g_ru + 1) (p_7 : T g_ru = 15) (p_8 : R g_b 1 = g_f + 1) (p_9 : T g_f = 16) (p_10 : R g_c 6 = g_fl + 1) (p_11 : T g_fl = 23) (p_12 : R g_c 13 = g_vp + 1) (p_13 : T g_vp = 90) (p_14 : R g_c 14 = g_vf + 1) (p_15 : T g_vf = 91) (p_16 : R g_c 5 = g_pl + 1) (p_17 : T g_pl = 22) (p_18 : FLq I R g_ru g_f) (p_19 : FUg I R g_c g_fl) : GC l yX11_check cX11_check 3 (some .int) ({ frames := 13, cells := (16 - I g_f 2).toNat + 2 * (500 - I g_fl 2).toNat + 4, slots := 24 * (16 - I g_f 2).toNat + 11 * (500 - I g_fl 2).toNat + 3 * (750 - N (R g_fl 1 - 1)) + 807, locals := 387 }) D dA eA L T N I J R [.ref a_this, .int (II a_p), .int (II a_chain)] ((16 - I g_f 2).toNat + 2 * (500 - I g_fl 2).toNat + 4) (24 * (16 - I g_f 2).toNat + 11 * (500 - I g_fl 2).toNat + 3 * (750 - N (R g_fl 1 - 1)) + 807) (gI (fun r L' T' N' I' J' R' dz dl => J' = J ∧ Fr mo_X11_check [] T N I J R T' N' I' J' R' ∧ FLq I' R' g_ru g_f ∧ FUg I' R' g_c g_fl ∧ I g_f 2 ≤ I' g_f 2 ∧ I g_fl 2 ≤ I' g_fl 2 ∧ (dz : Int) ≤ (I' g_f 2 - I g_f 2) + 2 * (I' g_fl 2 - I g_fl 2) ∧ (dl : Int) + 3 * ((N (R g_fl 1 - 1) : Nat) : Int) ≤ 24 * (I' g_f 2 - I g_f 2) + 11 * (I' g_fl 2 - I g_fl 2) + 3 * ((N' (R' g_fl 1 - 1) : Nat) : Int))) := by
  generalize hPST : (gI (fun r L' T' N' I' J' R' dz dl => J' = J ∧ Fr mo_X11_check [] T N I J R T' N' I' J' R' ∧ FLq I' R' g_ru g_f ∧ FUg I' R' g_c g_fl ∧ I g_f 2 ≤ I' g_f 2 ∧ I g_fl 2 ≤ I' g_fl 2 ∧ (dz : Int) ≤ (I' g_f 2 - I g_f 2) + 2 * (I' g_fl 2 - I g_fl 2) ∧ (dl : Int) + 3 * ((N (R g_fl 1 - 1) : Nat) : Int) ≤ 24 * (I' g_f 2 - I g_f 2) + 11 * (I' g_fl 2 - I g_fl 2) + 3 * ((N' (R' g_fl 1 - 1) : Nat) : Int))) = PST
  refine g_enter (own := RX11) (by decide) rfl (Nat.le_of_ble_eq_true rfl) (fun p e s m args below meth c ls hm B hX hM hl => ?_)
  have hC0 := hM.2.2.2.2.2.2.1
  have hW0 := hM.2.2.2
  have hF : Fr mo_X11_check [] T N I J R T N I J R := Fr.rf
  have hA : ∀ q, s.heap.size ≤ q → cF dA L T N I J R s.heap.size q := fun q h => Or.inr h
  have hl : lv_has ls 3 [(0, .ref a_this), (1, .int (II a_p)), (2, .int (II a_chain))] := hl
  obtain ⟨v1, e2⟩ : ∃ v, R g_fl 1 = v := ⟨_, rfl⟩
  obtain ⟨x3, e4⟩ : ∃ v, I g_f 2 = v := ⟨_, rfl⟩
  have r5 : (0 : Int) ≤ x3 ∧ x3 ≤ 16 := by rw [← e4]; exact g16_2 hM.2.2.2.2.2.2.1 p_9
  obtain ⟨x6, e7⟩ : ∃ v, I g_fl 2 = v := ⟨_, rfl⟩
  have r8 : (0 : Int) ≤ x6 ∧ x6 ≤ 500 := by rw [← e7]; exact g23_2 hM.2.2.2.2.2.2.1 p_11
  have nb9 := edBF hM.2.2.2.2.2.2.1 p_11
  refine lv_aload_n B.1 B.2.1 dX11_check_0 rfl (lv_at hl 0 rfl) ?_
  refine lv_iload_n B.1 B.2.1 dX11_check_1 rfl (lv_at hl 1 rfl) ?_
  refine p_callq (c_runV (n := 1) (as := [.int (II a_p)]) (rest := []) B hX hA hM hl.1 t_this kd2 rfl (k_X11_paperAt l D dA eA L T N I J R a_this t_this a_p (by first | omega | assumption | exact trivial) _ _) ml_X11_157 nm_X11_paperAt ⟨rfl, rfl⟩ ⟨Nat.le_of_ble_eq_true rfl, Nat.le_of_ble_eq_true rfl⟩ dX11_check_2 rfl rfl (Nat.le_of_ble_eq_true rfl) ⟨by show 0 + 0 ≤ ((16 - I g_f 2).toNat + 2 * (500 - I g_fl 2).toNat + 4); omega, by show 0 + 0 ≤ (24 * (16 - I g_f 2).toNat + 11 * (500 - I g_fl 2).toNat + 3 * (750 - N (R g_fl 1 - 1)) + 807); omega⟩) (fun v11 hp10 => ?_)
  obtain ⟨qv11, hp10a⟩ := hp10
  clear hp10a
  rcases qv11 with rfl | ⟨b12, rfl, t13⟩
  · have hl : lv_has ls 3 [(0, .ref a_this), (1, .int (II a_p)), (2, .int (II a_chain))] := hl
    refine lv_ifnullN (tgt := 23) B.1 B.2.1 dX11_check_5 (by decide) ?_
    refine q_con B dX11_check_23 ?_
    have hnn : N (R g_fl 1 - 1) = N (R g_fl 1 - 1) := edN2 hC0 p_11 (by decide) (by decide) hF rfl
    have nb14 := edBF hM.2.2.2.2.2.2.1 p_11
    refine g_iret B hM dX11_check_24 ⟨by show 0 ≤ ((16 - I g_f 2).toNat + 2 * (500 - I g_fl 2).toNat + 4); omega, by show 0 ≤ (24 * (16 - I g_f 2).toNat + 11 * (500 - I g_fl 2).toNat + 3 * (750 - N (R g_fl 1 - 1)) + 807); omega⟩ ?_
    rw [← hPST]
    exact ⟨(-1), rfl, by omega, rfl, hF, by first | assumption | exact p_18, by first | assumption | exact p_19, by first | omega | assumption | exact trivial, by first | omega | assumption | exact trivial, by first | omega | assumption | exact trivial, by first | omega | assumption | exact trivial⟩
  · have hl : lv_has ls 3 [(0, .ref a_this), (1, .int (II a_p)), (2, .int (II a_chain))] := hl
    refine lv_ifnull B.1 B.2.1 dX11_check_5 ?_
    refine lv_iload_n B.1 B.2.1 dX11_check_8 rfl (lv_at hl 2 rfl) ?_
    refine q_ilt (tgt := 23) B dX11_check_9 (by decide) (by unfold inr; omega) (fun c15 => ?_) (fun c15 => ?_)
    · refine q_con B dX11_check_23 ?_
      have hnn : N (R g_fl 1 - 1) = N (R g_fl 1 - 1) := edN2 hC0 p_11 (by decide) (by decide) hF rfl
      have nb16 := edBF hM.2.2.2.2.2.2.1 p_11
      refine g_iret B hM dX11_check_24 ⟨by show 0 ≤ ((16 - I g_f 2).toNat + 2 * (500 - I g_fl 2).toNat + 4); omega, by show 0 ≤ (24 * (16 - I g_f 2).toNat + 11 * (500 - I g_fl 2).toNat + 3 * (750 - N (R g_fl 1 - 1)) + 807); omega⟩ ?_
      rw [← hPST]
      exact ⟨(-1), rfl, by omega, rfl, hF, by first | assumption | exact p_18, by first | assumption | exact p_19, by first | omega | assumption | exact trivial, by first | omega | assumption | exact trivial, by first | omega | assumption | exact trivial, by first | omega | assumption | exact trivial⟩
    · refine lv_iload_n B.1 B.2.1 dX11_check_12 rfl (lv_at hl 2 rfl) ?_
      refine lv_aload_n B.1 B.2.1 dX11_check_13 rfl (lv_at hl 0 rfl) ?_
      refine c_getn (k := 6) pk_X11 B hM t_this kd2 rfl (by decide) fl_X11_53 dX11_check_14 p_2 ?_
      obtain ⟨x17, e18⟩ : ∃ v, I g_b 5 = v := ⟨_, rfl⟩
      have r19 : (0 : Int) ≤ x17 ∧ x17 ≤ 6 := by rw [← e18]; exact g6_5 hM.2.2.2.2.2.2.1 p_5
      refine c_geti (k := 5) pk_X0 B hM p_5 kd6 rfl (by decide) fl_X11_193 dX11_check_17 e18 ?_
      refine q_clt (tgt := 25) B dX11_check_20 (by decide) (by unfold inr; omega) (by unfold inr; omega) (fun c20 => ?_) (fun c20 => ?_)
      · refine lv_aload_n B.1 B.2.1 dX11_check_25 rfl (lv_at hl 0 rfl) ?_
        refine c_getn (k := 3) pk_X11 B hM t_this kd2 rfl (by decide) fl_X11_39 dX11_check_26 p_0 ?_
        refine lv_iload_n B.1 B.2.1 dX11_check_29 rfl (lv_at hl 1 rfl) ?_
        refine lv_aload_n B.1 B.2.1 dX11_check_30 rfl (lv_at hl 0 rfl) ?_
        refine c_getn (k := 6) pk_X11 B hM t_this kd2 rfl (by decide) fl_X11_53 dX11_check_31 p_2 ?_
        obtain ⟨b21, e22, t23⟩ := g6_4 hC0 p_5
        refine c_getn (k := 4) pk_X0 B hM p_5 kd6 rfl (by decide) fl_X11_196 dX11_check_34 e22 ?_
        refine lv_iload_n B.1 B.2.1 dX11_check_37 rfl (lv_at hl 2 rfl) ?_
        have n24 : 6 ≤ N b21 ∧ N b21 ≤ 6 := gn68 hM.2.2.2.2.2.2.1 t23
        obtain ⟨v25, e26⟩ : ∃ v, R b21 a_chain.toNat = v := ⟨_, rfl⟩
        have q27 : v25 = 0 ∨ ∃ b, v25 = b + 1 ∧ T b = 69 := by rw [← e26]; exact ga68 hC0 t23 (k := a_chain.toNat) (by omega)
        refine c_ald B hM t23 kd68 an68 dX11_check_38 (by omega) (by omega) e26 ?_
        obtain ⟨b28, e29, t30⟩ : ∃ b, v25 = b + 1 ∧ T b = 69 := by
          rcases q27 with h | h
          · exact absurd (e26.trans h) (gp5 hM.2.2.2.2.2.2.2 p_5 e22 (by omega) (by omega))
          · exact h
        subst e29
        refine g_callv hM hA (c_runV (n := 2) (as := [.int (II a_p), .ref b28]) (rest := []) B hX hA hM hl.1 p_1 kd5 rfl (k_X1_run l D dA eA L T N I J R g_c p_1 a_p (by first | omega | assumption | exact trivial) b28 t30 g_b g_ru g_f g_fl g_vp g_vf g_pl (show R g_c 4 = g_b + 1 from p_4) (show T g_b = 6 from p_5) (show R g_b 0 = g_ru + 1 from p_6) (show T g_ru = 15 from p_7) (show R g_b 1 = g_f + 1 from p_8) (show T g_f = 16 from p_9) (show R g_c 6 = g_fl + 1 from p_10) (show T g_fl = 23 from p_11) (show R g_c 13 = g_vp + 1 from p_12) (show T g_vp = 90 from p_13) (show R g_c 14 = g_vf + 1 from p_14) (show T g_vf = 91 from p_15) (show R g_c 5 = g_pl + 1 from p_16) (show T g_pl = 22 from p_17) (show FLq I R g_ru g_f from by exact p_18) _ _) ml_X11_199 nm_X1_run ⟨rfl, rfl⟩ ⟨Nat.le_of_ble_eq_true rfl, Nat.le_of_ble_eq_true rfl⟩ dX11_check_39 rfl rfl (Nat.le_of_ble_eq_true rfl) ⟨by show 0 + ((16 - I g_f 2).toNat + 2 * (500 - I g_fl 2).toNat + 4) ≤ ((16 - I g_f 2).toNat + 2 * (500 - I g_fl 2).toNat + 4); omega, by show 0 + (24 * (16 - I g_f 2).toNat + 11 * (500 - I g_fl 2).toNat + 3 * (750 - N (R g_fl 1 - 1)) + 807) ≤ (24 * (16 - I g_f 2).toNat + 11 * (500 - I g_fl 2).toNat + 3 * (750 - N (R g_fl 1 - 1)) + 807); omega⟩) (fun L33 T34 N35 I36 J37 R38 dz39 dl40 H locs hp31 hMn => ?_)
        obtain ⟨yJ37, hFc41, hp31a⟩ := hp31
        obtain rfl := yJ37.symm
        replace hF : Fr mo_X11_check [] T N I J R T34 N35 I36 J R38 := hF.trans hFc41 (by decide) e20
        have hM := hMn
        clear hMn
        replace hp31a : FLq I36 R38 g_ru g_f ∧ FUg I36 R38 g_c g_fl ∧ (I36 g_c 0 ≤ I36 g_fl 2 ∨ 500 ≤ I36 g_fl 2) ∧ VVg I36 g_c g_vp g_vf g_pl ∧ I36 g_c 0 ≤ I36 g_c 9 ∧ I g_f 2 ≤ I36 g_f 2 ∧ I g_fl 2 ≤ I36 g_fl 2 ∧ (dz39 : Int) ≤ (I36 g_f 2 - I g_f 2) + 2 * (I36 g_fl 2 - I g_fl 2) ∧ (dl40 : Int) + 3 * ((N (R g_fl 1 - 1) : Nat) : Int) ≤ 24 * (I36 g_f 2 - I g_f 2) + 11 * (I36 g_fl 2 - I g_fl 2) + 3 * ((N35 (R38 g_fl 1 - 1) : Nat) : Int) := hp31a
        obtain ⟨hp31a_0, hp31a_1, hp31a_2, hp31a_3, hp31a_4, hp31a_5, hp31a_6, hp31a_7, hp31a_8⟩ := hp31a
        obtain ⟨v42, e43⟩ : ∃ v, R38 g_fl 1 = v := ⟨_, rfl⟩
        refine lv_aload_n B.1 B.2.1 dX11_check_42 rfl (lv_at hl 0 rfl) ?_
        have t44 : T34 a_this = 2 := hF.tt t_this (by decide) nm0
        have e45 : R38 a_this 3 = g_c + 1 := (hF.r t_this (by decide) nm0 rfl).trans p_0
        refine c_getn (k := 3) pk_X11 B hM t44 kd2 rfl (by decide) fl_X11_39 dX11_check_43 e45 ?_
        have t46 : T34 g_c = 5 := hF.tt p_1 (by decide) nm0
        obtain ⟨x47, e48⟩ : ∃ v, I36 g_c 0 = v := ⟨_, rfl⟩
        have r49 : (0 : Int) ≤ x47 ∧ x47 ≤ 5000 := by rw [← e48]; exact g5_0 hM.2.2.2.2.2.2.1 t46
        refine c_geti (k := 0) pk_X1 B hM t46 kd5 rfl (by decide) fl_X11_203 dX11_check_46 e48 ?_
        obtain ⟨x50, e51⟩ : ∃ v, I36 g_f 2 = v := ⟨_, rfl⟩
        have t52 : T34 g_f = 16 := hF.tt p_9 (by decide) nm0
        have r53 : (0 : Int) ≤ x50 ∧ x50 ≤ 16 := by rw [← e51]; exact g16_2 hM.2.2.2.2.2.2.1 t52
        obtain ⟨x54, e55⟩ : ∃ v, I36 g_fl 2 = v := ⟨_, rfl⟩
        have t56 : T34 g_fl = 23 := hF.tt p_11 (by decide) nm0
        have r57 : (0 : Int) ≤ x54 ∧ x54 ≤ 500 := by rw [← e55]; exact g23_2 hM.2.2.2.2.2.2.1 t56
        have nb58 := edBF hM.2.2.2.2.2.2.1 t56
        refine g_iret B hM dX11_check_49 ⟨by show 0 + dz39 ≤ ((16 - I g_f 2).toNat + 2 * (500 - I g_fl 2).toNat + 4); omega, by show 0 + dl40 ≤ (24 * (16 - I g_f 2).toNat + 11 * (500 - I g_fl 2).toNat + 3 * (750 - N (R g_fl 1 - 1)) + 807); omega⟩ ?_
        rw [← hPST]
        exact ⟨x47, rfl, by omega, rfl, hF, by first | assumption | exact p_18, by first | assumption | exact p_19, by first | omega | assumption | exact trivial, by first | omega | assumption | exact trivial, by first | omega | assumption | exact trivial, by first | omega | assumption | exact trivial⟩
      · refine q_con B dX11_check_23 ?_
        have hnn : N (R g_fl 1 - 1) = N (R g_fl 1 - 1) := edN2 hC0 p_11 (by decide) (by decide) hF rfl
        have nb59 := edBF hM.2.2.2.2.2.2.1 p_11
        refine g_iret B hM dX11_check_24 ⟨by show 0 ≤ ((16 - I g_f 2).toNat + 2 * (500 - I g_fl 2).toNat + 4); omega, by show 0 ≤ (24 * (16 - I g_f 2).toNat + 11 * (500 - I g_fl 2).toNat + 3 * (750 - N (R g_fl 1 - 1)) + 807); omega⟩ ?_
        rw [← hPST]
        exact ⟨(-1), rfl, by omega, rfl, hF, by first | assumption | exact p_18, by first | assumption | exact p_19, by first | omega | assumption | exact trivial, by first | omega | assumption | exact trivial, by first | omega | assumption | exact trivial, by first | omega | assumption | exact trivial⟩
