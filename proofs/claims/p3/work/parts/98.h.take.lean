def mo_X11_take : List Nat := [1984, 2048, 2016, 71, 72, 73, 70, 199, 229, 230, 231, 225, 226, 2272, 2304, 203, 290, 291, 289, 2400, 2432, 640, 641, 642, 1760, 293, 294, 295, 296, 297, 298, 576, 577, 578, 1696, 608, 609, 610, 1728, 321, 322, 2080, 233, 2240, 198, 2176, 197, 236, 2112, 2144, 480, 481, 482, 1600, 257, 258, 259, 260, 544, 545, 546, 1664, 672, 673, 674, 1792, 325, 2560, 129, 2656, 134, 130, 131, 132, 133, 2592, 704, 705, 706, 1824, 160, 163, 179, 169, 167, 168, 164, 161]
set_option maxHeartbeats 4000000 in
set_option maxRecDepth 20000 in
theorem k_X11_take (l : Launch) (D : va_G) (dA : Nat → ClassId) (eA : Nat) (L : List Nat) (T N : Nat → Nat) (I : Nat → Nat → Int) (J : Nat → Nat → Int64) (R : Nat → Nat → Nat) (a_this : Nat) (t_this : T a_this = 2) (g_t : Nat) (g_s : Nat) (g_tp : Nat) (g_c : Nat) (g_b : Nat) (g_pl : Nat) (g_ru : Nat) (g_f : Nat) (g_fl : Nat) (p_0 : R a_this 1 = g_t + 1) (p_1 : T g_t = 3) (p_2 : R g_t 0 = g_s + 1) (p_3 : T g_s = 62) (p_4 : R a_this 0 = g_tp + 1) (p_5 : T g_tp = 60) (p_6 : R a_this 3 = g_c + 1) (p_7 : T g_c = 5) (p_8 : R a_this 6 = g_b + 1) (p_9 : T g_b = 6) (p_10 : R a_this 4 = g_pl + 1) (p_11 : T g_pl = 22) (p_12 : R g_c 5 = g_pl + 1) (p_13 : R g_c 4 = g_b + 1) (p_14 : R g_b 0 = g_ru + 1) (p_15 : T g_ru = 15) (p_16 : R g_b 1 = g_f + 1) (p_17 : T g_f = 16) (p_18 : R g_c 6 = g_fl + 1) (p_19 : T g_fl = 23) (p_20 : FLq I R g_ru g_f) (p_21 : FUg I R g_c g_fl) : GC l yX11_take cX11_take 3 (some .int) ({ frames := 27, cells := 55 * (I a_this 7).toNat + 400, slots := 401 * (I a_this 7).toNat + 3000, locals := 738 }) D dA eA L T N I J R [.ref a_this] (55 * (I a_this 7).toNat + 400) (401 * (I a_this 7).toNat + 3000) (gI (fun r L' T' N' I' J' R' dz dl => Fr mo_X11_take [] T N I J R T' N' I' J' R' ∧ DI T' I' R' a_this ∧ I' a_this 7 = 0 ∧ (dz : Int) ≤ 55 * I a_this 7 + 70 ∧ (dl : Int) ≤ 401 * I a_this 7 + 1300)) := by
  generalize hPST : (gI (fun r L' T' N' I' J' R' dz dl => Fr mo_X11_take [] T N I J R T' N' I' J' R' ∧ DI T' I' R' a_this ∧ I' a_this 7 = 0 ∧ (dz : Int) ≤ 55 * I a_this 7 + 70 ∧ (dl : Int) ≤ 401 * I a_this 7 + 1300)) = PST
  refine g_enter (own := RX11) (by decide) rfl (Nat.le_of_ble_eq_true rfl) (fun p e s m args below meth c ls hm B hX hM hl => ?_)
  have hC0 := hM.2.2.2.2.2.2.1
  have hW0 := hM.2.2.2
  have hF : Fr mo_X11_take [] T N I J R T N I J R := Fr.rf
  have hA : ∀ q, s.heap.size ≤ q → cF dA L T N I J R s.heap.size q := fun q h => Or.inr h
  have hl : lv_has ls 3 [(0, .ref a_this)] := hl
  have hfl := p_20
  have hfu := p_21
  obtain ⟨x1, e2⟩ : ∃ v, I a_this 7 = v := ⟨_, rfl⟩
  have r3 : (0 : Int) ≤ x1 ∧ x1 ≤ 3000 := by rw [← e2]; exact g2_7 hM.2.2.2.2.2.2.1 t_this
  refine lv_aload_n B.1 B.2.1 dX11_take_0 rfl (lv_at hl 0 rfl) ?_
  refine c_getn (k := 1) pk_X11 B hM t_this kd2 rfl (by decide) fl_X11_16 dX11_take_1 p_0 ?_
  refine lv_aload_n B.1 B.2.1 dX11_take_4 rfl (lv_at hl 0 rfl) ?_
  refine c_getn (k := 0) pk_X11 B hM t_this kd2 rfl (by decide) fl_X11_9 dX11_take_5 p_4 ?_
  refine lv_aload_n B.1 B.2.1 dX11_take_8 rfl (lv_at hl 0 rfl) ?_
  refine c_geti (k := 7) pk_X11 B hM t_this kd2 rfl (by decide) fl_X11_65 dX11_take_9 e2 ?_
  have hFt := hF
  have hMt := hM
  have hv4 : ((-2147483648 : Int) ≤ x1 ∧ (x1 : Int) ≤ 2147483647) ∧ (0 ≤ x1) ∧ (x1 ≤ 3000) := by first | omega | exact ⟨by first | omega | assumption | exact trivial, by first | omega | assumption | exact trivial, by first | omega | assumption | exact trivial⟩
  refine z_callv hM hA (c_runV (n := 2) (as := [.ref g_tp, .int (II x1)]) (rest := []) B hX hA hM hl.1 p_1 kd3 rfl (k_X9_scan l D dA eA L T N I J R g_t p_1 g_tp p_5 x1 hv4.1 g_s (show R g_t 0 = g_s + 1 from p_2) (show T g_s = 62 from p_3) hv4.2.1 hv4.2.2 _ _) ml_X11_72 nm_X9_scan ⟨rfl, rfl⟩ ⟨Nat.le_of_ble_eq_true rfl, Nat.le_of_ble_eq_true rfl⟩ dX11_take_12 rfl rfl (Nat.le_of_ble_eq_true rfl) ⟨by show 0 + 0 ≤ (55 * (I a_this 7).toNat + 400); omega, by show 0 + 0 ≤ (401 * (I a_this 7).toNat + 3000); omega⟩) (fun L7 T8 N9 I10 J11 R12 dz13 dl14 H locs hp5 hMn => ?_)
  obtain ⟨yL7, yT8, yN9, yR12, hFc15, hp5a⟩ := hp5
  obtain rfl := yL7.symm; obtain rfl := yT8.symm; obtain rfl := yN9.symm; obtain rfl := yR12.symm
  replace hF : Fr mo_X11_take [] T N I J R T N I10 J11 R := hF.trans hFc15 (by decide) e20
  have hM := hMn
  clear hMn
  replace hp5a : TKs I10 g_s g_tp x1 := hp5a
  obtain ⟨gn, hz, hgl, htb⟩ := hp5a
  have hz0 := hz.1
  have hz3 := hz.2.1
  have hso : I10 g_s = I10 g_s := rfl
  have hta : I10 g_tp = I10 g_tp := rfl
  replace hfl : FLq I10 R g_ru g_f := FLq.fr hfl hMt.2.2.2.2.2.2.1 hMt.2.2.2.2.2.2.2 p_15 p_17 hFc15 (fun _ _ => nm0) (by decide)
  replace hfu : FUg I10 R g_c g_fl := FUg.fr hfu hMt.2.2.2.2.2.2.1 hMt.2.2.2.2.2.2.2 p_7 p_19 hFc15 (fun _ _ => nm0) (by decide)
  clear hFt hMt
  refine lv_aload_n B.1 B.2.1 dX11_take_15 rfl (lv_at hl 0 rfl) ?_
  have e16 : I10 a_this 7 = x1 := (hFc15.i t_this (by decide) nm0 rfl).trans e2
  refine c_geti (k := 7) pk_X11 B hM t_this kd2 rfl (by decide) fl_X11_65 dX11_take_16 e16 ?_
  refine lv_istore_n (lv' := [(1, .int (II x1)), (0, .ref a_this)]) B.1 B.2.1 dX11_take_19 rfl hl (by decide) rfl (fun ls hl => ?_)
  refine lv_aload_n B.1 B.2.1 dX11_take_20 rfl (lv_at hl 1 rfl) ?_
  refine q_con B dX11_take_21 ?_
  have hMp := hM
  refine c_puti (k := 7) pk_X11 B hM t_this kd2 rfl (by decide) fl_X11_65 (Or.inl rfl) dX11_take_22 rfl rfl rfl (show (0 : Int) ≤ 0 from by omega) (show 0 ≤ (3000 : Int) from by omega) (fun I17 H locs hu18 hM => ?_)
  have hFt := hF
  have e19 : I17 a_this 7 = 0 := w2_at hu18
  replace hF : Fr mo_X11_take [] T N I J R T N I17 J11 R := hF.wi hu18 (fun _ _ => by rw [t_this]; rfl)
  replace hso : I17 g_s = I10 g_s := (w2_nb hu18 (tne p_3 t_this (by decide))).trans hso
  replace hta : I17 g_tp = I10 g_tp := (w2_nb hu18 (tne p_5 t_this (by decide))).trans hta
  replace hfl : FLq I17 R g_ru g_f := FLq.wt hfl hMp.2.2.2.2.2.2.1 hMp.2.2.2.2.2.2.2 p_15 p_17 t_this (by decide) (by decide) (by decide) hu18
  replace hfu : FUg I17 R g_c g_fl := FUg.wi hfu hu18 (Or.inl (tne p_7 t_this (by decide))) (Or.inl (tne p_19 t_this (by decide)))
  clear hFt hMp
  have hMo := hM
  refine c_new (t := 35) pk_X6 B hX.out hA hM kd35 df_X6 rfl rfl (by decide) cl_X11_76 in_X6 ini_X6 (by show 0 + 1 ≤ (55 * (I a_this 7).toNat + 400); omega) (by show 0 + 13 ≤ (401 * (I a_this 7).toNat + 3000); omega) dX11_take_25 (fun b20 L21 T22 N23 H t24 hT25 hN26 hM => ?_)
  have t27 : T22 b20 = 35 := by rw [hT25, va_up_self]
  have n28 : N23 b20 = 13 := by rw [hN26, va_up_self]
  replace hF : Fr mo_X11_take [] T N I J R T22 N23 I17 J11 R := hF.new t24 hT25 hN26
  have zz29 := hMo.2.2.2.2.2.1 b20 t24
  clear hMo
  refine lv_dup B.1 B.2.1 dX11_take_28 rfl ?_
  refine lv_aload_n B.1 B.2.1 dX11_take_29 rfl (lv_at hl 1 rfl) ?_
  have t30 : T22 a_this = 2 := hF.tt t_this (by decide) nm0
  refine c_getn (k := 1) pk_X11 B hM t30 kd2 rfl (by decide) fl_X11_16 dX11_take_30 p_0 ?_
  refine lv_null B.1 B.2.1 dX11_take_33 ?_
  have hFt := hF
  have hMt := hM
  have t31 : T22 g_t = 3 := hF.tt p_1 (by decide) nm0
  have t32 : T22 g_s = 62 := hF.tt p_3 (by decide) nm0
  refine g_callv hM hA (c_runI (n := 2) (as := [.ref g_t, cv 0]) (rest := [.ref b20]) B hX hA hM hl.1 (k_X6_initb l D dA eA L21 T22 N23 I17 J11 R b20 t27 g_t t31 0 (Or.inl rfl) zz29 g_s (show R g_t 0 = g_s + 1 from p_2) (show T22 g_s = 62 from t32) _ _) ml_X11_78 nm_X6_init ⟨rfl, rfl⟩ ⟨Nat.le_of_ble_eq_true rfl, Nat.le_of_ble_eq_true rfl⟩ dX11_take_34 rfl rfl (Nat.le_of_ble_eq_true rfl) ⟨by show 0 + 1 + 12 ≤ (55 * (I a_this 7).toNat + 400); omega, by show 0 + 13 + 260 ≤ (401 * (I a_this 7).toNat + 3000); omega⟩) (fun L35 T36 N37 I38 J39 R40 dz41 dl42 H locs hp33 hMn => ?_)
  obtain ⟨hFc43, hp33a⟩ := hp33
  have t44 : T22 g_tp = 60 := hF.tt p_5 (by decide) nm0
  have t45 : T22 g_c = 5 := hF.tt p_7 (by decide) nm0
  have t46 : T22 g_b = 6 := hF.tt p_9 (by decide) nm0
  have t47 : T22 g_pl = 22 := hF.tt p_11 (by decide) nm0
  have t48 : T22 g_ru = 15 := hF.tt p_15 (by decide) nm0
  have t49 : T22 g_f = 16 := hF.tt p_17 (by decide) nm0
  have t50 : T22 g_fl = 23 := hF.tt p_19 (by decide) nm0
  replace hF : Fr mo_X11_take [] T N I J R T36 N37 I38 J39 R40 := hF.trans hFc43 (by decide) (e2x (fun h => absurd t24 h))
  have hM := hMn
  clear hMn
  obtain ⟨t51, hp33a⟩ := hp33a
  replace hp33a : dz41 ≤ 12 ∧ dl42 ≤ 260 ∧ R40 b20 3 = g_t + 1 ∧ I38 b20 1 = 0 ∧ I38 b20 5 = 0 ∧ I38 b20 6 = I17 g_s (0 : Int).toNat ∧ I38 (R40 (R40 b20 0 - 1) 3 - 1) 2 = 0 ∧ I38 (R40 (R40 b20 0 - 1) 1 - 1) 2 = 0 ∧ T22 (R40 (R40 b20 0 - 1) 0 - 1) = 0 := hp33a
  obtain ⟨hp33a_0, hp33a_1, hp33a_2, hp33a_3, hp33a_4, hp33a_5, hp33a_6, hp33a_7, hp33a_8⟩ := hp33a
  obtain ⟨b52, e53, t54⟩ := g7_0 hM.2.2.2.2.2.2.1 t51
  obtain ⟨b55, e56, t57⟩ := g6_3 hM.2.2.2.2.2.2.1 t54
  have pq58 : I38 (R40 (R40 b20 0 - 1) 3 - 1) 2 = I38 b55 2 := by rw [e53, Nat.add_sub_cancel, e56, Nat.add_sub_cancel]
  obtain ⟨x59, e60⟩ : ∃ v, I38 b55 2 = v := ⟨_, rfl⟩
  obtain ⟨b61, e62, t63⟩ := g6_1 hM.2.2.2.2.2.2.1 t54
  have pq64 : I38 (R40 (R40 b20 0 - 1) 1 - 1) 2 = I38 b61 2 := by rw [e53, Nat.add_sub_cancel, e62, Nat.add_sub_cancel]
  obtain ⟨x65, e66⟩ : ∃ v, I38 b61 2 = v := ⟨_, rfl⟩
  have pq67 : R40 (R40 b20 0 - 1) 0 = R40 b52 0 := by rw [e53, Nat.add_sub_cancel]
  have hsoA1 := hso
  obtain ⟨b68, e69, t70⟩ := g6_0 hM.2.2.2.2.2.2.1 t54
  have hru1 : T b68 = 0 := by
    have h9 : T22 (R40 (R40 b20 0 - 1) 0 - 1) = 0 := by assumption
    rw [e53, Nat.add_sub_cancel, e69, Nat.add_sub_cancel] at h9
    exact T0_x hFt h9 nm0
  replace hso : I38 g_s = I10 g_s := (Fr.irow hFc43 t32 (by decide) (nm1 (tne t32 t27 (by decide))) (by decide)).trans hso
  replace hta : I38 g_tp = I10 g_tp := (Fr.irow hFc43 t44 (by decide) (nm1 (tne t44 t27 (by decide))) (by decide)).trans hta
  replace hfl : FLq I38 R40 g_ru g_f := FLq.fr hfl hMt.2.2.2.2.2.2.1 hMt.2.2.2.2.2.2.2 t48 t49 hFc43 (fun b hb => nm1 (fun e9 => by rw [e9, t27] at hb; omega)) (by decide)
  replace hfu : FUg I38 R40 g_c g_fl := FUg.fr hfu hMt.2.2.2.2.2.2.1 hMt.2.2.2.2.2.2.2 t45 t50 hFc43 (fun b hb => nm1 (fun e9 => by rw [e9, t27] at hb; omega)) (by decide)
  clear hFt hMt
  refine lv_astore_n (lv' := [(2, .ref b20), (1, .int (II x1)), (0, .ref a_this)]) B.1 B.2.1 dX11_take_37 rfl hl (by decide) rfl (fun ls hl => ?_)
  refine lv_aload_n B.1 B.2.1 dX11_take_38 rfl (lv_at hl 0 rfl) ?_
  have hFt := hF
  have hMt := hM
  have e71 : R40 g_t 0 = g_s + 1 := (hF.r p_1 (by decide) nm0 rfl).trans p_2
  have t72 : T36 g_t = 3 := hF.tt p_1 (by decide) nm0
  have t73 : T36 g_s = 62 := hF.tt p_3 (by decide) nm0
  have hv74 : (I38 b20 5 ≤ gn) ∧ (I38 b55 2 = 0) ∧ (0 = I38 b20 1) ∧ (0 = I38 b20 5) := by first | omega | exact ⟨by first | omega | assumption | exact trivial, by first | omega | assumption | exact trivial, by first | omega | assumption | exact trivial, by first | omega | assumption | exact trivial⟩
  refine g_callv hM hA (c_runV (n := 0) (as := []) (rest := []) B hX hA hM hl.1 t51 kd7 rfl (k_X6_readc l D dA eA L35 T36 N37 I38 J39 R40 b20 t51 g_t g_s (I10 g_s) gn b52 b55 b68 (show R40 b20 3 = g_t + 1 from hp33a_2) (show T36 g_t = 3 from t72) (show R40 g_t 0 = g_s + 1 from e71) (show T36 g_s = 62 from t73) (show I38 g_s = (I10 g_s) from by exact hso) (show TKz (I10 g_s) gn from by exact hz) hv74.1 (show (I10 g_s) (I38 b20 5).toNat = I38 b20 6 from by rw [hp33a_4, hp33a_5]; exact (congrFun hsoA1 _).symm) (show R40 b20 0 = b52 + 1 from e53) (show T36 b52 = 6 from t54) (show R40 b52 3 = b55 + 1 from e56) (show T36 b55 = 18 from t57) hv74.2.1 hv74.2.2.1 hv74.2.2.2 (show R40 b52 0 = b68 + 1 from e69) (show T36 b68 = 15 from t70) _ _) ml_X11_81 nm_X6_read ⟨rfl, rfl⟩ ⟨Nat.le_of_ble_eq_true rfl, Nat.le_of_ble_eq_true rfl⟩ dX11_take_39 rfl rfl (Nat.le_of_ble_eq_true rfl) ⟨by show 0 + 1 + dz41 + (5 * gn.toNat + 100) ≤ (55 * (I a_this 7).toNat + 400); omega, by show 0 + 13 + dl42 + (75 * gn.toNat + 1100) ≤ (401 * (I a_this 7).toNat + 3000); omega⟩) (fun L77 T78 N79 I80 J81 R82 dz83 dl84 H locs hp75 hMn => ?_)
  obtain ⟨hFc85, hp75a⟩ := hp75
  have t86 : T36 a_this = 2 := hF.tt t_this (by decide) nm0
  have t87 : T36 g_tp = 60 := hF.tt p_5 (by decide) nm0
  have t88 : T36 g_c = 5 := hF.tt p_7 (by decide) nm0
  have t89 : T36 g_b = 6 := hF.tt p_9 (by decide) nm0
  have t90 : T36 g_pl = 22 := hF.tt p_11 (by decide) nm0
  have t91 : T36 g_ru = 15 := hF.tt p_15 (by decide) nm0
  have t92 : T36 g_f = 16 := hF.tt p_17 (by decide) nm0
  have t93 : T36 g_fl = 23 := hF.tt p_19 (by decide) nm0
  replace hF : Fr mo_X11_take [] T N I J R T78 N79 I80 J81 R82 := hF.trans hFc85 (by decide) e20
  have hM := hMn
  clear hMn
  replace hp75a : I80 b20 5 ≤ gn ∧ (I10 g_s) (I80 b20 5).toNat = I80 b20 6 ∧ (I80 b20 1 ≠ 0 ∨ (I80 b20 6 = 0 ∧ 4 * spn I80 R82 b55 (I80 b55 2).toNat ≤ gn)) ∧ (dz83 : Int) ≤ 5 * gn + 20 ∧ (dl84 : Int) ≤ 75 * gn + 300 ∧ OTR T36 I38 R40 I80 R82 b68 := hp75a
  obtain ⟨hp75a_0, hp75a_1, hp75a_2, hp75a_3, hp75a_4, hp75a_5⟩ := hp75a
  replace hso : I80 g_s = I10 g_s := (Fr.irow hFc85 t73 (by decide) nm0 (by decide)).trans hso
  replace hta : I80 g_tp = I10 g_tp := (Fr.irow hFc85 t87 (by decide) nm0 (by decide)).trans hta
  replace hfl : FLq I80 R82 g_ru g_f := FLq.otr hfl hMt.2.2.2.2.2.2.1 hMt.2.2.2.2.2.2.2 t91 t92 hp75a_5 (fun e9 => by rw [e9] at p_15; omega) hFc85 (by decide)
  replace hfu : FUg I80 R82 g_c g_fl := FUg.fr hfu hMt.2.2.2.2.2.2.1 hMt.2.2.2.2.2.2.2 t88 t93 hFc85 (fun _ _ => nm0) (by decide)
  clear hFt hMt
  refine lv_aload_n B.1 B.2.1 dX11_take_42 rfl (lv_at hl 0 rfl) ?_
  have t94 : T78 b20 = 7 := hFc85.tt t51 (by decide) nm0
  obtain ⟨x95, e96⟩ : ∃ v, I80 b20 1 = v := ⟨_, rfl⟩
  have r97 : (-2147483648 : Int) ≤ x95 ∧ x95 ≤ 2147483647 := by rw [← e96]; exact g7_1 hM.2.2.2.2.2.2.1 t94
  refine c_geti (k := 1) pk_X6 B hM t94 kd7 rfl (by decide) fl_X11_84 dX11_take_43 e96 ?_
  refine q_ine (tgt := 69) B dX11_take_46 (by decide) (by unfold inr; omega) (fun c98 => ?_) (fun c98 => ?_)
  · refine lv_aload_n B.1 B.2.1 dX11_take_69 rfl (lv_at hl 2 rfl) ?_
    refine lv_aload_n B.1 B.2.1 dX11_take_70 rfl (lv_at hl 0 rfl) ?_
    refine c_geti (k := 1) pk_X6 B hM t94 kd7 rfl (by decide) fl_X11_84 dX11_take_71 e96 ?_
    have hMp := hM
    have t99 : T78 a_this = 2 := hF.tt t_this (by decide) nm0
    refine c_puti (k := 8) pk_X11 B hM t99 kd2 rfl (by decide) fl_X11_88 (Or.inl rfl) dX11_take_74 rfl rfl rfl (show (-2147483648 : Int) ≤ x95 from by omega) (show x95 ≤ (2147483647 : Int) from by omega) (fun I100 H locs hu101 hM => ?_)
    have hFt := hF
    have e102 : I100 a_this 8 = x95 := w2_at hu101
    replace hF : Fr mo_X11_take [] T N I J R T78 N79 I100 J81 R82 := hF.wi hu101 (fun _ _ => by rw [t_this]; rfl)
    have t103 : T78 g_s = 62 := hF.tt p_3 (by decide) nm0
    replace hso : I100 g_s = I10 g_s := (w2_nb hu101 (tne t103 t99 (by decide))).trans hso
    have t104 : T78 g_tp = 60 := hF.tt p_5 (by decide) nm0
    replace hta : I100 g_tp = I10 g_tp := (w2_nb hu101 (tne t104 t99 (by decide))).trans hta
    have t105 : T78 g_ru = 15 := hF.tt p_15 (by decide) nm0
    have t106 : T78 g_f = 16 := hF.tt p_17 (by decide) nm0
    replace hfl : FLq I100 R82 g_ru g_f := FLq.wt hfl hMp.2.2.2.2.2.2.1 hMp.2.2.2.2.2.2.2 t105 t106 t99 (by decide) (by decide) (by decide) hu101
    have t107 : T78 g_c = 5 := hF.tt p_7 (by decide) nm0
    have t108 : T78 g_fl = 23 := hF.tt p_19 (by decide) nm0
    replace hfu : FUg I100 R82 g_c g_fl := FUg.wi hfu hu101 (Or.inl (tne t107 t99 (by decide))) (Or.inl (tne t108 t99 (by decide)))
    clear hFt hMp
    refine lv_aload_n B.1 B.2.1 dX11_take_77 rfl (lv_at hl 2 rfl) ?_
    refine lv_aload_n B.1 B.2.1 dX11_take_78 rfl (lv_at hl 0 rfl) ?_
    have e109 : I100 b20 1 = x95 := (w2_ne hu101 (Or.inl (tne t94 t99 (by decide)))).trans e96
    refine c_geti (k := 1) pk_X6 B hM t94 kd7 rfl (by decide) fl_X11_84 dX11_take_79 e109 ?_
    have JJ93 : ∀ (s93_0 : Int) (H : Heap) (locs : List Loc) (ls : Array Slot), (CWd D dA eA (cF dA L T N I J R s.heap.size) s.heap L77 T78 N79 I100 J81 R82 H locs) → lv_has ls 3 [(2, .ref b20), (1, .int (II x1)), (0, .ref a_this)] → ((-2147483648 : Int) ≤ s93_0 ∧ s93_0 ≤ 2147483647) → W p l e ({ frames := 27, cells := 55 * (I a_this 7).toNat + 400, slots := 401 * (I a_this 7).toNat + 3000, locals := 738 }) s m args below meth c H locs (0 + 1 + dz41 + dz83) (0 + 13 + dl42 + dl84) (MQ below (gQ D dA eA (cF dA L T N I J R s.heap.size) s.heap.size (hs s.heap) PST) args s (55 * (I a_this 7).toNat + 400) (401 * (I a_this 7).toNat + 3000) (cF dA L T N I J R s.heap.size)) (F0 m 93 ls [.int (II s93_0), .ref a_this]) := by
      intro s93_0 H locs ls hM hl hJJ93_0
      have hMp := hM
      refine c_puti (k := 9) pk_X11 B hM t99 kd2 rfl (by decide) fl_X11_61 (Or.inl rfl) dX11_take_93 rfl rfl rfl (show (-2147483648 : Int) ≤ s93_0 from by omega) (show s93_0 ≤ (2147483647 : Int) from by omega) (fun I110 H locs hu111 hM => ?_)
      have hFt := hF
      have e112 : I110 a_this 9 = s93_0 := w2_at hu111
      replace hF : Fr mo_X11_take [] T N I J R T78 N79 I110 J81 R82 := hF.wi hu111 (fun _ _ => by rw [t_this]; rfl)
      replace hso : I110 g_s = I10 g_s := (w2_nb hu111 (tne t103 t99 (by decide))).trans hso
      replace hta : I110 g_tp = I10 g_tp := (w2_nb hu111 (tne t104 t99 (by decide))).trans hta
      replace hfl : FLq I110 R82 g_ru g_f := FLq.wt hfl hMp.2.2.2.2.2.2.1 hMp.2.2.2.2.2.2.2 t105 t106 t99 (by decide) (by decide) (by decide) hu111
      replace hfu : FUg I110 R82 g_c g_fl := FUg.wi hfu hu111 (Or.inl (tne t107 t99 (by decide))) (Or.inl (tne t108 t99 (by decide)))
      clear hFt hMp
      refine lv_aload_n B.1 B.2.1 dX11_take_96 rfl (lv_at hl 0 rfl) ?_
      have e113 : I110 b20 1 = x95 := (w2_ne hu111 (Or.inl (tne t94 t99 (by decide)))).trans e109
      refine c_geti (k := 1) pk_X6 B hM t94 kd7 rfl (by decide) fl_X11_84 dX11_take_97 e113 ?_
      refine q_ieq (tgt := 105) B dX11_take_100 (by decide) (by unfold inr; omega) (fun c114 => ?_) (fun c114 => ?_)
      · exfalso; omega
      · refine q_con B dX11_take_103 ?_
        have e115 : I38 a_this 7 = 0 := (hFc43.i t30 (by decide) (nm1 (tne t30 t27 (by decide))) rfl).trans e19
        have e116 : I80 a_this 7 = 0 := (hFc85.i t86 (by decide) nm0 rfl).trans e115
        have e117 : I100 a_this 7 = 0 := (w2_ne hu101 (Or.inr (by decide))).trans e116
        have e118 : I110 a_this 7 = 0 := (w2_ne hu111 (Or.inr (by decide))).trans e117
        have e119 : R82 a_this 3 = g_c + 1 := (hF.r t_this (by decide) nm0 rfl).trans p_6
        have e120 : R40 a_this 6 = g_b + 1 := (hFc43.r t30 (by decide) (nm1 (tne t30 t27 (by decide))) rfl).trans p_8
        have e121 : R82 a_this 6 = g_b + 1 := (hFc85.r t86 (by decide) nm0 rfl).trans e120
        have e122 : R82 a_this 4 = g_pl + 1 := (hF.r t_this (by decide) nm0 rfl).trans p_10
        have e123 : R82 g_c 5 = g_pl + 1 := (hF.r p_7 (by decide) nm0 rfl).trans p_12
        have e124 : R40 g_c 4 = g_b + 1 := (hFc43.r t45 (by decide) (nm1 (tne t45 t27 (by decide))) rfl).trans p_13
        have e125 : R82 g_c 4 = g_b + 1 := (hFc85.r t88 (by decide) nm0 rfl).trans e124
        have e126 : R82 g_b 0 = g_ru + 1 := (hF.r p_9 (by decide) nm0 rfl).trans p_14
        have e127 : R82 g_b 1 = g_f + 1 := (hF.r p_9 (by decide) nm0 rfl).trans p_16
        have e128 : R82 g_c 6 = g_fl + 1 := (hF.r p_7 (by decide) nm0 rfl).trans p_18
        have t129 : T78 g_b = 6 := hF.tt p_9 (by decide) nm0
        have t130 : T78 g_pl = 22 := hF.tt p_11 (by decide) nm0
        refine g_iret B hM dX11_take_104 ⟨by show 0 + 1 + dz41 + dz83 ≤ (55 * (I a_this 7).toNat + 400); omega, by show 0 + 13 + dl42 + dl84 ≤ (401 * (I a_this 7).toNat + 3000); omega⟩ ?_
        rw [← hPST]
        exact ⟨(-1), rfl, by omega, hF, by exact ⟨g_c, g_b, g_pl, g_ru, g_f, g_fl, ⟨e119, t107⟩, ⟨e121, t129⟩, ⟨e122, t130⟩, e123, e125, ⟨e126, t105⟩, ⟨e127, t106⟩, ⟨e128, t108⟩, hfl, hfu⟩, by first | omega | assumption | exact trivial, by first | omega | assumption | exact trivial, by first | omega | assumption | exact trivial⟩
    refine q_ine (tgt := 89) B dX11_take_82 (by decide) (by unfold inr; omega) (fun c131 => ?_) (fun c131 => ?_)
    · refine lv_aload_n B.1 B.2.1 dX11_take_89 rfl (lv_at hl 0 rfl) ?_
      obtain ⟨x132, e133⟩ : ∃ v, I100 b20 2 = v := ⟨_, rfl⟩
      have r134 : (-2147483648 : Int) ≤ x132 ∧ x132 ≤ 2147483647 := by rw [← e133]; exact g7_2 hM.2.2.2.2.2.2.1 t94
      refine c_geti (k := 2) pk_X6 B hM t94 kd7 rfl (by decide) fl_X11_91 dX11_take_90 e133 ?_
      exact JJ93 x132 _ _ ls hM (lv_sub hl [0, 1, 2] rfl) (by first | omega | assumption | exact trivial)
    · refine q_con B dX11_take_85 ?_
      refine lv_goto (tgt := 93) B.1 B.2.1 dX11_take_86 (by decide) ?_
      exact JJ93 (-1) _ _ ls hM (lv_sub hl [0, 1, 2] rfl) (by first | omega | assumption | exact trivial)
  · have hMo := hM
    refine c_new (t := 35) pk_X6 B hX.out hA hM kd35 df_X6 rfl rfl (by decide) cl_X11_76 in_X6 ini_X6 (by show 0 + 1 + dz41 + dz83 + 1 ≤ (55 * (I a_this 7).toNat + 400); omega) (by show 0 + 13 + dl42 + dl84 + 13 ≤ (401 * (I a_this 7).toNat + 3000); omega) dX11_take_49 (fun b135 L136 T137 N138 H t139 hT140 hN141 hM => ?_)
    have z142 : T b135 = 0 := T0_x hF t139 nm0
    have t143 : T137 b135 = 35 := by rw [hT140, va_up_self]
    have n144 : N138 b135 = 13 := by rw [hN141, va_up_self]
    replace hF : Fr mo_X11_take [] T N I J R T137 N138 I80 J81 R82 := hF.new t139 hT140 hN141
    have zz145 := hMo.2.2.2.2.2.1 b135 t139
    clear hMo
    refine lv_dup B.1 B.2.1 dX11_take_52 rfl ?_
    refine lv_aload_n B.1 B.2.1 dX11_take_53 rfl (lv_at hl 2 rfl) ?_
    have t146 : T137 a_this = 2 := hF.tt t_this (by decide) nm0
    have e147 : R82 a_this 1 = g_t + 1 := (hF.r t_this (by decide) nm0 rfl).trans p_0
    refine c_getn (k := 1) pk_X11 B hM t146 kd2 rfl (by decide) fl_X11_16 dX11_take_54 e147 ?_
    refine lv_aload_n B.1 B.2.1 dX11_take_57 rfl (lv_at hl 0 rfl) ?_
    have t148 : T137 b20 = 7 := upT hT140 t139 t94 (by decide)
    have e149 : R82 b20 0 = b52 + 1 := (hFc85.r t51 (by decide) nm0 rfl).trans e53
    refine c_getn (k := 0) pk_X6 B hM t148 kd7 rfl (by decide) fl_X11_87 dX11_take_58 e149 ?_
    have hFt := hF
    have hMt := hM
    have t150 : T137 g_t = 3 := hF.tt p_1 (by decide) nm0
    have t151 : T78 b52 = 6 := hFc85.tt t54 (by decide) nm0
    have t152 : T137 b52 = 6 := upT hT140 t139 t151 (by decide)
    have e153 : R82 g_t 0 = g_s + 1 := (hF.r p_1 (by decide) nm0 rfl).trans p_2
    have t154 : T137 g_s = 62 := hF.tt p_3 (by decide) nm0
    refine g_callv hM hA (c_runI (n := 2) (as := [.ref g_t, cv (b52 + 1)]) (rest := [.ref b135]) B hX hA hM hl.1 (k_X6_initb l D dA eA L136 T137 N138 I80 J81 R82 b135 t143 g_t t150 (b52 + 1) (Or.inr ⟨_, rfl, t152⟩) zz145 g_s (show R82 g_t 0 = g_s + 1 from e153) (show T137 g_s = 62 from t154) _ _) ml_X11_78 nm_X6_init ⟨rfl, rfl⟩ ⟨Nat.le_of_ble_eq_true rfl, Nat.le_of_ble_eq_true rfl⟩ dX11_take_61 rfl rfl (Nat.le_of_ble_eq_true rfl) ⟨by show 0 + 1 + dz41 + dz83 + 1 + 12 ≤ (55 * (I a_this 7).toNat + 400); omega, by show 0 + 13 + dl42 + dl84 + 13 + 260 ≤ (401 * (I a_this 7).toNat + 3000); omega⟩) (fun L157 T158 N159 I160 J161 R162 dz163 dl164 H locs hp155 hMn => ?_)
    obtain ⟨hFc165, hp155a⟩ := hp155
    have t166 : T137 g_tp = 60 := hF.tt p_5 (by decide) nm0
    have t167 : T137 g_c = 5 := hF.tt p_7 (by decide) nm0
    have t168 : T137 g_b = 6 := hF.tt p_9 (by decide) nm0
    have t169 : T137 g_pl = 22 := hF.tt p_11 (by decide) nm0
    have t170 : T137 g_ru = 15 := hF.tt p_15 (by decide) nm0
    have t171 : T137 g_f = 16 := hF.tt p_17 (by decide) nm0
    have t172 : T137 g_fl = 23 := hF.tt p_19 (by decide) nm0
    have t173 : T78 b55 = 18 := hFc85.tt t57 (by decide) nm0
    have t174 : T137 b55 = 18 := upT hT140 t139 t173 (by decide)
    have t175 : T78 b61 = 16 := hFc85.tt t63 (by decide) nm0
    have t176 : T137 b61 = 16 := upT hT140 t139 t175 (by decide)
    have t177 : T78 b68 = 15 := hFc85.tt t70 (by decide) nm0
    have t178 : T137 b68 = 15 := upT hT140 t139 t177 (by decide)
    replace hF : Fr mo_X11_take [] T N I J R T158 N159 I160 J161 R162 := hF.trans hFc165 (by decide) (e2x (fun h => absurd z142 h))
    have hM := hMn
    clear hMn
    obtain ⟨t179, hp155a⟩ := hp155a
    replace hp155a : dz163 ≤ 12 ∧ dl164 ≤ 260 ∧ R162 b135 3 = g_t + 1 ∧ I160 b135 1 = 0 ∧ I160 b135 5 = 0 ∧ I160 b135 6 = I80 g_s (0 : Int).toNat ∧ I160 (R162 (R162 b135 0 - 1) 3 - 1) 2 = 0 ∧ I160 (R162 (R162 b135 0 - 1) 1 - 1) 2 = 0 ∧ T137 (R162 (R162 b135 0 - 1) 0 - 1) = 0 := hp155a
    obtain ⟨hp155a_0, hp155a_1, hp155a_2, hp155a_3, hp155a_4, hp155a_5, hp155a_6, hp155a_7, hp155a_8⟩ := hp155a
    obtain ⟨b180, e181, t182⟩ := g7_0 hM.2.2.2.2.2.2.1 t179
    obtain ⟨b183, e184, t185⟩ := g6_3 hM.2.2.2.2.2.2.1 t182
    have pq186 : I160 (R162 (R162 b135 0 - 1) 3 - 1) 2 = I160 b183 2 := by rw [e181, Nat.add_sub_cancel, e184, Nat.add_sub_cancel]
    obtain ⟨x187, e188⟩ : ∃ v, I160 b183 2 = v := ⟨_, rfl⟩
    obtain ⟨b189, e190, t191⟩ := g6_1 hM.2.2.2.2.2.2.1 t182
    have pq192 : I160 (R162 (R162 b135 0 - 1) 1 - 1) 2 = I160 b189 2 := by rw [e181, Nat.add_sub_cancel, e190, Nat.add_sub_cancel]
    obtain ⟨x193, e194⟩ : ∃ v, I160 b189 2 = v := ⟨_, rfl⟩
    have pq195 : R162 (R162 b135 0 - 1) 0 = R162 b180 0 := by rw [e181, Nat.add_sub_cancel]
    have hsoA2 := hso
    obtain ⟨b196, e197, t198⟩ := g6_0 hM.2.2.2.2.2.2.1 t182
    have hru2 : T b196 = 0 := by
      have h9 : T137 (R162 (R162 b135 0 - 1) 0 - 1) = 0 := by assumption
      rw [e181, Nat.add_sub_cancel, e197, Nat.add_sub_cancel] at h9
      exact T0_x hFt h9 nm0
    replace hso : I160 g_s = I10 g_s := (Fr.irow hFc165 t154 (by decide) (nm1 (tne t154 t143 (by decide))) (by decide)).trans hso
    replace hta : I160 g_tp = I10 g_tp := (Fr.irow hFc165 t166 (by decide) (nm1 (tne t166 t143 (by decide))) (by decide)).trans hta
    replace hfl : FLq I160 R162 g_ru g_f := FLq.fr hfl hMt.2.2.2.2.2.2.1 hMt.2.2.2.2.2.2.2 t170 t171 hFc165 (fun b hb => nm1 (fun e9 => by rw [e9, t143] at hb; omega)) (by decide)
    replace hfu : FUg I160 R162 g_c g_fl := FUg.fr hfu hMt.2.2.2.2.2.2.1 hMt.2.2.2.2.2.2.2 t167 t172 hFc165 (fun b hb => nm1 (fun e9 => by rw [e9, t143] at hb; omega)) (by decide)
    clear hFt hMt
    refine lv_astore_n (lv' := [(2, .ref b135), (1, .int (II x1)), (0, .ref a_this)]) B.1 B.2.1 dX11_take_64 rfl hl (by decide) rfl (fun ls hl => ?_)
    refine lv_aload_n B.1 B.2.1 dX11_take_65 rfl (lv_at hl 0 rfl) ?_
    have hFt := hF
    have hMt := hM
    have e199 : R162 g_t 0 = g_s + 1 := (hF.r p_1 (by decide) nm0 rfl).trans p_2
    have t200 : T158 g_t = 3 := hF.tt p_1 (by decide) nm0
    have t201 : T158 g_s = 62 := hF.tt p_3 (by decide) nm0
    have hv202 : (I160 b135 5 ≤ gn) ∧ (I160 b183 2 = 0) ∧ (0 = I160 b135 1) ∧ (0 = I160 b135 5) := by first | omega | exact ⟨by first | omega | assumption | exact trivial, by first | omega | assumption | exact trivial, by first | omega | assumption | exact trivial, by first | omega | assumption | exact trivial⟩
    refine g_callv hM hA (c_runV (n := 0) (as := []) (rest := []) B hX hA hM hl.1 t179 kd7 rfl (k_X6_readc l D dA eA L157 T158 N159 I160 J161 R162 b135 t179 g_t g_s (I10 g_s) gn b180 b183 b196 (show R162 b135 3 = g_t + 1 from hp155a_2) (show T158 g_t = 3 from t200) (show R162 g_t 0 = g_s + 1 from e199) (show T158 g_s = 62 from t201) (show I160 g_s = (I10 g_s) from by exact hso) (show TKz (I10 g_s) gn from by exact hz) hv202.1 (show (I10 g_s) (I160 b135 5).toNat = I160 b135 6 from by rw [hp155a_4, hp155a_5]; exact (congrFun hsoA2 _).symm) (show R162 b135 0 = b180 + 1 from e181) (show T158 b180 = 6 from t182) (show R162 b180 3 = b183 + 1 from e184) (show T158 b183 = 18 from t185) hv202.2.1 hv202.2.2.1 hv202.2.2.2 (show R162 b180 0 = b196 + 1 from e197) (show T158 b196 = 15 from t198) _ _) ml_X11_81 nm_X6_read ⟨rfl, rfl⟩ ⟨Nat.le_of_ble_eq_true rfl, Nat.le_of_ble_eq_true rfl⟩ dX11_take_66 rfl rfl (Nat.le_of_ble_eq_true rfl) ⟨by show 0 + 1 + dz41 + dz83 + 1 + dz163 + (5 * gn.toNat + 100) ≤ (55 * (I a_this 7).toNat + 400); omega, by show 0 + 13 + dl42 + dl84 + 13 + dl164 + (75 * gn.toNat + 1100) ≤ (401 * (I a_this 7).toNat + 3000); omega⟩) (fun L205 T206 N207 I208 J209 R210 dz211 dl212 H locs hp203 hMn => ?_)
    obtain ⟨hFc213, hp203a⟩ := hp203
    have t214 : T158 a_this = 2 := hF.tt t_this (by decide) nm0
    have t215 : T158 g_tp = 60 := hF.tt p_5 (by decide) nm0
    have t216 : T158 g_c = 5 := hF.tt p_7 (by decide) nm0
    have t217 : T158 g_b = 6 := hF.tt p_9 (by decide) nm0
    have t218 : T158 g_pl = 22 := hF.tt p_11 (by decide) nm0
    have t219 : T158 g_ru = 15 := hF.tt p_15 (by decide) nm0
    have t220 : T158 g_f = 16 := hF.tt p_17 (by decide) nm0
    have t221 : T158 g_fl = 23 := hF.tt p_19 (by decide) nm0
    have t222 : T158 b52 = 6 := hFc165.tt t152 (by decide) (nm1 (tne t152 t143 (by decide)))
    have t223 : T158 b55 = 18 := hFc165.tt t174 (by decide) (nm1 (tne t174 t143 (by decide)))
    have t224 : T158 b61 = 16 := hFc165.tt t176 (by decide) (nm1 (tne t176 t143 (by decide)))
    have t225 : T158 b68 = 15 := hFc165.tt t178 (by decide) (nm1 (tne t178 t143 (by decide)))
    replace hF : Fr mo_X11_take [] T N I J R T206 N207 I208 J209 R210 := hF.trans hFc213 (by decide) e20
    have hM := hMn
    clear hMn
    replace hp203a : I208 b135 5 ≤ gn ∧ (I10 g_s) (I208 b135 5).toNat = I208 b135 6 ∧ (I208 b135 1 ≠ 0 ∨ (I208 b135 6 = 0 ∧ 4 * spn I208 R210 b183 (I208 b183 2).toNat ≤ gn)) ∧ (dz211 : Int) ≤ 5 * gn + 20 ∧ (dl212 : Int) ≤ 75 * gn + 300 ∧ OTR T158 I160 R162 I208 R210 b196 := hp203a
    obtain ⟨hp203a_0, hp203a_1, hp203a_2, hp203a_3, hp203a_4, hp203a_5⟩ := hp203a
    replace hso : I208 g_s = I10 g_s := (Fr.irow hFc213 t201 (by decide) nm0 (by decide)).trans hso
    replace hta : I208 g_tp = I10 g_tp := (Fr.irow hFc213 t215 (by decide) nm0 (by decide)).trans hta
    replace hfl : FLq I208 R210 g_ru g_f := FLq.otr hfl hMt.2.2.2.2.2.2.1 hMt.2.2.2.2.2.2.2 t219 t220 hp203a_5 (fun e9 => by rw [e9] at p_15; omega) hFc213 (by decide)
    replace hfu : FUg I208 R210 g_c g_fl := FUg.fr hfu hMt.2.2.2.2.2.2.1 hMt.2.2.2.2.2.2.2 t216 t221 hFc213 (fun _ _ => nm0) (by decide)
    have e226 : R210 b135 0 = b180 + 1 := (hFc213.r t179 (by decide) nm0 rfl).trans e181
    have e227 : R210 b180 3 = b183 + 1 := (hFc213.r t182 (by decide) nm0 rfl).trans e184
    obtain ⟨x228, e229⟩ : ∃ v, I208 b135 5 = v := ⟨_, rfl⟩
    have t230 : T206 b135 = 7 := hFc213.tt t179 (by decide) nm0
    have r231 : (0 : Int) ≤ x228 ∧ x228 ≤ 3000 := by rw [← e229]; exact g7_5 hM.2.2.2.2.2.2.1 t230
    have hsq : spn I208 R210 b183 (I208 b183 2).toNat = spn I208 R210 b183 (I208 b183 2).toNat := rfl
    clear hFt hMt
    refine lv_aload_n B.1 B.2.1 dX11_take_69 rfl (lv_at hl 2 rfl) ?_
    refine lv_aload_n B.1 B.2.1 dX11_take_70 rfl (lv_at hl 0 rfl) ?_
    obtain ⟨x232, e233⟩ : ∃ v, I208 b135 1 = v := ⟨_, rfl⟩
    have r234 : (-2147483648 : Int) ≤ x232 ∧ x232 ≤ 2147483647 := by rw [← e233]; exact g7_1 hM.2.2.2.2.2.2.1 t230
    refine c_geti (k := 1) pk_X6 B hM t230 kd7 rfl (by decide) fl_X11_84 dX11_take_71 e233 ?_
    have hMp := hM
    have t235 : T206 a_this = 2 := hF.tt t_this (by decide) nm0
    refine c_puti (k := 8) pk_X11 B hM t235 kd2 rfl (by decide) fl_X11_88 (Or.inl rfl) dX11_take_74 rfl rfl rfl (show (-2147483648 : Int) ≤ x232 from by omega) (show x232 ≤ (2147483647 : Int) from by omega) (fun I236 H locs hu237 hM => ?_)
    have hFt := hF
    have e238 : I236 a_this 8 = x232 := w2_at hu237
    replace hF : Fr mo_X11_take [] T N I J R T206 N207 I236 J209 R210 := hF.wi hu237 (fun _ _ => by rw [t_this]; rfl)
    have t239 : T206 g_s = 62 := hF.tt p_3 (by decide) nm0
    replace hso : I236 g_s = I10 g_s := (w2_nb hu237 (tne t239 t235 (by decide))).trans hso
    have t240 : T206 g_tp = 60 := hF.tt p_5 (by decide) nm0
    replace hta : I236 g_tp = I10 g_tp := (w2_nb hu237 (tne t240 t235 (by decide))).trans hta
    have t241 : T206 g_ru = 15 := hF.tt p_15 (by decide) nm0
    have t242 : T206 g_f = 16 := hF.tt p_17 (by decide) nm0
    replace hfl : FLq I236 R210 g_ru g_f := FLq.wt hfl hMp.2.2.2.2.2.2.1 hMp.2.2.2.2.2.2.2 t241 t242 t235 (by decide) (by decide) (by decide) hu237
    have t243 : T206 g_c = 5 := hF.tt p_7 (by decide) nm0
    have t244 : T206 g_fl = 23 := hF.tt p_19 (by decide) nm0
    replace hfu : FUg I236 R210 g_c g_fl := FUg.wi hfu hu237 (Or.inl (tne t243 t235 (by decide))) (Or.inl (tne t244 t235 (by decide)))
    have t245 : T206 b183 = 18 := hFc213.tt t185 (by decide) nm0
    replace hsq : spn I236 R210 b183 (I236 b183 2).toNat = spn I208 R210 b183 (I208 b183 2).toNat := (spn_wi hMp.2.2.2.2.2.2.1 hMp.2.2.2.2.2.2.2 t245 hu237 t235 (by decide) (by decide) (by decide)).trans hsq
    clear hFt hMp
    refine lv_aload_n B.1 B.2.1 dX11_take_77 rfl (lv_at hl 2 rfl) ?_
    refine lv_aload_n B.1 B.2.1 dX11_take_78 rfl (lv_at hl 0 rfl) ?_
    have e246 : I236 b135 1 = x232 := (w2_ne hu237 (Or.inl (tne t230 t235 (by decide)))).trans e233
    refine c_geti (k := 1) pk_X6 B hM t230 kd7 rfl (by decide) fl_X11_84 dX11_take_79 e246 ?_
    have JJ93 : ∀ (s93_0 : Int) (H : Heap) (locs : List Loc) (ls : Array Slot), (CWd D dA eA (cF dA L T N I J R s.heap.size) s.heap L205 T206 N207 I236 J209 R210 H locs) → lv_has ls 3 [(2, .ref b135), (1, .int (II x1)), (0, .ref a_this)] → ((-2147483648 : Int) ≤ s93_0 ∧ s93_0 ≤ 2147483647) → W p l e ({ frames := 27, cells := 55 * (I a_this 7).toNat + 400, slots := 401 * (I a_this 7).toNat + 3000, locals := 738 }) s m args below meth c H locs (0 + 1 + dz41 + dz83 + 1 + dz163 + dz211) (0 + 13 + dl42 + dl84 + 13 + dl164 + dl212) (MQ below (gQ D dA eA (cF dA L T N I J R s.heap.size) s.heap.size (hs s.heap) PST) args s (55 * (I a_this 7).toNat + 400) (401 * (I a_this 7).toNat + 3000) (cF dA L T N I J R s.heap.size)) (F0 m 93 ls [.int (II s93_0), .ref a_this]) := by
      intro s93_0 H locs ls hM hl hJJ93_0
      have hMp := hM
      refine c_puti (k := 9) pk_X11 B hM t235 kd2 rfl (by decide) fl_X11_61 (Or.inl rfl) dX11_take_93 rfl rfl rfl (show (-2147483648 : Int) ≤ s93_0 from by omega) (show s93_0 ≤ (2147483647 : Int) from by omega) (fun I247 H locs hu248 hM => ?_)
      have hFt := hF
      have e249 : I247 a_this 9 = s93_0 := w2_at hu248
      replace hF : Fr mo_X11_take [] T N I J R T206 N207 I247 J209 R210 := hF.wi hu248 (fun _ _ => by rw [t_this]; rfl)
      replace hso : I247 g_s = I10 g_s := (w2_nb hu248 (tne t239 t235 (by decide))).trans hso
      replace hta : I247 g_tp = I10 g_tp := (w2_nb hu248 (tne t240 t235 (by decide))).trans hta
      replace hfl : FLq I247 R210 g_ru g_f := FLq.wt hfl hMp.2.2.2.2.2.2.1 hMp.2.2.2.2.2.2.2 t241 t242 t235 (by decide) (by decide) (by decide) hu248
      replace hfu : FUg I247 R210 g_c g_fl := FUg.wi hfu hu248 (Or.inl (tne t243 t235 (by decide))) (Or.inl (tne t244 t235 (by decide)))
      replace hsq : spn I247 R210 b183 (I247 b183 2).toNat = spn I208 R210 b183 (I208 b183 2).toNat := (spn_wi hMp.2.2.2.2.2.2.1 hMp.2.2.2.2.2.2.2 t245 hu248 t235 (by decide) (by decide) (by decide)).trans hsq
      clear hFt hMp
      refine lv_aload_n B.1 B.2.1 dX11_take_96 rfl (lv_at hl 0 rfl) ?_
      have e250 : I247 b135 1 = x232 := (w2_ne hu248 (Or.inl (tne t230 t235 (by decide)))).trans e246
      refine c_geti (k := 1) pk_X6 B hM t230 kd7 rfl (by decide) fl_X11_84 dX11_take_97 e250 ?_
      refine q_ieq (tgt := 105) B dX11_take_100 (by decide) (by unfold inr; omega) (fun c251 => ?_) (fun c251 => ?_)
      · have hst : I208 b135 6 = 0 ∧ 4 * spn I208 R210 b183 (I208 b183 2).toNat ≤ gn := by
          rcases hp203a_2 with h | h
          · exact absurd (by omega) h
          · exact h
        have htb2 := htb (by rw [← TKz.end hz (Or.inl (hp203a_1.trans hst.1)) (by have h9 := hp203a_0; omega) hp203a_0]; exact hp203a_1.trans hst.1)
        have hTB := TKb.cg htb2 hta
        refine lv_aload_n B.1 B.2.1 dX11_take_105 rfl (lv_at hl 2 rfl) ?_
        refine lv_aload_n B.1 B.2.1 dX11_take_106 rfl (lv_at hl 0 rfl) ?_
        refine c_getn (k := 0) pk_X6 B hM t230 kd7 rfl (by decide) fl_X11_87 dX11_take_107 e226 ?_
        have hMp := hM
        have t254 : T206 b180 = 6 := hFc213.tt t182 (by decide) nm0
        refine c_putr (k := 6) (v := b180 + 1) pk_X11 B hM t235 kd2 rfl (by decide) fl_X11_53 (Or.inl rfl) dX11_take_110 rfl rfl ⟨rfl, fun _ => rfl, rfl, fun _ => rfl⟩ (rokR t254 rfl) (fun R252 H locs hu253 hM => ?_)
        have hFt := hF
        have e255 : R252 a_this 6 = b180 + 1 := w2_at hu253
        replace hF : Fr mo_X11_take [] T N I J R T206 N207 I247 J209 R252 := hF.wr hu253 (fun _ _ => by rw [t_this]; rfl)
        replace hsq : spn I247 R252 b183 (I247 b183 2).toNat = spn I208 R210 b183 (I208 b183 2).toNat := (spn_wr hMp.2.2.2.2.2.2.1 hMp.2.2.2.2.2.2.2 t245 hu253 t235 (by decide) (by decide) (by decide)).trans hsq
        clear hFt hMp
        refine lv_aload_n B.1 B.2.1 dX11_take_113 rfl (lv_at hl 2 rfl) ?_
        refine c_getn (k := 6) pk_X11 B hM t235 kd2 rfl (by decide) fl_X11_53 dX11_take_114 e255 ?_
        refine lv_aload_n B.1 B.2.1 dX11_take_117 rfl (lv_at hl 2 rfl) ?_
        have e256 : R252 a_this 0 = g_tp + 1 := (hF.r t_this (by decide) nm0 rfl).trans p_4
        refine c_getn (k := 0) pk_X11 B hM t235 kd2 rfl (by decide) fl_X11_9 dX11_take_118 e256 ?_
        refine lv_iload_n B.1 B.2.1 dX11_take_121 rfl (lv_at hl 1 rfl) ?_
        have hFt := hF
        have hMt := hM
        have hv257 : ((-2147483648 : Int) ≤ x1 ∧ (x1 : Int) ≤ 2147483647) ∧ (0 ≤ x1) ∧ (0 ≤ x1.toNat) ∧ (x1.toNat ≤ 3000) := by first | omega | exact ⟨by first | omega | assumption | exact trivial, by first | omega | assumption | exact trivial, by first | omega | assumption | exact trivial, by first | omega | assumption | exact trivial⟩
        refine g_callr hM hA (c_runS (n := 2) (as := [.ref g_tp, .int (II x1)]) (rest := [.ref b180]) B hX hA hM hl.1 (k_J7_copyOf_9075b l D dA eA L205 T206 N207 I247 J209 R252 g_tp t240 x1 hv257.1 61 kd60 kd61 (by decide +kernel) (fun k9 hk1 hk9 => by have h9 := ga60 hM.2.2.2.2.2.2.1 t240 hk9; have h8 := hTB k9 (by omega) (by omega); exact ⟨⟨h8, h9.2⟩, h9⟩) hv257.2.1 hv257.2.2.1 hv257.2.2.2 _ _) ml_X11_94 nm_J7_copyOf_9075b ⟨rfl, rfl⟩ ⟨Nat.le_of_ble_eq_true rfl, Nat.le_of_ble_eq_true rfl⟩ dX11_take_122 rfl rfl (Nat.le_of_ble_eq_true rfl) ⟨by show 0 + 1 + dz41 + dz83 + 1 + dz163 + dz211 + 1 ≤ (55 * (I a_this 7).toNat + 400); omega, by show 0 + 13 + dl42 + dl84 + 13 + dl164 + dl212 + x1.toNat ≤ (401 * (I a_this 7).toNat + 3000); omega⟩) (fun b259 L260 T261 N262 I263 J264 R265 dz266 dl267 H locs hp258 hMn => ?_)
        obtain ⟨yJ264, yR265, hFc268, tb259, hp258a⟩ := hp258
        obtain rfl := yJ264.symm; obtain rfl := yR265.symm
        have t269 : T206 g_t = 3 := hF.tt p_1 (by decide) nm0
        have t270 : T206 g_b = 6 := hF.tt p_9 (by decide) nm0
        have t271 : T206 g_pl = 22 := hF.tt p_11 (by decide) nm0
        have t272 : T206 b52 = 6 := hFc213.tt t222 (by decide) nm0
        have t273 : T206 b55 = 18 := hFc213.tt t223 (by decide) nm0
        have t274 : T206 b61 = 16 := hFc213.tt t224 (by decide) nm0
        have t275 : T206 b68 = 15 := hFc213.tt t225 (by decide) nm0
        have t276 : T206 b189 = 16 := hFc213.tt t191 (by decide) nm0
        have t277 : T206 b196 = 15 := hFc213.tt t198 (by decide) nm0
        have hFo := hF
        replace hF : Fr mo_X11_take [] T N I J R T261 N262 I263 J209 R252 := hF.trans hFc268 (by decide) e20
        have hM := hMn
        clear hMn
        replace hp258a : N262 b259 = x1.toNat ∧ T206 b259 = 0 ∧ dz266 ≤ 1 ∧ dl267 ≤ x1.toNat := hp258a
        obtain ⟨hp258a_0, hp258a_1, hp258a_2, hp258a_3⟩ := hp258a
        have z278 : T b259 = 0 := T0_x hFo hp258a_1 nm0
        clear hFo
        replace hsq : spn I263 R252 b183 (I263 b183 2).toNat = spn I208 R210 b183 (I208 b183 2).toNat := (spn_fr hMt.2.2.2.2.2.2.1 hMt.2.2.2.2.2.2.2 t245 hFc268 (by decide)).trans hsq
        clear hFt hMt
        have hMp := hM
        have t279 : T261 b180 = 6 := hFc268.tt t254 (by decide) nm0
        refine c_putr (k := 7) (v := b259 + 1) pk_X0 B hM t279 kd6 rfl (by decide) fl_X11_100 (Or.inl rfl) dX11_take_125 rfl rfl ⟨rfl, fun _ => rfl, rfl, fun _ => rfl⟩ (rokR tb259 rfl) (fun R280 H locs hu281 hM => ?_)
        have hFt := hF
        have e282 : R280 b180 7 = b259 + 1 := w2_at hu281
        replace hF : Fr mo_X11_take [] T N I J R T261 N262 I263 J209 R280 := hF.wr hu281 (Fr_c hF t279 rfl)
        have t283 : T261 b183 = 18 := hFc268.tt t245 (by decide) nm0
        replace hsq : spn I263 R280 b183 (I263 b183 2).toNat = spn I208 R210 b183 (I208 b183 2).toNat := (spn_wr hMp.2.2.2.2.2.2.1 hMp.2.2.2.2.2.2.2 t283 hu281 t279 (by decide) (by decide) (by decide)).trans hsq
        clear hFt hMp
        refine lv_aload_n B.1 B.2.1 dX11_take_128 rfl (lv_at hl 2 rfl) ?_
        have t284 : T261 a_this = 2 := hF.tt t_this (by decide) nm0
        obtain ⟨b285, e286, t287⟩ := g2_2 hC0 t_this
        have e288 : R280 a_this 2 = b285 + 1 := (hF.r t_this (by decide) nm0 rfl).trans e286
        refine c_getn (k := 2) pk_X11 B hM t284 kd2 rfl (by decide) fl_X11_23 dX11_take_129 e288 ?_
        refine lv_aload_n B.1 B.2.1 dX11_take_132 rfl (lv_at hl 2 rfl) ?_
        have e289 : R280 a_this 6 = b180 + 1 := (w2_ne hu281 (Or.inl (tne t284 t279 (by decide)))).trans e255
        refine c_getn (k := 6) pk_X11 B hM t284 kd2 rfl (by decide) fl_X11_53 dX11_take_133 e289 ?_
        have hspn := spn_nn (I := I263) (R := R280) (g := b183) (n := (I263 b183 2).toNat)
        have hsp2 := hst.2
        have hFt := hF
        have hMt := hM
        have t290 : T261 b285 = 4 := hF.tt t287 (by decide) nm0
        have e291 : R252 b180 3 = b183 + 1 := (w2_ne hu253 (Or.inl (tne t254 t235 (by decide)))).trans e227
        have e292 : R280 b180 3 = b183 + 1 := (w2_ne hu281 (Or.inr (by decide))).trans e291
        refine g_callv hM hA (c_runV (n := 1) (as := [.ref b180]) (rest := []) B hX hA hM hl.1 t290 kd4 rfl (k_X4_open l D dA eA L260 T261 N262 I263 J209 R280 b285 t290 b180 t279 b183 (show R280 b180 3 = b183 + 1 from e292) (show T261 b183 = 18 from t283) _ _) ml_X11_103 nm_X4_open ⟨rfl, rfl⟩ ⟨Nat.le_of_ble_eq_true rfl, Nat.le_of_ble_eq_true rfl⟩ dX11_take_136 rfl rfl (Nat.le_of_ble_eq_true rfl) ⟨by show 0 + 1 + dz41 + dz83 + 1 + dz163 + dz211 + dz266 + (180 * (spn I263 R280 b183 (I263 b183 2).toNat).toNat + 190) ≤ (55 * (I a_this 7).toNat + 400); omega, by show 0 + 13 + dl42 + dl84 + 13 + dl164 + dl212 + dl267 + (1000 * (spn I263 R280 b183 (I263 b183 2).toNat).toNat + 1100) ≤ (401 * (I a_this 7).toNat + 3000); omega⟩) (fun L295 T296 N297 I298 J299 R300 dz301 dl302 H locs hp293 hMn => ?_)
        obtain ⟨yJ299, hFc303, hp293a⟩ := hp293
        obtain rfl := yJ299.symm
        have t304 : T261 g_t = 3 := hF.tt p_1 (by decide) nm0
        have t305 : T261 g_s = 62 := hF.tt p_3 (by decide) nm0
        have t306 : T261 g_tp = 60 := hF.tt p_5 (by decide) nm0
        have t307 : T261 g_c = 5 := hF.tt p_7 (by decide) nm0
        have t308 : T261 g_b = 6 := hF.tt p_9 (by decide) nm0
        have t309 : T261 g_pl = 22 := hF.tt p_11 (by decide) nm0
        have t310 : T261 g_ru = 15 := hF.tt p_15 (by decide) nm0
        have t311 : T261 g_f = 16 := hF.tt p_17 (by decide) nm0
        have t312 : T261 g_fl = 23 := hF.tt p_19 (by decide) nm0
        have t313 : T261 b52 = 6 := hFc268.tt t272 (by decide) nm0
        have t314 : T261 b55 = 18 := hFc268.tt t273 (by decide) nm0
        have t315 : T261 b61 = 16 := hFc268.tt t274 (by decide) nm0
        have t316 : T261 b68 = 15 := hFc268.tt t275 (by decide) nm0
        have t317 : T261 b135 = 7 := hFc268.tt t230 (by decide) nm0
        have t318 : T261 b189 = 16 := hFc268.tt t276 (by decide) nm0
        have t319 : T261 b196 = 15 := hFc268.tt t277 (by decide) nm0
        replace hF : Fr mo_X11_take [] T N I J R T296 N297 I298 J209 R300 := hF.trans hFc303 (by decide) e20
        have hM := hMn
        clear hMn
        replace hp293a : (dz301 : Int) ≤ 180 * spn I263 R280 b183 (I263 b183 2).toNat ∧ (dl302 : Int) ≤ 1000 * spn I263 R280 b183 (I263 b183 2).toNat := hp293a
        obtain ⟨hp293a_0, hp293a_1⟩ := hp293a
        clear hFt hMt
        refine lv_aload_n B.1 B.2.1 dX11_take_139 rfl (lv_at hl 2 rfl) ?_
        have t320 : T296 a_this = 2 := hF.tt t_this (by decide) nm0
        have e321 : R300 a_this 4 = g_pl + 1 := (hF.r t_this (by decide) nm0 rfl).trans p_10
        refine c_getn (k := 4) pk_X11 B hM t320 kd2 rfl (by decide) fl_X11_30 dX11_take_140 e321 ?_
        have hFt := hF
        have hMt := hM
        have t322 : T296 g_pl = 22 := hF.tt p_11 (by decide) nm0
        refine z_callv hM hA (c_runV (n := 0) (as := []) (rest := []) B hX hA hM hl.1 t322 kd22 rfl (k_Jx4a65c_clear_da8c8 l D dA eA L295 T296 N297 I298 J209 R300 g_pl t322 _ _) ml_X11_106 nm_Jx4a65c_clear_da8c8 ⟨rfl, rfl⟩ ⟨Nat.le_of_ble_eq_true rfl, Nat.le_of_ble_eq_true rfl⟩ dX11_take_143 rfl rfl (Nat.le_of_ble_eq_true rfl) ⟨by show 0 + 1 + dz41 + dz83 + 1 + dz163 + dz211 + dz266 + dz301 + 0 ≤ (55 * (I a_this 7).toNat + 400); omega, by show 0 + 13 + dl42 + dl84 + 13 + dl164 + dl212 + dl267 + dl302 + 0 ≤ (401 * (I a_this 7).toNat + 3000); omega⟩) (fun L325 T326 N327 I328 J329 R330 dz331 dl332 H locs hp323 hMn => ?_)
        obtain ⟨yL325, yT326, yN327, yJ329, hFc333, hp323a⟩ := hp323
        obtain rfl := yL325.symm; obtain rfl := yT326.symm; obtain rfl := yN327.symm; obtain rfl := yJ329.symm
        replace hF : Fr mo_X11_take [] T N I J R T296 N297 I328 J209 R330 := hF.trans hFc333 (by decide) e20
        have hM := hMn
        clear hMn
        replace hp323a : I328 g_pl 2 = 0 := hp323a
        clear hFt hMt
        refine lv_aload_n B.1 B.2.1 dX11_take_146 rfl (lv_at hl 2 rfl) ?_
        have e334 : R330 a_this 3 = g_c + 1 := (hF.r t_this (by decide) nm0 rfl).trans p_6
        refine c_getn (k := 3) pk_X11 B hM t320 kd2 rfl (by decide) fl_X11_39 dX11_take_147 e334 ?_
        refine lv_aload_n B.1 B.2.1 dX11_take_150 rfl (lv_at hl 2 rfl) ?_
        have e335 : R300 a_this 6 = b180 + 1 := (hFc303.r t284 (by decide) nm0 rfl).trans e289
        have e336 : R330 a_this 6 = b180 + 1 := (hFc333.r t320 (by decide) nm0 rfl).trans e335
        refine c_getn (k := 6) pk_X11 B hM t320 kd2 rfl (by decide) fl_X11_53 dX11_take_151 e336 ?_
        have hFt := hF
        have hMt := hM
        have t337 : T296 g_c = 5 := hF.tt p_7 (by decide) nm0
        have t338 : T296 b180 = 6 := hFc303.tt t279 (by decide) nm0
        refine z_callv hM hA (c_runV (n := 1) (as := [.ref b180]) (rest := []) B hX hA hM hl.1 t337 kd5 rfl (k_X1_forget l D dA eA L295 T296 N297 I328 J209 R330 g_c t337 b180 t338 _ _) ml_X11_57 nm_X1_forget ⟨rfl, rfl⟩ ⟨Nat.le_of_ble_eq_true rfl, Nat.le_of_ble_eq_true rfl⟩ dX11_take_154 rfl rfl (Nat.le_of_ble_eq_true rfl) ⟨by show 0 + 1 + dz41 + dz83 + 1 + dz163 + dz211 + dz266 + dz301 + 0 ≤ (55 * (I a_this 7).toNat + 400); omega, by show 0 + 13 + dl42 + dl84 + 13 + dl164 + dl212 + dl267 + dl302 + 0 ≤ (401 * (I a_this 7).toNat + 3000); omega⟩) (fun L341 T342 N343 I344 J345 R346 dz347 dl348 H locs hp339 hMn => ?_)
        obtain ⟨yL341, yT342, yN343, yJ345, hFc349, hp339a⟩ := hp339
        obtain rfl := yL341.symm; obtain rfl := yT342.symm; obtain rfl := yN343.symm; obtain rfl := yJ345.symm
        replace hF : Fr mo_X11_take [] T N I J R T296 N297 I344 J209 R346 := hF.trans hFc349 (by decide) e20
        have hM := hMn
        clear hMn
        replace hp339a : I344 g_c 0 = 0 ∧ I344 g_c 19 = 0 ∧ I344 g_c 9 = 0 ∧ R346 g_c 4 = b180 + 1 := hp339a
        obtain ⟨hp339a_0, hp339a_1, hp339a_2, hp339a_3⟩ := hp339a
        clear hFt hMt
        refine lv_aload_n B.1 B.2.1 dX11_take_157 rfl (lv_at hl 2 rfl) ?_
        have e350 : R346 a_this 6 = b180 + 1 := (hFc349.r t320 (by decide) nm0 rfl).trans e336
        refine c_getn (k := 6) pk_X11 B hM t320 kd2 rfl (by decide) fl_X11_53 dX11_take_158 e350 ?_
        have e351 : R300 b180 3 = b183 + 1 := (hFc303.r t279 (by decide) nm0 rfl).trans e292
        have e352 : R330 b180 3 = b183 + 1 := (hFc333.r t338 (by decide) nm0 rfl).trans e351
        have e353 : R346 b180 3 = b183 + 1 := (hFc349.r t338 (by decide) nm0 rfl).trans e352
        refine c_getn (k := 3) pk_X0 B hM t338 kd6 rfl (by decide) fl_X11_109 dX11_take_161 e353 ?_
        have hFt := hF
        have hMt := hM
        have t354 : T296 b183 = 18 := hFc303.tt t283 (by decide) nm0
        have hv355 : (15 ≤ 18) ∧ (18 ≤ 23) := by first | omega | exact ⟨by first | omega | assumption | exact trivial, by first | omega | assumption | exact trivial⟩
        refine p_calli (c_runV (n := 0) (as := []) (rest := []) B hX hA hM hl.1 t354 kd18 rfl (k_Jx4a65c_size_8abf5 l D dA eA L295 T296 N297 I344 J209 R346 b183 t354 hv355.1 hv355.2 _ _) ml_X11_112 nm_Jx4a65c_size_8abf5 ⟨rfl, rfl⟩ ⟨Nat.le_of_ble_eq_true rfl, Nat.le_of_ble_eq_true rfl⟩ dX11_take_164 rfl rfl (Nat.le_of_ble_eq_true rfl) ⟨by show 0 + 1 + dz41 + dz83 + 1 + dz163 + dz211 + dz266 + dz301 + 0 ≤ (55 * (I a_this 7).toNat + 400); omega, by show 0 + 13 + dl42 + dl84 + 13 + dl164 + dl212 + dl267 + dl302 + 0 ≤ (401 * (I a_this 7).toNat + 3000); omega⟩) (fun x357 ix357 hp356 => ?_)
        have hp356a := hp356
        replace hp356a : I344 b183 2 = x357 ∧ 0 ≤ x357 ∧ x357 ≤ 16 := hp356a
        obtain ⟨hp356a_0, hp356a_1, hp356a_2⟩ := hp356a
        clear hFt hMt
        have e358 : I38 a_this 7 = 0 := (hFc43.i t30 (by decide) (nm1 (tne t30 t27 (by decide))) rfl).trans e19
        have e359 : I80 a_this 7 = 0 := (hFc85.i t86 (by decide) nm0 rfl).trans e358
        have e360 : I160 a_this 7 = 0 := (hFc165.i t146 (by decide) (nm1 (tne t146 t143 (by decide))) rfl).trans e359
        have e361 : I208 a_this 7 = 0 := (hFc213.i t214 (by decide) nm0 rfl).trans e360
        have e362 : I236 a_this 7 = 0 := (w2_ne hu237 (Or.inr (by decide))).trans e361
        have e363 : I247 a_this 7 = 0 := (w2_ne hu248 (Or.inr (by decide))).trans e362
        have e364 : I263 a_this 7 = 0 := (hFc268.i t235 (by decide) nm0 rfl).trans e363
        have e365 : I298 a_this 7 = 0 := (hFc303.i t284 (by decide) nm0 rfl).trans e364
        have e366 : I328 a_this 7 = 0 := (hFc333.i t320 (by decide) nm0 rfl).trans e365
        have e367 : I344 a_this 7 = 0 := (hFc349.i t320 (by decide) nm0 rfl).trans e366
        have e368 : R346 a_this 3 = g_c + 1 := (hF.r t_this (by decide) nm0 rfl).trans p_6
        have e369 : R346 a_this 4 = g_pl + 1 := (hF.r t_this (by decide) nm0 rfl).trans p_10
        have e370 : R346 g_c 5 = g_pl + 1 := (hF.r p_7 (by decide) nm0 rfl).trans p_12
        have e371 : R210 b180 0 = b196 + 1 := (hFc213.r t182 (by decide) nm0 rfl).trans e197
        have e372 : R252 b180 0 = b196 + 1 := (w2_ne hu253 (Or.inl (tne t254 t235 (by decide)))).trans e371
        have e373 : R280 b180 0 = b196 + 1 := (w2_ne hu281 (Or.inr (by decide))).trans e372
        have e374 : R300 b180 0 = b196 + 1 := (hFc303.r t279 (by decide) nm0 rfl).trans e373
        have e375 : R330 b180 0 = b196 + 1 := (hFc333.r t338 (by decide) nm0 rfl).trans e374
        have e376 : R346 b180 0 = b196 + 1 := (hFc349.r t338 (by decide) nm0 rfl).trans e375
        have e377 : R210 b180 1 = b189 + 1 := (hFc213.r t182 (by decide) nm0 rfl).trans e190
        have e378 : R252 b180 1 = b189 + 1 := (w2_ne hu253 (Or.inl (tne t254 t235 (by decide)))).trans e377
        have e379 : R280 b180 1 = b189 + 1 := (w2_ne hu281 (Or.inr (by decide))).trans e378
        have e380 : R300 b180 1 = b189 + 1 := (hFc303.r t279 (by decide) nm0 rfl).trans e379
        have e381 : R330 b180 1 = b189 + 1 := (hFc333.r t338 (by decide) nm0 rfl).trans e380
        have e382 : R346 b180 1 = b189 + 1 := (hFc349.r t338 (by decide) nm0 rfl).trans e381
        have e383 : R346 g_c 6 = g_fl + 1 := (hF.r p_7 (by decide) nm0 rfl).trans p_18
        have e384 : I208 b189 2 = x193 := (hFc213.i t191 (by decide) nm0 rfl).trans e194
        have e385 : I236 b189 2 = x193 := (w2_ne hu237 (Or.inl (tne t276 t235 (by decide)))).trans e384
        have e386 : I247 b189 2 = x193 := (w2_ne hu248 (Or.inl (tne t276 t235 (by decide)))).trans e385
        have e387 : I263 b189 2 = x193 := (hFc268.i t276 (by decide) nm0 rfl).trans e386
        have e388 : I298 b189 2 = x193 := (hFc303.i t318 (by decide) nm0 rfl).trans e387
        have t389 : T296 b189 = 16 := hFc303.tt t318 (by decide) nm0
        have e390 : I328 b189 2 = x193 := (hFc333.i t389 (by decide) nm0 rfl).trans e388
        have e391 : I344 b189 2 = x193 := (hFc349.i t389 (by decide) nm0 rfl).trans e390
        have t392 : T296 b196 = 15 := hFc303.tt t319 (by decide) nm0
        have t393 : T296 g_fl = 23 := hF.tt p_19 (by decide) nm0
        refine g_iret B hM dX11_take_167 ⟨by show 0 + 1 + dz41 + dz83 + 1 + dz163 + dz211 + dz266 + dz301 ≤ (55 * (I a_this 7).toNat + 400); omega, by show 0 + 13 + dl42 + dl84 + 13 + dl164 + dl212 + dl267 + dl302 ≤ (401 * (I a_this 7).toNat + 3000); omega⟩ ?_
        rw [← hPST]
        exact ⟨x357, rfl, by omega, hF, by exact ⟨g_c, b180, g_pl, b196, b189, g_fl, ⟨e368, t337⟩, ⟨e350, t338⟩, ⟨e369, t322⟩, e370, hp339a_3, ⟨e376, t392⟩, ⟨e382, t389⟩, ⟨e383, t393⟩, FLq.zero (by omega), FUg.zero (by omega)⟩, by first | omega | assumption | exact trivial, by first | omega | assumption | exact trivial, by first | omega | assumption | exact trivial⟩
      · refine q_con B dX11_take_103 ?_
        have e394 : I38 a_this 7 = 0 := (hFc43.i t30 (by decide) (nm1 (tne t30 t27 (by decide))) rfl).trans e19
        have e395 : I80 a_this 7 = 0 := (hFc85.i t86 (by decide) nm0 rfl).trans e394
        have e396 : I160 a_this 7 = 0 := (hFc165.i t146 (by decide) (nm1 (tne t146 t143 (by decide))) rfl).trans e395
        have e397 : I208 a_this 7 = 0 := (hFc213.i t214 (by decide) nm0 rfl).trans e396
        have e398 : I236 a_this 7 = 0 := (w2_ne hu237 (Or.inr (by decide))).trans e397
        have e399 : I247 a_this 7 = 0 := (w2_ne hu248 (Or.inr (by decide))).trans e398
        have e400 : R210 a_this 3 = g_c + 1 := (hF.r t_this (by decide) nm0 rfl).trans p_6
        have e401 : R40 a_this 6 = g_b + 1 := (hFc43.r t30 (by decide) (nm1 (tne t30 t27 (by decide))) rfl).trans p_8
        have e402 : R82 a_this 6 = g_b + 1 := (hFc85.r t86 (by decide) nm0 rfl).trans e401
        have e403 : R162 a_this 6 = g_b + 1 := (hFc165.r t146 (by decide) (nm1 (tne t146 t143 (by decide))) rfl).trans e402
        have e404 : R210 a_this 6 = g_b + 1 := (hFc213.r t214 (by decide) nm0 rfl).trans e403
        have e405 : R210 a_this 4 = g_pl + 1 := (hF.r t_this (by decide) nm0 rfl).trans p_10
        have e406 : R210 g_c 5 = g_pl + 1 := (hF.r p_7 (by decide) nm0 rfl).trans p_12
        have e407 : R40 g_c 4 = g_b + 1 := (hFc43.r t45 (by decide) (nm1 (tne t45 t27 (by decide))) rfl).trans p_13
        have e408 : R82 g_c 4 = g_b + 1 := (hFc85.r t88 (by decide) nm0 rfl).trans e407
        have e409 : R162 g_c 4 = g_b + 1 := (hFc165.r t167 (by decide) (nm1 (tne t167 t143 (by decide))) rfl).trans e408
        have e410 : R210 g_c 4 = g_b + 1 := (hFc213.r t216 (by decide) nm0 rfl).trans e409
        have e411 : R210 g_b 0 = g_ru + 1 := (hF.r p_9 (by decide) nm0 rfl).trans p_14
        have e412 : R210 g_b 1 = g_f + 1 := (hF.r p_9 (by decide) nm0 rfl).trans p_16
        have e413 : R210 g_c 6 = g_fl + 1 := (hF.r p_7 (by decide) nm0 rfl).trans p_18
        have t414 : T206 g_b = 6 := hF.tt p_9 (by decide) nm0
        have t415 : T206 g_pl = 22 := hF.tt p_11 (by decide) nm0
        refine g_iret B hM dX11_take_104 ⟨by show 0 + 1 + dz41 + dz83 + 1 + dz163 + dz211 ≤ (55 * (I a_this 7).toNat + 400); omega, by show 0 + 13 + dl42 + dl84 + 13 + dl164 + dl212 ≤ (401 * (I a_this 7).toNat + 3000); omega⟩ ?_
        rw [← hPST]
        exact ⟨(-1), rfl, by omega, hF, by exact ⟨g_c, g_b, g_pl, g_ru, g_f, g_fl, ⟨e400, t243⟩, ⟨e404, t414⟩, ⟨e405, t415⟩, e406, e410, ⟨e411, t241⟩, ⟨e412, t242⟩, ⟨e413, t244⟩, hfl, hfu⟩, by first | omega | assumption | exact trivial, by first | omega | assumption | exact trivial, by first | omega | assumption | exact trivial⟩
    refine q_ine (tgt := 89) B dX11_take_82 (by decide) (by unfold inr; omega) (fun c416 => ?_) (fun c416 => ?_)
    · refine lv_aload_n B.1 B.2.1 dX11_take_89 rfl (lv_at hl 0 rfl) ?_
      obtain ⟨x417, e418⟩ : ∃ v, I236 b135 2 = v := ⟨_, rfl⟩
      have r419 : (-2147483648 : Int) ≤ x417 ∧ x417 ≤ 2147483647 := by rw [← e418]; exact g7_2 hM.2.2.2.2.2.2.1 t230
      refine c_geti (k := 2) pk_X6 B hM t230 kd7 rfl (by decide) fl_X11_91 dX11_take_90 e418 ?_
      exact JJ93 x417 _ _ ls hM (lv_sub hl [0, 1, 2] rfl) (by first | omega | assumption | exact trivial)
    · refine q_con B dX11_take_85 ?_
      refine lv_goto (tgt := 93) B.1 B.2.1 dX11_take_86 (by decide) ?_
      exact JJ93 (-1) _ _ ls hM (lv_sub hl [0, 1, 2] rfl) (by first | omega | assumption | exact trivial)
