def mo_X1_init : List Nat := []
set_option maxHeartbeats 1000000 in
set_option maxRecDepth 20000 in
theorem k_X1_init (l : Launch) (D : va_G) (dA : Nat → ClassId) (eA : Nat) (L : List Nat) (T N : Nat → Nat) (I : Nat → Nat → Int) (J : Nat → Nat → Int64) (R : Nat → Nat → Nat) (a_this : Nat) (t_this : T a_this = 33) (a_papers : Nat) (t_papers : T a_papers = 22) (z_this : ∀ k, I a_this k = 0 ∧ J a_this k = 0 ∧ R a_this k = 0) : GC l yX1_init cX1_init 2 none ({ frames := 4, cells := 9, slots := 9663, locals := 110 }) D dA eA L T N I J R [.ref a_this, .ref a_papers] 9 9663 (gV (fun L' T' N' I' J' R' dz dl => Fr mo_X1_init [a_this] T N I J R T' N' I' J' R' ∧ T' a_this = 5 ∧ (dz ≤ 9 ∧ dl ≤ 9663 ∧ I' (R' a_this 6 - 1) 2 = 0 ∧ R' a_this 5 = a_papers + 1 ∧ I' a_this 0 = 0 ∧ I' a_this 9 = 0 ∧ I' a_this 19 = 0))) := by
  generalize hPST : (gV (fun L' T' N' I' J' R' dz dl => Fr mo_X1_init [a_this] T N I J R T' N' I' J' R' ∧ T' a_this = 5 ∧ (dz ≤ 9 ∧ dl ≤ 9663 ∧ I' (R' a_this 6 - 1) 2 = 0 ∧ R' a_this 5 = a_papers + 1 ∧ I' a_this 0 = 0 ∧ I' a_this 9 = 0 ∧ I' a_this 19 = 0))) = PST
  refine g_enter (own := RX1) (by decide) rfl (Nat.le_of_ble_eq_true rfl) (fun p e s m args below meth c ls hm B hX hM hl => ?_)
  have hC0 := hM.2.2.2.2.2.2.1
  have hW0 := hM.2.2.2
  have hF : Fr mo_X1_init [a_this] T N I J R T N I J R := Fr.rf
  have hA : ∀ q, s.heap.size ≤ q → cF dA L T N I J R s.heap.size q := fun q h => Or.inr h
  have hl : lv_has ls 2 [(0, .ref a_this), (1, .ref a_papers)] := hl
  have e1 : I a_this 0 = 0 := (z_this 0).1
  have e2 : I a_this 1 = 0 := (z_this 1).1
  have e3 : R a_this 2 = 0 := (z_this 2).2.2
  have e4 : I a_this 3 = 0 := (z_this 3).1
  have e5 : R a_this 4 = 0 := (z_this 4).2.2
  have e6 : R a_this 5 = 0 := (z_this 5).2.2
  have e7 : R a_this 6 = 0 := (z_this 6).2.2
  have e8 : I a_this 7 = 0 := (z_this 7).1
  have e9 : I a_this 8 = 0 := (z_this 8).1
  have e10 : I a_this 9 = 0 := (z_this 9).1
  have e11 : I a_this 10 = 0 := (z_this 10).1
  have e12 : I a_this 11 = 0 := (z_this 11).1
  have e13 : I a_this 12 = 0 := (z_this 12).1
  have e14 : R a_this 13 = 0 := (z_this 13).2.2
  have e15 : R a_this 14 = 0 := (z_this 14).2.2
  have e16 : R a_this 15 = 0 := (z_this 15).2.2
  have e17 : R a_this 16 = 0 := (z_this 16).2.2
  have e18 : R a_this 17 = 0 := (z_this 17).2.2
  have e19 : R a_this 18 = 0 := (z_this 18).2.2
  have e20 : I a_this 19 = 0 := (z_this 19).1
  refine lv_aload_n B.1 B.2.1 dX1_init_0 rfl (lv_at hl 0 rfl) ?_
  refine c_obj B ol_X1_3 hl.1 (Nat.le_of_ble_eq_true rfl) (Nat.le_of_ble_eq_true rfl) dX1_init_1 ?_
  refine lv_aload_n B.1 B.2.1 dX1_init_4 rfl (lv_at hl 0 rfl) ?_
  refine lv_aload_n B.1 B.2.1 dX1_init_5 rfl (lv_at hl 1 rfl) ?_
  refine c_putr (k := 5) (v := a_papers + 1) pk_X1 B hM t_this kd33 rfl (by decide) fl_X1_9 (Or.inr ⟨rfl, hm, rfl⟩) dX1_init_6 rfl rfl ⟨rfl, fun _ => rfl, rfl, fun _ => rfl⟩ (Or.inl rfl) (fun R21 H locs hu22 hM => ?_)
  have e23 : R21 a_this 5 = a_papers + 1 := w2_at hu22
  replace hF : Fr mo_X1_init [a_this] T N I J R T N I J R21 := hF.wr hu22 (fun _ h => absurd (List.mem_singleton.mpr rfl) h)
  refine lv_aload_n B.1 B.2.1 dX1_init_9 rfl (lv_at hl 0 rfl) ?_
  have hMo := hM
  refine c_new (t := 43) pk_Jx4a65c B hX.out hA hM kd43 df_Jx4a65c rfl rfl (by decide) cl_X1_15 in_Jx4a65c ini_Jx4a65c (by show 0 + 1 ≤ 9; omega) (by show 0 + 3 ≤ 9663; omega) dX1_init_10 (fun b24 L25 T26 N27 H t28 hT29 hN30 hM => ?_)
  have t31 : T26 b24 = 43 := by rw [hT29, va_up_self]
  have n32 : N27 b24 = 3 := by rw [hN30, va_up_self]
  replace hF : Fr mo_X1_init [a_this] T N I J R T26 N27 I J R21 := hF.new t28 hT29 hN30
  have zz33 := hMo.2.2.2.2.2.1 b24 t28
  clear hMo
  refine lv_dup B.1 B.2.1 dX1_init_13 rfl ?_
  have hv34 : (15 ≤ 23) ∧ (23 ≤ 23) := by first | omega | exact ⟨by first | omega | assumption | exact trivial, by first | omega | assumption | exact trivial⟩
  refine z_callv hM hA (c_runI (n := 0) (as := []) (rest := [.ref b24, .ref a_this]) B hX hA hM hl.1 (k_Jx4a65c_init_da8c8 l D dA eA L25 T26 N27 I J R21 b24 t31 zz33 23 hv34.1 hv34.2 _ _) ml_X1_17 nm_Jx4a65c_init_da8c8 ⟨rfl, rfl⟩ ⟨Nat.le_of_ble_eq_true rfl, Nat.le_of_ble_eq_true rfl⟩ dX1_init_14 rfl rfl (Nat.le_of_ble_eq_true rfl) ⟨by show 0 + 1 + 0 ≤ 9; omega, by show 0 + 3 + 0 ≤ 9663; omega⟩) (fun L37 T38 N39 I40 J41 R42 dz43 dl44 H locs hp35 hMn => ?_)
  obtain ⟨yJ41, hFc45, hp35a⟩ := hp35
  obtain rfl := yJ41.symm
  have t46 : T26 a_this = 33 := upT hT29 t28 t_this (by decide)
  have t47 : T26 a_papers = 22 := hF.tt t_papers (by decide) (nm1 (tne t_papers t_this (by decide)))
  replace hF : Fr mo_X1_init [a_this] T N I J R T38 N39 I40 J R42 := hF.trans hFc45 (by decide) (e2x (fun h => absurd t28 h))
  have hM := hMn
  clear hMn
  obtain ⟨t48, hp35a⟩ := hp35a
  replace hp35a : I40 b24 2 = 0 ∧ N39 (R42 b24 1 - 1) = 0 := hp35a
  obtain ⟨hp35a_0, hp35a_1⟩ := hp35a
  have t49 : T38 a_this = 33 := hFc45.tt t46 (by decide) (nm1 (tne t46 t31 (by decide)))
  refine c_putr (k := 6) (v := b24 + 1) pk_X1 B hM t49 kd33 rfl (by decide) fl_X1_18 (Or.inr ⟨rfl, hm, rfl⟩) dX1_init_17 rfl rfl ⟨rfl, fun _ => rfl, rfl, fun _ => rfl⟩ (Or.inl rfl) (fun R50 H locs hu51 hM => ?_)
  have e52 : R50 a_this 6 = b24 + 1 := w2_at hu51
  replace hF : Fr mo_X1_init [a_this] T N I J R T38 N39 I40 J R50 := hF.wr hu51 (fun _ h => absurd (List.mem_singleton.mpr rfl) h)
  refine lv_aload_n B.1 B.2.1 dX1_init_20 rfl (lv_at hl 0 rfl) ?_
  refine q_bip B dX1_init_21 (by decide) ?_
  have hMo := hM
  refine c_newa (t := 89) (atype := .int) (n' := 60) B hX.out hA hM kd89 aw89 rfl rfl (fun _ => va_RA_i) acc_int hav_int (by decide) (by omega) (show 60 ≤ 60 ∧ 60 ≤ 60 from by omega) (by show 0 + 1 + 1 ≤ 9; omega) (by show 0 + 3 + 60 ≤ 9663; omega) dX1_init_23 (fun b53 L54 T55 N56 H t57 hT58 hN59 hM => ?_)
  have z60 : T b53 = 0 := T0_x hF t57 (nm1 (tne t57 t49 (by decide)))
  have t61 : T55 b53 = 89 := by rw [hT58, va_up_self]
  have n62 : N56 b53 = 60 := by rw [hN59, va_up_self]
  replace hF : Fr mo_X1_init [a_this] T N I J R T55 N56 I40 J R50 := hF.new t57 hT58 hN59
  have zz63 := hMo.2.2.2.2.2.1 b53 t57
  clear hMo
  have t64 : T55 a_this = 33 := upT hT58 t57 t49 (by decide)
  refine c_putr (k := 2) (v := b53 + 1) pk_X1 B hM t64 kd33 rfl (by decide) fl_X1_21 (Or.inr ⟨rfl, hm, rfl⟩) dX1_init_25 rfl rfl ⟨rfl, fun _ => rfl, rfl, fun _ => rfl⟩ (Or.inl rfl) (fun R65 H locs hu66 hM => ?_)
  have e67 : R65 a_this 2 = b53 + 1 := w2_at hu66
  replace hF : Fr mo_X1_init [a_this] T N I J R T55 N56 I40 J R65 := hF.wr hu66 (fun _ h => absurd (List.mem_singleton.mpr rfl) h)
  refine lv_aload_n B.1 B.2.1 dX1_init_28 rfl (lv_at hl 0 rfl) ?_
  refine q_sip B dX1_init_29 (by decide) ?_
  have hMo := hM
  refine c_newa (t := 90) (atype := .int) (n' := 1600) B hX.out hA hM kd90 aw90 rfl rfl (fun _ => va_RA_i) acc_int hav_int (by decide) (by omega) (show 1600 ≤ 1600 ∧ 1600 ≤ 1600 from by omega) (by show 0 + 1 + 1 + 1 ≤ 9; omega) (by show 0 + 3 + 60 + 1600 ≤ 9663; omega) dX1_init_32 (fun b68 L69 T70 N71 H t72 hT73 hN74 hM => ?_)
  have z75 : T b68 = 0 := T0_x hF t72 (nm1 (tne t72 t64 (by decide)))
  have t76 : T70 b68 = 90 := by rw [hT73, va_up_self]
  have n77 : N71 b68 = 1600 := by rw [hN74, va_up_self]
  replace hF : Fr mo_X1_init [a_this] T N I J R T70 N71 I40 J R65 := hF.new t72 hT73 hN74
  have zz78 := hMo.2.2.2.2.2.1 b68 t72
  clear hMo
  have t79 : T70 a_this = 33 := upT hT73 t72 t64 (by decide)
  refine c_putr (k := 13) (v := b68 + 1) pk_X1 B hM t79 kd33 rfl (by decide) fl_X1_25 (Or.inr ⟨rfl, hm, rfl⟩) dX1_init_34 rfl rfl ⟨rfl, fun _ => rfl, rfl, fun _ => rfl⟩ (Or.inl rfl) (fun R80 H locs hu81 hM => ?_)
  have e82 : R80 a_this 13 = b68 + 1 := w2_at hu81
  replace hF : Fr mo_X1_init [a_this] T N I J R T70 N71 I40 J R80 := hF.wr hu81 (fun _ h => absurd (List.mem_singleton.mpr rfl) h)
  refine lv_aload_n B.1 B.2.1 dX1_init_37 rfl (lv_at hl 0 rfl) ?_
  refine q_sip B dX1_init_38 (by decide) ?_
  have hMo := hM
  refine c_newa (t := 91) (atype := .int) (n' := 1600) B hX.out hA hM kd91 aw91 rfl rfl (fun _ => va_RA_i) acc_int hav_int (by decide) (by omega) (show 1600 ≤ 1600 ∧ 1600 ≤ 1600 from by omega) (by show 0 + 1 + 1 + 1 + 1 ≤ 9; omega) (by show 0 + 3 + 60 + 1600 + 1600 ≤ 9663; omega) dX1_init_41 (fun b83 L84 T85 N86 H t87 hT88 hN89 hM => ?_)
  have z90 : T b83 = 0 := T0_x hF t87 (nm1 (tne t87 t79 (by decide)))
  have t91 : T85 b83 = 91 := by rw [hT88, va_up_self]
  have n92 : N86 b83 = 1600 := by rw [hN89, va_up_self]
  replace hF : Fr mo_X1_init [a_this] T N I J R T85 N86 I40 J R80 := hF.new t87 hT88 hN89
  have zz93 := hMo.2.2.2.2.2.1 b83 t87
  clear hMo
  have t94 : T85 a_this = 33 := upT hT88 t87 t79 (by decide)
  refine c_putr (k := 14) (v := b83 + 1) pk_X1 B hM t94 kd33 rfl (by decide) fl_X1_28 (Or.inr ⟨rfl, hm, rfl⟩) dX1_init_43 rfl rfl ⟨rfl, fun _ => rfl, rfl, fun _ => rfl⟩ (Or.inl rfl) (fun R95 H locs hu96 hM => ?_)
  have e97 : R95 a_this 14 = b83 + 1 := w2_at hu96
  replace hF : Fr mo_X1_init [a_this] T N I J R T85 N86 I40 J R95 := hF.wr hu96 (fun _ h => absurd (List.mem_singleton.mpr rfl) h)
  refine lv_aload_n B.1 B.2.1 dX1_init_46 rfl (lv_at hl 0 rfl) ?_
  refine q_sip B dX1_init_47 (by decide) ?_
  have hMo := hM
  refine c_newa (t := 92) (atype := .int) (n' := 1600) B hX.out hA hM kd92 aw92 rfl rfl (fun _ => va_RA_i) acc_int hav_int (by decide) (by omega) (show 1600 ≤ 1600 ∧ 1600 ≤ 1600 from by omega) (by show 0 + 1 + 1 + 1 + 1 + 1 ≤ 9; omega) (by show 0 + 3 + 60 + 1600 + 1600 + 1600 ≤ 9663; omega) dX1_init_50 (fun b98 L99 T100 N101 H t102 hT103 hN104 hM => ?_)
  have z105 : T b98 = 0 := T0_x hF t102 (nm1 (tne t102 t94 (by decide)))
  have t106 : T100 b98 = 92 := by rw [hT103, va_up_self]
  have n107 : N101 b98 = 1600 := by rw [hN104, va_up_self]
  replace hF : Fr mo_X1_init [a_this] T N I J R T100 N101 I40 J R95 := hF.new t102 hT103 hN104
  have zz108 := hMo.2.2.2.2.2.1 b98 t102
  clear hMo
  have t109 : T100 a_this = 33 := upT hT103 t102 t94 (by decide)
  refine c_putr (k := 15) (v := b98 + 1) pk_X1 B hM t109 kd33 rfl (by decide) fl_X1_31 (Or.inr ⟨rfl, hm, rfl⟩) dX1_init_52 rfl rfl ⟨rfl, fun _ => rfl, rfl, fun _ => rfl⟩ (Or.inl rfl) (fun R110 H locs hu111 hM => ?_)
  have e112 : R110 a_this 15 = b98 + 1 := w2_at hu111
  replace hF : Fr mo_X1_init [a_this] T N I J R T100 N101 I40 J R110 := hF.wr hu111 (fun _ h => absurd (List.mem_singleton.mpr rfl) h)
  refine lv_aload_n B.1 B.2.1 dX1_init_55 rfl (lv_at hl 0 rfl) ?_
  refine q_sip B dX1_init_56 (by decide) ?_
  have hMo := hM
  refine c_newa (t := 93) (atype := .int) (n' := 1600) B hX.out hA hM kd93 aw93 rfl rfl (fun _ => va_RA_i) acc_int hav_int (by decide) (by omega) (show 1600 ≤ 1600 ∧ 1600 ≤ 1600 from by omega) (by show 0 + 1 + 1 + 1 + 1 + 1 + 1 ≤ 9; omega) (by show 0 + 3 + 60 + 1600 + 1600 + 1600 + 1600 ≤ 9663; omega) dX1_init_59 (fun b113 L114 T115 N116 H t117 hT118 hN119 hM => ?_)
  have z120 : T b113 = 0 := T0_x hF t117 (nm1 (tne t117 t109 (by decide)))
  have t121 : T115 b113 = 93 := by rw [hT118, va_up_self]
  have n122 : N116 b113 = 1600 := by rw [hN119, va_up_self]
  replace hF : Fr mo_X1_init [a_this] T N I J R T115 N116 I40 J R110 := hF.new t117 hT118 hN119
  have zz123 := hMo.2.2.2.2.2.1 b113 t117
  clear hMo
  have t124 : T115 a_this = 33 := upT hT118 t117 t109 (by decide)
  refine c_putr (k := 16) (v := b113 + 1) pk_X1 B hM t124 kd33 rfl (by decide) fl_X1_34 (Or.inr ⟨rfl, hm, rfl⟩) dX1_init_61 rfl rfl ⟨rfl, fun _ => rfl, rfl, fun _ => rfl⟩ (Or.inl rfl) (fun R125 H locs hu126 hM => ?_)
  have e127 : R125 a_this 16 = b113 + 1 := w2_at hu126
  replace hF : Fr mo_X1_init [a_this] T N I J R T115 N116 I40 J R125 := hF.wr hu126 (fun _ h => absurd (List.mem_singleton.mpr rfl) h)
  refine lv_aload_n B.1 B.2.1 dX1_init_64 rfl (lv_at hl 0 rfl) ?_
  refine q_sip B dX1_init_65 (by decide) ?_
  have hMo := hM
  refine c_newa (t := 94) (atype := .int) (n' := 1600) B hX.out hA hM kd94 aw94 rfl rfl (fun _ => va_RA_i) acc_int hav_int (by decide) (by omega) (show 1600 ≤ 1600 ∧ 1600 ≤ 1600 from by omega) (by show 0 + 1 + 1 + 1 + 1 + 1 + 1 + 1 ≤ 9; omega) (by show 0 + 3 + 60 + 1600 + 1600 + 1600 + 1600 + 1600 ≤ 9663; omega) dX1_init_68 (fun b128 L129 T130 N131 H t132 hT133 hN134 hM => ?_)
  have z135 : T b128 = 0 := T0_x hF t132 (nm1 (tne t132 t124 (by decide)))
  have t136 : T130 b128 = 94 := by rw [hT133, va_up_self]
  have n137 : N131 b128 = 1600 := by rw [hN134, va_up_self]
  replace hF : Fr mo_X1_init [a_this] T N I J R T130 N131 I40 J R125 := hF.new t132 hT133 hN134
  have zz138 := hMo.2.2.2.2.2.1 b128 t132
  clear hMo
  have t139 : T130 a_this = 33 := upT hT133 t132 t124 (by decide)
  refine c_putr (k := 17) (v := b128 + 1) pk_X1 B hM t139 kd33 rfl (by decide) fl_X1_37 (Or.inr ⟨rfl, hm, rfl⟩) dX1_init_70 rfl rfl ⟨rfl, fun _ => rfl, rfl, fun _ => rfl⟩ (Or.inl rfl) (fun R140 H locs hu141 hM => ?_)
  have e142 : R140 a_this 17 = b128 + 1 := w2_at hu141
  replace hF : Fr mo_X1_init [a_this] T N I J R T130 N131 I40 J R140 := hF.wr hu141 (fun _ h => absurd (List.mem_singleton.mpr rfl) h)
  refine lv_aload_n B.1 B.2.1 dX1_init_73 rfl (lv_at hl 0 rfl) ?_
  refine q_sip B dX1_init_74 (by decide) ?_
  have hMo := hM
  refine c_newa (t := 95) (atype := .int) (n' := 1600) B hX.out hA hM kd95 aw95 rfl rfl (fun _ => va_RA_i) acc_int hav_int (by decide) (by omega) (show 1600 ≤ 1600 ∧ 1600 ≤ 1600 from by omega) (by show 0 + 1 + 1 + 1 + 1 + 1 + 1 + 1 + 1 ≤ 9; omega) (by show 0 + 3 + 60 + 1600 + 1600 + 1600 + 1600 + 1600 + 1600 ≤ 9663; omega) dX1_init_77 (fun b143 L144 T145 N146 H t147 hT148 hN149 hM => ?_)
  have z150 : T b143 = 0 := T0_x hF t147 (nm1 (tne t147 t139 (by decide)))
  have t151 : T145 b143 = 95 := by rw [hT148, va_up_self]
  have n152 : N146 b143 = 1600 := by rw [hN149, va_up_self]
  replace hF : Fr mo_X1_init [a_this] T N I J R T145 N146 I40 J R140 := hF.new t147 hT148 hN149
  have zz153 := hMo.2.2.2.2.2.1 b143 t147
  clear hMo
  have t154 : T145 a_this = 33 := upT hT148 t147 t139 (by decide)
  refine c_putr (k := 18) (v := b143 + 1) pk_X1 B hM t154 kd33 rfl (by decide) fl_X1_40 (Or.inr ⟨rfl, hm, rfl⟩) dX1_init_79 rfl rfl ⟨rfl, fun _ => rfl, rfl, fun _ => rfl⟩ (Or.inl rfl) (fun R155 H locs hu156 hM => ?_)
  have e157 : R155 a_this 18 = b143 + 1 := w2_at hu156
  replace hF : Fr mo_X1_init [a_this] T N I J R T145 N146 I40 J R155 := hF.wr hu156 (fun _ h => absurd (List.mem_singleton.mpr rfl) h)
  have e158 : I40 a_this 0 = 0 := (hFc45.i t46 (by decide) (nm1 (tne t46 t31 (by decide))) rfl).trans e1
  have e159 : I40 a_this 1 = 0 := (hFc45.i t46 (by decide) (nm1 (tne t46 t31 (by decide))) rfl).trans e2
  have e160 : R80 a_this 2 = b53 + 1 := (w2_ne hu81 (Or.inr (by decide))).trans e67
  have e161 : R95 a_this 2 = b53 + 1 := (w2_ne hu96 (Or.inr (by decide))).trans e160
  have e162 : R110 a_this 2 = b53 + 1 := (w2_ne hu111 (Or.inr (by decide))).trans e161
  have e163 : R125 a_this 2 = b53 + 1 := (w2_ne hu126 (Or.inr (by decide))).trans e162
  have e164 : R140 a_this 2 = b53 + 1 := (w2_ne hu141 (Or.inr (by decide))).trans e163
  have e165 : R155 a_this 2 = b53 + 1 := (w2_ne hu156 (Or.inr (by decide))).trans e164
  have e166 : I40 a_this 3 = 0 := (hFc45.i t46 (by decide) (nm1 (tne t46 t31 (by decide))) rfl).trans e4
  have e167 : R21 a_this 4 = 0 := (w2_ne hu22 (Or.inr (by decide))).trans e5
  have e168 : R42 a_this 4 = 0 := (hFc45.r t46 (by decide) (nm1 (tne t46 t31 (by decide))) rfl).trans e167
  have e169 : R50 a_this 4 = 0 := (w2_ne hu51 (Or.inr (by decide))).trans e168
  have e170 : R65 a_this 4 = 0 := (w2_ne hu66 (Or.inr (by decide))).trans e169
  have e171 : R80 a_this 4 = 0 := (w2_ne hu81 (Or.inr (by decide))).trans e170
  have e172 : R95 a_this 4 = 0 := (w2_ne hu96 (Or.inr (by decide))).trans e171
  have e173 : R110 a_this 4 = 0 := (w2_ne hu111 (Or.inr (by decide))).trans e172
  have e174 : R125 a_this 4 = 0 := (w2_ne hu126 (Or.inr (by decide))).trans e173
  have e175 : R140 a_this 4 = 0 := (w2_ne hu141 (Or.inr (by decide))).trans e174
  have e176 : R155 a_this 4 = 0 := (w2_ne hu156 (Or.inr (by decide))).trans e175
  have e177 : R42 a_this 5 = a_papers + 1 := (hFc45.r t46 (by decide) (nm1 (tne t46 t31 (by decide))) rfl).trans e23
  have e178 : R50 a_this 5 = a_papers + 1 := (w2_ne hu51 (Or.inr (by decide))).trans e177
  have e179 : R65 a_this 5 = a_papers + 1 := (w2_ne hu66 (Or.inr (by decide))).trans e178
  have e180 : R80 a_this 5 = a_papers + 1 := (w2_ne hu81 (Or.inr (by decide))).trans e179
  have e181 : R95 a_this 5 = a_papers + 1 := (w2_ne hu96 (Or.inr (by decide))).trans e180
  have e182 : R110 a_this 5 = a_papers + 1 := (w2_ne hu111 (Or.inr (by decide))).trans e181
  have e183 : R125 a_this 5 = a_papers + 1 := (w2_ne hu126 (Or.inr (by decide))).trans e182
  have e184 : R140 a_this 5 = a_papers + 1 := (w2_ne hu141 (Or.inr (by decide))).trans e183
  have e185 : R155 a_this 5 = a_papers + 1 := (w2_ne hu156 (Or.inr (by decide))).trans e184
  have e186 : R65 a_this 6 = b24 + 1 := (w2_ne hu66 (Or.inr (by decide))).trans e52
  have e187 : R80 a_this 6 = b24 + 1 := (w2_ne hu81 (Or.inr (by decide))).trans e186
  have e188 : R95 a_this 6 = b24 + 1 := (w2_ne hu96 (Or.inr (by decide))).trans e187
  have e189 : R110 a_this 6 = b24 + 1 := (w2_ne hu111 (Or.inr (by decide))).trans e188
  have e190 : R125 a_this 6 = b24 + 1 := (w2_ne hu126 (Or.inr (by decide))).trans e189
  have e191 : R140 a_this 6 = b24 + 1 := (w2_ne hu141 (Or.inr (by decide))).trans e190
  have e192 : R155 a_this 6 = b24 + 1 := (w2_ne hu156 (Or.inr (by decide))).trans e191
  have e193 : I40 a_this 7 = 0 := (hFc45.i t46 (by decide) (nm1 (tne t46 t31 (by decide))) rfl).trans e8
  have e194 : I40 a_this 8 = 0 := (hFc45.i t46 (by decide) (nm1 (tne t46 t31 (by decide))) rfl).trans e9
  have e195 : I40 a_this 9 = 0 := (hFc45.i t46 (by decide) (nm1 (tne t46 t31 (by decide))) rfl).trans e10
  have e196 : I40 a_this 10 = 0 := (hFc45.i t46 (by decide) (nm1 (tne t46 t31 (by decide))) rfl).trans e11
  have e197 : I40 a_this 11 = 0 := (hFc45.i t46 (by decide) (nm1 (tne t46 t31 (by decide))) rfl).trans e12
  have e198 : I40 a_this 12 = 0 := (hFc45.i t46 (by decide) (nm1 (tne t46 t31 (by decide))) rfl).trans e13
  have e199 : R95 a_this 13 = b68 + 1 := (w2_ne hu96 (Or.inr (by decide))).trans e82
  have e200 : R110 a_this 13 = b68 + 1 := (w2_ne hu111 (Or.inr (by decide))).trans e199
  have e201 : R125 a_this 13 = b68 + 1 := (w2_ne hu126 (Or.inr (by decide))).trans e200
  have e202 : R140 a_this 13 = b68 + 1 := (w2_ne hu141 (Or.inr (by decide))).trans e201
  have e203 : R155 a_this 13 = b68 + 1 := (w2_ne hu156 (Or.inr (by decide))).trans e202
  have e204 : R110 a_this 14 = b83 + 1 := (w2_ne hu111 (Or.inr (by decide))).trans e97
  have e205 : R125 a_this 14 = b83 + 1 := (w2_ne hu126 (Or.inr (by decide))).trans e204
  have e206 : R140 a_this 14 = b83 + 1 := (w2_ne hu141 (Or.inr (by decide))).trans e205
  have e207 : R155 a_this 14 = b83 + 1 := (w2_ne hu156 (Or.inr (by decide))).trans e206
  have e208 : R125 a_this 15 = b98 + 1 := (w2_ne hu126 (Or.inr (by decide))).trans e112
  have e209 : R140 a_this 15 = b98 + 1 := (w2_ne hu141 (Or.inr (by decide))).trans e208
  have e210 : R155 a_this 15 = b98 + 1 := (w2_ne hu156 (Or.inr (by decide))).trans e209
  have e211 : R140 a_this 16 = b113 + 1 := (w2_ne hu141 (Or.inr (by decide))).trans e127
  have e212 : R155 a_this 16 = b113 + 1 := (w2_ne hu156 (Or.inr (by decide))).trans e211
  have e213 : R155 a_this 17 = b128 + 1 := (w2_ne hu156 (Or.inr (by decide))).trans e142
  have e214 : I40 a_this 19 = 0 := (hFc45.i t46 (by decide) (nm1 (tne t46 t31 (by decide))) rfl).trans e20
  have t217 : T70 b53 = 89 := upT hT73 t72 t61 (by decide)
  have t218 : T85 b53 = 89 := upT hT88 t87 t217 (by decide)
  have t219 : T100 b53 = 89 := upT hT103 t102 t218 (by decide)
  have t220 : T115 b53 = 89 := upT hT118 t117 t219 (by decide)
  have t221 : T130 b53 = 89 := upT hT133 t132 t220 (by decide)
  have t222 : T145 b53 = 89 := upT hT148 t147 t221 (by decide)
  have t223 : T145 a_papers = 22 := hF.tt t_papers (by decide) (nm1 (tne t_papers t_this (by decide)))
  have t224 : T55 b24 = 23 := upT hT58 t57 t48 (by decide)
  have t225 : T70 b24 = 23 := upT hT73 t72 t224 (by decide)
  have t226 : T85 b24 = 23 := upT hT88 t87 t225 (by decide)
  have t227 : T100 b24 = 23 := upT hT103 t102 t226 (by decide)
  have t228 : T115 b24 = 23 := upT hT118 t117 t227 (by decide)
  have t229 : T130 b24 = 23 := upT hT133 t132 t228 (by decide)
  have t230 : T145 b24 = 23 := upT hT148 t147 t229 (by decide)
  have t231 : T85 b68 = 90 := upT hT88 t87 t76 (by decide)
  have t232 : T100 b68 = 90 := upT hT103 t102 t231 (by decide)
  have t233 : T115 b68 = 90 := upT hT118 t117 t232 (by decide)
  have t234 : T130 b68 = 90 := upT hT133 t132 t233 (by decide)
  have t235 : T145 b68 = 90 := upT hT148 t147 t234 (by decide)
  have t236 : T100 b83 = 91 := upT hT103 t102 t91 (by decide)
  have t237 : T115 b83 = 91 := upT hT118 t117 t236 (by decide)
  have t238 : T130 b83 = 91 := upT hT133 t132 t237 (by decide)
  have t239 : T145 b83 = 91 := upT hT148 t147 t238 (by decide)
  have t240 : T115 b98 = 92 := upT hT118 t117 t106 (by decide)
  have t241 : T130 b98 = 92 := upT hT133 t132 t240 (by decide)
  have t242 : T145 b98 = 92 := upT hT148 t147 t241 (by decide)
  have t243 : T130 b113 = 93 := upT hT133 t132 t121 (by decide)
  have t244 : T145 b113 = 93 := upT hT148 t147 t243 (by decide)
  have t245 : T145 b128 = 94 := upT hT148 t147 t136 (by decide)
  obtain ⟨T215, hT216⟩ : ∃ X, X = va_up T145 a_this 5 := ⟨_, rfl⟩
  have hn9 : 20 ≤ N146 a_this ∧ N146 a_this ≤ 20 := hM.2.2.2.2.2.2.1.n t154 (by decide)
  have hty246 : TY T215 N146 I40 R155 a_this := by
    have h9 : T215 a_this = 5 := by rw [hT216, va_up_self]
    unfold TY; rw [h9]
    refine ⟨hn9.1, hn9.2, fun k hk => ?_⟩
    have hk9 : k = 0 ∨ k = 1 ∨ k = 2 ∨ k = 3 ∨ k = 4 ∨ k = 5 ∨ k = 6 ∨ k = 7 ∨ k = 8 ∨ k = 9 ∨ k = 10 ∨ k = 11 ∨ k = 12 ∨ k = 13 ∨ k = 14 ∨ k = 15 ∨ k = 16 ∨ k = 17 ∨ k = 18 ∨ k = 19 := by omega
    rcases hk9 with rfl | rfl | rfl | rfl | rfl | rfl | rfl | rfl | rfl | rfl | rfl | rfl | rfl | rfl | rfl | rfl | rfl | rfl | rfl | rfl
    · exact ⟨(by rw [e158]; exact (show (0 : Int) ≤ 0 ∧ (0 : Int) ≤ 5000 from by omega)), Or.inl rfl⟩
    · exact ⟨hM.2.2.2.2.2.2.1.io (t := 33) t154 (by decide) (by decide), Or.inl rfl⟩
    · exact ⟨hM.2.2.2.2.2.2.1.io (t := 33) t154 (by decide) (by decide), (by rw [e165]; exact rokR (t := 89) (by rw [hT216, va_up_ne _ _ (tne t222 t154 (by decide))]; exact t222) rfl)⟩
    · exact ⟨(by rw [e166]; exact (show (0 : Int) ≤ 0 ∧ (0 : Int) ≤ 60 from by omega)), Or.inl rfl⟩
    · exact ⟨hM.2.2.2.2.2.2.1.io (t := 33) t154 (by decide) (by decide), (by rw [e176]; exact Or.inr (Or.inl ⟨rfl, rfl⟩))⟩
    · exact ⟨hM.2.2.2.2.2.2.1.io (t := 33) t154 (by decide) (by decide), (by rw [e185]; exact rokR (t := 22) (by rw [hT216, va_up_ne _ _ (tne t223 t154 (by decide))]; exact t223) rfl)⟩
    · exact ⟨hM.2.2.2.2.2.2.1.io (t := 33) t154 (by decide) (by decide), (by rw [e192]; exact rokR (t := 23) (by rw [hT216, va_up_ne _ _ (tne t230 t154 (by decide))]; exact t230) rfl)⟩
    · exact ⟨(by rw [e193]; exact (show (0 : Int) ≤ 0 ∧ (0 : Int) ≤ 1 from by omega)), Or.inl rfl⟩
    · exact ⟨(by rw [e194]; exact (show (0 : Int) ≤ 0 ∧ (0 : Int) ≤ 1 from by omega)), Or.inl rfl⟩
    · exact ⟨(by rw [e195]; exact (show (0 : Int) ≤ 0 ∧ (0 : Int) ≤ 5000 from by omega)), Or.inl rfl⟩
    · exact ⟨hM.2.2.2.2.2.2.1.io (t := 33) t154 (by decide) (by decide), Or.inl rfl⟩
    · exact ⟨hM.2.2.2.2.2.2.1.io (t := 33) t154 (by decide) (by decide), Or.inl rfl⟩
    · exact ⟨hM.2.2.2.2.2.2.1.io (t := 33) t154 (by decide) (by decide), Or.inl rfl⟩
    · exact ⟨hM.2.2.2.2.2.2.1.io (t := 33) t154 (by decide) (by decide), (by rw [e203]; exact rokR (t := 90) (by rw [hT216, va_up_ne _ _ (tne t235 t154 (by decide))]; exact t235) rfl)⟩
    · exact ⟨hM.2.2.2.2.2.2.1.io (t := 33) t154 (by decide) (by decide), (by rw [e207]; exact rokR (t := 91) (by rw [hT216, va_up_ne _ _ (tne t239 t154 (by decide))]; exact t239) rfl)⟩
    · exact ⟨hM.2.2.2.2.2.2.1.io (t := 33) t154 (by decide) (by decide), (by rw [e210]; exact rokR (t := 92) (by rw [hT216, va_up_ne _ _ (tne t242 t154 (by decide))]; exact t242) rfl)⟩
    · exact ⟨hM.2.2.2.2.2.2.1.io (t := 33) t154 (by decide) (by decide), (by rw [e212]; exact rokR (t := 93) (by rw [hT216, va_up_ne _ _ (tne t244 t154 (by decide))]; exact t244) rfl)⟩
    · exact ⟨hM.2.2.2.2.2.2.1.io (t := 33) t154 (by decide) (by decide), (by rw [e213]; exact rokR (t := 94) (by rw [hT216, va_up_ne _ _ (tne t245 t154 (by decide))]; exact t245) rfl)⟩
    · exact ⟨hM.2.2.2.2.2.2.1.io (t := 33) t154 (by decide) (by decide), (by rw [e157]; exact rokR (t := 95) (by rw [hT216, va_up_ne _ _ (tne t151 t154 (by decide))]; exact t151) rfl)⟩
    · exact ⟨(by rw [e214]; exact (show (0 : Int) ≤ 0 ∧ (0 : Int) ≤ 1600 from by omega)), Or.inl rfl⟩
  have hM := hM.tag (t := 5) t154 (by decide) (by decide) rfl (by decide) hT216 hty246 (XI.tag0 hM.2.2.2.2.2.2.1 hM.2.2.2.2.2.2.2 t154 (by decide) hT216 (fun h h2 => by omega) (fun h => by omega) (fun h => by omega) (fun h => by omega) (fun h => by omega))
  replace hF : Fr mo_X1_init [a_this] T N I J R T215 N146 I40 J R155 := hF.tag hT216 (fun _ => List.mem_singleton.mpr rfl)
  have t247 : T215 a_this = 5 := by rw [hT216, va_up_self]
  have pq248 : I40 (R155 a_this 6 - 1) 2 = I40 b24 2 := by rw [e192, Nat.add_sub_cancel]
  refine g_vret B hM dX1_init_82 ⟨by show 0 + 1 + 1 + 1 + 1 + 1 + 1 + 1 + 1 ≤ 9; omega, by show 0 + 3 + 60 + 1600 + 1600 + 1600 + 1600 + 1600 + 1600 ≤ 9663; omega⟩ ?_
  rw [← hPST]
  exact ⟨rfl, hF, t247, by first | omega | assumption | exact trivial, by first | omega | assumption | exact trivial, by first | omega | assumption | exact trivial, by first | omega | assumption | exact trivial, by first | omega | assumption | exact trivial, by first | omega | assumption | exact trivial, by first | omega | assumption | exact trivial⟩

def mo_X5_init : List Nat := []
set_option maxHeartbeats 1000000 in
set_option maxRecDepth 20000 in
theorem k_X5_init (l : Launch) (D : va_G) (dA : Nat → ClassId) (eA : Nat) (L : List Nat) (T N : Nat → Nat) (I : Nat → Nat → Int) (J : Nat → Nat → Int64) (R : Nat → Nat → Nat) (a_this : Nat) (t_this : T a_this = 40) (a_kind : Nat) (t_kind : T a_kind = 11) (z_this : ∀ k, I a_this k = 0 ∧ J a_this k = 0 ∧ R a_this k = 0) : GC l yX5_init cX5_init 3 none ({ frames := 1, cells := 4, slots := 48, locals := 30 }) D dA eA L T N I J R [.ref a_this, .ref a_kind] 4 48 (gV (fun L' T' N' I' J' R' dz dl => J' = J ∧ Fr mo_X5_init [a_this] T N I J R T' N' I' J' R' ∧ T' a_this = 12 ∧ (dz ≤ 4 ∧ dl ≤ 48))) := by
  generalize hPST : (gV (fun L' T' N' I' J' R' dz dl => J' = J ∧ Fr mo_X5_init [a_this] T N I J R T' N' I' J' R' ∧ T' a_this = 12 ∧ (dz ≤ 4 ∧ dl ≤ 48))) = PST
  refine g_enter (own := RX5) (by decide) rfl (Nat.le_of_ble_eq_true rfl) (fun p e s m args below meth c ls hm B hX hM hl => ?_)
  have hC0 := hM.2.2.2.2.2.2.1
  have hW0 := hM.2.2.2
  have hF : Fr mo_X5_init [a_this] T N I J R T N I J R := Fr.rf
  have hA : ∀ q, s.heap.size ≤ q → cF dA L T N I J R s.heap.size q := fun q h => Or.inr h
  have hl : lv_has ls 3 [(0, .ref a_this), (1, .ref a_kind)] := hl
  have e1 : R a_this 0 = 0 := (z_this 0).2.2
  have e2 : I a_this 1 = 0 := (z_this 1).1
  have e3 : R a_this 2 = 0 := (z_this 2).2.2
  have e4 : R a_this 3 = 0 := (z_this 3).2.2
  have e5 : R a_this 4 = 0 := (z_this 4).2.2
  have e6 : R a_this 5 = 0 := (z_this 5).2.2
  refine lv_aload_n B.1 B.2.1 dX5_init_0 rfl (lv_at hl 0 rfl) ?_
  refine c_obj B ol_X5_3 hl.1 (Nat.le_of_ble_eq_true rfl) (Nat.le_of_ble_eq_true rfl) dX5_init_1 ?_
  refine lv_aload_n B.1 B.2.1 dX5_init_4 rfl (lv_at hl 0 rfl) ?_
  refine lv_aload_n B.1 B.2.1 dX5_init_5 rfl (lv_at hl 1 rfl) ?_
  refine c_putr (k := 0) (v := a_kind + 1) pk_X5 B hM t_this kd40 rfl (by decide) fl_X5_9 (Or.inr ⟨rfl, hm, rfl⟩) dX5_init_6 rfl rfl ⟨rfl, fun _ => rfl, rfl, fun _ => rfl⟩ (Or.inl rfl) (fun R7 H locs hu8 hM => ?_)
  have e9 : R7 a_this 0 = a_kind + 1 := w2_at hu8
  replace hF : Fr mo_X5_init [a_this] T N I J R T N I J R7 := hF.wr hu8 (fun _ h => absurd (List.mem_singleton.mpr rfl) h)
  refine lv_aload_n B.1 B.2.1 dX5_init_9 rfl (lv_at hl 1 rfl) ?_
  obtain ⟨b10, e11, t12⟩ := g11_3 hC0 t_kind
  have e13 : R7 a_kind 3 = b10 + 1 := (hF.r t_kind (by decide) (nm1 (tne t_kind t_this (by decide))) rfl).trans e11
  refine c_getn (k := 3) pk_X3 B hM t_kind kd11 rfl (by decide) fl_X5_15 dX5_init_10 e13 ?_
  have hv14 : (15 ≤ 19) ∧ (19 ≤ 23) := by first | omega | exact ⟨by first | omega | assumption | exact trivial, by first | omega | assumption | exact trivial⟩
  refine p_calli (c_runV (n := 0) (as := []) (rest := []) B hX hA hM hl.1 t12 kd19 rfl (k_Jx4a65c_size_8abf5 l D dA eA L T N I J R7 b10 t12 hv14.1 hv14.2 _ _) ml_X5_21 nm_Jx4a65c_size_8abf5 ⟨rfl, rfl⟩ ⟨Nat.le_of_ble_eq_true rfl, Nat.le_of_ble_eq_true rfl⟩ dX5_init_13 rfl rfl (Nat.le_of_ble_eq_true rfl) ⟨by show 0 + 0 ≤ 4; omega, by show 0 + 0 ≤ 48; omega⟩) (fun x16 ix16 hp15 => ?_)
  have hp15a := hp15
  replace hp15a : I b10 2 = x16 ∧ 0 ≤ x16 ∧ x16 ≤ 12 := hp15a
  obtain ⟨hp15a_0, hp15a_1, hp15a_2⟩ := hp15a
  refine lv_istore_n (lv' := [(2, .int (II x16)), (0, .ref a_this), (1, .ref a_kind)]) B.1 B.2.1 dX5_init_16 rfl hl (by decide) rfl (fun ls hl => ?_)
  refine lv_aload_n B.1 B.2.1 dX5_init_17 rfl (lv_at hl 1 rfl) ?_
  refine lv_iload_n B.1 B.2.1 dX5_init_18 rfl (lv_at hl 0 rfl) ?_
  have hMo := hM
  refine c_newa (t := 84) (atype := .int) (n' := x16.toNat) B hX.out hA hM kd84 aw84 rfl rfl (fun _ => va_RA_i) acc_int hav_int (by decide) (by omega) (show 0 ≤ x16.toNat ∧ x16.toNat ≤ 12 from by omega) (by show 0 + 1 ≤ 4; omega) (by show 0 + x16.toNat ≤ 48; omega) dX5_init_19 (fun b17 L18 T19 N20 H t21 hT22 hN23 hM => ?_)
  have t24 : T19 b17 = 84 := by rw [hT22, va_up_self]
  have n25 : N20 b17 = x16.toNat := by rw [hN23, va_up_self]
  replace hF : Fr mo_X5_init [a_this] T N I J R T19 N20 I J R7 := hF.new t21 hT22 hN23
  have zz26 := hMo.2.2.2.2.2.1 b17 t21
  clear hMo
  have t27 : T19 a_this = 40 := upT hT22 t21 t_this (by decide)
  refine c_putr (k := 2) (v := b17 + 1) pk_X5 B hM t27 kd40 rfl (by decide) fl_X5_27 (Or.inr ⟨rfl, hm, rfl⟩) dX5_init_21 rfl rfl ⟨rfl, fun _ => rfl, rfl, fun _ => rfl⟩ (Or.inl rfl) (fun R28 H locs hu29 hM => ?_)
  have e30 : R28 a_this 2 = b17 + 1 := w2_at hu29
  replace hF : Fr mo_X5_init [a_this] T N I J R T19 N20 I J R28 := hF.wr hu29 (fun _ h => absurd (List.mem_singleton.mpr rfl) h)
  refine lv_aload_n B.1 B.2.1 dX5_init_24 rfl (lv_at hl 1 rfl) ?_
  refine lv_iload_n B.1 B.2.1 dX5_init_25 rfl (lv_at hl 0 rfl) ?_
  have hMo := hM
  refine c_newa (t := 85) (atype := .boolean) (n' := x16.toNat) B hX.out hA hM kd85 aw85 rfl rfl (fun _ => va_RA_z) acc_boolean hav_boolean (by decide) (by omega) (show 0 ≤ x16.toNat ∧ x16.toNat ≤ 12 from by omega) (by show 0 + 1 + 1 ≤ 4; omega) (by show 0 + x16.toNat + x16.toNat ≤ 48; omega) dX5_init_26 (fun b31 L32 T33 N34 H t35 hT36 hN37 hM => ?_)
  have z38 : T b31 = 0 := T0_x hF t35 (nm1 (tne t35 t27 (by decide)))
  have t39 : T33 b31 = 85 := by rw [hT36, va_up_self]
  have n40 : N34 b31 = x16.toNat := by rw [hN37, va_up_self]
  replace hF : Fr mo_X5_init [a_this] T N I J R T33 N34 I J R28 := hF.new t35 hT36 hN37
  have zz41 := hMo.2.2.2.2.2.1 b31 t35
  clear hMo
  have t42 : T33 a_this = 40 := upT hT36 t35 t27 (by decide)
  refine c_putr (k := 3) (v := b31 + 1) pk_X5 B hM t42 kd40 rfl (by decide) fl_X5_31 (Or.inr ⟨rfl, hm, rfl⟩) dX5_init_28 rfl rfl ⟨rfl, fun _ => rfl, rfl, fun _ => rfl⟩ (Or.inl rfl) (fun R43 H locs hu44 hM => ?_)
  have e45 : R43 a_this 3 = b31 + 1 := w2_at hu44
  replace hF : Fr mo_X5_init [a_this] T N I J R T33 N34 I J R43 := hF.wr hu44 (fun _ h => absurd (List.mem_singleton.mpr rfl) h)
  refine lv_aload_n B.1 B.2.1 dX5_init_31 rfl (lv_at hl 1 rfl) ?_
  refine lv_iload_n B.1 B.2.1 dX5_init_32 rfl (lv_at hl 0 rfl) ?_
  have hMo := hM
  refine c_newA (t := 86) (n' := x16.toNat) B hX hA hM kd86 aw86 cl_X5_35 (by omega) (show 0 ≤ x16.toNat ∧ x16.toNat ≤ 12 from by omega) (by show 0 + 1 + 1 + 1 ≤ 4; omega) (by show 0 + x16.toNat + x16.toNat + x16.toNat ≤ 48; omega) dX5_init_33 (fun b46 L47 T48 N49 H t50 hT51 hN52 hM => ?_)
  have z53 : T b46 = 0 := T0_x hF t50 (nm1 (tne t50 t42 (by decide)))
  have t54 : T48 b46 = 86 := by rw [hT51, va_up_self]
  have n55 : N49 b46 = x16.toNat := by rw [hN52, va_up_self]
  replace hF : Fr mo_X5_init [a_this] T N I J R T48 N49 I J R43 := hF.new t50 hT51 hN52
  have zz56 := hMo.2.2.2.2.2.1 b46 t50
  clear hMo
  have t57 : T48 a_this = 40 := upT hT51 t50 t42 (by decide)
  refine c_putr (k := 4) (v := b46 + 1) pk_X5 B hM t57 kd40 rfl (by decide) fl_X5_36 (Or.inr ⟨rfl, hm, rfl⟩) dX5_init_36 rfl rfl ⟨rfl, fun _ => rfl, rfl, fun _ => rfl⟩ (Or.inl rfl) (fun R58 H locs hu59 hM => ?_)
  have e60 : R58 a_this 4 = b46 + 1 := w2_at hu59
  replace hF : Fr mo_X5_init [a_this] T N I J R T48 N49 I J R58 := hF.wr hu59 (fun _ h => absurd (List.mem_singleton.mpr rfl) h)
  refine lv_aload_n B.1 B.2.1 dX5_init_39 rfl (lv_at hl 1 rfl) ?_
  refine lv_iload_n B.1 B.2.1 dX5_init_40 rfl (lv_at hl 0 rfl) ?_
  have hMo := hM
  refine c_newa (t := 88) (atype := .int) (n' := x16.toNat) B hX.out hA hM kd88 aw88 rfl rfl (fun _ => va_RA_i) acc_int hav_int (by decide) (by omega) (show 0 ≤ x16.toNat ∧ x16.toNat ≤ 12 from by omega) (by show 0 + 1 + 1 + 1 + 1 ≤ 4; omega) (by show 0 + x16.toNat + x16.toNat + x16.toNat + x16.toNat ≤ 48; omega) dX5_init_41 (fun b61 L62 T63 N64 H t65 hT66 hN67 hM => ?_)
  have z68 : T b61 = 0 := T0_x hF t65 (nm1 (tne t65 t57 (by decide)))
  have t69 : T63 b61 = 88 := by rw [hT66, va_up_self]
  have n70 : N64 b61 = x16.toNat := by rw [hN67, va_up_self]
  replace hF : Fr mo_X5_init [a_this] T N I J R T63 N64 I J R58 := hF.new t65 hT66 hN67
  have zz71 := hMo.2.2.2.2.2.1 b61 t65
  clear hMo
  have t72 : T63 a_this = 40 := upT hT66 t65 t57 (by decide)
  refine c_putr (k := 5) (v := b61 + 1) pk_X5 B hM t72 kd40 rfl (by decide) fl_X5_40 (Or.inr ⟨rfl, hm, rfl⟩) dX5_init_43 rfl rfl ⟨rfl, fun _ => rfl, rfl, fun _ => rfl⟩ (Or.inl rfl) (fun R73 H locs hu74 hM => ?_)
  have e75 : R73 a_this 5 = b61 + 1 := w2_at hu74
  replace hF : Fr mo_X5_init [a_this] T N I J R T63 N64 I J R73 := hF.wr hu74 (fun _ h => absurd (List.mem_singleton.mpr rfl) h)
  have e76 : R28 a_this 0 = a_kind + 1 := (w2_ne hu29 (Or.inr (by decide))).trans e9
  have e77 : R43 a_this 0 = a_kind + 1 := (w2_ne hu44 (Or.inr (by decide))).trans e76
  have e78 : R58 a_this 0 = a_kind + 1 := (w2_ne hu59 (Or.inr (by decide))).trans e77
  have e79 : R73 a_this 0 = a_kind + 1 := (w2_ne hu74 (Or.inr (by decide))).trans e78
  have e80 : R43 a_this 2 = b17 + 1 := (w2_ne hu44 (Or.inr (by decide))).trans e30
  have e81 : R58 a_this 2 = b17 + 1 := (w2_ne hu59 (Or.inr (by decide))).trans e80
  have e82 : R73 a_this 2 = b17 + 1 := (w2_ne hu74 (Or.inr (by decide))).trans e81
  have e83 : R58 a_this 3 = b31 + 1 := (w2_ne hu59 (Or.inr (by decide))).trans e45
  have e84 : R73 a_this 3 = b31 + 1 := (w2_ne hu74 (Or.inr (by decide))).trans e83
  have e85 : R73 a_this 4 = b46 + 1 := (w2_ne hu74 (Or.inr (by decide))).trans e60
  have t88 : T63 a_kind = 11 := hF.tt t_kind (by decide) (nm1 (tne t_kind t_this (by decide)))
  have t89 : T33 b17 = 84 := upT hT36 t35 t24 (by decide)
  have t90 : T48 b17 = 84 := upT hT51 t50 t89 (by decide)
  have t91 : T63 b17 = 84 := upT hT66 t65 t90 (by decide)
  have t92 : T48 b31 = 85 := upT hT51 t50 t39 (by decide)
  have t93 : T63 b31 = 85 := upT hT66 t65 t92 (by decide)
  have t94 : T63 b46 = 86 := upT hT66 t65 t54 (by decide)
  obtain ⟨T86, hT87⟩ : ∃ X, X = va_up T63 a_this 12 := ⟨_, rfl⟩
  have hn9 : 6 ≤ N64 a_this ∧ N64 a_this ≤ 6 := hM.2.2.2.2.2.2.1.n t72 (by decide)
  have hty95 : TY T86 N64 I R73 a_this := by
    have h9 : T86 a_this = 12 := by rw [hT87, va_up_self]
    unfold TY; rw [h9]
    refine ⟨hn9.1, hn9.2, fun k hk => ?_⟩
    have hk9 : k = 0 ∨ k = 1 ∨ k = 2 ∨ k = 3 ∨ k = 4 ∨ k = 5 := by omega
    rcases hk9 with rfl | rfl | rfl | rfl | rfl | rfl
    · exact ⟨hM.2.2.2.2.2.2.1.io (t := 40) t72 (by decide) (by decide), (by rw [e79]; exact rokR (t := 11) (by rw [hT87, va_up_ne _ _ (tne t88 t72 (by decide))]; exact t88) rfl)⟩
    · exact ⟨hM.2.2.2.2.2.2.1.io (t := 40) t72 (by decide) (by decide), Or.inl rfl⟩
    · exact ⟨hM.2.2.2.2.2.2.1.io (t := 40) t72 (by decide) (by decide), (by rw [e82]; exact rokR (t := 84) (by rw [hT87, va_up_ne _ _ (tne t91 t72 (by decide))]; exact t91) rfl)⟩
    · exact ⟨hM.2.2.2.2.2.2.1.io (t := 40) t72 (by decide) (by decide), (by rw [e84]; exact rokR (t := 85) (by rw [hT87, va_up_ne _ _ (tne t93 t72 (by decide))]; exact t93) rfl)⟩
    · exact ⟨hM.2.2.2.2.2.2.1.io (t := 40) t72 (by decide) (by decide), (by rw [e85]; exact rokR (t := 86) (by rw [hT87, va_up_ne _ _ (tne t94 t72 (by decide))]; exact t94) rfl)⟩
    · exact ⟨hM.2.2.2.2.2.2.1.io (t := 40) t72 (by decide) (by decide), (by rw [e75]; exact rokR (t := 88) (by rw [hT87, va_up_ne _ _ (tne t69 t72 (by decide))]; exact t69) rfl)⟩
  have n96 : N34 b17 = x16.toNat := (upN hN37 t35 t24 (by decide)).trans n25
  have n97 : N49 b17 = x16.toNat := (upN hN52 t50 t89 (by decide)).trans n96
  have n98 : N64 b17 = x16.toNat := (upN hN67 t65 t90 (by decide)).trans n97
  have n99 : N49 b31 = x16.toNat := (upN hN52 t50 t39 (by decide)).trans n40
  have n100 : N64 b31 = x16.toNat := (upN hN67 t65 t92 (by decide)).trans n99
  have n101 : N64 b46 = x16.toNat := (upN hN67 t65 t54 (by decide)).trans n55
  have e102 : R73 a_kind 3 = b10 + 1 := (hF.r t_kind (by decide) (nm1 (tne t_kind t_this (by decide))) rfl).trans e11
  have hM := hM.tag (t := 12) t72 (by decide) (by decide) rfl (by decide) hT87 hty95 (XI.tag0 hM.2.2.2.2.2.2.1 hM.2.2.2.2.2.2.2 t72 (by decide) hT87 (fun h h2 => by omega) (fun _ => by rw [e79, e82, e84, e85, e75]; simp only [Nat.add_sub_cancel]; rw [e102]; simp only [Nat.add_sub_cancel]; rw [hp15a_0, n98, n100, n101, n70]; exact ⟨rfl, rfl, rfl, by omega⟩) (fun h => by omega) (fun h => by omega) (fun h => by omega))
  replace hF : Fr mo_X5_init [a_this] T N I J R T86 N64 I J R73 := hF.tag hT87 (fun _ => List.mem_singleton.mpr rfl)
  have t103 : T86 a_this = 12 := by rw [hT87, va_up_self]
  refine g_vret B hM dX5_init_46 ⟨by show 0 + 1 + 1 + 1 + 1 ≤ 4; omega, by show 0 + x16.toNat + x16.toNat + x16.toNat + x16.toNat ≤ 48; omega⟩ ?_
  rw [← hPST]
  exact ⟨rfl, rfl, hF, t103, by first | omega | assumption | exact trivial, by first | omega | assumption | exact trivial⟩
