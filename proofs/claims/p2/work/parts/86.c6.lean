def mo_X0_init : List Nat := []
set_option maxHeartbeats 1000000 in
set_option maxRecDepth 20000 in
theorem k_X0_init (l : Launch) (D : va_G) (dA : Nat → ClassId) (eA : Nat) (L : List Nat) (T N : Nat → Nat) (I : Nat → Nat → Int) (J : Nat → Nat → Int64) (R : Nat → Nat → Nat) (a_this : Nat) (t_this : T a_this = 34) (z_this : ∀ k, I a_this k = 0 ∧ J a_this k = 0 ∧ R a_this k = 0) : GC l yX0_init cX0_init 1 none ({ frames := 4, cells := 8, slots := 150, locals := 110 }) D dA eA L T N I J R [.ref a_this] 8 150 (gV (fun L' T' N' I' J' R' dz dl => Fr mo_X0_init [a_this] T N I J R T' N' I' J' R' ∧ T' a_this = 6 ∧ (dz ≤ 8 ∧ dl ≤ 150 ∧ I' (R' a_this 0 - 1) 2 = 0 ∧ I' (R' a_this 1 - 1) 2 = 0 ∧ I' (R' a_this 2 - 1) 2 = 0 ∧ I' (R' a_this 3 - 1) 2 = 0 ∧ I' a_this 5 = 0))) := by
  generalize hPST : (gV (fun L' T' N' I' J' R' dz dl => Fr mo_X0_init [a_this] T N I J R T' N' I' J' R' ∧ T' a_this = 6 ∧ (dz ≤ 8 ∧ dl ≤ 150 ∧ I' (R' a_this 0 - 1) 2 = 0 ∧ I' (R' a_this 1 - 1) 2 = 0 ∧ I' (R' a_this 2 - 1) 2 = 0 ∧ I' (R' a_this 3 - 1) 2 = 0 ∧ I' a_this 5 = 0))) = PST
  refine g_enter (own := RX0) (by decide) rfl (Nat.le_of_ble_eq_true rfl) (fun p e s m args below meth c ls hm B hX hM hl => ?_)
  have hC0 := hM.2.2.2.2.2.2.1
  have hW0 := hM.2.2.2
  have hF : Fr mo_X0_init [a_this] T N I J R T N I J R := Fr.rf
  have hA : ∀ q, s.heap.size ≤ q → cF dA L T N I J R s.heap.size q := fun q h => Or.inr h
  have hl : lv_has ls 1 [(0, .ref a_this)] := hl
  have e1 : R a_this 0 = 0 := (z_this 0).2.2
  have e2 : R a_this 1 = 0 := (z_this 1).2.2
  have e3 : R a_this 2 = 0 := (z_this 2).2.2
  have e4 : R a_this 3 = 0 := (z_this 3).2.2
  have e5 : R a_this 4 = 0 := (z_this 4).2.2
  have e6 : I a_this 5 = 0 := (z_this 5).1
  have e7 : I a_this 6 = 0 := (z_this 6).1
  have e8 : R a_this 7 = 0 := (z_this 7).2.2
  have e9 : R a_this 8 = 0 := (z_this 8).2.2
  have e10 : R a_this 9 = 0 := (z_this 9).2.2
  have e11 : R a_this 10 = 0 := (z_this 10).2.2
  have e12 : I a_this 11 = 0 := (z_this 11).1
  refine lv_aload_n B.1 B.2.1 dX0_init_0 rfl (lv_at hl 0 rfl) ?_
  refine c_obj B ol_X0_3 hl.1 (Nat.le_of_ble_eq_true rfl) (Nat.le_of_ble_eq_true rfl) dX0_init_1 ?_
  refine lv_aload_n B.1 B.2.1 dX0_init_4 rfl (lv_at hl 0 rfl) ?_
  have hMo := hM
  refine c_new (t := 43) pk_Jx4a65c B hX.out hA hM kd43 df_Jx4a65c rfl rfl (by decide) cl_X0_9 in_Jx4a65c ini_Jx4a65c (by show 0 + 1 ≤ 8; omega) (by show 0 + 3 ≤ 150; omega) dX0_init_5 (fun b13 L14 T15 N16 H t17 hT18 hN19 hM => ?_)
  have t20 : T15 b13 = 43 := by rw [hT18, va_up_self]
  have n21 : N16 b13 = 3 := by rw [hN19, va_up_self]
  replace hF : Fr mo_X0_init [a_this] T N I J R T15 N16 I J R := hF.new t17 hT18 hN19
  have zz22 := hMo.2.2.2.2.2.1 b13 t17
  clear hMo
  refine lv_dup B.1 B.2.1 dX0_init_8 rfl ?_
  have hv23 : (15 ≤ 15) ∧ (15 ≤ 23) := by first | omega | exact ⟨by first | omega | assumption | exact trivial, by first | omega | assumption | exact trivial⟩
  refine z_callv hM hA (c_runI (n := 0) (as := []) (rest := [.ref b13, .ref a_this]) B hX hA hM hl.1 (k_Jx4a65c_init_da8c8 l D dA eA L14 T15 N16 I J R b13 t20 zz22 15 hv23.1 hv23.2 _ _) ml_X0_11 nm_Jx4a65c_init_da8c8 ⟨rfl, rfl⟩ ⟨Nat.le_of_ble_eq_true rfl, Nat.le_of_ble_eq_true rfl⟩ dX0_init_9 rfl rfl (Nat.le_of_ble_eq_true rfl) ⟨by show 0 + 1 + 0 ≤ 8; omega, by show 0 + 3 + 0 ≤ 150; omega⟩) (fun L26 T27 N28 I29 J30 R31 dz32 dl33 H locs hp24 hMn => ?_)
  obtain ⟨yJ30, hFc34, hp24a⟩ := hp24
  obtain rfl := yJ30.symm
  have t35 : T15 a_this = 34 := upT hT18 t17 t_this (by decide)
  replace hF : Fr mo_X0_init [a_this] T N I J R T27 N28 I29 J R31 := hF.trans hFc34 (by decide) (e2x (fun h => absurd t17 h))
  have hM := hMn
  clear hMn
  obtain ⟨t36, hp24a⟩ := hp24a
  replace hp24a : I29 b13 2 = 0 ∧ N28 (R31 b13 1 - 1) = 0 := hp24a
  obtain ⟨hp24a_0, hp24a_1⟩ := hp24a
  have t37 : T27 a_this = 34 := hFc34.tt t35 (by decide) (nm1 (tne t35 t20 (by decide)))
  refine c_putr (k := 0) (v := b13 + 1) pk_X0 B hM t37 kd34 rfl (by decide) fl_X0_12 (Or.inr ⟨rfl, hm, rfl⟩) dX0_init_12 rfl rfl ⟨rfl, fun _ => rfl, rfl, fun _ => rfl⟩ (Or.inl rfl) (fun R38 H locs hu39 hM => ?_)
  have e40 : R38 a_this 0 = b13 + 1 := w2_at hu39
  replace hF : Fr mo_X0_init [a_this] T N I J R T27 N28 I29 J R38 := hF.wr hu39 (fun _ h => absurd (List.mem_singleton.mpr rfl) h)
  refine lv_aload_n B.1 B.2.1 dX0_init_15 rfl (lv_at hl 0 rfl) ?_
  have hMo := hM
  refine c_new (t := 43) pk_Jx4a65c B hX.out hA hM kd43 df_Jx4a65c rfl rfl (by decide) cl_X0_9 in_Jx4a65c ini_Jx4a65c (by show 0 + 1 + 1 ≤ 8; omega) (by show 0 + 3 + 3 ≤ 150; omega) dX0_init_16 (fun b41 L42 T43 N44 H t45 hT46 hN47 hM => ?_)
  have z48 : T b41 = 0 := T0_x hF t45 (nm1 (tne t45 t37 (by decide)))
  have t49 : T43 b41 = 43 := by rw [hT46, va_up_self]
  have n50 : N44 b41 = 3 := by rw [hN47, va_up_self]
  replace hF : Fr mo_X0_init [a_this] T N I J R T43 N44 I29 J R38 := hF.new t45 hT46 hN47
  have zz51 := hMo.2.2.2.2.2.1 b41 t45
  clear hMo
  refine lv_dup B.1 B.2.1 dX0_init_19 rfl ?_
  have hv52 : (15 ≤ 16) ∧ (16 ≤ 23) := by first | omega | exact ⟨by first | omega | assumption | exact trivial, by first | omega | assumption | exact trivial⟩
  refine z_callv hM hA (c_runI (n := 0) (as := []) (rest := [.ref b41, .ref a_this]) B hX hA hM hl.1 (k_Jx4a65c_init_da8c8 l D dA eA L42 T43 N44 I29 J R38 b41 t49 zz51 16 hv52.1 hv52.2 _ _) ml_X0_11 nm_Jx4a65c_init_da8c8 ⟨rfl, rfl⟩ ⟨Nat.le_of_ble_eq_true rfl, Nat.le_of_ble_eq_true rfl⟩ dX0_init_20 rfl rfl (Nat.le_of_ble_eq_true rfl) ⟨by show 0 + 1 + 1 + 0 ≤ 8; omega, by show 0 + 3 + 3 + 0 ≤ 150; omega⟩) (fun L55 T56 N57 I58 J59 R60 dz61 dl62 H locs hp53 hMn => ?_)
  obtain ⟨yJ59, hFc63, hp53a⟩ := hp53
  obtain rfl := yJ59.symm
  have t64 : T43 a_this = 34 := upT hT46 t45 t37 (by decide)
  have t65 : T43 b13 = 15 := upT hT46 t45 t36 (by decide)
  replace hF : Fr mo_X0_init [a_this] T N I J R T56 N57 I58 J R60 := hF.trans hFc63 (by decide) (e2x (fun h => absurd z48 h))
  have hM := hMn
  clear hMn
  obtain ⟨t66, hp53a⟩ := hp53a
  replace hp53a : I58 b41 2 = 0 ∧ N57 (R60 b41 1 - 1) = 0 := hp53a
  obtain ⟨hp53a_0, hp53a_1⟩ := hp53a
  have t67 : T56 a_this = 34 := hFc63.tt t64 (by decide) (nm1 (tne t64 t49 (by decide)))
  refine c_putr (k := 1) (v := b41 + 1) pk_X0 B hM t67 kd34 rfl (by decide) fl_X0_18 (Or.inr ⟨rfl, hm, rfl⟩) dX0_init_23 rfl rfl ⟨rfl, fun _ => rfl, rfl, fun _ => rfl⟩ (Or.inl rfl) (fun R68 H locs hu69 hM => ?_)
  have e70 : R68 a_this 1 = b41 + 1 := w2_at hu69
  replace hF : Fr mo_X0_init [a_this] T N I J R T56 N57 I58 J R68 := hF.wr hu69 (fun _ h => absurd (List.mem_singleton.mpr rfl) h)
  refine lv_aload_n B.1 B.2.1 dX0_init_26 rfl (lv_at hl 0 rfl) ?_
  have hMo := hM
  refine c_new (t := 43) pk_Jx4a65c B hX.out hA hM kd43 df_Jx4a65c rfl rfl (by decide) cl_X0_9 in_Jx4a65c ini_Jx4a65c (by show 0 + 1 + 1 + 1 ≤ 8; omega) (by show 0 + 3 + 3 + 3 ≤ 150; omega) dX0_init_27 (fun b71 L72 T73 N74 H t75 hT76 hN77 hM => ?_)
  have z78 : T b71 = 0 := T0_x hF t75 (nm1 (tne t75 t67 (by decide)))
  have t79 : T73 b71 = 43 := by rw [hT76, va_up_self]
  have n80 : N74 b71 = 3 := by rw [hN77, va_up_self]
  replace hF : Fr mo_X0_init [a_this] T N I J R T73 N74 I58 J R68 := hF.new t75 hT76 hN77
  have zz81 := hMo.2.2.2.2.2.1 b71 t75
  clear hMo
  refine lv_dup B.1 B.2.1 dX0_init_30 rfl ?_
  have hv82 : (15 ≤ 17) ∧ (17 ≤ 23) := by first | omega | exact ⟨by first | omega | assumption | exact trivial, by first | omega | assumption | exact trivial⟩
  refine z_callv hM hA (c_runI (n := 0) (as := []) (rest := [.ref b71, .ref a_this]) B hX hA hM hl.1 (k_Jx4a65c_init_da8c8 l D dA eA L72 T73 N74 I58 J R68 b71 t79 zz81 17 hv82.1 hv82.2 _ _) ml_X0_11 nm_Jx4a65c_init_da8c8 ⟨rfl, rfl⟩ ⟨Nat.le_of_ble_eq_true rfl, Nat.le_of_ble_eq_true rfl⟩ dX0_init_31 rfl rfl (Nat.le_of_ble_eq_true rfl) ⟨by show 0 + 1 + 1 + 1 + 0 ≤ 8; omega, by show 0 + 3 + 3 + 3 + 0 ≤ 150; omega⟩) (fun L85 T86 N87 I88 J89 R90 dz91 dl92 H locs hp83 hMn => ?_)
  obtain ⟨yJ89, hFc93, hp83a⟩ := hp83
  obtain rfl := yJ89.symm
  have t94 : T73 a_this = 34 := upT hT76 t75 t67 (by decide)
  have t95 : T56 b13 = 15 := hFc63.tt t65 (by decide) (nm1 (tne t65 t49 (by decide)))
  have t96 : T73 b13 = 15 := upT hT76 t75 t95 (by decide)
  have t97 : T73 b41 = 16 := upT hT76 t75 t66 (by decide)
  replace hF : Fr mo_X0_init [a_this] T N I J R T86 N87 I88 J R90 := hF.trans hFc93 (by decide) (e2x (fun h => absurd z78 h))
  have hM := hMn
  clear hMn
  obtain ⟨t98, hp83a⟩ := hp83a
  replace hp83a : I88 b71 2 = 0 ∧ N87 (R90 b71 1 - 1) = 0 := hp83a
  obtain ⟨hp83a_0, hp83a_1⟩ := hp83a
  have t99 : T86 a_this = 34 := hFc93.tt t94 (by decide) (nm1 (tne t94 t79 (by decide)))
  refine c_putr (k := 2) (v := b71 + 1) pk_X0 B hM t99 kd34 rfl (by decide) fl_X0_21 (Or.inr ⟨rfl, hm, rfl⟩) dX0_init_34 rfl rfl ⟨rfl, fun _ => rfl, rfl, fun _ => rfl⟩ (Or.inl rfl) (fun R100 H locs hu101 hM => ?_)
  have e102 : R100 a_this 2 = b71 + 1 := w2_at hu101
  replace hF : Fr mo_X0_init [a_this] T N I J R T86 N87 I88 J R100 := hF.wr hu101 (fun _ h => absurd (List.mem_singleton.mpr rfl) h)
  refine lv_aload_n B.1 B.2.1 dX0_init_37 rfl (lv_at hl 0 rfl) ?_
  have hMo := hM
  refine c_new (t := 43) pk_Jx4a65c B hX.out hA hM kd43 df_Jx4a65c rfl rfl (by decide) cl_X0_9 in_Jx4a65c ini_Jx4a65c (by show 0 + 1 + 1 + 1 + 1 ≤ 8; omega) (by show 0 + 3 + 3 + 3 + 3 ≤ 150; omega) dX0_init_38 (fun b103 L104 T105 N106 H t107 hT108 hN109 hM => ?_)
  have z110 : T b103 = 0 := T0_x hF t107 (nm1 (tne t107 t99 (by decide)))
  have t111 : T105 b103 = 43 := by rw [hT108, va_up_self]
  have n112 : N106 b103 = 3 := by rw [hN109, va_up_self]
  replace hF : Fr mo_X0_init [a_this] T N I J R T105 N106 I88 J R100 := hF.new t107 hT108 hN109
  have zz113 := hMo.2.2.2.2.2.1 b103 t107
  clear hMo
  refine lv_dup B.1 B.2.1 dX0_init_41 rfl ?_
  have hv114 : (15 ≤ 18) ∧ (18 ≤ 23) := by first | omega | exact ⟨by first | omega | assumption | exact trivial, by first | omega | assumption | exact trivial⟩
  refine z_callv hM hA (c_runI (n := 0) (as := []) (rest := [.ref b103, .ref a_this]) B hX hA hM hl.1 (k_Jx4a65c_init_da8c8 l D dA eA L104 T105 N106 I88 J R100 b103 t111 zz113 18 hv114.1 hv114.2 _ _) ml_X0_11 nm_Jx4a65c_init_da8c8 ⟨rfl, rfl⟩ ⟨Nat.le_of_ble_eq_true rfl, Nat.le_of_ble_eq_true rfl⟩ dX0_init_42 rfl rfl (Nat.le_of_ble_eq_true rfl) ⟨by show 0 + 1 + 1 + 1 + 1 + 0 ≤ 8; omega, by show 0 + 3 + 3 + 3 + 3 + 0 ≤ 150; omega⟩) (fun L117 T118 N119 I120 J121 R122 dz123 dl124 H locs hp115 hMn => ?_)
  obtain ⟨yJ121, hFc125, hp115a⟩ := hp115
  obtain rfl := yJ121.symm
  have t126 : T105 a_this = 34 := upT hT108 t107 t99 (by decide)
  have t127 : T86 b13 = 15 := hFc93.tt t96 (by decide) (nm1 (tne t96 t79 (by decide)))
  have t128 : T105 b13 = 15 := upT hT108 t107 t127 (by decide)
  have t129 : T86 b41 = 16 := hFc93.tt t97 (by decide) (nm1 (tne t97 t79 (by decide)))
  have t130 : T105 b41 = 16 := upT hT108 t107 t129 (by decide)
  have t131 : T105 b71 = 17 := upT hT108 t107 t98 (by decide)
  replace hF : Fr mo_X0_init [a_this] T N I J R T118 N119 I120 J R122 := hF.trans hFc125 (by decide) (e2x (fun h => absurd z110 h))
  have hM := hMn
  clear hMn
  obtain ⟨t132, hp115a⟩ := hp115a
  replace hp115a : I120 b103 2 = 0 ∧ N119 (R122 b103 1 - 1) = 0 := hp115a
  obtain ⟨hp115a_0, hp115a_1⟩ := hp115a
  have t133 : T118 a_this = 34 := hFc125.tt t126 (by decide) (nm1 (tne t126 t111 (by decide)))
  refine c_putr (k := 3) (v := b103 + 1) pk_X0 B hM t133 kd34 rfl (by decide) fl_X0_24 (Or.inr ⟨rfl, hm, rfl⟩) dX0_init_45 rfl rfl ⟨rfl, fun _ => rfl, rfl, fun _ => rfl⟩ (Or.inl rfl) (fun R134 H locs hu135 hM => ?_)
  have e136 : R134 a_this 3 = b103 + 1 := w2_at hu135
  replace hF : Fr mo_X0_init [a_this] T N I J R T118 N119 I120 J R134 := hF.wr hu135 (fun _ h => absurd (List.mem_singleton.mpr rfl) h)
  refine lv_aload_n B.1 B.2.1 dX0_init_48 rfl (lv_at hl 0 rfl) ?_
  refine q_bip B dX0_init_49 (by decide) ?_
  have hMo := hM
  refine c_newA (t := 68) (n' := 6) B hX hA hM kd68 aw68 cl_X0_27 (by omega) (show 6 ≤ 6 ∧ 6 ≤ 6 from by omega) (by show 0 + 1 + 1 + 1 + 1 + 1 ≤ 8; omega) (by show 0 + 3 + 3 + 3 + 3 + 6 ≤ 150; omega) dX0_init_51 (fun b137 L138 T139 N140 H t141 hT142 hN143 hM => ?_)
  have z144 : T b137 = 0 := T0_x hF t141 (nm1 (tne t141 t133 (by decide)))
  have t145 : T139 b137 = 68 := by rw [hT142, va_up_self]
  have n146 : N140 b137 = 6 := by rw [hN143, va_up_self]
  replace hF : Fr mo_X0_init [a_this] T N I J R T139 N140 I120 J R134 := hF.new t141 hT142 hN143
  have zz147 := hMo.2.2.2.2.2.1 b137 t141
  clear hMo
  have t148 : T139 a_this = 34 := upT hT142 t141 t133 (by decide)
  refine c_putr (k := 4) (v := b137 + 1) pk_X0 B hM t148 kd34 rfl (by decide) fl_X0_29 (Or.inr ⟨rfl, hm, rfl⟩) dX0_init_54 rfl rfl ⟨rfl, fun _ => rfl, rfl, fun _ => rfl⟩ (Or.inl rfl) (fun R149 H locs hu150 hM => ?_)
  have e151 : R149 a_this 4 = b137 + 1 := w2_at hu150
  replace hF : Fr mo_X0_init [a_this] T N I J R T139 N140 I120 J R149 := hF.wr hu150 (fun _ h => absurd (List.mem_singleton.mpr rfl) h)
  refine lv_aload_n B.1 B.2.1 dX0_init_57 rfl (lv_at hl 0 rfl) ?_
  refine q_bip B dX0_init_58 (by decide) ?_
  have hMo := hM
  refine c_newa (t := 70) (atype := .int) (n' := 8) B hX.out hA hM kd70 aw70 rfl rfl (fun _ => va_RA_i) acc_int hav_int (by decide) (by omega) (show 8 ≤ 8 ∧ 8 ≤ 8 from by omega) (by show 0 + 1 + 1 + 1 + 1 + 1 + 1 ≤ 8; omega) (by show 0 + 3 + 3 + 3 + 3 + 6 + 8 ≤ 150; omega) dX0_init_60 (fun b152 L153 T154 N155 H t156 hT157 hN158 hM => ?_)
  have z159 : T b152 = 0 := T0_x hF t156 (nm1 (tne t156 t148 (by decide)))
  have t160 : T154 b152 = 70 := by rw [hT157, va_up_self]
  have n161 : N155 b152 = 8 := by rw [hN158, va_up_self]
  replace hF : Fr mo_X0_init [a_this] T N I J R T154 N155 I120 J R149 := hF.new t156 hT157 hN158
  have zz162 := hMo.2.2.2.2.2.1 b152 t156
  clear hMo
  have t163 : T154 a_this = 34 := upT hT157 t156 t148 (by decide)
  refine c_putr (k := 8) (v := b152 + 1) pk_X0 B hM t163 kd34 rfl (by decide) fl_X0_33 (Or.inr ⟨rfl, hm, rfl⟩) dX0_init_62 rfl rfl ⟨rfl, fun _ => rfl, rfl, fun _ => rfl⟩ (Or.inl rfl) (fun R164 H locs hu165 hM => ?_)
  have e166 : R164 a_this 8 = b152 + 1 := w2_at hu165
  replace hF : Fr mo_X0_init [a_this] T N I J R T154 N155 I120 J R164 := hF.wr hu165 (fun _ h => absurd (List.mem_singleton.mpr rfl) h)
  refine lv_aload_n B.1 B.2.1 dX0_init_65 rfl (lv_at hl 0 rfl) ?_
  refine q_bip B dX0_init_66 (by decide) ?_
  have hMo := hM
  refine c_newa (t := 71) (atype := .long) (n' := 62) B hX.out hA hM kd71 aw71 rfl rfl (fun _ => va_RA_l) acc_long hav_long (by decide) (by omega) (show 62 ≤ 62 ∧ 62 ≤ 62 from by omega) (by show 0 + 1 + 1 + 1 + 1 + 1 + 1 + 1 ≤ 8; omega) (by show 0 + 3 + 3 + 3 + 3 + 6 + 8 + 62 ≤ 150; omega) dX0_init_68 (fun b167 L168 T169 N170 H t171 hT172 hN173 hM => ?_)
  have z174 : T b167 = 0 := T0_x hF t171 (nm1 (tne t171 t163 (by decide)))
  have t175 : T169 b167 = 71 := by rw [hT172, va_up_self]
  have n176 : N170 b167 = 62 := by rw [hN173, va_up_self]
  replace hF : Fr mo_X0_init [a_this] T N I J R T169 N170 I120 J R164 := hF.new t171 hT172 hN173
  have zz177 := hMo.2.2.2.2.2.1 b167 t171
  clear hMo
  have t178 : T169 a_this = 34 := upT hT172 t171 t163 (by decide)
  refine c_putr (k := 9) (v := b167 + 1) pk_X0 B hM t178 kd34 rfl (by decide) fl_X0_36 (Or.inr ⟨rfl, hm, rfl⟩) dX0_init_70 rfl rfl ⟨rfl, fun _ => rfl, rfl, fun _ => rfl⟩ (Or.inl rfl) (fun R179 H locs hu180 hM => ?_)
  have e181 : R179 a_this 9 = b167 + 1 := w2_at hu180
  replace hF : Fr mo_X0_init [a_this] T N I J R T169 N170 I120 J R179 := hF.wr hu180 (fun _ h => absurd (List.mem_singleton.mpr rfl) h)
  refine lv_aload_n B.1 B.2.1 dX0_init_73 rfl (lv_at hl 0 rfl) ?_
  refine q_bip B dX0_init_74 (by decide) ?_
  have hMo := hM
  refine c_newa (t := 72) (atype := .int) (n' := 62) B hX.out hA hM kd72 aw72 rfl rfl (fun _ => va_RA_i) acc_int hav_int (by decide) (by omega) (show 62 ≤ 62 ∧ 62 ≤ 62 from by omega) (by show 0 + 1 + 1 + 1 + 1 + 1 + 1 + 1 + 1 ≤ 8; omega) (by show 0 + 3 + 3 + 3 + 3 + 6 + 8 + 62 + 62 ≤ 150; omega) dX0_init_76 (fun b182 L183 T184 N185 H t186 hT187 hN188 hM => ?_)
  have z189 : T b182 = 0 := T0_x hF t186 (nm1 (tne t186 t178 (by decide)))
  have t190 : T184 b182 = 72 := by rw [hT187, va_up_self]
  have n191 : N185 b182 = 62 := by rw [hN188, va_up_self]
  replace hF : Fr mo_X0_init [a_this] T N I J R T184 N185 I120 J R179 := hF.new t186 hT187 hN188
  have zz192 := hMo.2.2.2.2.2.1 b182 t186
  clear hMo
  have t193 : T184 a_this = 34 := upT hT187 t186 t178 (by decide)
  refine c_putr (k := 10) (v := b182 + 1) pk_X0 B hM t193 kd34 rfl (by decide) fl_X0_40 (Or.inr ⟨rfl, hm, rfl⟩) dX0_init_78 rfl rfl ⟨rfl, fun _ => rfl, rfl, fun _ => rfl⟩ (Or.inl rfl) (fun R194 H locs hu195 hM => ?_)
  have e196 : R194 a_this 10 = b182 + 1 := w2_at hu195
  replace hF : Fr mo_X0_init [a_this] T N I J R T184 N185 I120 J R194 := hF.wr hu195 (fun _ h => absurd (List.mem_singleton.mpr rfl) h)
  refine lv_aload_n B.1 B.2.1 dX0_init_81 rfl (lv_at hl 0 rfl) ?_
  have e197 : R179 a_this 8 = b152 + 1 := (w2_ne hu180 (Or.inr (by decide))).trans e166
  have e198 : R194 a_this 8 = b152 + 1 := (w2_ne hu195 (Or.inr (by decide))).trans e197
  refine c_getn (k := 8) pk_X0 B hM t193 kd34 rfl (by decide) fl_X0_33 dX0_init_82 e198 ?_
  refine q_con B dX0_init_85 ?_
  refine q_con B dX0_init_86 ?_
  have t199 : T169 b152 = 70 := upT hT172 t171 t160 (by decide)
  have t200 : T184 b152 = 70 := upT hT187 t186 t199 (by decide)
  have n201 : 8 ≤ N185 b152 ∧ N185 b152 ≤ 8 := gn70 hM.2.2.2.2.2.2.1 t200
  refine c_ist B hM t200 kd70 aq70 dX0_init_87 (by omega) (by omega) (show (-2147483648 : Int) ≤ 1 from by omega) (show 1 ≤ (2147483647 : Int) from by omega) (fun I203 H locs hu202 hM => ?_)
  have e204 : I203 b152 ((0 : Int).toNat) = 1 := w2_at hu202
  replace hF : Fr mo_X0_init [a_this] T N I J R T184 N185 I203 J R194 := hF.wi hu202 (fun h _ => absurd z159 h)
  refine lv_aload_n B.1 B.2.1 dX0_init_88 rfl (lv_at hl 0 rfl) ?_
  refine q_con B dX0_init_89 ?_
  refine c_puti (k := 6) pk_X0 B hM t193 kd34 rfl (by decide) fl_X0_43 (Or.inl rfl) dX0_init_90 rfl rfl rfl (show (-2147483648 : Int) ≤ 1 from by omega) (show 1 ≤ (2147483647 : Int) from by omega) (fun I205 H locs hu206 hM => ?_)
  have e207 : I205 a_this 6 = 1 := w2_at hu206
  replace hF : Fr mo_X0_init [a_this] T N I J R T184 N185 I205 J R194 := hF.wi hu206 (fun _ h => absurd (List.mem_singleton.mpr rfl) h)
  refine lv_aload_n B.1 B.2.1 dX0_init_93 rfl (lv_at hl 0 rfl) ?_
  have e208 : R194 a_this 9 = b167 + 1 := (w2_ne hu195 (Or.inr (by decide))).trans e181
  refine c_getn (k := 9) pk_X0 B hM t193 kd34 rfl (by decide) fl_X0_36 dX0_init_94 e208 ?_
  refine q_con B dX0_init_97 ?_
  refine lv_ldc2 B.1 B.2.1 B.2.2.2.1 (B.2.2.2.2.1 _ lc_X0_47) dX0_init_98 ?_
  have t209 : T184 b167 = 71 := upT hT187 t186 t175 (by decide)
  have n210 : 62 ≤ N185 b167 ∧ N185 b167 ≤ 62 := gn71 hM.2.2.2.2.2.2.1 t209
  refine c_lst B hM t209 kd71 an71 dX0_init_101 (by omega) (by omega) (fun J212 H locs hu211 hM => ?_)
  have e213 : J212 b167 ((0 : Int).toNat) = (6384748 : Int64) := w2_at hu211
  replace hF : Fr mo_X0_init [a_this] T N I J R T184 N185 I205 J212 R194 := hF.wj hu211 (fun h _ => absurd z174 h)
  refine lv_aload_n B.1 B.2.1 dX0_init_102 rfl (lv_at hl 0 rfl) ?_
  refine c_getn (k := 10) pk_X0 B hM t193 kd34 rfl (by decide) fl_X0_40 dX0_init_103 e196 ?_
  refine q_con B dX0_init_106 ?_
  refine q_bip B dX0_init_107 (by decide) ?_
  refine c_ist B hM t190 kd72 aq72 dX0_init_109 (by omega) (by omega) (show (-2147483648 : Int) ≤ 100 from by omega) (show 100 ≤ (2147483647 : Int) from by omega) (fun I215 H locs hu214 hM => ?_)
  have e216 : I215 b182 ((0 : Int).toNat) = 100 := w2_at hu214
  replace hF : Fr mo_X0_init [a_this] T N I J R T184 N185 I215 J212 R194 := hF.wi hu214 (fun h _ => absurd z189 h)
  refine lv_aload_n B.1 B.2.1 dX0_init_110 rfl (lv_at hl 0 rfl) ?_
  refine q_con B dX0_init_111 ?_
  refine c_puti (k := 11) pk_X0 B hM t193 kd34 rfl (by decide) fl_X0_49 (Or.inl rfl) dX0_init_112 rfl rfl rfl (show (-2147483648 : Int) ≤ 1 from by omega) (show 1 ≤ (2147483647 : Int) from by omega) (fun I217 H locs hu218 hM => ?_)
  have e219 : I217 a_this 11 = 1 := w2_at hu218
  replace hF : Fr mo_X0_init [a_this] T N I J R T184 N185 I217 J212 R194 := hF.wi hu218 (fun _ h => absurd (List.mem_singleton.mpr rfl) h)
  have e220 : R60 a_this 0 = b13 + 1 := (hFc63.r t64 (by decide) (nm1 (tne t64 t49 (by decide))) rfl).trans e40
  have e221 : R68 a_this 0 = b13 + 1 := (w2_ne hu69 (Or.inr (by decide))).trans e220
  have e222 : R90 a_this 0 = b13 + 1 := (hFc93.r t94 (by decide) (nm1 (tne t94 t79 (by decide))) rfl).trans e221
  have e223 : R100 a_this 0 = b13 + 1 := (w2_ne hu101 (Or.inr (by decide))).trans e222
  have e224 : R122 a_this 0 = b13 + 1 := (hFc125.r t126 (by decide) (nm1 (tne t126 t111 (by decide))) rfl).trans e223
  have e225 : R134 a_this 0 = b13 + 1 := (w2_ne hu135 (Or.inr (by decide))).trans e224
  have e226 : R149 a_this 0 = b13 + 1 := (w2_ne hu150 (Or.inr (by decide))).trans e225
  have e227 : R164 a_this 0 = b13 + 1 := (w2_ne hu165 (Or.inr (by decide))).trans e226
  have e228 : R179 a_this 0 = b13 + 1 := (w2_ne hu180 (Or.inr (by decide))).trans e227
  have e229 : R194 a_this 0 = b13 + 1 := (w2_ne hu195 (Or.inr (by decide))).trans e228
  have e230 : R90 a_this 1 = b41 + 1 := (hFc93.r t94 (by decide) (nm1 (tne t94 t79 (by decide))) rfl).trans e70
  have e231 : R100 a_this 1 = b41 + 1 := (w2_ne hu101 (Or.inr (by decide))).trans e230
  have e232 : R122 a_this 1 = b41 + 1 := (hFc125.r t126 (by decide) (nm1 (tne t126 t111 (by decide))) rfl).trans e231
  have e233 : R134 a_this 1 = b41 + 1 := (w2_ne hu135 (Or.inr (by decide))).trans e232
  have e234 : R149 a_this 1 = b41 + 1 := (w2_ne hu150 (Or.inr (by decide))).trans e233
  have e235 : R164 a_this 1 = b41 + 1 := (w2_ne hu165 (Or.inr (by decide))).trans e234
  have e236 : R179 a_this 1 = b41 + 1 := (w2_ne hu180 (Or.inr (by decide))).trans e235
  have e237 : R194 a_this 1 = b41 + 1 := (w2_ne hu195 (Or.inr (by decide))).trans e236
  have e238 : R122 a_this 2 = b71 + 1 := (hFc125.r t126 (by decide) (nm1 (tne t126 t111 (by decide))) rfl).trans e102
  have e239 : R134 a_this 2 = b71 + 1 := (w2_ne hu135 (Or.inr (by decide))).trans e238
  have e240 : R149 a_this 2 = b71 + 1 := (w2_ne hu150 (Or.inr (by decide))).trans e239
  have e241 : R164 a_this 2 = b71 + 1 := (w2_ne hu165 (Or.inr (by decide))).trans e240
  have e242 : R179 a_this 2 = b71 + 1 := (w2_ne hu180 (Or.inr (by decide))).trans e241
  have e243 : R194 a_this 2 = b71 + 1 := (w2_ne hu195 (Or.inr (by decide))).trans e242
  have e244 : R149 a_this 3 = b103 + 1 := (w2_ne hu150 (Or.inr (by decide))).trans e136
  have e245 : R164 a_this 3 = b103 + 1 := (w2_ne hu165 (Or.inr (by decide))).trans e244
  have e246 : R179 a_this 3 = b103 + 1 := (w2_ne hu180 (Or.inr (by decide))).trans e245
  have e247 : R194 a_this 3 = b103 + 1 := (w2_ne hu195 (Or.inr (by decide))).trans e246
  have e248 : R164 a_this 4 = b137 + 1 := (w2_ne hu165 (Or.inr (by decide))).trans e151
  have e249 : R179 a_this 4 = b137 + 1 := (w2_ne hu180 (Or.inr (by decide))).trans e248
  have e250 : R194 a_this 4 = b137 + 1 := (w2_ne hu195 (Or.inr (by decide))).trans e249
  have e251 : I29 a_this 5 = 0 := (hFc34.i t35 (by decide) (nm1 (tne t35 t20 (by decide))) rfl).trans e6
  have e252 : I58 a_this 5 = 0 := (hFc63.i t64 (by decide) (nm1 (tne t64 t49 (by decide))) rfl).trans e251
  have e253 : I88 a_this 5 = 0 := (hFc93.i t94 (by decide) (nm1 (tne t94 t79 (by decide))) rfl).trans e252
  have e254 : I120 a_this 5 = 0 := (hFc125.i t126 (by decide) (nm1 (tne t126 t111 (by decide))) rfl).trans e253
  have e255 : I203 a_this 5 = 0 := (w2_ne hu202 (Or.inl (tne t193 t200 (by decide)))).trans e254
  have e256 : I205 a_this 5 = 0 := (w2_ne hu206 (Or.inr (by decide))).trans e255
  have e257 : I215 a_this 5 = 0 := (w2_ne hu214 (Or.inl (tne t193 t190 (by decide)))).trans e256
  have e258 : I217 a_this 5 = 0 := (w2_ne hu218 (Or.inr (by decide))).trans e257
  have e259 : I215 a_this 6 = 1 := (w2_ne hu214 (Or.inl (tne t193 t190 (by decide)))).trans e207
  have e260 : I217 a_this 6 = 1 := (w2_ne hu218 (Or.inr (by decide))).trans e259
  have e261 : R31 a_this 7 = 0 := (hFc34.r t35 (by decide) (nm1 (tne t35 t20 (by decide))) rfl).trans e8
  have e262 : R38 a_this 7 = 0 := (w2_ne hu39 (Or.inr (by decide))).trans e261
  have e263 : R60 a_this 7 = 0 := (hFc63.r t64 (by decide) (nm1 (tne t64 t49 (by decide))) rfl).trans e262
  have e264 : R68 a_this 7 = 0 := (w2_ne hu69 (Or.inr (by decide))).trans e263
  have e265 : R90 a_this 7 = 0 := (hFc93.r t94 (by decide) (nm1 (tne t94 t79 (by decide))) rfl).trans e264
  have e266 : R100 a_this 7 = 0 := (w2_ne hu101 (Or.inr (by decide))).trans e265
  have e267 : R122 a_this 7 = 0 := (hFc125.r t126 (by decide) (nm1 (tne t126 t111 (by decide))) rfl).trans e266
  have e268 : R134 a_this 7 = 0 := (w2_ne hu135 (Or.inr (by decide))).trans e267
  have e269 : R149 a_this 7 = 0 := (w2_ne hu150 (Or.inr (by decide))).trans e268
  have e270 : R164 a_this 7 = 0 := (w2_ne hu165 (Or.inr (by decide))).trans e269
  have e271 : R179 a_this 7 = 0 := (w2_ne hu180 (Or.inr (by decide))).trans e270
  have e272 : R194 a_this 7 = 0 := (w2_ne hu195 (Or.inr (by decide))).trans e271
  have t275 : T118 b13 = 15 := hFc125.tt t128 (by decide) (nm1 (tne t128 t111 (by decide)))
  have t276 : T139 b13 = 15 := upT hT142 t141 t275 (by decide)
  have t277 : T154 b13 = 15 := upT hT157 t156 t276 (by decide)
  have t278 : T169 b13 = 15 := upT hT172 t171 t277 (by decide)
  have t279 : T184 b13 = 15 := upT hT187 t186 t278 (by decide)
  have t280 : T118 b41 = 16 := hFc125.tt t130 (by decide) (nm1 (tne t130 t111 (by decide)))
  have t281 : T139 b41 = 16 := upT hT142 t141 t280 (by decide)
  have t282 : T154 b41 = 16 := upT hT157 t156 t281 (by decide)
  have t283 : T169 b41 = 16 := upT hT172 t171 t282 (by decide)
  have t284 : T184 b41 = 16 := upT hT187 t186 t283 (by decide)
  have t285 : T118 b71 = 17 := hFc125.tt t131 (by decide) (nm1 (tne t131 t111 (by decide)))
  have t286 : T139 b71 = 17 := upT hT142 t141 t285 (by decide)
  have t287 : T154 b71 = 17 := upT hT157 t156 t286 (by decide)
  have t288 : T169 b71 = 17 := upT hT172 t171 t287 (by decide)
  have t289 : T184 b71 = 17 := upT hT187 t186 t288 (by decide)
  have t290 : T139 b103 = 18 := upT hT142 t141 t132 (by decide)
  have t291 : T154 b103 = 18 := upT hT157 t156 t290 (by decide)
  have t292 : T169 b103 = 18 := upT hT172 t171 t291 (by decide)
  have t293 : T184 b103 = 18 := upT hT187 t186 t292 (by decide)
  have t294 : T154 b137 = 68 := upT hT157 t156 t145 (by decide)
  have t295 : T169 b137 = 68 := upT hT172 t171 t294 (by decide)
  have t296 : T184 b137 = 68 := upT hT187 t186 t295 (by decide)
  obtain ⟨T273, hT274⟩ : ∃ X, X = va_up T184 a_this 6 := ⟨_, rfl⟩
  have hn9 : 12 ≤ N185 a_this ∧ N185 a_this ≤ 12 := hM.2.2.2.2.2.2.1.n t193 (by decide)
  have hty297 : TY T273 N185 I217 R194 a_this := by
    have h9 : T273 a_this = 6 := by rw [hT274, va_up_self]
    unfold TY; rw [h9]
    refine ⟨hn9.1, hn9.2, fun k hk => ?_⟩
    have hk9 : k = 0 ∨ k = 1 ∨ k = 2 ∨ k = 3 ∨ k = 4 ∨ k = 5 ∨ k = 6 ∨ k = 7 ∨ k = 8 ∨ k = 9 ∨ k = 10 ∨ k = 11 := by omega
    rcases hk9 with rfl | rfl | rfl | rfl | rfl | rfl | rfl | rfl | rfl | rfl | rfl | rfl
    · exact ⟨hM.2.2.2.2.2.2.1.io (t := 34) t193 (by decide) (by decide), (by rw [e229]; exact rokR (t := 15) (by rw [hT274, va_up_ne _ _ (tne t279 t193 (by decide))]; exact t279) rfl)⟩
    · exact ⟨hM.2.2.2.2.2.2.1.io (t := 34) t193 (by decide) (by decide), (by rw [e237]; exact rokR (t := 16) (by rw [hT274, va_up_ne _ _ (tne t284 t193 (by decide))]; exact t284) rfl)⟩
    · exact ⟨hM.2.2.2.2.2.2.1.io (t := 34) t193 (by decide) (by decide), (by rw [e243]; exact rokR (t := 17) (by rw [hT274, va_up_ne _ _ (tne t289 t193 (by decide))]; exact t289) rfl)⟩
    · exact ⟨hM.2.2.2.2.2.2.1.io (t := 34) t193 (by decide) (by decide), (by rw [e247]; exact rokR (t := 18) (by rw [hT274, va_up_ne _ _ (tne t293 t193 (by decide))]; exact t293) rfl)⟩
    · exact ⟨hM.2.2.2.2.2.2.1.io (t := 34) t193 (by decide) (by decide), (by rw [e250]; exact rokR (t := 68) (by rw [hT274, va_up_ne _ _ (tne t296 t193 (by decide))]; exact t296) rfl)⟩
    · exact ⟨(by rw [e258]; exact (show (0 : Int) ≤ 0 ∧ (0 : Int) ≤ 6 from by omega)), Or.inl rfl⟩
    · exact ⟨(by rw [e260]; exact (show (1 : Int) ≤ 1 ∧ (1 : Int) ≤ 8 from by omega)), Or.inl rfl⟩
    · exact ⟨hM.2.2.2.2.2.2.1.io (t := 34) t193 (by decide) (by decide), (by rw [e272]; exact Or.inr (Or.inl ⟨rfl, rfl⟩))⟩
    · exact ⟨hM.2.2.2.2.2.2.1.io (t := 34) t193 (by decide) (by decide), (by rw [e198]; exact rokR (t := 70) (by rw [hT274, va_up_ne _ _ (tne t200 t193 (by decide))]; exact t200) rfl)⟩
    · exact ⟨hM.2.2.2.2.2.2.1.io (t := 34) t193 (by decide) (by decide), (by rw [e208]; exact rokR (t := 71) (by rw [hT274, va_up_ne _ _ (tne t209 t193 (by decide))]; exact t209) rfl)⟩
    · exact ⟨hM.2.2.2.2.2.2.1.io (t := 34) t193 (by decide) (by decide), (by rw [e196]; exact rokR (t := 72) (by rw [hT274, va_up_ne _ _ (tne t190 t193 (by decide))]; exact t190) rfl)⟩
    · exact ⟨(by rw [e219]; exact (show (0 : Int) ≤ 1 ∧ (1 : Int) ≤ 62 from by omega)), Or.inl rfl⟩
  have hM := hM.tag (t := 6) t193 (by decide) (by decide) rfl (by decide) hT274 hty297 (XI.tag0 hM.2.2.2.2.2.2.1 hM.2.2.2.2.2.2.2 t193 (by decide) hT274 (fun h h2 => by omega) (fun h => by omega) (fun h => by omega) (fun h => by omega) (fun h => by omega))
  replace hF : Fr mo_X0_init [a_this] T N I J R T273 N185 I217 J212 R194 := hF.tag hT274 (fun _ => List.mem_singleton.mpr rfl)
  have t298 : T273 a_this = 6 := by rw [hT274, va_up_self]
  have pq299 : I217 (R194 a_this 0 - 1) 2 = I217 b13 2 := by rw [e229, Nat.add_sub_cancel]
  have e300 : I58 b13 2 = 0 := (hFc63.i t65 (by decide) (nm1 (tne t65 t49 (by decide))) rfl).trans hp24a_0
  have e301 : I88 b13 2 = 0 := (hFc93.i t96 (by decide) (nm1 (tne t96 t79 (by decide))) rfl).trans e300
  have e302 : I120 b13 2 = 0 := (hFc125.i t128 (by decide) (nm1 (tne t128 t111 (by decide))) rfl).trans e301
  have e303 : I203 b13 2 = 0 := (w2_ne hu202 (Or.inl (tne t279 t200 (by decide)))).trans e302
  have t304 : T273 b13 = 15 := by rw [hT274, va_up_ne _ _ (tne t279 t193 (by decide))]; exact t279
  have e305 : I205 b13 2 = 0 := (w2_ne hu206 (Or.inl (tne t304 t298 (by decide)))).trans e303
  have e306 : I215 b13 2 = 0 := (w2_ne hu214 (Or.inl (tne t279 t190 (by decide)))).trans e305
  have e307 : I217 b13 2 = 0 := (w2_ne hu218 (Or.inl (tne t304 t298 (by decide)))).trans e306
  have pq308 : I217 (R194 a_this 1 - 1) 2 = I217 b41 2 := by rw [e237, Nat.add_sub_cancel]
  have e309 : I88 b41 2 = 0 := (hFc93.i t97 (by decide) (nm1 (tne t97 t79 (by decide))) rfl).trans hp53a_0
  have e310 : I120 b41 2 = 0 := (hFc125.i t130 (by decide) (nm1 (tne t130 t111 (by decide))) rfl).trans e309
  have e311 : I203 b41 2 = 0 := (w2_ne hu202 (Or.inl (tne t284 t200 (by decide)))).trans e310
  have t312 : T273 b41 = 16 := by rw [hT274, va_up_ne _ _ (tne t284 t193 (by decide))]; exact t284
  have e313 : I205 b41 2 = 0 := (w2_ne hu206 (Or.inl (tne t312 t298 (by decide)))).trans e311
  have e314 : I215 b41 2 = 0 := (w2_ne hu214 (Or.inl (tne t284 t190 (by decide)))).trans e313
  have e315 : I217 b41 2 = 0 := (w2_ne hu218 (Or.inl (tne t312 t298 (by decide)))).trans e314
  have pq316 : I217 (R194 a_this 2 - 1) 2 = I217 b71 2 := by rw [e243, Nat.add_sub_cancel]
  have e317 : I120 b71 2 = 0 := (hFc125.i t131 (by decide) (nm1 (tne t131 t111 (by decide))) rfl).trans hp83a_0
  have e318 : I203 b71 2 = 0 := (w2_ne hu202 (Or.inl (tne t289 t200 (by decide)))).trans e317
  have t319 : T273 b71 = 17 := by rw [hT274, va_up_ne _ _ (tne t289 t193 (by decide))]; exact t289
  have e320 : I205 b71 2 = 0 := (w2_ne hu206 (Or.inl (tne t319 t298 (by decide)))).trans e318
  have e321 : I215 b71 2 = 0 := (w2_ne hu214 (Or.inl (tne t289 t190 (by decide)))).trans e320
  have e322 : I217 b71 2 = 0 := (w2_ne hu218 (Or.inl (tne t319 t298 (by decide)))).trans e321
  have pq323 : I217 (R194 a_this 3 - 1) 2 = I217 b103 2 := by rw [e247, Nat.add_sub_cancel]
  have e324 : I203 b103 2 = 0 := (w2_ne hu202 (Or.inl (tne t293 t200 (by decide)))).trans hp115a_0
  have t325 : T273 b103 = 18 := by rw [hT274, va_up_ne _ _ (tne t293 t193 (by decide))]; exact t293
  have e326 : I205 b103 2 = 0 := (w2_ne hu206 (Or.inl (tne t325 t298 (by decide)))).trans e324
  have e327 : I215 b103 2 = 0 := (w2_ne hu214 (Or.inl (tne t293 t190 (by decide)))).trans e326
  have e328 : I217 b103 2 = 0 := (w2_ne hu218 (Or.inl (tne t325 t298 (by decide)))).trans e327
  refine g_vret B hM dX0_init_115 ⟨by show 0 + 1 + 1 + 1 + 1 + 1 + 1 + 1 + 1 ≤ 8; omega, by show 0 + 3 + 3 + 3 + 3 + 6 + 8 + 62 + 62 ≤ 150; omega⟩ ?_
  rw [← hPST]
  exact ⟨rfl, hF, t298, by first | omega | assumption | exact trivial, by first | omega | assumption | exact trivial, by first | omega | assumption | exact trivial, by first | omega | assumption | exact trivial, by first | omega | assumption | exact trivial, by first | omega | assumption | exact trivial, by first | omega | assumption | exact trivial⟩

def mo_X1_init : List Nat := []
set_option maxHeartbeats 1000000 in
set_option maxRecDepth 20000 in
theorem k_X1_init (l : Launch) (D : va_G) (dA : Nat → ClassId) (eA : Nat) (L : List Nat) (T N : Nat → Nat) (I : Nat → Nat → Int) (J : Nat → Nat → Int64) (R : Nat → Nat → Nat) (a_this : Nat) (t_this : T a_this = 33) (a_papers : Nat) (t_papers : T a_papers = 22) (z_this : ∀ k, I a_this k = 0 ∧ J a_this k = 0 ∧ R a_this k = 0) : GC l yX1_init cX1_init 2 none ({ frames := 4, cells := 9, slots := 9663, locals := 110 }) D dA eA L T N I J R [.ref a_this, .ref a_papers] 9 9663 (gV (fun L' T' N' I' J' R' dz dl => Fr mo_X1_init [a_this] T N I J R T' N' I' J' R' ∧ T' a_this = 5 ∧ (dz ≤ 9 ∧ dl ≤ 9663 ∧ I' (R' a_this 6 - 1) 2 = 0 ∧ R' a_this 5 = a_papers + 1 ∧ I' a_this 0 = 0 ∧ I' a_this 9 = 0 ∧ I' a_this 19 = 0))) := by
  generalize hPST : (gV (fun L' T' N' I' J' R' dz dl => Fr mo_X1_init [a_this] T N I J R T' N' I' J' R' ∧ T' a_this = 5 ∧ (dz ≤ 9 ∧ dl ≤ 9663 ∧ I' (R' a_this 6 - 1) 2 = 0 ∧ R' a_this 5 = a_papers + 1 ∧ I' a_this 0 = 0 ∧ I' a_this 9 = 0 ∧ I' a_this 19 = 0))) = PST
  refine g_enter (own := RX1) (by decide) rfl (Nat.le_of_ble_eq_true rfl) (fun p e s m args below meth c ls hm B hX hM hl => ?_)
  have hC0 := hM.2.2.2.2.2.2.1
  have hW0 := hM.2.2.2
  have hF : Fr mo_X1_init [a_this] T N I J R T N I J R := Fr.rf
  have hA : ∀ q, s.heap.size ≤ q → cF dA L T N I J R s.heap.size q := fun q h => Or.inr h
  have hl : lv_has ls 2 [(0, .ref a_this), (1, .ref a_papers)] := hl
  have e1 : I a_this 0 = 0 := (z_this 0).1
  have e2 : I a_this 1 = 0 := (z_this 1).1
  have e3 : R a_this 2 = 0 := (z_this 2).2.2
  have e4 : I a_this 3 = 0 := (z_this 3).1
  have e5 : R a_this 4 = 0 := (z_this 4).2.2
  have e6 : R a_this 5 = 0 := (z_this 5).2.2
  have e7 : R a_this 6 = 0 := (z_this 6).2.2
  have e8 : I a_this 7 = 0 := (z_this 7).1
  have e9 : I a_this 8 = 0 := (z_this 8).1
  have e10 : I a_this 9 = 0 := (z_this 9).1
  have e11 : I a_this 10 = 0 := (z_this 10).1
  have e12 : I a_this 11 = 0 := (z_this 11).1
  have e13 : I a_this 12 = 0 := (z_this 12).1
  have e14 : R a_this 13 = 0 := (z_this 13).2.2
  have e15 : R a_this 14 = 0 := (z_this 14).2.2
  have e16 : R a_this 15 = 0 := (z_this 15).2.2
  have e17 : R a_this 16 = 0 := (z_this 16).2.2
  have e18 : R a_this 17 = 0 := (z_this 17).2.2
  have e19 : R a_this 18 = 0 := (z_this 18).2.2
  have e20 : I a_this 19 = 0 := (z_this 19).1
  refine lv_aload_n B.1 B.2.1 dX1_init_0 rfl (lv_at hl 0 rfl) ?_
  refine c_obj B ol_X1_3 hl.1 (Nat.le_of_ble_eq_true rfl) (Nat.le_of_ble_eq_true rfl) dX1_init_1 ?_
  refine lv_aload_n B.1 B.2.1 dX1_init_4 rfl (lv_at hl 0 rfl) ?_
  refine lv_aload_n B.1 B.2.1 dX1_init_5 rfl (lv_at hl 1 rfl) ?_
  refine c_putr (k := 5) (v := a_papers + 1) pk_X1 B hM t_this kd33 rfl (by decide) fl_X1_9 (Or.inr ⟨rfl, hm, rfl⟩) dX1_init_6 rfl rfl ⟨rfl, fun _ => rfl, rfl, fun _ => rfl⟩ (Or.inl rfl) (fun R21 H locs hu22 hM => ?_)
  have e23 : R21 a_this 5 = a_papers + 1 := w2_at hu22
  replace hF : Fr mo_X1_init [a_this] T N I J R T N I J R21 := hF.wr hu22 (fun _ h => absurd (List.mem_singleton.mpr rfl) h)
  refine lv_aload_n B.1 B.2.1 dX1_init_9 rfl (lv_at hl 0 rfl) ?_
  have hMo := hM
  refine c_new (t := 43) pk_Jx4a65c B hX.out hA hM kd43 df_Jx4a65c rfl rfl (by decide) cl_X1_15 in_Jx4a65c ini_Jx4a65c (by show 0 + 1 ≤ 9; omega) (by show 0 + 3 ≤ 9663; omega) dX1_init_10 (fun b24 L25 T26 N27 H t28 hT29 hN30 hM => ?_)
  have t31 : T26 b24 = 43 := by rw [hT29, va_up_self]
  have n32 : N27 b24 = 3 := by rw [hN30, va_up_self]
  replace hF : Fr mo_X1_init [a_this] T N I J R T26 N27 I J R21 := hF.new t28 hT29 hN30
  have zz33 := hMo.2.2.2.2.2.1 b24 t28
  clear hMo
  refine lv_dup B.1 B.2.1 dX1_init_13 rfl ?_
  have hv34 : (15 ≤ 23) ∧ (23 ≤ 23) := by first | omega | exact ⟨by first | omega | assumption | exact trivial, by first | omega | assumption | exact trivial⟩
  refine z_callv hM hA (c_runI (n := 0) (as := []) (rest := [.ref b24, .ref a_this]) B hX hA hM hl.1 (k_Jx4a65c_init_da8c8 l D dA eA L25 T26 N27 I J R21 b24 t31 zz33 23 hv34.1 hv34.2 _ _) ml_X1_17 nm_Jx4a65c_init_da8c8 ⟨rfl, rfl⟩ ⟨Nat.le_of_ble_eq_true rfl, Nat.le_of_ble_eq_true rfl⟩ dX1_init_14 rfl rfl (Nat.le_of_ble_eq_true rfl) ⟨by show 0 + 1 + 0 ≤ 9; omega, by show 0 + 3 + 0 ≤ 9663; omega⟩) (fun L37 T38 N39 I40 J41 R42 dz43 dl44 H locs hp35 hMn => ?_)
  obtain ⟨yJ41, hFc45, hp35a⟩ := hp35
  obtain rfl := yJ41.symm
  have t46 : T26 a_this = 33 := upT hT29 t28 t_this (by decide)
  have t47 : T26 a_papers = 22 := hF.tt t_papers (by decide) (nm1 (tne t_papers t_this (by decide)))
  replace hF : Fr mo_X1_init [a_this] T N I J R T38 N39 I40 J R42 := hF.trans hFc45 (by decide) (e2x (fun h => absurd t28 h))
  have hM := hMn
  clear hMn
  obtain ⟨t48, hp35a⟩ := hp35a
  replace hp35a : I40 b24 2 = 0 ∧ N39 (R42 b24 1 - 1) = 0 := hp35a
  obtain ⟨hp35a_0, hp35a_1⟩ := hp35a
  have t49 : T38 a_this = 33 := hFc45.tt t46 (by decide) (nm1 (tne t46 t31 (by decide)))
  refine c_putr (k := 6) (v := b24 + 1) pk_X1 B hM t49 kd33 rfl (by decide) fl_X1_18 (Or.inr ⟨rfl, hm, rfl⟩) dX1_init_17 rfl rfl ⟨rfl, fun _ => rfl, rfl, fun _ => rfl⟩ (Or.inl rfl) (fun R50 H locs hu51 hM => ?_)
  have e52 : R50 a_this 6 = b24 + 1 := w2_at hu51
  replace hF : Fr mo_X1_init [a_this] T N I J R T38 N39 I40 J R50 := hF.wr hu51 (fun _ h => absurd (List.mem_singleton.mpr rfl) h)
  refine lv_aload_n B.1 B.2.1 dX1_init_20 rfl (lv_at hl 0 rfl) ?_
  refine q_bip B dX1_init_21 (by decide) ?_
  have hMo := hM
  refine c_newa (t := 89) (atype := .int) (n' := 60) B hX.out hA hM kd89 aw89 rfl rfl (fun _ => va_RA_i) acc_int hav_int (by decide) (by omega) (show 60 ≤ 60 ∧ 60 ≤ 60 from by omega) (by show 0 + 1 + 1 ≤ 9; omega) (by show 0 + 3 + 60 ≤ 9663; omega) dX1_init_23 (fun b53 L54 T55 N56 H t57 hT58 hN59 hM => ?_)
  have z60 : T b53 = 0 := T0_x hF t57 (nm1 (tne t57 t49 (by decide)))
  have t61 : T55 b53 = 89 := by rw [hT58, va_up_self]
  have n62 : N56 b53 = 60 := by rw [hN59, va_up_self]
  replace hF : Fr mo_X1_init [a_this] T N I J R T55 N56 I40 J R50 := hF.new t57 hT58 hN59
  have zz63 := hMo.2.2.2.2.2.1 b53 t57
  clear hMo
  have t64 : T55 a_this = 33 := upT hT58 t57 t49 (by decide)
  refine c_putr (k := 2) (v := b53 + 1) pk_X1 B hM t64 kd33 rfl (by decide) fl_X1_21 (Or.inr ⟨rfl, hm, rfl⟩) dX1_init_25 rfl rfl ⟨rfl, fun _ => rfl, rfl, fun _ => rfl⟩ (Or.inl rfl) (fun R65 H locs hu66 hM => ?_)
  have e67 : R65 a_this 2 = b53 + 1 := w2_at hu66
  replace hF : Fr mo_X1_init [a_this] T N I J R T55 N56 I40 J R65 := hF.wr hu66 (fun _ h => absurd (List.mem_singleton.mpr rfl) h)
  refine lv_aload_n B.1 B.2.1 dX1_init_28 rfl (lv_at hl 0 rfl) ?_
  refine q_sip B dX1_init_29 (by decide) ?_
  have hMo := hM
  refine c_newa (t := 90) (atype := .int) (n' := 1600) B hX.out hA hM kd90 aw90 rfl rfl (fun _ => va_RA_i) acc_int hav_int (by decide) (by omega) (show 1600 ≤ 1600 ∧ 1600 ≤ 1600 from by omega) (by show 0 + 1 + 1 + 1 ≤ 9; omega) (by show 0 + 3 + 60 + 1600 ≤ 9663; omega) dX1_init_32 (fun b68 L69 T70 N71 H t72 hT73 hN74 hM => ?_)
  have z75 : T b68 = 0 := T0_x hF t72 (nm1 (tne t72 t64 (by decide)))
  have t76 : T70 b68 = 90 := by rw [hT73, va_up_self]
  have n77 : N71 b68 = 1600 := by rw [hN74, va_up_self]
  replace hF : Fr mo_X1_init [a_this] T N I J R T70 N71 I40 J R65 := hF.new t72 hT73 hN74
  have zz78 := hMo.2.2.2.2.2.1 b68 t72
  clear hMo
  have t79 : T70 a_this = 33 := upT hT73 t72 t64 (by decide)
  refine c_putr (k := 13) (v := b68 + 1) pk_X1 B hM t79 kd33 rfl (by decide) fl_X1_25 (Or.inr ⟨rfl, hm, rfl⟩) dX1_init_34 rfl rfl ⟨rfl, fun _ => rfl, rfl, fun _ => rfl⟩ (Or.inl rfl) (fun R80 H locs hu81 hM => ?_)
  have e82 : R80 a_this 13 = b68 + 1 := w2_at hu81
  replace hF : Fr mo_X1_init [a_this] T N I J R T70 N71 I40 J R80 := hF.wr hu81 (fun _ h => absurd (List.mem_singleton.mpr rfl) h)
  refine lv_aload_n B.1 B.2.1 dX1_init_37 rfl (lv_at hl 0 rfl) ?_
  refine q_sip B dX1_init_38 (by decide) ?_
  have hMo := hM
  refine c_newa (t := 91) (atype := .int) (n' := 1600) B hX.out hA hM kd91 aw91 rfl rfl (fun _ => va_RA_i) acc_int hav_int (by decide) (by omega) (show 1600 ≤ 1600 ∧ 1600 ≤ 1600 from by omega) (by show 0 + 1 + 1 + 1 + 1 ≤ 9; omega) (by show 0 + 3 + 60 + 1600 + 1600 ≤ 9663; omega) dX1_init_41 (fun b83 L84 T85 N86 H t87 hT88 hN89 hM => ?_)
  have z90 : T b83 = 0 := T0_x hF t87 (nm1 (tne t87 t79 (by decide)))
  have t91 : T85 b83 = 91 := by rw [hT88, va_up_self]
  have n92 : N86 b83 = 1600 := by rw [hN89, va_up_self]
  replace hF : Fr mo_X1_init [a_this] T N I J R T85 N86 I40 J R80 := hF.new t87 hT88 hN89
  have zz93 := hMo.2.2.2.2.2.1 b83 t87
  clear hMo
  have t94 : T85 a_this = 33 := upT hT88 t87 t79 (by decide)
  refine c_putr (k := 14) (v := b83 + 1) pk_X1 B hM t94 kd33 rfl (by decide) fl_X1_28 (Or.inr ⟨rfl, hm, rfl⟩) dX1_init_43 rfl rfl ⟨rfl, fun _ => rfl, rfl, fun _ => rfl⟩ (Or.inl rfl) (fun R95 H locs hu96 hM => ?_)
  have e97 : R95 a_this 14 = b83 + 1 := w2_at hu96
  replace hF : Fr mo_X1_init [a_this] T N I J R T85 N86 I40 J R95 := hF.wr hu96 (fun _ h => absurd (List.mem_singleton.mpr rfl) h)
  refine lv_aload_n B.1 B.2.1 dX1_init_46 rfl (lv_at hl 0 rfl) ?_
  refine q_sip B dX1_init_47 (by decide) ?_
  have hMo := hM
  refine c_newa (t := 92) (atype := .int) (n' := 1600) B hX.out hA hM kd92 aw92 rfl rfl (fun _ => va_RA_i) acc_int hav_int (by decide) (by omega) (show 1600 ≤ 1600 ∧ 1600 ≤ 1600 from by omega) (by show 0 + 1 + 1 + 1 + 1 + 1 ≤ 9; omega) (by show 0 + 3 + 60 + 1600 + 1600 + 1600 ≤ 9663; omega) dX1_init_50 (fun b98 L99 T100 N101 H t102 hT103 hN104 hM => ?_)
  have z105 : T b98 = 0 := T0_x hF t102 (nm1 (tne t102 t94 (by decide)))
  have t106 : T100 b98 = 92 := by rw [hT103, va_up_self]
  have n107 : N101 b98 = 1600 := by rw [hN104, va_up_self]
  replace hF : Fr mo_X1_init [a_this] T N I J R T100 N101 I40 J R95 := hF.new t102 hT103 hN104
  have zz108 := hMo.2.2.2.2.2.1 b98 t102
  clear hMo
  have t109 : T100 a_this = 33 := upT hT103 t102 t94 (by decide)
  refine c_putr (k := 15) (v := b98 + 1) pk_X1 B hM t109 kd33 rfl (by decide) fl_X1_31 (Or.inr ⟨rfl, hm, rfl⟩) dX1_init_52 rfl rfl ⟨rfl, fun _ => rfl, rfl, fun _ => rfl⟩ (Or.inl rfl) (fun R110 H locs hu111 hM => ?_)
  have e112 : R110 a_this 15 = b98 + 1 := w2_at hu111
  replace hF : Fr mo_X1_init [a_this] T N I J R T100 N101 I40 J R110 := hF.wr hu111 (fun _ h => absurd (List.mem_singleton.mpr rfl) h)
  refine lv_aload_n B.1 B.2.1 dX1_init_55 rfl (lv_at hl 0 rfl) ?_
  refine q_sip B dX1_init_56 (by decide) ?_
  have hMo := hM
  refine c_newa (t := 93) (atype := .int) (n' := 1600) B hX.out hA hM kd93 aw93 rfl rfl (fun _ => va_RA_i) acc_int hav_int (by decide) (by omega) (show 1600 ≤ 1600 ∧ 1600 ≤ 1600 from by omega) (by show 0 + 1 + 1 + 1 + 1 + 1 + 1 ≤ 9; omega) (by show 0 + 3 + 60 + 1600 + 1600 + 1600 + 1600 ≤ 9663; omega) dX1_init_59 (fun b113 L114 T115 N116 H t117 hT118 hN119 hM => ?_)
  have z120 : T b113 = 0 := T0_x hF t117 (nm1 (tne t117 t109 (by decide)))
  have t121 : T115 b113 = 93 := by rw [hT118, va_up_self]
  have n122 : N116 b113 = 1600 := by rw [hN119, va_up_self]
  replace hF : Fr mo_X1_init [a_this] T N I J R T115 N116 I40 J R110 := hF.new t117 hT118 hN119
  have zz123 := hMo.2.2.2.2.2.1 b113 t117
  clear hMo
  have t124 : T115 a_this = 33 := upT hT118 t117 t109 (by decide)
  refine c_putr (k := 16) (v := b113 + 1) pk_X1 B hM t124 kd33 rfl (by decide) fl_X1_34 (Or.inr ⟨rfl, hm, rfl⟩) dX1_init_61 rfl rfl ⟨rfl, fun _ => rfl, rfl, fun _ => rfl⟩ (Or.inl rfl) (fun R125 H locs hu126 hM => ?_)
  have e127 : R125 a_this 16 = b113 + 1 := w2_at hu126
  replace hF : Fr mo_X1_init [a_this] T N I J R T115 N116 I40 J R125 := hF.wr hu126 (fun _ h => absurd (List.mem_singleton.mpr rfl) h)
  refine lv_aload_n B.1 B.2.1 dX1_init_64 rfl (lv_at hl 0 rfl) ?_
  refine q_sip B dX1_init_65 (by decide) ?_
  have hMo := hM
  refine c_newa (t := 94) (atype := .int) (n' := 1600) B hX.out hA hM kd94 aw94 rfl rfl (fun _ => va_RA_i) acc_int hav_int (by decide) (by omega) (show 1600 ≤ 1600 ∧ 1600 ≤ 1600 from by omega) (by show 0 + 1 + 1 + 1 + 1 + 1 + 1 + 1 ≤ 9; omega) (by show 0 + 3 + 60 + 1600 + 1600 + 1600 + 1600 + 1600 ≤ 9663; omega) dX1_init_68 (fun b128 L129 T130 N131 H t132 hT133 hN134 hM => ?_)
  have z135 : T b128 = 0 := T0_x hF t132 (nm1 (tne t132 t124 (by decide)))
  have t136 : T130 b128 = 94 := by rw [hT133, va_up_self]
  have n137 : N131 b128 = 1600 := by rw [hN134, va_up_self]
  replace hF : Fr mo_X1_init [a_this] T N I J R T130 N131 I40 J R125 := hF.new t132 hT133 hN134
  have zz138 := hMo.2.2.2.2.2.1 b128 t132
  clear hMo
  have t139 : T130 a_this = 33 := upT hT133 t132 t124 (by decide)
  refine c_putr (k := 17) (v := b128 + 1) pk_X1 B hM t139 kd33 rfl (by decide) fl_X1_37 (Or.inr ⟨rfl, hm, rfl⟩) dX1_init_70 rfl rfl ⟨rfl, fun _ => rfl, rfl, fun _ => rfl⟩ (Or.inl rfl) (fun R140 H locs hu141 hM => ?_)
  have e142 : R140 a_this 17 = b128 + 1 := w2_at hu141
  replace hF : Fr mo_X1_init [a_this] T N I J R T130 N131 I40 J R140 := hF.wr hu141 (fun _ h => absurd (List.mem_singleton.mpr rfl) h)
  refine lv_aload_n B.1 B.2.1 dX1_init_73 rfl (lv_at hl 0 rfl) ?_
  refine q_sip B dX1_init_74 (by decide) ?_
  have hMo := hM
  refine c_newa (t := 95) (atype := .int) (n' := 1600) B hX.out hA hM kd95 aw95 rfl rfl (fun _ => va_RA_i) acc_int hav_int (by decide) (by omega) (show 1600 ≤ 1600 ∧ 1600 ≤ 1600 from by omega) (by show 0 + 1 + 1 + 1 + 1 + 1 + 1 + 1 + 1 ≤ 9; omega) (by show 0 + 3 + 60 + 1600 + 1600 + 1600 + 1600 + 1600 + 1600 ≤ 9663; omega) dX1_init_77 (fun b143 L144 T145 N146 H t147 hT148 hN149 hM => ?_)
  have z150 : T b143 = 0 := T0_x hF t147 (nm1 (tne t147 t139 (by decide)))
  have t151 : T145 b143 = 95 := by rw [hT148, va_up_self]
  have n152 : N146 b143 = 1600 := by rw [hN149, va_up_self]
  replace hF : Fr mo_X1_init [a_this] T N I J R T145 N146 I40 J R140 := hF.new t147 hT148 hN149
  have zz153 := hMo.2.2.2.2.2.1 b143 t147
  clear hMo
  have t154 : T145 a_this = 33 := upT hT148 t147 t139 (by decide)
  refine c_putr (k := 18) (v := b143 + 1) pk_X1 B hM t154 kd33 rfl (by decide) fl_X1_40 (Or.inr ⟨rfl, hm, rfl⟩) dX1_init_79 rfl rfl ⟨rfl, fun _ => rfl, rfl, fun _ => rfl⟩ (Or.inl rfl) (fun R155 H locs hu156 hM => ?_)
  have e157 : R155 a_this 18 = b143 + 1 := w2_at hu156
  replace hF : Fr mo_X1_init [a_this] T N I J R T145 N146 I40 J R155 := hF.wr hu156 (fun _ h => absurd (List.mem_singleton.mpr rfl) h)
  have e158 : I40 a_this 0 = 0 := (hFc45.i t46 (by decide) (nm1 (tne t46 t31 (by decide))) rfl).trans e1
  have e159 : I40 a_this 1 = 0 := (hFc45.i t46 (by decide) (nm1 (tne t46 t31 (by decide))) rfl).trans e2
  have e160 : R80 a_this 2 = b53 + 1 := (w2_ne hu81 (Or.inr (by decide))).trans e67
  have e161 : R95 a_this 2 = b53 + 1 := (w2_ne hu96 (Or.inr (by decide))).trans e160
  have e162 : R110 a_this 2 = b53 + 1 := (w2_ne hu111 (Or.inr (by decide))).trans e161
  have e163 : R125 a_this 2 = b53 + 1 := (w2_ne hu126 (Or.inr (by decide))).trans e162
  have e164 : R140 a_this 2 = b53 + 1 := (w2_ne hu141 (Or.inr (by decide))).trans e163
  have e165 : R155 a_this 2 = b53 + 1 := (w2_ne hu156 (Or.inr (by decide))).trans e164
  have e166 : I40 a_this 3 = 0 := (hFc45.i t46 (by decide) (nm1 (tne t46 t31 (by decide))) rfl).trans e4
  have e167 : R21 a_this 4 = 0 := (w2_ne hu22 (Or.inr (by decide))).trans e5
  have e168 : R42 a_this 4 = 0 := (hFc45.r t46 (by decide) (nm1 (tne t46 t31 (by decide))) rfl).trans e167
  have e169 : R50 a_this 4 = 0 := (w2_ne hu51 (Or.inr (by decide))).trans e168
  have e170 : R65 a_this 4 = 0 := (w2_ne hu66 (Or.inr (by decide))).trans e169
  have e171 : R80 a_this 4 = 0 := (w2_ne hu81 (Or.inr (by decide))).trans e170
  have e172 : R95 a_this 4 = 0 := (w2_ne hu96 (Or.inr (by decide))).trans e171
  have e173 : R110 a_this 4 = 0 := (w2_ne hu111 (Or.inr (by decide))).trans e172
  have e174 : R125 a_this 4 = 0 := (w2_ne hu126 (Or.inr (by decide))).trans e173
  have e175 : R140 a_this 4 = 0 := (w2_ne hu141 (Or.inr (by decide))).trans e174
  have e176 : R155 a_this 4 = 0 := (w2_ne hu156 (Or.inr (by decide))).trans e175
  have e177 : R42 a_this 5 = a_papers + 1 := (hFc45.r t46 (by decide) (nm1 (tne t46 t31 (by decide))) rfl).trans e23
  have e178 : R50 a_this 5 = a_papers + 1 := (w2_ne hu51 (Or.inr (by decide))).trans e177
  have e179 : R65 a_this 5 = a_papers + 1 := (w2_ne hu66 (Or.inr (by decide))).trans e178
  have e180 : R80 a_this 5 = a_papers + 1 := (w2_ne hu81 (Or.inr (by decide))).trans e179
  have e181 : R95 a_this 5 = a_papers + 1 := (w2_ne hu96 (Or.inr (by decide))).trans e180
  have e182 : R110 a_this 5 = a_papers + 1 := (w2_ne hu111 (Or.inr (by decide))).trans e181
  have e183 : R125 a_this 5 = a_papers + 1 := (w2_ne hu126 (Or.inr (by decide))).trans e182
  have e184 : R140 a_this 5 = a_papers + 1 := (w2_ne hu141 (Or.inr (by decide))).trans e183
  have e185 : R155 a_this 5 = a_papers + 1 := (w2_ne hu156 (Or.inr (by decide))).trans e184
  have e186 : R65 a_this 6 = b24 + 1 := (w2_ne hu66 (Or.inr (by decide))).trans e52
  have e187 : R80 a_this 6 = b24 + 1 := (w2_ne hu81 (Or.inr (by decide))).trans e186
  have e188 : R95 a_this 6 = b24 + 1 := (w2_ne hu96 (Or.inr (by decide))).trans e187
  have e189 : R110 a_this 6 = b24 + 1 := (w2_ne hu111 (Or.inr (by decide))).trans e188
  have e190 : R125 a_this 6 = b24 + 1 := (w2_ne hu126 (Or.inr (by decide))).trans e189
  have e191 : R140 a_this 6 = b24 + 1 := (w2_ne hu141 (Or.inr (by decide))).trans e190
  have e192 : R155 a_this 6 = b24 + 1 := (w2_ne hu156 (Or.inr (by decide))).trans e191
  have e193 : I40 a_this 7 = 0 := (hFc45.i t46 (by decide) (nm1 (tne t46 t31 (by decide))) rfl).trans e8
  have e194 : I40 a_this 8 = 0 := (hFc45.i t46 (by decide) (nm1 (tne t46 t31 (by decide))) rfl).trans e9
  have e195 : I40 a_this 9 = 0 := (hFc45.i t46 (by decide) (nm1 (tne t46 t31 (by decide))) rfl).trans e10
  have e196 : I40 a_this 10 = 0 := (hFc45.i t46 (by decide) (nm1 (tne t46 t31 (by decide))) rfl).trans e11
  have e197 : I40 a_this 11 = 0 := (hFc45.i t46 (by decide) (nm1 (tne t46 t31 (by decide))) rfl).trans e12
  have e198 : I40 a_this 12 = 0 := (hFc45.i t46 (by decide) (nm1 (tne t46 t31 (by decide))) rfl).trans e13
  have e199 : R95 a_this 13 = b68 + 1 := (w2_ne hu96 (Or.inr (by decide))).trans e82
  have e200 : R110 a_this 13 = b68 + 1 := (w2_ne hu111 (Or.inr (by decide))).trans e199
  have e201 : R125 a_this 13 = b68 + 1 := (w2_ne hu126 (Or.inr (by decide))).trans e200
  have e202 : R140 a_this 13 = b68 + 1 := (w2_ne hu141 (Or.inr (by decide))).trans e201
  have e203 : R155 a_this 13 = b68 + 1 := (w2_ne hu156 (Or.inr (by decide))).trans e202
  have e204 : R110 a_this 14 = b83 + 1 := (w2_ne hu111 (Or.inr (by decide))).trans e97
  have e205 : R125 a_this 14 = b83 + 1 := (w2_ne hu126 (Or.inr (by decide))).trans e204
  have e206 : R140 a_this 14 = b83 + 1 := (w2_ne hu141 (Or.inr (by decide))).trans e205
  have e207 : R155 a_this 14 = b83 + 1 := (w2_ne hu156 (Or.inr (by decide))).trans e206
  have e208 : R125 a_this 15 = b98 + 1 := (w2_ne hu126 (Or.inr (by decide))).trans e112
  have e209 : R140 a_this 15 = b98 + 1 := (w2_ne hu141 (Or.inr (by decide))).trans e208
  have e210 : R155 a_this 15 = b98 + 1 := (w2_ne hu156 (Or.inr (by decide))).trans e209
  have e211 : R140 a_this 16 = b113 + 1 := (w2_ne hu141 (Or.inr (by decide))).trans e127
  have e212 : R155 a_this 16 = b113 + 1 := (w2_ne hu156 (Or.inr (by decide))).trans e211
  have e213 : R155 a_this 17 = b128 + 1 := (w2_ne hu156 (Or.inr (by decide))).trans e142
  have e214 : I40 a_this 19 = 0 := (hFc45.i t46 (by decide) (nm1 (tne t46 t31 (by decide))) rfl).trans e20
  have t217 : T70 b53 = 89 := upT hT73 t72 t61 (by decide)
  have t218 : T85 b53 = 89 := upT hT88 t87 t217 (by decide)
  have t219 : T100 b53 = 89 := upT hT103 t102 t218 (by decide)
  have t220 : T115 b53 = 89 := upT hT118 t117 t219 (by decide)
  have t221 : T130 b53 = 89 := upT hT133 t132 t220 (by decide)
  have t222 : T145 b53 = 89 := upT hT148 t147 t221 (by decide)
  have t223 : T145 a_papers = 22 := hF.tt t_papers (by decide) (nm1 (tne t_papers t_this (by decide)))
  have t224 : T55 b24 = 23 := upT hT58 t57 t48 (by decide)
  have t225 : T70 b24 = 23 := upT hT73 t72 t224 (by decide)
  have t226 : T85 b24 = 23 := upT hT88 t87 t225 (by decide)
  have t227 : T100 b24 = 23 := upT hT103 t102 t226 (by decide)
  have t228 : T115 b24 = 23 := upT hT118 t117 t227 (by decide)
  have t229 : T130 b24 = 23 := upT hT133 t132 t228 (by decide)
  have t230 : T145 b24 = 23 := upT hT148 t147 t229 (by decide)
  have t231 : T85 b68 = 90 := upT hT88 t87 t76 (by decide)
  have t232 : T100 b68 = 90 := upT hT103 t102 t231 (by decide)
  have t233 : T115 b68 = 90 := upT hT118 t117 t232 (by decide)
  have t234 : T130 b68 = 90 := upT hT133 t132 t233 (by decide)
  have t235 : T145 b68 = 90 := upT hT148 t147 t234 (by decide)
  have t236 : T100 b83 = 91 := upT hT103 t102 t91 (by decide)
  have t237 : T115 b83 = 91 := upT hT118 t117 t236 (by decide)
  have t238 : T130 b83 = 91 := upT hT133 t132 t237 (by decide)
  have t239 : T145 b83 = 91 := upT hT148 t147 t238 (by decide)
  have t240 : T115 b98 = 92 := upT hT118 t117 t106 (by decide)
  have t241 : T130 b98 = 92 := upT hT133 t132 t240 (by decide)
  have t242 : T145 b98 = 92 := upT hT148 t147 t241 (by decide)
  have t243 : T130 b113 = 93 := upT hT133 t132 t121 (by decide)
  have t244 : T145 b113 = 93 := upT hT148 t147 t243 (by decide)
  have t245 : T145 b128 = 94 := upT hT148 t147 t136 (by decide)
  obtain ⟨T215, hT216⟩ : ∃ X, X = va_up T145 a_this 5 := ⟨_, rfl⟩
  have hn9 : 20 ≤ N146 a_this ∧ N146 a_this ≤ 20 := hM.2.2.2.2.2.2.1.n t154 (by decide)
  have hty246 : TY T215 N146 I40 R155 a_this := by
    have h9 : T215 a_this = 5 := by rw [hT216, va_up_self]
    unfold TY; rw [h9]
    refine ⟨hn9.1, hn9.2, fun k hk => ?_⟩
    have hk9 : k = 0 ∨ k = 1 ∨ k = 2 ∨ k = 3 ∨ k = 4 ∨ k = 5 ∨ k = 6 ∨ k = 7 ∨ k = 8 ∨ k = 9 ∨ k = 10 ∨ k = 11 ∨ k = 12 ∨ k = 13 ∨ k = 14 ∨ k = 15 ∨ k = 16 ∨ k = 17 ∨ k = 18 ∨ k = 19 := by omega
    rcases hk9 with rfl | rfl | rfl | rfl | rfl | rfl | rfl | rfl | rfl | rfl | rfl | rfl | rfl | rfl | rfl | rfl | rfl | rfl | rfl | rfl
    · exact ⟨(by rw [e158]; exact (show (0 : Int) ≤ 0 ∧ (0 : Int) ≤ 5000 from by omega)), Or.inl rfl⟩
    · exact ⟨hM.2.2.2.2.2.2.1.io (t := 33) t154 (by decide) (by decide), Or.inl rfl⟩
    · exact ⟨hM.2.2.2.2.2.2.1.io (t := 33) t154 (by decide) (by decide), (by rw [e165]; exact rokR (t := 89) (by rw [hT216, va_up_ne _ _ (tne t222 t154 (by decide))]; exact t222) rfl)⟩
    · exact ⟨(by rw [e166]; exact (show (0 : Int) ≤ 0 ∧ (0 : Int) ≤ 60 from by omega)), Or.inl rfl⟩
    · exact ⟨hM.2.2.2.2.2.2.1.io (t := 33) t154 (by decide) (by decide), (by rw [e176]; exact Or.inr (Or.inl ⟨rfl, rfl⟩))⟩
    · exact ⟨hM.2.2.2.2.2.2.1.io (t := 33) t154 (by decide) (by decide), (by rw [e185]; exact rokR (t := 22) (by rw [hT216, va_up_ne _ _ (tne t223 t154 (by decide))]; exact t223) rfl)⟩
    · exact ⟨hM.2.2.2.2.2.2.1.io (t := 33) t154 (by decide) (by decide), (by rw [e192]; exact rokR (t := 23) (by rw [hT216, va_up_ne _ _ (tne t230 t154 (by decide))]; exact t230) rfl)⟩
    · exact ⟨(by rw [e193]; exact (show (0 : Int) ≤ 0 ∧ (0 : Int) ≤ 1 from by omega)), Or.inl rfl⟩
    · exact ⟨(by rw [e194]; exact (show (0 : Int) ≤ 0 ∧ (0 : Int) ≤ 1 from by omega)), Or.inl rfl⟩
    · exact ⟨(by rw [e195]; exact (show (0 : Int) ≤ 0 ∧ (0 : Int) ≤ 5000 from by omega)), Or.inl rfl⟩
    · exact ⟨hM.2.2.2.2.2.2.1.io (t := 33) t154 (by decide) (by decide), Or.inl rfl⟩
    · exact ⟨hM.2.2.2.2.2.2.1.io (t := 33) t154 (by decide) (by decide), Or.inl rfl⟩
    · exact ⟨hM.2.2.2.2.2.2.1.io (t := 33) t154 (by decide) (by decide), Or.inl rfl⟩
    · exact ⟨hM.2.2.2.2.2.2.1.io (t := 33) t154 (by decide) (by decide), (by rw [e203]; exact rokR (t := 90) (by rw [hT216, va_up_ne _ _ (tne t235 t154 (by decide))]; exact t235) rfl)⟩
    · exact ⟨hM.2.2.2.2.2.2.1.io (t := 33) t154 (by decide) (by decide), (by rw [e207]; exact rokR (t := 91) (by rw [hT216, va_up_ne _ _ (tne t239 t154 (by decide))]; exact t239) rfl)⟩
    · exact ⟨hM.2.2.2.2.2.2.1.io (t := 33) t154 (by decide) (by decide), (by rw [e210]; exact rokR (t := 92) (by rw [hT216, va_up_ne _ _ (tne t242 t154 (by decide))]; exact t242) rfl)⟩
    · exact ⟨hM.2.2.2.2.2.2.1.io (t := 33) t154 (by decide) (by decide), (by rw [e212]; exact rokR (t := 93) (by rw [hT216, va_up_ne _ _ (tne t244 t154 (by decide))]; exact t244) rfl)⟩
    · exact ⟨hM.2.2.2.2.2.2.1.io (t := 33) t154 (by decide) (by decide), (by rw [e213]; exact rokR (t := 94) (by rw [hT216, va_up_ne _ _ (tne t245 t154 (by decide))]; exact t245) rfl)⟩
    · exact ⟨hM.2.2.2.2.2.2.1.io (t := 33) t154 (by decide) (by decide), (by rw [e157]; exact rokR (t := 95) (by rw [hT216, va_up_ne _ _ (tne t151 t154 (by decide))]; exact t151) rfl)⟩
    · exact ⟨(by rw [e214]; exact (show (0 : Int) ≤ 0 ∧ (0 : Int) ≤ 1600 from by omega)), Or.inl rfl⟩
  have hM := hM.tag (t := 5) t154 (by decide) (by decide) rfl (by decide) hT216 hty246 (XI.tag0 hM.2.2.2.2.2.2.1 hM.2.2.2.2.2.2.2 t154 (by decide) hT216 (fun h h2 => by omega) (fun h => by omega) (fun h => by omega) (fun h => by omega) (fun h => by omega))
  replace hF : Fr mo_X1_init [a_this] T N I J R T215 N146 I40 J R155 := hF.tag hT216 (fun _ => List.mem_singleton.mpr rfl)
  have t247 : T215 a_this = 5 := by rw [hT216, va_up_self]
  have pq248 : I40 (R155 a_this 6 - 1) 2 = I40 b24 2 := by rw [e192, Nat.add_sub_cancel]
  refine g_vret B hM dX1_init_82 ⟨by show 0 + 1 + 1 + 1 + 1 + 1 + 1 + 1 + 1 ≤ 9; omega, by show 0 + 3 + 60 + 1600 + 1600 + 1600 + 1600 + 1600 + 1600 ≤ 9663; omega⟩ ?_
  rw [← hPST]
  exact ⟨rfl, hF, t247, by first | omega | assumption | exact trivial, by first | omega | assumption | exact trivial, by first | omega | assumption | exact trivial, by first | omega | assumption | exact trivial, by first | omega | assumption | exact trivial, by first | omega | assumption | exact trivial, by first | omega | assumption | exact trivial⟩

def mo_X5_init : List Nat := []
set_option maxHeartbeats 1000000 in
set_option maxRecDepth 20000 in
theorem k_X5_init (l : Launch) (D : va_G) (dA : Nat → ClassId) (eA : Nat) (L : List Nat) (T N : Nat → Nat) (I : Nat → Nat → Int) (J : Nat → Nat → Int64) (R : Nat → Nat → Nat) (a_this : Nat) (t_this : T a_this = 40) (a_kind : Nat) (t_kind : T a_kind = 11) (z_this : ∀ k, I a_this k = 0 ∧ J a_this k = 0 ∧ R a_this k = 0) : GC l yX5_init cX5_init 3 none ({ frames := 1, cells := 4, slots := 48, locals := 30 }) D dA eA L T N I J R [.ref a_this, .ref a_kind] 4 48 (gV (fun L' T' N' I' J' R' dz dl => J' = J ∧ Fr mo_X5_init [a_this] T N I J R T' N' I' J' R' ∧ T' a_this = 12 ∧ (dz ≤ 4 ∧ dl ≤ 48))) := by
  generalize hPST : (gV (fun L' T' N' I' J' R' dz dl => J' = J ∧ Fr mo_X5_init [a_this] T N I J R T' N' I' J' R' ∧ T' a_this = 12 ∧ (dz ≤ 4 ∧ dl ≤ 48))) = PST
  refine g_enter (own := RX5) (by decide) rfl (Nat.le_of_ble_eq_true rfl) (fun p e s m args below meth c ls hm B hX hM hl => ?_)
  have hC0 := hM.2.2.2.2.2.2.1
  have hW0 := hM.2.2.2
  have hF : Fr mo_X5_init [a_this] T N I J R T N I J R := Fr.rf
  have hA : ∀ q, s.heap.size ≤ q → cF dA L T N I J R s.heap.size q := fun q h => Or.inr h
  have hl : lv_has ls 3 [(0, .ref a_this), (1, .ref a_kind)] := hl
  have e1 : R a_this 0 = 0 := (z_this 0).2.2
  have e2 : I a_this 1 = 0 := (z_this 1).1
  have e3 : R a_this 2 = 0 := (z_this 2).2.2
  have e4 : R a_this 3 = 0 := (z_this 3).2.2
  have e5 : R a_this 4 = 0 := (z_this 4).2.2
  have e6 : R a_this 5 = 0 := (z_this 5).2.2
  refine lv_aload_n B.1 B.2.1 dX5_init_0 rfl (lv_at hl 0 rfl) ?_
  refine c_obj B ol_X5_3 hl.1 (Nat.le_of_ble_eq_true rfl) (Nat.le_of_ble_eq_true rfl) dX5_init_1 ?_
  refine lv_aload_n B.1 B.2.1 dX5_init_4 rfl (lv_at hl 0 rfl) ?_
  refine lv_aload_n B.1 B.2.1 dX5_init_5 rfl (lv_at hl 1 rfl) ?_
  refine c_putr (k := 0) (v := a_kind + 1) pk_X5 B hM t_this kd40 rfl (by decide) fl_X5_9 (Or.inr ⟨rfl, hm, rfl⟩) dX5_init_6 rfl rfl ⟨rfl, fun _ => rfl, rfl, fun _ => rfl⟩ (Or.inl rfl) (fun R7 H locs hu8 hM => ?_)
  have e9 : R7 a_this 0 = a_kind + 1 := w2_at hu8
  replace hF : Fr mo_X5_init [a_this] T N I J R T N I J R7 := hF.wr hu8 (fun _ h => absurd (List.mem_singleton.mpr rfl) h)
  refine lv_aload_n B.1 B.2.1 dX5_init_9 rfl (lv_at hl 1 rfl) ?_
  obtain ⟨b10, e11, t12⟩ := g11_3 hC0 t_kind
  have e13 : R7 a_kind 3 = b10 + 1 := (hF.r t_kind (by decide) (nm1 (tne t_kind t_this (by decide))) rfl).trans e11
  refine c_getn (k := 3) pk_X3 B hM t_kind kd11 rfl (by decide) fl_X5_15 dX5_init_10 e13 ?_
  have hv14 : (15 ≤ 19) ∧ (19 ≤ 23) := by first | omega | exact ⟨by first | omega | assumption | exact trivial, by first | omega | assumption | exact trivial⟩
  refine p_calli (c_runV (n := 0) (as := []) (rest := []) B hX hA hM hl.1 t12 kd19 rfl (k_Jx4a65c_size_8abf5 l D dA eA L T N I J R7 b10 t12 hv14.1 hv14.2 _ _) ml_X5_21 nm_Jx4a65c_size_8abf5 ⟨rfl, rfl⟩ ⟨Nat.le_of_ble_eq_true rfl, Nat.le_of_ble_eq_true rfl⟩ dX5_init_13 rfl rfl (Nat.le_of_ble_eq_true rfl) ⟨by show 0 + 0 ≤ 4; omega, by show 0 + 0 ≤ 48; omega⟩) (fun x16 ix16 hp15 => ?_)
  have hp15a := hp15
  replace hp15a : I b10 2 = x16 ∧ 0 ≤ x16 ∧ x16 ≤ 12 := hp15a
  obtain ⟨hp15a_0, hp15a_1, hp15a_2⟩ := hp15a
  refine lv_istore_n (lv' := [(2, .int (II x16)), (0, .ref a_this), (1, .ref a_kind)]) B.1 B.2.1 dX5_init_16 rfl hl (by decide) rfl (fun ls hl => ?_)
  refine lv_aload_n B.1 B.2.1 dX5_init_17 rfl (lv_at hl 1 rfl) ?_
  refine lv_iload_n B.1 B.2.1 dX5_init_18 rfl (lv_at hl 0 rfl) ?_
  have hMo := hM
  refine c_newa (t := 84) (atype := .int) (n' := x16.toNat) B hX.out hA hM kd84 aw84 rfl rfl (fun _ => va_RA_i) acc_int hav_int (by decide) (by omega) (show 0 ≤ x16.toNat ∧ x16.toNat ≤ 12 from by omega) (by show 0 + 1 ≤ 4; omega) (by show 0 + x16.toNat ≤ 48; omega) dX5_init_19 (fun b17 L18 T19 N20 H t21 hT22 hN23 hM => ?_)
  have t24 : T19 b17 = 84 := by rw [hT22, va_up_self]
  have n25 : N20 b17 = x16.toNat := by rw [hN23, va_up_self]
  replace hF : Fr mo_X5_init [a_this] T N I J R T19 N20 I J R7 := hF.new t21 hT22 hN23
  have zz26 := hMo.2.2.2.2.2.1 b17 t21
  clear hMo
  have t27 : T19 a_this = 40 := upT hT22 t21 t_this (by decide)
  refine c_putr (k := 2) (v := b17 + 1) pk_X5 B hM t27 kd40 rfl (by decide) fl_X5_27 (Or.inr ⟨rfl, hm, rfl⟩) dX5_init_21 rfl rfl ⟨rfl, fun _ => rfl, rfl, fun _ => rfl⟩ (Or.inl rfl) (fun R28 H locs hu29 hM => ?_)
  have e30 : R28 a_this 2 = b17 + 1 := w2_at hu29
  replace hF : Fr mo_X5_init [a_this] T N I J R T19 N20 I J R28 := hF.wr hu29 (fun _ h => absurd (List.mem_singleton.mpr rfl) h)
  refine lv_aload_n B.1 B.2.1 dX5_init_24 rfl (lv_at hl 1 rfl) ?_
  refine lv_iload_n B.1 B.2.1 dX5_init_25 rfl (lv_at hl 0 rfl) ?_
  have hMo := hM
  refine c_newa (t := 85) (atype := .boolean) (n' := x16.toNat) B hX.out hA hM kd85 aw85 rfl rfl (fun _ => va_RA_z) acc_boolean hav_boolean (by decide) (by omega) (show 0 ≤ x16.toNat ∧ x16.toNat ≤ 12 from by omega) (by show 0 + 1 + 1 ≤ 4; omega) (by show 0 + x16.toNat + x16.toNat ≤ 48; omega) dX5_init_26 (fun b31 L32 T33 N34 H t35 hT36 hN37 hM => ?_)
  have z38 : T b31 = 0 := T0_x hF t35 (nm1 (tne t35 t27 (by decide)))
  have t39 : T33 b31 = 85 := by rw [hT36, va_up_self]
  have n40 : N34 b31 = x16.toNat := by rw [hN37, va_up_self]
  replace hF : Fr mo_X5_init [a_this] T N I J R T33 N34 I J R28 := hF.new t35 hT36 hN37
  have zz41 := hMo.2.2.2.2.2.1 b31 t35
  clear hMo
  have t42 : T33 a_this = 40 := upT hT36 t35 t27 (by decide)
  refine c_putr (k := 3) (v := b31 + 1) pk_X5 B hM t42 kd40 rfl (by decide) fl_X5_31 (Or.inr ⟨rfl, hm, rfl⟩) dX5_init_28 rfl rfl ⟨rfl, fun _ => rfl, rfl, fun _ => rfl⟩ (Or.inl rfl) (fun R43 H locs hu44 hM => ?_)
  have e45 : R43 a_this 3 = b31 + 1 := w2_at hu44
  replace hF : Fr mo_X5_init [a_this] T N I J R T33 N34 I J R43 := hF.wr hu44 (fun _ h => absurd (List.mem_singleton.mpr rfl) h)
  refine lv_aload_n B.1 B.2.1 dX5_init_31 rfl (lv_at hl 1 rfl) ?_
  refine lv_iload_n B.1 B.2.1 dX5_init_32 rfl (lv_at hl 0 rfl) ?_
  have hMo := hM
  refine c_newA (t := 86) (n' := x16.toNat) B hX hA hM kd86 aw86 cl_X5_35 (by omega) (show 0 ≤ x16.toNat ∧ x16.toNat ≤ 12 from by omega) (by show 0 + 1 + 1 + 1 ≤ 4; omega) (by show 0 + x16.toNat + x16.toNat + x16.toNat ≤ 48; omega) dX5_init_33 (fun b46 L47 T48 N49 H t50 hT51 hN52 hM => ?_)
  have z53 : T b46 = 0 := T0_x hF t50 (nm1 (tne t50 t42 (by decide)))
  have t54 : T48 b46 = 86 := by rw [hT51, va_up_self]
  have n55 : N49 b46 = x16.toNat := by rw [hN52, va_up_self]
  replace hF : Fr mo_X5_init [a_this] T N I J R T48 N49 I J R43 := hF.new t50 hT51 hN52
  have zz56 := hMo.2.2.2.2.2.1 b46 t50
  clear hMo
  have t57 : T48 a_this = 40 := upT hT51 t50 t42 (by decide)
  refine c_putr (k := 4) (v := b46 + 1) pk_X5 B hM t57 kd40 rfl (by decide) fl_X5_36 (Or.inr ⟨rfl, hm, rfl⟩) dX5_init_36 rfl rfl ⟨rfl, fun _ => rfl, rfl, fun _ => rfl⟩ (Or.inl rfl) (fun R58 H locs hu59 hM => ?_)
  have e60 : R58 a_this 4 = b46 + 1 := w2_at hu59
  replace hF : Fr mo_X5_init [a_this] T N I J R T48 N49 I J R58 := hF.wr hu59 (fun _ h => absurd (List.mem_singleton.mpr rfl) h)
  refine lv_aload_n B.1 B.2.1 dX5_init_39 rfl (lv_at hl 1 rfl) ?_
  refine lv_iload_n B.1 B.2.1 dX5_init_40 rfl (lv_at hl 0 rfl) ?_
  have hMo := hM
  refine c_newa (t := 88) (atype := .int) (n' := x16.toNat) B hX.out hA hM kd88 aw88 rfl rfl (fun _ => va_RA_i) acc_int hav_int (by decide) (by omega) (show 0 ≤ x16.toNat ∧ x16.toNat ≤ 12 from by omega) (by show 0 + 1 + 1 + 1 + 1 ≤ 4; omega) (by show 0 + x16.toNat + x16.toNat + x16.toNat + x16.toNat ≤ 48; omega) dX5_init_41 (fun b61 L62 T63 N64 H t65 hT66 hN67 hM => ?_)
  have z68 : T b61 = 0 := T0_x hF t65 (nm1 (tne t65 t57 (by decide)))
  have t69 : T63 b61 = 88 := by rw [hT66, va_up_self]
  have n70 : N64 b61 = x16.toNat := by rw [hN67, va_up_self]
  replace hF : Fr mo_X5_init [a_this] T N I J R T63 N64 I J R58 := hF.new t65 hT66 hN67
  have zz71 := hMo.2.2.2.2.2.1 b61 t65
  clear hMo
  have t72 : T63 a_this = 40 := upT hT66 t65 t57 (by decide)
  refine c_putr (k := 5) (v := b61 + 1) pk_X5 B hM t72 kd40 rfl (by decide) fl_X5_40 (Or.inr ⟨rfl, hm, rfl⟩) dX5_init_43 rfl rfl ⟨rfl, fun _ => rfl, rfl, fun _ => rfl⟩ (Or.inl rfl) (fun R73 H locs hu74 hM => ?_)
  have e75 : R73 a_this 5 = b61 + 1 := w2_at hu74
  replace hF : Fr mo_X5_init [a_this] T N I J R T63 N64 I J R73 := hF.wr hu74 (fun _ h => absurd (List.mem_singleton.mpr rfl) h)
  have e76 : R28 a_this 0 = a_kind + 1 := (w2_ne hu29 (Or.inr (by decide))).trans e9
  have e77 : R43 a_this 0 = a_kind + 1 := (w2_ne hu44 (Or.inr (by decide))).trans e76
  have e78 : R58 a_this 0 = a_kind + 1 := (w2_ne hu59 (Or.inr (by decide))).trans e77
  have e79 : R73 a_this 0 = a_kind + 1 := (w2_ne hu74 (Or.inr (by decide))).trans e78
  have e80 : R43 a_this 2 = b17 + 1 := (w2_ne hu44 (Or.inr (by decide))).trans e30
  have e81 : R58 a_this 2 = b17 + 1 := (w2_ne hu59 (Or.inr (by decide))).trans e80
  have e82 : R73 a_this 2 = b17 + 1 := (w2_ne hu74 (Or.inr (by decide))).trans e81
  have e83 : R58 a_this 3 = b31 + 1 := (w2_ne hu59 (Or.inr (by decide))).trans e45
  have e84 : R73 a_this 3 = b31 + 1 := (w2_ne hu74 (Or.inr (by decide))).trans e83
  have e85 : R73 a_this 4 = b46 + 1 := (w2_ne hu74 (Or.inr (by decide))).trans e60
  have t88 : T63 a_kind = 11 := hF.tt t_kind (by decide) (nm1 (tne t_kind t_this (by decide)))
  have t89 : T33 b17 = 84 := upT hT36 t35 t24 (by decide)
  have t90 : T48 b17 = 84 := upT hT51 t50 t89 (by decide)
  have t91 : T63 b17 = 84 := upT hT66 t65 t90 (by decide)
  have t92 : T48 b31 = 85 := upT hT51 t50 t39 (by decide)
  have t93 : T63 b31 = 85 := upT hT66 t65 t92 (by decide)
  have t94 : T63 b46 = 86 := upT hT66 t65 t54 (by decide)
  obtain ⟨T86, hT87⟩ : ∃ X, X = va_up T63 a_this 12 := ⟨_, rfl⟩
  have hn9 : 6 ≤ N64 a_this ∧ N64 a_this ≤ 6 := hM.2.2.2.2.2.2.1.n t72 (by decide)
  have hty95 : TY T86 N64 I R73 a_this := by
    have h9 : T86 a_this = 12 := by rw [hT87, va_up_self]
    unfold TY; rw [h9]
    refine ⟨hn9.1, hn9.2, fun k hk => ?_⟩
    have hk9 : k = 0 ∨ k = 1 ∨ k = 2 ∨ k = 3 ∨ k = 4 ∨ k = 5 := by omega
    rcases hk9 with rfl | rfl | rfl | rfl | rfl | rfl
    · exact ⟨hM.2.2.2.2.2.2.1.io (t := 40) t72 (by decide) (by decide), (by rw [e79]; exact rokR (t := 11) (by rw [hT87, va_up_ne _ _ (tne t88 t72 (by decide))]; exact t88) rfl)⟩
    · exact ⟨hM.2.2.2.2.2.2.1.io (t := 40) t72 (by decide) (by decide), Or.inl rfl⟩
    · exact ⟨hM.2.2.2.2.2.2.1.io (t := 40) t72 (by decide) (by decide), (by rw [e82]; exact rokR (t := 84) (by rw [hT87, va_up_ne _ _ (tne t91 t72 (by decide))]; exact t91) rfl)⟩
    · exact ⟨hM.2.2.2.2.2.2.1.io (t := 40) t72 (by decide) (by decide), (by rw [e84]; exact rokR (t := 85) (by rw [hT87, va_up_ne _ _ (tne t93 t72 (by decide))]; exact t93) rfl)⟩
    · exact ⟨hM.2.2.2.2.2.2.1.io (t := 40) t72 (by decide) (by decide), (by rw [e85]; exact rokR (t := 86) (by rw [hT87, va_up_ne _ _ (tne t94 t72 (by decide))]; exact t94) rfl)⟩
    · exact ⟨hM.2.2.2.2.2.2.1.io (t := 40) t72 (by decide) (by decide), (by rw [e75]; exact rokR (t := 88) (by rw [hT87, va_up_ne _ _ (tne t69 t72 (by decide))]; exact t69) rfl)⟩
  have n96 : N34 b17 = x16.toNat := (upN hN37 t35 t24 (by decide)).trans n25
  have n97 : N49 b17 = x16.toNat := (upN hN52 t50 t89 (by decide)).trans n96
  have n98 : N64 b17 = x16.toNat := (upN hN67 t65 t90 (by decide)).trans n97
  have n99 : N49 b31 = x16.toNat := (upN hN52 t50 t39 (by decide)).trans n40
  have n100 : N64 b31 = x16.toNat := (upN hN67 t65 t92 (by decide)).trans n99
  have n101 : N64 b46 = x16.toNat := (upN hN67 t65 t54 (by decide)).trans n55
  have e102 : R73 a_kind 3 = b10 + 1 := (hF.r t_kind (by decide) (nm1 (tne t_kind t_this (by decide))) rfl).trans e11
  have hM := hM.tag (t := 12) t72 (by decide) (by decide) rfl (by decide) hT87 hty95 (XI.tag0 hM.2.2.2.2.2.2.1 hM.2.2.2.2.2.2.2 t72 (by decide) hT87 (fun h h2 => by omega) (fun _ => by rw [e79, e82, e84, e85, e75]; simp only [Nat.add_sub_cancel]; rw [e102]; simp only [Nat.add_sub_cancel]; rw [hp15a_0, n98, n100, n101, n70]; exact ⟨rfl, rfl, rfl, by omega⟩) (fun h => by omega) (fun h => by omega) (fun h => by omega))
  replace hF : Fr mo_X5_init [a_this] T N I J R T86 N64 I J R73 := hF.tag hT87 (fun _ => List.mem_singleton.mpr rfl)
  have t103 : T86 a_this = 12 := by rw [hT87, va_up_self]
  refine g_vret B hM dX5_init_46 ⟨by show 0 + 1 + 1 + 1 + 1 ≤ 4; omega, by show 0 + x16.toNat + x16.toNat + x16.toNat + x16.toNat ≤ 48; omega⟩ ?_
  rw [← hPST]
  exact ⟨rfl, rfl, hF, t103, by first | omega | assumption | exact trivial, by first | omega | assumption | exact trivial⟩

def mo_X6_init : List Nat := []
set_option maxHeartbeats 1000000 in
set_option maxRecDepth 20000 in
theorem k_X6_init (l : Launch) (D : va_G) (dA : Nat → ClassId) (eA : Nat) (L : List Nat) (T N : Nat → Nat) (I : Nat → Nat → Int) (J : Nat → Nat → Int64) (R : Nat → Nat → Nat) (a_this : Nat) (t_this : T a_this = 35) (a_tok : Nat) (t_tok : T a_tok = 3) (a_known : Nat) (q_known : a_known = 0 ∨ ∃ b, a_known = b + 1 ∧ T b = 6) (z_this : ∀ k, I a_this k = 0 ∧ J a_this k = 0 ∧ R a_this k = 0) : GC l yX6_init cX6_init 3 none ({ frames := 5, cells := 12, slots := 260, locals := 130 }) D dA eA L T N I J R [.ref a_this, .ref a_tok, cv a_known] 12 260 (gV (fun L' T' N' I' J' R' dz dl => Fr mo_X6_init [a_this] T N I J R T' N' I' J' R' ∧ T' a_this = 7 ∧ (dz ≤ 12 ∧ dl ≤ 260))) := by
  generalize hPST : (gV (fun L' T' N' I' J' R' dz dl => Fr mo_X6_init [a_this] T N I J R T' N' I' J' R' ∧ T' a_this = 7 ∧ (dz ≤ 12 ∧ dl ≤ 260))) = PST
  refine g_enter (own := RX6) (by decide) rfl (by cases a_known <;> exact Nat.le_of_ble_eq_true rfl) (fun p e s m args below meth c ls hm B hX hM hl => ?_)
  have hC0 := hM.2.2.2.2.2.2.1
  have hW0 := hM.2.2.2
  have hF : Fr mo_X6_init [a_this] T N I J R T N I J R := Fr.rf
  have hA : ∀ q, s.heap.size ≤ q → cF dA L T N I J R s.heap.size q := fun q h => Or.inr h
  have hl : lv_has ls 3 [(0, .ref a_this), (1, .ref a_tok), (2, cv a_known)] := (by cases a_known <;> exact hl)
  have e1 : R a_this 0 = 0 := (z_this 0).2.2
  have e2 : I a_this 1 = 0 := (z_this 1).1
  have e3 : I a_this 2 = 0 := (z_this 2).1
  have e4 : R a_this 3 = 0 := (z_this 3).2.2
  have e5 : R a_this 4 = 0 := (z_this 4).2.2
  have e6 : I a_this 5 = 0 := (z_this 5).1
  have e7 : I a_this 6 = 0 := (z_this 6).1
  have e8 : J a_this 7 = 0 := (z_this 7).2.1
  have e9 : R a_this 8 = 0 := (z_this 8).2.2
  have e10 : I a_this 9 = 0 := (z_this 9).1
  have e11 : R a_this 10 = 0 := (z_this 10).2.2
  have e12 : R a_this 11 = 0 := (z_this 11).2.2
  have e13 : I a_this 12 = 0 := (z_this 12).1
  refine lv_aload_n B.1 B.2.1 dX6_init_0 rfl (lv_at hl 0 rfl) ?_
  refine c_obj B ol_X6_3 hl.1 (Nat.le_of_ble_eq_true rfl) (Nat.le_of_ble_eq_true rfl) dX6_init_1 ?_
  refine lv_aload_n B.1 B.2.1 dX6_init_4 rfl (lv_at hl 0 rfl) ?_
  refine lv_aload_n B.1 B.2.1 dX6_init_5 rfl (lv_at hl 1 rfl) ?_
  refine c_putr (k := 3) (v := a_tok + 1) pk_X6 B hM t_this kd35 rfl (by decide) fl_X6_9 (Or.inr ⟨rfl, hm, rfl⟩) dX6_init_6 rfl rfl ⟨rfl, fun _ => rfl, rfl, fun _ => rfl⟩ (Or.inl rfl) (fun R14 H locs hu15 hM => ?_)
  have e16 : R14 a_this 3 = a_tok + 1 := w2_at hu15
  replace hF : Fr mo_X6_init [a_this] T N I J R T N I J R14 := hF.wr hu15 (fun _ h => absurd (List.mem_singleton.mpr rfl) h)
  refine lv_aload_n B.1 B.2.1 dX6_init_9 rfl (lv_at hl 0 rfl) ?_
  refine c_aload_n B dX6_init_10 rfl (lv_at hl 2 rfl) ?_
  refine c_putr (k := 4) (v := a_known) pk_X6 B hM t_this kd35 rfl (by decide) fl_X6_15 (Or.inr ⟨rfl, hm, rfl⟩) dX6_init_11 rfl rfl ⟨rfl, fun _ => rfl, rfl, fun _ => rfl⟩ (Or.inl rfl) (fun R17 H locs hu18 hM => ?_)
  have e19 : R17 a_this 4 = a_known := w2_at hu18
  replace hF : Fr mo_X6_init [a_this] T N I J R T N I J R17 := hF.wr hu18 (fun _ h => absurd (List.mem_singleton.mpr rfl) h)
  refine lv_aload_n B.1 B.2.1 dX6_init_14 rfl (lv_at hl 0 rfl) ?_
  have hMo := hM
  refine c_new (t := 34) pk_X0 B hX.out hA hM kd34 df_X0 rfl rfl (by decide) cl_X6_19 in_X0 ini_X0 (by show 0 + 1 ≤ 12; omega) (by show 0 + 12 ≤ 260; omega) dX6_init_15 (fun b20 L21 T22 N23 H t24 hT25 hN26 hM => ?_)
  have t27 : T22 b20 = 34 := by rw [hT25, va_up_self]
  have n28 : N23 b20 = 12 := by rw [hN26, va_up_self]
  replace hF : Fr mo_X6_init [a_this] T N I J R T22 N23 I J R17 := hF.new t24 hT25 hN26
  have zz29 := hMo.2.2.2.2.2.1 b20 t24
  clear hMo
  refine lv_dup B.1 B.2.1 dX6_init_18 rfl ?_
  refine g_callv hM hA (c_runI (n := 0) (as := []) (rest := [.ref b20, .ref a_this]) B hX hA hM hl.1 (k_X0_init l D dA eA L21 T22 N23 I J R17 b20 t27 zz29 _ _) ml_X6_21 nm_X0_init ⟨rfl, rfl⟩ ⟨Nat.le_of_ble_eq_true rfl, Nat.le_of_ble_eq_true rfl⟩ dX6_init_19 rfl rfl (Nat.le_of_ble_eq_true rfl) ⟨by show 0 + 1 + 8 ≤ 12; omega, by show 0 + 12 + 150 ≤ 260; omega⟩) (fun L32 T33 N34 I35 J36 R37 dz38 dl39 H locs hp30 hMn => ?_)
  obtain ⟨hFc40, hp30a⟩ := hp30
  have t41 : T22 a_this = 35 := upT hT25 t24 t_this (by decide)
  have t42 : T22 a_tok = 3 := hF.tt t_tok (by decide) (nm1 (tne t_tok t_this (by decide)))
  replace hF : Fr mo_X6_init [a_this] T N I J R T33 N34 I35 J36 R37 := hF.trans hFc40 (by decide) (e2x (fun h => absurd t24 h))
  have hM := hMn
  clear hMn
  obtain ⟨t43, hp30a⟩ := hp30a
  replace hp30a : dz38 ≤ 8 ∧ dl39 ≤ 150 ∧ I35 (R37 b20 0 - 1) 2 = 0 ∧ I35 (R37 b20 1 - 1) 2 = 0 ∧ I35 (R37 b20 2 - 1) 2 = 0 ∧ I35 (R37 b20 3 - 1) 2 = 0 ∧ I35 b20 5 = 0 := hp30a
  obtain ⟨hp30a_0, hp30a_1, hp30a_2, hp30a_3, hp30a_4, hp30a_5, hp30a_6⟩ := hp30a
  obtain ⟨b44, e45, t46⟩ := g6_0 hM.2.2.2.2.2.2.1 t43
  have pq47 : I35 (R37 b20 0 - 1) 2 = I35 b44 2 := by rw [e45, Nat.add_sub_cancel]
  obtain ⟨x48, e49⟩ : ∃ v, I35 b44 2 = v := ⟨_, rfl⟩
  obtain ⟨b50, e51, t52⟩ := g6_1 hM.2.2.2.2.2.2.1 t43
  have pq53 : I35 (R37 b20 1 - 1) 2 = I35 b50 2 := by rw [e51, Nat.add_sub_cancel]
  obtain ⟨x54, e55⟩ : ∃ v, I35 b50 2 = v := ⟨_, rfl⟩
  obtain ⟨b56, e57, t58⟩ := g6_2 hM.2.2.2.2.2.2.1 t43
  have pq59 : I35 (R37 b20 2 - 1) 2 = I35 b56 2 := by rw [e57, Nat.add_sub_cancel]
  obtain ⟨x60, e61⟩ : ∃ v, I35 b56 2 = v := ⟨_, rfl⟩
  obtain ⟨b62, e63, t64⟩ := g6_3 hM.2.2.2.2.2.2.1 t43
  have pq65 : I35 (R37 b20 3 - 1) 2 = I35 b62 2 := by rw [e63, Nat.add_sub_cancel]
  obtain ⟨x66, e67⟩ : ∃ v, I35 b62 2 = v := ⟨_, rfl⟩
  have t68 : T33 a_this = 35 := hFc40.tt t41 (by decide) (nm1 (tne t41 t27 (by decide)))
  refine c_putr (k := 0) (v := b20 + 1) pk_X6 B hM t68 kd35 rfl (by decide) fl_X6_22 (Or.inr ⟨rfl, hm, rfl⟩) dX6_init_22 rfl rfl ⟨rfl, fun _ => rfl, rfl, fun _ => rfl⟩ (Or.inl rfl) (fun R69 H locs hu70 hM => ?_)
  have e71 : R69 a_this 0 = b20 + 1 := w2_at hu70
  replace hF : Fr mo_X6_init [a_this] T N I J R T33 N34 I35 J36 R69 := hF.wr hu70 (fun _ h => absurd (List.mem_singleton.mpr rfl) h)
  refine lv_aload_n B.1 B.2.1 dX6_init_25 rfl (lv_at hl 0 rfl) ?_
  refine q_bip B dX6_init_26 (by decide) ?_
  have hMo := hM
  refine c_newa (t := 65) (atype := .int) (n' := 8) B hX.out hA hM kd65 aw65 rfl rfl (fun _ => va_RA_i) acc_int hav_int (by decide) (by omega) (show 8 ≤ 8 ∧ 8 ≤ 8 from by omega) (by show 0 + 1 + dz38 + 1 ≤ 12; omega) (by show 0 + 12 + dl39 + 8 ≤ 260; omega) dX6_init_28 (fun b72 L73 T74 N75 H t76 hT77 hN78 hM => ?_)
  have z79 : T b72 = 0 := T0_x hF t76 (nm1 (tne t76 t68 (by decide)))
  have t80 : T74 b72 = 65 := by rw [hT77, va_up_self]
  have n81 : N75 b72 = 8 := by rw [hN78, va_up_self]
  replace hF : Fr mo_X6_init [a_this] T N I J R T74 N75 I35 J36 R69 := hF.new t76 hT77 hN78
  have zz82 := hMo.2.2.2.2.2.1 b72 t76
  clear hMo
  have t83 : T74 a_this = 35 := upT hT77 t76 t68 (by decide)
  refine c_putr (k := 8) (v := b72 + 1) pk_X6 B hM t83 kd35 rfl (by decide) fl_X6_25 (Or.inr ⟨rfl, hm, rfl⟩) dX6_init_30 rfl rfl ⟨rfl, fun _ => rfl, rfl, fun _ => rfl⟩ (Or.inl rfl) (fun R84 H locs hu85 hM => ?_)
  have e86 : R84 a_this 8 = b72 + 1 := w2_at hu85
  replace hF : Fr mo_X6_init [a_this] T N I J R T74 N75 I35 J36 R84 := hF.wr hu85 (fun _ h => absurd (List.mem_singleton.mpr rfl) h)
  refine lv_aload_n B.1 B.2.1 dX6_init_33 rfl (lv_at hl 0 rfl) ?_
  refine q_bip B dX6_init_34 (by decide) ?_
  have hMo := hM
  refine c_newa (t := 66) (atype := .int) (n' := 40) B hX.out hA hM kd66 aw66 rfl rfl (fun _ => va_RA_i) acc_int hav_int (by decide) (by omega) (show 40 ≤ 40 ∧ 40 ≤ 40 from by omega) (by show 0 + 1 + dz38 + 1 + 1 ≤ 12; omega) (by show 0 + 12 + dl39 + 8 + 40 ≤ 260; omega) dX6_init_36 (fun b87 L88 T89 N90 H t91 hT92 hN93 hM => ?_)
  have z94 : T b87 = 0 := T0_x hF t91 (nm1 (tne t91 t83 (by decide)))
  have t95 : T89 b87 = 66 := by rw [hT92, va_up_self]
  have n96 : N90 b87 = 40 := by rw [hN93, va_up_self]
  replace hF : Fr mo_X6_init [a_this] T N I J R T89 N90 I35 J36 R84 := hF.new t91 hT92 hN93
  have zz97 := hMo.2.2.2.2.2.1 b87 t91
  clear hMo
  have t98 : T89 a_this = 35 := upT hT92 t91 t83 (by decide)
  refine c_putr (k := 10) (v := b87 + 1) pk_X6 B hM t98 kd35 rfl (by decide) fl_X6_29 (Or.inr ⟨rfl, hm, rfl⟩) dX6_init_38 rfl rfl ⟨rfl, fun _ => rfl, rfl, fun _ => rfl⟩ (Or.inl rfl) (fun R99 H locs hu100 hM => ?_)
  have e101 : R99 a_this 10 = b87 + 1 := w2_at hu100
  replace hF : Fr mo_X6_init [a_this] T N I J R T89 N90 I35 J36 R99 := hF.wr hu100 (fun _ h => absurd (List.mem_singleton.mpr rfl) h)
  refine lv_aload_n B.1 B.2.1 dX6_init_41 rfl (lv_at hl 0 rfl) ?_
  refine q_bip B dX6_init_42 (by decide) ?_
  have hMo := hM
  refine c_newa (t := 67) (atype := .int) (n' := 40) B hX.out hA hM kd67 aw67 rfl rfl (fun _ => va_RA_i) acc_int hav_int (by decide) (by omega) (show 40 ≤ 40 ∧ 40 ≤ 40 from by omega) (by show 0 + 1 + dz38 + 1 + 1 + 1 ≤ 12; omega) (by show 0 + 12 + dl39 + 8 + 40 + 40 ≤ 260; omega) dX6_init_44 (fun b102 L103 T104 N105 H t106 hT107 hN108 hM => ?_)
  have z109 : T b102 = 0 := T0_x hF t106 (nm1 (tne t106 t98 (by decide)))
  have t110 : T104 b102 = 67 := by rw [hT107, va_up_self]
  have n111 : N105 b102 = 40 := by rw [hN108, va_up_self]
  replace hF : Fr mo_X6_init [a_this] T N I J R T104 N105 I35 J36 R99 := hF.new t106 hT107 hN108
  have zz112 := hMo.2.2.2.2.2.1 b102 t106
  clear hMo
  have t113 : T104 a_this = 35 := upT hT107 t106 t98 (by decide)
  refine c_putr (k := 11) (v := b102 + 1) pk_X6 B hM t113 kd35 rfl (by decide) fl_X6_32 (Or.inr ⟨rfl, hm, rfl⟩) dX6_init_46 rfl rfl ⟨rfl, fun _ => rfl, rfl, fun _ => rfl⟩ (Or.inl rfl) (fun R114 H locs hu115 hM => ?_)
  have e116 : R114 a_this 11 = b102 + 1 := w2_at hu115
  replace hF : Fr mo_X6_init [a_this] T N I J R T104 N105 I35 J36 R114 := hF.wr hu115 (fun _ h => absurd (List.mem_singleton.mpr rfl) h)
  refine lv_aload_n B.1 B.2.1 dX6_init_49 rfl (lv_at hl 0 rfl) ?_
  refine q_con B dX6_init_50 ?_
  refine c_puti (k := 2) pk_X6 B hM t113 kd35 rfl (by decide) fl_X6_35 (Or.inl rfl) dX6_init_51 rfl rfl rfl (show (-2147483648 : Int) ≤ -1 from by omega) (show -1 ≤ (2147483647 : Int) from by omega) (fun I117 H locs hu118 hM => ?_)
  have e119 : I117 a_this 2 = -1 := w2_at hu118
  replace hF : Fr mo_X6_init [a_this] T N I J R T104 N105 I117 J36 R114 := hF.wi hu118 (fun _ h => absurd (List.mem_singleton.mpr rfl) h)
  refine lv_aload_n B.1 B.2.1 dX6_init_54 rfl (lv_at hl 0 rfl) ?_
  refine q_con B dX6_init_55 ?_
  refine c_puti (k := 5) pk_X6 B hM t113 kd35 rfl (by decide) fl_X6_39 (Or.inl rfl) dX6_init_56 rfl rfl rfl (show (-2147483648 : Int) ≤ 0 from by omega) (show 0 ≤ (2147483647 : Int) from by omega) (fun I120 H locs hu121 hM => ?_)
  have e122 : I120 a_this 5 = 0 := w2_at hu121
  replace hF : Fr mo_X6_init [a_this] T N I J R T104 N105 I120 J36 R114 := hF.wi hu121 (fun _ h => absurd (List.mem_singleton.mpr rfl) h)
  refine lv_aload_n B.1 B.2.1 dX6_init_59 rfl (lv_at hl 0 rfl) ?_
  refine lv_aload_n B.1 B.2.1 dX6_init_60 rfl (lv_at hl 1 rfl) ?_
  have t123 : T104 a_tok = 3 := hF.tt t_tok (by decide) (nm1 (tne t_tok t_this (by decide)))
  obtain ⟨b124, e125, t126⟩ := g3_0 hC0 t_tok
  have e127 : R114 a_tok 0 = b124 + 1 := (hF.r t_tok (by decide) (nm1 (tne t_tok t_this (by decide))) rfl).trans e125
  refine c_getn (k := 0) pk_X9 B hM t123 kd3 rfl (by decide) fl_X6_42 dX6_init_61 e127 ?_
  refine q_con B dX6_init_64 ?_
  have t128 : T104 b124 = 62 := hF.tt t126 (by decide) (nm1 (tne t126 t_this (by decide)))
  have n129 : 3001 ≤ N105 b124 ∧ N105 b124 ≤ 3001 := gn62 hM.2.2.2.2.2.2.1 t128
  obtain ⟨x130, e131⟩ : ∃ v, I b124 ((0 : Int).toNat) = v := ⟨_, rfl⟩
  have e132 : I120 b124 ((0 : Int).toNat) = x130 := (hF.i t126 (by decide) (nm1 (tne t126 t_this (by decide))) (by rw [cd_arr (j := 0) (by decide)]; rfl)).trans e131
  have r133 : (-2147483648 : Int) ≤ x130 ∧ x130 ≤ 2147483647 := by rw [← e132]; exact ga62 hM.2.2.2.2.2.2.1 t128 (by omega)
  refine c_ild B hM t128 kd62 an62 dX6_init_65 (by omega) (by omega) e132 ?_
  refine c_puti (k := 6) pk_X6 B hM t113 kd35 rfl (by decide) fl_X6_47 (Or.inl rfl) dX6_init_66 rfl rfl rfl (show (-2147483648 : Int) ≤ x130 from by omega) (show x130 ≤ (2147483647 : Int) from by omega) (fun I134 H locs hu135 hM => ?_)
  have e136 : I134 a_this 6 = x130 := w2_at hu135
  replace hF : Fr mo_X6_init [a_this] T N I J R T104 N105 I134 J36 R114 := hF.wi hu135 (fun _ h => absurd (List.mem_singleton.mpr rfl) h)
  refine lv_aload_n B.1 B.2.1 dX6_init_69 rfl (lv_at hl 0 rfl) ?_
  refine lv_aload_n B.1 B.2.1 dX6_init_70 rfl (lv_at hl 1 rfl) ?_
  obtain ⟨b137, e138, t139⟩ := g3_2 hC0 t_tok
  have e140 : R114 a_tok 2 = b137 + 1 := (hF.r t_tok (by decide) (nm1 (tne t_tok t_this (by decide))) rfl).trans e138
  refine c_getn (k := 2) pk_X9 B hM t123 kd3 rfl (by decide) fl_X6_50 dX6_init_71 e140 ?_
  refine q_con B dX6_init_74 ?_
  have t141 : T104 b137 = 64 := hF.tt t139 (by decide) (nm1 (tne t139 t_this (by decide)))
  have n142 : 3001 ≤ N105 b137 ∧ N105 b137 ≤ 3001 := gn64 hM.2.2.2.2.2.2.1 t141
  obtain ⟨w143, e144⟩ : ∃ v, J b137 ((0 : Int).toNat) = v := ⟨_, rfl⟩
  have e145 : J36 b137 ((0 : Int).toNat) = w143 := (hF.j t139 (by decide) (nm1 (tne t139 t_this (by decide))) (by rw [cd_arr (j := 0) (by decide)]; rfl)).trans e144
  refine c_lld B hM t141 kd64 an64 dX6_init_75 (by omega) (by omega) e145 ?_
  refine c_putl (k := 7) pk_X6 B hM t113 kd35 rfl (by decide) fl_X6_54 (Or.inl rfl) dX6_init_76 rfl rfl (fun J146 H locs hu147 hM => ?_)
  have e148 : J146 a_this 7 = w143 := w2_at hu147
  replace hF : Fr mo_X6_init [a_this] T N I J R T104 N105 I134 J146 R114 := hF.wj hu147 (fun _ h => absurd (List.mem_singleton.mpr rfl) h)
  have e149 : R84 a_this 0 = b20 + 1 := (w2_ne hu85 (Or.inr (by decide))).trans e71
  have e150 : R99 a_this 0 = b20 + 1 := (w2_ne hu100 (Or.inr (by decide))).trans e149
  have e151 : R114 a_this 0 = b20 + 1 := (w2_ne hu115 (Or.inr (by decide))).trans e150
  have e152 : I35 a_this 1 = 0 := (hFc40.i t41 (by decide) (nm1 (tne t41 t27 (by decide))) rfl).trans e2
  have e153 : I117 a_this 1 = 0 := (w2_ne hu118 (Or.inr (by decide))).trans e152
  have e154 : I120 a_this 1 = 0 := (w2_ne hu121 (Or.inr (by decide))).trans e153
  have e155 : I134 a_this 1 = 0 := (w2_ne hu135 (Or.inr (by decide))).trans e154
  have e156 : I120 a_this 2 = -1 := (w2_ne hu121 (Or.inr (by decide))).trans e119
  have e157 : I134 a_this 2 = -1 := (w2_ne hu135 (Or.inr (by decide))).trans e156
  have e158 : R17 a_this 3 = a_tok + 1 := (w2_ne hu18 (Or.inr (by decide))).trans e16
  have e159 : R37 a_this 3 = a_tok + 1 := (hFc40.r t41 (by decide) (nm1 (tne t41 t27 (by decide))) rfl).trans e158
  have e160 : R69 a_this 3 = a_tok + 1 := (w2_ne hu70 (Or.inr (by decide))).trans e159
  have e161 : R84 a_this 3 = a_tok + 1 := (w2_ne hu85 (Or.inr (by decide))).trans e160
  have e162 : R99 a_this 3 = a_tok + 1 := (w2_ne hu100 (Or.inr (by decide))).trans e161
  have e163 : R114 a_this 3 = a_tok + 1 := (w2_ne hu115 (Or.inr (by decide))).trans e162
  have e164 : R37 a_this 4 = a_known := (hFc40.r t41 (by decide) (nm1 (tne t41 t27 (by decide))) rfl).trans e19
  have e165 : R69 a_this 4 = a_known := (w2_ne hu70 (Or.inr (by decide))).trans e164
  have e166 : R84 a_this 4 = a_known := (w2_ne hu85 (Or.inr (by decide))).trans e165
  have e167 : R99 a_this 4 = a_known := (w2_ne hu100 (Or.inr (by decide))).trans e166
  have e168 : R114 a_this 4 = a_known := (w2_ne hu115 (Or.inr (by decide))).trans e167
  have e169 : I134 a_this 5 = 0 := (w2_ne hu135 (Or.inr (by decide))).trans e122
  have e170 : R99 a_this 8 = b72 + 1 := (w2_ne hu100 (Or.inr (by decide))).trans e86
  have e171 : R114 a_this 8 = b72 + 1 := (w2_ne hu115 (Or.inr (by decide))).trans e170
  have e172 : I35 a_this 9 = 0 := (hFc40.i t41 (by decide) (nm1 (tne t41 t27 (by decide))) rfl).trans e10
  have e173 : I117 a_this 9 = 0 := (w2_ne hu118 (Or.inr (by decide))).trans e172
  have e174 : I120 a_this 9 = 0 := (w2_ne hu121 (Or.inr (by decide))).trans e173
  have e175 : I134 a_this 9 = 0 := (w2_ne hu135 (Or.inr (by decide))).trans e174
  have e176 : R114 a_this 10 = b87 + 1 := (w2_ne hu115 (Or.inr (by decide))).trans e101
  have e177 : I35 a_this 12 = 0 := (hFc40.i t41 (by decide) (nm1 (tne t41 t27 (by decide))) rfl).trans e13
  have e178 : I117 a_this 12 = 0 := (w2_ne hu118 (Or.inr (by decide))).trans e177
  have e179 : I120 a_this 12 = 0 := (w2_ne hu121 (Or.inr (by decide))).trans e178
  have e180 : I134 a_this 12 = 0 := (w2_ne hu135 (Or.inr (by decide))).trans e179
  have t183 : T74 b20 = 6 := upT hT77 t76 t43 (by decide)
  have t184 : T89 b20 = 6 := upT hT92 t91 t183 (by decide)
  have t185 : T104 b20 = 6 := upT hT107 t106 t184 (by decide)
  have q186 : a_known = 0 ∨ ∃ b, a_known = b + 1 ∧ T104 b = 6 := qFr hF q_known (by decide) (fun b hb => nm1 (tne hb t_this (by decide)))
  have t187 : T89 b72 = 65 := upT hT92 t91 t80 (by decide)
  have t188 : T104 b72 = 65 := upT hT107 t106 t187 (by decide)
  have t189 : T104 b87 = 66 := upT hT107 t106 t95 (by decide)
  obtain ⟨T181, hT182⟩ : ∃ X, X = va_up T104 a_this 7 := ⟨_, rfl⟩
  have hn9 : 13 ≤ N105 a_this ∧ N105 a_this ≤ 13 := hM.2.2.2.2.2.2.1.n t113 (by decide)
  have hty190 : TY T181 N105 I134 R114 a_this := by
    have h9 : T181 a_this = 7 := by rw [hT182, va_up_self]
    unfold TY; rw [h9]
    refine ⟨hn9.1, hn9.2, fun k hk => ?_⟩
    have hk9 : k = 0 ∨ k = 1 ∨ k = 2 ∨ k = 3 ∨ k = 4 ∨ k = 5 ∨ k = 6 ∨ k = 7 ∨ k = 8 ∨ k = 9 ∨ k = 10 ∨ k = 11 ∨ k = 12 := by omega
    rcases hk9 with rfl | rfl | rfl | rfl | rfl | rfl | rfl | rfl | rfl | rfl | rfl | rfl | rfl
    · exact ⟨hM.2.2.2.2.2.2.1.io (t := 35) t113 (by decide) (by decide), (by rw [e151]; exact rokR (t := 6) (by rw [hT182, va_up_ne _ _ (tne t185 t113 (by decide))]; exact t185) rfl)⟩
    · exact ⟨hM.2.2.2.2.2.2.1.io (t := 35) t113 (by decide) (by decide), Or.inl rfl⟩
    · exact ⟨hM.2.2.2.2.2.2.1.io (t := 35) t113 (by decide) (by decide), Or.inl rfl⟩
    · exact ⟨hM.2.2.2.2.2.2.1.io (t := 35) t113 (by decide) (by decide), (by rw [e163]; exact rokR (t := 3) (by rw [hT182, va_up_ne _ _ (tne t123 t113 (by decide))]; exact t123) rfl)⟩
    · exact ⟨hM.2.2.2.2.2.2.1.io (t := 35) t113 (by decide) (by decide), (by rw [e168]; exact rokQ (qTag hT182 q186 t113 (by decide)) rfl)⟩
    · exact ⟨(by rw [e169]; exact (show (0 : Int) ≤ 0 ∧ (0 : Int) ≤ 3000 from by omega)), Or.inl rfl⟩
    · exact ⟨hM.2.2.2.2.2.2.1.io (t := 35) t113 (by decide) (by decide), Or.inl rfl⟩
    · exact ⟨hM.2.2.2.2.2.2.1.io (t := 35) t113 (by decide) (by decide), Or.inl rfl⟩
    · exact ⟨hM.2.2.2.2.2.2.1.io (t := 35) t113 (by decide) (by decide), (by rw [e171]; exact rokR (t := 65) (by rw [hT182, va_up_ne _ _ (tne t188 t113 (by decide))]; exact t188) rfl)⟩
    · exact ⟨(by rw [e175]; exact (show (0 : Int) ≤ 0 ∧ (0 : Int) ≤ 8 from by omega)), Or.inl rfl⟩
    · exact ⟨hM.2.2.2.2.2.2.1.io (t := 35) t113 (by decide) (by decide), (by rw [e176]; exact rokR (t := 66) (by rw [hT182, va_up_ne _ _ (tne t189 t113 (by decide))]; exact t189) rfl)⟩
    · exact ⟨hM.2.2.2.2.2.2.1.io (t := 35) t113 (by decide) (by decide), (by rw [e116]; exact rokR (t := 67) (by rw [hT182, va_up_ne _ _ (tne t110 t113 (by decide))]; exact t110) rfl)⟩
    · exact ⟨(by rw [e180]; exact (show (0 : Int) ≤ 0 ∧ (0 : Int) ≤ 40 from by omega)), Or.inl rfl⟩
  have hM := hM.tag (t := 7) t113 (by decide) (by decide) rfl (by decide) hT182 hty190 (XI.tag0 hM.2.2.2.2.2.2.1 hM.2.2.2.2.2.2.2 t113 (by decide) hT182 (fun h h2 => by omega) (fun h => by omega) (fun h => by omega) (fun h => by omega) (fun h => by omega))
  replace hF : Fr mo_X6_init [a_this] T N I J R T181 N105 I134 J146 R114 := hF.tag hT182 (fun _ => List.mem_singleton.mpr rfl)
  have t191 : T181 a_this = 7 := by rw [hT182, va_up_self]
  refine g_vret B hM dX6_init_79 ⟨by show 0 + 1 + dz38 + 1 + 1 + 1 ≤ 12; omega, by show 0 + 12 + dl39 + 8 + 40 + 40 ≤ 260; omega⟩ ?_
  rw [← hPST]
  exact ⟨rfl, hF, t191, by first | omega | assumption | exact trivial, by first | omega | assumption | exact trivial⟩
