def mo_X0_initb : List Nat := []
set_option maxHeartbeats 1000000 in
set_option maxRecDepth 20000 in
theorem k_X0_initb (l : Launch) (D : va_G) (dA : Nat → ClassId) (eA : Nat) (L : List Nat) (T N : Nat → Nat) (I : Nat → Nat → Int) (J : Nat → Nat → Int64) (R : Nat → Nat → Nat) (a_this : Nat) (t_this : T a_this = 34) (z_this : ∀ k, I a_this k = 0 ∧ J a_this k = 0 ∧ R a_this k = 0) : GC l yX0_init cX0_init 1 none ({ frames := 4, cells := 8, slots := 150, locals := 110 }) D dA eA L T N I J R [.ref a_this] 8 150 (gV (fun L' T' N' I' J' R' dz dl => Fr mo_X0_initb [a_this] T N I J R T' N' I' J' R' ∧ T' a_this = 6 ∧ (dz ≤ 8 ∧ dl ≤ 150 ∧ I' (R' a_this 0 - 1) 2 = 0 ∧ I' (R' a_this 1 - 1) 2 = 0 ∧ I' (R' a_this 2 - 1) 2 = 0 ∧ I' (R' a_this 3 - 1) 2 = 0 ∧ I' a_this 5 = 0 ∧ T (R' a_this 0 - 1) = 0))) := by
  generalize hPST : (gV (fun L' T' N' I' J' R' dz dl => Fr mo_X0_initb [a_this] T N I J R T' N' I' J' R' ∧ T' a_this = 6 ∧ (dz ≤ 8 ∧ dl ≤ 150 ∧ I' (R' a_this 0 - 1) 2 = 0 ∧ I' (R' a_this 1 - 1) 2 = 0 ∧ I' (R' a_this 2 - 1) 2 = 0 ∧ I' (R' a_this 3 - 1) 2 = 0 ∧ I' a_this 5 = 0 ∧ T (R' a_this 0 - 1) = 0))) = PST
  refine g_enter (own := RX0) (by decide) rfl (Nat.le_of_ble_eq_true rfl) (fun p e s m args below meth c ls hm B hX hM hl => ?_)
  have hC0 := hM.2.2.2.2.2.2.1
  have hW0 := hM.2.2.2
  have hF : Fr mo_X0_initb [a_this] T N I J R T N I J R := Fr.rf
  have hA : ∀ q, s.heap.size ≤ q → cF dA L T N I J R s.heap.size q := fun q h => Or.inr h
  have hl : lv_has ls 1 [(0, .ref a_this)] := hl
  have e1 : R a_this 0 = 0 := (z_this 0).2.2
  have e2 : R a_this 1 = 0 := (z_this 1).2.2
  have e3 : R a_this 2 = 0 := (z_this 2).2.2
  have e4 : R a_this 3 = 0 := (z_this 3).2.2
  have e5 : R a_this 4 = 0 := (z_this 4).2.2
  have e6 : I a_this 5 = 0 := (z_this 5).1
  have e7 : I a_this 6 = 0 := (z_this 6).1
  have e8 : R a_this 7 = 0 := (z_this 7).2.2
  have e9 : R a_this 8 = 0 := (z_this 8).2.2
  have e10 : R a_this 9 = 0 := (z_this 9).2.2
  have e11 : R a_this 10 = 0 := (z_this 10).2.2
  have e12 : I a_this 11 = 0 := (z_this 11).1
  refine lv_aload_n B.1 B.2.1 dX0_init_0 rfl (lv_at hl 0 rfl) ?_
  refine c_obj B ol_X0_3 hl.1 (Nat.le_of_ble_eq_true rfl) (Nat.le_of_ble_eq_true rfl) dX0_init_1 ?_
  refine lv_aload_n B.1 B.2.1 dX0_init_4 rfl (lv_at hl 0 rfl) ?_
  have hMo := hM
  refine c_new (t := 43) pk_Jx4a65c B hX.out hA hM kd43 df_Jx4a65c rfl rfl (by decide) cl_X0_9 in_Jx4a65c ini_Jx4a65c (by show 0 + 1 ≤ 8; omega) (by show 0 + 3 ≤ 150; omega) dX0_init_5 (fun b13 L14 T15 N16 H t17 hT18 hN19 hM => ?_)
  have t20 : T15 b13 = 43 := by rw [hT18, va_up_self]
  have n21 : N16 b13 = 3 := by rw [hN19, va_up_self]
  replace hF : Fr mo_X0_initb [a_this] T N I J R T15 N16 I J R := hF.new t17 hT18 hN19
  have zz22 := hMo.2.2.2.2.2.1 b13 t17
  clear hMo
  refine lv_dup B.1 B.2.1 dX0_init_8 rfl ?_
  have hv23 : (15 ≤ 15) ∧ (15 ≤ 23) := by first | omega | exact ⟨by first | omega | assumption | exact trivial, by first | omega | assumption | exact trivial⟩
  refine z_callv hM hA (c_runI (n := 0) (as := []) (rest := [.ref b13, .ref a_this]) B hX hA hM hl.1 (k_Jx4a65c_init_da8c8 l D dA eA L14 T15 N16 I J R b13 t20 zz22 15 hv23.1 hv23.2 _ _) ml_X0_11 nm_Jx4a65c_init_da8c8 ⟨rfl, rfl⟩ ⟨Nat.le_of_ble_eq_true rfl, Nat.le_of_ble_eq_true rfl⟩ dX0_init_9 rfl rfl (Nat.le_of_ble_eq_true rfl) ⟨by show 0 + 1 + 0 ≤ 8; omega, by show 0 + 3 + 0 ≤ 150; omega⟩) (fun L26 T27 N28 I29 J30 R31 dz32 dl33 H locs hp24 hMn => ?_)
  obtain ⟨yJ30, hFc34, hp24a⟩ := hp24
  obtain rfl := yJ30.symm
  have t35 : T15 a_this = 34 := upT hT18 t17 t_this (by decide)
  replace hF : Fr mo_X0_initb [a_this] T N I J R T27 N28 I29 J R31 := hF.trans hFc34 (by decide) (e2x (fun h => absurd t17 h))
  have hM := hMn
  clear hMn
  obtain ⟨t36, hp24a⟩ := hp24a
  replace hp24a : I29 b13 2 = 0 ∧ N28 (R31 b13 1 - 1) = 0 := hp24a
  obtain ⟨hp24a_0, hp24a_1⟩ := hp24a
  have t37 : T27 a_this = 34 := hFc34.tt t35 (by decide) (nm1 (tne t35 t20 (by decide)))
  refine c_putr (k := 0) (v := b13 + 1) pk_X0 B hM t37 kd34 rfl (by decide) fl_X0_12 (Or.inr ⟨rfl, hm, rfl⟩) dX0_init_12 rfl rfl ⟨rfl, fun _ => rfl, rfl, fun _ => rfl⟩ (Or.inl rfl) (fun R38 H locs hu39 hM => ?_)
  have e40 : R38 a_this 0 = b13 + 1 := w2_at hu39
  replace hF : Fr mo_X0_initb [a_this] T N I J R T27 N28 I29 J R38 := hF.wr hu39 (fun _ h => absurd (List.mem_singleton.mpr rfl) h)
  refine lv_aload_n B.1 B.2.1 dX0_init_15 rfl (lv_at hl 0 rfl) ?_
  have hMo := hM
  refine c_new (t := 43) pk_Jx4a65c B hX.out hA hM kd43 df_Jx4a65c rfl rfl (by decide) cl_X0_9 in_Jx4a65c ini_Jx4a65c (by show 0 + 1 + 1 ≤ 8; omega) (by show 0 + 3 + 3 ≤ 150; omega) dX0_init_16 (fun b41 L42 T43 N44 H t45 hT46 hN47 hM => ?_)
  have z48 : T b41 = 0 := T0_x hF t45 (nm1 (tne t45 t37 (by decide)))
  have t49 : T43 b41 = 43 := by rw [hT46, va_up_self]
  have n50 : N44 b41 = 3 := by rw [hN47, va_up_self]
  replace hF : Fr mo_X0_initb [a_this] T N I J R T43 N44 I29 J R38 := hF.new t45 hT46 hN47
  have zz51 := hMo.2.2.2.2.2.1 b41 t45
  clear hMo
  refine lv_dup B.1 B.2.1 dX0_init_19 rfl ?_
  have hv52 : (15 ≤ 16) ∧ (16 ≤ 23) := by first | omega | exact ⟨by first | omega | assumption | exact trivial, by first | omega | assumption | exact trivial⟩
  refine z_callv hM hA (c_runI (n := 0) (as := []) (rest := [.ref b41, .ref a_this]) B hX hA hM hl.1 (k_Jx4a65c_init_da8c8 l D dA eA L42 T43 N44 I29 J R38 b41 t49 zz51 16 hv52.1 hv52.2 _ _) ml_X0_11 nm_Jx4a65c_init_da8c8 ⟨rfl, rfl⟩ ⟨Nat.le_of_ble_eq_true rfl, Nat.le_of_ble_eq_true rfl⟩ dX0_init_20 rfl rfl (Nat.le_of_ble_eq_true rfl) ⟨by show 0 + 1 + 1 + 0 ≤ 8; omega, by show 0 + 3 + 3 + 0 ≤ 150; omega⟩) (fun L55 T56 N57 I58 J59 R60 dz61 dl62 H locs hp53 hMn => ?_)
  obtain ⟨yJ59, hFc63, hp53a⟩ := hp53
  obtain rfl := yJ59.symm
  have t64 : T43 a_this = 34 := upT hT46 t45 t37 (by decide)
  have t65 : T43 b13 = 15 := upT hT46 t45 t36 (by decide)
  replace hF : Fr mo_X0_initb [a_this] T N I J R T56 N57 I58 J R60 := hF.trans hFc63 (by decide) (e2x (fun h => absurd z48 h))
  have hM := hMn
  clear hMn
  obtain ⟨t66, hp53a⟩ := hp53a
  replace hp53a : I58 b41 2 = 0 ∧ N57 (R60 b41 1 - 1) = 0 := hp53a
  obtain ⟨hp53a_0, hp53a_1⟩ := hp53a
  have t67 : T56 a_this = 34 := hFc63.tt t64 (by decide) (nm1 (tne t64 t49 (by decide)))
  refine c_putr (k := 1) (v := b41 + 1) pk_X0 B hM t67 kd34 rfl (by decide) fl_X0_18 (Or.inr ⟨rfl, hm, rfl⟩) dX0_init_23 rfl rfl ⟨rfl, fun _ => rfl, rfl, fun _ => rfl⟩ (Or.inl rfl) (fun R68 H locs hu69 hM => ?_)
  have e70 : R68 a_this 1 = b41 + 1 := w2_at hu69
  replace hF : Fr mo_X0_initb [a_this] T N I J R T56 N57 I58 J R68 := hF.wr hu69 (fun _ h => absurd (List.mem_singleton.mpr rfl) h)
  refine lv_aload_n B.1 B.2.1 dX0_init_26 rfl (lv_at hl 0 rfl) ?_
  have hMo := hM
  refine c_new (t := 43) pk_Jx4a65c B hX.out hA hM kd43 df_Jx4a65c rfl rfl (by decide) cl_X0_9 in_Jx4a65c ini_Jx4a65c (by show 0 + 1 + 1 + 1 ≤ 8; omega) (by show 0 + 3 + 3 + 3 ≤ 150; omega) dX0_init_27 (fun b71 L72 T73 N74 H t75 hT76 hN77 hM => ?_)
  have z78 : T b71 = 0 := T0_x hF t75 (nm1 (tne t75 t67 (by decide)))
  have t79 : T73 b71 = 43 := by rw [hT76, va_up_self]
  have n80 : N74 b71 = 3 := by rw [hN77, va_up_self]
  replace hF : Fr mo_X0_initb [a_this] T N I J R T73 N74 I58 J R68 := hF.new t75 hT76 hN77
  have zz81 := hMo.2.2.2.2.2.1 b71 t75
  clear hMo
  refine lv_dup B.1 B.2.1 dX0_init_30 rfl ?_
  have hv82 : (15 ≤ 17) ∧ (17 ≤ 23) := by first | omega | exact ⟨by first | omega | assumption | exact trivial, by first | omega | assumption | exact trivial⟩
  refine z_callv hM hA (c_runI (n := 0) (as := []) (rest := [.ref b71, .ref a_this]) B hX hA hM hl.1 (k_Jx4a65c_init_da8c8 l D dA eA L72 T73 N74 I58 J R68 b71 t79 zz81 17 hv82.1 hv82.2 _ _) ml_X0_11 nm_Jx4a65c_init_da8c8 ⟨rfl, rfl⟩ ⟨Nat.le_of_ble_eq_true rfl, Nat.le_of_ble_eq_true rfl⟩ dX0_init_31 rfl rfl (Nat.le_of_ble_eq_true rfl) ⟨by show 0 + 1 + 1 + 1 + 0 ≤ 8; omega, by show 0 + 3 + 3 + 3 + 0 ≤ 150; omega⟩) (fun L85 T86 N87 I88 J89 R90 dz91 dl92 H locs hp83 hMn => ?_)
  obtain ⟨yJ89, hFc93, hp83a⟩ := hp83
  obtain rfl := yJ89.symm
  have t94 : T73 a_this = 34 := upT hT76 t75 t67 (by decide)
  have t95 : T56 b13 = 15 := hFc63.tt t65 (by decide) (nm1 (tne t65 t49 (by decide)))
  have t96 : T73 b13 = 15 := upT hT76 t75 t95 (by decide)
  have t97 : T73 b41 = 16 := upT hT76 t75 t66 (by decide)
  replace hF : Fr mo_X0_initb [a_this] T N I J R T86 N87 I88 J R90 := hF.trans hFc93 (by decide) (e2x (fun h => absurd z78 h))
  have hM := hMn
  clear hMn
  obtain ⟨t98, hp83a⟩ := hp83a
  replace hp83a : I88 b71 2 = 0 ∧ N87 (R90 b71 1 - 1) = 0 := hp83a
  obtain ⟨hp83a_0, hp83a_1⟩ := hp83a
  have t99 : T86 a_this = 34 := hFc93.tt t94 (by decide) (nm1 (tne t94 t79 (by decide)))
  refine c_putr (k := 2) (v := b71 + 1) pk_X0 B hM t99 kd34 rfl (by decide) fl_X0_21 (Or.inr ⟨rfl, hm, rfl⟩) dX0_init_34 rfl rfl ⟨rfl, fun _ => rfl, rfl, fun _ => rfl⟩ (Or.inl rfl) (fun R100 H locs hu101 hM => ?_)
  have e102 : R100 a_this 2 = b71 + 1 := w2_at hu101
  replace hF : Fr mo_X0_initb [a_this] T N I J R T86 N87 I88 J R100 := hF.wr hu101 (fun _ h => absurd (List.mem_singleton.mpr rfl) h)
  refine lv_aload_n B.1 B.2.1 dX0_init_37 rfl (lv_at hl 0 rfl) ?_
  have hMo := hM
  refine c_new (t := 43) pk_Jx4a65c B hX.out hA hM kd43 df_Jx4a65c rfl rfl (by decide) cl_X0_9 in_Jx4a65c ini_Jx4a65c (by show 0 + 1 + 1 + 1 + 1 ≤ 8; omega) (by show 0 + 3 + 3 + 3 + 3 ≤ 150; omega) dX0_init_38 (fun b103 L104 T105 N106 H t107 hT108 hN109 hM => ?_)
  have z110 : T b103 = 0 := T0_x hF t107 (nm1 (tne t107 t99 (by decide)))
  have t111 : T105 b103 = 43 := by rw [hT108, va_up_self]
  have n112 : N106 b103 = 3 := by rw [hN109, va_up_self]
  replace hF : Fr mo_X0_initb [a_this] T N I J R T105 N106 I88 J R100 := hF.new t107 hT108 hN109
  have zz113 := hMo.2.2.2.2.2.1 b103 t107
  clear hMo
  refine lv_dup B.1 B.2.1 dX0_init_41 rfl ?_
  have hv114 : (15 ≤ 18) ∧ (18 ≤ 23) := by first | omega | exact ⟨by first | omega | assumption | exact trivial, by first | omega | assumption | exact trivial⟩
  refine z_callv hM hA (c_runI (n := 0) (as := []) (rest := [.ref b103, .ref a_this]) B hX hA hM hl.1 (k_Jx4a65c_init_da8c8 l D dA eA L104 T105 N106 I88 J R100 b103 t111 zz113 18 hv114.1 hv114.2 _ _) ml_X0_11 nm_Jx4a65c_init_da8c8 ⟨rfl, rfl⟩ ⟨Nat.le_of_ble_eq_true rfl, Nat.le_of_ble_eq_true rfl⟩ dX0_init_42 rfl rfl (Nat.le_of_ble_eq_true rfl) ⟨by show 0 + 1 + 1 + 1 + 1 + 0 ≤ 8; omega, by show 0 + 3 + 3 + 3 + 3 + 0 ≤ 150; omega⟩) (fun L117 T118 N119 I120 J121 R122 dz123 dl124 H locs hp115 hMn => ?_)
  obtain ⟨yJ121, hFc125, hp115a⟩ := hp115
  obtain rfl := yJ121.symm
  have t126 : T105 a_this = 34 := upT hT108 t107 t99 (by decide)
  have t127 : T86 b13 = 15 := hFc93.tt t96 (by decide) (nm1 (tne t96 t79 (by decide)))
  have t128 : T105 b13 = 15 := upT hT108 t107 t127 (by decide)
  have t129 : T86 b41 = 16 := hFc93.tt t97 (by decide) (nm1 (tne t97 t79 (by decide)))
  have t130 : T105 b41 = 16 := upT hT108 t107 t129 (by decide)
  have t131 : T105 b71 = 17 := upT hT108 t107 t98 (by decide)
  replace hF : Fr mo_X0_initb [a_this] T N I J R T118 N119 I120 J R122 := hF.trans hFc125 (by decide) (e2x (fun h => absurd z110 h))
  have hM := hMn
  clear hMn
  obtain ⟨t132, hp115a⟩ := hp115a
  replace hp115a : I120 b103 2 = 0 ∧ N119 (R122 b103 1 - 1) = 0 := hp115a
  obtain ⟨hp115a_0, hp115a_1⟩ := hp115a
  have t133 : T118 a_this = 34 := hFc125.tt t126 (by decide) (nm1 (tne t126 t111 (by decide)))
  refine c_putr (k := 3) (v := b103 + 1) pk_X0 B hM t133 kd34 rfl (by decide) fl_X0_24 (Or.inr ⟨rfl, hm, rfl⟩) dX0_init_45 rfl rfl ⟨rfl, fun _ => rfl, rfl, fun _ => rfl⟩ (Or.inl rfl) (fun R134 H locs hu135 hM => ?_)
  have e136 : R134 a_this 3 = b103 + 1 := w2_at hu135
  replace hF : Fr mo_X0_initb [a_this] T N I J R T118 N119 I120 J R134 := hF.wr hu135 (fun _ h => absurd (List.mem_singleton.mpr rfl) h)
  refine lv_aload_n B.1 B.2.1 dX0_init_48 rfl (lv_at hl 0 rfl) ?_
  refine q_bip B dX0_init_49 (by decide) ?_
  have hMo := hM
  refine c_newA (t := 68) (n' := 6) B hX hA hM kd68 aw68 cl_X0_27 (by omega) (show 6 ≤ 6 ∧ 6 ≤ 6 from by omega) (by show 0 + 1 + 1 + 1 + 1 + 1 ≤ 8; omega) (by show 0 + 3 + 3 + 3 + 3 + 6 ≤ 150; omega) dX0_init_51 (fun b137 L138 T139 N140 H t141 hT142 hN143 hM => ?_)
  have z144 : T b137 = 0 := T0_x hF t141 (nm1 (tne t141 t133 (by decide)))
  have t145 : T139 b137 = 68 := by rw [hT142, va_up_self]
  have n146 : N140 b137 = 6 := by rw [hN143, va_up_self]
  replace hF : Fr mo_X0_initb [a_this] T N I J R T139 N140 I120 J R134 := hF.new t141 hT142 hN143
  have zz147 := hMo.2.2.2.2.2.1 b137 t141
  clear hMo
  have t148 : T139 a_this = 34 := upT hT142 t141 t133 (by decide)
  refine c_putr (k := 4) (v := b137 + 1) pk_X0 B hM t148 kd34 rfl (by decide) fl_X0_29 (Or.inr ⟨rfl, hm, rfl⟩) dX0_init_54 rfl rfl ⟨rfl, fun _ => rfl, rfl, fun _ => rfl⟩ (Or.inl rfl) (fun R149 H locs hu150 hM => ?_)
  have e151 : R149 a_this 4 = b137 + 1 := w2_at hu150
  replace hF : Fr mo_X0_initb [a_this] T N I J R T139 N140 I120 J R149 := hF.wr hu150 (fun _ h => absurd (List.mem_singleton.mpr rfl) h)
  refine lv_aload_n B.1 B.2.1 dX0_init_57 rfl (lv_at hl 0 rfl) ?_
  refine q_bip B dX0_init_58 (by decide) ?_
  have hMo := hM
  refine c_newa (t := 70) (atype := .int) (n' := 8) B hX.out hA hM kd70 aw70 rfl rfl (fun _ => va_RA_i) acc_int hav_int (by decide) (by omega) (show 8 ≤ 8 ∧ 8 ≤ 8 from by omega) (by show 0 + 1 + 1 + 1 + 1 + 1 + 1 ≤ 8; omega) (by show 0 + 3 + 3 + 3 + 3 + 6 + 8 ≤ 150; omega) dX0_init_60 (fun b152 L153 T154 N155 H t156 hT157 hN158 hM => ?_)
  have z159 : T b152 = 0 := T0_x hF t156 (nm1 (tne t156 t148 (by decide)))
  have t160 : T154 b152 = 70 := by rw [hT157, va_up_self]
  have n161 : N155 b152 = 8 := by rw [hN158, va_up_self]
  replace hF : Fr mo_X0_initb [a_this] T N I J R T154 N155 I120 J R149 := hF.new t156 hT157 hN158
  have zz162 := hMo.2.2.2.2.2.1 b152 t156
  clear hMo
  have t163 : T154 a_this = 34 := upT hT157 t156 t148 (by decide)
  refine c_putr (k := 8) (v := b152 + 1) pk_X0 B hM t163 kd34 rfl (by decide) fl_X0_33 (Or.inr ⟨rfl, hm, rfl⟩) dX0_init_62 rfl rfl ⟨rfl, fun _ => rfl, rfl, fun _ => rfl⟩ (Or.inl rfl) (fun R164 H locs hu165 hM => ?_)
  have e166 : R164 a_this 8 = b152 + 1 := w2_at hu165
  replace hF : Fr mo_X0_initb [a_this] T N I J R T154 N155 I120 J R164 := hF.wr hu165 (fun _ h => absurd (List.mem_singleton.mpr rfl) h)
  refine lv_aload_n B.1 B.2.1 dX0_init_65 rfl (lv_at hl 0 rfl) ?_
  refine q_bip B dX0_init_66 (by decide) ?_
  have hMo := hM
  refine c_newa (t := 71) (atype := .long) (n' := 62) B hX.out hA hM kd71 aw71 rfl rfl (fun _ => va_RA_l) acc_long hav_long (by decide) (by omega) (show 62 ≤ 62 ∧ 62 ≤ 62 from by omega) (by show 0 + 1 + 1 + 1 + 1 + 1 + 1 + 1 ≤ 8; omega) (by show 0 + 3 + 3 + 3 + 3 + 6 + 8 + 62 ≤ 150; omega) dX0_init_68 (fun b167 L168 T169 N170 H t171 hT172 hN173 hM => ?_)
  have z174 : T b167 = 0 := T0_x hF t171 (nm1 (tne t171 t163 (by decide)))
  have t175 : T169 b167 = 71 := by rw [hT172, va_up_self]
  have n176 : N170 b167 = 62 := by rw [hN173, va_up_self]
  replace hF : Fr mo_X0_initb [a_this] T N I J R T169 N170 I120 J R164 := hF.new t171 hT172 hN173
  have zz177 := hMo.2.2.2.2.2.1 b167 t171
  clear hMo
  have t178 : T169 a_this = 34 := upT hT172 t171 t163 (by decide)
  refine c_putr (k := 9) (v := b167 + 1) pk_X0 B hM t178 kd34 rfl (by decide) fl_X0_36 (Or.inr ⟨rfl, hm, rfl⟩) dX0_init_70 rfl rfl ⟨rfl, fun _ => rfl, rfl, fun _ => rfl⟩ (Or.inl rfl) (fun R179 H locs hu180 hM => ?_)
  have e181 : R179 a_this 9 = b167 + 1 := w2_at hu180
  replace hF : Fr mo_X0_initb [a_this] T N I J R T169 N170 I120 J R179 := hF.wr hu180 (fun _ h => absurd (List.mem_singleton.mpr rfl) h)
  refine lv_aload_n B.1 B.2.1 dX0_init_73 rfl (lv_at hl 0 rfl) ?_
  refine q_bip B dX0_init_74 (by decide) ?_
  have hMo := hM
  refine c_newa (t := 72) (atype := .int) (n' := 62) B hX.out hA hM kd72 aw72 rfl rfl (fun _ => va_RA_i) acc_int hav_int (by decide) (by omega) (show 62 ≤ 62 ∧ 62 ≤ 62 from by omega) (by show 0 + 1 + 1 + 1 + 1 + 1 + 1 + 1 + 1 ≤ 8; omega) (by show 0 + 3 + 3 + 3 + 3 + 6 + 8 + 62 + 62 ≤ 150; omega) dX0_init_76 (fun b182 L183 T184 N185 H t186 hT187 hN188 hM => ?_)
  have z189 : T b182 = 0 := T0_x hF t186 (nm1 (tne t186 t178 (by decide)))
  have t190 : T184 b182 = 72 := by rw [hT187, va_up_self]
  have n191 : N185 b182 = 62 := by rw [hN188, va_up_self]
  replace hF : Fr mo_X0_initb [a_this] T N I J R T184 N185 I120 J R179 := hF.new t186 hT187 hN188
  have zz192 := hMo.2.2.2.2.2.1 b182 t186
  clear hMo
  have t193 : T184 a_this = 34 := upT hT187 t186 t178 (by decide)
  refine c_putr (k := 10) (v := b182 + 1) pk_X0 B hM t193 kd34 rfl (by decide) fl_X0_40 (Or.inr ⟨rfl, hm, rfl⟩) dX0_init_78 rfl rfl ⟨rfl, fun _ => rfl, rfl, fun _ => rfl⟩ (Or.inl rfl) (fun R194 H locs hu195 hM => ?_)
  have e196 : R194 a_this 10 = b182 + 1 := w2_at hu195
  replace hF : Fr mo_X0_initb [a_this] T N I J R T184 N185 I120 J R194 := hF.wr hu195 (fun _ h => absurd (List.mem_singleton.mpr rfl) h)
  refine lv_aload_n B.1 B.2.1 dX0_init_81 rfl (lv_at hl 0 rfl) ?_
  have e197 : R179 a_this 8 = b152 + 1 := (w2_ne hu180 (Or.inr (by decide))).trans e166
  have e198 : R194 a_this 8 = b152 + 1 := (w2_ne hu195 (Or.inr (by decide))).trans e197
  refine c_getn (k := 8) pk_X0 B hM t193 kd34 rfl (by decide) fl_X0_33 dX0_init_82 e198 ?_
  refine q_con B dX0_init_85 ?_
  refine q_con B dX0_init_86 ?_
  have t199 : T169 b152 = 70 := upT hT172 t171 t160 (by decide)
  have t200 : T184 b152 = 70 := upT hT187 t186 t199 (by decide)
  have n201 : 8 ≤ N185 b152 ∧ N185 b152 ≤ 8 := gn70 hM.2.2.2.2.2.2.1 t200
  refine c_ist B hM t200 kd70 aq70 dX0_init_87 (by omega) (by omega) (show (-2147483648 : Int) ≤ 1 from by omega) (show 1 ≤ (2147483647 : Int) from by omega) (fun I203 H locs hu202 hM => ?_)
  have e204 : I203 b152 ((0 : Int).toNat) = 1 := w2_at hu202
  replace hF : Fr mo_X0_initb [a_this] T N I J R T184 N185 I203 J R194 := hF.wi hu202 (fun h _ => absurd z159 h)
  refine lv_aload_n B.1 B.2.1 dX0_init_88 rfl (lv_at hl 0 rfl) ?_
  refine q_con B dX0_init_89 ?_
  refine c_puti (k := 6) pk_X0 B hM t193 kd34 rfl (by decide) fl_X0_43 (Or.inl rfl) dX0_init_90 rfl rfl rfl (show (-2147483648 : Int) ≤ 1 from by omega) (show 1 ≤ (2147483647 : Int) from by omega) (fun I205 H locs hu206 hM => ?_)
  have e207 : I205 a_this 6 = 1 := w2_at hu206
  replace hF : Fr mo_X0_initb [a_this] T N I J R T184 N185 I205 J R194 := hF.wi hu206 (fun _ h => absurd (List.mem_singleton.mpr rfl) h)
  refine lv_aload_n B.1 B.2.1 dX0_init_93 rfl (lv_at hl 0 rfl) ?_
  have e208 : R194 a_this 9 = b167 + 1 := (w2_ne hu195 (Or.inr (by decide))).trans e181
  refine c_getn (k := 9) pk_X0 B hM t193 kd34 rfl (by decide) fl_X0_36 dX0_init_94 e208 ?_
  refine q_con B dX0_init_97 ?_
  refine lv_ldc2 B.1 B.2.1 B.2.2.2.1 (B.2.2.2.2.1 _ lc_X0_47) dX0_init_98 ?_
  have t209 : T184 b167 = 71 := upT hT187 t186 t175 (by decide)
  have n210 : 62 ≤ N185 b167 ∧ N185 b167 ≤ 62 := gn71 hM.2.2.2.2.2.2.1 t209
  refine c_lst B hM t209 kd71 an71 dX0_init_101 (by omega) (by omega) (fun J212 H locs hu211 hM => ?_)
  have e213 : J212 b167 ((0 : Int).toNat) = (6384748 : Int64) := w2_at hu211
  replace hF : Fr mo_X0_initb [a_this] T N I J R T184 N185 I205 J212 R194 := hF.wj hu211 (fun h _ => absurd z174 h)
  refine lv_aload_n B.1 B.2.1 dX0_init_102 rfl (lv_at hl 0 rfl) ?_
  refine c_getn (k := 10) pk_X0 B hM t193 kd34 rfl (by decide) fl_X0_40 dX0_init_103 e196 ?_
  refine q_con B dX0_init_106 ?_
  refine q_bip B dX0_init_107 (by decide) ?_
  refine c_ist B hM t190 kd72 aq72 dX0_init_109 (by omega) (by omega) (show (-2147483648 : Int) ≤ 100 from by omega) (show 100 ≤ (2147483647 : Int) from by omega) (fun I215 H locs hu214 hM => ?_)
  have e216 : I215 b182 ((0 : Int).toNat) = 100 := w2_at hu214
  replace hF : Fr mo_X0_initb [a_this] T N I J R T184 N185 I215 J212 R194 := hF.wi hu214 (fun h _ => absurd z189 h)
  refine lv_aload_n B.1 B.2.1 dX0_init_110 rfl (lv_at hl 0 rfl) ?_
  refine q_con B dX0_init_111 ?_
  refine c_puti (k := 11) pk_X0 B hM t193 kd34 rfl (by decide) fl_X0_49 (Or.inl rfl) dX0_init_112 rfl rfl rfl (show (-2147483648 : Int) ≤ 1 from by omega) (show 1 ≤ (2147483647 : Int) from by omega) (fun I217 H locs hu218 hM => ?_)
  have e219 : I217 a_this 11 = 1 := w2_at hu218
  replace hF : Fr mo_X0_initb [a_this] T N I J R T184 N185 I217 J212 R194 := hF.wi hu218 (fun _ h => absurd (List.mem_singleton.mpr rfl) h)
  have e220 : R60 a_this 0 = b13 + 1 := (hFc63.r t64 (by decide) (nm1 (tne t64 t49 (by decide))) rfl).trans e40
  have e221 : R68 a_this 0 = b13 + 1 := (w2_ne hu69 (Or.inr (by decide))).trans e220
  have e222 : R90 a_this 0 = b13 + 1 := (hFc93.r t94 (by decide) (nm1 (tne t94 t79 (by decide))) rfl).trans e221
  have e223 : R100 a_this 0 = b13 + 1 := (w2_ne hu101 (Or.inr (by decide))).trans e222
  have e224 : R122 a_this 0 = b13 + 1 := (hFc125.r t126 (by decide) (nm1 (tne t126 t111 (by decide))) rfl).trans e223
  have e225 : R134 a_this 0 = b13 + 1 := (w2_ne hu135 (Or.inr (by decide))).trans e224
  have e226 : R149 a_this 0 = b13 + 1 := (w2_ne hu150 (Or.inr (by decide))).trans e225
  have e227 : R164 a_this 0 = b13 + 1 := (w2_ne hu165 (Or.inr (by decide))).trans e226
  have e228 : R179 a_this 0 = b13 + 1 := (w2_ne hu180 (Or.inr (by decide))).trans e227
  have e229 : R194 a_this 0 = b13 + 1 := (w2_ne hu195 (Or.inr (by decide))).trans e228
  have e230 : R90 a_this 1 = b41 + 1 := (hFc93.r t94 (by decide) (nm1 (tne t94 t79 (by decide))) rfl).trans e70
  have e231 : R100 a_this 1 = b41 + 1 := (w2_ne hu101 (Or.inr (by decide))).trans e230
  have e232 : R122 a_this 1 = b41 + 1 := (hFc125.r t126 (by decide) (nm1 (tne t126 t111 (by decide))) rfl).trans e231
  have e233 : R134 a_this 1 = b41 + 1 := (w2_ne hu135 (Or.inr (by decide))).trans e232
  have e234 : R149 a_this 1 = b41 + 1 := (w2_ne hu150 (Or.inr (by decide))).trans e233
  have e235 : R164 a_this 1 = b41 + 1 := (w2_ne hu165 (Or.inr (by decide))).trans e234
  have e236 : R179 a_this 1 = b41 + 1 := (w2_ne hu180 (Or.inr (by decide))).trans e235
  have e237 : R194 a_this 1 = b41 + 1 := (w2_ne hu195 (Or.inr (by decide))).trans e236
  have e238 : R122 a_this 2 = b71 + 1 := (hFc125.r t126 (by decide) (nm1 (tne t126 t111 (by decide))) rfl).trans e102
  have e239 : R134 a_this 2 = b71 + 1 := (w2_ne hu135 (Or.inr (by decide))).trans e238
  have e240 : R149 a_this 2 = b71 + 1 := (w2_ne hu150 (Or.inr (by decide))).trans e239
  have e241 : R164 a_this 2 = b71 + 1 := (w2_ne hu165 (Or.inr (by decide))).trans e240
  have e242 : R179 a_this 2 = b71 + 1 := (w2_ne hu180 (Or.inr (by decide))).trans e241
  have e243 : R194 a_this 2 = b71 + 1 := (w2_ne hu195 (Or.inr (by decide))).trans e242
  have e244 : R149 a_this 3 = b103 + 1 := (w2_ne hu150 (Or.inr (by decide))).trans e136
  have e245 : R164 a_this 3 = b103 + 1 := (w2_ne hu165 (Or.inr (by decide))).trans e244
  have e246 : R179 a_this 3 = b103 + 1 := (w2_ne hu180 (Or.inr (by decide))).trans e245
  have e247 : R194 a_this 3 = b103 + 1 := (w2_ne hu195 (Or.inr (by decide))).trans e246
  have e248 : R164 a_this 4 = b137 + 1 := (w2_ne hu165 (Or.inr (by decide))).trans e151
  have e249 : R179 a_this 4 = b137 + 1 := (w2_ne hu180 (Or.inr (by decide))).trans e248
  have e250 : R194 a_this 4 = b137 + 1 := (w2_ne hu195 (Or.inr (by decide))).trans e249
  have e251 : I29 a_this 5 = 0 := (hFc34.i t35 (by decide) (nm1 (tne t35 t20 (by decide))) rfl).trans e6
  have e252 : I58 a_this 5 = 0 := (hFc63.i t64 (by decide) (nm1 (tne t64 t49 (by decide))) rfl).trans e251
  have e253 : I88 a_this 5 = 0 := (hFc93.i t94 (by decide) (nm1 (tne t94 t79 (by decide))) rfl).trans e252
  have e254 : I120 a_this 5 = 0 := (hFc125.i t126 (by decide) (nm1 (tne t126 t111 (by decide))) rfl).trans e253
  have e255 : I203 a_this 5 = 0 := (w2_ne hu202 (Or.inl (tne t193 t200 (by decide)))).trans e254
  have e256 : I205 a_this 5 = 0 := (w2_ne hu206 (Or.inr (by decide))).trans e255
  have e257 : I215 a_this 5 = 0 := (w2_ne hu214 (Or.inl (tne t193 t190 (by decide)))).trans e256
  have e258 : I217 a_this 5 = 0 := (w2_ne hu218 (Or.inr (by decide))).trans e257
  have e259 : I215 a_this 6 = 1 := (w2_ne hu214 (Or.inl (tne t193 t190 (by decide)))).trans e207
  have e260 : I217 a_this 6 = 1 := (w2_ne hu218 (Or.inr (by decide))).trans e259
  have e261 : R31 a_this 7 = 0 := (hFc34.r t35 (by decide) (nm1 (tne t35 t20 (by decide))) rfl).trans e8
  have e262 : R38 a_this 7 = 0 := (w2_ne hu39 (Or.inr (by decide))).trans e261
  have e263 : R60 a_this 7 = 0 := (hFc63.r t64 (by decide) (nm1 (tne t64 t49 (by decide))) rfl).trans e262
  have e264 : R68 a_this 7 = 0 := (w2_ne hu69 (Or.inr (by decide))).trans e263
  have e265 : R90 a_this 7 = 0 := (hFc93.r t94 (by decide) (nm1 (tne t94 t79 (by decide))) rfl).trans e264
  have e266 : R100 a_this 7 = 0 := (w2_ne hu101 (Or.inr (by decide))).trans e265
  have e267 : R122 a_this 7 = 0 := (hFc125.r t126 (by decide) (nm1 (tne t126 t111 (by decide))) rfl).trans e266
  have e268 : R134 a_this 7 = 0 := (w2_ne hu135 (Or.inr (by decide))).trans e267
  have e269 : R149 a_this 7 = 0 := (w2_ne hu150 (Or.inr (by decide))).trans e268
  have e270 : R164 a_this 7 = 0 := (w2_ne hu165 (Or.inr (by decide))).trans e269
  have e271 : R179 a_this 7 = 0 := (w2_ne hu180 (Or.inr (by decide))).trans e270
  have e272 : R194 a_this 7 = 0 := (w2_ne hu195 (Or.inr (by decide))).trans e271
  have t275 : T118 b13 = 15 := hFc125.tt t128 (by decide) (nm1 (tne t128 t111 (by decide)))
  have t276 : T139 b13 = 15 := upT hT142 t141 t275 (by decide)
  have t277 : T154 b13 = 15 := upT hT157 t156 t276 (by decide)
  have t278 : T169 b13 = 15 := upT hT172 t171 t277 (by decide)
  have t279 : T184 b13 = 15 := upT hT187 t186 t278 (by decide)
  have t280 : T118 b41 = 16 := hFc125.tt t130 (by decide) (nm1 (tne t130 t111 (by decide)))
  have t281 : T139 b41 = 16 := upT hT142 t141 t280 (by decide)
  have t282 : T154 b41 = 16 := upT hT157 t156 t281 (by decide)
  have t283 : T169 b41 = 16 := upT hT172 t171 t282 (by decide)
  have t284 : T184 b41 = 16 := upT hT187 t186 t283 (by decide)
  have t285 : T118 b71 = 17 := hFc125.tt t131 (by decide) (nm1 (tne t131 t111 (by decide)))
  have t286 : T139 b71 = 17 := upT hT142 t141 t285 (by decide)
  have t287 : T154 b71 = 17 := upT hT157 t156 t286 (by decide)
  have t288 : T169 b71 = 17 := upT hT172 t171 t287 (by decide)
  have t289 : T184 b71 = 17 := upT hT187 t186 t288 (by decide)
  have t290 : T139 b103 = 18 := upT hT142 t141 t132 (by decide)
  have t291 : T154 b103 = 18 := upT hT157 t156 t290 (by decide)
  have t292 : T169 b103 = 18 := upT hT172 t171 t291 (by decide)
  have t293 : T184 b103 = 18 := upT hT187 t186 t292 (by decide)
  have t294 : T154 b137 = 68 := upT hT157 t156 t145 (by decide)
  have t295 : T169 b137 = 68 := upT hT172 t171 t294 (by decide)
  have t296 : T184 b137 = 68 := upT hT187 t186 t295 (by decide)
  obtain ⟨T273, hT274⟩ : ∃ X, X = va_up T184 a_this 6 := ⟨_, rfl⟩
  have hn9 : 12 ≤ N185 a_this ∧ N185 a_this ≤ 12 := hM.2.2.2.2.2.2.1.n t193 (by decide)
  have hty297 : TY T273 N185 I217 R194 a_this := by
    have h9 : T273 a_this = 6 := by rw [hT274, va_up_self]
    unfold TY; rw [h9]
    refine ⟨hn9.1, hn9.2, fun k hk => ?_⟩
    have hk9 : k = 0 ∨ k = 1 ∨ k = 2 ∨ k = 3 ∨ k = 4 ∨ k = 5 ∨ k = 6 ∨ k = 7 ∨ k = 8 ∨ k = 9 ∨ k = 10 ∨ k = 11 := by omega
    rcases hk9 with rfl | rfl | rfl | rfl | rfl | rfl | rfl | rfl | rfl | rfl | rfl | rfl
    · exact ⟨hM.2.2.2.2.2.2.1.io (t := 34) t193 (by decide) (by decide), (by rw [e229]; exact rokR (t := 15) (by rw [hT274, va_up_ne _ _ (tne t279 t193 (by decide))]; exact t279) rfl)⟩
    · exact ⟨hM.2.2.2.2.2.2.1.io (t := 34) t193 (by decide) (by decide), (by rw [e237]; exact rokR (t := 16) (by rw [hT274, va_up_ne _ _ (tne t284 t193 (by decide))]; exact t284) rfl)⟩
    · exact ⟨hM.2.2.2.2.2.2.1.io (t := 34) t193 (by decide) (by decide), (by rw [e243]; exact rokR (t := 17) (by rw [hT274, va_up_ne _ _ (tne t289 t193 (by decide))]; exact t289) rfl)⟩
    · exact ⟨hM.2.2.2.2.2.2.1.io (t := 34) t193 (by decide) (by decide), (by rw [e247]; exact rokR (t := 18) (by rw [hT274, va_up_ne _ _ (tne t293 t193 (by decide))]; exact t293) rfl)⟩
    · exact ⟨hM.2.2.2.2.2.2.1.io (t := 34) t193 (by decide) (by decide), (by rw [e250]; exact rokR (t := 68) (by rw [hT274, va_up_ne _ _ (tne t296 t193 (by decide))]; exact t296) rfl)⟩
    · exact ⟨(by rw [e258]; exact (show (0 : Int) ≤ 0 ∧ (0 : Int) ≤ 6 from by omega)), Or.inl rfl⟩
    · exact ⟨(by rw [e260]; exact (show (1 : Int) ≤ 1 ∧ (1 : Int) ≤ 8 from by omega)), Or.inl rfl⟩
    · exact ⟨hM.2.2.2.2.2.2.1.io (t := 34) t193 (by decide) (by decide), (by rw [e272]; exact Or.inr (Or.inl ⟨rfl, rfl⟩))⟩
    · exact ⟨hM.2.2.2.2.2.2.1.io (t := 34) t193 (by decide) (by decide), (by rw [e198]; exact rokR (t := 70) (by rw [hT274, va_up_ne _ _ (tne t200 t193 (by decide))]; exact t200) rfl)⟩
    · exact ⟨hM.2.2.2.2.2.2.1.io (t := 34) t193 (by decide) (by decide), (by rw [e208]; exact rokR (t := 71) (by rw [hT274, va_up_ne _ _ (tne t209 t193 (by decide))]; exact t209) rfl)⟩
    · exact ⟨hM.2.2.2.2.2.2.1.io (t := 34) t193 (by decide) (by decide), (by rw [e196]; exact rokR (t := 72) (by rw [hT274, va_up_ne _ _ (tne t190 t193 (by decide))]; exact t190) rfl)⟩
    · exact ⟨(by rw [e219]; exact (show (0 : Int) ≤ 1 ∧ (1 : Int) ≤ 62 from by omega)), Or.inl rfl⟩
  have hM := hM.tag (t := 6) t193 (by decide) (by decide) rfl (by decide) hT274 hty297 (XI.tag0 hM.2.2.2.2.2.2.1 hM.2.2.2.2.2.2.2 t193 (by decide) hT274 (fun h h2 => by omega) (fun h => by omega) (fun h => by omega) (fun h => by omega) (fun h => by omega))
  replace hF : Fr mo_X0_initb [a_this] T N I J R T273 N185 I217 J212 R194 := hF.tag hT274 (fun _ => List.mem_singleton.mpr rfl)
  have t298 : T273 a_this = 6 := by rw [hT274, va_up_self]
  have pq299 : I217 (R194 a_this 0 - 1) 2 = I217 b13 2 := by rw [e229, Nat.add_sub_cancel]
  have e300 : I58 b13 2 = 0 := (hFc63.i t65 (by decide) (nm1 (tne t65 t49 (by decide))) rfl).trans hp24a_0
  have e301 : I88 b13 2 = 0 := (hFc93.i t96 (by decide) (nm1 (tne t96 t79 (by decide))) rfl).trans e300
  have e302 : I120 b13 2 = 0 := (hFc125.i t128 (by decide) (nm1 (tne t128 t111 (by decide))) rfl).trans e301
  have e303 : I203 b13 2 = 0 := (w2_ne hu202 (Or.inl (tne t279 t200 (by decide)))).trans e302
  have t304 : T273 b13 = 15 := by rw [hT274, va_up_ne _ _ (tne t279 t193 (by decide))]; exact t279
  have e305 : I205 b13 2 = 0 := (w2_ne hu206 (Or.inl (tne t304 t298 (by decide)))).trans e303
  have e306 : I215 b13 2 = 0 := (w2_ne hu214 (Or.inl (tne t279 t190 (by decide)))).trans e305
  have e307 : I217 b13 2 = 0 := (w2_ne hu218 (Or.inl (tne t304 t298 (by decide)))).trans e306
  have pq308 : I217 (R194 a_this 1 - 1) 2 = I217 b41 2 := by rw [e237, Nat.add_sub_cancel]
  have e309 : I88 b41 2 = 0 := (hFc93.i t97 (by decide) (nm1 (tne t97 t79 (by decide))) rfl).trans hp53a_0
  have e310 : I120 b41 2 = 0 := (hFc125.i t130 (by decide) (nm1 (tne t130 t111 (by decide))) rfl).trans e309
  have e311 : I203 b41 2 = 0 := (w2_ne hu202 (Or.inl (tne t284 t200 (by decide)))).trans e310
  have t312 : T273 b41 = 16 := by rw [hT274, va_up_ne _ _ (tne t284 t193 (by decide))]; exact t284
  have e313 : I205 b41 2 = 0 := (w2_ne hu206 (Or.inl (tne t312 t298 (by decide)))).trans e311
  have e314 : I215 b41 2 = 0 := (w2_ne hu214 (Or.inl (tne t284 t190 (by decide)))).trans e313
  have e315 : I217 b41 2 = 0 := (w2_ne hu218 (Or.inl (tne t312 t298 (by decide)))).trans e314
  have pq316 : I217 (R194 a_this 2 - 1) 2 = I217 b71 2 := by rw [e243, Nat.add_sub_cancel]
  have e317 : I120 b71 2 = 0 := (hFc125.i t131 (by decide) (nm1 (tne t131 t111 (by decide))) rfl).trans hp83a_0
  have e318 : I203 b71 2 = 0 := (w2_ne hu202 (Or.inl (tne t289 t200 (by decide)))).trans e317
  have t319 : T273 b71 = 17 := by rw [hT274, va_up_ne _ _ (tne t289 t193 (by decide))]; exact t289
  have e320 : I205 b71 2 = 0 := (w2_ne hu206 (Or.inl (tne t319 t298 (by decide)))).trans e318
  have e321 : I215 b71 2 = 0 := (w2_ne hu214 (Or.inl (tne t289 t190 (by decide)))).trans e320
  have e322 : I217 b71 2 = 0 := (w2_ne hu218 (Or.inl (tne t319 t298 (by decide)))).trans e321
  have pq323 : I217 (R194 a_this 3 - 1) 2 = I217 b103 2 := by rw [e247, Nat.add_sub_cancel]
  have e324 : I203 b103 2 = 0 := (w2_ne hu202 (Or.inl (tne t293 t200 (by decide)))).trans hp115a_0
  have t325 : T273 b103 = 18 := by rw [hT274, va_up_ne _ _ (tne t293 t193 (by decide))]; exact t293
  have e326 : I205 b103 2 = 0 := (w2_ne hu206 (Or.inl (tne t325 t298 (by decide)))).trans e324
  have e327 : I215 b103 2 = 0 := (w2_ne hu214 (Or.inl (tne t293 t190 (by decide)))).trans e326
  have e328 : I217 b103 2 = 0 := (w2_ne hu218 (Or.inl (tne t325 t298 (by decide)))).trans e327
  refine g_vret B hM dX0_init_115 ⟨by show 0 + 1 + 1 + 1 + 1 + 1 + 1 + 1 + 1 ≤ 8; omega, by show 0 + 3 + 3 + 3 + 3 + 6 + 8 + 62 + 62 ≤ 150; omega⟩ ?_
  rw [← hPST]
  exact ⟨rfl, hF, t298, by first | omega | assumption | exact trivial, by first | omega | assumption | exact trivial, by first | omega | assumption | exact trivial, by first | omega | assumption | exact trivial, by first | omega | assumption | exact trivial, by first | omega | assumption | exact trivial, by first | omega | assumption | exact trivial, by rw [e229, Nat.add_sub_cancel]; exact t17⟩

def mo_X6_initb : List Nat := []
set_option maxHeartbeats 1000000 in
set_option maxRecDepth 20000 in
theorem k_X6_initb (l : Launch) (D : va_G) (dA : Nat → ClassId) (eA : Nat) (L : List Nat) (T N : Nat → Nat) (I : Nat → Nat → Int) (J : Nat → Nat → Int64) (R : Nat → Nat → Nat) (a_this : Nat) (t_this : T a_this = 35) (a_tok : Nat) (t_tok : T a_tok = 3) (a_known : Nat) (q_known : a_known = 0 ∨ ∃ b, a_known = b + 1 ∧ T b = 6) (z_this : ∀ k, I a_this k = 0 ∧ J a_this k = 0 ∧ R a_this k = 0) (g_s : Nat) (p_0 : R a_tok 0 = g_s + 1) (p_1 : T g_s = 62) : GC l yX6_init cX6_init 3 none ({ frames := 5, cells := 12, slots := 260, locals := 130 }) D dA eA L T N I J R [.ref a_this, .ref a_tok, cv a_known] 12 260 (gV (fun L' T' N' I' J' R' dz dl => Fr mo_X6_initb [a_this] T N I J R T' N' I' J' R' ∧ T' a_this = 7 ∧ (dz ≤ 12 ∧ dl ≤ 260 ∧ R' a_this 3 = a_tok + 1 ∧ I' a_this 1 = 0 ∧ I' a_this 5 = 0 ∧ I' a_this 6 = I g_s (0 : Int).toNat ∧ I' (R' (R' a_this 0 - 1) 3 - 1) 2 = 0 ∧ I' (R' (R' a_this 0 - 1) 1 - 1) 2 = 0 ∧ T (R' (R' a_this 0 - 1) 0 - 1) = 0))) := by
  generalize hPST : (gV (fun L' T' N' I' J' R' dz dl => Fr mo_X6_initb [a_this] T N I J R T' N' I' J' R' ∧ T' a_this = 7 ∧ (dz ≤ 12 ∧ dl ≤ 260 ∧ R' a_this 3 = a_tok + 1 ∧ I' a_this 1 = 0 ∧ I' a_this 5 = 0 ∧ I' a_this 6 = I g_s (0 : Int).toNat ∧ I' (R' (R' a_this 0 - 1) 3 - 1) 2 = 0 ∧ I' (R' (R' a_this 0 - 1) 1 - 1) 2 = 0 ∧ T (R' (R' a_this 0 - 1) 0 - 1) = 0))) = PST
  refine g_enter (own := RX6) (by decide) rfl (by cases a_known <;> exact Nat.le_of_ble_eq_true rfl) (fun p e s m args below meth c ls hm B hX hM hl => ?_)
  have hC0 := hM.2.2.2.2.2.2.1
  have hW0 := hM.2.2.2
  have hF : Fr mo_X6_initb [a_this] T N I J R T N I J R := Fr.rf
  have hA : ∀ q, s.heap.size ≤ q → cF dA L T N I J R s.heap.size q := fun q h => Or.inr h
  have hl : lv_has ls 3 [(0, .ref a_this), (1, .ref a_tok), (2, cv a_known)] := (by cases a_known <;> exact hl)
  have e1 : R a_this 0 = 0 := (z_this 0).2.2
  have e2 : I a_this 1 = 0 := (z_this 1).1
  have e3 : I a_this 2 = 0 := (z_this 2).1
  have e4 : R a_this 3 = 0 := (z_this 3).2.2
  have e5 : R a_this 4 = 0 := (z_this 4).2.2
  have e6 : I a_this 5 = 0 := (z_this 5).1
  have e7 : I a_this 6 = 0 := (z_this 6).1
  have e8 : J a_this 7 = 0 := (z_this 7).2.1
  have e9 : R a_this 8 = 0 := (z_this 8).2.2
  have e10 : I a_this 9 = 0 := (z_this 9).1
  have e11 : R a_this 10 = 0 := (z_this 10).2.2
  have e12 : R a_this 11 = 0 := (z_this 11).2.2
  have e13 : I a_this 12 = 0 := (z_this 12).1
  refine lv_aload_n B.1 B.2.1 dX6_init_0 rfl (lv_at hl 0 rfl) ?_
  have hFt := hF
  have hMt := hM
  refine c_obj B ol_X6_3 hl.1 (Nat.le_of_ble_eq_true rfl) (Nat.le_of_ble_eq_true rfl) dX6_init_1 ?_
  clear hFt hMt
  refine lv_aload_n B.1 B.2.1 dX6_init_4 rfl (lv_at hl 0 rfl) ?_
  refine lv_aload_n B.1 B.2.1 dX6_init_5 rfl (lv_at hl 1 rfl) ?_
  refine c_putr (k := 3) (v := a_tok + 1) pk_X6 B hM t_this kd35 rfl (by decide) fl_X6_9 (Or.inr ⟨rfl, hm, rfl⟩) dX6_init_6 rfl rfl ⟨rfl, fun _ => rfl, rfl, fun _ => rfl⟩ (Or.inl rfl) (fun R14 H locs hu15 hM => ?_)
  have e16 : R14 a_this 3 = a_tok + 1 := w2_at hu15
  replace hF : Fr mo_X6_initb [a_this] T N I J R T N I J R14 := hF.wr hu15 (fun _ h => absurd (List.mem_singleton.mpr rfl) h)
  refine lv_aload_n B.1 B.2.1 dX6_init_9 rfl (lv_at hl 0 rfl) ?_
  refine c_aload_n B dX6_init_10 rfl (lv_at hl 2 rfl) ?_
  refine c_putr (k := 4) (v := a_known) pk_X6 B hM t_this kd35 rfl (by decide) fl_X6_15 (Or.inr ⟨rfl, hm, rfl⟩) dX6_init_11 rfl rfl ⟨rfl, fun _ => rfl, rfl, fun _ => rfl⟩ (Or.inl rfl) (fun R17 H locs hu18 hM => ?_)
  have e19 : R17 a_this 4 = a_known := w2_at hu18
  replace hF : Fr mo_X6_initb [a_this] T N I J R T N I J R17 := hF.wr hu18 (fun _ h => absurd (List.mem_singleton.mpr rfl) h)
  refine lv_aload_n B.1 B.2.1 dX6_init_14 rfl (lv_at hl 0 rfl) ?_
  have hMo := hM
  refine c_new (t := 34) pk_X0 B hX.out hA hM kd34 df_X0 rfl rfl (by decide) cl_X6_19 in_X0 ini_X0 (by show 0 + 1 ≤ 12; omega) (by show 0 + 12 ≤ 260; omega) dX6_init_15 (fun b20 L21 T22 N23 H t24 hT25 hN26 hM => ?_)
  have t27 : T22 b20 = 34 := by rw [hT25, va_up_self]
  have n28 : N23 b20 = 12 := by rw [hN26, va_up_self]
  replace hF : Fr mo_X6_initb [a_this] T N I J R T22 N23 I J R17 := hF.new t24 hT25 hN26
  have zz29 := hMo.2.2.2.2.2.1 b20 t24
  clear hMo
  refine lv_dup B.1 B.2.1 dX6_init_18 rfl ?_
  have hFt := hF
  have hMt := hM
  refine g_callv hM hA (c_runI (n := 0) (as := []) (rest := [.ref b20, .ref a_this]) B hX hA hM hl.1 (k_X0_initb l D dA eA L21 T22 N23 I J R17 b20 t27 zz29 _ _) ml_X6_21 nm_X0_init ⟨rfl, rfl⟩ ⟨Nat.le_of_ble_eq_true rfl, Nat.le_of_ble_eq_true rfl⟩ dX6_init_19 rfl rfl (Nat.le_of_ble_eq_true rfl) ⟨by show 0 + 1 + 8 ≤ 12; omega, by show 0 + 12 + 150 ≤ 260; omega⟩) (fun L32 T33 N34 I35 J36 R37 dz38 dl39 H locs hp30 hMn => ?_)
  obtain ⟨hFc40, hp30a⟩ := hp30
  have t41 : T22 a_this = 35 := upT hT25 t24 t_this (by decide)
  have t42 : T22 a_tok = 3 := hF.tt t_tok (by decide) (nm1 (tne t_tok t_this (by decide)))
  have t43 : T22 g_s = 62 := hF.tt p_1 (by decide) (nm1 (tne p_1 t_this (by decide)))
  replace hF : Fr mo_X6_initb [a_this] T N I J R T33 N34 I35 J36 R37 := hF.trans hFc40 (by decide) (e2x (fun h => absurd t24 h))
  have hM := hMn
  clear hMn
  obtain ⟨t44, hp30a⟩ := hp30a
  replace hp30a : dz38 ≤ 8 ∧ dl39 ≤ 150 ∧ I35 (R37 b20 0 - 1) 2 = 0 ∧ I35 (R37 b20 1 - 1) 2 = 0 ∧ I35 (R37 b20 2 - 1) 2 = 0 ∧ I35 (R37 b20 3 - 1) 2 = 0 ∧ I35 b20 5 = 0 ∧ T22 (R37 b20 0 - 1) = 0 := hp30a
  obtain ⟨hp30a_0, hp30a_1, hp30a_2, hp30a_3, hp30a_4, hp30a_5, hp30a_6, hp30a_7⟩ := hp30a
  obtain ⟨b45, e46, t47⟩ := g6_0 hM.2.2.2.2.2.2.1 t44
  have pq48 : I35 (R37 b20 0 - 1) 2 = I35 b45 2 := by rw [e46, Nat.add_sub_cancel]
  obtain ⟨x49, e50⟩ : ∃ v, I35 b45 2 = v := ⟨_, rfl⟩
  obtain ⟨b51, e52, t53⟩ := g6_1 hM.2.2.2.2.2.2.1 t44
  have pq54 : I35 (R37 b20 1 - 1) 2 = I35 b51 2 := by rw [e52, Nat.add_sub_cancel]
  obtain ⟨x55, e56⟩ : ∃ v, I35 b51 2 = v := ⟨_, rfl⟩
  obtain ⟨b57, e58, t59⟩ := g6_2 hM.2.2.2.2.2.2.1 t44
  have pq60 : I35 (R37 b20 2 - 1) 2 = I35 b57 2 := by rw [e58, Nat.add_sub_cancel]
  obtain ⟨x61, e62⟩ : ∃ v, I35 b57 2 = v := ⟨_, rfl⟩
  obtain ⟨b63, e64, t65⟩ := g6_3 hM.2.2.2.2.2.2.1 t44
  have pq66 : I35 (R37 b20 3 - 1) 2 = I35 b63 2 := by rw [e64, Nat.add_sub_cancel]
  obtain ⟨x67, e68⟩ : ∃ v, I35 b63 2 = v := ⟨_, rfl⟩
  have hru0 : T b45 = 0 := by
    have h9 : T22 (R37 b20 0 - 1) = 0 := by assumption
    rw [e46, Nat.add_sub_cancel] at h9
    exact T0_x hFt h9 (nm1 (fun e9 => by rw [e9, t41] at h9; omega))
  clear hFt hMt
  have t69 : T33 a_this = 35 := hFc40.tt t41 (by decide) (nm1 (tne t41 t27 (by decide)))
  refine c_putr (k := 0) (v := b20 + 1) pk_X6 B hM t69 kd35 rfl (by decide) fl_X6_22 (Or.inr ⟨rfl, hm, rfl⟩) dX6_init_22 rfl rfl ⟨rfl, fun _ => rfl, rfl, fun _ => rfl⟩ (Or.inl rfl) (fun R70 H locs hu71 hM => ?_)
  have e72 : R70 a_this 0 = b20 + 1 := w2_at hu71
  replace hF : Fr mo_X6_initb [a_this] T N I J R T33 N34 I35 J36 R70 := hF.wr hu71 (fun _ h => absurd (List.mem_singleton.mpr rfl) h)
  refine lv_aload_n B.1 B.2.1 dX6_init_25 rfl (lv_at hl 0 rfl) ?_
  refine q_bip B dX6_init_26 (by decide) ?_
  have hMo := hM
  refine c_newa (t := 65) (atype := .int) (n' := 8) B hX.out hA hM kd65 aw65 rfl rfl (fun _ => va_RA_i) acc_int hav_int (by decide) (by omega) (show 8 ≤ 8 ∧ 8 ≤ 8 from by omega) (by show 0 + 1 + dz38 + 1 ≤ 12; omega) (by show 0 + 12 + dl39 + 8 ≤ 260; omega) dX6_init_28 (fun b73 L74 T75 N76 H t77 hT78 hN79 hM => ?_)
  have z80 : T b73 = 0 := T0_x hF t77 (nm1 (tne t77 t69 (by decide)))
  have t81 : T75 b73 = 65 := by rw [hT78, va_up_self]
  have n82 : N76 b73 = 8 := by rw [hN79, va_up_self]
  replace hF : Fr mo_X6_initb [a_this] T N I J R T75 N76 I35 J36 R70 := hF.new t77 hT78 hN79
  have zz83 := hMo.2.2.2.2.2.1 b73 t77
  clear hMo
  have t84 : T75 a_this = 35 := upT hT78 t77 t69 (by decide)
  refine c_putr (k := 8) (v := b73 + 1) pk_X6 B hM t84 kd35 rfl (by decide) fl_X6_25 (Or.inr ⟨rfl, hm, rfl⟩) dX6_init_30 rfl rfl ⟨rfl, fun _ => rfl, rfl, fun _ => rfl⟩ (Or.inl rfl) (fun R85 H locs hu86 hM => ?_)
  have e87 : R85 a_this 8 = b73 + 1 := w2_at hu86
  replace hF : Fr mo_X6_initb [a_this] T N I J R T75 N76 I35 J36 R85 := hF.wr hu86 (fun _ h => absurd (List.mem_singleton.mpr rfl) h)
  refine lv_aload_n B.1 B.2.1 dX6_init_33 rfl (lv_at hl 0 rfl) ?_
  refine q_bip B dX6_init_34 (by decide) ?_
  have hMo := hM
  refine c_newa (t := 66) (atype := .int) (n' := 40) B hX.out hA hM kd66 aw66 rfl rfl (fun _ => va_RA_i) acc_int hav_int (by decide) (by omega) (show 40 ≤ 40 ∧ 40 ≤ 40 from by omega) (by show 0 + 1 + dz38 + 1 + 1 ≤ 12; omega) (by show 0 + 12 + dl39 + 8 + 40 ≤ 260; omega) dX6_init_36 (fun b88 L89 T90 N91 H t92 hT93 hN94 hM => ?_)
  have z95 : T b88 = 0 := T0_x hF t92 (nm1 (tne t92 t84 (by decide)))
  have t96 : T90 b88 = 66 := by rw [hT93, va_up_self]
  have n97 : N91 b88 = 40 := by rw [hN94, va_up_self]
  replace hF : Fr mo_X6_initb [a_this] T N I J R T90 N91 I35 J36 R85 := hF.new t92 hT93 hN94
  have zz98 := hMo.2.2.2.2.2.1 b88 t92
  clear hMo
  have t99 : T90 a_this = 35 := upT hT93 t92 t84 (by decide)
  refine c_putr (k := 10) (v := b88 + 1) pk_X6 B hM t99 kd35 rfl (by decide) fl_X6_29 (Or.inr ⟨rfl, hm, rfl⟩) dX6_init_38 rfl rfl ⟨rfl, fun _ => rfl, rfl, fun _ => rfl⟩ (Or.inl rfl) (fun R100 H locs hu101 hM => ?_)
  have e102 : R100 a_this 10 = b88 + 1 := w2_at hu101
  replace hF : Fr mo_X6_initb [a_this] T N I J R T90 N91 I35 J36 R100 := hF.wr hu101 (fun _ h => absurd (List.mem_singleton.mpr rfl) h)
  refine lv_aload_n B.1 B.2.1 dX6_init_41 rfl (lv_at hl 0 rfl) ?_
  refine q_bip B dX6_init_42 (by decide) ?_
  have hMo := hM
  refine c_newa (t := 67) (atype := .int) (n' := 40) B hX.out hA hM kd67 aw67 rfl rfl (fun _ => va_RA_i) acc_int hav_int (by decide) (by omega) (show 40 ≤ 40 ∧ 40 ≤ 40 from by omega) (by show 0 + 1 + dz38 + 1 + 1 + 1 ≤ 12; omega) (by show 0 + 12 + dl39 + 8 + 40 + 40 ≤ 260; omega) dX6_init_44 (fun b103 L104 T105 N106 H t107 hT108 hN109 hM => ?_)
  have z110 : T b103 = 0 := T0_x hF t107 (nm1 (tne t107 t99 (by decide)))
  have t111 : T105 b103 = 67 := by rw [hT108, va_up_self]
  have n112 : N106 b103 = 40 := by rw [hN109, va_up_self]
  replace hF : Fr mo_X6_initb [a_this] T N I J R T105 N106 I35 J36 R100 := hF.new t107 hT108 hN109
  have zz113 := hMo.2.2.2.2.2.1 b103 t107
  clear hMo
  have t114 : T105 a_this = 35 := upT hT108 t107 t99 (by decide)
  refine c_putr (k := 11) (v := b103 + 1) pk_X6 B hM t114 kd35 rfl (by decide) fl_X6_32 (Or.inr ⟨rfl, hm, rfl⟩) dX6_init_46 rfl rfl ⟨rfl, fun _ => rfl, rfl, fun _ => rfl⟩ (Or.inl rfl) (fun R115 H locs hu116 hM => ?_)
  have e117 : R115 a_this 11 = b103 + 1 := w2_at hu116
  replace hF : Fr mo_X6_initb [a_this] T N I J R T105 N106 I35 J36 R115 := hF.wr hu116 (fun _ h => absurd (List.mem_singleton.mpr rfl) h)
  refine lv_aload_n B.1 B.2.1 dX6_init_49 rfl (lv_at hl 0 rfl) ?_
  refine q_con B dX6_init_50 ?_
  refine c_puti (k := 2) pk_X6 B hM t114 kd35 rfl (by decide) fl_X6_35 (Or.inl rfl) dX6_init_51 rfl rfl rfl (show (-2147483648 : Int) ≤ -1 from by omega) (show -1 ≤ (2147483647 : Int) from by omega) (fun I118 H locs hu119 hM => ?_)
  have e120 : I118 a_this 2 = -1 := w2_at hu119
  replace hF : Fr mo_X6_initb [a_this] T N I J R T105 N106 I118 J36 R115 := hF.wi hu119 (fun _ h => absurd (List.mem_singleton.mpr rfl) h)
  refine lv_aload_n B.1 B.2.1 dX6_init_54 rfl (lv_at hl 0 rfl) ?_
  refine q_con B dX6_init_55 ?_
  refine c_puti (k := 5) pk_X6 B hM t114 kd35 rfl (by decide) fl_X6_39 (Or.inl rfl) dX6_init_56 rfl rfl rfl (show (-2147483648 : Int) ≤ 0 from by omega) (show 0 ≤ (2147483647 : Int) from by omega) (fun I121 H locs hu122 hM => ?_)
  have e123 : I121 a_this 5 = 0 := w2_at hu122
  replace hF : Fr mo_X6_initb [a_this] T N I J R T105 N106 I121 J36 R115 := hF.wi hu122 (fun _ h => absurd (List.mem_singleton.mpr rfl) h)
  refine lv_aload_n B.1 B.2.1 dX6_init_59 rfl (lv_at hl 0 rfl) ?_
  refine lv_aload_n B.1 B.2.1 dX6_init_60 rfl (lv_at hl 1 rfl) ?_
  have t124 : T105 a_tok = 3 := hF.tt t_tok (by decide) (nm1 (tne t_tok t_this (by decide)))
  have e125 : R115 a_tok 0 = g_s + 1 := (hF.r t_tok (by decide) (nm1 (tne t_tok t_this (by decide))) rfl).trans p_0
  refine c_getn (k := 0) pk_X9 B hM t124 kd3 rfl (by decide) fl_X6_42 dX6_init_61 e125 ?_
  refine q_con B dX6_init_64 ?_
  have t126 : T105 g_s = 62 := hF.tt p_1 (by decide) (nm1 (tne p_1 t_this (by decide)))
  have n127 : 3001 ≤ N106 g_s ∧ N106 g_s ≤ 3001 := gn62 hM.2.2.2.2.2.2.1 t126
  obtain ⟨x128, e129⟩ : ∃ v, I g_s ((0 : Int).toNat) = v := ⟨_, rfl⟩
  have e130 : I121 g_s ((0 : Int).toNat) = x128 := (hF.i p_1 (by decide) (nm1 (tne p_1 t_this (by decide))) (by rw [cd_arr (j := 0) (by decide)]; rfl)).trans e129
  have r131 : (-2147483648 : Int) ≤ x128 ∧ x128 ≤ 2147483647 := by rw [← e130]; exact ga62 hM.2.2.2.2.2.2.1 t126 (by omega)
  refine c_ild B hM t126 kd62 an62 dX6_init_65 (by omega) (by omega) e130 ?_
  refine c_puti (k := 6) pk_X6 B hM t114 kd35 rfl (by decide) fl_X6_47 (Or.inl rfl) dX6_init_66 rfl rfl rfl (show (-2147483648 : Int) ≤ x128 from by omega) (show x128 ≤ (2147483647 : Int) from by omega) (fun I132 H locs hu133 hM => ?_)
  have e134 : I132 a_this 6 = x128 := w2_at hu133
  replace hF : Fr mo_X6_initb [a_this] T N I J R T105 N106 I132 J36 R115 := hF.wi hu133 (fun _ h => absurd (List.mem_singleton.mpr rfl) h)
  refine lv_aload_n B.1 B.2.1 dX6_init_69 rfl (lv_at hl 0 rfl) ?_
  refine lv_aload_n B.1 B.2.1 dX6_init_70 rfl (lv_at hl 1 rfl) ?_
  obtain ⟨b135, e136, t137⟩ := g3_2 hC0 t_tok
  have e138 : R115 a_tok 2 = b135 + 1 := (hF.r t_tok (by decide) (nm1 (tne t_tok t_this (by decide))) rfl).trans e136
  refine c_getn (k := 2) pk_X9 B hM t124 kd3 rfl (by decide) fl_X6_50 dX6_init_71 e138 ?_
  refine q_con B dX6_init_74 ?_
  have t139 : T105 b135 = 64 := hF.tt t137 (by decide) (nm1 (tne t137 t_this (by decide)))
  have n140 : 3001 ≤ N106 b135 ∧ N106 b135 ≤ 3001 := gn64 hM.2.2.2.2.2.2.1 t139
  obtain ⟨w141, e142⟩ : ∃ v, J b135 ((0 : Int).toNat) = v := ⟨_, rfl⟩
  have e143 : J36 b135 ((0 : Int).toNat) = w141 := (hF.j t137 (by decide) (nm1 (tne t137 t_this (by decide))) (by rw [cd_arr (j := 0) (by decide)]; rfl)).trans e142
  refine c_lld B hM t139 kd64 an64 dX6_init_75 (by omega) (by omega) e143 ?_
  refine c_putl (k := 7) pk_X6 B hM t114 kd35 rfl (by decide) fl_X6_54 (Or.inl rfl) dX6_init_76 rfl rfl (fun J144 H locs hu145 hM => ?_)
  have e146 : J144 a_this 7 = w141 := w2_at hu145
  replace hF : Fr mo_X6_initb [a_this] T N I J R T105 N106 I132 J144 R115 := hF.wj hu145 (fun _ h => absurd (List.mem_singleton.mpr rfl) h)
  have e147 : R85 a_this 0 = b20 + 1 := (w2_ne hu86 (Or.inr (by decide))).trans e72
  have e148 : R100 a_this 0 = b20 + 1 := (w2_ne hu101 (Or.inr (by decide))).trans e147
  have e149 : R115 a_this 0 = b20 + 1 := (w2_ne hu116 (Or.inr (by decide))).trans e148
  have e150 : I35 a_this 1 = 0 := (hFc40.i t41 (by decide) (nm1 (tne t41 t27 (by decide))) rfl).trans e2
  have e151 : I118 a_this 1 = 0 := (w2_ne hu119 (Or.inr (by decide))).trans e150
  have e152 : I121 a_this 1 = 0 := (w2_ne hu122 (Or.inr (by decide))).trans e151
  have e153 : I132 a_this 1 = 0 := (w2_ne hu133 (Or.inr (by decide))).trans e152
  have e154 : I121 a_this 2 = -1 := (w2_ne hu122 (Or.inr (by decide))).trans e120
  have e155 : I132 a_this 2 = -1 := (w2_ne hu133 (Or.inr (by decide))).trans e154
  have e156 : R17 a_this 3 = a_tok + 1 := (w2_ne hu18 (Or.inr (by decide))).trans e16
  have e157 : R37 a_this 3 = a_tok + 1 := (hFc40.r t41 (by decide) (nm1 (tne t41 t27 (by decide))) rfl).trans e156
  have e158 : R70 a_this 3 = a_tok + 1 := (w2_ne hu71 (Or.inr (by decide))).trans e157
  have e159 : R85 a_this 3 = a_tok + 1 := (w2_ne hu86 (Or.inr (by decide))).trans e158
  have e160 : R100 a_this 3 = a_tok + 1 := (w2_ne hu101 (Or.inr (by decide))).trans e159
  have e161 : R115 a_this 3 = a_tok + 1 := (w2_ne hu116 (Or.inr (by decide))).trans e160
  have e162 : R37 a_this 4 = a_known := (hFc40.r t41 (by decide) (nm1 (tne t41 t27 (by decide))) rfl).trans e19
  have e163 : R70 a_this 4 = a_known := (w2_ne hu71 (Or.inr (by decide))).trans e162
  have e164 : R85 a_this 4 = a_known := (w2_ne hu86 (Or.inr (by decide))).trans e163
  have e165 : R100 a_this 4 = a_known := (w2_ne hu101 (Or.inr (by decide))).trans e164
  have e166 : R115 a_this 4 = a_known := (w2_ne hu116 (Or.inr (by decide))).trans e165
  have e167 : I132 a_this 5 = 0 := (w2_ne hu133 (Or.inr (by decide))).trans e123
  have e168 : R100 a_this 8 = b73 + 1 := (w2_ne hu101 (Or.inr (by decide))).trans e87
  have e169 : R115 a_this 8 = b73 + 1 := (w2_ne hu116 (Or.inr (by decide))).trans e168
  have e170 : I35 a_this 9 = 0 := (hFc40.i t41 (by decide) (nm1 (tne t41 t27 (by decide))) rfl).trans e10
  have e171 : I118 a_this 9 = 0 := (w2_ne hu119 (Or.inr (by decide))).trans e170
  have e172 : I121 a_this 9 = 0 := (w2_ne hu122 (Or.inr (by decide))).trans e171
  have e173 : I132 a_this 9 = 0 := (w2_ne hu133 (Or.inr (by decide))).trans e172
  have e174 : R115 a_this 10 = b88 + 1 := (w2_ne hu116 (Or.inr (by decide))).trans e102
  have e175 : I35 a_this 12 = 0 := (hFc40.i t41 (by decide) (nm1 (tne t41 t27 (by decide))) rfl).trans e13
  have e176 : I118 a_this 12 = 0 := (w2_ne hu119 (Or.inr (by decide))).trans e175
  have e177 : I121 a_this 12 = 0 := (w2_ne hu122 (Or.inr (by decide))).trans e176
  have e178 : I132 a_this 12 = 0 := (w2_ne hu133 (Or.inr (by decide))).trans e177
  have t181 : T75 b20 = 6 := upT hT78 t77 t44 (by decide)
  have t182 : T90 b20 = 6 := upT hT93 t92 t181 (by decide)
  have t183 : T105 b20 = 6 := upT hT108 t107 t182 (by decide)
  have q184 : a_known = 0 ∨ ∃ b, a_known = b + 1 ∧ T105 b = 6 := qFr hF q_known (by decide) (fun b hb => nm1 (tne hb t_this (by decide)))
  have t185 : T90 b73 = 65 := upT hT93 t92 t81 (by decide)
  have t186 : T105 b73 = 65 := upT hT108 t107 t185 (by decide)
  have t187 : T105 b88 = 66 := upT hT108 t107 t96 (by decide)
  obtain ⟨T179, hT180⟩ : ∃ X, X = va_up T105 a_this 7 := ⟨_, rfl⟩
  have hn9 : 13 ≤ N106 a_this ∧ N106 a_this ≤ 13 := hM.2.2.2.2.2.2.1.n t114 (by decide)
  have hty188 : TY T179 N106 I132 R115 a_this := by
    have h9 : T179 a_this = 7 := by rw [hT180, va_up_self]
    unfold TY; rw [h9]
    refine ⟨hn9.1, hn9.2, fun k hk => ?_⟩
    have hk9 : k = 0 ∨ k = 1 ∨ k = 2 ∨ k = 3 ∨ k = 4 ∨ k = 5 ∨ k = 6 ∨ k = 7 ∨ k = 8 ∨ k = 9 ∨ k = 10 ∨ k = 11 ∨ k = 12 := by omega
    rcases hk9 with rfl | rfl | rfl | rfl | rfl | rfl | rfl | rfl | rfl | rfl | rfl | rfl | rfl
    · exact ⟨hM.2.2.2.2.2.2.1.io (t := 35) t114 (by decide) (by decide), (by rw [e149]; exact rokR (t := 6) (by rw [hT180, va_up_ne _ _ (tne t183 t114 (by decide))]; exact t183) rfl)⟩
    · exact ⟨hM.2.2.2.2.2.2.1.io (t := 35) t114 (by decide) (by decide), Or.inl rfl⟩
    · exact ⟨hM.2.2.2.2.2.2.1.io (t := 35) t114 (by decide) (by decide), Or.inl rfl⟩
    · exact ⟨hM.2.2.2.2.2.2.1.io (t := 35) t114 (by decide) (by decide), (by rw [e161]; exact rokR (t := 3) (by rw [hT180, va_up_ne _ _ (tne t124 t114 (by decide))]; exact t124) rfl)⟩
    · exact ⟨hM.2.2.2.2.2.2.1.io (t := 35) t114 (by decide) (by decide), (by rw [e166]; exact rokQ (qTag hT180 q184 t114 (by decide)) rfl)⟩
    · exact ⟨(by rw [e167]; exact (show (0 : Int) ≤ 0 ∧ (0 : Int) ≤ 3000 from by omega)), Or.inl rfl⟩
    · exact ⟨hM.2.2.2.2.2.2.1.io (t := 35) t114 (by decide) (by decide), Or.inl rfl⟩
    · exact ⟨hM.2.2.2.2.2.2.1.io (t := 35) t114 (by decide) (by decide), Or.inl rfl⟩
    · exact ⟨hM.2.2.2.2.2.2.1.io (t := 35) t114 (by decide) (by decide), (by rw [e169]; exact rokR (t := 65) (by rw [hT180, va_up_ne _ _ (tne t186 t114 (by decide))]; exact t186) rfl)⟩
    · exact ⟨(by rw [e173]; exact (show (0 : Int) ≤ 0 ∧ (0 : Int) ≤ 8 from by omega)), Or.inl rfl⟩
    · exact ⟨hM.2.2.2.2.2.2.1.io (t := 35) t114 (by decide) (by decide), (by rw [e174]; exact rokR (t := 66) (by rw [hT180, va_up_ne _ _ (tne t187 t114 (by decide))]; exact t187) rfl)⟩
    · exact ⟨hM.2.2.2.2.2.2.1.io (t := 35) t114 (by decide) (by decide), (by rw [e117]; exact rokR (t := 67) (by rw [hT180, va_up_ne _ _ (tne t111 t114 (by decide))]; exact t111) rfl)⟩
    · exact ⟨(by rw [e178]; exact (show (0 : Int) ≤ 0 ∧ (0 : Int) ≤ 40 from by omega)), Or.inl rfl⟩
  have hM := hM.tag (t := 7) t114 (by decide) (by decide) rfl (by decide) hT180 hty188 (XI.tag0 hM.2.2.2.2.2.2.1 hM.2.2.2.2.2.2.2 t114 (by decide) hT180 (fun h h2 => by omega) (fun h => by omega) (fun h => by omega) (fun h => by omega) (fun h => by omega))
  replace hF : Fr mo_X6_initb [a_this] T N I J R T179 N106 I132 J144 R115 := hF.tag hT180 (fun _ => List.mem_singleton.mpr rfl)
  have t189 : T179 a_this = 7 := by rw [hT180, va_up_self]
  have t190 : T179 b20 = 6 := by rw [hT180, va_up_ne _ _ (tne t183 t114 (by decide))]; exact t183
  have e191 : R70 b20 3 = b63 + 1 := (w2_ne hu71 (Or.inl (tne t190 t189 (by decide)))).trans e64
  have e192 : R85 b20 3 = b63 + 1 := (w2_ne hu86 (Or.inl (tne t190 t189 (by decide)))).trans e191
  have e193 : R100 b20 3 = b63 + 1 := (w2_ne hu101 (Or.inl (tne t190 t189 (by decide)))).trans e192
  have e194 : R115 b20 3 = b63 + 1 := (w2_ne hu116 (Or.inl (tne t190 t189 (by decide)))).trans e193
  have pq195 : I132 (R115 (R115 a_this 0 - 1) 3 - 1) 2 = I132 b63 2 := by rw [e149, Nat.add_sub_cancel, e194, Nat.add_sub_cancel]
  have t196 : T75 b63 = 18 := upT hT78 t77 t65 (by decide)
  have t197 : T90 b63 = 18 := upT hT93 t92 t196 (by decide)
  have t198 : T105 b63 = 18 := upT hT108 t107 t197 (by decide)
  have t199 : T179 b63 = 18 := by rw [hT180, va_up_ne _ _ (tne t198 t114 (by decide))]; exact t198
  have e200 : I118 b63 2 = x67 := (w2_ne hu119 (Or.inl (tne t199 t189 (by decide)))).trans e68
  have e201 : I121 b63 2 = x67 := (w2_ne hu122 (Or.inl (tne t199 t189 (by decide)))).trans e200
  have e202 : I132 b63 2 = x67 := (w2_ne hu133 (Or.inl (tne t199 t189 (by decide)))).trans e201
  have e203 : R70 b20 1 = b51 + 1 := (w2_ne hu71 (Or.inl (tne t190 t189 (by decide)))).trans e52
  have e204 : R85 b20 1 = b51 + 1 := (w2_ne hu86 (Or.inl (tne t190 t189 (by decide)))).trans e203
  have e205 : R100 b20 1 = b51 + 1 := (w2_ne hu101 (Or.inl (tne t190 t189 (by decide)))).trans e204
  have e206 : R115 b20 1 = b51 + 1 := (w2_ne hu116 (Or.inl (tne t190 t189 (by decide)))).trans e205
  have pq207 : I132 (R115 (R115 a_this 0 - 1) 1 - 1) 2 = I132 b51 2 := by rw [e149, Nat.add_sub_cancel, e206, Nat.add_sub_cancel]
  have t208 : T75 b51 = 16 := upT hT78 t77 t53 (by decide)
  have t209 : T90 b51 = 16 := upT hT93 t92 t208 (by decide)
  have t210 : T105 b51 = 16 := upT hT108 t107 t209 (by decide)
  have t211 : T179 b51 = 16 := by rw [hT180, va_up_ne _ _ (tne t210 t114 (by decide))]; exact t210
  have e212 : I118 b51 2 = x55 := (w2_ne hu119 (Or.inl (tne t211 t189 (by decide)))).trans e56
  have e213 : I121 b51 2 = x55 := (w2_ne hu122 (Or.inl (tne t211 t189 (by decide)))).trans e212
  have e214 : I132 b51 2 = x55 := (w2_ne hu133 (Or.inl (tne t211 t189 (by decide)))).trans e213
  have pq215 : R115 (R115 a_this 0 - 1) 0 = R115 b20 0 := by rw [e149, Nat.add_sub_cancel]
  have e216 : R70 b20 0 = b45 + 1 := (w2_ne hu71 (Or.inl (tne t190 t189 (by decide)))).trans e46
  have e217 : R85 b20 0 = b45 + 1 := (w2_ne hu86 (Or.inl (tne t190 t189 (by decide)))).trans e216
  have e218 : R100 b20 0 = b45 + 1 := (w2_ne hu101 (Or.inl (tne t190 t189 (by decide)))).trans e217
  have e219 : R115 b20 0 = b45 + 1 := (w2_ne hu116 (Or.inl (tne t190 t189 (by decide)))).trans e218
  refine g_vret B hM dX6_init_79 ⟨by show 0 + 1 + dz38 + 1 + 1 + 1 ≤ 12; omega, by show 0 + 12 + dl39 + 8 + 40 + 40 ≤ 260; omega⟩ ?_
  rw [← hPST]
  exact ⟨rfl, hF, t189, by first | omega | assumption | exact trivial, by first | omega | assumption | exact trivial, by first | omega | assumption | exact trivial, by first | omega | assumption | exact trivial, by first | omega | assumption | exact trivial, by first | omega | assumption | exact trivial, by first | omega | assumption | exact trivial, by first | omega | assumption | exact trivial, by rw [e149, Nat.add_sub_cancel, e219, Nat.add_sub_cancel]; exact hru0⟩
