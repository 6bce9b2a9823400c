def mo_X11_init : List Nat := [160, 163, 179, 169, 167, 168, 164, 161]
set_option maxHeartbeats 1000000 in
set_option maxRecDepth 20000 in
theorem k_X11_init (l : Launch) (D : va_G) (dA : Nat → ClassId) (eA : Nat) (L : List Nat) (T N : Nat → Nat) (I : Nat → Nat → Int) (J : Nat → Nat → Int64) (R : Nat → Nat → Nat) (a_this : Nat) (t_this : T a_this = 30) (z_this : ∀ k, I a_this k = 0 ∧ J a_this k = 0 ∧ R a_this k = 0) : GC l yX11_init cX11_init 1 none ({ frames := 5, cells := 249, slots := 23030, locals := 131 }) D dA eA L T N I J R [.ref a_this] 249 23030 (gV (fun L' T' N' I' J' R' dz dl => Fr mo_X11_init [a_this] T N I J R T' N' I' J' R' ∧ T' a_this = 2 ∧ (DI T' I' R' a_this ∧ I' a_this 7 = 0 ∧ dz ≤ 249 ∧ dl ≤ 23030))) := by
  generalize hPST : (gV (fun L' T' N' I' J' R' dz dl => Fr mo_X11_init [a_this] T N I J R T' N' I' J' R' ∧ T' a_this = 2 ∧ (DI T' I' R' a_this ∧ I' a_this 7 = 0 ∧ dz ≤ 249 ∧ dl ≤ 23030))) = PST
  refine g_enter (own := RX11) (by decide) rfl (Nat.le_of_ble_eq_true rfl) (fun p e s m args below meth c ls hm B hX hM hl => ?_)
  have hC0 := hM.2.2.2.2.2.2.1
  have hW0 := hM.2.2.2
  have hF : Fr mo_X11_init [a_this] T N I J R T N I J R := Fr.rf
  have hA : ∀ q, s.heap.size ≤ q → cF dA L T N I J R s.heap.size q := fun q h => Or.inr h
  have hl : lv_has ls 1 [(0, .ref a_this)] := hl
  have e1 : R a_this 0 = 0 := (z_this 0).2.2
  have e2 : R a_this 1 = 0 := (z_this 1).2.2
  have e3 : R a_this 2 = 0 := (z_this 2).2.2
  have e4 : R a_this 3 = 0 := (z_this 3).2.2
  have e5 : R a_this 4 = 0 := (z_this 4).2.2
  have e6 : R a_this 5 = 0 := (z_this 5).2.2
  have e7 : R a_this 6 = 0 := (z_this 6).2.2
  have e8 : I a_this 7 = 0 := (z_this 7).1
  have e9 : I a_this 8 = 0 := (z_this 8).1
  have e10 : I a_this 9 = 0 := (z_this 9).1
  refine lv_aload_n B.1 B.2.1 dX11_init_0 rfl (lv_at hl 0 rfl) ?_
  refine c_obj B ol_X11_3 hl.1 (Nat.le_of_ble_eq_true rfl) (Nat.le_of_ble_eq_true rfl) dX11_init_1 ?_
  refine lv_aload_n B.1 B.2.1 dX11_init_4 rfl (lv_at hl 0 rfl) ?_
  refine q_sip B dX11_init_5 (by decide) ?_
  have hMo := hM
  refine c_newa (t := 60) (atype := .byte) (n' := 3000) B hX.out hA hM kd60 aw60 rfl rfl (fun _ => va_RA_b) acc_byte hav_byte (by decide) (by omega) (show 3000 ≤ 3000 ∧ 3000 ≤ 3000 from by omega) (by show 0 + 1 ≤ 249; omega) (by show 0 + 3000 ≤ 23030; omega) dX11_init_8 (fun b11 L12 T13 N14 H t15 hT16 hN17 hM => ?_)
  have t18 : T13 b11 = 60 := by rw [hT16, va_up_self]
  have n19 : N14 b11 = 3000 := by rw [hN17, va_up_self]
  replace hF : Fr mo_X11_init [a_this] T N I J R T13 N14 I J R := hF.new t15 hT16 hN17
  have zz20 := hMo.2.2.2.2.2.1 b11 t15
  clear hMo
  have t21 : T13 a_this = 30 := upT hT16 t15 t_this (by decide)
  refine c_putr (k := 0) (v := b11 + 1) pk_X11 B hM t21 kd30 rfl (by decide) fl_X11_9 (Or.inr ⟨rfl, hm, rfl⟩) dX11_init_10 rfl rfl ⟨rfl, fun _ => rfl, rfl, fun _ => rfl⟩ (Or.inl rfl) (fun R22 H locs hu23 hM => ?_)
  have e24 : R22 a_this 0 = b11 + 1 := w2_at hu23
  replace hF : Fr mo_X11_init [a_this] T N I J R T13 N14 I J R22 := hF.wr hu23 (fun _ h => absurd (List.mem_singleton.mpr rfl) h)
  refine lv_aload_n B.1 B.2.1 dX11_init_13 rfl (lv_at hl 0 rfl) ?_
  have hMo := hM
  refine c_new (t := 31) pk_X9 B hX.out hA hM kd31 df_X9 rfl rfl (by decide) cl_X11_13 in_X9 ini_X9 (by show 0 + 1 + 1 ≤ 249; omega) (by show 0 + 3000 + 3 ≤ 23030; omega) dX11_init_14 (fun b25 L26 T27 N28 H t29 hT30 hN31 hM => ?_)
  have z32 : T b25 = 0 := T0_x hF t29 (nm1 (tne t29 t21 (by decide)))
  have t33 : T27 b25 = 31 := by rw [hT30, va_up_self]
  have n34 : N28 b25 = 3 := by rw [hN31, va_up_self]
  replace hF : Fr mo_X11_init [a_this] T N I J R T27 N28 I J R22 := hF.new t29 hT30 hN31
  have zz35 := hMo.2.2.2.2.2.1 b25 t29
  clear hMo
  refine lv_dup B.1 B.2.1 dX11_init_17 rfl ?_
  refine g_callv hM hA (c_runI (n := 0) (as := []) (rest := [.ref b25, .ref a_this]) B hX hA hM hl.1 (k_X9_init l D dA eA L26 T27 N28 I J R22 b25 t33 zz35 _ _) ml_X11_15 nm_X9_init ⟨rfl, rfl⟩ ⟨Nat.le_of_ble_eq_true rfl, Nat.le_of_ble_eq_true rfl⟩ dX11_init_18 rfl rfl (Nat.le_of_ble_eq_true rfl) ⟨by show 0 + 1 + 1 + 3 ≤ 249; omega, by show 0 + 3000 + 3 + 9003 ≤ 23030; omega⟩) (fun L38 T39 N40 I41 J42 R43 dz44 dl45 H locs hp36 hMn => ?_)
  obtain ⟨yI41, yJ42, hFc46, hp36a⟩ := hp36
  obtain rfl := yI41.symm; obtain rfl := yJ42.symm
  have t47 : T27 a_this = 30 := upT hT30 t29 t21 (by decide)
  have t48 : T27 b11 = 60 := upT hT30 t29 t18 (by decide)
  replace hF : Fr mo_X11_init [a_this] T N I J R T39 N40 I J R43 := hF.trans hFc46 (by decide) (e2x (fun h => absurd z32 h))
  have hM := hMn
  clear hMn
  obtain ⟨t49, hp36a⟩ := hp36a
  replace hp36a : dz44 ≤ 3 ∧ dl45 ≤ 9003 := hp36a
  obtain ⟨hp36a_0, hp36a_1⟩ := hp36a
  have t50 : T39 a_this = 30 := hFc46.tt t47 (by decide) (nm1 (tne t47 t33 (by decide)))
  refine c_putr (k := 1) (v := b25 + 1) pk_X11 B hM t50 kd30 rfl (by decide) fl_X11_16 (Or.inr ⟨rfl, hm, rfl⟩) dX11_init_21 rfl rfl ⟨rfl, fun _ => rfl, rfl, fun _ => rfl⟩ (Or.inl rfl) (fun R51 H locs hu52 hM => ?_)
  have e53 : R51 a_this 1 = b25 + 1 := w2_at hu52
  replace hF : Fr mo_X11_init [a_this] T N I J R T39 N40 I J R51 := hF.wr hu52 (fun _ h => absurd (List.mem_singleton.mpr rfl) h)
  refine lv_aload_n B.1 B.2.1 dX11_init_24 rfl (lv_at hl 0 rfl) ?_
  have hMo := hM
  refine c_new (t := 32) pk_X4 B hX.out hA hM kd32 df_X4 rfl rfl (by decide) cl_X11_20 in_X4 ini_X4 (by show 0 + 1 + 1 + dz44 + 1 ≤ 249; omega) (by show 0 + 3000 + 3 + dl45 + 9 ≤ 23030; omega) dX11_init_25 (fun b54 L55 T56 N57 H t58 hT59 hN60 hM => ?_)
  have z61 : T b54 = 0 := T0_x hF t58 (nm1 (tne t58 t50 (by decide)))
  have t62 : T56 b54 = 32 := by rw [hT59, va_up_self]
  have n63 : N57 b54 = 9 := by rw [hN60, va_up_self]
  replace hF : Fr mo_X11_init [a_this] T N I J R T56 N57 I J R51 := hF.new t58 hT59 hN60
  have zz64 := hMo.2.2.2.2.2.1 b54 t58
  clear hMo
  refine lv_dup B.1 B.2.1 dX11_init_28 rfl ?_
  refine g_callv hM hA (c_runI (n := 0) (as := []) (rest := [.ref b54, .ref a_this]) B hX hA hM hl.1 (k_X4_init l D dA eA L55 T56 N57 I J R51 b54 t62 zz64 _ _) ml_X11_22 nm_X4_init ⟨rfl, rfl⟩ ⟨Nat.le_of_ble_eq_true rfl, Nat.le_of_ble_eq_true rfl⟩ dX11_init_29 rfl rfl (Nat.le_of_ble_eq_true rfl) ⟨by show 0 + 1 + 1 + dz44 + 1 + 221 ≤ 249; omega, by show 0 + 3000 + 3 + dl45 + 9 + 1142 ≤ 23030; omega⟩) (fun L67 T68 N69 I70 J71 R72 dz73 dl74 H locs hp65 hMn => ?_)
  obtain ⟨yJ71, hFc75, hp65a⟩ := hp65
  obtain rfl := yJ71.symm
  have t76 : T56 a_this = 30 := upT hT59 t58 t50 (by decide)
  have t77 : T39 b11 = 60 := hFc46.tt t48 (by decide) (nm1 (tne t48 t33 (by decide)))
  have t78 : T56 b11 = 60 := upT hT59 t58 t77 (by decide)
  have t79 : T56 b25 = 3 := upT hT59 t58 t49 (by decide)
  replace hF : Fr mo_X11_init [a_this] T N I J R T68 N69 I70 J R72 := hF.trans hFc75 (by decide) (e2x (fun h => absurd z61 h))
  have hM := hMn
  clear hMn
  obtain ⟨t80, hp65a⟩ := hp65a
  replace hp65a : dz73 ≤ 221 ∧ dl74 ≤ 1142 := hp65a
  obtain ⟨hp65a_0, hp65a_1⟩ := hp65a
  have t81 : T68 a_this = 30 := hFc75.tt t76 (by decide) (nm1 (tne t76 t62 (by decide)))
  refine c_putr (k := 2) (v := b54 + 1) pk_X11 B hM t81 kd30 rfl (by decide) fl_X11_23 (Or.inr ⟨rfl, hm, rfl⟩) dX11_init_32 rfl rfl ⟨rfl, fun _ => rfl, rfl, fun _ => rfl⟩ (Or.inl rfl) (fun R82 H locs hu83 hM => ?_)
  have e84 : R82 a_this 2 = b54 + 1 := w2_at hu83
  replace hF : Fr mo_X11_init [a_this] T N I J R T68 N69 I70 J R82 := hF.wr hu83 (fun _ h => absurd (List.mem_singleton.mpr rfl) h)
  refine lv_aload_n B.1 B.2.1 dX11_init_35 rfl (lv_at hl 0 rfl) ?_
  have hMo := hM
  refine c_new (t := 43) pk_Jx4a65c B hX.out hA hM kd43 df_Jx4a65c rfl rfl (by decide) cl_X11_27 in_Jx4a65c ini_Jx4a65c (by show 0 + 1 + 1 + dz44 + 1 + dz73 + 1 ≤ 249; omega) (by show 0 + 3000 + 3 + dl45 + 9 + dl74 + 3 ≤ 23030; omega) dX11_init_36 (fun b85 L86 T87 N88 H t89 hT90 hN91 hM => ?_)
  have z92 : T b85 = 0 := T0_x hF t89 (nm1 (tne t89 t81 (by decide)))
  have t93 : T87 b85 = 43 := by rw [hT90, va_up_self]
  have n94 : N88 b85 = 3 := by rw [hN91, va_up_self]
  replace hF : Fr mo_X11_init [a_this] T N I J R T87 N88 I70 J R82 := hF.new t89 hT90 hN91
  have zz95 := hMo.2.2.2.2.2.1 b85 t89
  clear hMo
  refine lv_dup B.1 B.2.1 dX11_init_39 rfl ?_
  have hv96 : (15 ≤ 22) ∧ (22 ≤ 23) := by first | omega | exact ⟨by first | omega | assumption | exact trivial, by first | omega | assumption | exact trivial⟩
  refine z_callv hM hA (c_runI (n := 0) (as := []) (rest := [.ref b85, .ref a_this]) B hX hA hM hl.1 (k_Jx4a65c_init_da8c8 l D dA eA L86 T87 N88 I70 J R82 b85 t93 zz95 22 hv96.1 hv96.2 _ _) ml_X11_29 nm_Jx4a65c_init_da8c8 ⟨rfl, rfl⟩ ⟨Nat.le_of_ble_eq_true rfl, Nat.le_of_ble_eq_true rfl⟩ dX11_init_40 rfl rfl (Nat.le_of_ble_eq_true rfl) ⟨by show 0 + 1 + 1 + dz44 + 1 + dz73 + 1 + 0 ≤ 249; omega, by show 0 + 3000 + 3 + dl45 + 9 + dl74 + 3 + 0 ≤ 23030; omega⟩) (fun L99 T100 N101 I102 J103 R104 dz105 dl106 H locs hp97 hMn => ?_)
  obtain ⟨yJ103, hFc107, hp97a⟩ := hp97
  obtain rfl := yJ103.symm
  have t108 : T87 a_this = 30 := upT hT90 t89 t81 (by decide)
  have t109 : T68 b11 = 60 := hFc75.tt t78 (by decide) (nm1 (tne t78 t62 (by decide)))
  have t110 : T87 b11 = 60 := upT hT90 t89 t109 (by decide)
  have t111 : T68 b25 = 3 := hFc75.tt t79 (by decide) (nm1 (tne t79 t62 (by decide)))
  have t112 : T87 b25 = 3 := upT hT90 t89 t111 (by decide)
  have t113 : T87 b54 = 4 := upT hT90 t89 t80 (by decide)
  replace hF : Fr mo_X11_init [a_this] T N I J R T100 N101 I102 J R104 := hF.trans hFc107 (by decide) (e2x (fun h => absurd z92 h))
  have hM := hMn
  clear hMn
  obtain ⟨t114, hp97a⟩ := hp97a
  replace hp97a : I102 b85 2 = 0 ∧ N101 (R104 b85 1 - 1) = 0 := hp97a
  obtain ⟨hp97a_0, hp97a_1⟩ := hp97a
  have t115 : T100 a_this = 30 := hFc107.tt t108 (by decide) (nm1 (tne t108 t93 (by decide)))
  refine c_putr (k := 4) (v := b85 + 1) pk_X11 B hM t115 kd30 rfl (by decide) fl_X11_30 (Or.inr ⟨rfl, hm, rfl⟩) dX11_init_43 rfl rfl ⟨rfl, fun _ => rfl, rfl, fun _ => rfl⟩ (Or.inl rfl) (fun R116 H locs hu117 hM => ?_)
  have e118 : R116 a_this 4 = b85 + 1 := w2_at hu117
  replace hF : Fr mo_X11_init [a_this] T N I J R T100 N101 I102 J R116 := hF.wr hu117 (fun _ h => absurd (List.mem_singleton.mpr rfl) h)
  refine lv_aload_n B.1 B.2.1 dX11_init_46 rfl (lv_at hl 0 rfl) ?_
  have hMo := hM
  refine c_new (t := 33) pk_X1 B hX.out hA hM kd33 df_X1 rfl rfl (by decide) cl_X11_34 in_X1 ini_X1 (by show 0 + 1 + 1 + dz44 + 1 + dz73 + 1 + 1 ≤ 249; omega) (by show 0 + 3000 + 3 + dl45 + 9 + dl74 + 3 + 20 ≤ 23030; omega) dX11_init_47 (fun b119 L120 T121 N122 H t123 hT124 hN125 hM => ?_)
  have z126 : T b119 = 0 := T0_x hF t123 (nm1 (tne t123 t115 (by decide)))
  have t127 : T121 b119 = 33 := by rw [hT124, va_up_self]
  have n128 : N122 b119 = 20 := by rw [hN125, va_up_self]
  replace hF : Fr mo_X11_init [a_this] T N I J R T121 N122 I102 J R116 := hF.new t123 hT124 hN125
  have zz129 := hMo.2.2.2.2.2.1 b119 t123
  clear hMo
  refine lv_dup B.1 B.2.1 dX11_init_50 rfl ?_
  refine lv_aload_n B.1 B.2.1 dX11_init_51 rfl (lv_at hl 0 rfl) ?_
  have t130 : T121 a_this = 30 := upT hT124 t123 t115 (by decide)
  refine c_getn (k := 4) pk_X11 B hM t130 kd30 rfl (by decide) fl_X11_30 dX11_init_52 e118 ?_
  have t131 : T121 b85 = 22 := upT hT124 t123 t114 (by decide)
  refine g_callv hM hA (c_runI (n := 1) (as := [.ref b85]) (rest := [.ref b119, .ref a_this]) B hX hA hM hl.1 (k_X1_init l D dA eA L120 T121 N122 I102 J R116 b119 t127 b85 t131 zz129 _ _) ml_X11_36 nm_X1_init ⟨rfl, rfl⟩ ⟨Nat.le_of_ble_eq_true rfl, Nat.le_of_ble_eq_true rfl⟩ dX11_init_55 rfl rfl (Nat.le_of_ble_eq_true rfl) ⟨by show 0 + 1 + 1 + dz44 + 1 + dz73 + 1 + 1 + 9 ≤ 249; omega, by show 0 + 3000 + 3 + dl45 + 9 + dl74 + 3 + 20 + 9663 ≤ 23030; omega⟩) (fun L134 T135 N136 I137 J138 R139 dz140 dl141 H locs hp132 hMn => ?_)
  obtain ⟨hFc142, hp132a⟩ := hp132
  have t143 : T100 b11 = 60 := hFc107.tt t110 (by decide) (nm1 (tne t110 t93 (by decide)))
  have t144 : T121 b11 = 60 := upT hT124 t123 t143 (by decide)
  have t145 : T100 b25 = 3 := hFc107.tt t112 (by decide) (nm1 (tne t112 t93 (by decide)))
  have t146 : T121 b25 = 3 := upT hT124 t123 t145 (by decide)
  have t147 : T100 b54 = 4 := hFc107.tt t113 (by decide) (nm1 (tne t113 t93 (by decide)))
  have t148 : T121 b54 = 4 := upT hT124 t123 t147 (by decide)
  replace hF : Fr mo_X11_init [a_this] T N I J R T135 N136 I137 J138 R139 := hF.trans hFc142 (by decide) (e2x (fun h => absurd z126 h))
  have hM := hMn
  clear hMn
  obtain ⟨t149, hp132a⟩ := hp132a
  replace hp132a : dz140 ≤ 9 ∧ dl141 ≤ 9663 ∧ I137 (R139 b119 6 - 1) 2 = 0 ∧ R139 b119 5 = b85 + 1 ∧ I137 b119 0 = 0 ∧ I137 b119 9 = 0 ∧ I137 b119 19 = 0 := hp132a
  obtain ⟨hp132a_0, hp132a_1, hp132a_2, hp132a_3, hp132a_4, hp132a_5, hp132a_6⟩ := hp132a
  obtain ⟨b150, e151, t152⟩ := g5_6 hM.2.2.2.2.2.2.1 t149
  have pq153 : I137 (R139 b119 6 - 1) 2 = I137 b150 2 := by rw [e151, Nat.add_sub_cancel]
  obtain ⟨x154, e155⟩ : ∃ v, I137 b150 2 = v := ⟨_, rfl⟩
  have t156 : T135 a_this = 30 := hFc142.tt t130 (by decide) (nm1 (tne t130 t127 (by decide)))
  refine c_putr (k := 3) (v := b119 + 1) pk_X11 B hM t156 kd30 rfl (by decide) fl_X11_39 (Or.inr ⟨rfl, hm, rfl⟩) dX11_init_58 rfl rfl ⟨rfl, fun _ => rfl, rfl, fun _ => rfl⟩ (Or.inl rfl) (fun R157 H locs hu158 hM => ?_)
  have e159 : R157 a_this 3 = b119 + 1 := w2_at hu158
  replace hF : Fr mo_X11_init [a_this] T N I J R T135 N136 I137 J138 R157 := hF.wr hu158 (fun _ h => absurd (List.mem_singleton.mpr rfl) h)
  refine lv_aload_n B.1 B.2.1 dX11_init_61 rfl (lv_at hl 0 rfl) ?_
  have hMo := hM
  refine c_new (t := 42) pk_J4 B hX.out hA hM kd42 df_J4 rfl rfl (by decide) cl_X11_43 in_J4 ini_J4 (by show 0 + 1 + 1 + dz44 + 1 + dz73 + 1 + 1 + dz140 + 1 ≤ 249; omega) (by show 0 + 3000 + 3 + dl45 + 9 + dl74 + 3 + 20 + dl141 + 4 ≤ 23030; omega) dX11_init_62 (fun b160 L161 T162 N163 H t164 hT165 hN166 hM => ?_)
  have z167 : T b160 = 0 := T0_x hF t164 (nm1 (tne t164 t156 (by decide)))
  have t168 : T162 b160 = 42 := by rw [hT165, va_up_self]
  have n169 : N163 b160 = 4 := by rw [hN166, va_up_self]
  replace hF : Fr mo_X11_init [a_this] T N I J R T162 N163 I137 J138 R157 := hF.new t164 hT165 hN166
  have zz170 := hMo.2.2.2.2.2.1 b160 t164
  clear hMo
  refine lv_dup B.1 B.2.1 dX11_init_65 rfl ?_
  refine g_callv hM hA (c_runI (n := 0) (as := []) (rest := [.ref b160, .ref a_this]) B hX hA hM hl.1 (k_J4_init_da8c8 l D dA eA L161 T162 N163 I137 J138 R157 b160 t168 zz170 _ _) ml_X11_45 nm_J4_init_da8c8 ⟨rfl, rfl⟩ ⟨Nat.le_of_ble_eq_true rfl, Nat.le_of_ble_eq_true rfl⟩ dX11_init_66 rfl rfl (Nat.le_of_ble_eq_true rfl) ⟨by show 0 + 1 + 1 + dz44 + 1 + dz73 + 1 + 1 + dz140 + 1 + 1 ≤ 249; omega, by show 0 + 3000 + 3 + dl45 + 9 + dl74 + 3 + 20 + dl141 + 4 + 16 ≤ 23030; omega⟩) (fun L173 T174 N175 I176 J177 R178 dz179 dl180 H locs hp171 hMn => ?_)
  obtain ⟨yJ177, hFc181, hp171a⟩ := hp171
  obtain rfl := yJ177.symm
  have t182 : T162 a_this = 30 := upT hT165 t164 t156 (by decide)
  have t183 : T135 b11 = 60 := hFc142.tt t144 (by decide) (nm1 (tne t144 t127 (by decide)))
  have t184 : T162 b11 = 60 := upT hT165 t164 t183 (by decide)
  have t185 : T135 b25 = 3 := hFc142.tt t146 (by decide) (nm1 (tne t146 t127 (by decide)))
  have t186 : T162 b25 = 3 := upT hT165 t164 t185 (by decide)
  have t187 : T135 b54 = 4 := hFc142.tt t148 (by decide) (nm1 (tne t148 t127 (by decide)))
  have t188 : T162 b54 = 4 := upT hT165 t164 t187 (by decide)
  have t189 : T135 b85 = 22 := hFc142.tt t131 (by decide) (nm1 (tne t131 t127 (by decide)))
  have t190 : T162 b85 = 22 := upT hT165 t164 t189 (by decide)
  have t191 : T162 b119 = 5 := upT hT165 t164 t149 (by decide)
  have t192 : T162 b150 = 23 := upT hT165 t164 t152 (by decide)
  replace hF : Fr mo_X11_init [a_this] T N I J R T174 N175 I176 J138 R178 := hF.trans hFc181 (by decide) (e2x (fun h => absurd z167 h))
  have hM := hMn
  clear hMn
  obtain ⟨t193, hp171a⟩ := hp171a
  replace hp171a : dz179 ≤ 1 ∧ dl180 ≤ 16 ∧ I176 b160 3 = 0 := hp171a
  obtain ⟨hp171a_0, hp171a_1, hp171a_2⟩ := hp171a
  have t194 : T174 a_this = 30 := hFc181.tt t182 (by decide) (nm1 (tne t182 t168 (by decide)))
  refine c_putr (k := 5) (v := b160 + 1) pk_X11 B hM t194 kd30 rfl (by decide) fl_X11_46 (Or.inr ⟨rfl, hm, rfl⟩) dX11_init_69 rfl rfl ⟨rfl, fun _ => rfl, rfl, fun _ => rfl⟩ (Or.inl rfl) (fun R195 H locs hu196 hM => ?_)
  have e197 : R195 a_this 5 = b160 + 1 := w2_at hu196
  replace hF : Fr mo_X11_init [a_this] T N I J R T174 N175 I176 J138 R195 := hF.wr hu196 (fun _ h => absurd (List.mem_singleton.mpr rfl) h)
  refine lv_aload_n B.1 B.2.1 dX11_init_72 rfl (lv_at hl 0 rfl) ?_
  have hMo := hM
  refine c_new (t := 34) pk_X0 B hX.out hA hM kd34 df_X0 rfl rfl (by decide) cl_X11_50 in_X0 ini_X0 (by show 0 + 1 + 1 + dz44 + 1 + dz73 + 1 + 1 + dz140 + 1 + dz179 + 1 ≤ 249; omega) (by show 0 + 3000 + 3 + dl45 + 9 + dl74 + 3 + 20 + dl141 + 4 + dl180 + 12 ≤ 23030; omega) dX11_init_73 (fun b198 L199 T200 N201 H t202 hT203 hN204 hM => ?_)
  have z205 : T b198 = 0 := T0_x hF t202 (nm1 (tne t202 t194 (by decide)))
  have t206 : T200 b198 = 34 := by rw [hT203, va_up_self]
  have n207 : N201 b198 = 12 := by rw [hN204, va_up_self]
  replace hF : Fr mo_X11_init [a_this] T N I J R T200 N201 I176 J138 R195 := hF.new t202 hT203 hN204
  have zz208 := hMo.2.2.2.2.2.1 b198 t202
  clear hMo
  refine lv_dup B.1 B.2.1 dX11_init_76 rfl ?_
  refine g_callv hM hA (c_runI (n := 0) (as := []) (rest := [.ref b198, .ref a_this]) B hX hA hM hl.1 (k_X0_initb l D dA eA L199 T200 N201 I176 J138 R195 b198 t206 zz208 _ _) ml_X11_52 nm_X0_init ⟨rfl, rfl⟩ ⟨Nat.le_of_ble_eq_true rfl, Nat.le_of_ble_eq_true rfl⟩ dX11_init_77 rfl rfl (Nat.le_of_ble_eq_true rfl) ⟨by show 0 + 1 + 1 + dz44 + 1 + dz73 + 1 + 1 + dz140 + 1 + dz179 + 1 + 8 ≤ 249; omega, by show 0 + 3000 + 3 + dl45 + 9 + dl74 + 3 + 20 + dl141 + 4 + dl180 + 12 + 150 ≤ 23030; omega⟩) (fun L211 T212 N213 I214 J215 R216 dz217 dl218 H locs hp209 hMn => ?_)
  obtain ⟨hFc219, hp209a⟩ := hp209
  have t220 : T200 a_this = 30 := upT hT203 t202 t194 (by decide)
  have t221 : T174 b11 = 60 := hFc181.tt t184 (by decide) (nm1 (tne t184 t168 (by decide)))
  have t222 : T200 b11 = 60 := upT hT203 t202 t221 (by decide)
  have t223 : T174 b25 = 3 := hFc181.tt t186 (by decide) (nm1 (tne t186 t168 (by decide)))
  have t224 : T200 b25 = 3 := upT hT203 t202 t223 (by decide)
  have t225 : T174 b54 = 4 := hFc181.tt t188 (by decide) (nm1 (tne t188 t168 (by decide)))
  have t226 : T200 b54 = 4 := upT hT203 t202 t225 (by decide)
  have t227 : T174 b85 = 22 := hFc181.tt t190 (by decide) (nm1 (tne t190 t168 (by decide)))
  have t228 : T200 b85 = 22 := upT hT203 t202 t227 (by decide)
  have t229 : T174 b119 = 5 := hFc181.tt t191 (by decide) (nm1 (tne t191 t168 (by decide)))
  have t230 : T200 b119 = 5 := upT hT203 t202 t229 (by decide)
  have t231 : T174 b150 = 23 := hFc181.tt t192 (by decide) (nm1 (tne t192 t168 (by decide)))
  have t232 : T200 b150 = 23 := upT hT203 t202 t231 (by decide)
  have t233 : T200 b160 = 14 := upT hT203 t202 t193 (by decide)
  replace hF : Fr mo_X11_init [a_this] T N I J R T212 N213 I214 J215 R216 := hF.trans hFc219 (by decide) (e2x (fun h => absurd z205 h))
  have hM := hMn
  clear hMn
  obtain ⟨t234, hp209a⟩ := hp209a
  replace hp209a : dz217 ≤ 8 ∧ dl218 ≤ 150 ∧ I214 (R216 b198 0 - 1) 2 = 0 ∧ I214 (R216 b198 1 - 1) 2 = 0 ∧ I214 (R216 b198 2 - 1) 2 = 0 ∧ I214 (R216 b198 3 - 1) 2 = 0 ∧ I214 b198 5 = 0 ∧ T200 (R216 b198 0 - 1) = 0 := hp209a
  obtain ⟨hp209a_0, hp209a_1, hp209a_2, hp209a_3, hp209a_4, hp209a_5, hp209a_6, hp209a_7⟩ := hp209a
  obtain ⟨b235, e236, t237⟩ := g6_0 hM.2.2.2.2.2.2.1 t234
  have pq238 : I214 (R216 b198 0 - 1) 2 = I214 b235 2 := by rw [e236, Nat.add_sub_cancel]
  obtain ⟨x239, e240⟩ : ∃ v, I214 b235 2 = v := ⟨_, rfl⟩
  obtain ⟨b241, e242, t243⟩ := g6_1 hM.2.2.2.2.2.2.1 t234
  have pq244 : I214 (R216 b198 1 - 1) 2 = I214 b241 2 := by rw [e242, Nat.add_sub_cancel]
  obtain ⟨x245, e246⟩ : ∃ v, I214 b241 2 = v := ⟨_, rfl⟩
  obtain ⟨b247, e248, t249⟩ := g6_2 hM.2.2.2.2.2.2.1 t234
  have pq250 : I214 (R216 b198 2 - 1) 2 = I214 b247 2 := by rw [e248, Nat.add_sub_cancel]
  obtain ⟨x251, e252⟩ : ∃ v, I214 b247 2 = v := ⟨_, rfl⟩
  obtain ⟨b253, e254, t255⟩ := g6_3 hM.2.2.2.2.2.2.1 t234
  have pq256 : I214 (R216 b198 3 - 1) 2 = I214 b253 2 := by rw [e254, Nat.add_sub_cancel]
  obtain ⟨x257, e258⟩ : ∃ v, I214 b253 2 = v := ⟨_, rfl⟩
  have t259 : T212 a_this = 30 := hFc219.tt t220 (by decide) (nm1 (tne t220 t206 (by decide)))
  refine c_putr (k := 6) (v := b198 + 1) pk_X11 B hM t259 kd30 rfl (by decide) fl_X11_53 (Or.inl rfl) dX11_init_80 rfl rfl ⟨rfl, fun _ => rfl, rfl, fun _ => rfl⟩ (Or.inl rfl) (fun R260 H locs hu261 hM => ?_)
  have e262 : R260 a_this 6 = b198 + 1 := w2_at hu261
  replace hF : Fr mo_X11_init [a_this] T N I J R T212 N213 I214 J215 R260 := hF.wr hu261 (fun _ h => absurd (List.mem_singleton.mpr rfl) h)
  refine lv_aload_n B.1 B.2.1 dX11_init_83 rfl (lv_at hl 0 rfl) ?_
  have e263 : R178 a_this 3 = b119 + 1 := (hFc181.r t182 (by decide) (nm1 (tne t182 t168 (by decide))) rfl).trans e159
  have e264 : R195 a_this 3 = b119 + 1 := (w2_ne hu196 (Or.inr (by decide))).trans e263
  have e265 : R216 a_this 3 = b119 + 1 := (hFc219.r t220 (by decide) (nm1 (tne t220 t206 (by decide))) rfl).trans e264
  have e266 : R260 a_this 3 = b119 + 1 := (w2_ne hu261 (Or.inr (by decide))).trans e265
  refine c_getn (k := 3) pk_X11 B hM t259 kd30 rfl (by decide) fl_X11_39 dX11_init_84 e266 ?_
  refine lv_aload_n B.1 B.2.1 dX11_init_87 rfl (lv_at hl 0 rfl) ?_
  refine c_getn (k := 6) pk_X11 B hM t259 kd30 rfl (by decide) fl_X11_53 dX11_init_88 e262 ?_
  have t267 : T212 b119 = 5 := hFc219.tt t230 (by decide) (nm1 (tne t230 t206 (by decide)))
  refine z_callv hM hA (c_runV (n := 1) (as := [.ref b198]) (rest := []) B hX hA hM hl.1 t267 kd5 rfl (k_X1_forget l D dA eA L211 T212 N213 I214 J215 R260 b119 t267 b198 t234 _ _) ml_X11_57 nm_X1_forget ⟨rfl, rfl⟩ ⟨Nat.le_of_ble_eq_true rfl, Nat.le_of_ble_eq_true rfl⟩ dX11_init_91 rfl rfl (Nat.le_of_ble_eq_true rfl) ⟨by show 0 + 1 + 1 + dz44 + 1 + dz73 + 1 + 1 + dz140 + 1 + dz179 + 1 + dz217 + 0 ≤ 249; omega, by show 0 + 3000 + 3 + dl45 + 9 + dl74 + 3 + 20 + dl141 + 4 + dl180 + 12 + dl218 + 0 ≤ 23030; omega⟩) (fun L270 T271 N272 I273 J274 R275 dz276 dl277 H locs hp268 hMn => ?_)
  obtain ⟨yL270, yT271, yN272, yJ274, hFc278, hp268a⟩ := hp268
  obtain rfl := yL270.symm; obtain rfl := yT271.symm; obtain rfl := yN272.symm; obtain rfl := yJ274.symm
  replace hF : Fr mo_X11_init [a_this] T N I J R T212 N213 I273 J215 R275 := hF.trans hFc278 (by decide) e20
  have hM := hMn
  clear hMn
  replace hp268a : I273 b119 0 = 0 ∧ I273 b119 19 = 0 ∧ I273 b119 9 = 0 ∧ R275 b119 4 = b198 + 1 := hp268a
  obtain ⟨hp268a_0, hp268a_1, hp268a_2, hp268a_3⟩ := hp268a
  refine lv_aload_n B.1 B.2.1 dX11_init_94 rfl (lv_at hl 0 rfl) ?_
  refine q_con B dX11_init_95 ?_
  refine c_puti (k := 9) pk_X11 B hM t259 kd30 rfl (by decide) fl_X11_61 (Or.inl rfl) dX11_init_96 rfl rfl rfl (show (-2147483648 : Int) ≤ -1 from by omega) (show -1 ≤ (2147483647 : Int) from by omega) (fun I279 H locs hu280 hM => ?_)
  have e281 : I279 a_this 9 = -1 := w2_at hu280
  replace hF : Fr mo_X11_init [a_this] T N I J R T212 N213 I279 J215 R275 := hF.wi hu280 (fun _ h => absurd (List.mem_singleton.mpr rfl) h)
  have e282 : R43 a_this 0 = b11 + 1 := (hFc46.r t47 (by decide) (nm1 (tne t47 t33 (by decide))) rfl).trans e24
  have e283 : R51 a_this 0 = b11 + 1 := (w2_ne hu52 (Or.inr (by decide))).trans e282
  have e284 : R72 a_this 0 = b11 + 1 := (hFc75.r t76 (by decide) (nm1 (tne t76 t62 (by decide))) rfl).trans e283
  have e285 : R82 a_this 0 = b11 + 1 := (w2_ne hu83 (Or.inr (by decide))).trans e284
  have e286 : R104 a_this 0 = b11 + 1 := (hFc107.r t108 (by decide) (nm1 (tne t108 t93 (by decide))) rfl).trans e285
  have e287 : R116 a_this 0 = b11 + 1 := (w2_ne hu117 (Or.inr (by decide))).trans e286
  have e288 : R139 a_this 0 = b11 + 1 := (hFc142.r t130 (by decide) (nm1 (tne t130 t127 (by decide))) rfl).trans e287
  have e289 : R157 a_this 0 = b11 + 1 := (w2_ne hu158 (Or.inr (by decide))).trans e288
  have e290 : R178 a_this 0 = b11 + 1 := (hFc181.r t182 (by decide) (nm1 (tne t182 t168 (by decide))) rfl).trans e289
  have e291 : R195 a_this 0 = b11 + 1 := (w2_ne hu196 (Or.inr (by decide))).trans e290
  have e292 : R216 a_this 0 = b11 + 1 := (hFc219.r t220 (by decide) (nm1 (tne t220 t206 (by decide))) rfl).trans e291
  have e293 : R260 a_this 0 = b11 + 1 := (w2_ne hu261 (Or.inr (by decide))).trans e292
  have e294 : R275 a_this 0 = b11 + 1 := (hFc278.r t259 (by decide) nm0 rfl).trans e293
  have e295 : R72 a_this 1 = b25 + 1 := (hFc75.r t76 (by decide) (nm1 (tne t76 t62 (by decide))) rfl).trans e53
  have e296 : R82 a_this 1 = b25 + 1 := (w2_ne hu83 (Or.inr (by decide))).trans e295
  have e297 : R104 a_this 1 = b25 + 1 := (hFc107.r t108 (by decide) (nm1 (tne t108 t93 (by decide))) rfl).trans e296
  have e298 : R116 a_this 1 = b25 + 1 := (w2_ne hu117 (Or.inr (by decide))).trans e297
  have e299 : R139 a_this 1 = b25 + 1 := (hFc142.r t130 (by decide) (nm1 (tne t130 t127 (by decide))) rfl).trans e298
  have e300 : R157 a_this 1 = b25 + 1 := (w2_ne hu158 (Or.inr (by decide))).trans e299
  have e301 : R178 a_this 1 = b25 + 1 := (hFc181.r t182 (by decide) (nm1 (tne t182 t168 (by decide))) rfl).trans e300
  have e302 : R195 a_this 1 = b25 + 1 := (w2_ne hu196 (Or.inr (by decide))).trans e301
  have e303 : R216 a_this 1 = b25 + 1 := (hFc219.r t220 (by decide) (nm1 (tne t220 t206 (by decide))) rfl).trans e302
  have e304 : R260 a_this 1 = b25 + 1 := (w2_ne hu261 (Or.inr (by decide))).trans e303
  have e305 : R275 a_this 1 = b25 + 1 := (hFc278.r t259 (by decide) nm0 rfl).trans e304
  have e306 : R104 a_this 2 = b54 + 1 := (hFc107.r t108 (by decide) (nm1 (tne t108 t93 (by decide))) rfl).trans e84
  have e307 : R116 a_this 2 = b54 + 1 := (w2_ne hu117 (Or.inr (by decide))).trans e306
  have e308 : R139 a_this 2 = b54 + 1 := (hFc142.r t130 (by decide) (nm1 (tne t130 t127 (by decide))) rfl).trans e307
  have e309 : R157 a_this 2 = b54 + 1 := (w2_ne hu158 (Or.inr (by decide))).trans e308
  have e310 : R178 a_this 2 = b54 + 1 := (hFc181.r t182 (by decide) (nm1 (tne t182 t168 (by decide))) rfl).trans e309
  have e311 : R195 a_this 2 = b54 + 1 := (w2_ne hu196 (Or.inr (by decide))).trans e310
  have e312 : R216 a_this 2 = b54 + 1 := (hFc219.r t220 (by decide) (nm1 (tne t220 t206 (by decide))) rfl).trans e311
  have e313 : R260 a_this 2 = b54 + 1 := (w2_ne hu261 (Or.inr (by decide))).trans e312
  have e314 : R275 a_this 2 = b54 + 1 := (hFc278.r t259 (by decide) nm0 rfl).trans e313
  have e315 : R275 a_this 3 = b119 + 1 := (hFc278.r t259 (by decide) nm0 rfl).trans e266
  have e316 : R139 a_this 4 = b85 + 1 := (hFc142.r t130 (by decide) (nm1 (tne t130 t127 (by decide))) rfl).trans e118
  have e317 : R157 a_this 4 = b85 + 1 := (w2_ne hu158 (Or.inr (by decide))).trans e316
  have e318 : R178 a_this 4 = b85 + 1 := (hFc181.r t182 (by decide) (nm1 (tne t182 t168 (by decide))) rfl).trans e317
  have e319 : R195 a_this 4 = b85 + 1 := (w2_ne hu196 (Or.inr (by decide))).trans e318
  have e320 : R216 a_this 4 = b85 + 1 := (hFc219.r t220 (by decide) (nm1 (tne t220 t206 (by decide))) rfl).trans e319
  have e321 : R260 a_this 4 = b85 + 1 := (w2_ne hu261 (Or.inr (by decide))).trans e320
  have e322 : R275 a_this 4 = b85 + 1 := (hFc278.r t259 (by decide) nm0 rfl).trans e321
  have e323 : R216 a_this 5 = b160 + 1 := (hFc219.r t220 (by decide) (nm1 (tne t220 t206 (by decide))) rfl).trans e197
  have e324 : R260 a_this 5 = b160 + 1 := (w2_ne hu261 (Or.inr (by decide))).trans e323
  have e325 : R275 a_this 5 = b160 + 1 := (hFc278.r t259 (by decide) nm0 rfl).trans e324
  have e326 : R275 a_this 6 = b198 + 1 := (hFc278.r t259 (by decide) nm0 rfl).trans e262
  have e327 : I70 a_this 7 = 0 := (hFc75.i t76 (by decide) (nm1 (tne t76 t62 (by decide))) rfl).trans e8
  have e328 : I102 a_this 7 = 0 := (hFc107.i t108 (by decide) (nm1 (tne t108 t93 (by decide))) rfl).trans e327
  have e329 : I137 a_this 7 = 0 := (hFc142.i t130 (by decide) (nm1 (tne t130 t127 (by decide))) rfl).trans e328
  have e330 : I176 a_this 7 = 0 := (hFc181.i t182 (by decide) (nm1 (tne t182 t168 (by decide))) rfl).trans e329
  have e331 : I214 a_this 7 = 0 := (hFc219.i t220 (by decide) (nm1 (tne t220 t206 (by decide))) rfl).trans e330
  have e332 : I273 a_this 7 = 0 := (hFc278.i t259 (by decide) nm0 rfl).trans e331
  have e333 : I279 a_this 7 = 0 := (w2_ne hu280 (Or.inr (by decide))).trans e332
  have e334 : I70 a_this 8 = 0 := (hFc75.i t76 (by decide) (nm1 (tne t76 t62 (by decide))) rfl).trans e9
  have e335 : I102 a_this 8 = 0 := (hFc107.i t108 (by decide) (nm1 (tne t108 t93 (by decide))) rfl).trans e334
  have e336 : I137 a_this 8 = 0 := (hFc142.i t130 (by decide) (nm1 (tne t130 t127 (by decide))) rfl).trans e335
  have e337 : I176 a_this 8 = 0 := (hFc181.i t182 (by decide) (nm1 (tne t182 t168 (by decide))) rfl).trans e336
  have e338 : I214 a_this 8 = 0 := (hFc219.i t220 (by decide) (nm1 (tne t220 t206 (by decide))) rfl).trans e337
  have e339 : I273 a_this 8 = 0 := (hFc278.i t259 (by decide) nm0 rfl).trans e338
  have e340 : I279 a_this 8 = 0 := (w2_ne hu280 (Or.inr (by decide))).trans e339
  have t343 : T212 b11 = 60 := hFc219.tt t222 (by decide) (nm1 (tne t222 t206 (by decide)))
  have t344 : T212 b25 = 3 := hFc219.tt t224 (by decide) (nm1 (tne t224 t206 (by decide)))
  have t345 : T212 b54 = 4 := hFc219.tt t226 (by decide) (nm1 (tne t226 t206 (by decide)))
  have t346 : T212 b85 = 22 := hFc219.tt t228 (by decide) (nm1 (tne t228 t206 (by decide)))
  have t347 : T212 b160 = 14 := hFc219.tt t233 (by decide) (nm1 (tne t233 t206 (by decide)))
  obtain ⟨T341, hT342⟩ : ∃ X, X = va_up T212 a_this 2 := ⟨_, rfl⟩
  have hn9 : 10 ≤ N213 a_this ∧ N213 a_this ≤ 10 := hM.2.2.2.2.2.2.1.n t259 (by decide)
  have hty348 : TY T341 N213 I279 R275 a_this := by
    have h9 : T341 a_this = 2 := by rw [hT342, va_up_self]
    unfold TY; rw [h9]
    refine ⟨hn9.1, hn9.2, fun k hk => ?_⟩
    have hk9 : k = 0 ∨ k = 1 ∨ k = 2 ∨ k = 3 ∨ k = 4 ∨ k = 5 ∨ k = 6 ∨ k = 7 ∨ k = 8 ∨ k = 9 := by omega
    rcases hk9 with rfl | rfl | rfl | rfl | rfl | rfl | rfl | rfl | rfl | rfl
    · exact ⟨hM.2.2.2.2.2.2.1.io (t := 30) t259 (by decide) (by decide), (by rw [e294]; exact rokR (t := 60) (by rw [hT342, va_up_ne _ _ (tne t343 t259 (by decide))]; exact t343) rfl)⟩
    · exact ⟨hM.2.2.2.2.2.2.1.io (t := 30) t259 (by decide) (by decide), (by rw [e305]; exact rokR (t := 3) (by rw [hT342, va_up_ne _ _ (tne t344 t259 (by decide))]; exact t344) rfl)⟩
    · exact ⟨hM.2.2.2.2.2.2.1.io (t := 30) t259 (by decide) (by decide), (by rw [e314]; exact rokR (t := 4) (by rw [hT342, va_up_ne _ _ (tne t345 t259 (by decide))]; exact t345) rfl)⟩
    · exact ⟨hM.2.2.2.2.2.2.1.io (t := 30) t259 (by decide) (by decide), (by rw [e315]; exact rokR (t := 5) (by rw [hT342, va_up_ne _ _ (tne t267 t259 (by decide))]; exact t267) rfl)⟩
    · exact ⟨hM.2.2.2.2.2.2.1.io (t := 30) t259 (by decide) (by decide), (by rw [e322]; exact rokR (t := 22) (by rw [hT342, va_up_ne _ _ (tne t346 t259 (by decide))]; exact t346) rfl)⟩
    · exact ⟨hM.2.2.2.2.2.2.1.io (t := 30) t259 (by decide) (by decide), (by rw [e325]; exact rokR (t := 14) (by rw [hT342, va_up_ne _ _ (tne t347 t259 (by decide))]; exact t347) rfl)⟩
    · exact ⟨hM.2.2.2.2.2.2.1.io (t := 30) t259 (by decide) (by decide), (by rw [e326]; exact rokR (t := 6) (by rw [hT342, va_up_ne _ _ (tne t234 t259 (by decide))]; exact t234) rfl)⟩
    · exact ⟨(by rw [e333]; exact (show (0 : Int) ≤ 0 ∧ (0 : Int) ≤ 3000 from by omega)), Or.inl rfl⟩
    · exact ⟨hM.2.2.2.2.2.2.1.io (t := 30) t259 (by decide) (by decide), Or.inl rfl⟩
    · exact ⟨hM.2.2.2.2.2.2.1.io (t := 30) t259 (by decide) (by decide), Or.inl rfl⟩
  have hM := hM.tag (t := 2) t259 (by decide) (by decide) rfl (by decide) hT342 hty348 (XI.tag0 hM.2.2.2.2.2.2.1 hM.2.2.2.2.2.2.2 t259 (by decide) hT342 (fun h h2 => by omega) (fun h => by omega) (fun h => by omega) (fun h => by omega) (fun h => by omega))
  replace hF : Fr mo_X11_init [a_this] T N I J R T341 N213 I279 J215 R275 := hF.tag hT342 (fun _ => List.mem_singleton.mpr rfl)
  have t349 : T341 a_this = 2 := by rw [hT342, va_up_self]
  have t350 : T341 b119 = 5 := by rw [hT342, va_up_ne _ _ (tne t267 t259 (by decide))]; exact t267
  have e351 : R157 b119 5 = b85 + 1 := (w2_ne hu158 (Or.inl (tne t350 t349 (by decide)))).trans hp132a_3
  have e352 : R178 b119 5 = b85 + 1 := (hFc181.r t191 (by decide) (nm1 (tne t191 t168 (by decide))) rfl).trans e351
  have e353 : R195 b119 5 = b85 + 1 := (w2_ne hu196 (Or.inl (tne t350 t349 (by decide)))).trans e352
  have e354 : R216 b119 5 = b85 + 1 := (hFc219.r t230 (by decide) (nm1 (tne t230 t206 (by decide))) rfl).trans e353
  have e355 : R260 b119 5 = b85 + 1 := (w2_ne hu261 (Or.inl (tne t350 t349 (by decide)))).trans e354
  have e356 : R275 b119 5 = b85 + 1 := (hFc278.r t267 (by decide) nm0 rfl).trans e355
  have t357 : T341 b198 = 6 := by rw [hT342, va_up_ne _ _ (tne t234 t259 (by decide))]; exact t234
  have e358 : R260 b198 0 = b235 + 1 := (w2_ne hu261 (Or.inl (tne t357 t349 (by decide)))).trans e236
  have e359 : R275 b198 0 = b235 + 1 := (hFc278.r t234 (by decide) nm0 rfl).trans e358
  have e360 : R260 b198 1 = b241 + 1 := (w2_ne hu261 (Or.inl (tne t357 t349 (by decide)))).trans e242
  have e361 : R275 b198 1 = b241 + 1 := (hFc278.r t234 (by decide) nm0 rfl).trans e360
  have e362 : R157 b119 6 = b150 + 1 := (w2_ne hu158 (Or.inl (tne t350 t349 (by decide)))).trans e151
  have e363 : R178 b119 6 = b150 + 1 := (hFc181.r t191 (by decide) (nm1 (tne t191 t168 (by decide))) rfl).trans e362
  have e364 : R195 b119 6 = b150 + 1 := (w2_ne hu196 (Or.inl (tne t350 t349 (by decide)))).trans e363
  have e365 : R216 b119 6 = b150 + 1 := (hFc219.r t230 (by decide) (nm1 (tne t230 t206 (by decide))) rfl).trans e364
  have e366 : R260 b119 6 = b150 + 1 := (w2_ne hu261 (Or.inl (tne t350 t349 (by decide)))).trans e365
  have e367 : R275 b119 6 = b150 + 1 := (hFc278.r t267 (by decide) nm0 rfl).trans e366
  have e368 : I273 b241 2 = x245 := (hFc278.i t243 (by decide) nm0 rfl).trans e246
  have t369 : T341 b241 = 16 := by rw [hT342, va_up_ne _ _ (tne t243 t259 (by decide))]; exact t243
  have e370 : I279 b241 2 = x245 := (w2_ne hu280 (Or.inl (tne t369 t349 (by decide)))).trans e368
  have e371 : I279 b119 0 = 0 := (w2_ne hu280 (Or.inl (tne t350 t349 (by decide)))).trans hp268a_0
  have t372 : T341 b85 = 22 := by rw [hT342, va_up_ne _ _ (tne t346 t259 (by decide))]; exact t346
  have t373 : T341 b235 = 15 := by rw [hT342, va_up_ne _ _ (tne t237 t259 (by decide))]; exact t237
  have t374 : T212 b150 = 23 := hFc219.tt t232 (by decide) (nm1 (tne t232 t206 (by decide)))
  have t375 : T341 b150 = 23 := by rw [hT342, va_up_ne _ _ (tne t374 t259 (by decide))]; exact t374
  refine g_vret B hM dX11_init_99 ⟨by show 0 + 1 + 1 + dz44 + 1 + dz73 + 1 + 1 + dz140 + 1 + dz179 + 1 + dz217 ≤ 249; omega, by show 0 + 3000 + 3 + dl45 + 9 + dl74 + 3 + 20 + dl141 + 4 + dl180 + 12 + dl218 ≤ 23030; omega⟩ ?_
  rw [← hPST]
  exact ⟨rfl, hF, t349, by exact ⟨b119, b198, b85, b235, b241, b150, ⟨e315, t350⟩, ⟨e326, t357⟩, ⟨e322, t372⟩, e356, hp268a_3, ⟨e359, t373⟩, ⟨e361, t369⟩, ⟨e367, t375⟩, FLq.zero (by omega), FUg.zero (by omega)⟩, by first | omega | assumption | exact trivial, by first | omega | assumption | exact trivial, by first | omega | assumption | exact trivial⟩
