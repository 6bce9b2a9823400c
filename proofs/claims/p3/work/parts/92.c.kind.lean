def mo_X3_initb : List Nat := [608, 609, 610, 1728]
set_option maxHeartbeats 1000000 in
set_option maxRecDepth 20000 in
theorem k_X3_initb (l : Launch) (D : va_G) (dA : Nat → ClassId) (eA : Nat) (L : List Nat) (T N : Nat → Nat) (I : Nat → Nat → Int) (J : Nat → Nat → Int64) (R : Nat → Nat → Nat) (a_this : Nat) (t_this : T a_this = 39) (a_n : Int) (i_n : (-2147483648 : Int) ≤ a_n ∧ a_n ≤ 2147483647) (a_above : Nat) (q_above : a_above = 0 ∨ ∃ b, a_above = b + 1 ∧ T b = 11) (z_this : ∀ k, I a_this k = 0 ∧ J a_this k = 0 ∧ R a_this k = 0) (p_0 : 0 ≤ a_n) (p_1 : a_n ≤ 15) (p_2 : ∀ b, a_above = b + 1 → I b 0 < a_n) : GC l yX3_init cX3_init 4 none ({ frames := 7, cells := 18, slots := 260, locals := 241 }) D dA eA L T N I J R [.ref a_this, .int (II a_n), cv a_above] 18 260 (gV (fun L' T' N' I' J' R' dz dl => Fr mo_X3_initb [a_this] T N I J R T' N' I' J' R' ∧ T' a_this = 11 ∧ (dz ≤ 18 ∧ dl ≤ 260 ∧ I' a_this 0 = a_n ∧ T (R' a_this 3 - 1) = 0 ∧ I' (R' a_this 3 - 1) 2 = I' a_this 4 ∧ OT 19 T I I' (R' a_this 3 - 1)))) := by
  generalize hPST : (gV (fun L' T' N' I' J' R' dz dl => Fr mo_X3_initb [a_this] T N I J R T' N' I' J' R' ∧ T' a_this = 11 ∧ (dz ≤ 18 ∧ dl ≤ 260 ∧ I' a_this 0 = a_n ∧ T (R' a_this 3 - 1) = 0 ∧ I' (R' a_this 3 - 1) 2 = I' a_this 4 ∧ OT 19 T I I' (R' a_this 3 - 1)))) = PST
  refine g_enter (own := RX3) (by decide) rfl (by cases a_above <;> exact Nat.le_of_ble_eq_true rfl) (fun p e s m args below meth c ls hm B hX hM hl => ?_)
  have hC0 := hM.2.2.2.2.2.2.1
  have hW0 := hM.2.2.2
  have hF : Fr mo_X3_initb [a_this] T N I J R T N I J R := Fr.rf
  have hA : ∀ q, s.heap.size ≤ q → cF dA L T N I J R s.heap.size q := fun q h => Or.inr h
  have hl : lv_has ls 4 [(0, .ref a_this), (1, .int (II a_n)), (2, cv a_above)] := (by cases a_above <;> exact hl)
  have e1 : I a_this 0 = 0 := (z_this 0).1
  have e2 : I a_this 1 = 0 := (z_this 1).1
  have e3 : R a_this 2 = 0 := (z_this 2).2.2
  have e4 : R a_this 3 = 0 := (z_this 3).2.2
  have e5 : I a_this 4 = 0 := (z_this 4).1
  have e6 : R a_this 5 = 0 := (z_this 5).2.2
  have hot : OT 19 T I I a_this := OT.rf
  refine lv_aload_n B.1 B.2.1 dX3_init_0 rfl (lv_at hl 0 rfl) ?_
  have hFt := hF
  have hMt := hM
  refine c_obj B ol_X3_3 hl.1 (Nat.le_of_ble_eq_true rfl) (Nat.le_of_ble_eq_true rfl) dX3_init_1 ?_
  clear hFt hMt
  refine lv_aload_n B.1 B.2.1 dX3_init_4 rfl (lv_at hl 0 rfl) ?_
  refine lv_iload_n B.1 B.2.1 dX3_init_5 rfl (lv_at hl 1 rfl) ?_
  refine c_puti (k := 0) pk_X3 B hM t_this kd39 rfl (by decide) fl_X3_9 (Or.inr ⟨rfl, hm, rfl⟩) dX3_init_6 rfl rfl rfl (show (-2147483648 : Int) ≤ a_n from by omega) (show a_n ≤ (2147483647 : Int) from by omega) (fun I7 H locs hu8 hM => ?_)
  have hFt := hF
  have e9 : I7 a_this 0 = a_n := w2_at hu8
  replace hF : Fr mo_X3_initb [a_this] T N I J R T N I7 J R := hF.wi hu8 (fun _ h => absurd (List.mem_singleton.mpr rfl) h)
  replace hot : OT 19 T I I7 a_this := OT.wr hot hFt (fun b hb => nm1 (tne hb t_this (by decide))) (by decide) t_this (by decide) hu8
  clear hFt
  refine lv_aload_n B.1 B.2.1 dX3_init_9 rfl (lv_at hl 0 rfl) ?_
  have hMo := hM
  refine c_new (t := 43) pk_Jx4a65c B hX.out hA hM kd43 df_Jx4a65c rfl rfl (by decide) cl_X3_15 in_Jx4a65c ini_Jx4a65c (by show 0 + 1 ≤ 18; omega) (by show 0 + 3 ≤ 260; omega) dX3_init_10 (fun b10 L11 T12 N13 H t14 hT15 hN16 hM => ?_)
  have t17 : T12 b10 = 43 := by rw [hT15, va_up_self]
  have n18 : N13 b10 = 3 := by rw [hN16, va_up_self]
  replace hF : Fr mo_X3_initb [a_this] T N I J R T12 N13 I7 J R := hF.new t14 hT15 hN16
  have zz19 := hMo.2.2.2.2.2.1 b10 t14
  clear hMo
  refine lv_dup B.1 B.2.1 dX3_init_13 rfl ?_
  have hFt := hF
  have hMt := hM
  have hv20 : (15 ≤ 19) ∧ (19 ≤ 23) := by first | omega | exact ⟨by first | omega | assumption | exact trivial, by first | omega | assumption | exact trivial⟩
  refine z_callv hM hA (c_runI (n := 0) (as := []) (rest := [.ref b10, .ref a_this]) B hX hA hM hl.1 (k_Jx4a65c_init_da8c8 l D dA eA L11 T12 N13 I7 J R b10 t17 zz19 19 hv20.1 hv20.2 _ _) ml_X3_17 nm_Jx4a65c_init_da8c8 ⟨rfl, rfl⟩ ⟨Nat.le_of_ble_eq_true rfl, Nat.le_of_ble_eq_true rfl⟩ dX3_init_14 rfl rfl (Nat.le_of_ble_eq_true rfl) ⟨by show 0 + 1 + 0 ≤ 18; omega, by show 0 + 3 + 0 ≤ 260; omega⟩) (fun L23 T24 N25 I26 J27 R28 dz29 dl30 H locs hp21 hMn => ?_)
  obtain ⟨yJ27, hFc31, hp21a⟩ := hp21
  obtain rfl := yJ27.symm
  have t32 : T12 a_this = 39 := upT hT15 t14 t_this (by decide)
  replace hF : Fr mo_X3_initb [a_this] T N I J R T24 N25 I26 J R28 := hF.trans hFc31 (by decide) (e2x (fun h => absurd t14 h))
  have hM := hMn
  clear hMn
  obtain ⟨t33, hp21a⟩ := hp21a
  replace hp21a : I26 b10 2 = 0 ∧ N25 (R28 b10 1 - 1) = 0 := hp21a
  obtain ⟨hp21a_0, hp21a_1⟩ := hp21a
  replace hot : OT 19 T I I26 a_this := OT.step hot hFt (fun b hb => nm1 (tne hb t_this (by decide))) hFc31 (by decide) (by decide) (fun b hb => (nm1 (tne hb t17 (by decide))))
  clear hFt hMt
  have t34 : T24 a_this = 39 := hFc31.tt t32 (by decide) (nm1 (tne t32 t17 (by decide)))
  refine c_putr (k := 3) (v := b10 + 1) pk_X3 B hM t34 kd39 rfl (by decide) fl_X3_18 (Or.inr ⟨rfl, hm, rfl⟩) dX3_init_17 rfl rfl ⟨rfl, fun _ => rfl, rfl, fun _ => rfl⟩ (Or.inl rfl) (fun R35 H locs hu36 hM => ?_)
  have hFt := hF
  have e37 : R35 a_this 3 = b10 + 1 := w2_at hu36
  replace hF : Fr mo_X3_initb [a_this] T N I J R T24 N25 I26 J R35 := hF.wr hu36 (fun _ h => absurd (List.mem_singleton.mpr rfl) h)
  clear hFt
  replace hot : OT 19 T I I26 b10 := OT.ch hot t_this (by decide)
  refine lv_aload_n B.1 B.2.1 dX3_init_20 rfl (lv_at hl 0 rfl) ?_
  have hMo := hM
  refine c_new (t := 38) pk_X8 B hX.out hA hM kd38 df_X8 rfl rfl (by decide) cl_X3_22 in_X8 ini_X8 (by show 0 + 1 + 1 ≤ 18; omega) (by show 0 + 3 + 6 ≤ 260; omega) dX3_init_21 (fun b38 L39 T40 N41 H t42 hT43 hN44 hM => ?_)
  have z45 : T b38 = 0 := T0_x hF t42 (nm1 (tne t42 t34 (by decide)))
  have t46 : T40 b38 = 38 := by rw [hT43, va_up_self]
  have n47 : N41 b38 = 6 := by rw [hN44, va_up_self]
  replace hF : Fr mo_X3_initb [a_this] T N I J R T40 N41 I26 J R35 := hF.new t42 hT43 hN44
  have zz48 := hMo.2.2.2.2.2.1 b38 t42
  clear hMo
  refine lv_dup B.1 B.2.1 dX3_init_24 rfl ?_
  refine lv_lconst (v := 0) B.1 B.2.1 dX3_init_25 (by decide) ?_
  refine q_con B dX3_init_26 ?_
  have hFt := hF
  have hMt := hM
  refine g_callv hM hA (c_runI (n := 2) (as := [.long ((0 : Int64)), .int (II 5)]) (rest := [.ref b38, .ref a_this]) B hX hA hM hl.1 (k_X8_init l D dA eA L39 T40 N41 I26 J R35 b38 t46 ((0 : Int64)) (5) (by first | omega | assumption | exact trivial) zz48 _ _) ml_X3_24 nm_X8_init ⟨rfl, rfl⟩ ⟨Nat.le_of_ble_eq_true rfl, Nat.le_of_ble_eq_true rfl⟩ dX3_init_27 rfl rfl (Nat.le_of_ble_eq_true rfl) ⟨by show 0 + 1 + 1 + 2 ≤ 18; omega, by show 0 + 3 + 6 + 6 ≤ 260; omega⟩) (fun L51 T52 N53 I54 J55 R56 dz57 dl58 H locs hp49 hMn => ?_)
  obtain ⟨hFc59, hp49a⟩ := hp49
  have t60 : T40 a_this = 39 := upT hT43 t42 t34 (by decide)
  have t61 : T40 b10 = 19 := upT hT43 t42 t33 (by decide)
  replace hF : Fr mo_X3_initb [a_this] T N I J R T52 N53 I54 J55 R56 := hF.trans hFc59 (by decide) (e2x (fun h => absurd z45 h))
  have hM := hMn
  clear hMn
  obtain ⟨t62, hp49a⟩ := hp49a
  replace hp49a : dz57 ≤ 2 ∧ dl58 ≤ 6 ∧ I54 (R56 b38 3 - 1) 2 = 0 ∧ I54 (R56 b38 4 - 1) 2 = 0 := hp49a
  obtain ⟨hp49a_0, hp49a_1, hp49a_2, hp49a_3⟩ := hp49a
  obtain ⟨b63, e64, t65⟩ := g10_3 hM.2.2.2.2.2.2.1 t62
  have pq66 : I54 (R56 b38 3 - 1) 2 = I54 b63 2 := by rw [e64, Nat.add_sub_cancel]
  obtain ⟨x67, e68⟩ : ∃ v, I54 b63 2 = v := ⟨_, rfl⟩
  obtain ⟨b69, e70, t71⟩ := g10_4 hM.2.2.2.2.2.2.1 t62
  have pq72 : I54 (R56 b38 4 - 1) 2 = I54 b69 2 := by rw [e70, Nat.add_sub_cancel]
  obtain ⟨x73, e74⟩ : ∃ v, I54 b69 2 = v := ⟨_, rfl⟩
  replace hot : OT 19 T I I54 b10 := OT.step hot hFt (fun b hb => nm1 (tne hb t_this (by decide))) hFc59 (by decide) (by decide) (fun b hb => (nm1 (tne hb t46 (by decide))))
  clear hFt hMt
  have t75 : T52 a_this = 39 := hFc59.tt t60 (by decide) (nm1 (tne t60 t46 (by decide)))
  refine c_putr (k := 5) (v := b38 + 1) pk_X3 B hM t75 kd39 rfl (by decide) fl_X3_27 (Or.inr ⟨rfl, hm, rfl⟩) dX3_init_30 rfl rfl ⟨rfl, fun _ => rfl, rfl, fun _ => rfl⟩ (Or.inl rfl) (fun R76 H locs hu77 hM => ?_)
  have hFt := hF
  have e78 : R76 a_this 5 = b38 + 1 := w2_at hu77
  replace hF : Fr mo_X3_initb [a_this] T N I J R T52 N53 I54 J55 R76 := hF.wr hu77 (fun _ h => absurd (List.mem_singleton.mpr rfl) h)
  clear hFt
  refine c_aload_n B dX3_init_33 rfl (lv_at hl 2 rfl) ?_
  rcases q_above with rfl | ⟨b79, rfl, t80⟩
  · have hl : lv_has ls 4 [(0, .ref a_this), (1, .int (II a_n)), (2, .null)] := hl
    refine lv_ifnonnullN B.1 B.2.1 dX3_init_34 ?_
    refine lv_aload_n B.1 B.2.1 dX3_init_37 rfl (lv_at hl 0 rfl) ?_
    refine q_con B dX3_init_38 ?_
    refine c_puti (k := 1) pk_X3 B hM t75 kd39 rfl (by decide) fl_X3_31 (Or.inr ⟨rfl, hm, rfl⟩) dX3_init_39 rfl rfl rfl (show (-2147483648 : Int) ≤ -1 from by omega) (show -1 ≤ (2147483647 : Int) from by omega) (fun I81 H locs hu82 hM => ?_)
    have hFt := hF
    have e83 : I81 a_this 1 = -1 := w2_at hu82
    replace hF : Fr mo_X3_initb [a_this] T N I J R T52 N53 I81 J55 R76 := hF.wi hu82 (fun _ h => absurd (List.mem_singleton.mpr rfl) h)
    replace hot : OT 19 T I I81 b10 := OT.wr hot hFt (fun b hb => nm1 (tne hb t_this (by decide))) (by decide) t75 (by decide) hu82
    clear hFt
    refine lv_aload_n B.1 B.2.1 dX3_init_42 rfl (lv_at hl 0 rfl) ?_
    refine q_con B dX3_init_43 ?_
    have hMo := hM
    refine c_newa (t := 78) (atype := .int) (n' := 1) B hX.out hA hM kd78 aw78 rfl rfl (fun _ => va_RA_i) acc_int hav_int (by decide) (by omega) (show 1 ≤ 1 ∧ 1 ≤ 16 from by omega) (by show 0 + 1 + 1 + dz57 + 1 ≤ 18; omega) (by show 0 + 3 + 6 + dl58 + 1 ≤ 260; omega) dX3_init_44 (fun b84 L85 T86 N87 H t88 hT89 hN90 hM => ?_)
    have z91 : T b84 = 0 := T0_x hF t88 (nm1 (tne t88 t75 (by decide)))
    have t92 : T86 b84 = 78 := by rw [hT89, va_up_self]
    have n93 : N87 b84 = 1 := by rw [hN90, va_up_self]
    replace hF : Fr mo_X3_initb [a_this] T N I J R T86 N87 I81 J55 R76 := hF.new t88 hT89 hN90
    have zz94 := hMo.2.2.2.2.2.1 b84 t88
    clear hMo
    have t95 : T86 a_this = 39 := upT hT89 t88 t75 (by decide)
    refine c_putr (k := 2) (v := b84 + 1) pk_X3 B hM t95 kd39 rfl (by decide) fl_X3_34 (Or.inr ⟨rfl, hm, rfl⟩) dX3_init_46 rfl rfl ⟨rfl, fun _ => rfl, rfl, fun _ => rfl⟩ (Or.inl rfl) (fun R96 H locs hu97 hM => ?_)
    have hFt := hF
    have e98 : R96 a_this 2 = b84 + 1 := w2_at hu97
    replace hF : Fr mo_X3_initb [a_this] T N I J R T86 N87 I81 J55 R96 := hF.wr hu97 (fun _ h => absurd (List.mem_singleton.mpr rfl) h)
    clear hFt
    refine lv_goto (tgt := 116) B.1 B.2.1 dX3_init_49 (by decide) ?_
    refine lv_aload_n B.1 B.2.1 dX3_init_116 rfl (lv_at hl 0 rfl) ?_
    refine c_getn (k := 2) pk_X3 B hM t95 kd39 rfl (by decide) fl_X3_34 dX3_init_117 e98 ?_
    refine lv_aload_n B.1 B.2.1 dX3_init_120 rfl (lv_at hl 0 rfl) ?_
    refine c_getn (k := 2) pk_X3 B hM t95 kd39 rfl (by decide) fl_X3_34 dX3_init_121 e98 ?_
    refine c_len B hM t92 kd78 (by decide) dX3_init_124 rfl ?_
    refine q_con B dX3_init_125 ?_
    refine q_sub B dX3_init_126 ?_
    refine lv_iload_n B.1 B.2.1 dX3_init_127 rfl (lv_at hl 1 rfl) ?_
    refine c_ist B hM t92 kd78 aq78 dX3_init_128 (by omega) (by omega) (show (-2147483648 : Int) ≤ a_n from by omega) (show a_n ≤ (2147483647 : Int) from by omega) (fun I100 H locs hu99 hM => ?_)
    have hFt := hF
    have e101 : I100 b84 (((((N87 b84 : Nat) : Int)) - (1 : Int)).toNat) = a_n := w2_at hu99
    replace hF : Fr mo_X3_initb [a_this] T N I J R T86 N87 I100 J55 R96 := hF.wi hu99 (fun h _ => absurd z91 h)
    replace hot : OT 19 T I I100 b10 := OT.wr hot hFt (fun b hb => nm1 (tne hb t_this (by decide))) (by decide) t92 (by decide) hu99
    clear hFt
    refine lv_aload_n B.1 B.2.1 dX3_init_129 rfl (lv_at hl 0 rfl) ?_
    refine lv_aload_n B.1 B.2.1 dX3_init_130 rfl (lv_at hl 0 rfl) ?_
    have e102 : R56 a_this 3 = b10 + 1 := (hFc59.r t60 (by decide) (nm1 (tne t60 t46 (by decide))) rfl).trans e37
    have e103 : R76 a_this 3 = b10 + 1 := (w2_ne hu77 (Or.inr (by decide))).trans e102
    have e104 : R96 a_this 3 = b10 + 1 := (w2_ne hu97 (Or.inr (by decide))).trans e103
    refine c_getn (k := 3) pk_X3 B hM t95 kd39 rfl (by decide) fl_X3_18 dX3_init_131 e104 ?_
    have hFt := hF
    have hMt := hM
    have t105 : T52 b10 = 19 := hFc59.tt t61 (by decide) (nm1 (tne t61 t46 (by decide)))
    have t106 : T86 b10 = 19 := upT hT89 t88 t105 (by decide)
    have hv107 : (15 ≤ 19) ∧ (19 ≤ 23) := by first | omega | exact ⟨by first | omega | assumption | exact trivial, by first | omega | assumption | exact trivial⟩
    refine p_calli (c_runV (n := 0) (as := []) (rest := [.ref a_this]) B hX hA hM hl.1 t106 kd19 rfl (k_Jx4a65c_size_8abf5 l D dA eA L85 T86 N87 I100 J55 R96 b10 t106 hv107.1 hv107.2 _ _) ml_X3_44 nm_Jx4a65c_size_8abf5 ⟨rfl, rfl⟩ ⟨Nat.le_of_ble_eq_true rfl, Nat.le_of_ble_eq_true rfl⟩ dX3_init_134 rfl rfl (Nat.le_of_ble_eq_true rfl) ⟨by show 0 + 1 + 1 + dz57 + 1 + 0 ≤ 18; omega, by show 0 + 3 + 6 + dl58 + 1 + 0 ≤ 260; omega⟩) (fun x109 ix109 hp108 => ?_)
    have hp108a := hp108
    replace hp108a : I100 b10 2 = x109 ∧ 0 ≤ x109 ∧ x109 ≤ 12 := hp108a
    obtain ⟨hp108a_0, hp108a_1, hp108a_2⟩ := hp108a
    clear hFt hMt
    refine c_puti (k := 4) pk_X3 B hM t95 kd39 rfl (by decide) fl_X3_56 (Or.inr ⟨rfl, hm, rfl⟩) dX3_init_137 rfl rfl rfl (show (-2147483648 : Int) ≤ x109 from by omega) (show x109 ≤ (2147483647 : Int) from by omega) (fun I110 H locs hu111 hM => ?_)
    have hFt := hF
    have e112 : I110 a_this 4 = x109 := w2_at hu111
    replace hF : Fr mo_X3_initb [a_this] T N I J R T86 N87 I110 J55 R96 := hF.wi hu111 (fun _ h => absurd (List.mem_singleton.mpr rfl) h)
    replace hot : OT 19 T I I110 b10 := OT.wr hot hFt (fun b hb => nm1 (tne hb t_this (by decide))) (by decide) t95 (by decide) hu111
    clear hFt
    have e113 : I26 a_this 0 = a_n := (hFc31.i t32 (by decide) (nm1 (tne t32 t17 (by decide))) rfl).trans e9
    have e114 : I54 a_this 0 = a_n := (hFc59.i t60 (by decide) (nm1 (tne t60 t46 (by decide))) rfl).trans e113
    have e115 : I81 a_this 0 = a_n := (w2_ne hu82 (Or.inr (by decide))).trans e114
    have e116 : I100 a_this 0 = a_n := (w2_ne hu99 (Or.inl (tne t95 t92 (by decide)))).trans e115
    have e117 : I110 a_this 0 = a_n := (w2_ne hu111 (Or.inr (by decide))).trans e116
    have e118 : I100 a_this 1 = -1 := (w2_ne hu99 (Or.inl (tne t95 t92 (by decide)))).trans e83
    have e119 : I110 a_this 1 = -1 := (w2_ne hu111 (Or.inr (by decide))).trans e118
    have e120 : R96 a_this 5 = b38 + 1 := (w2_ne hu97 (Or.inr (by decide))).trans e78
    have t123 : T86 b38 = 10 := upT hT89 t88 t62 (by decide)
    obtain ⟨T121, hT122⟩ : ∃ X, X = va_up T86 a_this 11 := ⟨_, rfl⟩
    have hn9 : 6 ≤ N87 a_this ∧ N87 a_this ≤ 6 := hM.2.2.2.2.2.2.1.n t95 (by decide)
    have hty124 : TY T121 N87 I110 R96 a_this := by
      have h9 : T121 a_this = 11 := by rw [hT122, va_up_self]
      unfold TY; rw [h9]
      refine ⟨hn9.1, hn9.2, fun k hk => ?_⟩
      have hk9 : k = 0 ∨ k = 1 ∨ k = 2 ∨ k = 3 ∨ k = 4 ∨ k = 5 := by omega
      rcases hk9 with rfl | rfl | rfl | rfl | rfl | rfl
      · exact ⟨(by rw [e117]; exact (show (0 : Int) ≤ a_n ∧ (a_n : Int) ≤ 15 from by omega)), Or.inl rfl⟩
      · exact ⟨hM.2.2.2.2.2.2.1.io (t := 39) t95 (by decide) (by decide), Or.inl rfl⟩
      · exact ⟨hM.2.2.2.2.2.2.1.io (t := 39) t95 (by decide) (by decide), (by rw [e98]; exact rokR (t := 78) (by rw [hT122, va_up_ne _ _ (tne t92 t95 (by decide))]; exact t92) rfl)⟩
      · exact ⟨hM.2.2.2.2.2.2.1.io (t := 39) t95 (by decide) (by decide), (by rw [e104]; exact rokR (t := 19) (by rw [hT122, va_up_ne _ _ (tne t106 t95 (by decide))]; exact t106) rfl)⟩
      · exact ⟨(by rw [e112]; exact (show (0 : Int) ≤ x109 ∧ (x109 : Int) ≤ 12 from by omega)), Or.inl rfl⟩
      · exact ⟨hM.2.2.2.2.2.2.1.io (t := 39) t95 (by decide) (by decide), (by rw [e120]; exact rokR (t := 10) (by rw [hT122, va_up_ne _ _ (tne t123 t95 (by decide))]; exact t123) rfl)⟩
    have hM := hM.tag (t := 11) t95 (by decide) (by decide) rfl (by decide) hT122 hty124 (XI.tag0 hM.2.2.2.2.2.2.1 hM.2.2.2.2.2.2.2 t95 (by decide) hT122 (fun h h2 => by omega) (fun h => by omega) (fun _ => by rw [e117, e98, Nat.add_sub_cancel]; omega) (fun h => by omega) (fun h => by omega))
    replace hF : Fr mo_X3_initb [a_this] T N I J R T121 N87 I110 J55 R96 := hF.tag hT122 (fun _ => List.mem_singleton.mpr rfl)
    have t125 : T121 a_this = 11 := by rw [hT122, va_up_self]
    have pq126 : I110 (R96 a_this 3 - 1) 2 = I110 b10 2 := by rw [e104, Nat.add_sub_cancel]
    have t127 : T121 b10 = 19 := by rw [hT122, va_up_ne _ _ (tne t106 t95 (by decide))]; exact t106
    have e128 : I110 b10 2 = x109 := (w2_ne hu111 (Or.inl (tne t127 t125 (by decide)))).trans hp108a_0
    refine g_vret B hM dX3_init_140 ⟨by show 0 + 1 + 1 + dz57 + 1 ≤ 18; omega, by show 0 + 3 + 6 + dl58 + 1 ≤ 260; omega⟩ ?_
    rw [← hPST]
    exact ⟨rfl, hF, t125, by first | omega | assumption | exact trivial, by first | omega | assumption | exact trivial, by first | omega | assumption | exact trivial, by rw [e104, Nat.add_sub_cancel]; exact t14, by first | omega | assumption | exact trivial, by rw [e104, Nat.add_sub_cancel]; exact hot⟩
  · have hl : lv_has ls 4 [(0, .ref a_this), (1, .int (II a_n)), (2, .ref b79)] := hl
    refine lv_ifnonnull (tgt := 52) B.1 B.2.1 dX3_init_34 (by decide) ?_
    refine lv_aload_n B.1 B.2.1 dX3_init_52 rfl (lv_at hl 0 rfl) ?_
    refine lv_aload_n B.1 B.2.1 dX3_init_53 rfl (lv_at hl 2 rfl) ?_
    have t129 : T52 b79 = 11 := hF.tt t80 (by decide) (nm1 (tne t80 t_this (by decide)))
    obtain ⟨x130, e131⟩ : ∃ v, I b79 0 = v := ⟨_, rfl⟩
    have e132 : I54 b79 0 = x130 := (hF.i t80 (by decide) (nm1 (tne t80 t_this (by decide))) rfl).trans e131
    have r133 : (0 : Int) ≤ x130 ∧ x130 ≤ 15 := by rw [← e132]; exact g11_0 hM.2.2.2.2.2.2.1 t129
    refine c_geti (k := 0) pk_X3 B hM t129 kd11 rfl (by decide) fl_X3_9 dX3_init_54 e132 ?_
    refine c_puti (k := 1) pk_X3 B hM t75 kd39 rfl (by decide) fl_X3_31 (Or.inr ⟨rfl, hm, rfl⟩) dX3_init_57 rfl rfl rfl (show (-2147483648 : Int) ≤ x130 from by omega) (show x130 ≤ (2147483647 : Int) from by omega) (fun I134 H locs hu135 hM => ?_)
    have hFt := hF
    have e136 : I134 a_this 1 = x130 := w2_at hu135
    replace hF : Fr mo_X3_initb [a_this] T N I J R T52 N53 I134 J55 R76 := hF.wi hu135 (fun _ h => absurd (List.mem_singleton.mpr rfl) h)
    replace hot : OT 19 T I I134 b10 := OT.wr hot hFt (fun b hb => nm1 (tne hb t_this (by decide))) (by decide) t75 (by decide) hu135
    clear hFt
    refine lv_aload_n B.1 B.2.1 dX3_init_60 rfl (lv_at hl 0 rfl) ?_
    refine lv_aload_n B.1 B.2.1 dX3_init_61 rfl (lv_at hl 2 rfl) ?_
    obtain ⟨b137, e138, t139⟩ := g11_2 hC0 t80
    have e140 : R76 b79 2 = b137 + 1 := (hF.r t80 (by decide) (nm1 (tne t80 t_this (by decide))) rfl).trans e138
    refine c_getn (k := 2) pk_X3 B hM t129 kd11 rfl (by decide) fl_X3_34 dX3_init_62 e140 ?_
    refine lv_aload_n B.1 B.2.1 dX3_init_65 rfl (lv_at hl 2 rfl) ?_
    refine c_getn (k := 2) pk_X3 B hM t129 kd11 rfl (by decide) fl_X3_34 dX3_init_66 e140 ?_
    have t141 : T52 b137 = 78 := hF.tt t139 (by decide) (nm1 (tne t139 t_this (by decide)))
    have n142 : 1 ≤ N53 b137 ∧ N53 b137 ≤ 16 := gn78 hM.2.2.2.2.2.2.1 t141
    have n143 : N53 b137 = N b137 := hF.n t139 (by decide) (nm1 (tne t139 t_this (by decide)))
    refine c_len B hM t141 kd78 (by decide) dX3_init_69 rfl ?_
    refine q_con B dX3_init_70 ?_
    refine q_add B dX3_init_71 ?_
    have e144 : I134 b79 0 = x130 := (hF.i t80 (by decide) (nm1 (tne t80 t_this (by decide))) rfl).trans e131
    have hx3 : (N53 b137 : Int) ≤ x130 + 1 := by have h9 := hM.2.2.2.2.2.2.2.2.2.1 b79 t129; rw [e140, Nat.add_sub_cancel, e144] at h9; exact h9
    have hx4 := p_2 b79 (by first | rfl | assumption | omega)
    have hFt := hF
    have hMt := hM
    have hv145 : ((-2147483648 : Int) ≤ (((N53 b137 : Nat) : Int)) + (1 : Int) ∧ ((((N53 b137 : Nat) : Int)) + (1 : Int) : Int) ≤ 2147483647) ∧ (0 ≤ ((((N53 b137 : Nat) : Int)) + (1 : Int))) ∧ (1 ≤ ((((N53 b137 : Nat) : Int)) + (1 : Int)).toNat) ∧ (((((N53 b137 : Nat) : Int)) + (1 : Int)).toNat ≤ 16) := by first | omega | exact ⟨by first | omega | assumption | exact trivial, by first | omega | assumption | exact trivial, by first | omega | assumption | exact trivial, by first | omega | assumption | exact trivial⟩
    refine g_callr hM hA (c_runS (n := 2) (as := [.ref b137, .int (II ((((N53 b137 : Nat) : Int)) + (1 : Int)))]) (rest := [.ref a_this]) B hX hA hM hl.1 (k_J7_copyOf_59c91 l D dA eA L51 T52 N53 I134 J55 R76 b137 t141 ((((N53 b137 : Nat) : Int)) + (1 : Int)) hv145.1 78 kd78 kd78 (by decide +kernel) hv145.2.1 hv145.2.2.1 hv145.2.2.2 _ _) ml_X3_38 nm_J7_copyOf_59c91 ⟨rfl, rfl⟩ ⟨Nat.le_of_ble_eq_true rfl, Nat.le_of_ble_eq_true rfl⟩ dX3_init_72 rfl rfl (Nat.le_of_ble_eq_true rfl) ⟨by show 0 + 1 + 1 + dz57 + 1 ≤ 18; omega, by show 0 + 3 + 6 + dl58 + (((((N53 b137 : Nat) : Int)) + (1 : Int)).toNat) ≤ 260; omega⟩) (fun b147 L148 T149 N150 I151 J152 R153 dz154 dl155 H locs hp146 hMn => ?_)
    obtain ⟨yJ152, yR153, hFc156, tb147, hp146a⟩ := hp146
    obtain rfl := yJ152.symm; obtain rfl := yR153.symm
    have t157 : T52 b10 = 19 := hFc59.tt t61 (by decide) (nm1 (tne t61 t46 (by decide)))
    have hFo := hF
    replace hF : Fr mo_X3_initb [a_this] T N I J R T149 N150 I151 J55 R76 := hF.trans hFc156 (by decide) e20
    have hM := hMn
    clear hMn
    replace hp146a : N150 b147 = ((((N53 b137 : Nat) : Int)) + (1 : Int)).toNat ∧ T52 b147 = 0 ∧ dz154 ≤ 1 ∧ dl155 ≤ ((((N53 b137 : Nat) : Int)) + (1 : Int)).toNat := hp146a
    obtain ⟨hp146a_0, hp146a_1, hp146a_2, hp146a_3⟩ := hp146a
    have z158 : T b147 = 0 := T0_x hFo hp146a_1 (nm1 (tne hp146a_1 t75 (by decide)))
    clear hFo
    replace hot : OT 19 T I I151 b10 := OT.step hot hFt (fun b hb => nm1 (tne hb t_this (by decide))) hFc156 (by decide) (by decide) (fun b hb => nm0)
    clear hFt hMt
    have t159 : T149 a_this = 39 := hFc156.tt t75 (by decide) nm0
    refine c_putr (k := 2) (v := b147 + 1) pk_X3 B hM t159 kd39 rfl (by decide) fl_X3_34 (Or.inr ⟨rfl, hm, rfl⟩) dX3_init_75 rfl rfl ⟨rfl, fun _ => rfl, rfl, fun _ => rfl⟩ (Or.inl rfl) (fun R160 H locs hu161 hM => ?_)
    have hFt := hF
    have e162 : R160 a_this 2 = b147 + 1 := w2_at hu161
    replace hF : Fr mo_X3_initb [a_this] T N I J R T149 N150 I151 J55 R160 := hF.wr hu161 (fun _ h => absurd (List.mem_singleton.mpr rfl) h)
    clear hFt
    refine q_con B dX3_init_78 ?_
    refine lv_istore_n (lv' := [(3, .int (II 0)), (0, .ref a_this), (1, .int (II a_n)), (2, .ref b79)]) B.1 B.2.1 dX3_init_79 rfl hl (by decide) rfl (fun ls hl => ?_)
    have e163 : I26 a_this 0 = a_n := (hFc31.i t32 (by decide) (nm1 (tne t32 t17 (by decide))) rfl).trans e9
    have e164 : I54 a_this 0 = a_n := (hFc59.i t60 (by decide) (nm1 (tne t60 t46 (by decide))) rfl).trans e163
    have e165 : I134 a_this 0 = a_n := (w2_ne hu135 (Or.inr (by decide))).trans e164
    have e166 : I151 a_this 0 = a_n := (hFc156.i t75 (by decide) nm0 rfl).trans e165
    have e167 : I151 a_this 1 = x130 := (hFc156.i t75 (by decide) nm0 rfl).trans e136
    have e168 : I7 a_this 4 = 0 := (w2_ne hu8 (Or.inr (by decide))).trans e5
    have e169 : I26 a_this 4 = 0 := (hFc31.i t32 (by decide) (nm1 (tne t32 t17 (by decide))) rfl).trans e168
    have e170 : I54 a_this 4 = 0 := (hFc59.i t60 (by decide) (nm1 (tne t60 t46 (by decide))) rfl).trans e169
    have e171 : I134 a_this 4 = 0 := (w2_ne hu135 (Or.inr (by decide))).trans e170
    have e172 : I151 a_this 4 = 0 := (hFc156.i t75 (by decide) nm0 rfl).trans e171
    have e173 : R56 a_this 3 = b10 + 1 := (hFc59.r t60 (by decide) (nm1 (tne t60 t46 (by decide))) rfl).trans e37
    have e174 : R76 a_this 3 = b10 + 1 := (w2_ne hu77 (Or.inr (by decide))).trans e173
    have e175 : R160 a_this 3 = b10 + 1 := (w2_ne hu161 (Or.inr (by decide))).trans e174
    have e176 : R160 a_this 5 = b38 + 1 := (w2_ne hu161 (Or.inr (by decide))).trans e78
    have e177 : I54 b10 2 = 0 := (hFc59.i t61 (by decide) (nm1 (tne t61 t46 (by decide))) rfl).trans hp21a_0
    have e178 : I134 b10 2 = 0 := (w2_ne hu135 (Or.inl (tne t157 t75 (by decide)))).trans e177
    have e179 : I151 b10 2 = 0 := (hFc156.i t157 (by decide) nm0 rfl).trans e178
    have LL80 : ∀ NN : Nat, ∀ (v80_3 : Int) (L_80 : List Nat) (T_80 : Nat → Nat) (N_80 : Nat → Nat) (I_80 : Nat → Nat → Int) (J_80 : Nat → Nat → Int64) (R_80 : Nat → Nat → Nat) (zc80 zs80 : Nat) (H : Heap) (locs : List Loc) (ls : Array Slot), (CWd D dA eA (cF dA L T N I J R s.heap.size) s.heap L_80 T_80 N_80 I_80 J_80 R_80 H locs) → (Fr mo_X3_initb [a_this] T N I J R T_80 N_80 I_80 J_80 R_80) → lv_has ls 4 [(0, .ref a_this), (1, .int (II a_n)), (2, .ref b79), (3, .int (II v80_3))] → ((-2147483648 : Int) ≤ v80_3 ∧ v80_3 ≤ 2147483647) → (0 ≤ v80_3) → (v80_3 ≤ 12) → ((zc80 : Int) ≤ 6 + v80_3) → ((zs80 : Int) ≤ 37 + 18 * v80_3) → (OT 19 T I I_80 b10) → (I_80 a_this 0 = a_n) → (I_80 a_this 1 = x130) → (I_80 a_this 4 = 0) → (R_80 a_this 2 = b147 + 1) → (R_80 a_this 3 = b10 + 1) → (R_80 a_this 5 = b38 + 1) → (I_80 b10 2 = v80_3) → ((N_80 b147 : Int) ≤ a_n + 1) → (T_80 a_this = 39) → (T_80 b10 = 19) → (T_80 b147 = 78) → (T_80 b38 = 10) → (0 ≤ 13 - v80_3) → (13 - v80_3 < (NN : Int)) → W p l e ({ frames := 7, cells := 18, slots := 260, locals := 241 }) s m args below meth c H locs zc80 zs80 (MQ below (gQ D dA eA (cF dA L T N I J R s.heap.size) s.heap.size (hs s.heap) PST) args s 18 260 (cF dA L T N I J R s.heap.size)) (F0 m 80 ls []) := by
      intro NN
      induction NN with
      | zero => intro v80_3 L_80 T_80 N_80 I_80 J_80 R_80 zc80 zs80 H locs ls hM hF hl hLL80_0 hLL80_1 hLL80_2 hLL80_3 hLL80_4 hLL80_5 hLL80_6 hLL80_7 hLL80_8 hLL80_9 hLL80_10 hLL80_11 hLL80_12 hLL80_13 hLL80_14 hLL80_15 hLL80_16 hLL80_17 hLL80_18 hN; exfalso; omega
      | succ NN IH80 =>
        intro v80_3 L_80 T_80 N_80 I_80 J_80 R_80 zc80 zs80 H locs ls hM hF hl hLL80_0 hLL80_1 hLL80_2 hLL80_3 hLL80_4 hLL80_5 hLL80_6 hLL80_7 hLL80_8 hLL80_9 hLL80_10 hLL80_11 hLL80_12 hLL80_13 hLL80_14 hLL80_15 hLL80_16 hLL80_17 hLL80_18 hN
        have hot : OT 19 T I I_80 b10 := by assumption
        refine lv_iload_n B.1 B.2.1 dX3_init_80 rfl (lv_at hl 3 rfl) ?_
        refine lv_aload_n B.1 B.2.1 dX3_init_81 rfl (lv_at hl 2 rfl) ?_
        have t180 : T_80 b79 = 11 := hF.tt t80 (by decide) (nm1 (tne t80 t_this (by decide)))
        obtain ⟨b181, e182, t183⟩ := g11_3 hC0 t80
        have e184 : R_80 b79 3 = b181 + 1 := (hF.r t80 (by decide) (nm1 (tne t80 t_this (by decide))) rfl).trans e182
        refine c_getn (k := 3) pk_X3 B hM t180 kd11 rfl (by decide) fl_X3_18 dX3_init_82 e184 ?_
        have hFt := hF
        have hMt := hM
        have t185 : T_80 b181 = 19 := hF.tt t183 (by decide) (nm1 (tne t183 t_this (by decide)))
        have hv186 : (15 ≤ 19) ∧ (19 ≤ 23) := by first | omega | exact ⟨by first | omega | assumption | exact trivial, by first | omega | assumption | exact trivial⟩
        refine p_calli (c_runV (n := 0) (as := []) (rest := [.int (II v80_3)]) B hX hA hM hl.1 t185 kd19 rfl (k_Jx4a65c_size_8abf5 l D dA eA L_80 T_80 N_80 I_80 J_80 R_80 b181 t185 hv186.1 hv186.2 _ _) ml_X3_44 nm_Jx4a65c_size_8abf5 ⟨rfl, rfl⟩ ⟨Nat.le_of_ble_eq_true rfl, Nat.le_of_ble_eq_true rfl⟩ dX3_init_85 rfl rfl (Nat.le_of_ble_eq_true rfl) ⟨by show zc80 + 0 ≤ 18; omega, by show zs80 + 0 ≤ 260; omega⟩) (fun x188 ix188 hp187 => ?_)
        have hp187a := hp187
        replace hp187a : I_80 b181 2 = x188 ∧ 0 ≤ x188 ∧ x188 ≤ 12 := hp187a
        obtain ⟨hp187a_0, hp187a_1, hp187a_2⟩ := hp187a
        clear hFt hMt
        refine q_cge (tgt := 116) B dX3_init_88 (by decide) (by unfold inr; omega) (by unfold inr; omega) (fun c189 => ?_) (fun c189 => ?_)
        · refine lv_aload_n B.1 B.2.1 dX3_init_116 rfl (lv_at hl 0 rfl) ?_
          refine c_getn (k := 2) pk_X3 B hM hLL80_14 kd39 rfl (by decide) fl_X3_34 dX3_init_117 hLL80_9 ?_
          refine lv_aload_n B.1 B.2.1 dX3_init_120 rfl (lv_at hl 0 rfl) ?_
          refine c_getn (k := 2) pk_X3 B hM hLL80_14 kd39 rfl (by decide) fl_X3_34 dX3_init_121 hLL80_9 ?_
          have n190 : 1 ≤ N_80 b147 ∧ N_80 b147 ≤ 16 := gn78 hM.2.2.2.2.2.2.1 hLL80_16
          refine c_len B hM hLL80_16 kd78 (by decide) dX3_init_124 rfl ?_
          refine q_con B dX3_init_125 ?_
          refine q_sub B dX3_init_126 ?_
          refine lv_iload_n B.1 B.2.1 dX3_init_127 rfl (lv_at hl 1 rfl) ?_
          refine c_ist B hM hLL80_16 kd78 aq78 dX3_init_128 (by omega) (by omega) (show (-2147483648 : Int) ≤ a_n from by omega) (show a_n ≤ (2147483647 : Int) from by omega) (fun I192 H locs hu191 hM => ?_)
          have hFt := hF
          have e193 : I192 b147 (((((N_80 b147 : Nat) : Int)) - (1 : Int)).toNat) = a_n := w2_at hu191
          replace hF : Fr mo_X3_initb [a_this] T N I J R T_80 N_80 I192 J_80 R_80 := hF.wi hu191 (fun h _ => absurd z158 h)
          replace hot : OT 19 T I I192 b10 := OT.wr hot hFt (fun b hb => nm1 (tne hb t_this (by decide))) (by decide) hLL80_16 (by decide) hu191
          clear hFt
          refine lv_aload_n B.1 B.2.1 dX3_init_129 rfl (lv_at hl 0 rfl) ?_
          refine lv_aload_n B.1 B.2.1 dX3_init_130 rfl (lv_at hl 0 rfl) ?_
          refine c_getn (k := 3) pk_X3 B hM hLL80_14 kd39 rfl (by decide) fl_X3_18 dX3_init_131 hLL80_10 ?_
          have hFt := hF
          have hMt := hM
          have hv194 : (15 ≤ 19) ∧ (19 ≤ 23) := by first | omega | exact ⟨by first | omega | assumption | exact trivial, by first | omega | assumption | exact trivial⟩
          refine p_calli (c_runV (n := 0) (as := []) (rest := [.ref a_this]) B hX hA hM hl.1 hLL80_15 kd19 rfl (k_Jx4a65c_size_8abf5 l D dA eA L_80 T_80 N_80 I192 J_80 R_80 b10 hLL80_15 hv194.1 hv194.2 _ _) ml_X3_44 nm_Jx4a65c_size_8abf5 ⟨rfl, rfl⟩ ⟨Nat.le_of_ble_eq_true rfl, Nat.le_of_ble_eq_true rfl⟩ dX3_init_134 rfl rfl (Nat.le_of_ble_eq_true rfl) ⟨by show zc80 + 0 ≤ 18; omega, by show zs80 + 0 ≤ 260; omega⟩) (fun x196 ix196 hp195 => ?_)
          have hp195a := hp195
          replace hp195a : I192 b10 2 = x196 ∧ 0 ≤ x196 ∧ x196 ≤ 12 := hp195a
          obtain ⟨hp195a_0, hp195a_1, hp195a_2⟩ := hp195a
          clear hFt hMt
          refine c_puti (k := 4) pk_X3 B hM hLL80_14 kd39 rfl (by decide) fl_X3_56 (Or.inr ⟨rfl, hm, rfl⟩) dX3_init_137 rfl rfl rfl (show (-2147483648 : Int) ≤ x196 from by omega) (show x196 ≤ (2147483647 : Int) from by omega) (fun I197 H locs hu198 hM => ?_)
          have hFt := hF
          have e199 : I197 a_this 4 = x196 := w2_at hu198
          replace hF : Fr mo_X3_initb [a_this] T N I J R T_80 N_80 I197 J_80 R_80 := hF.wi hu198 (fun _ h => absurd (List.mem_singleton.mpr rfl) h)
          replace hot : OT 19 T I I197 b10 := OT.wr hot hFt (fun b hb => nm1 (tne hb t_this (by decide))) (by decide) hLL80_14 (by decide) hu198
          clear hFt
          have e200 : I192 a_this 0 = a_n := (w2_ne hu191 (Or.inl (tne hLL80_14 hLL80_16 (by decide)))).trans hLL80_6
          have e201 : I197 a_this 0 = a_n := (w2_ne hu198 (Or.inr (by decide))).trans e200
          have e202 : I192 a_this 1 = x130 := (w2_ne hu191 (Or.inl (tne hLL80_14 hLL80_16 (by decide)))).trans hLL80_7
          have e203 : I197 a_this 1 = x130 := (w2_ne hu198 (Or.inr (by decide))).trans e202
          obtain ⟨T204, hT205⟩ : ∃ X, X = va_up T_80 a_this 11 := ⟨_, rfl⟩
          have hn9 : 6 ≤ N_80 a_this ∧ N_80 a_this ≤ 6 := hM.2.2.2.2.2.2.1.n hLL80_14 (by decide)
          have hty206 : TY T204 N_80 I197 R_80 a_this := by
            have h9 : T204 a_this = 11 := by rw [hT205, va_up_self]
            unfold TY; rw [h9]
            refine ⟨hn9.1, hn9.2, fun k hk => ?_⟩
            have hk9 : k = 0 ∨ k = 1 ∨ k = 2 ∨ k = 3 ∨ k = 4 ∨ k = 5 := by omega
            rcases hk9 with rfl | rfl | rfl | rfl | rfl | rfl
            · exact ⟨(by rw [e201]; exact (show (0 : Int) ≤ a_n ∧ (a_n : Int) ≤ 15 from by omega)), Or.inl rfl⟩
            · exact ⟨hM.2.2.2.2.2.2.1.io (t := 39) hLL80_14 (by decide) (by decide), Or.inl rfl⟩
            · exact ⟨hM.2.2.2.2.2.2.1.io (t := 39) hLL80_14 (by decide) (by decide), (by rw [hLL80_9]; exact rokR (t := 78) (by rw [hT205, va_up_ne _ _ (tne hLL80_16 hLL80_14 (by decide))]; exact hLL80_16) rfl)⟩
            · exact ⟨hM.2.2.2.2.2.2.1.io (t := 39) hLL80_14 (by decide) (by decide), (by rw [hLL80_10]; exact rokR (t := 19) (by rw [hT205, va_up_ne _ _ (tne hLL80_15 hLL80_14 (by decide))]; exact hLL80_15) rfl)⟩
            · exact ⟨(by rw [e199]; exact (show (0 : Int) ≤ x196 ∧ (x196 : Int) ≤ 12 from by omega)), Or.inl rfl⟩
            · exact ⟨hM.2.2.2.2.2.2.1.io (t := 39) hLL80_14 (by decide) (by decide), (by rw [hLL80_11]; exact rokR (t := 10) (by rw [hT205, va_up_ne _ _ (tne hLL80_17 hLL80_14 (by decide))]; exact hLL80_17) rfl)⟩
          have hM := hM.tag (t := 11) hLL80_14 (by decide) (by decide) rfl (by decide) hT205 hty206 (XI.tag0 hM.2.2.2.2.2.2.1 hM.2.2.2.2.2.2.2 hLL80_14 (by decide) hT205 (fun h h2 => by omega) (fun h => by omega) (fun _ => by rw [e201, hLL80_9, Nat.add_sub_cancel]; omega) (fun h => by omega) (fun h => by omega))
          replace hF : Fr mo_X3_initb [a_this] T N I J R T204 N_80 I197 J_80 R_80 := hF.tag hT205 (fun _ => List.mem_singleton.mpr rfl)
          have t207 : T204 a_this = 11 := by rw [hT205, va_up_self]
          have pq208 : I197 (R_80 a_this 3 - 1) 2 = I197 b10 2 := by rw [hLL80_10, Nat.add_sub_cancel]
          have t209 : T204 b10 = 19 := by rw [hT205, va_up_ne _ _ (tne hLL80_15 hLL80_14 (by decide))]; exact hLL80_15
          have e210 : I197 b10 2 = x196 := (w2_ne hu198 (Or.inl (tne t209 t207 (by decide)))).trans hp195a_0
          refine g_vret B hM dX3_init_140 ⟨by show zc80 ≤ 18; omega, by show zs80 ≤ 260; omega⟩ ?_
          rw [← hPST]
          exact ⟨rfl, hF, t207, by first | omega | assumption | exact trivial, by first | omega | assumption | exact trivial, by first | omega | assumption | exact trivial, by rw [hLL80_10, Nat.add_sub_cancel]; exact t14, by first | omega | assumption | exact trivial, by rw [hLL80_10, Nat.add_sub_cancel]; exact hot⟩
        · refine lv_aload_n B.1 B.2.1 dX3_init_91 rfl (lv_at hl 0 rfl) ?_
          refine c_getn (k := 3) pk_X3 B hM hLL80_14 kd39 rfl (by decide) fl_X3_18 dX3_init_92 hLL80_10 ?_
          refine lv_aload_n B.1 B.2.1 dX3_init_95 rfl (lv_at hl 2 rfl) ?_
          refine c_getn (k := 3) pk_X3 B hM t180 kd11 rfl (by decide) fl_X3_18 dX3_init_96 e184 ?_
          refine lv_iload_n B.1 B.2.1 dX3_init_99 rfl (lv_at hl 3 rfl) ?_
          have hFt := hF
          have hMt := hM
          have hv211 : ((-2147483648 : Int) ≤ v80_3 ∧ (v80_3 : Int) ≤ 2147483647) ∧ (15 ≤ 19) ∧ (19 ≤ 23) ∧ (0 ≤ v80_3) ∧ (v80_3 < I_80 b181 2) := by first | omega | exact ⟨by first | omega | assumption | exact trivial, by first | omega | assumption | exact trivial, by first | omega | assumption | exact trivial, by first | omega | assumption | exact trivial, by first | omega | assumption | exact trivial⟩
          refine p_callr (c_runV (n := 1) (as := [.int (II v80_3)]) (rest := [.ref b10]) B hX hA hM hl.1 t185 kd19 rfl (k_Jx4a65c_get_915e3 l D dA eA L_80 T_80 N_80 I_80 J_80 R_80 b181 t185 v80_3 hv211.1 hv211.2.1 hv211.2.2.1 hv211.2.2.2.1 hv211.2.2.2.2 _ _) ml_X3_48 nm_Jx4a65c_get_915e3 ⟨rfl, rfl⟩ ⟨Nat.le_of_ble_eq_true rfl, Nat.le_of_ble_eq_true rfl⟩ dX3_init_100 rfl rfl (Nat.le_of_ble_eq_true rfl) ⟨by show zc80 + 0 ≤ 18; omega, by show zs80 + 0 ≤ 260; omega⟩) (fun b213 hp212 => ?_)
          obtain ⟨tb213, hp212a⟩ := hp212
          replace hp212a : R_80 (R_80 b181 1 - 1) v80_3.toNat = b213 + 1 := hp212a
          clear hFt hMt
          refine c_cast B hM tb213 kd10 rfl cl_X3_22 dX3_init_103 ?_
          have hFt := hF
          have hMt := hM
          obtain ⟨x214, e215⟩ : ∃ v, I_80 b213 0 = v := ⟨_, rfl⟩
          have hv216 : (15 ≤ 19) ∧ (19 ≤ 23) ∧ (I_80 b10 2 < 12) ∧ (19 = 18 → I_80 b213 0 ≤ I_80 b10 2) := by first | omega | exact ⟨by first | omega | assumption | exact trivial, by first | omega | assumption | exact trivial, by first | omega | assumption | exact trivial, by first | omega | assumption | exact trivial⟩
          refine g_calli hM hA (c_runV (n := 1) (as := [.ref b213]) (rest := []) B hX hA hM hl.1 hLL80_15 kd19 rfl (k_Jx4a65c_add_9ea2d l D dA eA L_80 T_80 N_80 I_80 J_80 R_80 b10 hLL80_15 b213 tb213 hv216.1 hv216.2.1 hv216.2.2.1 hv216.2.2.2 _ _) ml_X3_52 nm_Jx4a65c_add_9ea2d ⟨rfl, rfl⟩ ⟨Nat.le_of_ble_eq_true rfl, Nat.le_of_ble_eq_true rfl⟩ dX3_init_106 rfl rfl (Nat.le_of_ble_eq_true rfl) ⟨by show zc80 + 1 ≤ 18; omega, by show zs80 + 18 ≤ 260; omega⟩) (fun x218 ix218 L219 T220 N221 I222 J223 R224 dz225 dl226 H locs hp217 hMn => ?_)
          obtain ⟨yJ223, hFc227, hp217a⟩ := hp217
          obtain rfl := yJ223.symm
          have t228 : T_80 b137 = 78 := hF.tt t139 (by decide) (nm1 (tne t139 t_this (by decide)))
          replace hF : Fr mo_X3_initb [a_this] T N I J R T220 N221 I222 J_80 R224 := hF.trans hFc227 (by decide) e20
          have hM := hMn
          clear hMn
          replace hp217a : (0 : Int) ≤ x218 ∧ x218 ≤ 1 ∧ (I222 b10 2 = I_80 b10 2 + 1 ∧ R224 (R224 b10 1 - 1) (I_80 b10 2).toNat = b213 + 1 ∧ (∀ i : Nat, (i : Int) < I_80 b10 2 → R224 (R224 b10 1 - 1) i = R_80 (R_80 b10 1 - 1) i) ∧ (∀ b, T_80 b = 19 → b ≠ b10 → I222 b 2 = I_80 b 2) ∧ dz225 ≤ 1 ∧ dl226 ≤ 18 ∧ dl226 + 3 * N_80 (R_80 b10 1 - 1) ≤ 3 * N221 (R224 b10 1 - 1) + 2) := hp217a
          obtain ⟨hp217a_0, hp217a_1, hp217a_2⟩ := hp217a
          obtain ⟨hp217a_2_0, hp217a_2_1, hp217a_2_2, hp217a_2_3, hp217a_2_4, hp217a_2_5, hp217a_2_6⟩ := hp217a_2
          replace hot : OT 19 T I I222 b10 := OT.ad hot hFt (fun b hb => nm1 (tne hb t_this (by decide))) (by decide) (by assumption)
          clear hFt hMt
          refine lv_pop B.1 B.2.1 dX3_init_109 rfl ?_
          refine q_inc (lv' := [(3, .int (II (v80_3 + 1))), (0, .ref a_this), (1, .int (II a_n)), (2, .ref b79)]) B dX3_init_110 hl (k := 3) rfl (by decide) rfl (fun ls hl => ?_)
          refine lv_goto (tgt := 80) B.1 B.2.1 dX3_init_113 (by decide) ?_
          have e229 : I222 a_this 0 = a_n := (hFc227.i hLL80_14 (by decide) nm0 rfl).trans hLL80_6
          have e230 : I222 a_this 1 = x130 := (hFc227.i hLL80_14 (by decide) nm0 rfl).trans hLL80_7
          have e231 : I222 a_this 4 = 0 := (hFc227.i hLL80_14 (by decide) nm0 rfl).trans hLL80_8
          have e232 : R224 a_this 2 = b147 + 1 := (hFc227.r hLL80_14 (by decide) nm0 rfl).trans hLL80_9
          have e233 : R224 a_this 3 = b10 + 1 := (hFc227.r hLL80_14 (by decide) nm0 rfl).trans hLL80_10
          have e234 : R224 a_this 5 = b38 + 1 := (hFc227.r hLL80_14 (by decide) nm0 rfl).trans hLL80_11
          have t235 : T220 b147 = 78 := hFc227.tt hLL80_16 (by decide) nm0
          have n236 : N221 b147 = N_80 b147 := hFc227.n hLL80_16 (by decide) nm0
          have t237 : T220 a_this = 39 := hFc227.tt hLL80_14 (by decide) nm0
          have t238 : T220 b10 = 19 := hFc227.tt hLL80_15 (by decide) nm0
          have t239 : T220 b38 = 10 := hFc227.tt hLL80_17 (by decide) nm0
          have hv240 : ((-2147483648 : Int) ≤ v80_3 + 1 ∧ (v80_3 + 1 : Int) ≤ 2147483647) ∧ (0 ≤ (v80_3 + 1)) ∧ ((v80_3 + 1) ≤ 12) ∧ ((zc80 + dz225 : Int) ≤ 6 + (v80_3 + 1)) ∧ ((zs80 + dl226 : Int) ≤ 37 + 18 * (v80_3 + 1)) ∧ (I222 a_this 0 = a_n) ∧ (I222 a_this 1 = x130) ∧ (I222 a_this 4 = 0) ∧ (R224 a_this 2 = b147 + 1) ∧ (R224 a_this 3 = b10 + 1) ∧ (R224 a_this 5 = b38 + 1) ∧ (I222 b10 2 = (v80_3 + 1)) ∧ ((N221 b147 : Int) ≤ a_n + 1) ∧ (0 ≤ 13 - (v80_3 + 1)) := by first | omega | exact ⟨by first | omega | assumption | exact trivial, by first | omega | assumption | exact trivial, by first | omega | assumption | exact trivial, by first | omega | assumption | exact trivial, by first | omega | assumption | exact trivial, by first | omega | assumption | exact trivial, by first | omega | assumption | exact trivial, by first | omega | assumption | exact trivial, by first | omega | assumption | exact trivial, by first | omega | assumption | exact trivial, by first | omega | assumption | exact trivial, by first | omega | assumption | exact trivial, by first | omega | assumption | exact trivial, by first | omega | assumption | exact trivial⟩
          exact IH80 (v80_3 + 1) L219 T220 N221 I222 J_80 R224 (zc80 + dz225) (zs80 + dl226) _ _ ls hM hF (lv_sub hl [1, 2, 3, 0] rfl) hv240.1 hv240.2.1 hv240.2.2.1 hv240.2.2.2.1 hv240.2.2.2.2.1 (by exact hot) hv240.2.2.2.2.2.1 hv240.2.2.2.2.2.2.1 hv240.2.2.2.2.2.2.2.1 hv240.2.2.2.2.2.2.2.2.1 hv240.2.2.2.2.2.2.2.2.2.1 hv240.2.2.2.2.2.2.2.2.2.2.1 hv240.2.2.2.2.2.2.2.2.2.2.2.1 hv240.2.2.2.2.2.2.2.2.2.2.2.2.1 t237 t238 t235 t239 hv240.2.2.2.2.2.2.2.2.2.2.2.2.2 (by omega)
    have e241 : I26 a_this 0 = a_n := (hFc31.i t32 (by decide) (nm1 (tne t32 t17 (by decide))) rfl).trans e9
    have e242 : I54 a_this 0 = a_n := (hFc59.i t60 (by decide) (nm1 (tne t60 t46 (by decide))) rfl).trans e241
    have e243 : I134 a_this 0 = a_n := (w2_ne hu135 (Or.inr (by decide))).trans e242
    have e244 : I151 a_this 0 = a_n := (hFc156.i t75 (by decide) nm0 rfl).trans e243
    have e245 : I151 a_this 1 = x130 := (hFc156.i t75 (by decide) nm0 rfl).trans e136
    have e246 : I7 a_this 4 = 0 := (w2_ne hu8 (Or.inr (by decide))).trans e5
    have e247 : I26 a_this 4 = 0 := (hFc31.i t32 (by decide) (nm1 (tne t32 t17 (by decide))) rfl).trans e246
    have e248 : I54 a_this 4 = 0 := (hFc59.i t60 (by decide) (nm1 (tne t60 t46 (by decide))) rfl).trans e247
    have e249 : I134 a_this 4 = 0 := (w2_ne hu135 (Or.inr (by decide))).trans e248
    have e250 : I151 a_this 4 = 0 := (hFc156.i t75 (by decide) nm0 rfl).trans e249
    have e251 : R56 a_this 3 = b10 + 1 := (hFc59.r t60 (by decide) (nm1 (tne t60 t46 (by decide))) rfl).trans e37
    have e252 : R76 a_this 3 = b10 + 1 := (w2_ne hu77 (Or.inr (by decide))).trans e251
    have e253 : R160 a_this 3 = b10 + 1 := (w2_ne hu161 (Or.inr (by decide))).trans e252
    have e254 : R160 a_this 5 = b38 + 1 := (w2_ne hu161 (Or.inr (by decide))).trans e78
    have e255 : I54 b10 2 = 0 := (hFc59.i t61 (by decide) (nm1 (tne t61 t46 (by decide))) rfl).trans hp21a_0
    have e256 : I134 b10 2 = 0 := (w2_ne hu135 (Or.inl (tne t157 t75 (by decide)))).trans e255
    have e257 : I151 b10 2 = 0 := (hFc156.i t157 (by decide) nm0 rfl).trans e256
    have t258 : T149 b10 = 19 := hFc156.tt t157 (by decide) nm0
    have t259 : T149 b38 = 10 := hFc156.tt t62 (by decide) nm0
    have hv260 : ((-2147483648 : Int) ≤ 0 ∧ (0 : Int) ≤ 2147483647) ∧ (0 ≤ (0 : Int)) ∧ ((0 : Int) ≤ 12) ∧ ((0 + 1 + 1 + dz57 + dz154 : Int) ≤ 6 + (0 : Int)) ∧ ((0 + 3 + 6 + dl58 + dl155 : Int) ≤ 37 + 18 * (0 : Int)) ∧ (I151 a_this 0 = a_n) ∧ (I151 a_this 1 = x130) ∧ (I151 a_this 4 = 0) ∧ (R160 a_this 2 = b147 + 1) ∧ (R160 a_this 3 = b10 + 1) ∧ (R160 a_this 5 = b38 + 1) ∧ (I151 b10 2 = (0 : Int)) ∧ ((N150 b147 : Int) ≤ a_n + 1) ∧ (0 ≤ 13 - (0 : Int)) := by first | omega | exact ⟨by first | omega | assumption | exact trivial, by first | omega | assumption | exact trivial, by first | omega | assumption | exact trivial, by first | omega | assumption | exact trivial, by first | omega | assumption | exact trivial, by first | omega | assumption | exact trivial, by first | omega | assumption | exact trivial, by first | omega | assumption | exact trivial, by first | omega | assumption | exact trivial, by first | omega | assumption | exact trivial, by first | omega | assumption | exact trivial, by first | omega | assumption | exact trivial, by first | omega | assumption | exact trivial, by first | omega | assumption | exact trivial⟩
    exact LL80 (Int.toNat (13 - (0 : Int) + 1)) 0 L148 T149 N150 I151 J55 R160 (0 + 1 + 1 + dz57 + dz154) (0 + 3 + 6 + dl58 + dl155) _ _ ls hM hF (lv_sub hl [1, 2, 3, 0] rfl) hv260.1 hv260.2.1 hv260.2.2.1 hv260.2.2.2.1 hv260.2.2.2.2.1 (by exact hot) hv260.2.2.2.2.2.1 hv260.2.2.2.2.2.2.1 hv260.2.2.2.2.2.2.2.1 hv260.2.2.2.2.2.2.2.2.1 hv260.2.2.2.2.2.2.2.2.2.1 hv260.2.2.2.2.2.2.2.2.2.2.1 hv260.2.2.2.2.2.2.2.2.2.2.2.1 hv260.2.2.2.2.2.2.2.2.2.2.2.2.1 t159 t258 tb147 t259 hv260.2.2.2.2.2.2.2.2.2.2.2.2.2 (by omega)
