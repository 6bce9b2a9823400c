def mo_X6_readRulec : List Nat := [229, 230, 231, 225, 226, 2272, 2304, 203, 236, 2112, 2144, 480, 481, 482, 1600, 257, 258, 259, 260]
set_option maxHeartbeats 1000000 in
set_option maxRecDepth 20000 in
theorem k_X6_readRulec (l : Launch) (D : va_G) (dA : Nat → ClassId) (eA : Nat) (L : List Nat) (T N : Nat → Nat) (I : Nat → Nat → Int) (J : Nat → Nat → Int64) (R : Nat → Nat → Nat) (a_this : Nat) (t_this : T a_this = 7) (g_t : Nat) (g_s : Nat) (g_S : Nat → Int) (g_n : Int) (g_b : Nat) (g_ru : Nat) (p_0 : R a_this 3 = g_t + 1) (p_1 : T g_t = 3) (p_2 : R g_t 0 = g_s + 1) (p_3 : T g_s = 62) (p_4 : I g_s = g_S) (p_5 : TKz g_S g_n) (p_6 : I a_this 5 ≤ g_n) (p_7 : g_S (I a_this 5).toNat = I a_this 6) (p_8 : R a_this 0 = g_b + 1) (p_9 : T g_b = 6) (p_10 : R g_b 0 = g_ru + 1) (p_11 : T g_ru = 15) : GC l yX6_readRule cX6_readRule 3 (some .boolean) ({ frames := 7, cells := 8, slots := 211, locals := 241 }) D dA eA L T N I J R [.ref a_this] 8 211 (gI (fun r L' T' N' I' J' R' dz dl => Fr mo_X6_readRulec [] T N I J R T' N' I' J' R' ∧ (0 : Int) ≤ r ∧ r ≤ 1 ∧ (I' a_this 5 ≤ g_n ∧ g_S (I' a_this 5).toNat = I' a_this 6 ∧ I a_this 5 ≤ I' a_this 5 ∧ ((r = 0 ∧ I' a_this 1 ≠ 0) ∨ (r = 1 ∧ I' a_this 1 = I a_this 1 ∧ I a_this 5 + 4 ≤ I' a_this 5)) ∧ (dz : Int) ≤ 5 * (I' a_this 5 - I a_this 5) + 20 * (1 - r) ∧ (dl : Int) ≤ 75 * (I' a_this 5 - I a_this 5) + 300 * (1 - r) ∧ dz ≤ 8 ∧ dl ≤ 211 ∧ OTR T I R I' R' g_ru))) := by
  generalize hPST : (gI (fun r L' T' N' I' J' R' dz dl => Fr mo_X6_readRulec [] T N I J R T' N' I' J' R' ∧ (0 : Int) ≤ r ∧ r ≤ 1 ∧ (I' a_this 5 ≤ g_n ∧ g_S (I' a_this 5).toNat = I' a_this 6 ∧ I a_this 5 ≤ I' a_this 5 ∧ ((r = 0 ∧ I' a_this 1 ≠ 0) ∨ (r = 1 ∧ I' a_this 1 = I a_this 1 ∧ I a_this 5 + 4 ≤ I' a_this 5)) ∧ (dz : Int) ≤ 5 * (I' a_this 5 - I a_this 5) + 20 * (1 - r) ∧ (dl : Int) ≤ 75 * (I' a_this 5 - I a_this 5) + 300 * (1 - r) ∧ dz ≤ 8 ∧ dl ≤ 211 ∧ OTR T I R I' R' g_ru))) = PST
  refine g_enter (own := RX6) (by decide) rfl (Nat.le_of_ble_eq_true rfl) (fun p e s m args below meth c ls hm B hX hM hl => ?_)
  have hC0 := hM.2.2.2.2.2.2.1
  have hW0 := hM.2.2.2
  have hF : Fr mo_X6_readRulec [] T N I J R T N I J R := Fr.rf
  have hA : ∀ q, s.heap.size ≤ q → cF dA L T N I J R s.heap.size q := fun q h => Or.inr h
  have hl : lv_has ls 3 [(0, .ref a_this)] := hl
  obtain ⟨x1, e2⟩ : ∃ v, I a_this 5 = v := ⟨_, rfl⟩
  obtain ⟨x3, e4⟩ : ∃ v, I a_this 6 = v := ⟨_, rfl⟩
  have nz5 : g_S (x1).toNat = x3 := by have h9 := p_7; rw [e2, e4] at h9; exact h9
  have hor : OTR T I R I R g_ru := OTR.rf
  obtain ⟨x6, e7⟩ : ∃ v, I a_this 1 = v := ⟨_, rfl⟩
  refine lv_aload_n B.1 B.2.1 dX6_readRule_0 rfl (lv_at hl 0 rfl) ?_
  refine c_getn (k := 0) pk_X6 B hM t_this kd7 rfl (by decide) fl_X6_22 dX6_readRule_1 p_8 ?_
  refine c_getn (k := 0) pk_X0 B hM p_9 kd6 rfl (by decide) fl_X6_131 dX6_readRule_4 p_10 ?_
  have hFt := hF
  have hMt := hM
  have hv8 : (15 ≤ 15) ∧ (15 ≤ 23) := by first | omega | exact ⟨by first | omega | assumption | exact trivial, by first | omega | assumption | exact trivial⟩
  refine p_calli (c_runV (n := 0) (as := []) (rest := []) B hX hA hM hl.1 p_11 kd15 rfl (k_Jx4a65c_size_8abf5 l D dA eA L T N I J R g_ru p_11 hv8.1 hv8.2 _ _) ml_X6_135 nm_Jx4a65c_size_8abf5 ⟨rfl, rfl⟩ ⟨Nat.le_of_ble_eq_true rfl, Nat.le_of_ble_eq_true rfl⟩ dX6_readRule_7 rfl rfl (Nat.le_of_ble_eq_true rfl) ⟨by show 0 + 0 ≤ 8; omega, by show 0 + 0 ≤ 211; omega⟩) (fun x10 ix10 hp9 => ?_)
  have hp9a := hp9
  replace hp9a : I g_ru 2 = x10 ∧ 0 ≤ x10 ∧ x10 ≤ 16 := hp9a
  obtain ⟨hp9a_0, hp9a_1, hp9a_2⟩ := hp9a
  clear hFt hMt
  refine lv_istore_n (lv' := [(1, .int (II x10)), (0, .ref a_this)]) B.1 B.2.1 dX6_readRule_10 rfl hl (by decide) rfl (fun ls hl => ?_)
  refine lv_aload_n B.1 B.2.1 dX6_readRule_11 rfl (lv_at hl 1 rfl) ?_
  refine q_con B dX6_readRule_12 ?_
  refine lv_iload_n B.1 B.2.1 dX6_readRule_13 rfl (lv_at hl 0 rfl) ?_
  refine q_bip B dX6_readRule_14 (by decide) ?_
  have hFt := hF
  have hMt := hM
  have hv11 : ((-2147483648 : Int) ≤ 3 ∧ (3 : Int) ≤ 2147483647) ∧ ((-2147483648 : Int) ≤ x10 ∧ (x10 : Int) ≤ 2147483647) ∧ ((-2147483648 : Int) ≤ 16 ∧ (16 : Int) ≤ 2147483647) ∧ (TKz g_S g_n) ∧ (I a_this 5 ≤ g_n) := by first | omega | exact ⟨by first | omega | assumption | exact trivial, by first | omega | assumption | exact trivial, by first | omega | assumption | exact trivial, by first | omega | assumption | exact trivial, by first | omega | assumption | exact trivial⟩
  refine z_calli hM hA (c_runV (n := 3) (as := [.int (II 3), .int (II x10), .int (II 16)]) (rest := []) B hX hA hM hl.1 t_this kd7 rfl (k_X6_readHeadb l D dA eA L T N I J R a_this t_this (3) hv11.1 x10 hv11.2.1 (16) hv11.2.2.1 g_t g_s g_S g_n (show R a_this 3 = g_t + 1 from p_0) (show T g_t = 3 from p_1) (show R g_t 0 = g_s + 1 from p_2) (show T g_s = 62 from p_3) (show I g_s = g_S from p_4) hv11.2.2.2.1 hv11.2.2.2.2 (show g_S (I a_this 5).toNat = I a_this 6 from by rw [e2, e4]; first | assumption | omega) _ _) ml_X6_111 nm_X6_readHead ⟨rfl, rfl⟩ ⟨Nat.le_of_ble_eq_true rfl, Nat.le_of_ble_eq_true rfl⟩ dX6_readRule_16 rfl rfl (Nat.le_of_ble_eq_true rfl) ⟨by show 0 + 0 ≤ 8; omega, by show 0 + 0 ≤ 211; omega⟩) (fun x13 ix13 L14 T15 N16 I17 J18 R19 dz20 dl21 H locs hp12 hMn => ?_)
  obtain ⟨yL14, yT15, yN16, yR19, hFc22, hp12a⟩ := hp12
  obtain rfl := yL14.symm; obtain rfl := yT15.symm; obtain rfl := yN16.symm; obtain rfl := yR19.symm
  replace hF : Fr mo_X6_readRulec [] T N I J R T N I17 J18 R := hF.trans hFc22 (by decide) e20
  have hM := hMn
  clear hMn
  replace hp12a : (0 : Int) ≤ x13 ∧ x13 ≤ 1 ∧ (I17 a_this 5 ≤ g_n ∧ g_S (I17 a_this 5).toNat = I17 a_this 6 ∧ I a_this 5 ≤ I17 a_this 5 ∧ ((x13 = 0 ∧ I17 a_this 1 ≠ 0) ∨ (x13 = 1 ∧ I17 a_this 1 = I a_this 1 ∧ I a_this 5 + 2 ≤ I17 a_this 5)) ∧ (x13 = 0 ∨ x10 < (16 : Int))) := hp12a
  obtain ⟨hp12a_0, hp12a_1, hp12a_2⟩ := hp12a
  obtain ⟨hp12a_2_0, hp12a_2_1, hp12a_2_2, hp12a_2_3, hp12a_2_4⟩ := hp12a_2
  obtain ⟨x23, e24⟩ : ∃ v, I17 a_this 5 = v := ⟨_, rfl⟩
  obtain ⟨x25, e26⟩ : ∃ v, I17 a_this 6 = v := ⟨_, rfl⟩
  have nz27 : g_S (x23).toNat = x25 := by have h9 := hp12a_2_1; rw [e24, e26] at h9; exact h9
  obtain ⟨x28, e29⟩ : ∃ v, I17 a_this 1 = v := ⟨_, rfl⟩
  replace hor : OTR T I R I17 R g_ru := OTR.step hor hC0 hW0.2.2.2.2 hFt hFc22 (fun _ _ => nm0) (by decide)
  clear hFt hMt
  refine q_ine (tgt := 24) B dX6_readRule_19 (by decide) (by unfold inr; omega) (fun c30 => ?_) (fun c30 => ?_)
  · have hMo := hM
    refine c_new (t := 36) pk_X7 B hX.out hA hM kd36 df_X7 rfl rfl (by decide) cl_X6_141 in_X7 ini_X7 (by show 0 + 1 ≤ 8; omega) (by show 0 + 11 ≤ 211; omega) dX6_readRule_24 (fun b31 L32 T33 N34 H t35 hT36 hN37 hM => ?_)
    have t38 : T33 b31 = 36 := by rw [hT36, va_up_self]
    have n39 : N34 b31 = 11 := by rw [hN37, va_up_self]
    replace hF : Fr mo_X6_readRulec [] T N I J R T33 N34 I17 J18 R := hF.new t35 hT36 hN37
    have zz40 := hMo.2.2.2.2.2.1 b31 t35
    clear hMo
    refine lv_dup B.1 B.2.1 dX6_readRule_27 rfl ?_
    refine lv_iload_n B.1 B.2.1 dX6_readRule_28 rfl (lv_at hl 0 rfl) ?_
    have hFt := hF
    have hMt := hM
    refine g_callv hM hA (c_runI (n := 1) (as := [.int (II x10)]) (rest := [.ref b31]) B hX hA hM hl.1 (k_X7_init l D dA eA L32 T33 N34 I17 J18 R b31 t38 x10 (by first | omega | assumption | exact trivial) zz40 _ _) ml_X6_143 nm_X7_init ⟨rfl, rfl⟩ ⟨Nat.le_of_ble_eq_true rfl, Nat.le_of_ble_eq_true rfl⟩ dX6_readRule_29 rfl rfl (Nat.le_of_ble_eq_true rfl) ⟨by show 0 + 1 + 2 ≤ 8; omega, by show 0 + 11 + 16 ≤ 211; omega⟩) (fun L43 T44 N45 I46 J47 R48 dz49 dl50 H locs hp41 hMn => ?_)
    obtain ⟨yJ47, hFc51, hp41a⟩ := hp41
    obtain rfl := yJ47.symm
    have t52 : T33 a_this = 7 := hF.tt t_this (by decide) nm0
    have t53 : T33 g_t = 3 := hF.tt p_1 (by decide) nm0
    have t54 : T33 g_s = 62 := hF.tt p_3 (by decide) nm0
    have t55 : T33 g_b = 6 := hF.tt p_9 (by decide) nm0
    have t56 : T33 g_ru = 15 := hF.tt p_11 (by decide) nm0
    replace hF : Fr mo_X6_readRulec [] T N I J R T44 N45 I46 J18 R48 := hF.trans hFc51 (by decide) (e2x (fun h => absurd t35 h))
    have hM := hMn
    clear hMn
    obtain ⟨t57, hp41a⟩ := hp41a
    replace hp41a : dz49 ≤ 2 ∧ dl50 ≤ 16 := hp41a
    obtain ⟨hp41a_0, hp41a_1⟩ := hp41a
    replace hor : OTR T I R I46 R48 g_ru := OTR.step hor hC0 hW0.2.2.2.2 hFt hFc51 (fun b hb => nm1 (tne2 hb t38 (by decide) (by decide))) (by decide)
    clear hFt hMt
    refine lv_astore_n (lv' := [(2, .ref b31), (1, .int (II x10)), (0, .ref a_this)]) B.1 B.2.1 dX6_readRule_32 rfl hl (by decide) rfl (fun ls hl => ?_)
    refine lv_aload_n B.1 B.2.1 dX6_readRule_33 rfl (lv_at hl 2 rfl) ?_
    have t58 : T44 a_this = 7 := hF.tt t_this (by decide) nm0
    have e59 : R48 a_this 0 = g_b + 1 := (hF.r t_this (by decide) nm0 rfl).trans p_8
    refine c_getn (k := 0) pk_X6 B hM t58 kd7 rfl (by decide) fl_X6_22 dX6_readRule_34 e59 ?_
    have t60 : T44 g_b = 6 := hF.tt p_9 (by decide) nm0
    have e61 : R48 g_b 0 = g_ru + 1 := (hF.r p_9 (by decide) nm0 rfl).trans p_10
    refine c_getn (k := 0) pk_X0 B hM t60 kd6 rfl (by decide) fl_X6_131 dX6_readRule_37 e61 ?_
    refine lv_aload_n B.1 B.2.1 dX6_readRule_40 rfl (lv_at hl 0 rfl) ?_
    have hFt := hF
    have hMt := hM
    have t62 : T44 g_ru = 15 := hF.tt p_11 (by decide) nm0
    have e63 : I17 g_ru 2 = x10 := (hFc22.i p_11 (by decide) nm0 rfl).trans hp9a_0
    have e64 : I46 g_ru 2 = x10 := (hFc51.i t56 (by decide) (nm1 (tne t56 t38 (by decide))) rfl).trans e63
    obtain ⟨x65, e66⟩ : ∃ v, I46 b31 0 = v := ⟨_, rfl⟩
    have hv67 : (15 ≤ 15) ∧ (15 ≤ 23) ∧ (I46 g_ru 2 < 16) ∧ (15 = 18 → I46 b31 0 ≤ I46 g_ru 2) := by first | omega | exact ⟨by first | omega | assumption | exact trivial, by first | omega | assumption | exact trivial, by first | omega | assumption | exact trivial, by first | omega | assumption | exact trivial⟩
    refine g_calli hM hA (c_runV (n := 1) (as := [.ref b31]) (rest := []) B hX hA hM hl.1 t62 kd15 rfl (k_Jx4a65c_add_9ea2dR l D dA eA L43 T44 N45 I46 J18 R48 g_ru t62 b31 t57 hv67.1 hv67.2.1 hv67.2.2.1 hv67.2.2.2 _ _) ml_X6_146 nm_Jx4a65c_add_9ea2d ⟨rfl, rfl⟩ ⟨Nat.le_of_ble_eq_true rfl, Nat.le_of_ble_eq_true rfl⟩ dX6_readRule_41 rfl rfl (Nat.le_of_ble_eq_true rfl) ⟨by show 0 + 1 + dz49 + 1 ≤ 8; omega, by show 0 + 11 + dl50 + 24 ≤ 211; omega⟩) (fun x69 ix69 L70 T71 N72 I73 J74 R75 dz76 dl77 H locs hp68 hMn => ?_)
    obtain ⟨yJ74, hFc78, hp68a⟩ := hp68
    obtain rfl := yJ74.symm
    have t79 : T44 g_t = 3 := hF.tt p_1 (by decide) nm0
    have t80 : T44 g_s = 62 := hF.tt p_3 (by decide) nm0
    replace hF : Fr mo_X6_readRulec [] T N I J R T71 N72 I73 J18 R75 := hF.trans hFc78 (by decide) e20
    have hM := hMn
    clear hMn
    replace hp68a : (0 : Int) ≤ x69 ∧ x69 ≤ 1 ∧ (I73 g_ru 2 = I46 g_ru 2 + 1 ∧ R75 (R75 g_ru 1 - 1) (I46 g_ru 2).toNat = b31 + 1 ∧ (∀ i : Nat, (i : Int) < I46 g_ru 2 → R75 (R75 g_ru 1 - 1) i = R48 (R48 g_ru 1 - 1) i) ∧ (∀ b, T44 b = 15 → b ≠ g_ru → I73 b 2 = I46 b 2) ∧ dz76 ≤ 1 ∧ dl77 ≤ 24 ∧ dl77 + 3 * N45 (R48 g_ru 1 - 1) ≤ 3 * N72 (R75 g_ru 1 - 1) + 2 ∧ ROT 15 T44 I46 R48 R75 g_ru) := hp68a
    obtain ⟨hp68a_0, hp68a_1, hp68a_2⟩ := hp68a
    obtain ⟨hp68a_2_0, hp68a_2_1, hp68a_2_2, hp68a_2_3, hp68a_2_4, hp68a_2_5, hp68a_2_6, hp68a_2_7⟩ := hp68a_2
    obtain ⟨v81, e82⟩ : ∃ v, R75 g_ru 1 = v := ⟨_, rfl⟩
    replace hor : OTR T I R I73 R75 g_ru := OTR.ad hor hFt hp68a_2_3 hp68a_2_7
    clear hFt hMt
    refine lv_pop B.1 B.2.1 dX6_readRule_44 rfl ?_
    refine lv_aload_n B.1 B.2.1 dX6_readRule_45 rfl (lv_at hl 2 rfl) ?_
    refine q_con B dX6_readRule_46 ?_
    have hMp := hM
    have t83 : T71 a_this = 7 := hF.tt t_this (by decide) nm0
    refine c_puti (k := 12) pk_X6 B hM t83 kd7 rfl (by decide) fl_X6_150 (Or.inl rfl) dX6_readRule_47 rfl rfl rfl (show (0 : Int) ≤ 0 from by omega) (show 0 ≤ (40 : Int) from by omega) (fun I84 H locs hu85 hM => ?_)
    have hFt := hF
    have e86 : I84 a_this 12 = 0 := w2_at hu85
    replace hF : Fr mo_X6_readRulec [] T N I J R T71 N72 I84 J18 R75 := hF.wi hu85 (fun _ _ => by rw [t_this]; rfl)
    replace hor : OTR T I R I84 R75 g_ru := OTR.wi hor hFt hu85 t83 (by decide)
    clear hFt hMp
    refine lv_aload_n B.1 B.2.1 dX6_readRule_50 rfl (lv_at hl 2 rfl) ?_
    refine q_con B dX6_readRule_51 ?_
    have hFt := hF
    have hMt := hM
    refine p_calli (c_runV (n := 1) (as := [.int (II 3)]) (rest := []) B hX hA hM hl.1 t83 kd7 rfl (k_X6_isWordb l D dA eA L70 T71 N72 I84 J18 R75 a_this t83 (3) (by first | omega | assumption | exact trivial) _ _) ml_X6_64 nm_X6_isWord ⟨rfl, rfl⟩ ⟨Nat.le_of_ble_eq_true rfl, Nat.le_of_ble_eq_true rfl⟩ dX6_readRule_52 rfl rfl (Nat.le_of_ble_eq_true rfl) ⟨by show 0 + 1 + dz49 + dz76 + 0 ≤ 8; omega, by show 0 + 11 + dl50 + dl77 + 0 ≤ 211; omega⟩) (fun x88 ix88 hp87 => ?_)
    have hp87a := hp87
    replace hp87a : (0 : Int) ≤ x88 ∧ x88 ≤ 1 ∧ (x88 = 0 ∨ I84 a_this 6 = 5) := hp87a
    obtain ⟨hp87a_0, hp87a_1, hp87a_2⟩ := hp87a
    have e89 : I46 a_this 6 = x25 := (hFc51.i t52 (by decide) (nm1 (tne t52 t38 (by decide))) rfl).trans e26
    have e90 : I73 a_this 6 = x25 := (hFc78.i t58 (by decide) nm0 rfl).trans e89
    have e91 : I84 a_this 6 = x25 := (w2_ne hu85 (Or.inr (by decide))).trans e90
    clear hFt hMt
    have e92 : R75 a_this 3 = g_t + 1 := (hF.r t_this (by decide) nm0 rfl).trans p_0
    have e93 : R75 g_t 0 = g_s + 1 := (hF.r p_1 (by decide) nm0 rfl).trans p_2
    have e94 : R75 a_this 0 = g_b + 1 := (hF.r t_this (by decide) nm0 rfl).trans p_8
    have e95 : R75 g_b 0 = g_ru + 1 := (hF.r p_9 (by decide) nm0 rfl).trans p_10
    have t96 : T71 g_t = 3 := hF.tt p_1 (by decide) nm0
    have t97 : T71 g_s = 62 := hF.tt p_3 (by decide) nm0
    have t98 : T71 g_b = 6 := hF.tt p_9 (by decide) nm0
    have t99 : T71 g_ru = 15 := hF.tt p_11 (by decide) nm0
    have t100 : T71 b31 = 8 := hFc78.tt t57 (by decide) nm0
    have JJ72 : ∀ (I_72 : Nat → Nat → Int) (J_72 : Nat → Nat → Int64) (H : Heap) (locs : List Loc) (ls : Array Slot), (CWd D dA eA (cF dA L T N I J R s.heap.size) s.heap L70 T71 N72 I_72 J_72 R75 H locs) → (Fr mo_X6_readRulec [] T N I J R T71 N72 I_72 J_72 R75) → lv_has ls 3 [(2, .ref b31), (1, .int (II x10)), (0, .ref a_this)] → (I a_this 5 + 2 ≤ I_72 a_this 5) → (I_72 a_this 5 ≤ g_n) → (g_S (I_72 a_this 5).toNat = I_72 a_this 6) → (I_72 a_this 1 = I a_this 1) → (OTR T I R I_72 R75 g_ru) → W p l e ({ frames := 7, cells := 8, slots := 211, locals := 241 }) s m args below meth c H locs (0 + 1 + dz49 + dz76) (0 + 11 + dl50 + dl77) (MQ below (gQ D dA eA (cF dA L T N I J R s.heap.size) s.heap.size (hs s.heap) PST) args s 8 211 (cF dA L T N I J R s.heap.size)) (F0 m 72 ls []) := by
      intro I_72 J_72 H locs ls hM hF hl hJJ72_0 hJJ72_1 hJJ72_2 hJJ72_3 hJJ72_4
      obtain ⟨x101, e102⟩ : ∃ v, I_72 a_this 5 = v := ⟨_, rfl⟩
      obtain ⟨x103, e104⟩ : ∃ v, I_72 a_this 6 = v := ⟨_, rfl⟩
      have nz105 : g_S (x101).toNat = x103 := by have h9 := hJJ72_2; rw [e102, e104] at h9; exact h9
      have hor : OTR T I R I_72 R75 g_ru := by assumption
      refine lv_aload_n B.1 B.2.1 dX6_readRule_72 rfl (lv_at hl 0 rfl) ?_
      refine lv_aload_n B.1 B.2.1 dX6_readRule_73 rfl (lv_at hl 2 rfl) ?_
      obtain ⟨b106, e107, t108⟩ := g7_10 hC0 t_this
      have e109 : R75 a_this 10 = b106 + 1 := (hF.r t_this (by decide) nm0 rfl).trans e107
      refine c_getn (k := 10) pk_X6 B hM t83 kd7 rfl (by decide) fl_X6_29 dX6_readRule_74 e109 ?_
      refine lv_aload_n B.1 B.2.1 dX6_readRule_77 rfl (lv_at hl 2 rfl) ?_
      obtain ⟨x110, e111⟩ : ∃ v, I_72 a_this 12 = v := ⟨_, rfl⟩
      have r112 : (0 : Int) ≤ x110 ∧ x110 ≤ 40 := by rw [← e111]; exact g7_12 hM.2.2.2.2.2.2.1 t83
      refine c_geti (k := 12) pk_X6 B hM t83 kd7 rfl (by decide) fl_X6_150 dX6_readRule_78 e111 ?_
      have hFt := hF
      have hMt := hM
      have t113 : T71 b106 = 66 := hF.tt t108 (by decide) nm0
      have hv114 : ((-2147483648 : Int) ≤ x110 ∧ (x110 : Int) ≤ 2147483647) ∧ (0 ≤ x110) ∧ (0 ≤ x110.toNat) ∧ (x110.toNat ≤ 40) := by first | omega | exact ⟨by first | omega | assumption | exact trivial, by first | omega | assumption | exact trivial, by first | omega | assumption | exact trivial, by first | omega | assumption | exact trivial⟩
      refine g_callr hM hA (c_runS (n := 2) (as := [.ref b106, .int (II x110)]) (rest := [.ref b31]) B hX hA hM hl.1 (k_J7_copyOf_59c91 l D dA eA L70 T71 N72 I_72 J_72 R75 b106 t113 x110 hv114.1 73 kd66 kd73 (by decide +kernel) hv114.2.1 hv114.2.2.1 hv114.2.2.2 _ _) ml_X6_157 nm_J7_copyOf_59c91 ⟨rfl, rfl⟩ ⟨Nat.le_of_ble_eq_true rfl, Nat.le_of_ble_eq_true rfl⟩ dX6_readRule_81 rfl rfl (Nat.le_of_ble_eq_true rfl) ⟨by show 0 + 1 + dz49 + dz76 + 1 ≤ 8; omega, by show 0 + 11 + dl50 + dl77 + x110.toNat ≤ 211; omega⟩) (fun b116 L117 T118 N119 I120 J121 R122 dz123 dl124 H locs hp115 hMn => ?_)
      obtain ⟨yJ121, yR122, hFc125, tb116, hp115a⟩ := hp115
      obtain rfl := yJ121.symm; obtain rfl := yR122.symm
      have hFo := hF
      replace hF : Fr mo_X6_readRulec [] T N I J R T118 N119 I120 J_72 R75 := hF.trans hFc125 (by decide) e20
      have hM := hMn
      clear hMn
      replace hp115a : N119 b116 = x110.toNat ∧ T71 b116 = 0 ∧ dz123 ≤ 1 ∧ dl124 ≤ x110.toNat := hp115a
      obtain ⟨hp115a_0, hp115a_1, hp115a_2, hp115a_3⟩ := hp115a
      have z126 : T b116 = 0 := T0_x hFo hp115a_1 nm0
      clear hFo
      replace hor : OTR T I R I120 R75 g_ru := OTR.step hor hC0 hW0.2.2.2.2 hFt hFc125 (fun _ _ => nm0) (by decide)
      clear hFt hMt
      have hMp := hM
      have t127 : T118 b31 = 8 := hFc125.tt t100 (by decide) nm0
      refine c_putr (k := 1) (v := b116 + 1) pk_X7 B hM t127 kd8 rfl (by decide) fl_X6_163 (Or.inl rfl) dX6_readRule_84 rfl rfl ⟨rfl, fun _ => rfl, rfl, fun _ => rfl⟩ (rokR tb116 rfl) (fun R128 H locs hu129 hM => ?_)
      have hFt := hF
      have e130 : R128 b31 1 = b116 + 1 := w2_at hu129
      replace hF : Fr mo_X6_readRulec [] T N I J R T118 N119 I120 J_72 R128 := hF.wr hu129 (fun h _ => absurd t35 h)
      replace hor : OTR T I R I120 R128 g_ru := OTR.wr hor hC0 hW0.2.2.2.2 hFt hu129 t127 (by decide) (by decide)
      clear hFt hMp
      refine lv_aload_n B.1 B.2.1 dX6_readRule_87 rfl (lv_at hl 0 rfl) ?_
      refine lv_aload_n B.1 B.2.1 dX6_readRule_88 rfl (lv_at hl 2 rfl) ?_
      have t131 : T118 a_this = 7 := hF.tt t_this (by decide) nm0
      obtain ⟨b132, e133, t134⟩ := g7_11 hC0 t_this
      have e135 : R128 a_this 11 = b132 + 1 := (hF.r t_this (by decide) nm0 rfl).trans e133
      refine c_getn (k := 11) pk_X6 B hM t131 kd7 rfl (by decide) fl_X6_32 dX6_readRule_89 e135 ?_
      refine lv_aload_n B.1 B.2.1 dX6_readRule_92 rfl (lv_at hl 2 rfl) ?_
      have e136 : I120 a_this 12 = x110 := (hFc125.i t83 (by decide) nm0 rfl).trans e111
      refine c_geti (k := 12) pk_X6 B hM t131 kd7 rfl (by decide) fl_X6_150 dX6_readRule_93 e136 ?_
      have hFt := hF
      have hMt := hM
      have t137 : T118 b132 = 67 := hF.tt t134 (by decide) nm0
      have hv138 : ((-2147483648 : Int) ≤ x110 ∧ (x110 : Int) ≤ 2147483647) ∧ (0 ≤ x110) ∧ (0 ≤ x110.toNat) ∧ (x110.toNat ≤ 40) := by first | omega | exact ⟨by first | omega | assumption | exact trivial, by first | omega | assumption | exact trivial, by first | omega | assumption | exact trivial, by first | omega | assumption | exact trivial⟩
      refine g_callr hM hA (c_runS (n := 2) (as := [.ref b132, .int (II x110)]) (rest := [.ref b31]) B hX hA hM hl.1 (k_J7_copyOf_59c91 l D dA eA L117 T118 N119 I120 J_72 R128 b132 t137 x110 hv138.1 73 kd67 kd73 (by decide +kernel) hv138.2.1 hv138.2.2.1 hv138.2.2.2 _ _) ml_X6_157 nm_J7_copyOf_59c91 ⟨rfl, rfl⟩ ⟨Nat.le_of_ble_eq_true rfl, Nat.le_of_ble_eq_true rfl⟩ dX6_readRule_96 rfl rfl (Nat.le_of_ble_eq_true rfl) ⟨by show 0 + 1 + dz49 + dz76 + dz123 + 1 ≤ 8; omega, by show 0 + 11 + dl50 + dl77 + dl124 + x110.toNat ≤ 211; omega⟩) (fun b140 L141 T142 N143 I144 J145 R146 dz147 dl148 H locs hp139 hMn => ?_)
      obtain ⟨yJ145, yR146, hFc149, tb140, hp139a⟩ := hp139
      obtain rfl := yJ145.symm; obtain rfl := yR146.symm
      have t150 : T118 g_t = 3 := hF.tt p_1 (by decide) nm0
      have t151 : T118 g_s = 62 := hF.tt p_3 (by decide) nm0
      have t152 : T118 g_b = 6 := hF.tt p_9 (by decide) nm0
      have t153 : T118 g_ru = 15 := hF.tt p_11 (by decide) nm0
      have t154 : T118 b106 = 66 := hF.tt t108 (by decide) nm0
      have hFo := hF
      replace hF : Fr mo_X6_readRulec [] T N I J R T142 N143 I144 J_72 R128 := hF.trans hFc149 (by decide) e20
      have hM := hMn
      clear hMn
      replace hp139a : N143 b140 = x110.toNat ∧ T118 b140 = 0 ∧ dz147 ≤ 1 ∧ dl148 ≤ x110.toNat := hp139a
      obtain ⟨hp139a_0, hp139a_1, hp139a_2, hp139a_3⟩ := hp139a
      have z155 : T b140 = 0 := T0_x hFo hp139a_1 nm0
      clear hFo
      replace hor : OTR T I R I144 R128 g_ru := OTR.step hor hC0 hW0.2.2.2.2 hFt hFc149 (fun _ _ => nm0) (by decide)
      clear hFt hMt
      have hMp := hM
      have t156 : T142 b31 = 8 := hFc149.tt t127 (by decide) nm0
      refine c_putr (k := 2) (v := b140 + 1) pk_X7 B hM t156 kd8 rfl (by decide) fl_X6_166 (Or.inl rfl) dX6_readRule_99 rfl rfl ⟨rfl, fun _ => rfl, rfl, fun _ => rfl⟩ (rokR tb140 rfl) (fun R157 H locs hu158 hM => ?_)
      have hFt := hF
      have e159 : R157 b31 2 = b140 + 1 := w2_at hu158
      replace hF : Fr mo_X6_readRulec [] T N I J R T142 N143 I144 J_72 R157 := hF.wr hu158 (fun h _ => absurd t35 h)
      replace hor : OTR T I R I144 R157 g_ru := OTR.wr hor hC0 hW0.2.2.2.2 hFt hu158 t156 (by decide) (by decide)
      clear hFt hMp
      refine lv_aload_n B.1 B.2.1 dX6_readRule_102 rfl (lv_at hl 2 rfl) ?_
      refine q_bip B dX6_readRule_103 (by decide) ?_
      have hFt := hF
      have hMt := hM
      have t160 : T142 a_this = 7 := hF.tt t_this (by decide) nm0
      have e161 : R157 a_this 3 = g_t + 1 := (hF.r t_this (by decide) nm0 rfl).trans p_0
      have e162 : R157 g_t 0 = g_s + 1 := (hF.r p_1 (by decide) nm0 rfl).trans p_2
      have t163 : T142 g_t = 3 := hF.tt p_1 (by decide) nm0
      have t164 : T142 g_s = 62 := hF.tt p_3 (by decide) nm0
      have e165 : I120 a_this 5 = x101 := (hFc125.i t83 (by decide) nm0 rfl).trans e102
      have e166 : I144 a_this 5 = x101 := (hFc149.i t131 (by decide) nm0 rfl).trans e165
      have e167 : I120 a_this 6 = x103 := (hFc125.i t83 (by decide) nm0 rfl).trans e104
      have e168 : I144 a_this 6 = x103 := (hFc149.i t131 (by decide) nm0 rfl).trans e167
      have hv169 : ((-2147483648 : Int) ≤ 61 ∧ (61 : Int) ≤ 2147483647) ∧ (TKz g_S g_n) ∧ (I144 a_this 5 ≤ g_n) ∧ ((61 : Int) ≠ 0) ∧ ((61 : Int) ≠ 1) := by first | omega | exact ⟨by first | omega | assumption | exact trivial, by first | omega | assumption | exact trivial, by first | omega | assumption | exact trivial, by first | omega | assumption | exact trivial, by first | omega | assumption | exact trivial⟩
      refine z_calli hM hA (c_runV (n := 1) (as := [.int (II 61)]) (rest := []) B hX hA hM hl.1 t160 kd7 rfl (k_X6_readSign l D dA eA L141 T142 N143 I144 J_72 R157 a_this t160 (61) hv169.1 g_t g_s g_S g_n (show R157 a_this 3 = g_t + 1 from e161) (show T142 g_t = 3 from t163) (show R157 g_t 0 = g_s + 1 from e162) (show T142 g_s = 62 from t164) (show I144 g_s = g_S from ((Fr.irow hF p_3 (by decide) nm0 (by decide)).trans p_4)) hv169.2.1 hv169.2.2.1 (show g_S (I144 a_this 5).toNat = I144 a_this 6 from by rw [e166, e168]; first | assumption | omega) hv169.2.2.2.1 hv169.2.2.2.2 _ _) ml_X6_122 nm_X6_readSign ⟨rfl, rfl⟩ ⟨Nat.le_of_ble_eq_true rfl, Nat.le_of_ble_eq_true rfl⟩ dX6_readRule_105 rfl rfl (Nat.le_of_ble_eq_true rfl) ⟨by show 0 + 1 + dz49 + dz76 + dz123 + dz147 + 0 ≤ 8; omega, by show 0 + 11 + dl50 + dl77 + dl124 + dl148 + 0 ≤ 211; omega⟩) (fun x171 ix171 L172 T173 N174 I175 J176 R177 dz178 dl179 H locs hp170 hMn => ?_)
      obtain ⟨yL172, yT173, yN174, yR177, hFc180, hp170a⟩ := hp170
      obtain rfl := yL172.symm; obtain rfl := yT173.symm; obtain rfl := yN174.symm; obtain rfl := yR177.symm
      replace hF : Fr mo_X6_readRulec [] T N I J R T142 N143 I175 J176 R157 := hF.trans hFc180 (by decide) e20
      have hM := hMn
      clear hMn
      replace hp170a : (0 : Int) ≤ x171 ∧ x171 ≤ 1 ∧ (I175 a_this 5 ≤ g_n ∧ g_S (I175 a_this 5).toNat = I175 a_this 6 ∧ I144 a_this 5 ≤ I175 a_this 5 ∧ ((x171 = 0 ∧ I175 a_this 1 ≠ 0) ∨ (x171 = 1 ∧ I175 a_this 1 = I144 a_this 1 ∧ I144 a_this 5 + 1 ≤ I175 a_this 5))) := hp170a
      obtain ⟨hp170a_0, hp170a_1, hp170a_2⟩ := hp170a
      obtain ⟨hp170a_2_0, hp170a_2_1, hp170a_2_2, hp170a_2_3⟩ := hp170a_2
      obtain ⟨x181, e182⟩ : ∃ v, I175 a_this 5 = v := ⟨_, rfl⟩
      obtain ⟨x183, e184⟩ : ∃ v, I175 a_this 6 = v := ⟨_, rfl⟩
      have nz185 : g_S (x181).toNat = x183 := by have h9 := hp170a_2_1; rw [e182, e184] at h9; exact h9
      have e186 : I120 a_this 1 = I a_this 1 := (hFc125.i t83 (by decide) nm0 rfl).trans hJJ72_3
      have e187 : I144 a_this 1 = I a_this 1 := (hFc149.i t131 (by decide) nm0 rfl).trans e186
      obtain ⟨x188, e189⟩ : ∃ v, I175 a_this 1 = v := ⟨_, rfl⟩
      replace hor : OTR T I R I175 R157 g_ru := OTR.step hor hC0 hW0.2.2.2.2 hFt hFc180 (fun _ _ => nm0) (by decide)
      clear hFt hMt
      refine q_ieq (tgt := 119) B dX6_readRule_108 (by decide) (by unfold inr; omega) (fun c190 => ?_) (fun c190 => ?_)
      · refine q_con B dX6_readRule_119 ?_
        refine g_zret B hM dX6_readRule_120 ⟨by show 0 + 1 + dz49 + dz76 + dz123 + dz147 ≤ 8; omega, by show 0 + 11 + dl50 + dl77 + dl124 + dl148 ≤ 211; omega⟩ (by omega) (by omega) ?_
        rw [← hPST]
        exact ⟨(0), rfl, by omega, hF, by omega, by omega, by first | omega | assumption | exact trivial, by show g_S (I175 a_this 5).toNat = I175 a_this 6; rw [e182, e184]; first | assumption | omega, by first | omega | assumption | exact trivial, by first | omega | assumption | exact trivial, by first | omega | assumption | exact trivial, by first | omega | assumption | exact trivial, by first | omega | assumption | exact trivial, by first | omega | assumption | exact trivial, by exact hor⟩
      · refine lv_aload_n B.1 B.2.1 dX6_readRule_111 rfl (lv_at hl 2 rfl) ?_
        refine q_con B dX6_readRule_112 ?_
        have hFt := hF
        have hMt := hM
        have hv191 : ((0 : Int) ≤ 0 ∧ (0 : Int) ≤ 1) ∧ (TKz g_S g_n) ∧ (I175 a_this 5 ≤ g_n) := by first | omega | exact ⟨by first | omega | assumption | exact trivial, by first | omega | assumption | exact trivial, by first | omega | assumption | exact trivial⟩
        refine z_calli hM hA (c_runV (n := 1) (as := [.int (II 0)]) (rest := []) B hX hA hM hl.1 t160 kd7 rfl (k_X6_readSteps l D dA eA L141 T142 N143 I175 J176 R157 a_this t160 (0) hv191.1 g_t g_s g_S g_n (show R157 a_this 3 = g_t + 1 from e161) (show T142 g_t = 3 from t163) (show R157 g_t 0 = g_s + 1 from e162) (show T142 g_s = 62 from t164) (show I175 g_s = g_S from ((Fr.irow hF p_3 (by decide) nm0 (by decide)).trans p_4)) hv191.2.1 hv191.2.2 (show g_S (I175 a_this 5).toNat = I175 a_this 6 from by rw [e182, e184]; first | assumption | omega) _ _) ml_X6_153 nm_X6_readSteps ⟨rfl, rfl⟩ ⟨Nat.le_of_ble_eq_true rfl, Nat.le_of_ble_eq_true rfl⟩ dX6_readRule_113 rfl rfl (Nat.le_of_ble_eq_true rfl) ⟨by show 0 + 1 + dz49 + dz76 + dz123 + dz147 + 0 ≤ 8; omega, by show 0 + 11 + dl50 + dl77 + dl124 + dl148 + 0 ≤ 211; omega⟩) (fun x193 ix193 L194 T195 N196 I197 J198 R199 dz200 dl201 H locs hp192 hMn => ?_)
        obtain ⟨yL194, yT195, yN196, yR199, hFc202, hp192a⟩ := hp192
        obtain rfl := yL194.symm; obtain rfl := yT195.symm; obtain rfl := yN196.symm; obtain rfl := yR199.symm
        replace hF : Fr mo_X6_readRulec [] T N I J R T142 N143 I197 J198 R157 := hF.trans hFc202 (by decide) e20
        have hM := hMn
        clear hMn
        replace hp192a : (0 : Int) ≤ x193 ∧ x193 ≤ 1 ∧ (I197 a_this 5 ≤ g_n ∧ g_S (I197 a_this 5).toNat = I197 a_this 6 ∧ I175 a_this 5 ≤ I197 a_this 5 ∧ ((x193 = 0 ∧ I197 a_this 1 ≠ 0) ∨ (x193 = 1 ∧ I197 a_this 1 = I175 a_this 1 ∧ I175 a_this 5 + 0 ≤ I197 a_this 5))) := hp192a
        obtain ⟨hp192a_0, hp192a_1, hp192a_2⟩ := hp192a
        obtain ⟨hp192a_2_0, hp192a_2_1, hp192a_2_2, hp192a_2_3⟩ := hp192a_2
        obtain ⟨x203, e204⟩ : ∃ v, I197 a_this 5 = v := ⟨_, rfl⟩
        obtain ⟨x205, e206⟩ : ∃ v, I197 a_this 6 = v := ⟨_, rfl⟩
        have nz207 : g_S (x203).toNat = x205 := by have h9 := hp192a_2_1; rw [e204, e206] at h9; exact h9
        obtain ⟨x208, e209⟩ : ∃ v, I197 a_this 1 = v := ⟨_, rfl⟩
        replace hor : OTR T I R I197 R157 g_ru := OTR.step hor hC0 hW0.2.2.2.2 hFt hFc202 (fun _ _ => nm0) (by decide)
        clear hFt hMt
        refine q_ine (tgt := 121) B dX6_readRule_116 (by decide) (by unfold inr; omega) (fun c210 => ?_) (fun c210 => ?_)
        · refine lv_aload_n B.1 B.2.1 dX6_readRule_121 rfl (lv_at hl 0 rfl) ?_
          refine lv_aload_n B.1 B.2.1 dX6_readRule_122 rfl (lv_at hl 2 rfl) ?_
          have e211 : R157 a_this 10 = b106 + 1 := (hF.r t_this (by decide) nm0 rfl).trans e107
          refine c_getn (k := 10) pk_X6 B hM t160 kd7 rfl (by decide) fl_X6_29 dX6_readRule_123 e211 ?_
          refine lv_aload_n B.1 B.2.1 dX6_readRule_126 rfl (lv_at hl 2 rfl) ?_
          have e212 : I144 a_this 12 = x110 := (hFc149.i t131 (by decide) nm0 rfl).trans e136
          have e213 : I175 a_this 12 = x110 := (hFc180.i t160 (by decide) nm0 rfl).trans e212
          obtain ⟨x214, e215⟩ : ∃ v, I197 a_this 12 = v := ⟨_, rfl⟩
          have r216 : (0 : Int) ≤ x214 ∧ x214 ≤ 40 := by rw [← e215]; exact g7_12 hM.2.2.2.2.2.2.1 t160
          refine c_geti (k := 12) pk_X6 B hM t160 kd7 rfl (by decide) fl_X6_150 dX6_readRule_127 e215 ?_
          have hFt := hF
          have hMt := hM
          have t217 : T142 b106 = 66 := hF.tt t108 (by decide) nm0
          have hv218 : ((-2147483648 : Int) ≤ x214 ∧ (x214 : Int) ≤ 2147483647) ∧ (0 ≤ x214) ∧ (0 ≤ x214.toNat) ∧ (x214.toNat ≤ 40) := by first | omega | exact ⟨by first | omega | assumption | exact trivial, by first | omega | assumption | exact trivial, by first | omega | assumption | exact trivial, by first | omega | assumption | exact trivial⟩
          refine g_callr hM hA (c_runS (n := 2) (as := [.ref b106, .int (II x214)]) (rest := [.ref b31]) B hX hA hM hl.1 (k_J7_copyOf_59c91 l D dA eA L141 T142 N143 I197 J198 R157 b106 t217 x214 hv218.1 73 kd66 kd73 (by decide +kernel) hv218.2.1 hv218.2.2.1 hv218.2.2.2 _ _) ml_X6_157 nm_J7_copyOf_59c91 ⟨rfl, rfl⟩ ⟨Nat.le_of_ble_eq_true rfl, Nat.le_of_ble_eq_true rfl⟩ dX6_readRule_130 rfl rfl (Nat.le_of_ble_eq_true rfl) ⟨by show 0 + 1 + dz49 + dz76 + dz123 + dz147 + 1 ≤ 8; omega, by show 0 + 11 + dl50 + dl77 + dl124 + dl148 + x214.toNat ≤ 211; omega⟩) (fun b220 L221 T222 N223 I224 J225 R226 dz227 dl228 H locs hp219 hMn => ?_)
          obtain ⟨yJ225, yR226, hFc229, tb220, hp219a⟩ := hp219
          obtain rfl := yJ225.symm; obtain rfl := yR226.symm
          have t230 : T142 g_b = 6 := hF.tt p_9 (by decide) nm0
          have t231 : T142 g_ru = 15 := hF.tt p_11 (by decide) nm0
          have t232 : T142 b116 = 73 := hFc149.tt tb116 (by decide) nm0
          have t233 : T142 b132 = 67 := hF.tt t134 (by decide) nm0
          have hFo := hF
          replace hF : Fr mo_X6_readRulec [] T N I J R T222 N223 I224 J198 R157 := hF.trans hFc229 (by decide) e20
          have hM := hMn
          clear hMn
          replace hp219a : N223 b220 = x214.toNat ∧ T142 b220 = 0 ∧ dz227 ≤ 1 ∧ dl228 ≤ x214.toNat := hp219a
          obtain ⟨hp219a_0, hp219a_1, hp219a_2, hp219a_3⟩ := hp219a
          have z234 : T b220 = 0 := T0_x hFo hp219a_1 nm0
          clear hFo
          replace hor : OTR T I R I224 R157 g_ru := OTR.step hor hC0 hW0.2.2.2.2 hFt hFc229 (fun _ _ => nm0) (by decide)
          clear hFt hMt
          have hMp := hM
          have t235 : T222 b31 = 8 := hFc229.tt t156 (by decide) nm0
          refine c_putr (k := 3) (v := b220 + 1) pk_X7 B hM t235 kd8 rfl (by decide) fl_X6_169 (Or.inl rfl) dX6_readRule_133 rfl rfl ⟨rfl, fun _ => rfl, rfl, fun _ => rfl⟩ (rokR tb220 rfl) (fun R236 H locs hu237 hM => ?_)
          have hFt := hF
          have e238 : R236 b31 3 = b220 + 1 := w2_at hu237
          replace hF : Fr mo_X6_readRulec [] T N I J R T222 N223 I224 J198 R236 := hF.wr hu237 (fun h _ => absurd t35 h)
          replace hor : OTR T I R I224 R236 g_ru := OTR.wr hor hC0 hW0.2.2.2.2 hFt hu237 t235 (by decide) (by decide)
          clear hFt hMp
          refine lv_aload_n B.1 B.2.1 dX6_readRule_136 rfl (lv_at hl 0 rfl) ?_
          refine lv_aload_n B.1 B.2.1 dX6_readRule_137 rfl (lv_at hl 2 rfl) ?_
          have t239 : T222 a_this = 7 := hF.tt t_this (by decide) nm0
          have e240 : R236 a_this 11 = b132 + 1 := (hF.r t_this (by decide) nm0 rfl).trans e133
          refine c_getn (k := 11) pk_X6 B hM t239 kd7 rfl (by decide) fl_X6_32 dX6_readRule_138 e240 ?_
          refine lv_aload_n B.1 B.2.1 dX6_readRule_141 rfl (lv_at hl 2 rfl) ?_
          have e241 : I224 a_this 12 = x214 := (hFc229.i t160 (by decide) nm0 rfl).trans e215
          refine c_geti (k := 12) pk_X6 B hM t239 kd7 rfl (by decide) fl_X6_150 dX6_readRule_142 e241 ?_
          have hFt := hF
          have hMt := hM
          have t242 : T222 b132 = 67 := hF.tt t134 (by decide) nm0
          have hv243 : ((-2147483648 : Int) ≤ x214 ∧ (x214 : Int) ≤ 2147483647) ∧ (0 ≤ x214) ∧ (0 ≤ x214.toNat) ∧ (x214.toNat ≤ 40) := by first | omega | exact ⟨by first | omega | assumption | exact trivial, by first | omega | assumption | exact trivial, by first | omega | assumption | exact trivial, by first | omega | assumption | exact trivial⟩
          refine g_callr hM hA (c_runS (n := 2) (as := [.ref b132, .int (II x214)]) (rest := [.ref b31]) B hX hA hM hl.1 (k_J7_copyOf_59c91 l D dA eA L221 T222 N223 I224 J198 R236 b132 t242 x214 hv243.1 73 kd67 kd73 (by decide +kernel) hv243.2.1 hv243.2.2.1 hv243.2.2.2 _ _) ml_X6_157 nm_J7_copyOf_59c91 ⟨rfl, rfl⟩ ⟨Nat.le_of_ble_eq_true rfl, Nat.le_of_ble_eq_true rfl⟩ dX6_readRule_145 rfl rfl (Nat.le_of_ble_eq_true rfl) ⟨by show 0 + 1 + dz49 + dz76 + dz123 + dz147 + dz227 + 1 ≤ 8; omega, by show 0 + 11 + dl50 + dl77 + dl124 + dl148 + dl228 + x214.toNat ≤ 211; omega⟩) (fun b245 L246 T247 N248 I249 J250 R251 dz252 dl253 H locs hp244 hMn => ?_)
          obtain ⟨yJ250, yR251, hFc254, tb245, hp244a⟩ := hp244
          obtain rfl := yJ250.symm; obtain rfl := yR251.symm
          have t255 : T222 g_t = 3 := hF.tt p_1 (by decide) nm0
          have t256 : T222 g_s = 62 := hF.tt p_3 (by decide) nm0
          have t257 : T222 g_b = 6 := hF.tt p_9 (by decide) nm0
          have t258 : T222 g_ru = 15 := hF.tt p_11 (by decide) nm0
          have t259 : T222 b106 = 66 := hF.tt t108 (by decide) nm0
          have t260 : T222 b116 = 73 := hFc229.tt t232 (by decide) nm0
          have t261 : T222 b140 = 73 := hFc229.tt tb140 (by decide) nm0
          have hFo := hF
          replace hF : Fr mo_X6_readRulec [] T N I J R T247 N248 I249 J198 R236 := hF.trans hFc254 (by decide) e20
          have hM := hMn
          clear hMn
          replace hp244a : N248 b245 = x214.toNat ∧ T222 b245 = 0 ∧ dz252 ≤ 1 ∧ dl253 ≤ x214.toNat := hp244a
          obtain ⟨hp244a_0, hp244a_1, hp244a_2, hp244a_3⟩ := hp244a
          have z262 : T b245 = 0 := T0_x hFo hp244a_1 nm0
          clear hFo
          replace hor : OTR T I R I249 R236 g_ru := OTR.step hor hC0 hW0.2.2.2.2 hFt hFc254 (fun _ _ => nm0) (by decide)
          clear hFt hMt
          have hMp := hM
          have t263 : T247 b31 = 8 := hFc254.tt t235 (by decide) nm0
          refine c_putr (k := 4) (v := b245 + 1) pk_X7 B hM t263 kd8 rfl (by decide) fl_X6_172 (Or.inl rfl) dX6_readRule_148 rfl rfl ⟨rfl, fun _ => rfl, rfl, fun _ => rfl⟩ (rokR tb245 rfl) (fun R264 H locs hu265 hM => ?_)
          have hFt := hF
          have e266 : R264 b31 4 = b245 + 1 := w2_at hu265
          replace hF : Fr mo_X6_readRulec [] T N I J R T247 N248 I249 J198 R264 := hF.wr hu265 (fun h _ => absurd t35 h)
          replace hor : OTR T I R I249 R264 g_ru := OTR.wr hor hC0 hW0.2.2.2.2 hFt hu265 t263 (by decide) (by decide)
          clear hFt hMp
          refine lv_aload_n B.1 B.2.1 dX6_readRule_151 rfl (lv_at hl 2 rfl) ?_
          refine q_bip B dX6_readRule_152 (by decide) ?_
          have hFt := hF
          have hMt := hM
          have t267 : T247 a_this = 7 := hF.tt t_this (by decide) nm0
          have e268 : R264 a_this 3 = g_t + 1 := (hF.r t_this (by decide) nm0 rfl).trans p_0
          have e269 : R264 g_t 0 = g_s + 1 := (hF.r p_1 (by decide) nm0 rfl).trans p_2
          have t270 : T247 g_t = 3 := hF.tt p_1 (by decide) nm0
          have t271 : T247 g_s = 62 := hF.tt p_3 (by decide) nm0
          have e272 : I224 a_this 5 = x203 := (hFc229.i t160 (by decide) nm0 rfl).trans e204
          have e273 : I249 a_this 5 = x203 := (hFc254.i t239 (by decide) nm0 rfl).trans e272
          have e274 : I224 a_this 6 = x205 := (hFc229.i t160 (by decide) nm0 rfl).trans e206
          have e275 : I249 a_this 6 = x205 := (hFc254.i t239 (by decide) nm0 rfl).trans e274
          have hv276 : ((-2147483648 : Int) ≤ 59 ∧ (59 : Int) ≤ 2147483647) ∧ (TKz g_S g_n) ∧ (I249 a_this 5 ≤ g_n) ∧ ((59 : Int) ≠ 0) ∧ ((59 : Int) ≠ 1) := by first | omega | exact ⟨by first | omega | assumption | exact trivial, by first | omega | assumption | exact trivial, by first | omega | assumption | exact trivial, by first | omega | assumption | exact trivial, by first | omega | assumption | exact trivial⟩
          refine z_calli hM hA (c_runV (n := 1) (as := [.int (II 59)]) (rest := []) B hX hA hM hl.1 t267 kd7 rfl (k_X6_readSign l D dA eA L246 T247 N248 I249 J198 R264 a_this t267 (59) hv276.1 g_t g_s g_S g_n (show R264 a_this 3 = g_t + 1 from e268) (show T247 g_t = 3 from t270) (show R264 g_t 0 = g_s + 1 from e269) (show T247 g_s = 62 from t271) (show I249 g_s = g_S from ((Fr.irow hF p_3 (by decide) nm0 (by decide)).trans p_4)) hv276.2.1 hv276.2.2.1 (show g_S (I249 a_this 5).toNat = I249 a_this 6 from by rw [e273, e275]; first | assumption | omega) hv276.2.2.2.1 hv276.2.2.2.2 _ _) ml_X6_122 nm_X6_readSign ⟨rfl, rfl⟩ ⟨Nat.le_of_ble_eq_true rfl, Nat.le_of_ble_eq_true rfl⟩ dX6_readRule_154 rfl rfl (Nat.le_of_ble_eq_true rfl) ⟨by show 0 + 1 + dz49 + dz76 + dz123 + dz147 + dz227 + dz252 + 0 ≤ 8; omega, by show 0 + 11 + dl50 + dl77 + dl124 + dl148 + dl228 + dl253 + 0 ≤ 211; omega⟩) (fun x278 ix278 L279 T280 N281 I282 J283 R284 dz285 dl286 H locs hp277 hMn => ?_)
          obtain ⟨yL279, yT280, yN281, yR284, hFc287, hp277a⟩ := hp277
          obtain rfl := yL279.symm; obtain rfl := yT280.symm; obtain rfl := yN281.symm; obtain rfl := yR284.symm
          replace hF : Fr mo_X6_readRulec [] T N I J R T247 N248 I282 J283 R264 := hF.trans hFc287 (by decide) e20
          have hM := hMn
          clear hMn
          replace hp277a : (0 : Int) ≤ x278 ∧ x278 ≤ 1 ∧ (I282 a_this 5 ≤ g_n ∧ g_S (I282 a_this 5).toNat = I282 a_this 6 ∧ I249 a_this 5 ≤ I282 a_this 5 ∧ ((x278 = 0 ∧ I282 a_this 1 ≠ 0) ∨ (x278 = 1 ∧ I282 a_this 1 = I249 a_this 1 ∧ I249 a_this 5 + 1 ≤ I282 a_this 5))) := hp277a
          obtain ⟨hp277a_0, hp277a_1, hp277a_2⟩ := hp277a
          obtain ⟨hp277a_2_0, hp277a_2_1, hp277a_2_2, hp277a_2_3⟩ := hp277a_2
          obtain ⟨x288, e289⟩ : ∃ v, I282 a_this 5 = v := ⟨_, rfl⟩
          obtain ⟨x290, e291⟩ : ∃ v, I282 a_this 6 = v := ⟨_, rfl⟩
          have nz292 : g_S (x288).toNat = x290 := by have h9 := hp277a_2_1; rw [e289, e291] at h9; exact h9
          have e293 : I224 a_this 1 = x208 := (hFc229.i t160 (by decide) nm0 rfl).trans e209
          have e294 : I249 a_this 1 = x208 := (hFc254.i t239 (by decide) nm0 rfl).trans e293
          obtain ⟨x295, e296⟩ : ∃ v, I282 a_this 1 = v := ⟨_, rfl⟩
          replace hor : OTR T I R I282 R264 g_ru := OTR.step hor hC0 hW0.2.2.2.2 hFt hFc287 (fun _ _ => nm0) (by decide)
          clear hFt hMt
          refine g_zret B hM dX6_readRule_157 ⟨by show 0 + 1 + dz49 + dz76 + dz123 + dz147 + dz227 + dz252 ≤ 8; omega, by show 0 + 11 + dl50 + dl77 + dl124 + dl148 + dl228 + dl253 ≤ 211; omega⟩ (by omega) (by omega) ?_
          rw [← hPST]
          exact ⟨x278, rfl, by omega, hF, by omega, by omega, by first | omega | assumption | exact trivial, by show g_S (I282 a_this 5).toNat = I282 a_this 6; rw [e289, e291]; first | assumption | omega, by first | omega | assumption | exact trivial, by first | omega | assumption | exact trivial, by first | omega | assumption | exact trivial, by first | omega | assumption | exact trivial, by first | omega | assumption | exact trivial, by first | omega | assumption | exact trivial, by exact hor⟩
        · refine q_con B dX6_readRule_119 ?_
          refine g_zret B hM dX6_readRule_120 ⟨by show 0 + 1 + dz49 + dz76 + dz123 + dz147 ≤ 8; omega, by show 0 + 11 + dl50 + dl77 + dl124 + dl148 ≤ 211; omega⟩ (by omega) (by omega) ?_
          rw [← hPST]
          exact ⟨(0), rfl, by omega, hF, by omega, by omega, by first | omega | assumption | exact trivial, by show g_S (I197 a_this 5).toNat = I197 a_this 6; rw [e204, e206]; first | assumption | omega, by first | omega | assumption | exact trivial, by first | omega | assumption | exact trivial, by first | omega | assumption | exact trivial, by first | omega | assumption | exact trivial, by first | omega | assumption | exact trivial, by first | omega | assumption | exact trivial, by exact hor⟩
    refine q_ieq (tgt := 72) B dX6_readRule_55 (by decide) (by unfold inr; omega) (fun c297 => ?_) (fun c297 => ?_)
    · have e298 : I46 a_this 5 = x23 := (hFc51.i t52 (by decide) (nm1 (tne t52 t38 (by decide))) rfl).trans e24
      have e299 : I73 a_this 5 = x23 := (hFc78.i t58 (by decide) nm0 rfl).trans e298
      have e300 : I84 a_this 5 = x23 := (w2_ne hu85 (Or.inr (by decide))).trans e299
      have e301 : I46 a_this 1 = x28 := (hFc51.i t52 (by decide) (nm1 (tne t52 t38 (by decide))) rfl).trans e29
      have e302 : I73 a_this 1 = x28 := (hFc78.i t58 (by decide) nm0 rfl).trans e301
      have e303 : I84 a_this 1 = x28 := (w2_ne hu85 (Or.inr (by decide))).trans e302
      have hv304 : (I a_this 5 + 2 ≤ I84 a_this 5) ∧ (I84 a_this 5 ≤ g_n) ∧ (I84 a_this 1 = I a_this 1) := by first | omega | exact ⟨by first | omega | assumption | exact trivial, by first | omega | assumption | exact trivial, by first | omega | assumption | exact trivial⟩
      exact JJ72 I84 J18 _ _ ls hM hF (lv_sub hl [0, 1, 2] rfl) hv304.1 hv304.2.1 (by rw [e300, e91]; first | assumption | omega) hv304.2.2 (by exact hor)
    · refine lv_aload_n B.1 B.2.1 dX6_readRule_58 rfl (lv_at hl 2 rfl) ?_
      have hFt := hF
      have hMt := hM
      have e305 : R75 a_this 3 = g_t + 1 := (hF.r t_this (by decide) nm0 rfl).trans p_0
      have e306 : R75 g_t 0 = g_s + 1 := (hF.r p_1 (by decide) nm0 rfl).trans p_2
      have t307 : T71 g_t = 3 := hF.tt p_1 (by decide) nm0
      have t308 : T71 g_s = 62 := hF.tt p_3 (by decide) nm0
      have e309 : I46 a_this 5 = x23 := (hFc51.i t52 (by decide) (nm1 (tne t52 t38 (by decide))) rfl).trans e24
      have e310 : I73 a_this 5 = x23 := (hFc78.i t58 (by decide) nm0 rfl).trans e309
      have e311 : I84 a_this 5 = x23 := (w2_ne hu85 (Or.inr (by decide))).trans e310
      have hv312 : (TKz g_S g_n) ∧ (I84 a_this 5 ≤ g_n) := by first | omega | exact ⟨by first | omega | assumption | exact trivial, by first | omega | assumption | exact trivial⟩
      refine z_callv hM hA (c_runV (n := 0) (as := []) (rest := []) B hX hA hM hl.1 t83 kd7 rfl (k_X6_advanceb l D dA eA L70 T71 N72 I84 J18 R75 a_this t83 g_t g_s g_S g_n (show R75 a_this 3 = g_t + 1 from e305) (show T71 g_t = 3 from t307) (show R75 g_t 0 = g_s + 1 from e306) (show T71 g_s = 62 from t308) (show I84 g_s = g_S from ((Fr.irow hF p_3 (by decide) nm0 (by decide)).trans p_4)) hv312.1 hv312.2 (show g_S (I84 a_this 5).toNat = I84 a_this 6 from by rw [e311, e91]; first | assumption | omega) _ _) ml_X6_87 nm_X6_advance ⟨rfl, rfl⟩ ⟨Nat.le_of_ble_eq_true rfl, Nat.le_of_ble_eq_true rfl⟩ dX6_readRule_59 rfl rfl (Nat.le_of_ble_eq_true rfl) ⟨by show 0 + 1 + dz49 + dz76 + 0 ≤ 8; omega, by show 0 + 11 + dl50 + dl77 + 0 ≤ 211; omega⟩) (fun L315 T316 N317 I318 J319 R320 dz321 dl322 H locs hp313 hMn => ?_)
      obtain ⟨yL315, yT316, yN317, yR320, hFc323, hp313a⟩ := hp313
      obtain rfl := yL315.symm; obtain rfl := yT316.symm; obtain rfl := yN317.symm; obtain rfl := yR320.symm
      replace hF : Fr mo_X6_readRulec [] T N I J R T71 N72 I318 J319 R75 := hF.trans hFc323 (by decide) e20
      have hM := hMn
      clear hMn
      replace hp313a : I318 a_this 5 ≤ g_n ∧ g_S (I318 a_this 5).toNat = I318 a_this 6 ∧ (((I84 a_this 6 = 0 ∨ I84 a_this 6 = 1) ∧ I318 a_this 5 = I84 a_this 5 ∧ I318 a_this 6 = I84 a_this 6) ∨ (I318 a_this 5 = I84 a_this 5 + 1)) := hp313a
      obtain ⟨hp313a_0, hp313a_1, hp313a_2⟩ := hp313a
      obtain ⟨x324, e325⟩ : ∃ v, I318 a_this 5 = v := ⟨_, rfl⟩
      obtain ⟨x326, e327⟩ : ∃ v, I318 a_this 6 = v := ⟨_, rfl⟩
      have nz328 : g_S (x324).toNat = x326 := by have h9 := hp313a_1; rw [e325, e327] at h9; exact h9
      replace hor : OTR T I R I318 R75 g_ru := OTR.step hor hC0 hW0.2.2.2.2 hFt hFc323 (fun _ _ => nm0) (by decide)
      clear hFt hMt
      refine lv_aload_n B.1 B.2.1 dX6_readRule_62 rfl (lv_at hl 2 rfl) ?_
      refine q_con B dX6_readRule_63 ?_
      have hFt := hF
      have hMt := hM
      have hv329 : ((0 : Int) ≤ 1 ∧ (1 : Int) ≤ 1) ∧ (TKz g_S g_n) ∧ (I318 a_this 5 ≤ g_n) := by first | omega | exact ⟨by first | omega | assumption | exact trivial, by first | omega | assumption | exact trivial, by first | omega | assumption | exact trivial⟩
      refine z_calli hM hA (c_runV (n := 1) (as := [.int (II 1)]) (rest := []) B hX hA hM hl.1 t83 kd7 rfl (k_X6_readSteps l D dA eA L70 T71 N72 I318 J319 R75 a_this t83 (1) hv329.1 g_t g_s g_S g_n (show R75 a_this 3 = g_t + 1 from e305) (show T71 g_t = 3 from t307) (show R75 g_t 0 = g_s + 1 from e306) (show T71 g_s = 62 from t308) (show I318 g_s = g_S from ((Fr.irow hF p_3 (by decide) nm0 (by decide)).trans p_4)) hv329.2.1 hv329.2.2 (show g_S (I318 a_this 5).toNat = I318 a_this 6 from by rw [e325, e327]; first | assumption | omega) _ _) ml_X6_153 nm_X6_readSteps ⟨rfl, rfl⟩ ⟨Nat.le_of_ble_eq_true rfl, Nat.le_of_ble_eq_true rfl⟩ dX6_readRule_64 rfl rfl (Nat.le_of_ble_eq_true rfl) ⟨by show 0 + 1 + dz49 + dz76 + 0 ≤ 8; omega, by show 0 + 11 + dl50 + dl77 + 0 ≤ 211; omega⟩) (fun x331 ix331 L332 T333 N334 I335 J336 R337 dz338 dl339 H locs hp330 hMn => ?_)
      obtain ⟨yL332, yT333, yN334, yR337, hFc340, hp330a⟩ := hp330
      obtain rfl := yL332.symm; obtain rfl := yT333.symm; obtain rfl := yN334.symm; obtain rfl := yR337.symm
      replace hF : Fr mo_X6_readRulec [] T N I J R T71 N72 I335 J336 R75 := hF.trans hFc340 (by decide) e20
      have hM := hMn
      clear hMn
      replace hp330a : (0 : Int) ≤ x331 ∧ x331 ≤ 1 ∧ (I335 a_this 5 ≤ g_n ∧ g_S (I335 a_this 5).toNat = I335 a_this 6 ∧ I318 a_this 5 ≤ I335 a_this 5 ∧ ((x331 = 0 ∧ I335 a_this 1 ≠ 0) ∨ (x331 = 1 ∧ I335 a_this 1 = I318 a_this 1 ∧ I318 a_this 5 + 0 ≤ I335 a_this 5))) := hp330a
      obtain ⟨hp330a_0, hp330a_1, hp330a_2⟩ := hp330a
      obtain ⟨hp330a_2_0, hp330a_2_1, hp330a_2_2, hp330a_2_3⟩ := hp330a_2
      obtain ⟨x341, e342⟩ : ∃ v, I335 a_this 5 = v := ⟨_, rfl⟩
      obtain ⟨x343, e344⟩ : ∃ v, I335 a_this 6 = v := ⟨_, rfl⟩
      have nz345 : g_S (x341).toNat = x343 := by have h9 := hp330a_2_1; rw [e342, e344] at h9; exact h9
      have e346 : I46 a_this 1 = x28 := (hFc51.i t52 (by decide) (nm1 (tne t52 t38 (by decide))) rfl).trans e29
      have e347 : I73 a_this 1 = x28 := (hFc78.i t58 (by decide) nm0 rfl).trans e346
      have e348 : I84 a_this 1 = x28 := (w2_ne hu85 (Or.inr (by decide))).trans e347
      have e349 : I318 a_this 1 = x28 := (hFc323.i t83 (by decide) nm0 rfl).trans e348
      obtain ⟨x350, e351⟩ : ∃ v, I335 a_this 1 = v := ⟨_, rfl⟩
      replace hor : OTR T I R I335 R75 g_ru := OTR.step hor hC0 hW0.2.2.2.2 hFt hFc340 (fun _ _ => nm0) (by decide)
      clear hFt hMt
      refine q_ine (tgt := 72) B dX6_readRule_67 (by decide) (by unfold inr; omega) (fun c352 => ?_) (fun c352 => ?_)
      · have hv353 : (I a_this 5 + 2 ≤ I335 a_this 5) ∧ (I335 a_this 5 ≤ g_n) ∧ (I335 a_this 1 = I a_this 1) := by first | omega | exact ⟨by first | omega | assumption | exact trivial, by first | omega | assumption | exact trivial, by first | omega | assumption | exact trivial⟩
        exact JJ72 I335 J336 _ _ ls hM hF (lv_sub hl [0, 1, 2] rfl) hv353.1 hv353.2.1 (by rw [e342, e344]; first | assumption | omega) hv353.2.2 (by exact hor)
      · refine q_con B dX6_readRule_70 ?_
        refine g_zret B hM dX6_readRule_71 ⟨by show 0 + 1 + dz49 + dz76 ≤ 8; omega, by show 0 + 11 + dl50 + dl77 ≤ 211; omega⟩ (by omega) (by omega) ?_
        rw [← hPST]
        exact ⟨(0), rfl, by omega, hF, by omega, by omega, by first | omega | assumption | exact trivial, by show g_S (I335 a_this 5).toNat = I335 a_this 6; rw [e342, e344]; first | assumption | omega, by first | omega | assumption | exact trivial, by first | omega | assumption | exact trivial, by first | omega | assumption | exact trivial, by first | omega | assumption | exact trivial, by first | omega | assumption | exact trivial, by first | omega | assumption | exact trivial, by exact hor⟩
  · refine q_con B dX6_readRule_22 ?_
    refine g_zret B hM dX6_readRule_23 ⟨by show 0 ≤ 8; omega, by show 0 ≤ 211; omega⟩ (by omega) (by omega) ?_
    rw [← hPST]
    exact ⟨(0), rfl, by omega, hF, by omega, by omega, by first | omega | assumption | exact trivial, by show g_S (I17 a_this 5).toNat = I17 a_this 6; rw [e24, e26]; first | assumption | omega, by first | omega | assumption | exact trivial, by first | omega | assumption | exact trivial, by first | omega | assumption | exact trivial, by first | omega | assumption | exact trivial, by first | omega | assumption | exact trivial, by first | omega | assumption | exact trivial, by exact hor⟩
