def mo_X4_settle : List Nat := [672, 673, 674, 1792, 325, 2560, 129]
set_option maxHeartbeats 1000000 in
set_option maxRecDepth 20000 in
theorem k_X4_settle (l : Launch) (D : va_G) (dA : Nat → ClassId) (eA : Nat) (L : List Nat) (T N : Nat → Nat) (I : Nat → Nat → Int) (J : Nat → Nat → Int64) (R : Nat → Nat → Nat) (a_this : Nat) (t_this : T a_this = 4) (a_use : Nat) (t_use : T a_use = 9) (a_row : Nat) (t_row : T a_row = 83) (g_bk : Nat) (g_k : Nat) (g_sp : Nat) (g_h : Nat) (p_0 : R a_this 2 = g_bk + 1) (p_1 : T g_bk = 6) (p_2 : R a_this 3 = g_k + 1) (p_3 : T g_k = 11) (p_4 : R a_this 4 = g_sp + 1) (p_5 : T g_sp = 10) (p_6 : R g_sp 4 = g_h + 1) (p_7 : T g_h = 21) : GC l yX4_settle cX4_settle 5 none ({ frames := 7, cells := 3, slots := 74, locals := 241 }) D dA eA L T N I J R [.ref a_this, .ref a_use, .ref a_row] 3 74 (gV (fun L' T' N' I' J' R' dz dl => J' = J ∧ Fr mo_X4_settle [] T N I J R T' N' I' J' R' ∧ I g_h 2 ≤ I' g_h 2 ∧ I' g_h 2 ≤ 40 ∧ (dz : Int) ≤ 1 + 2 * (I' g_h 2 - I g_h 2) ∧ (dl : Int) + 3 * ((N (R g_h 1 - 1) : Nat) : Int) ≤ 3 + 13 * (I' g_h 2 - I g_h 2) + 3 * ((N' (R' g_h 1 - 1) : Nat) : Int) ∧ dz ≤ 3 ∧ dl ≤ 74)) := by
  generalize hPST : (gV (fun L' T' N' I' J' R' dz dl => J' = J ∧ Fr mo_X4_settle [] T N I J R T' N' I' J' R' ∧ I g_h 2 ≤ I' g_h 2 ∧ I' g_h 2 ≤ 40 ∧ (dz : Int) ≤ 1 + 2 * (I' g_h 2 - I g_h 2) ∧ (dl : Int) + 3 * ((N (R g_h 1 - 1) : Nat) : Int) ≤ 3 + 13 * (I' g_h 2 - I g_h 2) + 3 * ((N' (R' g_h 1 - 1) : Nat) : Int) ∧ dz ≤ 3 ∧ dl ≤ 74)) = PST
  refine g_enter (own := RX4) (by decide) rfl (Nat.le_of_ble_eq_true rfl) (fun p e s m args below meth c ls hm B hX hM hl => ?_)
  have hC0 := hM.2.2.2.2.2.2.1
  have hW0 := hM.2.2.2
  have hF : Fr mo_X4_settle [] T N I J R T N I J R := Fr.rf
  have hA : ∀ q, s.heap.size ≤ q → cF dA L T N I J R s.heap.size q := fun q h => Or.inr h
  have hl : lv_has ls 5 [(0, .ref a_this), (1, .ref a_use), (2, .ref a_row)] := hl
  obtain ⟨v1, e2⟩ : ∃ v, R g_h 1 = v := ⟨_, rfl⟩
  obtain ⟨x3, e4⟩ : ∃ v, I g_h 2 = v := ⟨_, rfl⟩
  have r5 : (0 : Int) ≤ x3 ∧ x3 ≤ 40 := by rw [← e4]; exact g21_2 hM.2.2.2.2.2.2.1 p_7
  refine lv_null B.1 B.2.1 dX4_settle_0 ?_
  refine lv_astore_nN (lv' := [(3, .null), (0, .ref a_this), (1, .ref a_use), (2, .ref a_row)]) B.1 B.2.1 dX4_settle_1 rfl hl (by decide) rfl (fun ls hl => ?_)
  refine q_con B dX4_settle_2 ?_
  refine lv_istore (lv' := [(4, .int (II 0)), (3, .null), (0, .ref a_this), (1, .ref a_use), (2, .ref a_row)]) B.1 B.2.1 dX4_settle_3 hl (by decide) rfl (fun ls hl => ?_)
  refine lv_aload_n B.1 B.2.1 dX4_settle_5 rfl (lv_at hl 3 rfl) ?_
  obtain ⟨x6, e7⟩ : ∃ v, I a_use 0 = v := ⟨_, rfl⟩
  have r8 : (-2147483648 : Int) ≤ x6 ∧ x6 ≤ 2147483647 := by rw [← e7]; exact g9_0 hM.2.2.2.2.2.2.1 t_use
  refine c_geti (k := 0) pk_X10 B hM t_use kd9 rfl (by decide) fl_X4_97 dX4_settle_6 e7 ?_
  refine q_sip B dX4_settle_9 (by decide) ?_
  refine q_clt (tgt := 21) B dX4_settle_12 (by decide) (by unfold inr; omega) (by unfold inr; omega) (fun c9 => ?_) (fun c9 => ?_)
  · refine lv_aload_n B.1 B.2.1 dX4_settle_21 rfl (lv_at hl 3 rfl) ?_
    refine c_geti (k := 0) pk_X10 B hM t_use kd9 rfl (by decide) fl_X4_97 dX4_settle_22 e7 ?_
    refine lv_aload_n B.1 B.2.1 dX4_settle_25 rfl (lv_at hl 2 rfl) ?_
    refine c_getn (k := 4) pk_X4 B hM t_this kd4 rfl (by decide) fl_X4_64 dX4_settle_26 p_4 ?_
    obtain ⟨x10, e11⟩ : ∃ v, I g_sp 1 = v := ⟨_, rfl⟩
    have r12 : (-2147483648 : Int) ≤ x10 ∧ x10 ≤ 2147483647 := by rw [← e11]; exact g10_1 hM.2.2.2.2.2.2.1 p_5
    refine c_geti (k := 1) pk_X8 B hM p_5 kd10 rfl (by decide) fl_X4_143 dX4_settle_29 e11 ?_
    have hv13 : ((-2147483648 : Int) ≤ x6 ∧ (x6 : Int) ≤ 2147483647) ∧ ((-2147483648 : Int) ≤ x10 ∧ (x10 : Int) ≤ 2147483647) := by first | omega | exact ⟨by first | omega | assumption | exact trivial, by first | omega | assumption | exact trivial⟩
    refine p_calli (c_runS (n := 2) (as := [.int (II x6), .int (II x10)]) (rest := []) B hX hA hM hl.1 (k_X4_fitsType l D dA eA L T N I J R x6 hv13.1 x10 hv13.2 _ _) ml_X4_146 nm_X4_fitsType ⟨rfl, rfl⟩ ⟨Nat.le_of_ble_eq_true rfl, Nat.le_of_ble_eq_true rfl⟩ dX4_settle_32 rfl rfl (Nat.le_of_ble_eq_true rfl) ⟨by show 0 + 0 ≤ 3; omega, by show 0 + 0 ≤ 74; omega⟩) (fun x15 ix15 hp14 => ?_)
    have hp14a := hp14
    replace hp14a : (0 : Int) ≤ x15 ∧ x15 ≤ 1 ∧ (True) := hp14a
    obtain ⟨hp14a_0, hp14a_1, hp14a_2⟩ := hp14a
    refine q_ine (tgt := 44) B dX4_settle_35 (by decide) (by unfold inr; omega) (fun c16 => ?_) (fun c16 => ?_)
    · have JJ62 : ∀  (H : Heap) (locs : List Loc) (ls : Array Slot), (CWd D dA eA (cF dA L T N I J R s.heap.size) s.heap L T N I J R H locs) → lv_has ls 5 [(4, .int (II 0)), (3, .null), (0, .ref a_this), (1, .ref a_use), (2, .ref a_row)] → W p l e ({ frames := 7, cells := 3, slots := 74, locals := 241 }) s m args below meth c H locs 0 0 (MQ below (gQ D dA eA (cF dA L T N I J R s.heap.size) s.heap.size (hs s.heap) PST) args s 3 74 (cF dA L T N I J R s.heap.size)) (F0 m 62 ls []) := by
        intro  H locs ls hM hl 
        have JJ84 : ∀ (s84_0 : Nat) (L_84 : List Nat) (T_84 : Nat → Nat) (N_84 : Nat → Nat) (I_84 : Nat → Nat → Int) (zc84 zs84 : Nat) (H : Heap) (locs : List Loc) (ls : Array Slot), (CWd D dA eA (cF dA L T N I J R s.heap.size) s.heap L_84 T_84 N_84 I_84 J R H locs) → (Fr mo_X4_settle [] T N I J R T_84 N_84 I_84 J R) → lv_has ls 5 [(4, .int (II 0)), (3, .null), (0, .ref a_this), (1, .ref a_use), (2, .ref a_row)] → (s84_0 = 0 ∨ ∃ b, s84_0 = b + 1 ∧ T_84 b = 77) → ((zc84 : Int) ≤ 1) → ((zs84 : Int) ≤ 3) → (I_84 g_h 2 = I g_h 2) → W p l e ({ frames := 7, cells := 3, slots := 74, locals := 241 }) s m args below meth c H locs zc84 zs84 (MQ below (gQ D dA eA (cF dA L T N I J R s.heap.size) s.heap.size (hs s.heap) PST) args s 3 74 (cF dA L T N I J R s.heap.size)) (F0 m 84 ls [cv s84_0]) := by
          intro s84_0 L_84 T_84 N_84 I_84 zc84 zs84 H locs ls hM hF hl hJJ84_0 hJJ84_1 hJJ84_2 hJJ84_3
          refine c_astore_n (lv' := [(3, cv s84_0), (4, .int (II 0)), (0, .ref a_this), (1, .ref a_use), (2, .ref a_row)]) B dX4_settle_84 rfl hl (by decide) (by first | rfl | simp [cv_cat]) (fun ls hl => ?_)
          refine c_aload_n B dX4_settle_85 rfl (lv_at hl 0 rfl) ?_
          rcases hJJ84_0 with rfl | ⟨b17, rfl, t18⟩
          · have hl : lv_has ls 5 [(3, .null), (4, .int (II 0)), (0, .ref a_this), (1, .ref a_use), (2, .ref a_row)] := hl
            refine lv_ifnonnullN B.1 B.2.1 dX4_settle_86 ?_
            refine q_con B dX4_settle_89 ?_
            refine lv_goto (tgt := 94) B.1 B.2.1 dX4_settle_90 (by decide) ?_
            refine lv_istore (lv' := [(4, .int (II 3)), (3, .null), (0, .ref a_this), (1, .ref a_use), (2, .ref a_row)]) B.1 B.2.1 dX4_settle_94 hl (by decide) rfl (fun ls hl => ?_)
            refine lv_goto (tgt := 109) B.1 B.2.1 dX4_settle_96 (by decide) ?_
            refine lv_iload B.1 B.2.1 dX4_settle_109 (lv_at hl 0 rfl) ?_
            refine q_ieq (tgt := 127) B dX4_settle_111 (by decide) (by unfold inr; omega) (fun c19 => absurd c19 (by omega)) (fun c19 => ?_)
            refine lv_aload_n B.1 B.2.1 dX4_settle_114 rfl (lv_at hl 2 rfl) ?_
            refine lv_iload B.1 B.2.1 dX4_settle_115 (lv_at hl 0 rfl) ?_
            refine lv_aload_n B.1 B.2.1 dX4_settle_117 rfl (lv_at hl 3 rfl) ?_
            have t20 : T_84 a_use = 9 := hF.tt t_use (by decide) nm0
            have e21 : I_84 a_use 0 = x6 := (hF.i t_use (by decide) nm0 rfl).trans e7
            refine c_geti (k := 0) pk_X10 B hM t20 kd9 rfl (by decide) fl_X4_97 dX4_settle_118 e21 ?_
            have t22 : T_84 a_this = 4 := hF.tt t_this (by decide) nm0
            have t23 : T_84 g_k = 11 := hF.tt p_3 (by decide) nm0
            have hv24 : ((-2147483648 : Int) ≤ 3 ∧ (3 : Int) ≤ 2147483647) ∧ ((-2147483648 : Int) ≤ x6 ∧ (x6 : Int) ≤ 2147483647) := by first | omega | exact ⟨by first | omega | assumption | exact trivial, by first | omega | assumption | exact trivial⟩
            refine z_callv hM hA (c_runV (n := 2) (as := [.int (II 3), .int (II x6)]) (rest := []) B hX hA hM hl.1 t22 kd4 rfl (k_X4_keepMisuse l D dA eA L_84 T_84 N_84 I_84 J R a_this t22 (3) hv24.1 x6 hv24.2 g_k (show R a_this 3 = g_k + 1 from p_2) (show T_84 g_k = 11 from t23) _ _) ml_X4_161 nm_X4_keepMisuse ⟨rfl, rfl⟩ ⟨Nat.le_of_ble_eq_true rfl, Nat.le_of_ble_eq_true rfl⟩ dX4_settle_121 rfl rfl (Nat.le_of_ble_eq_true rfl) ⟨by show zc84 + 0 ≤ 3; omega, by show zs84 + 0 ≤ 74; omega⟩) (fun L27 T28 N29 I30 J31 R32 dz33 dl34 H locs hp25 hMn => ?_)
            obtain ⟨yL27, yT28, yN29, yJ31, yR32, hFc35, hp25a⟩ := hp25
            obtain rfl := yL27.symm; obtain rfl := yT28.symm; obtain rfl := yN29.symm; obtain rfl := yJ31.symm; obtain rfl := yR32.symm
            replace hF : Fr mo_X4_settle [] T N I J R T_84 N_84 I30 J R := hF.trans hFc35 (by decide) e20
            have hM := hMn
            clear hMn
            clear hp25a
            refine lv_goto (tgt := 189) B.1 B.2.1 dX4_settle_124 (by decide) ?_
            have hnn : N_84 (R g_h 1 - 1) = N (R g_h 1 - 1) := edN2 hC0 p_7 (by decide) (by decide) hF rfl
            have t36 : T_84 g_h = 21 := hF.tt p_7 (by decide) nm0
            have e37 : I30 g_h 2 = I g_h 2 := (hFc35.i t36 (by decide) nm0 rfl).trans hJJ84_3
            refine g_vret B hM dX4_settle_189 ⟨by show zc84 ≤ 3; omega, by show zs84 ≤ 74; omega⟩ ?_
            rw [← hPST]
            exact ⟨rfl, rfl, hF, by first | omega | assumption | exact trivial, by first | omega | assumption | exact trivial, by first | omega | assumption | exact trivial, by first | omega | assumption | exact trivial, by first | omega | assumption | exact trivial, by first | omega | assumption | exact trivial⟩
          · have hl : lv_has ls 5 [(3, .ref b17), (4, .int (II 0)), (0, .ref a_this), (1, .ref a_use), (2, .ref a_row)] := hl
            refine lv_ifnonnull (tgt := 93) B.1 B.2.1 dX4_settle_86 (by decide) ?_
            refine q_con B dX4_settle_93 ?_
            refine lv_istore (lv' := [(4, .int (II 0)), (3, .ref b17), (0, .ref a_this), (1, .ref a_use), (2, .ref a_row)]) B.1 B.2.1 dX4_settle_94 hl (by decide) rfl (fun ls hl => ?_)
            refine lv_goto (tgt := 109) B.1 B.2.1 dX4_settle_96 (by decide) ?_
            refine lv_iload B.1 B.2.1 dX4_settle_109 (lv_at hl 0 rfl) ?_
            refine q_ieq (tgt := 127) B dX4_settle_111 (by decide) (by unfold inr; omega) (fun c38 => ?_) (fun c38 => absurd c38 (by omega))
            refine lv_aload_n B.1 B.2.1 dX4_settle_127 rfl (lv_at hl 2 rfl) ?_
            have t39 : T_84 a_this = 4 := hF.tt t_this (by decide) nm0
            refine c_getn (k := 4) pk_X4 B hM t39 kd4 rfl (by decide) fl_X4_64 dX4_settle_128 p_4 ?_
            have t40 : T_84 g_sp = 10 := hF.tt p_5 (by decide) nm0
            refine c_getn (k := 4) pk_X8 B hM t40 kd10 rfl (by decide) fl_X4_165 dX4_settle_131 p_6 ?_
            have t41 : T_84 g_h = 21 := hF.tt p_7 (by decide) nm0
            have hv42 : (15 ≤ 21) ∧ (21 ≤ 23) := by first | omega | exact ⟨by first | omega | assumption | exact trivial, by first | omega | assumption | exact trivial⟩
            refine p_calli (c_runV (n := 0) (as := []) (rest := []) B hX hA hM hl.1 t41 kd21 rfl (k_Jx4a65c_size_8abf5 l D dA eA L_84 T_84 N_84 I_84 J R g_h t41 hv42.1 hv42.2 _ _) ml_X4_40 nm_Jx4a65c_size_8abf5 ⟨rfl, rfl⟩ ⟨Nat.le_of_ble_eq_true rfl, Nat.le_of_ble_eq_true rfl⟩ dX4_settle_134 rfl rfl (Nat.le_of_ble_eq_true rfl) ⟨by show zc84 + 0 ≤ 3; omega, by show zs84 + 0 ≤ 74; omega⟩) (fun x44 ix44 hp43 => ?_)
            have hp43a := hp43
            replace hp43a : I_84 g_h 2 = x44 ∧ 0 ≤ x44 ∧ x44 ≤ 40 := hp43a
            obtain ⟨hp43a_0, hp43a_1, hp43a_2⟩ := hp43a
            refine q_bip B dX4_settle_137 (by decide) ?_
            refine q_cge (tgt := 189) B dX4_settle_139 (by decide) (by unfold inr; omega) (by unfold inr; omega) (fun c45 => ?_) (fun c45 => ?_)
            · have hnn : N_84 (R g_h 1 - 1) = N (R g_h 1 - 1) := edN2 hC0 p_7 (by decide) (by decide) hF rfl
              refine g_vret B hM dX4_settle_189 ⟨by show zc84 ≤ 3; omega, by show zs84 ≤ 74; omega⟩ ?_
              rw [← hPST]
              exact ⟨rfl, rfl, hF, by first | omega | assumption | exact trivial, by first | omega | assumption | exact trivial, by first | omega | assumption | exact trivial, by first | omega | assumption | exact trivial, by first | omega | assumption | exact trivial, by first | omega | assumption | exact trivial⟩
            · refine lv_aload_n B.1 B.2.1 dX4_settle_142 rfl (lv_at hl 2 rfl) ?_
              refine c_getn (k := 4) pk_X4 B hM t39 kd4 rfl (by decide) fl_X4_64 dX4_settle_143 p_4 ?_
              refine c_getn (k := 4) pk_X8 B hM t40 kd10 rfl (by decide) fl_X4_165 dX4_settle_146 p_6 ?_
              refine lv_aload_n B.1 B.2.1 dX4_settle_149 rfl (lv_at hl 3 rfl) ?_
              refine lv_aload_n B.1 B.2.1 dX4_settle_150 rfl (lv_at hl 4 rfl) ?_
              refine lv_aload_n B.1 B.2.1 dX4_settle_151 rfl (lv_at hl 1 rfl) ?_
              have t46 : T_84 a_use = 9 := hF.tt t_use (by decide) nm0
              have t47 : T_84 a_row = 83 := hF.tt t_row (by decide) nm0
              refine g_callr hM hA (c_runS (n := 3) (as := [.ref a_use, .ref a_row, cv (b17 + 1)]) (rest := [.ref g_h]) B hX hA hM hl.1 (k_X4_hold l D dA eA L_84 T_84 N_84 I_84 J R a_use t46 a_row t47 (b17 + 1) (Or.inr ⟨_, rfl, t18⟩) _ _) ml_X4_168 nm_X4_hold ⟨rfl, rfl⟩ ⟨Nat.le_of_ble_eq_true rfl, Nat.le_of_ble_eq_true rfl⟩ dX4_settle_152 rfl rfl (Nat.le_of_ble_eq_true rfl) ⟨by show zc84 + 1 ≤ 3; omega, by show zs84 + 11 ≤ 74; omega⟩) (fun b49 L50 T51 N52 I53 J54 R55 dz56 dl57 H locs hp48 hMn => ?_)
              obtain ⟨yJ54, hFc58, tb49, hp48a⟩ := hp48
              obtain rfl := yJ54.symm
              have t59 : T_84 g_bk = 6 := hF.tt p_1 (by decide) nm0
              have t60 : T_84 g_k = 11 := hF.tt p_3 (by decide) nm0
              replace hF : Fr mo_X4_settle [] T N I J R T51 N52 I53 J R55 := hF.trans hFc58 (by decide) e20
              have hM := hMn
              clear hMn
              replace hp48a : dz56 ≤ 1 ∧ dl57 ≤ 11 := hp48a
              obtain ⟨hp48a_0, hp48a_1⟩ := hp48a
              have e61 : R55 g_h 1 = v1 := (hFc58.r t41 (by decide) nm0 rfl).trans e2
              have hnn : N52 (R55 g_h 1 - 1) = N (R g_h 1 - 1) := edN2 hC0 p_7 (by decide) (by decide) hF (e61.trans e2.symm)
              have t62 : T51 g_h = 21 := hF.tt p_7 (by decide) nm0
              have e63 : I53 g_h 2 = x44 := (hFc58.i t41 (by decide) nm0 rfl).trans hp43a_0
              obtain ⟨x64, e65⟩ : ∃ v, I53 b49 0 = v := ⟨_, rfl⟩
              have hv66 : (15 ≤ 21) ∧ (21 ≤ 23) ∧ (I53 g_h 2 < 40) ∧ (21 = 18 → I53 b49 0 ≤ I53 g_h 2) := by first | omega | exact ⟨by first | omega | assumption | exact trivial, by first | omega | assumption | exact trivial, by first | omega | assumption | exact trivial, by first | omega | assumption | exact trivial⟩
              refine g_calli hM hA (c_runV (n := 1) (as := [.ref b49]) (rest := []) B hX hA hM hl.1 t62 kd21 rfl (k_Jx4a65c_add_9ea2d l D dA eA L50 T51 N52 I53 J R55 g_h t62 b49 tb49 hv66.1 hv66.2.1 hv66.2.2.1 hv66.2.2.2 _ _) ml_X4_172 nm_Jx4a65c_add_9ea2d ⟨rfl, rfl⟩ ⟨Nat.le_of_ble_eq_true rfl, Nat.le_of_ble_eq_true rfl⟩ dX4_settle_155 rfl rfl (Nat.le_of_ble_eq_true rfl) ⟨by show zc84 + dz56 + 1 ≤ 3; omega, by show zs84 + dl57 + 60 ≤ 74; omega⟩) (fun x68 ix68 L69 T70 N71 I72 J73 R74 dz75 dl76 H locs hp67 hMn => ?_)
              obtain ⟨yJ73, hFc77, hp67a⟩ := hp67
              obtain rfl := yJ73.symm
              have t78 : T51 a_this = 4 := hF.tt t_this (by decide) nm0
              have t79 : T51 a_use = 9 := hF.tt t_use (by decide) nm0
              have t80 : T51 a_row = 83 := hF.tt t_row (by decide) nm0
              have t81 : T51 g_bk = 6 := hF.tt p_1 (by decide) nm0
              have t82 : T51 g_k = 11 := hF.tt p_3 (by decide) nm0
              have t83 : T51 g_sp = 10 := hF.tt p_5 (by decide) nm0
              have t84 : T51 b17 = 77 := hFc58.tt t18 (by decide) nm0
              replace hF : Fr mo_X4_settle [] T N I J R T70 N71 I72 J R74 := hF.trans hFc77 (by decide) e20
              have hM := hMn
              clear hMn
              replace hp67a : (0 : Int) ≤ x68 ∧ x68 ≤ 1 ∧ (I72 g_h 2 = I53 g_h 2 + 1 ∧ R74 (R74 g_h 1 - 1) (I53 g_h 2).toNat = b49 + 1 ∧ (∀ i : Nat, (i : Int) < I53 g_h 2 → R74 (R74 g_h 1 - 1) i = R55 (R55 g_h 1 - 1) i) ∧ (∀ b, T51 b = 21 → b ≠ g_h → I72 b 2 = I53 b 2) ∧ dz75 ≤ 1 ∧ dl76 ≤ 60 ∧ dl76 + 3 * N52 (R55 g_h 1 - 1) ≤ 3 * N71 (R74 g_h 1 - 1) + 2) := hp67a
              obtain ⟨hp67a_0, hp67a_1, hp67a_2⟩ := hp67a
              obtain ⟨hp67a_2_0, hp67a_2_1, hp67a_2_2, hp67a_2_3, hp67a_2_4, hp67a_2_5, hp67a_2_6⟩ := hp67a_2
              obtain ⟨v85, e86⟩ : ∃ v, R74 g_h 1 = v := ⟨_, rfl⟩
              refine lv_pop B.1 B.2.1 dX4_settle_158 rfl ?_
              refine lv_aload_n B.1 B.2.1 dX4_settle_159 rfl (lv_at hl 2 rfl) ?_
              have t87 : T70 a_this = 4 := hF.tt t_this (by decide) nm0
              have e88 : R74 a_this 4 = g_sp + 1 := (hF.r t_this (by decide) nm0 rfl).trans p_4
              refine c_getn (k := 4) pk_X4 B hM t87 kd4 rfl (by decide) fl_X4_64 dX4_settle_160 e88 ?_
              refine lv_aload_n B.1 B.2.1 dX4_settle_163 rfl (lv_at hl 2 rfl) ?_
              refine c_getn (k := 4) pk_X4 B hM t87 kd4 rfl (by decide) fl_X4_64 dX4_settle_164 e88 ?_
              have t89 : T70 g_sp = 10 := hF.tt p_5 (by decide) nm0
              obtain ⟨x90, e91⟩ : ∃ v, I72 g_sp 5 = v := ⟨_, rfl⟩
              have r92 : (0 : Int) ≤ x90 ∧ x90 ≤ 1 := by rw [← e91]; exact g10_5 hM.2.2.2.2.2.2.1 t89
              refine c_geti (k := 5) pk_X8 B hM t89 kd10 rfl (by decide) fl_X4_176 dX4_settle_167 e91 ?_
              have JJ186 : ∀ (s186_0 : Int) (H : Heap) (locs : List Loc) (ls : Array Slot), (CWd D dA eA (cF dA L T N I J R s.heap.size) s.heap L69 T70 N71 I72 J R74 H locs) → lv_has ls 5 [(4, .int (II 0)), (3, .ref b17), (0, .ref a_this), (1, .ref a_use), (2, .ref a_row)] → ((-2147483648 : Int) ≤ s186_0 ∧ s186_0 ≤ 2147483647) → (0 ≤ s186_0) → (s186_0 ≤ 1) → W p l e ({ frames := 7, cells := 3, slots := 74, locals := 241 }) s m args below meth c H locs (zc84 + dz56 + dz75) (zs84 + dl57 + dl76) (MQ below (gQ D dA eA (cF dA L T N I J R s.heap.size) s.heap.size (hs s.heap) PST) args s 3 74 (cF dA L T N I J R s.heap.size)) (F0 m 186 ls [.int (II s186_0), .ref g_sp]) := by
                intro s186_0 H locs ls hM hl hJJ186_0 hJJ186_1 hJJ186_2
                refine c_puti (k := 5) pk_X8 B hM t89 kd10 rfl (by decide) fl_X4_176 (Or.inl rfl) dX4_settle_186 rfl (narZ (by omega)) (fitZ (by omega)) (show (0 : Int) ≤ s186_0 from by omega) (show s186_0 ≤ (1 : Int) from by omega) (fun I93 H locs hu94 hM => ?_)
                have e95 : I93 g_sp 5 = s186_0 := w2_at hu94
                replace hF : Fr mo_X4_settle [] T N I J R T70 N71 I93 J R74 := hF.wi hu94 (fun _ _ => by rw [p_5]; rfl)
                have t96 : T70 g_h = 21 := hF.tt p_7 (by decide) nm0
                have e97 : I93 g_h 2 = I53 g_h 2 + 1 := (w2_ne hu94 (Or.inl (tne t96 t89 (by decide)))).trans hp67a_2_0
                refine g_vret B hM dX4_settle_189 ⟨by show zc84 + dz56 + dz75 ≤ 3; omega, by show zs84 + dl57 + dl76 ≤ 74; omega⟩ ?_
                rw [← hPST]
                exact ⟨rfl, rfl, hF, by first | omega | assumption | exact trivial, by first | omega | assumption | exact trivial, by first | omega | assumption | exact trivial, by first | omega | assumption | exact trivial, by first | omega | assumption | exact trivial, by first | omega | assumption | exact trivial⟩
              refine q_ine (tgt := 181) B dX4_settle_170 (by decide) (by unfold inr; omega) (fun c98 => ?_) (fun c98 => ?_)
              · refine q_con B dX4_settle_181 ?_
                refine lv_goto (tgt := 186) B.1 B.2.1 dX4_settle_182 (by decide) ?_
                have hv99 : ((-2147483648 : Int) ≤ 1 ∧ (1 : Int) ≤ 2147483647) ∧ (0 ≤ (1 : Int)) ∧ ((1 : Int) ≤ 1) := by first | omega | exact ⟨by first | omega | assumption | exact trivial, by first | omega | assumption | exact trivial, by first | omega | assumption | exact trivial⟩
                exact JJ186 1 _ _ ls hM (lv_sub hl [0, 1, 2, 3, 4] rfl) hv99.1 hv99.2.1 hv99.2.2
              · refine lv_aload_n B.1 B.2.1 dX4_settle_173 rfl (lv_at hl 3 rfl) ?_
                have t100 : T70 a_use = 9 := hF.tt t_use (by decide) nm0
                have e101 : I72 a_use 0 = x6 := (hF.i t_use (by decide) nm0 rfl).trans e7
                refine c_geti (k := 0) pk_X10 B hM t100 kd9 rfl (by decide) fl_X4_97 dX4_settle_174 e101 ?_
                refine q_con B dX4_settle_177 ?_
                refine q_cne (tgt := 185) B dX4_settle_178 (by decide) (by unfold inr; omega) (by unfold inr; omega) (fun c102 => ?_) (fun c102 => ?_)
                · refine q_con B dX4_settle_185 ?_
                  have hv103 : ((-2147483648 : Int) ≤ 0 ∧ (0 : Int) ≤ 2147483647) ∧ (0 ≤ (0 : Int)) ∧ ((0 : Int) ≤ 1) := by first | omega | exact ⟨by first | omega | assumption | exact trivial, by first | omega | assumption | exact trivial, by first | omega | assumption | exact trivial⟩
                  exact JJ186 0 _ _ ls hM (lv_sub hl [0, 1, 2, 3, 4] rfl) hv103.1 hv103.2.1 hv103.2.2
                · refine q_con B dX4_settle_181 ?_
                  refine lv_goto (tgt := 186) B.1 B.2.1 dX4_settle_182 (by decide) ?_
                  have hv104 : ((-2147483648 : Int) ≤ 1 ∧ (1 : Int) ≤ 2147483647) ∧ (0 ≤ (1 : Int)) ∧ ((1 : Int) ≤ 1) := by first | omega | exact ⟨by first | omega | assumption | exact trivial, by first | omega | assumption | exact trivial, by first | omega | assumption | exact trivial⟩
                  exact JJ186 1 _ _ ls hM (lv_sub hl [0, 1, 2, 3, 4] rfl) hv104.1 hv104.2.1 hv104.2.2
        refine lv_aload_n B.1 B.2.1 dX4_settle_62 rfl (lv_at hl 3 rfl) ?_
        refine c_geti (k := 0) pk_X10 B hM t_use kd9 rfl (by decide) fl_X4_97 dX4_settle_63 e7 ?_
        refine q_bip B dX4_settle_66 (by decide) ?_
        refine q_cne (tgt := 79) B dX4_settle_68 (by decide) (by unfold inr; omega) (by unfold inr; omega) (fun c105 => ?_) (fun c105 => ?_)
        · refine lv_aload_n B.1 B.2.1 dX4_settle_79 rfl (lv_at hl 2 rfl) ?_
          refine lv_aload_n B.1 B.2.1 dX4_settle_80 rfl (lv_at hl 3 rfl) ?_
          refine g_callq hM hA (c_runV (n := 1) (as := [.ref a_use]) (rest := []) B hX hA hM hl.1 t_this kd4 rfl (k_X4_membersOfTotal l D dA eA L T N I J R a_this t_this a_use t_use g_k g_bk (show R a_this 3 = g_k + 1 from p_2) (show T g_k = 11 from p_3) (show R a_this 2 = g_bk + 1 from p_0) (show T g_bk = 6 from p_1) _ _) ml_X4_154 nm_X4_membersOfTotal ⟨rfl, rfl⟩ ⟨Nat.le_of_ble_eq_true rfl, Nat.le_of_ble_eq_true rfl⟩ dX4_settle_81 rfl rfl (Nat.le_of_ble_eq_true rfl) ⟨by show 0 + 1 ≤ 3; omega, by show 0 + 3 ≤ 74; omega⟩) (fun v107 L108 T109 N110 I111 J112 R113 dz114 dl115 H locs hp106 hMn => ?_)
          obtain ⟨yJ112, yR113, hFc116, qv107, hp106a⟩ := hp106
          obtain rfl := yJ112.symm; obtain rfl := yR113.symm
          replace hF : Fr mo_X4_settle [] T N I J R T109 N110 I111 J R := hF.trans hFc116 (by decide) e20
          have hM := hMn
          clear hMn
          replace hp106a : dz114 ≤ 1 ∧ dl115 ≤ 3 := hp106a
          obtain ⟨hp106a_0, hp106a_1⟩ := hp106a
          have e117 : I111 g_h 2 = x3 := (hFc116.i p_7 (by decide) nm0 rfl).trans e4
          have hv118 : ((0 + dz114 : Int) ≤ 1) ∧ ((0 + dl115 : Int) ≤ 3) ∧ (I111 g_h 2 = I g_h 2) := by first | omega | exact ⟨by first | omega | assumption | exact trivial, by first | omega | assumption | exact trivial, by first | omega | assumption | exact trivial⟩
          exact JJ84 v107 L108 T109 N110 I111 (0 + dz114) (0 + dl115) _ _ ls hM hF (lv_sub hl [0, 1, 2, 3, 4] rfl) qv107 hv118.1 hv118.2.1 hv118.2.2
        · refine lv_aload_n B.1 B.2.1 dX4_settle_71 rfl (lv_at hl 2 rfl) ?_
          refine lv_aload_n B.1 B.2.1 dX4_settle_72 rfl (lv_at hl 3 rfl) ?_
          refine g_callq hM hA (c_runV (n := 1) (as := [.ref a_use]) (rest := []) B hX hA hM hl.1 t_this kd4 rfl (k_X4_membersOfBelow l D dA eA L T N I J R a_this t_this a_use t_use g_k (show R a_this 3 = g_k + 1 from p_2) (show T g_k = 11 from p_3) _ _) ml_X4_150 nm_X4_membersOfBelow ⟨rfl, rfl⟩ ⟨Nat.le_of_ble_eq_true rfl, Nat.le_of_ble_eq_true rfl⟩ dX4_settle_73 rfl rfl (Nat.le_of_ble_eq_true rfl) ⟨by show 0 + 1 ≤ 3; omega, by show 0 + 3 ≤ 74; omega⟩) (fun v120 L121 T122 N123 I124 J125 R126 dz127 dl128 H locs hp119 hMn => ?_)
          obtain ⟨yJ125, yR126, hFc129, qv120, hp119a⟩ := hp119
          obtain rfl := yJ125.symm; obtain rfl := yR126.symm
          replace hF : Fr mo_X4_settle [] T N I J R T122 N123 I124 J R := hF.trans hFc129 (by decide) e20
          have hM := hMn
          clear hMn
          replace hp119a : dz127 ≤ 1 ∧ dl128 ≤ 3 := hp119a
          obtain ⟨hp119a_0, hp119a_1⟩ := hp119a
          refine lv_goto (tgt := 84) B.1 B.2.1 dX4_settle_76 (by decide) ?_
          have e130 : I124 g_h 2 = x3 := (hFc129.i p_7 (by decide) nm0 rfl).trans e4
          have hv131 : ((0 + dz127 : Int) ≤ 1) ∧ ((0 + dl128 : Int) ≤ 3) ∧ (I124 g_h 2 = I g_h 2) := by first | omega | exact ⟨by first | omega | assumption | exact trivial, by first | omega | assumption | exact trivial, by first | omega | assumption | exact trivial⟩
          exact JJ84 v120 L121 T122 N123 I124 (0 + dz127) (0 + dl128) _ _ ls hM hF (lv_sub hl [0, 1, 2, 3, 4] rfl) qv120 hv131.1 hv131.2.1 hv131.2.2
      refine lv_aload_n B.1 B.2.1 dX4_settle_44 rfl (lv_at hl 3 rfl) ?_
      refine c_geti (k := 0) pk_X10 B hM t_use kd9 rfl (by decide) fl_X4_97 dX4_settle_45 e7 ?_
      refine q_bip B dX4_settle_48 (by decide) ?_
      refine q_ceq (tgt := 62) B dX4_settle_50 (by decide) (by unfold inr; omega) (by unfold inr; omega) (fun c132 => ?_) (fun c132 => ?_)
      · exact JJ62  _ _ ls hM (lv_sub hl [0, 1, 2, 3, 4] rfl)
      · refine lv_aload_n B.1 B.2.1 dX4_settle_53 rfl (lv_at hl 3 rfl) ?_
        refine c_geti (k := 0) pk_X10 B hM t_use kd9 rfl (by decide) fl_X4_97 dX4_settle_54 e7 ?_
        refine q_bip B dX4_settle_57 (by decide) ?_
        refine q_cne (tgt := 99) B dX4_settle_59 (by decide) (by unfold inr; omega) (by unfold inr; omega) (fun c133 => ?_) (fun c133 => ?_)
        · refine lv_aload_n B.1 B.2.1 dX4_settle_99 rfl (lv_at hl 3 rfl) ?_
          refine p_calli (c_runS (n := 1) (as := [.ref a_use]) (rest := []) B hX hA hM hl.1 (k_X4_fitsNumbers l D dA eA L T N I J R a_use t_use _ _) ml_X4_157 nm_X4_fitsNumbers ⟨rfl, rfl⟩ ⟨Nat.le_of_ble_eq_true rfl, Nat.le_of_ble_eq_true rfl⟩ dX4_settle_100 rfl rfl (Nat.le_of_ble_eq_true rfl) ⟨by show 0 + 0 ≤ 3; omega, by show 0 + 0 ≤ 74; omega⟩) (fun x135 ix135 hp134 => ?_)
          have hp134a := hp134
          replace hp134a : (0 : Int) ≤ x135 ∧ x135 ≤ 1 ∧ (True) := hp134a
          obtain ⟨hp134a_0, hp134a_1, hp134a_2⟩ := hp134a
          refine q_ine (tgt := 109) B dX4_settle_103 (by decide) (by unfold inr; omega) (fun c136 => ?_) (fun c136 => ?_)
          · refine lv_iload B.1 B.2.1 dX4_settle_109 (lv_at hl 0 rfl) ?_
            refine q_ieq (tgt := 127) B dX4_settle_111 (by decide) (by unfold inr; omega) (fun c137 => ?_) (fun c137 => absurd c137 (by omega))
            refine lv_aload_n B.1 B.2.1 dX4_settle_127 rfl (lv_at hl 2 rfl) ?_
            refine c_getn (k := 4) pk_X4 B hM t_this kd4 rfl (by decide) fl_X4_64 dX4_settle_128 p_4 ?_
            refine c_getn (k := 4) pk_X8 B hM p_5 kd10 rfl (by decide) fl_X4_165 dX4_settle_131 p_6 ?_
            have hv138 : (15 ≤ 21) ∧ (21 ≤ 23) := by first | omega | exact ⟨by first | omega | assumption | exact trivial, by first | omega | assumption | exact trivial⟩
            refine p_calli (c_runV (n := 0) (as := []) (rest := []) B hX hA hM hl.1 p_7 kd21 rfl (k_Jx4a65c_size_8abf5 l D dA eA L T N I J R g_h p_7 hv138.1 hv138.2 _ _) ml_X4_40 nm_Jx4a65c_size_8abf5 ⟨rfl, rfl⟩ ⟨Nat.le_of_ble_eq_true rfl, Nat.le_of_ble_eq_true rfl⟩ dX4_settle_134 rfl rfl (Nat.le_of_ble_eq_true rfl) ⟨by show 0 + 0 ≤ 3; omega, by show 0 + 0 ≤ 74; omega⟩) (fun x140 ix140 hp139 => ?_)
            have hp139a := hp139
            replace hp139a : I g_h 2 = x140 ∧ 0 ≤ x140 ∧ x140 ≤ 40 := hp139a
            obtain ⟨hp139a_0, hp139a_1, hp139a_2⟩ := hp139a
            refine q_bip B dX4_settle_137 (by decide) ?_
            refine q_cge (tgt := 189) B dX4_settle_139 (by decide) (by unfold inr; omega) (by unfold inr; omega) (fun c141 => ?_) (fun c141 => ?_)
            · have hnn : N (R g_h 1 - 1) = N (R g_h 1 - 1) := edN2 hC0 p_7 (by decide) (by decide) hF rfl
              refine g_vret B hM dX4_settle_189 ⟨by show 0 ≤ 3; omega, by show 0 ≤ 74; omega⟩ ?_
              rw [← hPST]
              exact ⟨rfl, rfl, hF, by first | omega | assumption | exact trivial, by first | omega | assumption | exact trivial, by first | omega | assumption | exact trivial, by first | omega | assumption | exact trivial, by first | omega | assumption | exact trivial, by first | omega | assumption | exact trivial⟩
            · refine lv_aload_n B.1 B.2.1 dX4_settle_142 rfl (lv_at hl 2 rfl) ?_
              refine c_getn (k := 4) pk_X4 B hM t_this kd4 rfl (by decide) fl_X4_64 dX4_settle_143 p_4 ?_
              refine c_getn (k := 4) pk_X8 B hM p_5 kd10 rfl (by decide) fl_X4_165 dX4_settle_146 p_6 ?_
              refine lv_aload_n B.1 B.2.1 dX4_settle_149 rfl (lv_at hl 3 rfl) ?_
              refine lv_aload_n B.1 B.2.1 dX4_settle_150 rfl (lv_at hl 4 rfl) ?_
              refine lv_aload_nN B.1 B.2.1 dX4_settle_151 rfl (lv_at hl 1 rfl) ?_
              refine g_callr hM hA (c_runS (n := 3) (as := [.ref a_use, .ref a_row, cv 0]) (rest := [.ref g_h]) B hX hA hM hl.1 (k_X4_hold l D dA eA L T N I J R a_use t_use a_row t_row 0 (Or.inl rfl) _ _) ml_X4_168 nm_X4_hold ⟨rfl, rfl⟩ ⟨Nat.le_of_ble_eq_true rfl, Nat.le_of_ble_eq_true rfl⟩ dX4_settle_152 rfl rfl (Nat.le_of_ble_eq_true rfl) ⟨by show 0 + 1 ≤ 3; omega, by show 0 + 11 ≤ 74; omega⟩) (fun b143 L144 T145 N146 I147 J148 R149 dz150 dl151 H locs hp142 hMn => ?_)
              obtain ⟨yJ148, hFc152, tb143, hp142a⟩ := hp142
              obtain rfl := yJ148.symm
              replace hF : Fr mo_X4_settle [] T N I J R T145 N146 I147 J R149 := hF.trans hFc152 (by decide) e20
              have hM := hMn
              clear hMn
              replace hp142a : dz150 ≤ 1 ∧ dl151 ≤ 11 := hp142a
              obtain ⟨hp142a_0, hp142a_1⟩ := hp142a
              have e153 : R149 g_h 1 = v1 := (hFc152.r p_7 (by decide) nm0 rfl).trans e2
              have hnn : N146 (R149 g_h 1 - 1) = N (R g_h 1 - 1) := edN2 hC0 p_7 (by decide) (by decide) hF (e153.trans e2.symm)
              have t154 : T145 g_h = 21 := hF.tt p_7 (by decide) nm0
              have e155 : I147 g_h 2 = x140 := (hFc152.i p_7 (by decide) nm0 rfl).trans hp139a_0
              obtain ⟨x156, e157⟩ : ∃ v, I147 b143 0 = v := ⟨_, rfl⟩
              have hv158 : (15 ≤ 21) ∧ (21 ≤ 23) ∧ (I147 g_h 2 < 40) ∧ (21 = 18 → I147 b143 0 ≤ I147 g_h 2) := by first | omega | exact ⟨by first | omega | assumption | exact trivial, by first | omega | assumption | exact trivial, by first | omega | assumption | exact trivial, by first | omega | assumption | exact trivial⟩
              refine g_calli hM hA (c_runV (n := 1) (as := [.ref b143]) (rest := []) B hX hA hM hl.1 t154 kd21 rfl (k_Jx4a65c_add_9ea2d l D dA eA L144 T145 N146 I147 J R149 g_h t154 b143 tb143 hv158.1 hv158.2.1 hv158.2.2.1 hv158.2.2.2 _ _) ml_X4_172 nm_Jx4a65c_add_9ea2d ⟨rfl, rfl⟩ ⟨Nat.le_of_ble_eq_true rfl, Nat.le_of_ble_eq_true rfl⟩ dX4_settle_155 rfl rfl (Nat.le_of_ble_eq_true rfl) ⟨by show 0 + dz150 + 1 ≤ 3; omega, by show 0 + dl151 + 60 ≤ 74; omega⟩) (fun x160 ix160 L161 T162 N163 I164 J165 R166 dz167 dl168 H locs hp159 hMn => ?_)
              obtain ⟨yJ165, hFc169, hp159a⟩ := hp159
              obtain rfl := yJ165.symm
              have t170 : T145 a_this = 4 := hF.tt t_this (by decide) nm0
              have t171 : T145 a_use = 9 := hF.tt t_use (by decide) nm0
              have t172 : T145 a_row = 83 := hF.tt t_row (by decide) nm0
              have t173 : T145 g_bk = 6 := hF.tt p_1 (by decide) nm0
              have t174 : T145 g_k = 11 := hF.tt p_3 (by decide) nm0
              have t175 : T145 g_sp = 10 := hF.tt p_5 (by decide) nm0
              replace hF : Fr mo_X4_settle [] T N I J R T162 N163 I164 J R166 := hF.trans hFc169 (by decide) e20
              have hM := hMn
              clear hMn
              replace hp159a : (0 : Int) ≤ x160 ∧ x160 ≤ 1 ∧ (I164 g_h 2 = I147 g_h 2 + 1 ∧ R166 (R166 g_h 1 - 1) (I147 g_h 2).toNat = b143 + 1 ∧ (∀ i : Nat, (i : Int) < I147 g_h 2 → R166 (R166 g_h 1 - 1) i = R149 (R149 g_h 1 - 1) i) ∧ (∀ b, T145 b = 21 → b ≠ g_h → I164 b 2 = I147 b 2) ∧ dz167 ≤ 1 ∧ dl168 ≤ 60 ∧ dl168 + 3 * N146 (R149 g_h 1 - 1) ≤ 3 * N163 (R166 g_h 1 - 1) + 2) := hp159a
              obtain ⟨hp159a_0, hp159a_1, hp159a_2⟩ := hp159a
              obtain ⟨hp159a_2_0, hp159a_2_1, hp159a_2_2, hp159a_2_3, hp159a_2_4, hp159a_2_5, hp159a_2_6⟩ := hp159a_2
              obtain ⟨v176, e177⟩ : ∃ v, R166 g_h 1 = v := ⟨_, rfl⟩
              refine lv_pop B.1 B.2.1 dX4_settle_158 rfl ?_
              refine lv_aload_n B.1 B.2.1 dX4_settle_159 rfl (lv_at hl 2 rfl) ?_
              have t178 : T162 a_this = 4 := hF.tt t_this (by decide) nm0
              have e179 : R166 a_this 4 = g_sp + 1 := (hF.r t_this (by decide) nm0 rfl).trans p_4
              refine c_getn (k := 4) pk_X4 B hM t178 kd4 rfl (by decide) fl_X4_64 dX4_settle_160 e179 ?_
              refine lv_aload_n B.1 B.2.1 dX4_settle_163 rfl (lv_at hl 2 rfl) ?_
              refine c_getn (k := 4) pk_X4 B hM t178 kd4 rfl (by decide) fl_X4_64 dX4_settle_164 e179 ?_
              have t180 : T162 g_sp = 10 := hF.tt p_5 (by decide) nm0
              obtain ⟨x181, e182⟩ : ∃ v, I164 g_sp 5 = v := ⟨_, rfl⟩
              have r183 : (0 : Int) ≤ x181 ∧ x181 ≤ 1 := by rw [← e182]; exact g10_5 hM.2.2.2.2.2.2.1 t180
              refine c_geti (k := 5) pk_X8 B hM t180 kd10 rfl (by decide) fl_X4_176 dX4_settle_167 e182 ?_
              have JJ186 : ∀ (s186_0 : Int) (H : Heap) (locs : List Loc) (ls : Array Slot), (CWd D dA eA (cF dA L T N I J R s.heap.size) s.heap L161 T162 N163 I164 J R166 H locs) → lv_has ls 5 [(4, .int (II 0)), (3, .null), (0, .ref a_this), (1, .ref a_use), (2, .ref a_row)] → ((-2147483648 : Int) ≤ s186_0 ∧ s186_0 ≤ 2147483647) → (0 ≤ s186_0) → (s186_0 ≤ 1) → W p l e ({ frames := 7, cells := 3, slots := 74, locals := 241 }) s m args below meth c H locs (0 + dz150 + dz167) (0 + dl151 + dl168) (MQ below (gQ D dA eA (cF dA L T N I J R s.heap.size) s.heap.size (hs s.heap) PST) args s 3 74 (cF dA L T N I J R s.heap.size)) (F0 m 186 ls [.int (II s186_0), .ref g_sp]) := by
                intro s186_0 H locs ls hM hl hJJ186_0 hJJ186_1 hJJ186_2
                refine c_puti (k := 5) pk_X8 B hM t180 kd10 rfl (by decide) fl_X4_176 (Or.inl rfl) dX4_settle_186 rfl (narZ (by omega)) (fitZ (by omega)) (show (0 : Int) ≤ s186_0 from by omega) (show s186_0 ≤ (1 : Int) from by omega) (fun I184 H locs hu185 hM => ?_)
                have e186 : I184 g_sp 5 = s186_0 := w2_at hu185
                replace hF : Fr mo_X4_settle [] T N I J R T162 N163 I184 J R166 := hF.wi hu185 (fun _ _ => by rw [p_5]; rfl)
                have t187 : T162 g_h = 21 := hF.tt p_7 (by decide) nm0
                have e188 : I184 g_h 2 = I147 g_h 2 + 1 := (w2_ne hu185 (Or.inl (tne t187 t180 (by decide)))).trans hp159a_2_0
                refine g_vret B hM dX4_settle_189 ⟨by show 0 + dz150 + dz167 ≤ 3; omega, by show 0 + dl151 + dl168 ≤ 74; omega⟩ ?_
                rw [← hPST]
                exact ⟨rfl, rfl, hF, by first | omega | assumption | exact trivial, by first | omega | assumption | exact trivial, by first | omega | assumption | exact trivial, by first | omega | assumption | exact trivial, by first | omega | assumption | exact trivial, by first | omega | assumption | exact trivial⟩
              refine q_ine (tgt := 181) B dX4_settle_170 (by decide) (by unfold inr; omega) (fun c189 => ?_) (fun c189 => ?_)
              · refine q_con B dX4_settle_181 ?_
                refine lv_goto (tgt := 186) B.1 B.2.1 dX4_settle_182 (by decide) ?_
                have hv190 : ((-2147483648 : Int) ≤ 1 ∧ (1 : Int) ≤ 2147483647) ∧ (0 ≤ (1 : Int)) ∧ ((1 : Int) ≤ 1) := by first | omega | exact ⟨by first | omega | assumption | exact trivial, by first | omega | assumption | exact trivial, by first | omega | assumption | exact trivial⟩
                exact JJ186 1 _ _ ls hM (lv_sub hl [0, 1, 2, 3, 4] rfl) hv190.1 hv190.2.1 hv190.2.2
              · refine lv_aload_n B.1 B.2.1 dX4_settle_173 rfl (lv_at hl 3 rfl) ?_
                have t191 : T162 a_use = 9 := hF.tt t_use (by decide) nm0
                have e192 : I164 a_use 0 = x6 := (hF.i t_use (by decide) nm0 rfl).trans e7
                refine c_geti (k := 0) pk_X10 B hM t191 kd9 rfl (by decide) fl_X4_97 dX4_settle_174 e192 ?_
                refine q_con B dX4_settle_177 ?_
                refine q_cne (tgt := 185) B dX4_settle_178 (by decide) (by unfold inr; omega) (by unfold inr; omega) (fun c193 => ?_) (fun c193 => ?_)
                · refine q_con B dX4_settle_185 ?_
                  have hv194 : ((-2147483648 : Int) ≤ 0 ∧ (0 : Int) ≤ 2147483647) ∧ (0 ≤ (0 : Int)) ∧ ((0 : Int) ≤ 1) := by first | omega | exact ⟨by first | omega | assumption | exact trivial, by first | omega | assumption | exact trivial, by first | omega | assumption | exact trivial⟩
                  exact JJ186 0 _ _ ls hM (lv_sub hl [0, 1, 2, 3, 4] rfl) hv194.1 hv194.2.1 hv194.2.2
                · refine q_con B dX4_settle_181 ?_
                  refine lv_goto (tgt := 186) B.1 B.2.1 dX4_settle_182 (by decide) ?_
                  have hv195 : ((-2147483648 : Int) ≤ 1 ∧ (1 : Int) ≤ 2147483647) ∧ (0 ≤ (1 : Int)) ∧ ((1 : Int) ≤ 1) := by first | omega | exact ⟨by first | omega | assumption | exact trivial, by first | omega | assumption | exact trivial, by first | omega | assumption | exact trivial⟩
                  exact JJ186 1 _ _ ls hM (lv_sub hl [0, 1, 2, 3, 4] rfl) hv195.1 hv195.2.1 hv195.2.2
          · refine q_con B dX4_settle_106 ?_
            refine lv_istore (lv' := [(4, .int (II 3)), (3, .null), (0, .ref a_this), (1, .ref a_use), (2, .ref a_row)]) B.1 B.2.1 dX4_settle_107 hl (by decide) rfl (fun ls hl => ?_)
            refine lv_iload B.1 B.2.1 dX4_settle_109 (lv_at hl 0 rfl) ?_
            refine q_ieq (tgt := 127) B dX4_settle_111 (by decide) (by unfold inr; omega) (fun c196 => absurd c196 (by omega)) (fun c196 => ?_)
            refine lv_aload_n B.1 B.2.1 dX4_settle_114 rfl (lv_at hl 2 rfl) ?_
            refine lv_iload B.1 B.2.1 dX4_settle_115 (lv_at hl 0 rfl) ?_
            refine lv_aload_n B.1 B.2.1 dX4_settle_117 rfl (lv_at hl 3 rfl) ?_
            refine c_geti (k := 0) pk_X10 B hM t_use kd9 rfl (by decide) fl_X4_97 dX4_settle_118 e7 ?_
            have hv197 : ((-2147483648 : Int) ≤ 3 ∧ (3 : Int) ≤ 2147483647) ∧ ((-2147483648 : Int) ≤ x6 ∧ (x6 : Int) ≤ 2147483647) := by first | omega | exact ⟨by first | omega | assumption | exact trivial, by first | omega | assumption | exact trivial⟩
            refine z_callv hM hA (c_runV (n := 2) (as := [.int (II 3), .int (II x6)]) (rest := []) B hX hA hM hl.1 t_this kd4 rfl (k_X4_keepMisuse l D dA eA L T N I J R a_this t_this (3) hv197.1 x6 hv197.2 g_k (show R a_this 3 = g_k + 1 from p_2) (show T g_k = 11 from p_3) _ _) ml_X4_161 nm_X4_keepMisuse ⟨rfl, rfl⟩ ⟨Nat.le_of_ble_eq_true rfl, Nat.le_of_ble_eq_true rfl⟩ dX4_settle_121 rfl rfl (Nat.le_of_ble_eq_true rfl) ⟨by show 0 + 0 ≤ 3; omega, by show 0 + 0 ≤ 74; omega⟩) (fun L200 T201 N202 I203 J204 R205 dz206 dl207 H locs hp198 hMn => ?_)
            obtain ⟨yL200, yT201, yN202, yJ204, yR205, hFc208, hp198a⟩ := hp198
            obtain rfl := yL200.symm; obtain rfl := yT201.symm; obtain rfl := yN202.symm; obtain rfl := yJ204.symm; obtain rfl := yR205.symm
            replace hF : Fr mo_X4_settle [] T N I J R T N I203 J R := hF.trans hFc208 (by decide) e20
            have hM := hMn
            clear hMn
            clear hp198a
            refine lv_goto (tgt := 189) B.1 B.2.1 dX4_settle_124 (by decide) ?_
            have hnn : N (R g_h 1 - 1) = N (R g_h 1 - 1) := edN2 hC0 p_7 (by decide) (by decide) hF rfl
            have e209 : I203 g_h 2 = x3 := (hFc208.i p_7 (by decide) nm0 rfl).trans e4
            refine g_vret B hM dX4_settle_189 ⟨by show 0 ≤ 3; omega, by show 0 ≤ 74; omega⟩ ?_
            rw [← hPST]
            exact ⟨rfl, rfl, hF, by first | omega | assumption | exact trivial, by first | omega | assumption | exact trivial, by first | omega | assumption | exact trivial, by first | omega | assumption | exact trivial, by first | omega | assumption | exact trivial, by first | omega | assumption | exact trivial⟩
        · exact JJ62  _ _ ls hM (lv_sub hl [0, 1, 2, 3, 4] rfl)
    · refine q_con B dX4_settle_38 ?_
      refine lv_istore (lv' := [(4, .int (II 2)), (3, .null), (0, .ref a_this), (1, .ref a_use), (2, .ref a_row)]) B.1 B.2.1 dX4_settle_39 hl (by decide) rfl (fun ls hl => ?_)
      refine lv_goto (tgt := 109) B.1 B.2.1 dX4_settle_41 (by decide) ?_
      refine lv_iload B.1 B.2.1 dX4_settle_109 (lv_at hl 0 rfl) ?_
      refine q_ieq (tgt := 127) B dX4_settle_111 (by decide) (by unfold inr; omega) (fun c210 => absurd c210 (by omega)) (fun c210 => ?_)
      refine lv_aload_n B.1 B.2.1 dX4_settle_114 rfl (lv_at hl 2 rfl) ?_
      refine lv_iload B.1 B.2.1 dX4_settle_115 (lv_at hl 0 rfl) ?_
      refine lv_aload_n B.1 B.2.1 dX4_settle_117 rfl (lv_at hl 3 rfl) ?_
      refine c_geti (k := 0) pk_X10 B hM t_use kd9 rfl (by decide) fl_X4_97 dX4_settle_118 e7 ?_
      have hv211 : ((-2147483648 : Int) ≤ 2 ∧ (2 : Int) ≤ 2147483647) ∧ ((-2147483648 : Int) ≤ x6 ∧ (x6 : Int) ≤ 2147483647) := by first | omega | exact ⟨by first | omega | assumption | exact trivial, by first | omega | assumption | exact trivial⟩
      refine z_callv hM hA (c_runV (n := 2) (as := [.int (II 2), .int (II x6)]) (rest := []) B hX hA hM hl.1 t_this kd4 rfl (k_X4_keepMisuse l D dA eA L T N I J R a_this t_this (2) hv211.1 x6 hv211.2 g_k (show R a_this 3 = g_k + 1 from p_2) (show T g_k = 11 from p_3) _ _) ml_X4_161 nm_X4_keepMisuse ⟨rfl, rfl⟩ ⟨Nat.le_of_ble_eq_true rfl, Nat.le_of_ble_eq_true rfl⟩ dX4_settle_121 rfl rfl (Nat.le_of_ble_eq_true rfl) ⟨by show 0 + 0 ≤ 3; omega, by show 0 + 0 ≤ 74; omega⟩) (fun L214 T215 N216 I217 J218 R219 dz220 dl221 H locs hp212 hMn => ?_)
      obtain ⟨yL214, yT215, yN216, yJ218, yR219, hFc222, hp212a⟩ := hp212
      obtain rfl := yL214.symm; obtain rfl := yT215.symm; obtain rfl := yN216.symm; obtain rfl := yJ218.symm; obtain rfl := yR219.symm
      replace hF : Fr mo_X4_settle [] T N I J R T N I217 J R := hF.trans hFc222 (by decide) e20
      have hM := hMn
      clear hMn
      clear hp212a
      refine lv_goto (tgt := 189) B.1 B.2.1 dX4_settle_124 (by decide) ?_
      have hnn : N (R g_h 1 - 1) = N (R g_h 1 - 1) := edN2 hC0 p_7 (by decide) (by decide) hF rfl
      have e223 : I217 g_h 2 = x3 := (hFc222.i p_7 (by decide) nm0 rfl).trans e4
      refine g_vret B hM dX4_settle_189 ⟨by show 0 ≤ 3; omega, by show 0 ≤ 74; omega⟩ ?_
      rw [← hPST]
      exact ⟨rfl, rfl, hF, by first | omega | assumption | exact trivial, by first | omega | assumption | exact trivial, by first | omega | assumption | exact trivial, by first | omega | assumption | exact trivial, by first | omega | assumption | exact trivial, by first | omega | assumption | exact trivial⟩
  · refine q_con B dX4_settle_15 ?_
    refine lv_istore (lv' := [(4, .int (II 1)), (3, .null), (0, .ref a_this), (1, .ref a_use), (2, .ref a_row)]) B.1 B.2.1 dX4_settle_16 hl (by decide) rfl (fun ls hl => ?_)
    refine lv_goto (tgt := 109) B.1 B.2.1 dX4_settle_18 (by decide) ?_
    refine lv_iload B.1 B.2.1 dX4_settle_109 (lv_at hl 0 rfl) ?_
    refine q_ieq (tgt := 127) B dX4_settle_111 (by decide) (by unfold inr; omega) (fun c224 => absurd c224 (by omega)) (fun c224 => ?_)
    refine lv_aload_n B.1 B.2.1 dX4_settle_114 rfl (lv_at hl 2 rfl) ?_
    refine lv_iload B.1 B.2.1 dX4_settle_115 (lv_at hl 0 rfl) ?_
    refine lv_aload_n B.1 B.2.1 dX4_settle_117 rfl (lv_at hl 3 rfl) ?_
    refine c_geti (k := 0) pk_X10 B hM t_use kd9 rfl (by decide) fl_X4_97 dX4_settle_118 e7 ?_
    have hv225 : ((-2147483648 : Int) ≤ 1 ∧ (1 : Int) ≤ 2147483647) ∧ ((-2147483648 : Int) ≤ x6 ∧ (x6 : Int) ≤ 2147483647) := by first | omega | exact ⟨by first | omega | assumption | exact trivial, by first | omega | assumption | exact trivial⟩
    refine z_callv hM hA (c_runV (n := 2) (as := [.int (II 1), .int (II x6)]) (rest := []) B hX hA hM hl.1 t_this kd4 rfl (k_X4_keepMisuse l D dA eA L T N I J R a_this t_this (1) hv225.1 x6 hv225.2 g_k (show R a_this 3 = g_k + 1 from p_2) (show T g_k = 11 from p_3) _ _) ml_X4_161 nm_X4_keepMisuse ⟨rfl, rfl⟩ ⟨Nat.le_of_ble_eq_true rfl, Nat.le_of_ble_eq_true rfl⟩ dX4_settle_121 rfl rfl (Nat.le_of_ble_eq_true rfl) ⟨by show 0 + 0 ≤ 3; omega, by show 0 + 0 ≤ 74; omega⟩) (fun L228 T229 N230 I231 J232 R233 dz234 dl235 H locs hp226 hMn => ?_)
    obtain ⟨yL228, yT229, yN230, yJ232, yR233, hFc236, hp226a⟩ := hp226
    obtain rfl := yL228.symm; obtain rfl := yT229.symm; obtain rfl := yN230.symm; obtain rfl := yJ232.symm; obtain rfl := yR233.symm
    replace hF : Fr mo_X4_settle [] T N I J R T N I231 J R := hF.trans hFc236 (by decide) e20
    have hM := hMn
    clear hMn
    clear hp226a
    refine lv_goto (tgt := 189) B.1 B.2.1 dX4_settle_124 (by decide) ?_
    have hnn : N (R g_h 1 - 1) = N (R g_h 1 - 1) := edN2 hC0 p_7 (by decide) (by decide) hF rfl
    have e237 : I231 g_h 2 = x3 := (hFc236.i p_7 (by decide) nm0 rfl).trans e4
    refine g_vret B hM dX4_settle_189 ⟨by show 0 ≤ 3; omega, by show 0 ≤ 74; omega⟩ ?_
    rw [← hPST]
    exact ⟨rfl, rfl, hF, by first | omega | assumption | exact trivial, by first | omega | assumption | exact trivial, by first | omega | assumption | exact trivial, by first | omega | assumption | exact trivial, by first | omega | assumption | exact trivial, by first | omega | assumption | exact trivial⟩
