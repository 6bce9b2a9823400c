def mo_X6_readUses : List Nat := [229, 230, 231, 225, 226, 290, 291, 289, 2400, 2432, 640, 641, 642, 1760, 293, 294, 295, 296, 297, 298]
set_option maxHeartbeats 1000000 in
set_option maxRecDepth 20000 in
theorem k_X6_readUses (l : Launch) (D : va_G) (dA : Nat → ClassId) (eA : Nat) (L : List Nat) (T N : Nat → Nat) (I : Nat → Nat → Int) (J : Nat → Nat → Int64) (R : Nat → Nat → Nat) (a_this : Nat) (t_this : T a_this = 7) (a_spot : Nat) (t_spot : T a_spot = 10) (g_t : Nat) (g_s : Nat) (g_S : Nat → Int) (g_n : Int) (g_u : Nat) (p_0 : R a_this 3 = g_t + 1) (p_1 : T g_t = 3) (p_2 : R g_t 0 = g_s + 1) (p_3 : T g_s = 62) (p_4 : I g_s = g_S) (p_5 : TKz g_S g_n) (p_6 : I a_this 5 ≤ g_n) (p_7 : g_S (I a_this 5).toNat = I a_this 6) (p_8 : R a_spot 3 = g_u + 1) (p_9 : T g_u = 20) : GC l yX6_readUses cX6_readUses 3 (some .boolean) ({ frames := 8, cells := 36, slots := 279, locals := 264 }) D dA eA L T N I J R [.ref a_this, .ref a_spot] 36 279 (gI (fun r L' T' N' I' J' R' dz dl => Fr mo_X6_readUses [] T N I J R T' N' I' J' R' ∧ (0 : Int) ≤ r ∧ r ≤ 1 ∧ (I' a_this 5 ≤ g_n ∧ g_S (I' a_this 5).toNat = I' a_this 6 ∧ I a_this 5 ≤ I' a_this 5 ∧ ((r = 0 ∧ I' a_this 1 ≠ 0) ∨ (r = 1 ∧ I' a_this 1 = I a_this 1 ∧ I a_this 5 + 1 ≤ I' a_this 5)) ∧ (dz : Int) ≤ 4 * (I' a_this 5 - I a_this 5) ∧ (dl : Int) ≤ 31 * (I' a_this 5 - I a_this 5) ∧ dz ≤ 36 ∧ dl ≤ 279))) := by
  generalize hPST : (gI (fun r L' T' N' I' J' R' dz dl => Fr mo_X6_readUses [] T N I J R T' N' I' J' R' ∧ (0 : Int) ≤ r ∧ r ≤ 1 ∧ (I' a_this 5 ≤ g_n ∧ g_S (I' a_this 5).toNat = I' a_this 6 ∧ I a_this 5 ≤ I' a_this 5 ∧ ((r = 0 ∧ I' a_this 1 ≠ 0) ∨ (r = 1 ∧ I' a_this 1 = I a_this 1 ∧ I a_this 5 + 1 ≤ I' a_this 5)) ∧ (dz : Int) ≤ 4 * (I' a_this 5 - I a_this 5) ∧ (dl : Int) ≤ 31 * (I' a_this 5 - I a_this 5) ∧ dz ≤ 36 ∧ dl ≤ 279))) = PST
  refine g_enter (own := RX6) (by decide) rfl (Nat.le_of_ble_eq_true rfl) (fun p e s m args below meth c ls hm B hX hM hl => ?_)
  have hC0 := hM.2.2.2.2.2.2.1
  have hW0 := hM.2.2.2
  have hF : Fr mo_X6_readUses [] T N I J R T N I J R := Fr.rf
  have hA : ∀ q, s.heap.size ≤ q → cF dA L T N I J R s.heap.size q := fun q h => Or.inr h
  have hl : lv_has ls 3 [(0, .ref a_this), (1, .ref a_spot)] := hl
  obtain ⟨x1, e2⟩ : ∃ v, I a_this 5 = v := ⟨_, rfl⟩
  obtain ⟨x3, e4⟩ : ∃ v, I a_this 6 = v := ⟨_, rfl⟩
  have nz5 : g_S (x1).toNat = x3 := by have h9 := p_7; rw [e2, e4] at h9; exact h9
  obtain ⟨x6, e7⟩ : ∃ v, I g_u 2 = v := ⟨_, rfl⟩
  have r8 : (0 : Int) ≤ x6 ∧ x6 ≤ 8 := by rw [← e7]; exact g20_2 hM.2.2.2.2.2.2.1 p_9
  obtain ⟨x9, e10⟩ : ∃ v, I a_this 1 = v := ⟨_, rfl⟩
  refine q_con B dX6_readUses_0 ?_
  refine lv_istore_n (lv' := [(2, .int (II 0)), (0, .ref a_this), (1, .ref a_spot)]) B.1 B.2.1 dX6_readUses_1 rfl hl (by decide) rfl (fun ls hl => ?_)
  have LL2 : ∀ NN : Nat, ∀ (v2_2 : Int) (L_2 : List Nat) (T_2 : Nat → Nat) (N_2 : Nat → Nat) (I_2 : Nat → Nat → Int) (J_2 : Nat → Nat → Int64) (R_2 : Nat → Nat → Nat) (zc2 zs2 : Nat) (H : Heap) (locs : List Loc) (ls : Array Slot), (CWd D dA eA (cF dA L T N I J R s.heap.size) s.heap L_2 T_2 N_2 I_2 J_2 R_2 H locs) → (Fr mo_X6_readUses [] T N I J R T_2 N_2 I_2 J_2 R_2) → lv_has ls 3 [(0, .ref a_this), (1, .ref a_spot), (2, .int (II v2_2))] → ((-2147483648 : Int) ≤ v2_2 ∧ v2_2 ≤ 2147483647) → (0 ≤ v2_2) → (v2_2 ≤ I_2 g_u 2) → (I_2 g_u 2 ≤ 8) → (I a_this 5 + v2_2 ≤ I_2 a_this 5) → ((zc2 : Int) ≤ 4 * v2_2) → ((zs2 : Int) ≤ 31 * v2_2) → ((zc2 : Int) ≤ 4 * (I_2 a_this 5 - I a_this 5)) → ((zs2 : Int) ≤ 31 * (I_2 a_this 5 - I a_this 5)) → (I_2 a_this 5 ≤ g_n) → (g_S (I_2 a_this 5).toNat = I_2 a_this 6) → (I_2 a_this 1 = I a_this 1) → (0 ≤ 9 - v2_2) → (9 - v2_2 < (NN : Int)) → W p l e ({ frames := 8, cells := 36, slots := 279, locals := 264 }) s m args below meth c H locs zc2 zs2 (MQ below (gQ D dA eA (cF dA L T N I J R s.heap.size) s.heap.size (hs s.heap) PST) args s 36 279 (cF dA L T N I J R s.heap.size)) (F0 m 2 ls []) := by
    intro NN
    induction NN with
    | zero => intro v2_2 L_2 T_2 N_2 I_2 J_2 R_2 zc2 zs2 H locs ls hM hF hl hLL2_0 hLL2_1 hLL2_2 hLL2_3 hLL2_4 hLL2_5 hLL2_6 hLL2_7 hLL2_8 hLL2_9 hLL2_10 hLL2_11 hLL2_12 hN; exfalso; omega
    | succ NN IH2 =>
      intro v2_2 L_2 T_2 N_2 I_2 J_2 R_2 zc2 zs2 H locs ls hM hF hl hLL2_0 hLL2_1 hLL2_2 hLL2_3 hLL2_4 hLL2_5 hLL2_6 hLL2_7 hLL2_8 hLL2_9 hLL2_10 hLL2_11 hLL2_12 hN
      obtain ⟨x11, e12⟩ : ∃ v, I_2 a_this 5 = v := ⟨_, rfl⟩
      obtain ⟨x13, e14⟩ : ∃ v, I_2 a_this 6 = v := ⟨_, rfl⟩
      have nz15 : g_S (x11).toNat = x13 := by have h9 := hLL2_10; rw [e12, e14] at h9; exact h9
      refine lv_iload_n B.1 B.2.1 dX6_readUses_2 rfl (lv_at hl 2 rfl) ?_
      refine q_bip B dX6_readUses_3 (by decide) ?_
      refine q_cgt (tgt := 65) B dX6_readUses_5 (by decide) (by unfold inr; omega) (by unfold inr; omega) (fun c16 => absurd c16 (by omega)) (fun c16 => ?_)
      refine lv_aload_n B.1 B.2.1 dX6_readUses_8 rfl (lv_at hl 0 rfl) ?_
      have t17 : T_2 a_this = 7 := hF.tt t_this (by decide) nm0
      have r18 : (-2147483648 : Int) ≤ x13 ∧ x13 ≤ 2147483647 := by rw [← e14]; exact g7_6 hM.2.2.2.2.2.2.1 t17
      refine c_geti (k := 6) pk_X6 B hM t17 kd7 rfl (by decide) fl_X6_47 dX6_readUses_9 e14 ?_
      refine q_con B dX6_readUses_12 ?_
      refine q_cne (tgt := 28) B dX6_readUses_13 (by decide) (by unfold inr; omega) (by unfold inr; omega) (fun c19 => ?_) (fun c19 => ?_)
      · refine lv_aload_n B.1 B.2.1 dX6_readUses_28 rfl (lv_at hl 0 rfl) ?_
        refine q_con B dX6_readUses_29 ?_
        have hv20 : ((-2147483648 : Int) ≤ 2 ∧ (2 : Int) ≤ 2147483647) ∧ ((2 : Int) ≠ 0) := by first | omega | exact ⟨by first | omega | assumption | exact trivial, by first | omega | assumption | exact trivial⟩
        refine z_calli hM hA (c_runV (n := 1) (as := [.int (II 2)]) (rest := []) B hX hA hM hl.1 t17 kd7 rfl (k_X6_wrong l D dA eA L_2 T_2 N_2 I_2 J_2 R_2 a_this t17 (2) hv20.1 hv20.2 _ _) ml_X6_84 nm_X6_wrong ⟨rfl, rfl⟩ ⟨Nat.le_of_ble_eq_true rfl, Nat.le_of_ble_eq_true rfl⟩ dX6_readUses_30 rfl rfl (Nat.le_of_ble_eq_true rfl) ⟨by show zc2 + 0 ≤ 36; omega, by show zs2 + 0 ≤ 279; omega⟩) (fun x22 ix22 L23 T24 N25 I26 J27 R28 dz29 dl30 H locs hp21 hMn => ?_)
        obtain ⟨yL23, yT24, yN25, yJ27, yR28, hFc31, hp21a⟩ := hp21
        obtain rfl := yL23.symm; obtain rfl := yT24.symm; obtain rfl := yN25.symm; obtain rfl := yJ27.symm; obtain rfl := yR28.symm
        replace hF : Fr mo_X6_readUses [] T N I J R T_2 N_2 I26 J_2 R_2 := hF.trans hFc31 (by decide) e20
        have hM := hMn
        clear hMn
        replace hp21a : (0 : Int) ≤ x22 ∧ x22 ≤ 1 ∧ (x22 = 0 ∧ I26 a_this 1 ≠ 0) := hp21a
        obtain ⟨hp21a_0, hp21a_1, hp21a_2⟩ := hp21a
        obtain ⟨hp21a_2_0, hp21a_2_1⟩ := hp21a_2
        obtain ⟨x32, e33⟩ : ∃ v, I26 a_this 1 = v := ⟨_, rfl⟩
        have e34 : I26 a_this 5 = x11 := (hFc31.i t17 (by decide) nm0 rfl).trans e12
        have e35 : I26 a_this 6 = x13 := (hFc31.i t17 (by decide) nm0 rfl).trans e14
        refine g_zret B hM dX6_readUses_33 ⟨by show zc2 ≤ 36; omega, by show zs2 ≤ 279; omega⟩ (by omega) (by omega) ?_
        rw [← hPST]
        exact ⟨x22, rfl, by omega, hF, by omega, by omega, by first | omega | assumption | exact trivial, by show g_S (I26 a_this 5).toNat = I26 a_this 6; rw [e34, e35]; first | assumption | omega, by first | omega | assumption | exact trivial, by first | omega | assumption | exact trivial, by first | omega | assumption | exact trivial, by first | omega | assumption | exact trivial, by first | omega | assumption | exact trivial, by first | omega | assumption | exact trivial⟩
      · refine lv_aload_n B.1 B.2.1 dX6_readUses_16 rfl (lv_at hl 1 rfl) ?_
        have t36 : T_2 a_spot = 10 := hF.tt t_spot (by decide) nm0
        have e37 : R_2 a_spot 3 = g_u + 1 := (hF.r t_spot (by decide) nm0 rfl).trans p_8
        refine c_getn (k := 3) pk_X8 B hM t36 kd10 rfl (by decide) fl_X6_251 dX6_readUses_17 e37 ?_
        have t38 : T_2 g_u = 20 := hF.tt p_9 (by decide) nm0
        have hv39 : (15 ≤ 20) ∧ (20 ≤ 23) := by first | omega | exact ⟨by first | omega | assumption | exact trivial, by first | omega | assumption | exact trivial⟩
        refine p_calli (c_runV (n := 0) (as := []) (rest := []) B hX hA hM hl.1 t38 kd20 rfl (k_Jx4a65c_size_8abf5 l D dA eA L_2 T_2 N_2 I_2 J_2 R_2 g_u t38 hv39.1 hv39.2 _ _) ml_X6_135 nm_Jx4a65c_size_8abf5 ⟨rfl, rfl⟩ ⟨Nat.le_of_ble_eq_true rfl, Nat.le_of_ble_eq_true rfl⟩ dX6_readUses_20 rfl rfl (Nat.le_of_ble_eq_true rfl) ⟨by show zc2 + 0 ≤ 36; omega, by show zs2 + 0 ≤ 279; omega⟩) (fun x41 ix41 hp40 => ?_)
        have hp40a := hp40
        replace hp40a : I_2 g_u 2 = x41 ∧ 0 ≤ x41 ∧ x41 ≤ 8 := hp40a
        obtain ⟨hp40a_0, hp40a_1, hp40a_2⟩ := hp40a
        refine q_bip B dX6_readUses_23 (by decide) ?_
        refine q_clt (tgt := 34) B dX6_readUses_25 (by decide) (by unfold inr; omega) (by unfold inr; omega) (fun c42 => ?_) (fun c42 => ?_)
        · refine lv_aload_n B.1 B.2.1 dX6_readUses_34 rfl (lv_at hl 0 rfl) ?_
          refine lv_aload_n B.1 B.2.1 dX6_readUses_35 rfl (lv_at hl 1 rfl) ?_
          have e43 : R_2 a_this 3 = g_t + 1 := (hF.r t_this (by decide) nm0 rfl).trans p_0
          have e44 : R_2 g_t 0 = g_s + 1 := (hF.r p_1 (by decide) nm0 rfl).trans p_2
          have t45 : T_2 g_t = 3 := hF.tt p_1 (by decide) nm0
          have t46 : T_2 g_s = 62 := hF.tt p_3 (by decide) nm0
          have hv47 : (TKz g_S g_n) ∧ (I_2 a_this 5 ≤ g_n) ∧ (I_2 a_this 6 = 2) ∧ (I_2 g_u 2 < 8) := by first | omega | exact ⟨by first | omega | assumption | exact trivial, by first | omega | assumption | exact trivial, by first | omega | assumption | exact trivial, by first | omega | assumption | exact trivial⟩
          refine g_calli hM hA (c_runV (n := 1) (as := [.ref a_spot]) (rest := []) B hX hA hM hl.1 t17 kd7 rfl (k_X6_readUse l D dA eA L_2 T_2 N_2 I_2 J_2 R_2 a_this t17 a_spot t36 g_t g_s g_S g_n g_u (show R_2 a_this 3 = g_t + 1 from e43) (show T_2 g_t = 3 from t45) (show R_2 g_t 0 = g_s + 1 from e44) (show T_2 g_s = 62 from t46) (show I_2 g_s = g_S from ((Fr.irow hF p_3 (by decide) nm0 (by decide)).trans p_4)) hv47.1 hv47.2.1 (show g_S (I_2 a_this 5).toNat = I_2 a_this 6 from by rw [e12, e14]; first | assumption | omega) (show R_2 a_spot 3 = g_u + 1 from e37) (show T_2 g_u = 20 from t38) hv47.2.2.1 hv47.2.2.2 _ _) ml_X6_254 nm_X6_readUse ⟨rfl, rfl⟩ ⟨Nat.le_of_ble_eq_true rfl, Nat.le_of_ble_eq_true rfl⟩ dX6_readUses_36 rfl rfl (Nat.le_of_ble_eq_true rfl) ⟨by show zc2 + 4 ≤ 36; omega, by show zs2 + 31 ≤ 279; omega⟩) (fun x49 ix49 L50 T51 N52 I53 J54 R55 dz56 dl57 H locs hp48 hMn => ?_)
          obtain ⟨hFc58, hp48a⟩ := hp48
          replace hF : Fr mo_X6_readUses [] T N I J R T51 N52 I53 J54 R55 := hF.trans hFc58 (by decide) e20
          have hM := hMn
          clear hMn
          replace hp48a : (0 : Int) ≤ x49 ∧ x49 ≤ 1 ∧ (I53 a_this 5 ≤ g_n ∧ g_S (I53 a_this 5).toNat = I53 a_this 6 ∧ I_2 a_this 5 ≤ I53 a_this 5 ∧ ((x49 = 0 ∧ I53 a_this 1 ≠ 0) ∨ (x49 = 1 ∧ I53 a_this 1 = I_2 a_this 1 ∧ I_2 a_this 5 + 1 ≤ I53 a_this 5)) ∧ (dz56 : Int) ≤ 4 * (I53 a_this 5 - I_2 a_this 5) ∧ (dl57 : Int) ≤ 31 * (I53 a_this 5 - I_2 a_this 5) ∧ dz56 ≤ 4 ∧ dl57 ≤ 31 ∧ (x49 = 1 → I53 g_u 2 = I_2 g_u 2 + 1)) := hp48a
          obtain ⟨hp48a_0, hp48a_1, hp48a_2⟩ := hp48a
          obtain ⟨hp48a_2_0, hp48a_2_1, hp48a_2_2, hp48a_2_3, hp48a_2_4, hp48a_2_5, hp48a_2_6, hp48a_2_7, hp48a_2_8⟩ := hp48a_2
          obtain ⟨x59, e60⟩ : ∃ v, I53 a_this 5 = v := ⟨_, rfl⟩
          obtain ⟨x61, e62⟩ : ∃ v, I53 a_this 6 = v := ⟨_, rfl⟩
          have nz63 : g_S (x59).toNat = x61 := by have h9 := hp48a_2_1; rw [e60, e62] at h9; exact h9
          obtain ⟨x64, e65⟩ : ∃ v, I53 a_this 1 = v := ⟨_, rfl⟩
          obtain ⟨x66, e67⟩ : ∃ v, I53 g_u 2 = v := ⟨_, rfl⟩
          refine q_ine (tgt := 44) B dX6_readUses_39 (by decide) (by unfold inr; omega) (fun c68 => ?_) (fun c68 => ?_)
          · refine lv_aload_n B.1 B.2.1 dX6_readUses_44 rfl (lv_at hl 0 rfl) ?_
            have t69 : T51 a_this = 7 := hF.tt t_this (by decide) nm0
            have r70 : (-2147483648 : Int) ≤ x61 ∧ x61 ≤ 2147483647 := by rw [← e62]; exact g7_6 hM.2.2.2.2.2.2.1 t69
            refine c_geti (k := 6) pk_X6 B hM t69 kd7 rfl (by decide) fl_X6_47 dX6_readUses_45 e62 ?_
            refine q_bip B dX6_readUses_48 (by decide) ?_
            refine q_ceq (tgt := 55) B dX6_readUses_50 (by decide) (by unfold inr; omega) (by unfold inr; omega) (fun c71 => ?_) (fun c71 => ?_)
            · refine lv_aload_n B.1 B.2.1 dX6_readUses_55 rfl (lv_at hl 0 rfl) ?_
              have e72 : R55 a_this 3 = g_t + 1 := (hF.r t_this (by decide) nm0 rfl).trans p_0
              have e73 : R55 g_t 0 = g_s + 1 := (hF.r p_1 (by decide) nm0 rfl).trans p_2
              have t74 : T51 g_t = 3 := hF.tt p_1 (by decide) nm0
              have t75 : T51 g_s = 62 := hF.tt p_3 (by decide) nm0
              have hv76 : (TKz g_S g_n) ∧ (I53 a_this 5 ≤ g_n) := by first | omega | exact ⟨by first | omega | assumption | exact trivial, by first | omega | assumption | exact trivial⟩
              refine z_callv hM hA (c_runV (n := 0) (as := []) (rest := []) B hX hA hM hl.1 t69 kd7 rfl (k_X6_advance l D dA eA L50 T51 N52 I53 J54 R55 a_this t69 g_t g_s g_S g_n (show R55 a_this 3 = g_t + 1 from e72) (show T51 g_t = 3 from t74) (show R55 g_t 0 = g_s + 1 from e73) (show T51 g_s = 62 from t75) (show I53 g_s = g_S from ((Fr.irow hF p_3 (by decide) nm0 (by decide)).trans p_4)) hv76.1 hv76.2 (show g_S (I53 a_this 5).toNat = I53 a_this 6 from by rw [e60, e62]; first | assumption | omega) _ _) ml_X6_87 nm_X6_advance ⟨rfl, rfl⟩ ⟨Nat.le_of_ble_eq_true rfl, Nat.le_of_ble_eq_true rfl⟩ dX6_readUses_56 rfl rfl (Nat.le_of_ble_eq_true rfl) ⟨by show zc2 + dz56 + 0 ≤ 36; omega, by show zs2 + dl57 + 0 ≤ 279; omega⟩) (fun L79 T80 N81 I82 J83 R84 dz85 dl86 H locs hp77 hMn => ?_)
              obtain ⟨yL79, yT80, yN81, yR84, hFc87, hp77a⟩ := hp77
              obtain rfl := yL79.symm; obtain rfl := yT80.symm; obtain rfl := yN81.symm; obtain rfl := yR84.symm
              replace hF : Fr mo_X6_readUses [] T N I J R T51 N52 I82 J83 R55 := hF.trans hFc87 (by decide) e20
              have hM := hMn
              clear hMn
              replace hp77a : I82 a_this 5 ≤ g_n ∧ g_S (I82 a_this 5).toNat = I82 a_this 6 ∧ (((I53 a_this 6 = 0 ∨ I53 a_this 6 = 1) ∧ I82 a_this 5 = I53 a_this 5) ∨ (I82 a_this 5 = I53 a_this 5 + 1)) := hp77a
              obtain ⟨hp77a_0, hp77a_1, hp77a_2⟩ := hp77a
              obtain ⟨x88, e89⟩ : ∃ v, I82 a_this 5 = v := ⟨_, rfl⟩
              obtain ⟨x90, e91⟩ : ∃ v, I82 a_this 6 = v := ⟨_, rfl⟩
              have nz92 : g_S (x88).toNat = x90 := by have h9 := hp77a_1; rw [e89, e91] at h9; exact h9
              refine q_inc (lv' := [(2, .int (II (v2_2 + 1))), (0, .ref a_this), (1, .ref a_spot)]) B dX6_readUses_59 hl (k := 2) rfl (by decide) rfl (fun ls hl => ?_)
              refine lv_goto (tgt := 2) B.1 B.2.1 dX6_readUses_62 (by decide) ?_
              have t93 : T51 g_u = 20 := hF.tt p_9 (by decide) nm0
              have e94 : I82 g_u 2 = x66 := (hFc87.i t93 (by decide) nm0 rfl).trans e67
              have e95 : I82 a_this 1 = x64 := (hFc87.i t69 (by decide) nm0 rfl).trans e65
              have hv96 : ((-2147483648 : Int) ≤ v2_2 + 1 ∧ (v2_2 + 1 : Int) ≤ 2147483647) ∧ (0 ≤ (v2_2 + 1)) ∧ ((v2_2 + 1) ≤ I82 g_u 2) ∧ (I82 g_u 2 ≤ 8) ∧ (I a_this 5 + (v2_2 + 1) ≤ I82 a_this 5) ∧ ((zc2 + dz56 : Int) ≤ 4 * (v2_2 + 1)) ∧ ((zs2 + dl57 : Int) ≤ 31 * (v2_2 + 1)) ∧ ((zc2 + dz56 : Int) ≤ 4 * (I82 a_this 5 - I a_this 5)) ∧ ((zs2 + dl57 : Int) ≤ 31 * (I82 a_this 5 - I a_this 5)) ∧ (I82 a_this 5 ≤ g_n) ∧ (I82 a_this 1 = I a_this 1) ∧ (0 ≤ 9 - (v2_2 + 1)) := by first | omega | exact ⟨by first | omega | assumption | exact trivial, by first | omega | assumption | exact trivial, by first | omega | assumption | exact trivial, by first | omega | assumption | exact trivial, by first | omega | assumption | exact trivial, by first | omega | assumption | exact trivial, by first | omega | assumption | exact trivial, by first | omega | assumption | exact trivial, by first | omega | assumption | exact trivial, by first | omega | assumption | exact trivial, by first | omega | assumption | exact trivial, by first | omega | assumption | exact trivial⟩
              exact IH2 (v2_2 + 1) L50 T51 N52 I82 J83 R55 (zc2 + dz56) (zs2 + dl57) _ _ ls hM hF (lv_sub hl [1, 2, 0] rfl) hv96.1 hv96.2.1 hv96.2.2.1 hv96.2.2.2.1 hv96.2.2.2.2.1 hv96.2.2.2.2.2.1 hv96.2.2.2.2.2.2.1 hv96.2.2.2.2.2.2.2.1 hv96.2.2.2.2.2.2.2.2.1 hv96.2.2.2.2.2.2.2.2.2.1 (by rw [e89, e91]; first | assumption | omega) hv96.2.2.2.2.2.2.2.2.2.2.1 hv96.2.2.2.2.2.2.2.2.2.2.2 (by omega)
            · refine q_con B dX6_readUses_53 ?_
              refine g_zret B hM dX6_readUses_54 ⟨by show zc2 + dz56 ≤ 36; omega, by show zs2 + dl57 ≤ 279; omega⟩ (by omega) (by omega) ?_
              rw [← hPST]
              exact ⟨(1), rfl, by omega, hF, by omega, by omega, by first | omega | assumption | exact trivial, by show g_S (I53 a_this 5).toNat = I53 a_this 6; rw [e60, e62]; first | assumption | omega, by first | omega | assumption | exact trivial, by first | omega | assumption | exact trivial, by first | omega | assumption | exact trivial, by first | omega | assumption | exact trivial, by first | omega | assumption | exact trivial, by first | omega | assumption | exact trivial⟩
          · refine q_con B dX6_readUses_42 ?_
            refine g_zret B hM dX6_readUses_43 ⟨by show zc2 + dz56 ≤ 36; omega, by show zs2 + dl57 ≤ 279; omega⟩ (by omega) (by omega) ?_
            rw [← hPST]
            exact ⟨(0), rfl, by omega, hF, by omega, by omega, by first | omega | assumption | exact trivial, by show g_S (I53 a_this 5).toNat = I53 a_this 6; rw [e60, e62]; first | assumption | omega, by first | omega | assumption | exact trivial, by first | omega | assumption | exact trivial, by first | omega | assumption | exact trivial, by first | omega | assumption | exact trivial, by first | omega | assumption | exact trivial, by first | omega | assumption | exact trivial⟩
        · refine lv_aload_n B.1 B.2.1 dX6_readUses_28 rfl (lv_at hl 0 rfl) ?_
          refine q_con B dX6_readUses_29 ?_
          have hv97 : ((-2147483648 : Int) ≤ 2 ∧ (2 : Int) ≤ 2147483647) ∧ ((2 : Int) ≠ 0) := by first | omega | exact ⟨by first | omega | assumption | exact trivial, by first | omega | assumption | exact trivial⟩
          refine z_calli hM hA (c_runV (n := 1) (as := [.int (II 2)]) (rest := []) B hX hA hM hl.1 t17 kd7 rfl (k_X6_wrong l D dA eA L_2 T_2 N_2 I_2 J_2 R_2 a_this t17 (2) hv97.1 hv97.2 _ _) ml_X6_84 nm_X6_wrong ⟨rfl, rfl⟩ ⟨Nat.le_of_ble_eq_true rfl, Nat.le_of_ble_eq_true rfl⟩ dX6_readUses_30 rfl rfl (Nat.le_of_ble_eq_true rfl) ⟨by show zc2 + 0 ≤ 36; omega, by show zs2 + 0 ≤ 279; omega⟩) (fun x99 ix99 L100 T101 N102 I103 J104 R105 dz106 dl107 H locs hp98 hMn => ?_)
          obtain ⟨yL100, yT101, yN102, yJ104, yR105, hFc108, hp98a⟩ := hp98
          obtain rfl := yL100.symm; obtain rfl := yT101.symm; obtain rfl := yN102.symm; obtain rfl := yJ104.symm; obtain rfl := yR105.symm
          replace hF : Fr mo_X6_readUses [] T N I J R T_2 N_2 I103 J_2 R_2 := hF.trans hFc108 (by decide) e20
          have hM := hMn
          clear hMn
          replace hp98a : (0 : Int) ≤ x99 ∧ x99 ≤ 1 ∧ (x99 = 0 ∧ I103 a_this 1 ≠ 0) := hp98a
          obtain ⟨hp98a_0, hp98a_1, hp98a_2⟩ := hp98a
          obtain ⟨hp98a_2_0, hp98a_2_1⟩ := hp98a_2
          obtain ⟨x109, e110⟩ : ∃ v, I103 a_this 1 = v := ⟨_, rfl⟩
          have e111 : I103 a_this 5 = x11 := (hFc108.i t17 (by decide) nm0 rfl).trans e12
          have e112 : I103 a_this 6 = x13 := (hFc108.i t17 (by decide) nm0 rfl).trans e14
          refine g_zret B hM dX6_readUses_33 ⟨by show zc2 ≤ 36; omega, by show zs2 ≤ 279; omega⟩ (by omega) (by omega) ?_
          rw [← hPST]
          exact ⟨x99, rfl, by omega, hF, by omega, by omega, by first | omega | assumption | exact trivial, by show g_S (I103 a_this 5).toNat = I103 a_this 6; rw [e111, e112]; first | assumption | omega, by first | omega | assumption | exact trivial, by first | omega | assumption | exact trivial, by first | omega | assumption | exact trivial, by first | omega | assumption | exact trivial, by first | omega | assumption | exact trivial, by first | omega | assumption | exact trivial⟩
  have hv113 : ((-2147483648 : Int) ≤ 0 ∧ (0 : Int) ≤ 2147483647) ∧ (0 ≤ (0 : Int)) ∧ ((0 : Int) ≤ I g_u 2) ∧ (I g_u 2 ≤ 8) ∧ (I a_this 5 + (0 : Int) ≤ I a_this 5) ∧ (0 ≤ 4 * (0 : Int)) ∧ (0 ≤ 31 * (0 : Int)) ∧ (0 ≤ 4 * (I a_this 5 - I a_this 5)) ∧ (0 ≤ 31 * (I a_this 5 - I a_this 5)) ∧ (I a_this 5 ≤ g_n) ∧ (I a_this 1 = I a_this 1) ∧ (0 ≤ 9 - (0 : Int)) := by first | omega | exact ⟨by first | omega | assumption | exact trivial, by first | omega | assumption | exact trivial, by first | omega | assumption | exact trivial, by first | omega | assumption | exact trivial, by first | omega | assumption | exact trivial, by first | omega | assumption | exact trivial, by first | omega | assumption | exact trivial, by first | omega | assumption | exact trivial, by first | omega | assumption | exact trivial, by first | omega | assumption | exact trivial, by first | omega | assumption | exact trivial, by first | omega | assumption | exact trivial⟩
  exact LL2 (Int.toNat (9 - (0 : Int) + 1)) 0 L T N I J R 0 0 _ _ ls hM hF (lv_sub hl [1, 2, 0] rfl) hv113.1 hv113.2.1 hv113.2.2.1 hv113.2.2.2.1 hv113.2.2.2.2.1 hv113.2.2.2.2.2.1 hv113.2.2.2.2.2.2.1 hv113.2.2.2.2.2.2.2.1 hv113.2.2.2.2.2.2.2.2.1 hv113.2.2.2.2.2.2.2.2.2.1 (by rw [e2, e4]; first | assumption | omega) hv113.2.2.2.2.2.2.2.2.2.2.1 hv113.2.2.2.2.2.2.2.2.2.2.2 (by omega)

def mo_X6_readType : List Nat := [229, 230, 231, 225, 226, 321, 322]
set_option maxHeartbeats 1000000 in
set_option maxRecDepth 20000 in
theorem k_X6_readType (l : Launch) (D : va_G) (dA : Nat → ClassId) (eA : Nat) (L : List Nat) (T N : Nat → Nat) (I : Nat → Nat → Int) (J : Nat → Nat → Int64) (R : Nat → Nat → Nat) (a_this : Nat) (t_this : T a_this = 7) (a_spot : Nat) (t_spot : T a_spot = 10) (g_t : Nat) (g_s : Nat) (g_S : Nat → Int) (g_n : Int) (p_0 : R a_this 3 = g_t + 1) (p_1 : T g_t = 3) (p_2 : R g_t 0 = g_s + 1) (p_3 : T g_s = 62) (p_4 : I g_s = g_S) (p_5 : TKz g_S g_n) (p_6 : I a_this 5 ≤ g_n) (p_7 : g_S (I a_this 5).toNat = I a_this 6) : GC l yX6_readType cX6_readType 2 (some .boolean) ({ frames := 2, cells := 0, slots := 0, locals := 46 }) D dA eA L T N I J R [.ref a_this, .ref a_spot] 0 0 (gI (fun r L' T' N' I' J' R' dz dl => L' = L ∧ T' = T ∧ N' = N ∧ R' = R ∧ Fr mo_X6_readType [] T N I J R T' N' I' J' R' ∧ (0 : Int) ≤ r ∧ r ≤ 1 ∧ (I' a_this 5 ≤ g_n ∧ g_S (I' a_this 5).toNat = I' a_this 6 ∧ I a_this 5 ≤ I' a_this 5 ∧ ((r = 0 ∧ I' a_this 1 ≠ 0) ∨ (r = 1 ∧ I' a_this 1 = I a_this 1 ∧ I a_this 5 + 0 ≤ I' a_this 5))))) := by
  generalize hPST : (gI (fun r L' T' N' I' J' R' dz dl => L' = L ∧ T' = T ∧ N' = N ∧ R' = R ∧ Fr mo_X6_readType [] T N I J R T' N' I' J' R' ∧ (0 : Int) ≤ r ∧ r ≤ 1 ∧ (I' a_this 5 ≤ g_n ∧ g_S (I' a_this 5).toNat = I' a_this 6 ∧ I a_this 5 ≤ I' a_this 5 ∧ ((r = 0 ∧ I' a_this 1 ≠ 0) ∨ (r = 1 ∧ I' a_this 1 = I a_this 1 ∧ I a_this 5 + 0 ≤ I' a_this 5))))) = PST
  refine g_enter (own := RX6) (by decide) rfl (Nat.le_of_ble_eq_true rfl) (fun p e s m args below meth c ls hm B hX hM hl => ?_)
  have hC0 := hM.2.2.2.2.2.2.1
  have hW0 := hM.2.2.2
  have hF : Fr mo_X6_readType [] T N I J R T N I J R := Fr.rf
  have hA : ∀ q, s.heap.size ≤ q → cF dA L T N I J R s.heap.size q := fun q h => Or.inr h
  have hl : lv_has ls 2 [(0, .ref a_this), (1, .ref a_spot)] := hl
  obtain ⟨x1, e2⟩ : ∃ v, I a_this 5 = v := ⟨_, rfl⟩
  obtain ⟨x3, e4⟩ : ∃ v, I a_this 6 = v := ⟨_, rfl⟩
  have nz5 : g_S (x1).toNat = x3 := by have h9 := p_7; rw [e2, e4] at h9; exact h9
  obtain ⟨x6, e7⟩ : ∃ v, I a_this 1 = v := ⟨_, rfl⟩
  refine lv_aload_n B.1 B.2.1 dX6_readType_0 rfl (lv_at hl 0 rfl) ?_
  refine q_bip B dX6_readType_1 (by decide) ?_
  refine p_calli (c_runV (n := 1) (as := [.int (II 7)]) (rest := []) B hX hA hM hl.1 t_this kd7 rfl (k_X6_isWord l D dA eA L T N I J R a_this t_this (7) (by first | omega | assumption | exact trivial) _ _) ml_X6_64 nm_X6_isWord ⟨rfl, rfl⟩ ⟨Nat.le_of_ble_eq_true rfl, Nat.le_of_ble_eq_true rfl⟩ dX6_readType_3 rfl rfl (Nat.le_of_ble_eq_true rfl) ⟨Nat.zero_le _, Nat.zero_le _⟩) (fun x9 ix9 hp8 => ?_)
  have hp8a := hp8
  replace hp8a : (0 : Int) ≤ x9 ∧ x9 ≤ 1 ∧ (True) := hp8a
  obtain ⟨hp8a_0, hp8a_1, hp8a_2⟩ := hp8a
  refine q_ine (tgt := 18) B dX6_readType_6 (by decide) (by unfold inr; omega) (fun c10 => ?_) (fun c10 => ?_)
  · refine lv_aload_n B.1 B.2.1 dX6_readType_18 rfl (lv_at hl 1 rfl) ?_
    refine lv_aload_n B.1 B.2.1 dX6_readType_19 rfl (lv_at hl 0 rfl) ?_
    obtain ⟨w11, e12⟩ : ∃ v, J a_this 7 = v := ⟨_, rfl⟩
    refine c_getl (k := 7) pk_X6 B hM t_this kd7 rfl (by decide) fl_X6_54 dX6_readType_20 e12 ?_
    refine lv_ldc2 B.1 B.2.1 B.2.2.2.1 (B.2.2.2.2.1 _ lc_X6_243) dX6_readType_23 ?_
    refine q_lcmp B dX6_readType_26 (fun x13 lx13 ux13 ex13 => ?_)
    refine q_ine (tgt := 34) B dX6_readType_27 (by decide) (by unfold inr; omega) (fun c14 => ?_) (fun c14 => ?_)
    · refine q_con B dX6_readType_34 ?_
      refine c_puti (k := 1) pk_X8 B hM t_spot kd10 rfl (by decide) fl_X6_245 (Or.inl rfl) dX6_readType_35 rfl rfl rfl (show (-2147483648 : Int) ≤ 2 from by omega) (show 2 ≤ (2147483647 : Int) from by omega) (fun I15 H locs hu16 hM => ?_)
      have e17 : I15 a_spot 1 = 2 := w2_at hu16
      replace hF : Fr mo_X6_readType [] T N I J R T N I15 J R := hF.wi hu16 (fun _ _ => by rw [t_spot]; rfl)
      refine lv_aload_n B.1 B.2.1 dX6_readType_38 rfl (lv_at hl 0 rfl) ?_
      have e18 : I15 a_this 5 = x1 := (w2_ne hu16 (Or.inl (tne t_this t_spot (by decide)))).trans e2
      have e19 : I15 a_this 6 = x3 := (w2_ne hu16 (Or.inl (tne t_this t_spot (by decide)))).trans e4
      have hv20 : (TKz g_S g_n) ∧ (I15 a_this 5 ≤ g_n) := by first | omega | exact ⟨by first | omega | assumption | exact trivial, by first | omega | assumption | exact trivial⟩
      refine z_callv hM hA (c_runV (n := 0) (as := []) (rest := []) B hX hA hM hl.1 t_this kd7 rfl (k_X6_advance l D dA eA L T N I15 J R a_this t_this g_t g_s g_S g_n (show R a_this 3 = g_t + 1 from p_0) (show T g_t = 3 from p_1) (show R g_t 0 = g_s + 1 from p_2) (show T g_s = 62 from p_3) (show I15 g_s = g_S from ((Fr.irow hF p_3 (by decide) nm0 (by decide)).trans p_4)) hv20.1 hv20.2 (show g_S (I15 a_this 5).toNat = I15 a_this 6 from by rw [e18, e19]; first | assumption | omega) _ _) ml_X6_87 nm_X6_advance ⟨rfl, rfl⟩ ⟨Nat.le_of_ble_eq_true rfl, Nat.le_of_ble_eq_true rfl⟩ dX6_readType_39 rfl rfl (Nat.le_of_ble_eq_true rfl) ⟨Nat.zero_le _, Nat.zero_le _⟩) (fun L23 T24 N25 I26 J27 R28 dz29 dl30 H locs hp21 hMn => ?_)
      obtain ⟨yL23, yT24, yN25, yR28, hFc31, hp21a⟩ := hp21
      obtain rfl := yL23.symm; obtain rfl := yT24.symm; obtain rfl := yN25.symm; obtain rfl := yR28.symm
      replace hF : Fr mo_X6_readType [] T N I J R T N I26 J27 R := hF.trans hFc31 (by decide) e20
      have hM := hMn
      clear hMn
      replace hp21a : I26 a_this 5 ≤ g_n ∧ g_S (I26 a_this 5).toNat = I26 a_this 6 ∧ (((I15 a_this 6 = 0 ∨ I15 a_this 6 = 1) ∧ I26 a_this 5 = I15 a_this 5) ∨ (I26 a_this 5 = I15 a_this 5 + 1)) := hp21a
      obtain ⟨hp21a_0, hp21a_1, hp21a_2⟩ := hp21a
      obtain ⟨x32, e33⟩ : ∃ v, I26 a_this 5 = v := ⟨_, rfl⟩
      obtain ⟨x34, e35⟩ : ∃ v, I26 a_this 6 = v := ⟨_, rfl⟩
      have nz36 : g_S (x32).toNat = x34 := by have h9 := hp21a_1; rw [e33, e35] at h9; exact h9
      refine q_con B dX6_readType_42 ?_
      have e37 : I15 a_this 1 = x6 := (w2_ne hu16 (Or.inl (tne t_this t_spot (by decide)))).trans e7
      have e38 : I26 a_this 1 = x6 := (hFc31.i t_this (by decide) nm0 rfl).trans e37
      refine g_zret B hM dX6_readType_43 ⟨Nat.le_refl _, Nat.le_refl _⟩ (by omega) (by omega) ?_
      rw [← hPST]
      exact ⟨(1), rfl, by omega, rfl, rfl, rfl, rfl, hF, by omega, by omega, by first | omega | assumption | exact trivial, by show g_S (I26 a_this 5).toNat = I26 a_this 6; rw [e33, e35]; first | assumption | omega, by first | omega | assumption | exact trivial, by first | omega | assumption | exact trivial⟩
    · refine q_con B dX6_readType_30 ?_
      refine lv_goto (tgt := 35) B.1 B.2.1 dX6_readType_31 (by decide) ?_
      refine c_puti (k := 1) pk_X8 B hM t_spot kd10 rfl (by decide) fl_X6_245 (Or.inl rfl) dX6_readType_35 rfl rfl rfl (show (-2147483648 : Int) ≤ 1 from by omega) (show 1 ≤ (2147483647 : Int) from by omega) (fun I39 H locs hu40 hM => ?_)
      have e41 : I39 a_spot 1 = 1 := w2_at hu40
      replace hF : Fr mo_X6_readType [] T N I J R T N I39 J R := hF.wi hu40 (fun _ _ => by rw [t_spot]; rfl)
      refine lv_aload_n B.1 B.2.1 dX6_readType_38 rfl (lv_at hl 0 rfl) ?_
      have e42 : I39 a_this 5 = x1 := (w2_ne hu40 (Or.inl (tne t_this t_spot (by decide)))).trans e2
      have e43 : I39 a_this 6 = x3 := (w2_ne hu40 (Or.inl (tne t_this t_spot (by decide)))).trans e4
      have hv44 : (TKz g_S g_n) ∧ (I39 a_this 5 ≤ g_n) := by first | omega | exact ⟨by first | omega | assumption | exact trivial, by first | omega | assumption | exact trivial⟩
      refine z_callv hM hA (c_runV (n := 0) (as := []) (rest := []) B hX hA hM hl.1 t_this kd7 rfl (k_X6_advance l D dA eA L T N I39 J R a_this t_this g_t g_s g_S g_n (show R a_this 3 = g_t + 1 from p_0) (show T g_t = 3 from p_1) (show R g_t 0 = g_s + 1 from p_2) (show T g_s = 62 from p_3) (show I39 g_s = g_S from ((Fr.irow hF p_3 (by decide) nm0 (by decide)).trans p_4)) hv44.1 hv44.2 (show g_S (I39 a_this 5).toNat = I39 a_this 6 from by rw [e42, e43]; first | assumption | omega) _ _) ml_X6_87 nm_X6_advance ⟨rfl, rfl⟩ ⟨Nat.le_of_ble_eq_true rfl, Nat.le_of_ble_eq_true rfl⟩ dX6_readType_39 rfl rfl (Nat.le_of_ble_eq_true rfl) ⟨Nat.zero_le _, Nat.zero_le _⟩) (fun L47 T48 N49 I50 J51 R52 dz53 dl54 H locs hp45 hMn => ?_)
      obtain ⟨yL47, yT48, yN49, yR52, hFc55, hp45a⟩ := hp45
      obtain rfl := yL47.symm; obtain rfl := yT48.symm; obtain rfl := yN49.symm; obtain rfl := yR52.symm
      replace hF : Fr mo_X6_readType [] T N I J R T N I50 J51 R := hF.trans hFc55 (by decide) e20
      have hM := hMn
      clear hMn
      replace hp45a : I50 a_this 5 ≤ g_n ∧ g_S (I50 a_this 5).toNat = I50 a_this 6 ∧ (((I39 a_this 6 = 0 ∨ I39 a_this 6 = 1) ∧ I50 a_this 5 = I39 a_this 5) ∨ (I50 a_this 5 = I39 a_this 5 + 1)) := hp45a
      obtain ⟨hp45a_0, hp45a_1, hp45a_2⟩ := hp45a
      obtain ⟨x56, e57⟩ : ∃ v, I50 a_this 5 = v := ⟨_, rfl⟩
      obtain ⟨x58, e59⟩ : ∃ v, I50 a_this 6 = v := ⟨_, rfl⟩
      have nz60 : g_S (x56).toNat = x58 := by have h9 := hp45a_1; rw [e57, e59] at h9; exact h9
      refine q_con B dX6_readType_42 ?_
      have e61 : I39 a_this 1 = x6 := (w2_ne hu40 (Or.inl (tne t_this t_spot (by decide)))).trans e7
      have e62 : I50 a_this 1 = x6 := (hFc55.i t_this (by decide) nm0 rfl).trans e61
      refine g_zret B hM dX6_readType_43 ⟨Nat.le_refl _, Nat.le_refl _⟩ (by omega) (by omega) ?_
      rw [← hPST]
      exact ⟨(1), rfl, by omega, rfl, rfl, rfl, rfl, hF, by omega, by omega, by first | omega | assumption | exact trivial, by show g_S (I50 a_this 5).toNat = I50 a_this 6; rw [e57, e59]; first | assumption | omega, by first | omega | assumption | exact trivial, by first | omega | assumption | exact trivial⟩
  · refine lv_aload_n B.1 B.2.1 dX6_readType_9 rfl (lv_at hl 0 rfl) ?_
    refine q_bip B dX6_readType_10 (by decide) ?_
    refine p_calli (c_runV (n := 1) (as := [.int (II 8)]) (rest := []) B hX hA hM hl.1 t_this kd7 rfl (k_X6_isWord l D dA eA L T N I J R a_this t_this (8) (by first | omega | assumption | exact trivial) _ _) ml_X6_64 nm_X6_isWord ⟨rfl, rfl⟩ ⟨Nat.le_of_ble_eq_true rfl, Nat.le_of_ble_eq_true rfl⟩ dX6_readType_12 rfl rfl (Nat.le_of_ble_eq_true rfl) ⟨Nat.zero_le _, Nat.zero_le _⟩) (fun x64 ix64 hp63 => ?_)
    have hp63a := hp63
    replace hp63a : (0 : Int) ≤ x64 ∧ x64 ≤ 1 ∧ (True) := hp63a
    obtain ⟨hp63a_0, hp63a_1, hp63a_2⟩ := hp63a
    refine q_ieq (tgt := 44) B dX6_readType_15 (by decide) (by unfold inr; omega) (fun c65 => ?_) (fun c65 => ?_)
    · refine lv_aload_n B.1 B.2.1 dX6_readType_44 rfl (lv_at hl 1 rfl) ?_
      refine q_con B dX6_readType_45 ?_
      refine c_puti (k := 1) pk_X8 B hM t_spot kd10 rfl (by decide) fl_X6_245 (Or.inl rfl) dX6_readType_46 rfl rfl rfl (show (-2147483648 : Int) ≤ 3 from by omega) (show 3 ≤ (2147483647 : Int) from by omega) (fun I66 H locs hu67 hM => ?_)
      have e68 : I66 a_spot 1 = 3 := w2_at hu67
      replace hF : Fr mo_X6_readType [] T N I J R T N I66 J R := hF.wi hu67 (fun _ _ => by rw [t_spot]; rfl)
      refine lv_aload_n B.1 B.2.1 dX6_readType_49 rfl (lv_at hl 0 rfl) ?_
      refine q_bip B dX6_readType_50 (by decide) ?_
      refine p_calli (c_runV (n := 1) (as := [.int (II 9)]) (rest := []) B hX hA hM hl.1 t_this kd7 rfl (k_X6_isWord l D dA eA L T N I66 J R a_this t_this (9) (by first | omega | assumption | exact trivial) _ _) ml_X6_64 nm_X6_isWord ⟨rfl, rfl⟩ ⟨Nat.le_of_ble_eq_true rfl, Nat.le_of_ble_eq_true rfl⟩ dX6_readType_52 rfl rfl (Nat.le_of_ble_eq_true rfl) ⟨Nat.zero_le _, Nat.zero_le _⟩) (fun x70 ix70 hp69 => ?_)
      have hp69a := hp69
      replace hp69a : (0 : Int) ≤ x70 ∧ x70 ≤ 1 ∧ (True) := hp69a
      obtain ⟨hp69a_0, hp69a_1, hp69a_2⟩ := hp69a
      refine q_ieq (tgt := 67) B dX6_readType_55 (by decide) (by unfold inr; omega) (fun c71 => ?_) (fun c71 => ?_)
      · refine lv_aload_n B.1 B.2.1 dX6_readType_67 rfl (lv_at hl 0 rfl) ?_
        have e72 : I66 a_this 6 = x3 := (w2_ne hu67 (Or.inl (tne t_this t_spot (by decide)))).trans e4
        have r73 : (-2147483648 : Int) ≤ x3 ∧ x3 ≤ 2147483647 := by rw [← e72]; exact g7_6 hM.2.2.2.2.2.2.1 t_this
        refine c_geti (k := 6) pk_X6 B hM t_this kd7 rfl (by decide) fl_X6_47 dX6_readType_68 e72 ?_
        refine q_con B dX6_readType_71 ?_
        refine q_ceq (tgt := 81) B dX6_readType_72 (by decide) (by unfold inr; omega) (by unfold inr; omega) (fun c74 => ?_) (fun c74 => ?_)
        · refine lv_aload_n B.1 B.2.1 dX6_readType_81 rfl (lv_at hl 1 rfl) ?_
          refine lv_aload_n B.1 B.2.1 dX6_readType_82 rfl (lv_at hl 0 rfl) ?_
          refine q_con B dX6_readType_83 ?_
          have hv75 : ((-2147483648 : Int) ≤ 5 ∧ (5 : Int) ≤ 2147483647) ∧ (1 ≤ (5 : Int)) := by first | omega | exact ⟨by first | omega | assumption | exact trivial, by first | omega | assumption | exact trivial⟩
          refine z_calli hM hA (c_runV (n := 1) (as := [.int (II 5)]) (rest := [.ref a_spot]) B hX hA hM hl.1 t_this kd7 rfl (k_X6_readReference l D dA eA L T N I66 J R a_this t_this (5) hv75.1 hv75.2 _ _) ml_X6_104 nm_X6_readReference ⟨rfl, rfl⟩ ⟨Nat.le_of_ble_eq_true rfl, Nat.le_of_ble_eq_true rfl⟩ dX6_readType_84 rfl rfl (Nat.le_of_ble_eq_true rfl) ⟨Nat.zero_le _, Nat.zero_le _⟩) (fun x77 ix77 L78 T79 N80 I81 J82 R83 dz84 dl85 H locs hp76 hMn => ?_)
          obtain ⟨yL78, yT79, yN80, yJ82, yR83, hFc86, hp76a⟩ := hp76
          obtain rfl := yL78.symm; obtain rfl := yT79.symm; obtain rfl := yN80.symm; obtain rfl := yJ82.symm; obtain rfl := yR83.symm
          replace hF : Fr mo_X6_readType [] T N I J R T N I81 J R := hF.trans hFc86 (by decide) e20
          have hM := hMn
          clear hMn
          replace hp76a : ((x77 = -1 ∧ I81 a_this 1 ≠ 0) ∨ (0 ≤ x77 ∧ x77 ≤ 99 ∧ I81 a_this 1 = I66 a_this 1)) := hp76a
          have e87 : I66 a_this 1 = x6 := (w2_ne hu67 (Or.inl (tne t_this t_spot (by decide)))).trans e7
          obtain ⟨x88, e89⟩ : ∃ v, I81 a_this 1 = v := ⟨_, rfl⟩
          refine c_puti (k := 2) pk_X8 B hM t_spot kd10 rfl (by decide) fl_X6_248 (Or.inl rfl) dX6_readType_87 rfl rfl rfl (show (-2147483648 : Int) ≤ x77 from by omega) (show x77 ≤ (2147483647 : Int) from by omega) (fun I90 H locs hu91 hM => ?_)
          have e92 : I90 a_spot 2 = x77 := w2_at hu91
          replace hF : Fr mo_X6_readType [] T N I J R T N I90 J R := hF.wi hu91 (fun _ _ => by rw [t_spot]; rfl)
          refine lv_aload_n B.1 B.2.1 dX6_readType_90 rfl (lv_at hl 1 rfl) ?_
          refine c_geti (k := 2) pk_X8 B hM t_spot kd10 rfl (by decide) fl_X6_248 dX6_readType_91 e92 ?_
          refine q_con B dX6_readType_94 ?_
          refine q_cne (tgt := 100) B dX6_readType_95 (by decide) (by unfold inr; omega) (by unfold inr; omega) (fun c93 => ?_) (fun c93 => ?_)
          · refine lv_aload_n B.1 B.2.1 dX6_readType_100 rfl (lv_at hl 0 rfl) ?_
            have e94 : I66 a_this 5 = x1 := (w2_ne hu67 (Or.inl (tne t_this t_spot (by decide)))).trans e2
            have e95 : I81 a_this 5 = x1 := (hFc86.i t_this (by decide) nm0 rfl).trans e94
            have e96 : I90 a_this 5 = x1 := (w2_ne hu91 (Or.inl (tne t_this t_spot (by decide)))).trans e95
            have e97 : I81 a_this 6 = x3 := (hFc86.i t_this (by decide) nm0 rfl).trans e72
            have e98 : I90 a_this 6 = x3 := (w2_ne hu91 (Or.inl (tne t_this t_spot (by decide)))).trans e97
            have hv99 : (TKz g_S g_n) ∧ (I90 a_this 5 ≤ g_n) := by first | omega | exact ⟨by first | omega | assumption | exact trivial, by first | omega | assumption | exact trivial⟩
            refine z_callv hM hA (c_runV (n := 0) (as := []) (rest := []) B hX hA hM hl.1 t_this kd7 rfl (k_X6_advance l D dA eA L T N I90 J R a_this t_this g_t g_s g_S g_n (show R a_this 3 = g_t + 1 from p_0) (show T g_t = 3 from p_1) (show R g_t 0 = g_s + 1 from p_2) (show T g_s = 62 from p_3) (show I90 g_s = g_S from ((Fr.irow hF p_3 (by decide) nm0 (by decide)).trans p_4)) hv99.1 hv99.2 (show g_S (I90 a_this 5).toNat = I90 a_this 6 from by rw [e96, e98]; first | assumption | omega) _ _) ml_X6_87 nm_X6_advance ⟨rfl, rfl⟩ ⟨Nat.le_of_ble_eq_true rfl, Nat.le_of_ble_eq_true rfl⟩ dX6_readType_101 rfl rfl (Nat.le_of_ble_eq_true rfl) ⟨Nat.zero_le _, Nat.zero_le _⟩) (fun L102 T103 N104 I105 J106 R107 dz108 dl109 H locs hp100 hMn => ?_)
            obtain ⟨yL102, yT103, yN104, yR107, hFc110, hp100a⟩ := hp100
            obtain rfl := yL102.symm; obtain rfl := yT103.symm; obtain rfl := yN104.symm; obtain rfl := yR107.symm
            replace hF : Fr mo_X6_readType [] T N I J R T N I105 J106 R := hF.trans hFc110 (by decide) e20
            have hM := hMn
            clear hMn
            replace hp100a : I105 a_this 5 ≤ g_n ∧ g_S (I105 a_this 5).toNat = I105 a_this 6 ∧ (((I90 a_this 6 = 0 ∨ I90 a_this 6 = 1) ∧ I105 a_this 5 = I90 a_this 5) ∨ (I105 a_this 5 = I90 a_this 5 + 1)) := hp100a
            obtain ⟨hp100a_0, hp100a_1, hp100a_2⟩ := hp100a
            obtain ⟨x111, e112⟩ : ∃ v, I105 a_this 5 = v := ⟨_, rfl⟩
            obtain ⟨x113, e114⟩ : ∃ v, I105 a_this 6 = v := ⟨_, rfl⟩
            have nz115 : g_S (x111).toNat = x113 := by have h9 := hp100a_1; rw [e112, e114] at h9; exact h9
            refine q_con B dX6_readType_104 ?_
            have e116 : I90 a_this 1 = x88 := (w2_ne hu91 (Or.inl (tne t_this t_spot (by decide)))).trans e89
            have e117 : I105 a_this 1 = x88 := (hFc110.i t_this (by decide) nm0 rfl).trans e116
            refine g_zret B hM dX6_readType_105 ⟨Nat.le_refl _, Nat.le_refl _⟩ (by omega) (by omega) ?_
            rw [← hPST]
            exact ⟨(1), rfl, by omega, rfl, rfl, rfl, rfl, hF, by omega, by omega, by first | omega | assumption | exact trivial, by show g_S (I105 a_this 5).toNat = I105 a_this 6; rw [e112, e114]; first | assumption | omega, by first | omega | assumption | exact trivial, by first | omega | assumption | exact trivial⟩
          · refine q_con B dX6_readType_98 ?_
            have e118 : I66 a_this 5 = x1 := (w2_ne hu67 (Or.inl (tne t_this t_spot (by decide)))).trans e2
            have e119 : I81 a_this 5 = x1 := (hFc86.i t_this (by decide) nm0 rfl).trans e118
            have e120 : I90 a_this 5 = x1 := (w2_ne hu91 (Or.inl (tne t_this t_spot (by decide)))).trans e119
            have e121 : I81 a_this 6 = x3 := (hFc86.i t_this (by decide) nm0 rfl).trans e72
            have e122 : I90 a_this 6 = x3 := (w2_ne hu91 (Or.inl (tne t_this t_spot (by decide)))).trans e121
            have e123 : I90 a_this 1 = x88 := (w2_ne hu91 (Or.inl (tne t_this t_spot (by decide)))).trans e89
            refine g_zret B hM dX6_readType_99 ⟨Nat.le_refl _, Nat.le_refl _⟩ (by omega) (by omega) ?_
            rw [← hPST]
            exact ⟨(0), rfl, by omega, rfl, rfl, rfl, rfl, hF, by omega, by omega, by first | omega | assumption | exact trivial, by show g_S (I90 a_this 5).toNat = I90 a_this 6; rw [e120, e122]; first | assumption | omega, by first | omega | assumption | exact trivial, by first | omega | assumption | exact trivial⟩
        · refine lv_aload_n B.1 B.2.1 dX6_readType_75 rfl (lv_at hl 0 rfl) ?_
          refine q_con B dX6_readType_76 ?_
          have hv124 : ((-2147483648 : Int) ≤ 2 ∧ (2 : Int) ≤ 2147483647) ∧ ((2 : Int) ≠ 0) := by first | omega | exact ⟨by first | omega | assumption | exact trivial, by first | omega | assumption | exact trivial⟩
          refine z_calli hM hA (c_runV (n := 1) (as := [.int (II 2)]) (rest := []) B hX hA hM hl.1 t_this kd7 rfl (k_X6_wrong l D dA eA L T N I66 J R a_this t_this (2) hv124.1 hv124.2 _ _) ml_X6_84 nm_X6_wrong ⟨rfl, rfl⟩ ⟨Nat.le_of_ble_eq_true rfl, Nat.le_of_ble_eq_true rfl⟩ dX6_readType_77 rfl rfl (Nat.le_of_ble_eq_true rfl) ⟨Nat.zero_le _, Nat.zero_le _⟩) (fun x126 ix126 L127 T128 N129 I130 J131 R132 dz133 dl134 H locs hp125 hMn => ?_)
          obtain ⟨yL127, yT128, yN129, yJ131, yR132, hFc135, hp125a⟩ := hp125
          obtain rfl := yL127.symm; obtain rfl := yT128.symm; obtain rfl := yN129.symm; obtain rfl := yJ131.symm; obtain rfl := yR132.symm
          replace hF : Fr mo_X6_readType [] T N I J R T N I130 J R := hF.trans hFc135 (by decide) e20
          have hM := hMn
          clear hMn
          replace hp125a : (0 : Int) ≤ x126 ∧ x126 ≤ 1 ∧ (x126 = 0 ∧ I130 a_this 1 ≠ 0) := hp125a
          obtain ⟨hp125a_0, hp125a_1, hp125a_2⟩ := hp125a
          obtain ⟨hp125a_2_0, hp125a_2_1⟩ := hp125a_2
          have e136 : I66 a_this 1 = x6 := (w2_ne hu67 (Or.inl (tne t_this t_spot (by decide)))).trans e7
          obtain ⟨x137, e138⟩ : ∃ v, I130 a_this 1 = v := ⟨_, rfl⟩
          have e139 : I66 a_this 5 = x1 := (w2_ne hu67 (Or.inl (tne t_this t_spot (by decide)))).trans e2
          have e140 : I130 a_this 5 = x1 := (hFc135.i t_this (by decide) nm0 rfl).trans e139
          have e141 : I130 a_this 6 = x3 := (hFc135.i t_this (by decide) nm0 rfl).trans e72
          refine g_zret B hM dX6_readType_80 ⟨Nat.le_refl _, Nat.le_refl _⟩ (by omega) (by omega) ?_
          rw [← hPST]
          exact ⟨x126, rfl, by omega, rfl, rfl, rfl, rfl, hF, by omega, by omega, by first | omega | assumption | exact trivial, by show g_S (I130 a_this 5).toNat = I130 a_this 6; rw [e140, e141]; first | assumption | omega, by first | omega | assumption | exact trivial, by first | omega | assumption | exact trivial⟩
      · refine lv_aload_n B.1 B.2.1 dX6_readType_58 rfl (lv_at hl 1 rfl) ?_
        refine q_con B dX6_readType_59 ?_
        refine c_puti (k := 1) pk_X8 B hM t_spot kd10 rfl (by decide) fl_X6_245 (Or.inl rfl) dX6_readType_60 rfl rfl rfl (show (-2147483648 : Int) ≤ 4 from by omega) (show 4 ≤ (2147483647 : Int) from by omega) (fun I142 H locs hu143 hM => ?_)
        have e144 : I142 a_spot 1 = 4 := w2_at hu143
        replace hF : Fr mo_X6_readType [] T N I J R T N I142 J R := hF.wi hu143 (fun _ _ => by rw [t_spot]; rfl)
        refine lv_aload_n B.1 B.2.1 dX6_readType_63 rfl (lv_at hl 0 rfl) ?_
        have e145 : I66 a_this 5 = x1 := (w2_ne hu67 (Or.inl (tne t_this t_spot (by decide)))).trans e2
        have e146 : I142 a_this 5 = x1 := (w2_ne hu143 (Or.inl (tne t_this t_spot (by decide)))).trans e145
        have e147 : I66 a_this 6 = x3 := (w2_ne hu67 (Or.inl (tne t_this t_spot (by decide)))).trans e4
        have e148 : I142 a_this 6 = x3 := (w2_ne hu143 (Or.inl (tne t_this t_spot (by decide)))).trans e147
        have hv149 : (TKz g_S g_n) ∧ (I142 a_this 5 ≤ g_n) := by first | omega | exact ⟨by first | omega | assumption | exact trivial, by first | omega | assumption | exact trivial⟩
        refine z_callv hM hA (c_runV (n := 0) (as := []) (rest := []) B hX hA hM hl.1 t_this kd7 rfl (k_X6_advance l D dA eA L T N I142 J R a_this t_this g_t g_s g_S g_n (show R a_this 3 = g_t + 1 from p_0) (show T g_t = 3 from p_1) (show R g_t 0 = g_s + 1 from p_2) (show T g_s = 62 from p_3) (show I142 g_s = g_S from ((Fr.irow hF p_3 (by decide) nm0 (by decide)).trans p_4)) hv149.1 hv149.2 (show g_S (I142 a_this 5).toNat = I142 a_this 6 from by rw [e146, e148]; first | assumption | omega) _ _) ml_X6_87 nm_X6_advance ⟨rfl, rfl⟩ ⟨Nat.le_of_ble_eq_true rfl, Nat.le_of_ble_eq_true rfl⟩ dX6_readType_64 rfl rfl (Nat.le_of_ble_eq_true rfl) ⟨Nat.zero_le _, Nat.zero_le _⟩) (fun L152 T153 N154 I155 J156 R157 dz158 dl159 H locs hp150 hMn => ?_)
        obtain ⟨yL152, yT153, yN154, yR157, hFc160, hp150a⟩ := hp150
        obtain rfl := yL152.symm; obtain rfl := yT153.symm; obtain rfl := yN154.symm; obtain rfl := yR157.symm
        replace hF : Fr mo_X6_readType [] T N I J R T N I155 J156 R := hF.trans hFc160 (by decide) e20
        have hM := hMn
        clear hMn
        replace hp150a : I155 a_this 5 ≤ g_n ∧ g_S (I155 a_this 5).toNat = I155 a_this 6 ∧ (((I142 a_this 6 = 0 ∨ I142 a_this 6 = 1) ∧ I155 a_this 5 = I142 a_this 5) ∨ (I155 a_this 5 = I142 a_this 5 + 1)) := hp150a
        obtain ⟨hp150a_0, hp150a_1, hp150a_2⟩ := hp150a
        obtain ⟨x161, e162⟩ : ∃ v, I155 a_this 5 = v := ⟨_, rfl⟩
        obtain ⟨x163, e164⟩ : ∃ v, I155 a_this 6 = v := ⟨_, rfl⟩
        have nz165 : g_S (x161).toNat = x163 := by have h9 := hp150a_1; rw [e162, e164] at h9; exact h9
        refine lv_aload_n B.1 B.2.1 dX6_readType_67 rfl (lv_at hl 0 rfl) ?_
        have r166 : (-2147483648 : Int) ≤ x163 ∧ x163 ≤ 2147483647 := by rw [← e164]; exact g7_6 hM.2.2.2.2.2.2.1 t_this
        refine c_geti (k := 6) pk_X6 B hM t_this kd7 rfl (by decide) fl_X6_47 dX6_readType_68 e164 ?_
        refine q_con B dX6_readType_71 ?_
        refine q_ceq (tgt := 81) B dX6_readType_72 (by decide) (by unfold inr; omega) (by unfold inr; omega) (fun c167 => ?_) (fun c167 => ?_)
        · refine lv_aload_n B.1 B.2.1 dX6_readType_81 rfl (lv_at hl 1 rfl) ?_
          refine lv_aload_n B.1 B.2.1 dX6_readType_82 rfl (lv_at hl 0 rfl) ?_
          refine q_con B dX6_readType_83 ?_
          have hv168 : ((-2147483648 : Int) ≤ 5 ∧ (5 : Int) ≤ 2147483647) ∧ (1 ≤ (5 : Int)) := by first | omega | exact ⟨by first | omega | assumption | exact trivial, by first | omega | assumption | exact trivial⟩
          refine z_calli hM hA (c_runV (n := 1) (as := [.int (II 5)]) (rest := [.ref a_spot]) B hX hA hM hl.1 t_this kd7 rfl (k_X6_readReference l D dA eA L T N I155 J156 R a_this t_this (5) hv168.1 hv168.2 _ _) ml_X6_104 nm_X6_readReference ⟨rfl, rfl⟩ ⟨Nat.le_of_ble_eq_true rfl, Nat.le_of_ble_eq_true rfl⟩ dX6_readType_84 rfl rfl (Nat.le_of_ble_eq_true rfl) ⟨Nat.zero_le _, Nat.zero_le _⟩) (fun x170 ix170 L171 T172 N173 I174 J175 R176 dz177 dl178 H locs hp169 hMn => ?_)
          obtain ⟨yL171, yT172, yN173, yJ175, yR176, hFc179, hp169a⟩ := hp169
          obtain rfl := yL171.symm; obtain rfl := yT172.symm; obtain rfl := yN173.symm; obtain rfl := yJ175.symm; obtain rfl := yR176.symm
          replace hF : Fr mo_X6_readType [] T N I J R T N I174 J156 R := hF.trans hFc179 (by decide) e20
          have hM := hMn
          clear hMn
          replace hp169a : ((x170 = -1 ∧ I174 a_this 1 ≠ 0) ∨ (0 ≤ x170 ∧ x170 ≤ 99 ∧ I174 a_this 1 = I155 a_this 1)) := hp169a
          have e180 : I66 a_this 1 = x6 := (w2_ne hu67 (Or.inl (tne t_this t_spot (by decide)))).trans e7
          have e181 : I142 a_this 1 = x6 := (w2_ne hu143 (Or.inl (tne t_this t_spot (by decide)))).trans e180
          have e182 : I155 a_this 1 = x6 := (hFc160.i t_this (by decide) nm0 rfl).trans e181
          obtain ⟨x183, e184⟩ : ∃ v, I174 a_this 1 = v := ⟨_, rfl⟩
          refine c_puti (k := 2) pk_X8 B hM t_spot kd10 rfl (by decide) fl_X6_248 (Or.inl rfl) dX6_readType_87 rfl rfl rfl (show (-2147483648 : Int) ≤ x170 from by omega) (show x170 ≤ (2147483647 : Int) from by omega) (fun I185 H locs hu186 hM => ?_)
          have e187 : I185 a_spot 2 = x170 := w2_at hu186
          replace hF : Fr mo_X6_readType [] T N I J R T N I185 J156 R := hF.wi hu186 (fun _ _ => by rw [t_spot]; rfl)
          refine lv_aload_n B.1 B.2.1 dX6_readType_90 rfl (lv_at hl 1 rfl) ?_
          refine c_geti (k := 2) pk_X8 B hM t_spot kd10 rfl (by decide) fl_X6_248 dX6_readType_91 e187 ?_
          refine q_con B dX6_readType_94 ?_
          refine q_cne (tgt := 100) B dX6_readType_95 (by decide) (by unfold inr; omega) (by unfold inr; omega) (fun c188 => ?_) (fun c188 => ?_)
          · refine lv_aload_n B.1 B.2.1 dX6_readType_100 rfl (lv_at hl 0 rfl) ?_
            have e189 : I174 a_this 5 = x161 := (hFc179.i t_this (by decide) nm0 rfl).trans e162
            have e190 : I185 a_this 5 = x161 := (w2_ne hu186 (Or.inl (tne t_this t_spot (by decide)))).trans e189
            have e191 : I174 a_this 6 = x163 := (hFc179.i t_this (by decide) nm0 rfl).trans e164
            have e192 : I185 a_this 6 = x163 := (w2_ne hu186 (Or.inl (tne t_this t_spot (by decide)))).trans e191
            have hv193 : (TKz g_S g_n) ∧ (I185 a_this 5 ≤ g_n) := by first | omega | exact ⟨by first | omega | assumption | exact trivial, by first | omega | assumption | exact trivial⟩
            refine z_callv hM hA (c_runV (n := 0) (as := []) (rest := []) B hX hA hM hl.1 t_this kd7 rfl (k_X6_advance l D dA eA L T N I185 J156 R a_this t_this g_t g_s g_S g_n (show R a_this 3 = g_t + 1 from p_0) (show T g_t = 3 from p_1) (show R g_t 0 = g_s + 1 from p_2) (show T g_s = 62 from p_3) (show I185 g_s = g_S from ((Fr.irow hF p_3 (by decide) nm0 (by decide)).trans p_4)) hv193.1 hv193.2 (show g_S (I185 a_this 5).toNat = I185 a_this 6 from by rw [e190, e192]; first | assumption | omega) _ _) ml_X6_87 nm_X6_advance ⟨rfl, rfl⟩ ⟨Nat.le_of_ble_eq_true rfl, Nat.le_of_ble_eq_true rfl⟩ dX6_readType_101 rfl rfl (Nat.le_of_ble_eq_true rfl) ⟨Nat.zero_le _, Nat.zero_le _⟩) (fun L196 T197 N198 I199 J200 R201 dz202 dl203 H locs hp194 hMn => ?_)
            obtain ⟨yL196, yT197, yN198, yR201, hFc204, hp194a⟩ := hp194
            obtain rfl := yL196.symm; obtain rfl := yT197.symm; obtain rfl := yN198.symm; obtain rfl := yR201.symm
            replace hF : Fr mo_X6_readType [] T N I J R T N I199 J200 R := hF.trans hFc204 (by decide) e20
            have hM := hMn
            clear hMn
            replace hp194a : I199 a_this 5 ≤ g_n ∧ g_S (I199 a_this 5).toNat = I199 a_this 6 ∧ (((I185 a_this 6 = 0 ∨ I185 a_this 6 = 1) ∧ I199 a_this 5 = I185 a_this 5) ∨ (I199 a_this 5 = I185 a_this 5 + 1)) := hp194a
            obtain ⟨hp194a_0, hp194a_1, hp194a_2⟩ := hp194a
            obtain ⟨x205, e206⟩ : ∃ v, I199 a_this 5 = v := ⟨_, rfl⟩
            obtain ⟨x207, e208⟩ : ∃ v, I199 a_this 6 = v := ⟨_, rfl⟩
            have nz209 : g_S (x205).toNat = x207 := by have h9 := hp194a_1; rw [e206, e208] at h9; exact h9
            refine q_con B dX6_readType_104 ?_
            have e210 : I185 a_this 1 = x183 := (w2_ne hu186 (Or.inl (tne t_this t_spot (by decide)))).trans e184
            have e211 : I199 a_this 1 = x183 := (hFc204.i t_this (by decide) nm0 rfl).trans e210
            refine g_zret B hM dX6_readType_105 ⟨Nat.le_refl _, Nat.le_refl _⟩ (by omega) (by omega) ?_
            rw [← hPST]
            exact ⟨(1), rfl, by omega, rfl, rfl, rfl, rfl, hF, by omega, by omega, by first | omega | assumption | exact trivial, by show g_S (I199 a_this 5).toNat = I199 a_this 6; rw [e206, e208]; first | assumption | omega, by first | omega | assumption | exact trivial, by first | omega | assumption | exact trivial⟩
          · refine q_con B dX6_readType_98 ?_
            have e212 : I174 a_this 5 = x161 := (hFc179.i t_this (by decide) nm0 rfl).trans e162
            have e213 : I185 a_this 5 = x161 := (w2_ne hu186 (Or.inl (tne t_this t_spot (by decide)))).trans e212
            have e214 : I174 a_this 6 = x163 := (hFc179.i t_this (by decide) nm0 rfl).trans e164
            have e215 : I185 a_this 6 = x163 := (w2_ne hu186 (Or.inl (tne t_this t_spot (by decide)))).trans e214
            have e216 : I185 a_this 1 = x183 := (w2_ne hu186 (Or.inl (tne t_this t_spot (by decide)))).trans e184
            refine g_zret B hM dX6_readType_99 ⟨Nat.le_refl _, Nat.le_refl _⟩ (by omega) (by omega) ?_
            rw [← hPST]
            exact ⟨(0), rfl, by omega, rfl, rfl, rfl, rfl, hF, by omega, by omega, by first | omega | assumption | exact trivial, by show g_S (I185 a_this 5).toNat = I185 a_this 6; rw [e213, e215]; first | assumption | omega, by first | omega | assumption | exact trivial, by first | omega | assumption | exact trivial⟩
        · refine lv_aload_n B.1 B.2.1 dX6_readType_75 rfl (lv_at hl 0 rfl) ?_
          refine q_con B dX6_readType_76 ?_
          have hv217 : ((-2147483648 : Int) ≤ 2 ∧ (2 : Int) ≤ 2147483647) ∧ ((2 : Int) ≠ 0) := by first | omega | exact ⟨by first | omega | assumption | exact trivial, by first | omega | assumption | exact trivial⟩
          refine z_calli hM hA (c_runV (n := 1) (as := [.int (II 2)]) (rest := []) B hX hA hM hl.1 t_this kd7 rfl (k_X6_wrong l D dA eA L T N I155 J156 R a_this t_this (2) hv217.1 hv217.2 _ _) ml_X6_84 nm_X6_wrong ⟨rfl, rfl⟩ ⟨Nat.le_of_ble_eq_true rfl, Nat.le_of_ble_eq_true rfl⟩ dX6_readType_77 rfl rfl (Nat.le_of_ble_eq_true rfl) ⟨Nat.zero_le _, Nat.zero_le _⟩) (fun x219 ix219 L220 T221 N222 I223 J224 R225 dz226 dl227 H locs hp218 hMn => ?_)
          obtain ⟨yL220, yT221, yN222, yJ224, yR225, hFc228, hp218a⟩ := hp218
          obtain rfl := yL220.symm; obtain rfl := yT221.symm; obtain rfl := yN222.symm; obtain rfl := yJ224.symm; obtain rfl := yR225.symm
          replace hF : Fr mo_X6_readType [] T N I J R T N I223 J156 R := hF.trans hFc228 (by decide) e20
          have hM := hMn
          clear hMn
          replace hp218a : (0 : Int) ≤ x219 ∧ x219 ≤ 1 ∧ (x219 = 0 ∧ I223 a_this 1 ≠ 0) := hp218a
          obtain ⟨hp218a_0, hp218a_1, hp218a_2⟩ := hp218a
          obtain ⟨hp218a_2_0, hp218a_2_1⟩ := hp218a_2
          have e229 : I66 a_this 1 = x6 := (w2_ne hu67 (Or.inl (tne t_this t_spot (by decide)))).trans e7
          have e230 : I142 a_this 1 = x6 := (w2_ne hu143 (Or.inl (tne t_this t_spot (by decide)))).trans e229
          have e231 : I155 a_this 1 = x6 := (hFc160.i t_this (by decide) nm0 rfl).trans e230
          obtain ⟨x232, e233⟩ : ∃ v, I223 a_this 1 = v := ⟨_, rfl⟩
          have e234 : I223 a_this 5 = x161 := (hFc228.i t_this (by decide) nm0 rfl).trans e162
          have e235 : I223 a_this 6 = x163 := (hFc228.i t_this (by decide) nm0 rfl).trans e164
          refine g_zret B hM dX6_readType_80 ⟨Nat.le_refl _, Nat.le_refl _⟩ (by omega) (by omega) ?_
          rw [← hPST]
          exact ⟨x219, rfl, by omega, rfl, rfl, rfl, rfl, hF, by omega, by omega, by first | omega | assumption | exact trivial, by show g_S (I223 a_this 5).toNat = I223 a_this 6; rw [e234, e235]; first | assumption | omega, by first | omega | assumption | exact trivial, by first | omega | assumption | exact trivial⟩
    · refine lv_aload_n B.1 B.2.1 dX6_readType_18 rfl (lv_at hl 1 rfl) ?_
      refine lv_aload_n B.1 B.2.1 dX6_readType_19 rfl (lv_at hl 0 rfl) ?_
      obtain ⟨w236, e237⟩ : ∃ v, J a_this 7 = v := ⟨_, rfl⟩
      refine c_getl (k := 7) pk_X6 B hM t_this kd7 rfl (by decide) fl_X6_54 dX6_readType_20 e237 ?_
      refine lv_ldc2 B.1 B.2.1 B.2.2.2.1 (B.2.2.2.2.1 _ lc_X6_243) dX6_readType_23 ?_
      refine q_lcmp B dX6_readType_26 (fun x238 lx238 ux238 ex238 => ?_)
      refine q_ine (tgt := 34) B dX6_readType_27 (by decide) (by unfold inr; omega) (fun c239 => ?_) (fun c239 => ?_)
      · refine q_con B dX6_readType_34 ?_
        refine c_puti (k := 1) pk_X8 B hM t_spot kd10 rfl (by decide) fl_X6_245 (Or.inl rfl) dX6_readType_35 rfl rfl rfl (show (-2147483648 : Int) ≤ 2 from by omega) (show 2 ≤ (2147483647 : Int) from by omega) (fun I240 H locs hu241 hM => ?_)
        have e242 : I240 a_spot 1 = 2 := w2_at hu241
        replace hF : Fr mo_X6_readType [] T N I J R T N I240 J R := hF.wi hu241 (fun _ _ => by rw [t_spot]; rfl)
        refine lv_aload_n B.1 B.2.1 dX6_readType_38 rfl (lv_at hl 0 rfl) ?_
        have e243 : I240 a_this 5 = x1 := (w2_ne hu241 (Or.inl (tne t_this t_spot (by decide)))).trans e2
        have e244 : I240 a_this 6 = x3 := (w2_ne hu241 (Or.inl (tne t_this t_spot (by decide)))).trans e4
        have hv245 : (TKz g_S g_n) ∧ (I240 a_this 5 ≤ g_n) := by first | omega | exact ⟨by first | omega | assumption | exact trivial, by first | omega | assumption | exact trivial⟩
        refine z_callv hM hA (c_runV (n := 0) (as := []) (rest := []) B hX hA hM hl.1 t_this kd7 rfl (k_X6_advance l D dA eA L T N I240 J R a_this t_this g_t g_s g_S g_n (show R a_this 3 = g_t + 1 from p_0) (show T g_t = 3 from p_1) (show R g_t 0 = g_s + 1 from p_2) (show T g_s = 62 from p_3) (show I240 g_s = g_S from ((Fr.irow hF p_3 (by decide) nm0 (by decide)).trans p_4)) hv245.1 hv245.2 (show g_S (I240 a_this 5).toNat = I240 a_this 6 from by rw [e243, e244]; first | assumption | omega) _ _) ml_X6_87 nm_X6_advance ⟨rfl, rfl⟩ ⟨Nat.le_of_ble_eq_true rfl, Nat.le_of_ble_eq_true rfl⟩ dX6_readType_39 rfl rfl (Nat.le_of_ble_eq_true rfl) ⟨Nat.zero_le _, Nat.zero_le _⟩) (fun L248 T249 N250 I251 J252 R253 dz254 dl255 H locs hp246 hMn => ?_)
        obtain ⟨yL248, yT249, yN250, yR253, hFc256, hp246a⟩ := hp246
        obtain rfl := yL248.symm; obtain rfl := yT249.symm; obtain rfl := yN250.symm; obtain rfl := yR253.symm
        replace hF : Fr mo_X6_readType [] T N I J R T N I251 J252 R := hF.trans hFc256 (by decide) e20
        have hM := hMn
        clear hMn
        replace hp246a : I251 a_this 5 ≤ g_n ∧ g_S (I251 a_this 5).toNat = I251 a_this 6 ∧ (((I240 a_this 6 = 0 ∨ I240 a_this 6 = 1) ∧ I251 a_this 5 = I240 a_this 5) ∨ (I251 a_this 5 = I240 a_this 5 + 1)) := hp246a
        obtain ⟨hp246a_0, hp246a_1, hp246a_2⟩ := hp246a
        obtain ⟨x257, e258⟩ : ∃ v, I251 a_this 5 = v := ⟨_, rfl⟩
        obtain ⟨x259, e260⟩ : ∃ v, I251 a_this 6 = v := ⟨_, rfl⟩
        have nz261 : g_S (x257).toNat = x259 := by have h9 := hp246a_1; rw [e258, e260] at h9; exact h9
        refine q_con B dX6_readType_42 ?_
        have e262 : I240 a_this 1 = x6 := (w2_ne hu241 (Or.inl (tne t_this t_spot (by decide)))).trans e7
        have e263 : I251 a_this 1 = x6 := (hFc256.i t_this (by decide) nm0 rfl).trans e262
        refine g_zret B hM dX6_readType_43 ⟨Nat.le_refl _, Nat.le_refl _⟩ (by omega) (by omega) ?_
        rw [← hPST]
        exact ⟨(1), rfl, by omega, rfl, rfl, rfl, rfl, hF, by omega, by omega, by first | omega | assumption | exact trivial, by show g_S (I251 a_this 5).toNat = I251 a_this 6; rw [e258, e260]; first | assumption | omega, by first | omega | assumption | exact trivial, by first | omega | assumption | exact trivial⟩
      · refine q_con B dX6_readType_30 ?_
        refine lv_goto (tgt := 35) B.1 B.2.1 dX6_readType_31 (by decide) ?_
        refine c_puti (k := 1) pk_X8 B hM t_spot kd10 rfl (by decide) fl_X6_245 (Or.inl rfl) dX6_readType_35 rfl rfl rfl (show (-2147483648 : Int) ≤ 1 from by omega) (show 1 ≤ (2147483647 : Int) from by omega) (fun I264 H locs hu265 hM => ?_)
        have e266 : I264 a_spot 1 = 1 := w2_at hu265
        replace hF : Fr mo_X6_readType [] T N I J R T N I264 J R := hF.wi hu265 (fun _ _ => by rw [t_spot]; rfl)
        refine lv_aload_n B.1 B.2.1 dX6_readType_38 rfl (lv_at hl 0 rfl) ?_
        have e267 : I264 a_this 5 = x1 := (w2_ne hu265 (Or.inl (tne t_this t_spot (by decide)))).trans e2
        have e268 : I264 a_this 6 = x3 := (w2_ne hu265 (Or.inl (tne t_this t_spot (by decide)))).trans e4
        have hv269 : (TKz g_S g_n) ∧ (I264 a_this 5 ≤ g_n) := by first | omega | exact ⟨by first | omega | assumption | exact trivial, by first | omega | assumption | exact trivial⟩
        refine z_callv hM hA (c_runV (n := 0) (as := []) (rest := []) B hX hA hM hl.1 t_this kd7 rfl (k_X6_advance l D dA eA L T N I264 J R a_this t_this g_t g_s g_S g_n (show R a_this 3 = g_t + 1 from p_0) (show T g_t = 3 from p_1) (show R g_t 0 = g_s + 1 from p_2) (show T g_s = 62 from p_3) (show I264 g_s = g_S from ((Fr.irow hF p_3 (by decide) nm0 (by decide)).trans p_4)) hv269.1 hv269.2 (show g_S (I264 a_this 5).toNat = I264 a_this 6 from by rw [e267, e268]; first | assumption | omega) _ _) ml_X6_87 nm_X6_advance ⟨rfl, rfl⟩ ⟨Nat.le_of_ble_eq_true rfl, Nat.le_of_ble_eq_true rfl⟩ dX6_readType_39 rfl rfl (Nat.le_of_ble_eq_true rfl) ⟨Nat.zero_le _, Nat.zero_le _⟩) (fun L272 T273 N274 I275 J276 R277 dz278 dl279 H locs hp270 hMn => ?_)
        obtain ⟨yL272, yT273, yN274, yR277, hFc280, hp270a⟩ := hp270
        obtain rfl := yL272.symm; obtain rfl := yT273.symm; obtain rfl := yN274.symm; obtain rfl := yR277.symm
        replace hF : Fr mo_X6_readType [] T N I J R T N I275 J276 R := hF.trans hFc280 (by decide) e20
        have hM := hMn
        clear hMn
        replace hp270a : I275 a_this 5 ≤ g_n ∧ g_S (I275 a_this 5).toNat = I275 a_this 6 ∧ (((I264 a_this 6 = 0 ∨ I264 a_this 6 = 1) ∧ I275 a_this 5 = I264 a_this 5) ∨ (I275 a_this 5 = I264 a_this 5 + 1)) := hp270a
        obtain ⟨hp270a_0, hp270a_1, hp270a_2⟩ := hp270a
        obtain ⟨x281, e282⟩ : ∃ v, I275 a_this 5 = v := ⟨_, rfl⟩
        obtain ⟨x283, e284⟩ : ∃ v, I275 a_this 6 = v := ⟨_, rfl⟩
        have nz285 : g_S (x281).toNat = x283 := by have h9 := hp270a_1; rw [e282, e284] at h9; exact h9
        refine q_con B dX6_readType_42 ?_
        have e286 : I264 a_this 1 = x6 := (w2_ne hu265 (Or.inl (tne t_this t_spot (by decide)))).trans e7
        have e287 : I275 a_this 1 = x6 := (hFc280.i t_this (by decide) nm0 rfl).trans e286
        refine g_zret B hM dX6_readType_43 ⟨Nat.le_refl _, Nat.le_refl _⟩ (by omega) (by omega) ?_
        rw [← hPST]
        exact ⟨(1), rfl, by omega, rfl, rfl, rfl, rfl, hF, by omega, by omega, by first | omega | assumption | exact trivial, by show g_S (I275 a_this 5).toNat = I275 a_this 6; rw [e282, e284]; first | assumption | omega, by first | omega | assumption | exact trivial, by first | omega | assumption | exact trivial⟩

def mo_X6_readStar : List Nat := [229, 230, 231, 225, 226, 290, 291, 289, 2400, 2432, 640, 641, 642, 1760, 293, 294, 295, 296, 297, 298]
set_option maxHeartbeats 1000000 in
set_option maxRecDepth 20000 in
theorem k_X6_readStar (l : Launch) (D : va_G) (dA : Nat → ClassId) (eA : Nat) (L : List Nat) (T N : Nat → Nat) (I : Nat → Nat → Int) (J : Nat → Nat → Int64) (R : Nat → Nat → Nat) (a_this : Nat) (t_this : T a_this = 7) (a_kind : Nat) (t_kind : T a_kind = 11) (g_t : Nat) (g_s : Nat) (g_S : Nat → Int) (g_n : Int) (p_0 : R a_this 3 = g_t + 1) (p_1 : T g_t = 3) (p_2 : R g_t 0 = g_s + 1) (p_3 : T g_s = 62) (p_4 : I g_s = g_S) (p_5 : TKz g_S g_n) (p_6 : I a_this 5 ≤ g_n) (p_7 : g_S (I a_this 5).toNat = I a_this 6) : GC l yX6_readStar cX6_readStar 2 (some .boolean) ({ frames := 9, cells := 36, slots := 279, locals := 286 }) D dA eA L T N I J R [.ref a_this, .ref a_kind] 36 279 (gI (fun r L' T' N' I' J' R' dz dl => Fr mo_X6_readStar [] T N I J R T' N' I' J' R' ∧ (0 : Int) ≤ r ∧ r ≤ 1 ∧ (I' a_this 5 ≤ g_n ∧ g_S (I' a_this 5).toNat = I' a_this 6 ∧ I a_this 5 ≤ I' a_this 5 ∧ ((r = 0 ∧ I' a_this 1 ≠ 0) ∨ (r = 1 ∧ I' a_this 1 = I a_this 1 ∧ I a_this 5 + 1 ≤ I' a_this 5)) ∧ (dz : Int) ≤ 4 * (I' a_this 5 - I a_this 5) ∧ (dl : Int) ≤ 31 * (I' a_this 5 - I a_this 5) ∧ dz ≤ 36 ∧ dl ≤ 279))) := by
  generalize hPST : (gI (fun r L' T' N' I' J' R' dz dl => Fr mo_X6_readStar [] T N I J R T' N' I' J' R' ∧ (0 : Int) ≤ r ∧ r ≤ 1 ∧ (I' a_this 5 ≤ g_n ∧ g_S (I' a_this 5).toNat = I' a_this 6 ∧ I a_this 5 ≤ I' a_this 5 ∧ ((r = 0 ∧ I' a_this 1 ≠ 0) ∨ (r = 1 ∧ I' a_this 1 = I a_this 1 ∧ I a_this 5 + 1 ≤ I' a_this 5)) ∧ (dz : Int) ≤ 4 * (I' a_this 5 - I a_this 5) ∧ (dl : Int) ≤ 31 * (I' a_this 5 - I a_this 5) ∧ dz ≤ 36 ∧ dl ≤ 279))) = PST
  refine g_enter (own := RX6) (by decide) rfl (Nat.le_of_ble_eq_true rfl) (fun p e s m args below meth c ls hm B hX hM hl => ?_)
  have hC0 := hM.2.2.2.2.2.2.1
  have hW0 := hM.2.2.2
  have hF : Fr mo_X6_readStar [] T N I J R T N I J R := Fr.rf
  have hA : ∀ q, s.heap.size ≤ q → cF dA L T N I J R s.heap.size q := fun q h => Or.inr h
  have hl : lv_has ls 2 [(0, .ref a_this), (1, .ref a_kind)] := hl
  obtain ⟨x1, e2⟩ : ∃ v, I a_this 5 = v := ⟨_, rfl⟩
  obtain ⟨x3, e4⟩ : ∃ v, I a_this 6 = v := ⟨_, rfl⟩
  have nz5 : g_S (x1).toNat = x3 := by have h9 := p_7; rw [e2, e4] at h9; exact h9
  obtain ⟨x6, e7⟩ : ∃ v, I a_this 1 = v := ⟨_, rfl⟩
  refine lv_aload_n B.1 B.2.1 dX6_readStar_0 rfl (lv_at hl 0 rfl) ?_
  have hv8 : (TKz g_S g_n) ∧ (I a_this 5 ≤ g_n) := by first | omega | exact ⟨by first | omega | assumption | exact trivial, by first | omega | assumption | exact trivial⟩
  refine z_callv hM hA (c_runV (n := 0) (as := []) (rest := []) B hX hA hM hl.1 t_this kd7 rfl (k_X6_advance l D dA eA L T N I J R a_this t_this g_t g_s g_S g_n (show R a_this 3 = g_t + 1 from p_0) (show T g_t = 3 from p_1) (show R g_t 0 = g_s + 1 from p_2) (show T g_s = 62 from p_3) (show I g_s = g_S from p_4) hv8.1 hv8.2 (show g_S (I a_this 5).toNat = I a_this 6 from by rw [e2, e4]; first | assumption | omega) _ _) ml_X6_87 nm_X6_advance ⟨rfl, rfl⟩ ⟨Nat.le_of_ble_eq_true rfl, Nat.le_of_ble_eq_true rfl⟩ dX6_readStar_1 rfl rfl (Nat.le_of_ble_eq_true rfl) ⟨by show 0 + 0 ≤ 36; omega, by show 0 + 0 ≤ 279; omega⟩) (fun L11 T12 N13 I14 J15 R16 dz17 dl18 H locs hp9 hMn => ?_)
  obtain ⟨yL11, yT12, yN13, yR16, hFc19, hp9a⟩ := hp9
  obtain rfl := yL11.symm; obtain rfl := yT12.symm; obtain rfl := yN13.symm; obtain rfl := yR16.symm
  replace hF : Fr mo_X6_readStar [] T N I J R T N I14 J15 R := hF.trans hFc19 (by decide) e20
  have hM := hMn
  clear hMn
  replace hp9a : I14 a_this 5 ≤ g_n ∧ g_S (I14 a_this 5).toNat = I14 a_this 6 ∧ (((I a_this 6 = 0 ∨ I a_this 6 = 1) ∧ I14 a_this 5 = I a_this 5) ∨ (I14 a_this 5 = I a_this 5 + 1)) := hp9a
  obtain ⟨hp9a_0, hp9a_1, hp9a_2⟩ := hp9a
  obtain ⟨x20, e21⟩ : ∃ v, I14 a_this 5 = v := ⟨_, rfl⟩
  obtain ⟨x22, e23⟩ : ∃ v, I14 a_this 6 = v := ⟨_, rfl⟩
  have nz24 : g_S (x20).toNat = x22 := by have h9 := hp9a_1; rw [e21, e23] at h9; exact h9
  refine lv_aload_n B.1 B.2.1 dX6_readStar_4 rfl (lv_at hl 0 rfl) ?_
  refine q_bip B dX6_readStar_5 (by decide) ?_
  have hv25 : ((-2147483648 : Int) ≤ 61 ∧ (61 : Int) ≤ 2147483647) ∧ (TKz g_S g_n) ∧ (I14 a_this 5 ≤ g_n) ∧ ((61 : Int) ≠ 0) ∧ ((61 : Int) ≠ 1) := by first | omega | exact ⟨by first | omega | assumption | exact trivial, by first | omega | assumption | exact trivial, by first | omega | assumption | exact trivial, by first | omega | assumption | exact trivial, by first | omega | assumption | exact trivial⟩
  refine z_calli hM hA (c_runV (n := 1) (as := [.int (II 61)]) (rest := []) B hX hA hM hl.1 t_this kd7 rfl (k_X6_readSign l D dA eA L T N I14 J15 R a_this t_this (61) hv25.1 g_t g_s g_S g_n (show R a_this 3 = g_t + 1 from p_0) (show T g_t = 3 from p_1) (show R g_t 0 = g_s + 1 from p_2) (show T g_s = 62 from p_3) (show I14 g_s = g_S from ((Fr.irow hF p_3 (by decide) nm0 (by decide)).trans p_4)) hv25.2.1 hv25.2.2.1 (show g_S (I14 a_this 5).toNat = I14 a_this 6 from by rw [e21, e23]; first | assumption | omega) hv25.2.2.2.1 hv25.2.2.2.2 _ _) ml_X6_122 nm_X6_readSign ⟨rfl, rfl⟩ ⟨Nat.le_of_ble_eq_true rfl, Nat.le_of_ble_eq_true rfl⟩ dX6_readStar_7 rfl rfl (Nat.le_of_ble_eq_true rfl) ⟨by show 0 + 0 ≤ 36; omega, by show 0 + 0 ≤ 279; omega⟩) (fun x27 ix27 L28 T29 N30 I31 J32 R33 dz34 dl35 H locs hp26 hMn => ?_)
  obtain ⟨yL28, yT29, yN30, yR33, hFc36, hp26a⟩ := hp26
  obtain rfl := yL28.symm; obtain rfl := yT29.symm; obtain rfl := yN30.symm; obtain rfl := yR33.symm
  replace hF : Fr mo_X6_readStar [] T N I J R T N I31 J32 R := hF.trans hFc36 (by decide) e20
  have hM := hMn
  clear hMn
  replace hp26a : (0 : Int) ≤ x27 ∧ x27 ≤ 1 ∧ (I31 a_this 5 ≤ g_n ∧ g_S (I31 a_this 5).toNat = I31 a_this 6 ∧ I14 a_this 5 ≤ I31 a_this 5 ∧ ((x27 = 0 ∧ I31 a_this 1 ≠ 0) ∨ (x27 = 1 ∧ I31 a_this 1 = I14 a_this 1 ∧ I14 a_this 5 + 1 ≤ I31 a_this 5))) := hp26a
  obtain ⟨hp26a_0, hp26a_1, hp26a_2⟩ := hp26a
  obtain ⟨hp26a_2_0, hp26a_2_1, hp26a_2_2, hp26a_2_3⟩ := hp26a_2
  obtain ⟨x37, e38⟩ : ∃ v, I31 a_this 5 = v := ⟨_, rfl⟩
  obtain ⟨x39, e40⟩ : ∃ v, I31 a_this 6 = v := ⟨_, rfl⟩
  have nz41 : g_S (x37).toNat = x39 := by have h9 := hp26a_2_1; rw [e38, e40] at h9; exact h9
  have e42 : I14 a_this 1 = x6 := (hFc19.i t_this (by decide) nm0 rfl).trans e7
  obtain ⟨x43, e44⟩ : ∃ v, I31 a_this 1 = v := ⟨_, rfl⟩
  refine q_ieq (tgt := 37) B dX6_readStar_10 (by decide) (by unfold inr; omega) (fun c45 => ?_) (fun c45 => ?_)
  · refine q_con B dX6_readStar_37 ?_
    refine g_zret B hM dX6_readStar_38 ⟨by show 0 ≤ 36; omega, by show 0 ≤ 279; omega⟩ (by omega) (by omega) ?_
    rw [← hPST]
    exact ⟨(0), rfl, by omega, hF, by omega, by omega, by first | omega | assumption | exact trivial, by show g_S (I31 a_this 5).toNat = I31 a_this 6; rw [e38, e40]; first | assumption | omega, by first | omega | assumption | exact trivial, by first | omega | assumption | exact trivial, by first | omega | assumption | exact trivial, by first | omega | assumption | exact trivial, by first | omega | assumption | exact trivial, by first | omega | assumption | exact trivial⟩
  · refine lv_aload_n B.1 B.2.1 dX6_readStar_13 rfl (lv_at hl 0 rfl) ?_
    refine lv_aload_n B.1 B.2.1 dX6_readStar_14 rfl (lv_at hl 1 rfl) ?_
    obtain ⟨b46, e47, t48⟩ := g11_5 hC0 t_kind
    refine c_getn (k := 5) pk_X3 B hM t_kind kd11 rfl (by decide) fl_X6_232 dX6_readStar_15 e47 ?_
    obtain ⟨v49, e50⟩ : ∃ v, R b46 3 = v := ⟨_, rfl⟩
    obtain ⟨b51, e52, t53⟩ := g10_3 hC0 t48
    have hv54 : (TKz g_S g_n) ∧ (I31 a_this 5 ≤ g_n) := by first | omega | exact ⟨by first | omega | assumption | exact trivial, by first | omega | assumption | exact trivial⟩
    refine g_calli hM hA (c_runV (n := 1) (as := [.ref b46]) (rest := []) B hX hA hM hl.1 t_this kd7 rfl (k_X6_readUses l D dA eA L T N I31 J32 R a_this t_this b46 t48 g_t g_s g_S g_n b51 (show R a_this 3 = g_t + 1 from p_0) (show T g_t = 3 from p_1) (show R g_t 0 = g_s + 1 from p_2) (show T g_s = 62 from p_3) (show I31 g_s = g_S from ((Fr.irow hF p_3 (by decide) nm0 (by decide)).trans p_4)) hv54.1 hv54.2 (show g_S (I31 a_this 5).toNat = I31 a_this 6 from by rw [e38, e40]; first | assumption | omega) (show R b46 3 = b51 + 1 from e52) (show T b51 = 20 from t53) _ _) ml_X6_209 nm_X6_readUses ⟨rfl, rfl⟩ ⟨Nat.le_of_ble_eq_true rfl, Nat.le_of_ble_eq_true rfl⟩ dX6_readStar_18 rfl rfl (Nat.le_of_ble_eq_true rfl) ⟨by show 0 + 36 ≤ 36; omega, by show 0 + 279 ≤ 279; omega⟩) (fun x56 ix56 L57 T58 N59 I60 J61 R62 dz63 dl64 H locs hp55 hMn => ?_)
    obtain ⟨hFc65, hp55a⟩ := hp55
    replace hF : Fr mo_X6_readStar [] T N I J R T58 N59 I60 J61 R62 := hF.trans hFc65 (by decide) e20
    have hM := hMn
    clear hMn
    replace hp55a : (0 : Int) ≤ x56 ∧ x56 ≤ 1 ∧ (I60 a_this 5 ≤ g_n ∧ g_S (I60 a_this 5).toNat = I60 a_this 6 ∧ I31 a_this 5 ≤ I60 a_this 5 ∧ ((x56 = 0 ∧ I60 a_this 1 ≠ 0) ∨ (x56 = 1 ∧ I60 a_this 1 = I31 a_this 1 ∧ I31 a_this 5 + 1 ≤ I60 a_this 5)) ∧ (dz63 : Int) ≤ 4 * (I60 a_this 5 - I31 a_this 5) ∧ (dl64 : Int) ≤ 31 * (I60 a_this 5 - I31 a_this 5) ∧ dz63 ≤ 36 ∧ dl64 ≤ 279) := hp55a
    obtain ⟨hp55a_0, hp55a_1, hp55a_2⟩ := hp55a
    obtain ⟨hp55a_2_0, hp55a_2_1, hp55a_2_2, hp55a_2_3, hp55a_2_4, hp55a_2_5, hp55a_2_6, hp55a_2_7⟩ := hp55a_2
    obtain ⟨x66, e67⟩ : ∃ v, I60 a_this 5 = v := ⟨_, rfl⟩
    obtain ⟨x68, e69⟩ : ∃ v, I60 a_this 6 = v := ⟨_, rfl⟩
    have nz70 : g_S (x66).toNat = x68 := by have h9 := hp55a_2_1; rw [e67, e69] at h9; exact h9
    obtain ⟨x71, e72⟩ : ∃ v, I60 a_this 1 = v := ⟨_, rfl⟩
    refine q_ieq (tgt := 37) B dX6_readStar_21 (by decide) (by unfold inr; omega) (fun c73 => ?_) (fun c73 => ?_)
    · refine q_con B dX6_readStar_37 ?_
      refine g_zret B hM dX6_readStar_38 ⟨by show 0 + dz63 ≤ 36; omega, by show 0 + dl64 ≤ 279; omega⟩ (by omega) (by omega) ?_
      rw [← hPST]
      exact ⟨(0), rfl, by omega, hF, by omega, by omega, by first | omega | assumption | exact trivial, by show g_S (I60 a_this 5).toNat = I60 a_this 6; rw [e67, e69]; first | assumption | omega, by first | omega | assumption | exact trivial, by first | omega | assumption | exact trivial, by first | omega | assumption | exact trivial, by first | omega | assumption | exact trivial, by first | omega | assumption | exact trivial, by first | omega | assumption | exact trivial⟩
    · refine lv_aload_n B.1 B.2.1 dX6_readStar_24 rfl (lv_at hl 0 rfl) ?_
      refine q_bip B dX6_readStar_25 (by decide) ?_
      have t74 : T58 a_this = 7 := hF.tt t_this (by decide) nm0
      have e75 : R62 a_this 3 = g_t + 1 := (hF.r t_this (by decide) nm0 rfl).trans p_0
      have e76 : R62 g_t 0 = g_s + 1 := (hF.r p_1 (by decide) nm0 rfl).trans p_2
      have t77 : T58 g_t = 3 := hF.tt p_1 (by decide) nm0
      have t78 : T58 g_s = 62 := hF.tt p_3 (by decide) nm0
      have hv79 : ((-2147483648 : Int) ≤ 59 ∧ (59 : Int) ≤ 2147483647) ∧ (TKz g_S g_n) ∧ (I60 a_this 5 ≤ g_n) ∧ ((59 : Int) ≠ 0) ∧ ((59 : Int) ≠ 1) := by first | omega | exact ⟨by first | omega | assumption | exact trivial, by first | omega | assumption | exact trivial, by first | omega | assumption | exact trivial, by first | omega | assumption | exact trivial, by first | omega | assumption | exact trivial⟩
      refine z_calli hM hA (c_runV (n := 1) (as := [.int (II 59)]) (rest := []) B hX hA hM hl.1 t74 kd7 rfl (k_X6_readSign l D dA eA L57 T58 N59 I60 J61 R62 a_this t74 (59) hv79.1 g_t g_s g_S g_n (show R62 a_this 3 = g_t + 1 from e75) (show T58 g_t = 3 from t77) (show R62 g_t 0 = g_s + 1 from e76) (show T58 g_s = 62 from t78) (show I60 g_s = g_S from ((Fr.irow hF p_3 (by decide) nm0 (by decide)).trans p_4)) hv79.2.1 hv79.2.2.1 (show g_S (I60 a_this 5).toNat = I60 a_this 6 from by rw [e67, e69]; first | assumption | omega) hv79.2.2.2.1 hv79.2.2.2.2 _ _) ml_X6_122 nm_X6_readSign ⟨rfl, rfl⟩ ⟨Nat.le_of_ble_eq_true rfl, Nat.le_of_ble_eq_true rfl⟩ dX6_readStar_27 rfl rfl (Nat.le_of_ble_eq_true rfl) ⟨by show 0 + dz63 + 0 ≤ 36; omega, by show 0 + dl64 + 0 ≤ 279; omega⟩) (fun x81 ix81 L82 T83 N84 I85 J86 R87 dz88 dl89 H locs hp80 hMn => ?_)
      obtain ⟨yL82, yT83, yN84, yR87, hFc90, hp80a⟩ := hp80
      obtain rfl := yL82.symm; obtain rfl := yT83.symm; obtain rfl := yN84.symm; obtain rfl := yR87.symm
      replace hF : Fr mo_X6_readStar [] T N I J R T58 N59 I85 J86 R62 := hF.trans hFc90 (by decide) e20
      have hM := hMn
      clear hMn
      replace hp80a : (0 : Int) ≤ x81 ∧ x81 ≤ 1 ∧ (I85 a_this 5 ≤ g_n ∧ g_S (I85 a_this 5).toNat = I85 a_this 6 ∧ I60 a_this 5 ≤ I85 a_this 5 ∧ ((x81 = 0 ∧ I85 a_this 1 ≠ 0) ∨ (x81 = 1 ∧ I85 a_this 1 = I60 a_this 1 ∧ I60 a_this 5 + 1 ≤ I85 a_this 5))) := hp80a
      obtain ⟨hp80a_0, hp80a_1, hp80a_2⟩ := hp80a
      obtain ⟨hp80a_2_0, hp80a_2_1, hp80a_2_2, hp80a_2_3⟩ := hp80a_2
      obtain ⟨x91, e92⟩ : ∃ v, I85 a_this 5 = v := ⟨_, rfl⟩
      obtain ⟨x93, e94⟩ : ∃ v, I85 a_this 6 = v := ⟨_, rfl⟩
      have nz95 : g_S (x91).toNat = x93 := by have h9 := hp80a_2_1; rw [e92, e94] at h9; exact h9
      obtain ⟨x96, e97⟩ : ∃ v, I85 a_this 1 = v := ⟨_, rfl⟩
      refine q_ieq (tgt := 37) B dX6_readStar_30 (by decide) (by unfold inr; omega) (fun c98 => ?_) (fun c98 => ?_)
      · refine q_con B dX6_readStar_37 ?_
        refine g_zret B hM dX6_readStar_38 ⟨by show 0 + dz63 ≤ 36; omega, by show 0 + dl64 ≤ 279; omega⟩ (by omega) (by omega) ?_
        rw [← hPST]
        exact ⟨(0), rfl, by omega, hF, by omega, by omega, by first | omega | assumption | exact trivial, by show g_S (I85 a_this 5).toNat = I85 a_this 6; rw [e92, e94]; first | assumption | omega, by first | omega | assumption | exact trivial, by first | omega | assumption | exact trivial, by first | omega | assumption | exact trivial, by first | omega | assumption | exact trivial, by first | omega | assumption | exact trivial, by first | omega | assumption | exact trivial⟩
      · refine q_con B dX6_readStar_33 ?_
        refine lv_goto (tgt := 38) B.1 B.2.1 dX6_readStar_34 (by decide) ?_
        refine g_zret B hM dX6_readStar_38 ⟨by show 0 + dz63 ≤ 36; omega, by show 0 + dl64 ≤ 279; omega⟩ (by omega) (by omega) ?_
        rw [← hPST]
        exact ⟨(1), rfl, by omega, hF, by omega, by omega, by first | omega | assumption | exact trivial, by show g_S (I85 a_this 5).toNat = I85 a_this 6; rw [e92, e94]; first | assumption | omega, by first | omega | assumption | exact trivial, by first | omega | assumption | exact trivial, by first | omega | assumption | exact trivial, by first | omega | assumption | exact trivial, by first | omega | assumption | exact trivial, by first | omega | assumption | exact trivial⟩

def mo_X6_readMember : List Nat := [229, 230, 231, 225, 226, 290, 291, 289, 2400, 2432, 640, 641, 642, 1760, 293, 294, 295, 296, 297, 298, 608, 609, 610, 1728, 321, 322]
set_option maxHeartbeats 1000000 in
set_option maxRecDepth 20000 in
theorem k_X6_readMember (l : Launch) (D : va_G) (dA : Nat → ClassId) (eA : Nat) (L : List Nat) (T N : Nat → Nat) (I : Nat → Nat → Int) (J : Nat → Nat → Int64) (R : Nat → Nat → Nat) (a_this : Nat) (t_this : T a_this = 7) (a_kind : Nat) (t_kind : T a_kind = 11) (g_t : Nat) (g_s : Nat) (g_S : Nat → Int) (g_n : Int) (p_0 : R a_this 3 = g_t + 1) (p_1 : T g_t = 3) (p_2 : R g_t 0 = g_s + 1) (p_3 : T g_s = 62) (p_4 : I g_s = g_S) (p_5 : TKz g_S g_n) (p_6 : I a_this 5 ≤ g_n) (p_7 : g_S (I a_this 5).toNat = I a_this 6) : GC l yX6_readMember cX6_readMember 3 (some .boolean) ({ frames := 9, cells := 40, slots := 309, locals := 286 }) D dA eA L T N I J R [.ref a_this, .ref a_kind] 40 309 (gI (fun r L' T' N' I' J' R' dz dl => Fr mo_X6_readMember [] T N I J R T' N' I' J' R' ∧ (0 : Int) ≤ r ∧ r ≤ 1 ∧ (I' a_this 5 ≤ g_n ∧ g_S (I' a_this 5).toNat = I' a_this 6 ∧ I a_this 5 ≤ I' a_this 5 ∧ ((r = 0 ∧ I' a_this 1 ≠ 0) ∨ (r = 1 ∧ I' a_this 1 = I a_this 1 ∧ I a_this 5 + 1 ≤ I' a_this 5)) ∧ (dz : Int) ≤ 20 * (I' a_this 5 - I a_this 5) ∧ (dl : Int) ≤ 300 * (I' a_this 5 - I a_this 5) ∧ dz ≤ 40 ∧ dl ≤ 309))) := by
  generalize hPST : (gI (fun r L' T' N' I' J' R' dz dl => Fr mo_X6_readMember [] T N I J R T' N' I' J' R' ∧ (0 : Int) ≤ r ∧ r ≤ 1 ∧ (I' a_this 5 ≤ g_n ∧ g_S (I' a_this 5).toNat = I' a_this 6 ∧ I a_this 5 ≤ I' a_this 5 ∧ ((r = 0 ∧ I' a_this 1 ≠ 0) ∨ (r = 1 ∧ I' a_this 1 = I a_this 1 ∧ I a_this 5 + 1 ≤ I' a_this 5)) ∧ (dz : Int) ≤ 20 * (I' a_this 5 - I a_this 5) ∧ (dl : Int) ≤ 300 * (I' a_this 5 - I a_this 5) ∧ dz ≤ 40 ∧ dl ≤ 309))) = PST
  refine g_enter (own := RX6) (by decide) rfl (Nat.le_of_ble_eq_true rfl) (fun p e s m args below meth c ls hm B hX hM hl => ?_)
  have hC0 := hM.2.2.2.2.2.2.1
  have hW0 := hM.2.2.2
  have hF : Fr mo_X6_readMember [] T N I J R T N I J R := Fr.rf
  have hA : ∀ q, s.heap.size ≤ q → cF dA L T N I J R s.heap.size q := fun q h => Or.inr h
  have hl : lv_has ls 3 [(0, .ref a_this), (1, .ref a_kind)] := hl
  obtain ⟨x1, e2⟩ : ∃ v, I a_this 5 = v := ⟨_, rfl⟩
  obtain ⟨x3, e4⟩ : ∃ v, I a_this 6 = v := ⟨_, rfl⟩
  have nz5 : g_S (x1).toNat = x3 := by have h9 := p_7; rw [e2, e4] at h9; exact h9
  obtain ⟨x6, e7⟩ : ∃ v, I a_this 1 = v := ⟨_, rfl⟩
  refine lv_aload_n B.1 B.2.1 dX6_readMember_0 rfl (lv_at hl 0 rfl) ?_
  have r8 : (-2147483648 : Int) ≤ x3 ∧ x3 ≤ 2147483647 := by rw [← e4]; exact g7_6 hM.2.2.2.2.2.2.1 t_this
  refine c_geti (k := 6) pk_X6 B hM t_this kd7 rfl (by decide) fl_X6_47 dX6_readMember_1 e4 ?_
  refine q_con B dX6_readMember_4 ?_
  refine q_cne (tgt := 20) B dX6_readMember_5 (by decide) (by unfold inr; omega) (by unfold inr; omega) (fun c9 => ?_) (fun c9 => ?_)
  · refine lv_aload_n B.1 B.2.1 dX6_readMember_20 rfl (lv_at hl 0 rfl) ?_
    refine q_con B dX6_readMember_21 ?_
    have hv10 : ((-2147483648 : Int) ≤ 2 ∧ (2 : Int) ≤ 2147483647) ∧ ((2 : Int) ≠ 0) := by first | omega | exact ⟨by first | omega | assumption | exact trivial, by first | omega | assumption | exact trivial⟩
    refine z_calli hM hA (c_runV (n := 1) (as := [.int (II 2)]) (rest := []) B hX hA hM hl.1 t_this kd7 rfl (k_X6_wrong l D dA eA L T N I J R a_this t_this (2) hv10.1 hv10.2 _ _) ml_X6_84 nm_X6_wrong ⟨rfl, rfl⟩ ⟨Nat.le_of_ble_eq_true rfl, Nat.le_of_ble_eq_true rfl⟩ dX6_readMember_22 rfl rfl (Nat.le_of_ble_eq_true rfl) ⟨by show 0 + 0 ≤ 40; omega, by show 0 + 0 ≤ 309; omega⟩) (fun x12 ix12 L13 T14 N15 I16 J17 R18 dz19 dl20 H locs hp11 hMn => ?_)
    obtain ⟨yL13, yT14, yN15, yJ17, yR18, hFc21, hp11a⟩ := hp11
    obtain rfl := yL13.symm; obtain rfl := yT14.symm; obtain rfl := yN15.symm; obtain rfl := yJ17.symm; obtain rfl := yR18.symm
    replace hF : Fr mo_X6_readMember [] T N I J R T N I16 J R := hF.trans hFc21 (by decide) e20
    have hM := hMn
    clear hMn
    replace hp11a : (0 : Int) ≤ x12 ∧ x12 ≤ 1 ∧ (x12 = 0 ∧ I16 a_this 1 ≠ 0) := hp11a
    obtain ⟨hp11a_0, hp11a_1, hp11a_2⟩ := hp11a
    obtain ⟨hp11a_2_0, hp11a_2_1⟩ := hp11a_2
    obtain ⟨x22, e23⟩ : ∃ v, I16 a_this 1 = v := ⟨_, rfl⟩
    have e24 : I16 a_this 5 = x1 := (hFc21.i t_this (by decide) nm0 rfl).trans e2
    have e25 : I16 a_this 6 = x3 := (hFc21.i t_this (by decide) nm0 rfl).trans e4
    refine g_zret B hM dX6_readMember_25 ⟨by show 0 ≤ 40; omega, by show 0 ≤ 309; omega⟩ (by omega) (by omega) ?_
    rw [← hPST]
    exact ⟨x12, rfl, by omega, hF, by omega, by omega, by first | omega | assumption | exact trivial, by show g_S (I16 a_this 5).toNat = I16 a_this 6; rw [e24, e25]; first | assumption | omega, by first | omega | assumption | exact trivial, by first | omega | assumption | exact trivial, by first | omega | assumption | exact trivial, by first | omega | assumption | exact trivial, by first | omega | assumption | exact trivial, by first | omega | assumption | exact trivial⟩
  · refine lv_aload_n B.1 B.2.1 dX6_readMember_8 rfl (lv_at hl 1 rfl) ?_
    obtain ⟨b26, e27, t28⟩ := g11_3 hC0 t_kind
    refine c_getn (k := 3) pk_X3 B hM t_kind kd11 rfl (by decide) fl_X6_236 dX6_readMember_9 e27 ?_
    have hv29 : (15 ≤ 19) ∧ (19 ≤ 23) := by first | omega | exact ⟨by first | omega | assumption | exact trivial, by first | omega | assumption | exact trivial⟩
    refine p_calli (c_runV (n := 0) (as := []) (rest := []) B hX hA hM hl.1 t28 kd19 rfl (k_Jx4a65c_size_8abf5 l D dA eA L T N I J R b26 t28 hv29.1 hv29.2 _ _) ml_X6_135 nm_Jx4a65c_size_8abf5 ⟨rfl, rfl⟩ ⟨Nat.le_of_ble_eq_true rfl, Nat.le_of_ble_eq_true rfl⟩ dX6_readMember_12 rfl rfl (Nat.le_of_ble_eq_true rfl) ⟨by show 0 + 0 ≤ 40; omega, by show 0 + 0 ≤ 309; omega⟩) (fun x31 ix31 hp30 => ?_)
    have hp30a := hp30
    replace hp30a : I b26 2 = x31 ∧ 0 ≤ x31 ∧ x31 ≤ 12 := hp30a
    obtain ⟨hp30a_0, hp30a_1, hp30a_2⟩ := hp30a
    refine q_bip B dX6_readMember_15 (by decide) ?_
    refine q_clt (tgt := 26) B dX6_readMember_17 (by decide) (by unfold inr; omega) (by unfold inr; omega) (fun c32 => ?_) (fun c32 => ?_)
    · refine lv_aload_n B.1 B.2.1 dX6_readMember_26 rfl (lv_at hl 1 rfl) ?_
      refine lv_aload_n B.1 B.2.1 dX6_readMember_27 rfl (lv_at hl 0 rfl) ?_
      obtain ⟨w33, e34⟩ : ∃ v, J a_this 7 = v := ⟨_, rfl⟩
      refine c_getl (k := 7) pk_X6 B hM t_this kd7 rfl (by decide) fl_X6_54 dX6_readMember_28 e34 ?_
      refine p_calli (c_runV (n := 1) (as := [.long w33]) (rest := []) B hX hA hM hl.1 t_kind kd11 rfl (k_X3_find l D dA eA L T N I J R a_kind t_kind w33 _ _) ml_X6_239 nm_X3_find ⟨rfl, rfl⟩ ⟨Nat.le_of_ble_eq_true rfl, Nat.le_of_ble_eq_true rfl⟩ dX6_readMember_31 rfl rfl (Nat.le_of_ble_eq_true rfl) ⟨by show 0 + 0 ≤ 40; omega, by show 0 + 0 ≤ 309; omega⟩) (fun x36 ix36 hp35 => ?_)
      have hp35a := hp35
      replace hp35a : x36 = -1 ∨ (0 ≤ x36 ∧ x36 < I (R a_kind 3 - 1) 2) := hp35a
      have pq37 : I (R a_kind 3 - 1) 2 = I b26 2 := by rw [e27, Nat.add_sub_cancel]
      refine q_con B dX6_readMember_34 ?_
      refine q_ceq (tgt := 44) B dX6_readMember_35 (by decide) (by unfold inr; omega) (by unfold inr; omega) (fun c38 => ?_) (fun c38 => ?_)
      · have hMo := hM
        refine c_new (t := 38) pk_X8 B hX.out hA hM kd38 df_X8 rfl rfl (by decide) cl_X6_205 in_X8 ini_X8 (by show 0 + 1 ≤ 40; omega) (by show 0 + 6 ≤ 309; omega) dX6_readMember_44 (fun b39 L40 T41 N42 H t43 hT44 hN45 hM => ?_)
        have t46 : T41 b39 = 38 := by rw [hT44, va_up_self]
        have n47 : N42 b39 = 6 := by rw [hN45, va_up_self]
        replace hF : Fr mo_X6_readMember [] T N I J R T41 N42 I J R := hF.new t43 hT44 hN45
        have zz48 := hMo.2.2.2.2.2.1 b39 t43
        clear hMo
        refine lv_dup B.1 B.2.1 dX6_readMember_47 rfl ?_
        refine lv_aload_n B.1 B.2.1 dX6_readMember_48 rfl (lv_at hl 0 rfl) ?_
        have t49 : T41 a_this = 7 := hF.tt t_this (by decide) nm0
        refine c_getl (k := 7) pk_X6 B hM t49 kd7 rfl (by decide) fl_X6_54 dX6_readMember_49 e34 ?_
        refine q_con B dX6_readMember_52 ?_
        refine g_callv hM hA (c_runI (n := 2) (as := [.long w33, .int (II 1)]) (rest := [.ref b39]) B hX hA hM hl.1 (k_X8_init l D dA eA L40 T41 N42 I J R b39 t46 w33 (1) (by first | omega | assumption | exact trivial) zz48 _ _) ml_X6_207 nm_X8_init ⟨rfl, rfl⟩ ⟨Nat.le_of_ble_eq_true rfl, Nat.le_of_ble_eq_true rfl⟩ dX6_readMember_53 rfl rfl (Nat.le_of_ble_eq_true rfl) ⟨by show 0 + 1 + 2 ≤ 40; omega, by show 0 + 6 + 6 ≤ 309; omega⟩) (fun L52 T53 N54 I55 J56 R57 dz58 dl59 H locs hp50 hMn => ?_)
        obtain ⟨hFc60, hp50a⟩ := hp50
        have t61 : T41 a_kind = 11 := hF.tt t_kind (by decide) nm0
        have t62 : T41 g_t = 3 := hF.tt p_1 (by decide) nm0
        have t63 : T41 g_s = 62 := hF.tt p_3 (by decide) nm0
        have t64 : T41 b26 = 19 := hF.tt t28 (by decide) nm0
        replace hF : Fr mo_X6_readMember [] T N I J R T53 N54 I55 J56 R57 := hF.trans hFc60 (by decide) (e2x (fun h => absurd t43 h))
        have hM := hMn
        clear hMn
        obtain ⟨t65, hp50a⟩ := hp50a
        replace hp50a : dz58 ≤ 2 ∧ dl59 ≤ 6 ∧ I55 (R57 b39 3 - 1) 2 = 0 ∧ I55 (R57 b39 4 - 1) 2 = 0 := hp50a
        obtain ⟨hp50a_0, hp50a_1, hp50a_2, hp50a_3⟩ := hp50a
        obtain ⟨b66, e67, t68⟩ := g10_3 hM.2.2.2.2.2.2.1 t65
        have pq69 : I55 (R57 b39 3 - 1) 2 = I55 b66 2 := by rw [e67, Nat.add_sub_cancel]
        obtain ⟨x70, e71⟩ : ∃ v, I55 b66 2 = v := ⟨_, rfl⟩
        obtain ⟨b72, e73, t74⟩ := g10_4 hM.2.2.2.2.2.2.1 t65
        have pq75 : I55 (R57 b39 4 - 1) 2 = I55 b72 2 := by rw [e73, Nat.add_sub_cancel]
        obtain ⟨x76, e77⟩ : ∃ v, I55 b72 2 = v := ⟨_, rfl⟩
        refine lv_astore_n (lv' := [(2, .ref b39), (0, .ref a_this), (1, .ref a_kind)]) B.1 B.2.1 dX6_readMember_56 rfl hl (by decide) rfl (fun ls hl => ?_)
        refine lv_aload_n B.1 B.2.1 dX6_readMember_57 rfl (lv_at hl 2 rfl) ?_
        have t78 : T53 a_kind = 11 := hF.tt t_kind (by decide) nm0
        have e79 : R57 a_kind 3 = b26 + 1 := (hF.r t_kind (by decide) nm0 rfl).trans e27
        refine c_getn (k := 3) pk_X3 B hM t78 kd11 rfl (by decide) fl_X6_236 dX6_readMember_58 e79 ?_
        refine lv_aload_n B.1 B.2.1 dX6_readMember_61 rfl (lv_at hl 0 rfl) ?_
        have t80 : T53 b26 = 19 := hF.tt t28 (by decide) nm0
        have e81 : I55 b26 2 = x31 := (hFc60.i t64 (by decide) (nm1 (tne t64 t46 (by decide))) rfl).trans hp30a_0
        obtain ⟨x82, e83⟩ : ∃ v, I55 b39 0 = v := ⟨_, rfl⟩
        have hv84 : (15 ≤ 19) ∧ (19 ≤ 23) ∧ (I55 b26 2 < 12) ∧ (19 = 18 → I55 b39 0 ≤ I55 b26 2) := by first | omega | exact ⟨by first | omega | assumption | exact trivial, by first | omega | assumption | exact trivial, by first | omega | assumption | exact trivial, by first | omega | assumption | exact trivial⟩
        refine g_calli hM hA (c_runV (n := 1) (as := [.ref b39]) (rest := []) B hX hA hM hl.1 t80 kd19 rfl (k_Jx4a65c_add_9ea2d l D dA eA L52 T53 N54 I55 J56 R57 b26 t80 b39 t65 hv84.1 hv84.2.1 hv84.2.2.1 hv84.2.2.2 _ _) ml_X6_146 nm_Jx4a65c_add_9ea2d ⟨rfl, rfl⟩ ⟨Nat.le_of_ble_eq_true rfl, Nat.le_of_ble_eq_true rfl⟩ dX6_readMember_62 rfl rfl (Nat.le_of_ble_eq_true rfl) ⟨by show 0 + 1 + dz58 + 1 ≤ 40; omega, by show 0 + 6 + dl59 + 18 ≤ 309; omega⟩) (fun x86 ix86 L87 T88 N89 I90 J91 R92 dz93 dl94 H locs hp85 hMn => ?_)
        obtain ⟨yJ91, hFc95, hp85a⟩ := hp85
        obtain rfl := yJ91.symm
        have t96 : T53 a_this = 7 := hF.tt t_this (by decide) nm0
        have t97 : T53 g_t = 3 := hF.tt p_1 (by decide) nm0
        have t98 : T53 g_s = 62 := hF.tt p_3 (by decide) nm0
        replace hF : Fr mo_X6_readMember [] T N I J R T88 N89 I90 J56 R92 := hF.trans hFc95 (by decide) e20
        have hM := hMn
        clear hMn
        replace hp85a : (0 : Int) ≤ x86 ∧ x86 ≤ 1 ∧ (I90 b26 2 = I55 b26 2 + 1 ∧ R92 (R92 b26 1 - 1) (I55 b26 2).toNat = b39 + 1 ∧ (∀ i : Nat, (i : Int) < I55 b26 2 → R92 (R92 b26 1 - 1) i = R57 (R57 b26 1 - 1) i) ∧ (∀ b, T53 b = 19 → b ≠ b26 → I90 b 2 = I55 b 2) ∧ dz93 ≤ 1 ∧ dl94 ≤ 18 ∧ dl94 + 3 * N54 (R57 b26 1 - 1) ≤ 3 * N89 (R92 b26 1 - 1) + 2) := hp85a
        obtain ⟨hp85a_0, hp85a_1, hp85a_2⟩ := hp85a
        obtain ⟨hp85a_2_0, hp85a_2_1, hp85a_2_2, hp85a_2_3, hp85a_2_4, hp85a_2_5, hp85a_2_6⟩ := hp85a_2
        obtain ⟨v99, e100⟩ : ∃ v, R92 b26 1 = v := ⟨_, rfl⟩
        refine lv_pop B.1 B.2.1 dX6_readMember_65 rfl ?_
        refine lv_aload_n B.1 B.2.1 dX6_readMember_66 rfl (lv_at hl 1 rfl) ?_
        have t101 : T88 a_this = 7 := hF.tt t_this (by decide) nm0
        have e102 : R92 a_this 3 = g_t + 1 := (hF.r t_this (by decide) nm0 rfl).trans p_0
        have e103 : R92 g_t 0 = g_s + 1 := (hF.r p_1 (by decide) nm0 rfl).trans p_2
        have t104 : T88 g_t = 3 := hF.tt p_1 (by decide) nm0
        have t105 : T88 g_s = 62 := hF.tt p_3 (by decide) nm0
        have e106 : I55 a_this 5 = x1 := (hFc60.i t49 (by decide) (nm1 (tne t49 t46 (by decide))) rfl).trans e2
        have e107 : I90 a_this 5 = x1 := (hFc95.i t96 (by decide) nm0 rfl).trans e106
        have e108 : I55 a_this 6 = x3 := (hFc60.i t49 (by decide) (nm1 (tne t49 t46 (by decide))) rfl).trans e4
        have e109 : I90 a_this 6 = x3 := (hFc95.i t96 (by decide) nm0 rfl).trans e108
        have hv110 : (TKz g_S g_n) ∧ (I90 a_this 5 ≤ g_n) := by first | omega | exact ⟨by first | omega | assumption | exact trivial, by first | omega | assumption | exact trivial⟩
        refine z_callv hM hA (c_runV (n := 0) (as := []) (rest := []) B hX hA hM hl.1 t101 kd7 rfl (k_X6_advance l D dA eA L87 T88 N89 I90 J56 R92 a_this t101 g_t g_s g_S g_n (show R92 a_this 3 = g_t + 1 from e102) (show T88 g_t = 3 from t104) (show R92 g_t 0 = g_s + 1 from e103) (show T88 g_s = 62 from t105) (show I90 g_s = g_S from ((Fr.irow hF p_3 (by decide) nm0 (by decide)).trans p_4)) hv110.1 hv110.2 (show g_S (I90 a_this 5).toNat = I90 a_this 6 from by rw [e107, e109]; first | assumption | omega) _ _) ml_X6_87 nm_X6_advance ⟨rfl, rfl⟩ ⟨Nat.le_of_ble_eq_true rfl, Nat.le_of_ble_eq_true rfl⟩ dX6_readMember_67 rfl rfl (Nat.le_of_ble_eq_true rfl) ⟨by show 0 + 1 + dz58 + dz93 + 0 ≤ 40; omega, by show 0 + 6 + dl59 + dl94 + 0 ≤ 309; omega⟩) (fun L113 T114 N115 I116 J117 R118 dz119 dl120 H locs hp111 hMn => ?_)
        obtain ⟨yL113, yT114, yN115, yR118, hFc121, hp111a⟩ := hp111
        obtain rfl := yL113.symm; obtain rfl := yT114.symm; obtain rfl := yN115.symm; obtain rfl := yR118.symm
        replace hF : Fr mo_X6_readMember [] T N I J R T88 N89 I116 J117 R92 := hF.trans hFc121 (by decide) e20
        have hM := hMn
        clear hMn
        replace hp111a : I116 a_this 5 ≤ g_n ∧ g_S (I116 a_this 5).toNat = I116 a_this 6 ∧ (((I90 a_this 6 = 0 ∨ I90 a_this 6 = 1) ∧ I116 a_this 5 = I90 a_this 5) ∨ (I116 a_this 5 = I90 a_this 5 + 1)) := hp111a
        obtain ⟨hp111a_0, hp111a_1, hp111a_2⟩ := hp111a
        obtain ⟨x122, e123⟩ : ∃ v, I116 a_this 5 = v := ⟨_, rfl⟩
        obtain ⟨x124, e125⟩ : ∃ v, I116 a_this 6 = v := ⟨_, rfl⟩
        have nz126 : g_S (x122).toNat = x124 := by have h9 := hp111a_1; rw [e123, e125] at h9; exact h9
        refine lv_aload_n B.1 B.2.1 dX6_readMember_70 rfl (lv_at hl 1 rfl) ?_
        refine q_bip B dX6_readMember_71 (by decide) ?_
        have hv127 : ((-2147483648 : Int) ≤ 58 ∧ (58 : Int) ≤ 2147483647) ∧ (TKz g_S g_n) ∧ (I116 a_this 5 ≤ g_n) ∧ ((58 : Int) ≠ 0) ∧ ((58 : Int) ≠ 1) := by first | omega | exact ⟨by first | omega | assumption | exact trivial, by first | omega | assumption | exact trivial, by first | omega | assumption | exact trivial, by first | omega | assumption | exact trivial, by first | omega | assumption | exact trivial⟩
        refine z_calli hM hA (c_runV (n := 1) (as := [.int (II 58)]) (rest := []) B hX hA hM hl.1 t101 kd7 rfl (k_X6_readSign l D dA eA L87 T88 N89 I116 J117 R92 a_this t101 (58) hv127.1 g_t g_s g_S g_n (show R92 a_this 3 = g_t + 1 from e102) (show T88 g_t = 3 from t104) (show R92 g_t 0 = g_s + 1 from e103) (show T88 g_s = 62 from t105) (show I116 g_s = g_S from ((Fr.irow hF p_3 (by decide) nm0 (by decide)).trans p_4)) hv127.2.1 hv127.2.2.1 (show g_S (I116 a_this 5).toNat = I116 a_this 6 from by rw [e123, e125]; first | assumption | omega) hv127.2.2.2.1 hv127.2.2.2.2 _ _) ml_X6_122 nm_X6_readSign ⟨rfl, rfl⟩ ⟨Nat.le_of_ble_eq_true rfl, Nat.le_of_ble_eq_true rfl⟩ dX6_readMember_73 rfl rfl (Nat.le_of_ble_eq_true rfl) ⟨by show 0 + 1 + dz58 + dz93 + 0 ≤ 40; omega, by show 0 + 6 + dl59 + dl94 + 0 ≤ 309; omega⟩) (fun x129 ix129 L130 T131 N132 I133 J134 R135 dz136 dl137 H locs hp128 hMn => ?_)
        obtain ⟨yL130, yT131, yN132, yR135, hFc138, hp128a⟩ := hp128
        obtain rfl := yL130.symm; obtain rfl := yT131.symm; obtain rfl := yN132.symm; obtain rfl := yR135.symm
        replace hF : Fr mo_X6_readMember [] T N I J R T88 N89 I133 J134 R92 := hF.trans hFc138 (by decide) e20
        have hM := hMn
        clear hMn
        replace hp128a : (0 : Int) ≤ x129 ∧ x129 ≤ 1 ∧ (I133 a_this 5 ≤ g_n ∧ g_S (I133 a_this 5).toNat = I133 a_this 6 ∧ I116 a_this 5 ≤ I133 a_this 5 ∧ ((x129 = 0 ∧ I133 a_this 1 ≠ 0) ∨ (x129 = 1 ∧ I133 a_this 1 = I116 a_this 1 ∧ I116 a_this 5 + 1 ≤ I133 a_this 5))) := hp128a
        obtain ⟨hp128a_0, hp128a_1, hp128a_2⟩ := hp128a
        obtain ⟨hp128a_2_0, hp128a_2_1, hp128a_2_2, hp128a_2_3⟩ := hp128a_2
        obtain ⟨x139, e140⟩ : ∃ v, I133 a_this 5 = v := ⟨_, rfl⟩
        obtain ⟨x141, e142⟩ : ∃ v, I133 a_this 6 = v := ⟨_, rfl⟩
        have nz143 : g_S (x139).toNat = x141 := by have h9 := hp128a_2_1; rw [e140, e142] at h9; exact h9
        have e144 : I55 a_this 1 = x6 := (hFc60.i t49 (by decide) (nm1 (tne t49 t46 (by decide))) rfl).trans e7
        have e145 : I90 a_this 1 = x6 := (hFc95.i t96 (by decide) nm0 rfl).trans e144
        have e146 : I116 a_this 1 = x6 := (hFc121.i t101 (by decide) nm0 rfl).trans e145
        obtain ⟨x147, e148⟩ : ∃ v, I133 a_this 1 = v := ⟨_, rfl⟩
        refine q_ieq (tgt := 87) B dX6_readMember_76 (by decide) (by unfold inr; omega) (fun c149 => ?_) (fun c149 => ?_)
        · refine q_con B dX6_readMember_87 ?_
          refine g_zret B hM dX6_readMember_88 ⟨by show 0 + 1 + dz58 + dz93 ≤ 40; omega, by show 0 + 6 + dl59 + dl94 ≤ 309; omega⟩ (by omega) (by omega) ?_
          rw [← hPST]
          exact ⟨(0), rfl, by omega, hF, by omega, by omega, by first | omega | assumption | exact trivial, by show g_S (I133 a_this 5).toNat = I133 a_this 6; rw [e140, e142]; first | assumption | omega, by first | omega | assumption | exact trivial, by first | omega | assumption | exact trivial, by first | omega | assumption | exact trivial, by first | omega | assumption | exact trivial, by first | omega | assumption | exact trivial, by first | omega | assumption | exact trivial⟩
        · refine lv_aload_n B.1 B.2.1 dX6_readMember_79 rfl (lv_at hl 1 rfl) ?_
          refine lv_aload_n B.1 B.2.1 dX6_readMember_80 rfl (lv_at hl 0 rfl) ?_
          have t150 : T88 b39 = 10 := hFc95.tt t65 (by decide) nm0
          have hv151 : (TKz g_S g_n) ∧ (I133 a_this 5 ≤ g_n) := by first | omega | exact ⟨by first | omega | assumption | exact trivial, by first | omega | assumption | exact trivial⟩
          refine z_calli hM hA (c_runV (n := 1) (as := [.ref b39]) (rest := []) B hX hA hM hl.1 t101 kd7 rfl (k_X6_readType l D dA eA L87 T88 N89 I133 J134 R92 a_this t101 b39 t150 g_t g_s g_S g_n (show R92 a_this 3 = g_t + 1 from e102) (show T88 g_t = 3 from t104) (show R92 g_t 0 = g_s + 1 from e103) (show T88 g_s = 62 from t105) (show I133 g_s = g_S from ((Fr.irow hF p_3 (by decide) nm0 (by decide)).trans p_4)) hv151.1 hv151.2 (show g_S (I133 a_this 5).toNat = I133 a_this 6 from by rw [e140, e142]; first | assumption | omega) _ _) ml_X6_240 nm_X6_readType ⟨rfl, rfl⟩ ⟨Nat.le_of_ble_eq_true rfl, Nat.le_of_ble_eq_true rfl⟩ dX6_readMember_81 rfl rfl (Nat.le_of_ble_eq_true rfl) ⟨by show 0 + 1 + dz58 + dz93 + 0 ≤ 40; omega, by show 0 + 6 + dl59 + dl94 + 0 ≤ 309; omega⟩) (fun x153 ix153 L154 T155 N156 I157 J158 R159 dz160 dl161 H locs hp152 hMn => ?_)
          obtain ⟨yL154, yT155, yN156, yR159, hFc162, hp152a⟩ := hp152
          obtain rfl := yL154.symm; obtain rfl := yT155.symm; obtain rfl := yN156.symm; obtain rfl := yR159.symm
          replace hF : Fr mo_X6_readMember [] T N I J R T88 N89 I157 J158 R92 := hF.trans hFc162 (by decide) e20
          have hM := hMn
          clear hMn
          replace hp152a : (0 : Int) ≤ x153 ∧ x153 ≤ 1 ∧ (I157 a_this 5 ≤ g_n ∧ g_S (I157 a_this 5).toNat = I157 a_this 6 ∧ I133 a_this 5 ≤ I157 a_this 5 ∧ ((x153 = 0 ∧ I157 a_this 1 ≠ 0) ∨ (x153 = 1 ∧ I157 a_this 1 = I133 a_this 1 ∧ I133 a_this 5 + 0 ≤ I157 a_this 5))) := hp152a
          obtain ⟨hp152a_0, hp152a_1, hp152a_2⟩ := hp152a
          obtain ⟨hp152a_2_0, hp152a_2_1, hp152a_2_2, hp152a_2_3⟩ := hp152a_2
          obtain ⟨x163, e164⟩ : ∃ v, I157 a_this 5 = v := ⟨_, rfl⟩
          obtain ⟨x165, e166⟩ : ∃ v, I157 a_this 6 = v := ⟨_, rfl⟩
          have nz167 : g_S (x163).toNat = x165 := by have h9 := hp152a_2_1; rw [e164, e166] at h9; exact h9
          obtain ⟨x168, e169⟩ : ∃ v, I157 a_this 1 = v := ⟨_, rfl⟩
          refine q_ine (tgt := 89) B dX6_readMember_84 (by decide) (by unfold inr; omega) (fun c170 => ?_) (fun c170 => ?_)
          · refine lv_aload_n B.1 B.2.1 dX6_readMember_89 rfl (lv_at hl 1 rfl) ?_
            have r171 : (-2147483648 : Int) ≤ x165 ∧ x165 ≤ 2147483647 := by rw [← e166]; exact g7_6 hM.2.2.2.2.2.2.1 t101
            refine c_geti (k := 6) pk_X6 B hM t101 kd7 rfl (by decide) fl_X6_47 dX6_readMember_90 e166 ?_
            refine q_bip B dX6_readMember_93 (by decide) ?_
            have JJ112 : ∀ (L_112 : List Nat) (T_112 : Nat → Nat) (N_112 : Nat → Nat) (I_112 : Nat → Nat → Int) (J_112 : Nat → Nat → Int64) (R_112 : Nat → Nat → Nat) (zc112 zs112 : Nat) (H : Heap) (locs : List Loc) (ls : Array Slot), (CWd D dA eA (cF dA L T N I J R s.heap.size) s.heap L_112 T_112 N_112 I_112 J_112 R_112 H locs) → (Fr mo_X6_readMember [] T N I J R T_112 N_112 I_112 J_112 R_112) → lv_has ls 3 [(0, .ref a_this), (1, .ref a_kind)] → (I a_this 5 + 1 ≤ I_112 a_this 5) → ((zc112 : Int) ≤ 40) → ((zs112 : Int) ≤ 309) → ((zc112 : Int) ≤ 20 * (I_112 a_this 5 - I a_this 5)) → ((zs112 : Int) ≤ 300 * (I_112 a_this 5 - I a_this 5)) → (I_112 a_this 5 ≤ g_n) → (g_S (I_112 a_this 5).toNat = I_112 a_this 6) → (I_112 a_this 1 = I a_this 1) → W p l e ({ frames := 9, cells := 40, slots := 309, locals := 286 }) s m args below meth c H locs zc112 zs112 (MQ below (gQ D dA eA (cF dA L T N I J R s.heap.size) s.heap.size (hs s.heap) PST) args s 40 309 (cF dA L T N I J R s.heap.size)) (F0 m 112 ls []) := by
              intro L_112 T_112 N_112 I_112 J_112 R_112 zc112 zs112 H locs ls hM hF hl hJJ112_0 hJJ112_1 hJJ112_2 hJJ112_3 hJJ112_4 hJJ112_5 hJJ112_6 hJJ112_7
              obtain ⟨x172, e173⟩ : ∃ v, I_112 a_this 5 = v := ⟨_, rfl⟩
              obtain ⟨x174, e175⟩ : ∃ v, I_112 a_this 6 = v := ⟨_, rfl⟩
              have nz176 : g_S (x172).toNat = x174 := by have h9 := hJJ112_6; rw [e173, e175] at h9; exact h9
              refine lv_aload_n B.1 B.2.1 dX6_readMember_112 rfl (lv_at hl 0 rfl) ?_
              refine q_bip B dX6_readMember_113 (by decide) ?_
              have t177 : T_112 a_this = 7 := hF.tt t_this (by decide) nm0
              have e178 : R_112 a_this 3 = g_t + 1 := (hF.r t_this (by decide) nm0 rfl).trans p_0
              have e179 : R_112 g_t 0 = g_s + 1 := (hF.r p_1 (by decide) nm0 rfl).trans p_2
              have t180 : T_112 g_t = 3 := hF.tt p_1 (by decide) nm0
              have t181 : T_112 g_s = 62 := hF.tt p_3 (by decide) nm0
              have hv182 : ((-2147483648 : Int) ≤ 59 ∧ (59 : Int) ≤ 2147483647) ∧ (TKz g_S g_n) ∧ (I_112 a_this 5 ≤ g_n) ∧ ((59 : Int) ≠ 0) ∧ ((59 : Int) ≠ 1) := by first | omega | exact ⟨by first | omega | assumption | exact trivial, by first | omega | assumption | exact trivial, by first | omega | assumption | exact trivial, by first | omega | assumption | exact trivial, by first | omega | assumption | exact trivial⟩
              refine z_calli hM hA (c_runV (n := 1) (as := [.int (II 59)]) (rest := []) B hX hA hM hl.1 t177 kd7 rfl (k_X6_readSign l D dA eA L_112 T_112 N_112 I_112 J_112 R_112 a_this t177 (59) hv182.1 g_t g_s g_S g_n (show R_112 a_this 3 = g_t + 1 from e178) (show T_112 g_t = 3 from t180) (show R_112 g_t 0 = g_s + 1 from e179) (show T_112 g_s = 62 from t181) (show I_112 g_s = g_S from ((Fr.irow hF p_3 (by decide) nm0 (by decide)).trans p_4)) hv182.2.1 hv182.2.2.1 (show g_S (I_112 a_this 5).toNat = I_112 a_this 6 from by rw [e173, e175]; first | assumption | omega) hv182.2.2.2.1 hv182.2.2.2.2 _ _) ml_X6_122 nm_X6_readSign ⟨rfl, rfl⟩ ⟨Nat.le_of_ble_eq_true rfl, Nat.le_of_ble_eq_true rfl⟩ dX6_readMember_115 rfl rfl (Nat.le_of_ble_eq_true rfl) ⟨by show zc112 + 0 ≤ 40; omega, by show zs112 + 0 ≤ 309; omega⟩) (fun x184 ix184 L185 T186 N187 I188 J189 R190 dz191 dl192 H locs hp183 hMn => ?_)
              obtain ⟨yL185, yT186, yN187, yR190, hFc193, hp183a⟩ := hp183
              obtain rfl := yL185.symm; obtain rfl := yT186.symm; obtain rfl := yN187.symm; obtain rfl := yR190.symm
              replace hF : Fr mo_X6_readMember [] T N I J R T_112 N_112 I188 J189 R_112 := hF.trans hFc193 (by decide) e20
              have hM := hMn
              clear hMn
              replace hp183a : (0 : Int) ≤ x184 ∧ x184 ≤ 1 ∧ (I188 a_this 5 ≤ g_n ∧ g_S (I188 a_this 5).toNat = I188 a_this 6 ∧ I_112 a_this 5 ≤ I188 a_this 5 ∧ ((x184 = 0 ∧ I188 a_this 1 ≠ 0) ∨ (x184 = 1 ∧ I188 a_this 1 = I_112 a_this 1 ∧ I_112 a_this 5 + 1 ≤ I188 a_this 5))) := hp183a
              obtain ⟨hp183a_0, hp183a_1, hp183a_2⟩ := hp183a
              obtain ⟨hp183a_2_0, hp183a_2_1, hp183a_2_2, hp183a_2_3⟩ := hp183a_2
              obtain ⟨x194, e195⟩ : ∃ v, I188 a_this 5 = v := ⟨_, rfl⟩
              obtain ⟨x196, e197⟩ : ∃ v, I188 a_this 6 = v := ⟨_, rfl⟩
              have nz198 : g_S (x194).toNat = x196 := by have h9 := hp183a_2_1; rw [e195, e197] at h9; exact h9
              obtain ⟨x199, e200⟩ : ∃ v, I188 a_this 1 = v := ⟨_, rfl⟩
              refine g_zret B hM dX6_readMember_118 ⟨by show zc112 ≤ 40; omega, by show zs112 ≤ 309; omega⟩ (by omega) (by omega) ?_
              rw [← hPST]
              exact ⟨x184, rfl, by omega, hF, by omega, by omega, by first | omega | assumption | exact trivial, by show g_S (I188 a_this 5).toNat = I188 a_this 6; rw [e195, e197]; first | assumption | omega, by first | omega | assumption | exact trivial, by first | omega | assumption | exact trivial, by first | omega | assumption | exact trivial, by first | omega | assumption | exact trivial, by first | omega | assumption | exact trivial, by first | omega | assumption | exact trivial⟩
            refine q_cne (tgt := 112) B dX6_readMember_95 (by decide) (by unfold inr; omega) (by unfold inr; omega) (fun c201 => ?_) (fun c201 => ?_)
            · have hv202 : (I a_this 5 + 1 ≤ I157 a_this 5) ∧ ((0 + 1 + dz58 + dz93 : Int) ≤ 40) ∧ ((0 + 6 + dl59 + dl94 : Int) ≤ 309) ∧ ((0 + 1 + dz58 + dz93 : Int) ≤ 20 * (I157 a_this 5 - I a_this 5)) ∧ ((0 + 6 + dl59 + dl94 : Int) ≤ 300 * (I157 a_this 5 - I a_this 5)) ∧ (I157 a_this 5 ≤ g_n) ∧ (I157 a_this 1 = I a_this 1) := by first | omega | exact ⟨by first | omega | assumption | exact trivial, by first | omega | assumption | exact trivial, by first | omega | assumption | exact trivial, by first | omega | assumption | exact trivial, by first | omega | assumption | exact trivial, by first | omega | assumption | exact trivial, by first | omega | assumption | exact trivial⟩
              exact JJ112 L87 T88 N89 I157 J158 R92 (0 + 1 + dz58 + dz93) (0 + 6 + dl59 + dl94) _ _ ls hM hF (lv_sub hl [1, 2] rfl) hv202.1 hv202.2.1 hv202.2.2.1 hv202.2.2.2.1 hv202.2.2.2.2.1 hv202.2.2.2.2.2.1 (by rw [e164, e166]; first | assumption | omega) hv202.2.2.2.2.2.2
            · refine lv_aload_n B.1 B.2.1 dX6_readMember_98 rfl (lv_at hl 1 rfl) ?_
              have hv203 : (TKz g_S g_n) ∧ (I157 a_this 5 ≤ g_n) := by first | omega | exact ⟨by first | omega | assumption | exact trivial, by first | omega | assumption | exact trivial⟩
              refine z_callv hM hA (c_runV (n := 0) (as := []) (rest := []) B hX hA hM hl.1 t101 kd7 rfl (k_X6_advance l D dA eA L87 T88 N89 I157 J158 R92 a_this t101 g_t g_s g_S g_n (show R92 a_this 3 = g_t + 1 from e102) (show T88 g_t = 3 from t104) (show R92 g_t 0 = g_s + 1 from e103) (show T88 g_s = 62 from t105) (show I157 g_s = g_S from ((Fr.irow hF p_3 (by decide) nm0 (by decide)).trans p_4)) hv203.1 hv203.2 (show g_S (I157 a_this 5).toNat = I157 a_this 6 from by rw [e164, e166]; first | assumption | omega) _ _) ml_X6_87 nm_X6_advance ⟨rfl, rfl⟩ ⟨Nat.le_of_ble_eq_true rfl, Nat.le_of_ble_eq_true rfl⟩ dX6_readMember_99 rfl rfl (Nat.le_of_ble_eq_true rfl) ⟨by show 0 + 1 + dz58 + dz93 + 0 ≤ 40; omega, by show 0 + 6 + dl59 + dl94 + 0 ≤ 309; omega⟩) (fun L206 T207 N208 I209 J210 R211 dz212 dl213 H locs hp204 hMn => ?_)
              obtain ⟨yL206, yT207, yN208, yR211, hFc214, hp204a⟩ := hp204
              obtain rfl := yL206.symm; obtain rfl := yT207.symm; obtain rfl := yN208.symm; obtain rfl := yR211.symm
              replace hF : Fr mo_X6_readMember [] T N I J R T88 N89 I209 J210 R92 := hF.trans hFc214 (by decide) e20
              have hM := hMn
              clear hMn
              replace hp204a : I209 a_this 5 ≤ g_n ∧ g_S (I209 a_this 5).toNat = I209 a_this 6 ∧ (((I157 a_this 6 = 0 ∨ I157 a_this 6 = 1) ∧ I209 a_this 5 = I157 a_this 5) ∨ (I209 a_this 5 = I157 a_this 5 + 1)) := hp204a
              obtain ⟨hp204a_0, hp204a_1, hp204a_2⟩ := hp204a
              obtain ⟨x215, e216⟩ : ∃ v, I209 a_this 5 = v := ⟨_, rfl⟩
              obtain ⟨x217, e218⟩ : ∃ v, I209 a_this 6 = v := ⟨_, rfl⟩
              have nz219 : g_S (x215).toNat = x217 := by have h9 := hp204a_1; rw [e216, e218] at h9; exact h9
              refine lv_aload_n B.1 B.2.1 dX6_readMember_102 rfl (lv_at hl 1 rfl) ?_
              refine lv_aload_n B.1 B.2.1 dX6_readMember_103 rfl (lv_at hl 0 rfl) ?_
              have e220 : R92 b39 3 = b66 + 1 := (hFc95.r t65 (by decide) nm0 rfl).trans e67
              have t221 : T88 b66 = 20 := hFc95.tt t68 (by decide) nm0
              have hv222 : (TKz g_S g_n) ∧ (I209 a_this 5 ≤ g_n) := by first | omega | exact ⟨by first | omega | assumption | exact trivial, by first | omega | assumption | exact trivial⟩
              refine g_calli hM hA (c_runV (n := 1) (as := [.ref b39]) (rest := []) B hX hA hM hl.1 t101 kd7 rfl (k_X6_readUses l D dA eA L87 T88 N89 I209 J210 R92 a_this t101 b39 t150 g_t g_s g_S g_n b66 (show R92 a_this 3 = g_t + 1 from e102) (show T88 g_t = 3 from t104) (show R92 g_t 0 = g_s + 1 from e103) (show T88 g_s = 62 from t105) (show I209 g_s = g_S from ((Fr.irow hF p_3 (by decide) nm0 (by decide)).trans p_4)) hv222.1 hv222.2 (show g_S (I209 a_this 5).toNat = I209 a_this 6 from by rw [e216, e218]; first | assumption | omega) (show R92 b39 3 = b66 + 1 from e220) (show T88 b66 = 20 from t221) _ _) ml_X6_209 nm_X6_readUses ⟨rfl, rfl⟩ ⟨Nat.le_of_ble_eq_true rfl, Nat.le_of_ble_eq_true rfl⟩ dX6_readMember_104 rfl rfl (Nat.le_of_ble_eq_true rfl) ⟨by show 0 + 1 + dz58 + dz93 + 36 ≤ 40; omega, by show 0 + 6 + dl59 + dl94 + 279 ≤ 309; omega⟩) (fun x224 ix224 L225 T226 N227 I228 J229 R230 dz231 dl232 H locs hp223 hMn => ?_)
              obtain ⟨hFc233, hp223a⟩ := hp223
              have t234 : T88 a_kind = 11 := hF.tt t_kind (by decide) nm0
              have t235 : T88 b26 = 19 := hF.tt t28 (by decide) nm0
              have t236 : T88 b72 = 21 := hFc95.tt t74 (by decide) nm0
              replace hF : Fr mo_X6_readMember [] T N I J R T226 N227 I228 J229 R230 := hF.trans hFc233 (by decide) e20
              have hM := hMn
              clear hMn
              replace hp223a : (0 : Int) ≤ x224 ∧ x224 ≤ 1 ∧ (I228 a_this 5 ≤ g_n ∧ g_S (I228 a_this 5).toNat = I228 a_this 6 ∧ I209 a_this 5 ≤ I228 a_this 5 ∧ ((x224 = 0 ∧ I228 a_this 1 ≠ 0) ∨ (x224 = 1 ∧ I228 a_this 1 = I209 a_this 1 ∧ I209 a_this 5 + 1 ≤ I228 a_this 5)) ∧ (dz231 : Int) ≤ 4 * (I228 a_this 5 - I209 a_this 5) ∧ (dl232 : Int) ≤ 31 * (I228 a_this 5 - I209 a_this 5) ∧ dz231 ≤ 36 ∧ dl232 ≤ 279) := hp223a
              obtain ⟨hp223a_0, hp223a_1, hp223a_2⟩ := hp223a
              obtain ⟨hp223a_2_0, hp223a_2_1, hp223a_2_2, hp223a_2_3, hp223a_2_4, hp223a_2_5, hp223a_2_6, hp223a_2_7⟩ := hp223a_2
              obtain ⟨x237, e238⟩ : ∃ v, I228 a_this 5 = v := ⟨_, rfl⟩
              obtain ⟨x239, e240⟩ : ∃ v, I228 a_this 6 = v := ⟨_, rfl⟩
              have nz241 : g_S (x237).toNat = x239 := by have h9 := hp223a_2_1; rw [e238, e240] at h9; exact h9
              have e242 : I209 a_this 1 = x168 := (hFc214.i t101 (by decide) nm0 rfl).trans e169
              obtain ⟨x243, e244⟩ : ∃ v, I228 a_this 1 = v := ⟨_, rfl⟩
              refine q_ine (tgt := 112) B dX6_readMember_107 (by decide) (by unfold inr; omega) (fun c245 => ?_) (fun c245 => ?_)
              · have hv246 : (I a_this 5 + 1 ≤ I228 a_this 5) ∧ ((0 + 1 + dz58 + dz93 + dz231 : Int) ≤ 40) ∧ ((0 + 6 + dl59 + dl94 + dl232 : Int) ≤ 309) ∧ ((0 + 1 + dz58 + dz93 + dz231 : Int) ≤ 20 * (I228 a_this 5 - I a_this 5)) ∧ ((0 + 6 + dl59 + dl94 + dl232 : Int) ≤ 300 * (I228 a_this 5 - I a_this 5)) ∧ (I228 a_this 5 ≤ g_n) ∧ (I228 a_this 1 = I a_this 1) := by first | omega | exact ⟨by first | omega | assumption | exact trivial, by first | omega | assumption | exact trivial, by first | omega | assumption | exact trivial, by first | omega | assumption | exact trivial, by first | omega | assumption | exact trivial, by first | omega | assumption | exact trivial, by first | omega | assumption | exact trivial⟩
                exact JJ112 L225 T226 N227 I228 J229 R230 (0 + 1 + dz58 + dz93 + dz231) (0 + 6 + dl59 + dl94 + dl232) _ _ ls hM hF (lv_sub hl [1, 2] rfl) hv246.1 hv246.2.1 hv246.2.2.1 hv246.2.2.2.1 hv246.2.2.2.2.1 hv246.2.2.2.2.2.1 (by rw [e238, e240]; first | assumption | omega) hv246.2.2.2.2.2.2
              · refine q_con B dX6_readMember_110 ?_
                refine g_zret B hM dX6_readMember_111 ⟨by show 0 + 1 + dz58 + dz93 + dz231 ≤ 40; omega, by show 0 + 6 + dl59 + dl94 + dl232 ≤ 309; omega⟩ (by omega) (by omega) ?_
                rw [← hPST]
                exact ⟨(0), rfl, by omega, hF, by omega, by omega, by first | omega | assumption | exact trivial, by show g_S (I228 a_this 5).toNat = I228 a_this 6; rw [e238, e240]; first | assumption | omega, by first | omega | assumption | exact trivial, by first | omega | assumption | exact trivial, by first | omega | assumption | exact trivial, by first | omega | assumption | exact trivial, by first | omega | assumption | exact trivial, by first | omega | assumption | exact trivial⟩
          · refine q_con B dX6_readMember_87 ?_
            refine g_zret B hM dX6_readMember_88 ⟨by show 0 + 1 + dz58 + dz93 ≤ 40; omega, by show 0 + 6 + dl59 + dl94 ≤ 309; omega⟩ (by omega) (by omega) ?_
            rw [← hPST]
            exact ⟨(0), rfl, by omega, hF, by omega, by omega, by first | omega | assumption | exact trivial, by show g_S (I157 a_this 5).toNat = I157 a_this 6; rw [e164, e166]; first | assumption | omega, by first | omega | assumption | exact trivial, by first | omega | assumption | exact trivial, by first | omega | assumption | exact trivial, by first | omega | assumption | exact trivial, by first | omega | assumption | exact trivial, by first | omega | assumption | exact trivial⟩
      · refine lv_aload_n B.1 B.2.1 dX6_readMember_38 rfl (lv_at hl 0 rfl) ?_
        refine q_con B dX6_readMember_39 ?_
        have hv247 : ((-2147483648 : Int) ≤ 3 ∧ (3 : Int) ≤ 2147483647) ∧ ((3 : Int) ≠ 0) := by first | omega | exact ⟨by first | omega | assumption | exact trivial, by first | omega | assumption | exact trivial⟩
        refine z_calli hM hA (c_runV (n := 1) (as := [.int (II 3)]) (rest := []) B hX hA hM hl.1 t_this kd7 rfl (k_X6_wrong l D dA eA L T N I J R a_this t_this (3) hv247.1 hv247.2 _ _) ml_X6_84 nm_X6_wrong ⟨rfl, rfl⟩ ⟨Nat.le_of_ble_eq_true rfl, Nat.le_of_ble_eq_true rfl⟩ dX6_readMember_40 rfl rfl (Nat.le_of_ble_eq_true rfl) ⟨by show 0 + 0 ≤ 40; omega, by show 0 + 0 ≤ 309; omega⟩) (fun x249 ix249 L250 T251 N252 I253 J254 R255 dz256 dl257 H locs hp248 hMn => ?_)
        obtain ⟨yL250, yT251, yN252, yJ254, yR255, hFc258, hp248a⟩ := hp248
        obtain rfl := yL250.symm; obtain rfl := yT251.symm; obtain rfl := yN252.symm; obtain rfl := yJ254.symm; obtain rfl := yR255.symm
        replace hF : Fr mo_X6_readMember [] T N I J R T N I253 J R := hF.trans hFc258 (by decide) e20
        have hM := hMn
        clear hMn
        replace hp248a : (0 : Int) ≤ x249 ∧ x249 ≤ 1 ∧ (x249 = 0 ∧ I253 a_this 1 ≠ 0) := hp248a
        obtain ⟨hp248a_0, hp248a_1, hp248a_2⟩ := hp248a
        obtain ⟨hp248a_2_0, hp248a_2_1⟩ := hp248a_2
        obtain ⟨x259, e260⟩ : ∃ v, I253 a_this 1 = v := ⟨_, rfl⟩
        have e261 : I253 a_this 5 = x1 := (hFc258.i t_this (by decide) nm0 rfl).trans e2
        have e262 : I253 a_this 6 = x3 := (hFc258.i t_this (by decide) nm0 rfl).trans e4
        refine g_zret B hM dX6_readMember_43 ⟨by show 0 ≤ 40; omega, by show 0 ≤ 309; omega⟩ (by omega) (by omega) ?_
        rw [← hPST]
        exact ⟨x249, rfl, by omega, hF, by omega, by omega, by first | omega | assumption | exact trivial, by show g_S (I253 a_this 5).toNat = I253 a_this 6; rw [e261, e262]; first | assumption | omega, by first | omega | assumption | exact trivial, by first | omega | assumption | exact trivial, by first | omega | assumption | exact trivial, by first | omega | assumption | exact trivial, by first | omega | assumption | exact trivial, by first | omega | assumption | exact trivial⟩
    · refine lv_aload_n B.1 B.2.1 dX6_readMember_20 rfl (lv_at hl 0 rfl) ?_
      refine q_con B dX6_readMember_21 ?_
      have hv263 : ((-2147483648 : Int) ≤ 2 ∧ (2 : Int) ≤ 2147483647) ∧ ((2 : Int) ≠ 0) := by first | omega | exact ⟨by first | omega | assumption | exact trivial, by first | omega | assumption | exact trivial⟩
      refine z_calli hM hA (c_runV (n := 1) (as := [.int (II 2)]) (rest := []) B hX hA hM hl.1 t_this kd7 rfl (k_X6_wrong l D dA eA L T N I J R a_this t_this (2) hv263.1 hv263.2 _ _) ml_X6_84 nm_X6_wrong ⟨rfl, rfl⟩ ⟨Nat.le_of_ble_eq_true rfl, Nat.le_of_ble_eq_true rfl⟩ dX6_readMember_22 rfl rfl (Nat.le_of_ble_eq_true rfl) ⟨by show 0 + 0 ≤ 40; omega, by show 0 + 0 ≤ 309; omega⟩) (fun x265 ix265 L266 T267 N268 I269 J270 R271 dz272 dl273 H locs hp264 hMn => ?_)
      obtain ⟨yL266, yT267, yN268, yJ270, yR271, hFc274, hp264a⟩ := hp264
      obtain rfl := yL266.symm; obtain rfl := yT267.symm; obtain rfl := yN268.symm; obtain rfl := yJ270.symm; obtain rfl := yR271.symm
      replace hF : Fr mo_X6_readMember [] T N I J R T N I269 J R := hF.trans hFc274 (by decide) e20
      have hM := hMn
      clear hMn
      replace hp264a : (0 : Int) ≤ x265 ∧ x265 ≤ 1 ∧ (x265 = 0 ∧ I269 a_this 1 ≠ 0) := hp264a
      obtain ⟨hp264a_0, hp264a_1, hp264a_2⟩ := hp264a
      obtain ⟨hp264a_2_0, hp264a_2_1⟩ := hp264a_2
      obtain ⟨x275, e276⟩ : ∃ v, I269 a_this 1 = v := ⟨_, rfl⟩
      have e277 : I269 a_this 5 = x1 := (hFc274.i t_this (by decide) nm0 rfl).trans e2
      have e278 : I269 a_this 6 = x3 := (hFc274.i t_this (by decide) nm0 rfl).trans e4
      refine g_zret B hM dX6_readMember_25 ⟨by show 0 ≤ 40; omega, by show 0 ≤ 309; omega⟩ (by omega) (by omega) ?_
      rw [← hPST]
      exact ⟨x265, rfl, by omega, hF, by omega, by omega, by first | omega | assumption | exact trivial, by show g_S (I269 a_this 5).toNat = I269 a_this 6; rw [e277, e278]; first | assumption | omega, by first | omega | assumption | exact trivial, by first | omega | assumption | exact trivial, by first | omega | assumption | exact trivial, by first | omega | assumption | exact trivial, by first | omega | assumption | exact trivial, by first | omega | assumption | exact trivial⟩

def mo_X6_readMark : List Nat := [229, 230, 231, 225, 226, 290, 291, 289, 2400, 2432, 640, 641, 642, 1760, 293, 294, 295, 296, 297, 298, 544, 545, 546, 1664, 2272, 2304, 203]
set_option maxHeartbeats 1000000 in
set_option maxRecDepth 20000 in
theorem k_X6_readMark (l : Launch) (D : va_G) (dA : Nat → ClassId) (eA : Nat) (L : List Nat) (T N : Nat → Nat) (I : Nat → Nat → Int) (J : Nat → Nat → Int64) (R : Nat → Nat → Nat) (a_this : Nat) (t_this : T a_this = 7) (g_t : Nat) (g_s : Nat) (g_S : Nat → Int) (g_n : Int) (p_0 : R a_this 3 = g_t + 1) (p_1 : T g_t = 3) (p_2 : R g_t 0 = g_s + 1) (p_3 : T g_s = 62) (p_4 : I g_s = g_S) (p_5 : TKz g_S g_n) (p_6 : I a_this 5 ≤ g_n) (p_7 : g_S (I a_this 5).toNat = I a_this 6) : GC l yX6_readMark cX6_readMark 2 (some .boolean) ({ frames := 9, cells := 40, slots := 315, locals := 286 }) D dA eA L T N I J R [.ref a_this] 40 315 (gI (fun r L' T' N' I' J' R' dz dl => Fr mo_X6_readMark [] T N I J R T' N' I' J' R' ∧ (0 : Int) ≤ r ∧ r ≤ 1 ∧ (I' a_this 5 ≤ g_n ∧ g_S (I' a_this 5).toNat = I' a_this 6 ∧ I a_this 5 ≤ I' a_this 5 ∧ ((r = 0 ∧ I' a_this 1 ≠ 0) ∨ (r = 1 ∧ I' a_this 1 = I a_this 1 ∧ I a_this 5 + 1 ≤ I' a_this 5)) ∧ (dz : Int) ≤ 20 * (I' a_this 5 - I a_this 5) ∧ (dl : Int) ≤ 300 * (I' a_this 5 - I a_this 5) ∧ dz ≤ 40 ∧ dl ≤ 315))) := by
  generalize hPST : (gI (fun r L' T' N' I' J' R' dz dl => Fr mo_X6_readMark [] T N I J R T' N' I' J' R' ∧ (0 : Int) ≤ r ∧ r ≤ 1 ∧ (I' a_this 5 ≤ g_n ∧ g_S (I' a_this 5).toNat = I' a_this 6 ∧ I a_this 5 ≤ I' a_this 5 ∧ ((r = 0 ∧ I' a_this 1 ≠ 0) ∨ (r = 1 ∧ I' a_this 1 = I a_this 1 ∧ I a_this 5 + 1 ≤ I' a_this 5)) ∧ (dz : Int) ≤ 20 * (I' a_this 5 - I a_this 5) ∧ (dl : Int) ≤ 300 * (I' a_this 5 - I a_this 5) ∧ dz ≤ 40 ∧ dl ≤ 315))) = PST
  refine g_enter (own := RX6) (by decide) rfl (Nat.le_of_ble_eq_true rfl) (fun p e s m args below meth c ls hm B hX hM hl => ?_)
  have hC0 := hM.2.2.2.2.2.2.1
  have hW0 := hM.2.2.2
  have hF : Fr mo_X6_readMark [] T N I J R T N I J R := Fr.rf
  have hA : ∀ q, s.heap.size ≤ q → cF dA L T N I J R s.heap.size q := fun q h => Or.inr h
  have hl : lv_has ls 2 [(0, .ref a_this)] := hl
  obtain ⟨x1, e2⟩ : ∃ v, I a_this 5 = v := ⟨_, rfl⟩
  obtain ⟨x3, e4⟩ : ∃ v, I a_this 6 = v := ⟨_, rfl⟩
  have nz5 : g_S (x1).toNat = x3 := by have h9 := p_7; rw [e2, e4] at h9; exact h9
  obtain ⟨x6, e7⟩ : ∃ v, I a_this 1 = v := ⟨_, rfl⟩
  refine lv_aload_n B.1 B.2.1 dX6_readMark_0 rfl (lv_at hl 0 rfl) ?_
  refine q_con B dX6_readMark_1 ?_
  refine lv_aload_n B.1 B.2.1 dX6_readMark_2 rfl (lv_at hl 0 rfl) ?_
  obtain ⟨b8, e9, t10⟩ := g7_0 hC0 t_this
  refine c_getn (k := 0) pk_X6 B hM t_this kd7 rfl (by decide) fl_X6_22 dX6_readMark_3 e9 ?_
  obtain ⟨b11, e12, t13⟩ := g6_2 hC0 t10
  refine c_getn (k := 2) pk_X0 B hM t10 kd6 rfl (by decide) fl_X6_202 dX6_readMark_6 e12 ?_
  have hv14 : (15 ≤ 17) ∧ (17 ≤ 23) := by first | omega | exact ⟨by first | omega | assumption | exact trivial, by first | omega | assumption | exact trivial⟩
  refine p_calli (c_runV (n := 0) (as := []) (rest := [.int (II 4), .ref a_this]) B hX hA hM hl.1 t13 kd17 rfl (k_Jx4a65c_size_8abf5 l D dA eA L T N I J R b11 t13 hv14.1 hv14.2 _ _) ml_X6_135 nm_Jx4a65c_size_8abf5 ⟨rfl, rfl⟩ ⟨Nat.le_of_ble_eq_true rfl, Nat.le_of_ble_eq_true rfl⟩ dX6_readMark_9 rfl rfl (Nat.le_of_ble_eq_true rfl) ⟨by show 0 + 0 ≤ 40; omega, by show 0 + 0 ≤ 315; omega⟩) (fun x16 ix16 hp15 => ?_)
  have hp15a := hp15
  replace hp15a : I b11 2 = x16 ∧ 0 ≤ x16 ∧ x16 ≤ 16 := hp15a
  obtain ⟨hp15a_0, hp15a_1, hp15a_2⟩ := hp15a
  refine q_bip B dX6_readMark_12 (by decide) ?_
  have hv17 : ((-2147483648 : Int) ≤ 4 ∧ (4 : Int) ≤ 2147483647) ∧ ((-2147483648 : Int) ≤ x16 ∧ (x16 : Int) ≤ 2147483647) ∧ ((-2147483648 : Int) ≤ 16 ∧ (16 : Int) ≤ 2147483647) ∧ (TKz g_S g_n) ∧ (I a_this 5 ≤ g_n) := by first | omega | exact ⟨by first | omega | assumption | exact trivial, by first | omega | assumption | exact trivial, by first | omega | assumption | exact trivial, by first | omega | assumption | exact trivial, by first | omega | assumption | exact trivial⟩
  refine z_calli hM hA (c_runV (n := 3) (as := [.int (II 4), .int (II x16), .int (II 16)]) (rest := []) B hX hA hM hl.1 t_this kd7 rfl (k_X6_readHead l D dA eA L T N I J R a_this t_this (4) hv17.1 x16 hv17.2.1 (16) hv17.2.2.1 g_t g_s g_S g_n (show R a_this 3 = g_t + 1 from p_0) (show T g_t = 3 from p_1) (show R g_t 0 = g_s + 1 from p_2) (show T g_s = 62 from p_3) (show I g_s = g_S from p_4) hv17.2.2.2.1 hv17.2.2.2.2 (show g_S (I a_this 5).toNat = I a_this 6 from by rw [e2, e4]; first | assumption | omega) _ _) ml_X6_111 nm_X6_readHead ⟨rfl, rfl⟩ ⟨Nat.le_of_ble_eq_true rfl, Nat.le_of_ble_eq_true rfl⟩ dX6_readMark_14 rfl rfl (Nat.le_of_ble_eq_true rfl) ⟨by show 0 + 0 ≤ 40; omega, by show 0 + 0 ≤ 315; omega⟩) (fun x19 ix19 L20 T21 N22 I23 J24 R25 dz26 dl27 H locs hp18 hMn => ?_)
  obtain ⟨yL20, yT21, yN22, yR25, hFc28, hp18a⟩ := hp18
  obtain rfl := yL20.symm; obtain rfl := yT21.symm; obtain rfl := yN22.symm; obtain rfl := yR25.symm
  replace hF : Fr mo_X6_readMark [] T N I J R T N I23 J24 R := hF.trans hFc28 (by decide) e20
  have hM := hMn
  clear hMn
  replace hp18a : (0 : Int) ≤ x19 ∧ x19 ≤ 1 ∧ (I23 a_this 5 ≤ g_n ∧ g_S (I23 a_this 5).toNat = I23 a_this 6 ∧ I a_this 5 ≤ I23 a_this 5 ∧ ((x19 = 0 ∧ I23 a_this 1 ≠ 0) ∨ (x19 = 1 ∧ I23 a_this 1 = I a_this 1 ∧ I a_this 5 + 1 ≤ I23 a_this 5)) ∧ (x19 = 0 ∨ x16 < (16 : Int))) := hp18a
  obtain ⟨hp18a_0, hp18a_1, hp18a_2⟩ := hp18a
  obtain ⟨hp18a_2_0, hp18a_2_1, hp18a_2_2, hp18a_2_3, hp18a_2_4⟩ := hp18a_2
  obtain ⟨x29, e30⟩ : ∃ v, I23 a_this 5 = v := ⟨_, rfl⟩
  obtain ⟨x31, e32⟩ : ∃ v, I23 a_this 6 = v := ⟨_, rfl⟩
  have nz33 : g_S (x29).toNat = x31 := by have h9 := hp18a_2_1; rw [e30, e32] at h9; exact h9
  obtain ⟨x34, e35⟩ : ∃ v, I23 a_this 1 = v := ⟨_, rfl⟩
  refine q_ieq (tgt := 29) B dX6_readMark_17 (by decide) (by unfold inr; omega) (fun c36 => ?_) (fun c36 => ?_)
  · refine q_con B dX6_readMark_29 ?_
    refine g_zret B hM dX6_readMark_30 ⟨by show 0 ≤ 40; omega, by show 0 ≤ 315; omega⟩ (by omega) (by omega) ?_
    rw [← hPST]
    exact ⟨(0), rfl, by omega, hF, by omega, by omega, by first | omega | assumption | exact trivial, by show g_S (I23 a_this 5).toNat = I23 a_this 6; rw [e30, e32]; first | assumption | omega, by first | omega | assumption | exact trivial, by first | omega | assumption | exact trivial, by first | omega | assumption | exact trivial, by first | omega | assumption | exact trivial, by first | omega | assumption | exact trivial, by first | omega | assumption | exact trivial⟩
  · refine lv_aload_n B.1 B.2.1 dX6_readMark_20 rfl (lv_at hl 0 rfl) ?_
    refine q_bip B dX6_readMark_21 (by decide) ?_
    have hv37 : ((-2147483648 : Int) ≤ 61 ∧ (61 : Int) ≤ 2147483647) ∧ (TKz g_S g_n) ∧ (I23 a_this 5 ≤ g_n) ∧ ((61 : Int) ≠ 0) ∧ ((61 : Int) ≠ 1) := by first | omega | exact ⟨by first | omega | assumption | exact trivial, by first | omega | assumption | exact trivial, by first | omega | assumption | exact trivial, by first | omega | assumption | exact trivial, by first | omega | assumption | exact trivial⟩
    refine z_calli hM hA (c_runV (n := 1) (as := [.int (II 61)]) (rest := []) B hX hA hM hl.1 t_this kd7 rfl (k_X6_readSign l D dA eA L T N I23 J24 R a_this t_this (61) hv37.1 g_t g_s g_S g_n (show R a_this 3 = g_t + 1 from p_0) (show T g_t = 3 from p_1) (show R g_t 0 = g_s + 1 from p_2) (show T g_s = 62 from p_3) (show I23 g_s = g_S from ((Fr.irow hF p_3 (by decide) nm0 (by decide)).trans p_4)) hv37.2.1 hv37.2.2.1 (show g_S (I23 a_this 5).toNat = I23 a_this 6 from by rw [e30, e32]; first | assumption | omega) hv37.2.2.2.1 hv37.2.2.2.2 _ _) ml_X6_122 nm_X6_readSign ⟨rfl, rfl⟩ ⟨Nat.le_of_ble_eq_true rfl, Nat.le_of_ble_eq_true rfl⟩ dX6_readMark_23 rfl rfl (Nat.le_of_ble_eq_true rfl) ⟨by show 0 + 0 ≤ 40; omega, by show 0 + 0 ≤ 315; omega⟩) (fun x39 ix39 L40 T41 N42 I43 J44 R45 dz46 dl47 H locs hp38 hMn => ?_)
    obtain ⟨yL40, yT41, yN42, yR45, hFc48, hp38a⟩ := hp38
    obtain rfl := yL40.symm; obtain rfl := yT41.symm; obtain rfl := yN42.symm; obtain rfl := yR45.symm
    replace hF : Fr mo_X6_readMark [] T N I J R T N I43 J44 R := hF.trans hFc48 (by decide) e20
    have hM := hMn
    clear hMn
    replace hp38a : (0 : Int) ≤ x39 ∧ x39 ≤ 1 ∧ (I43 a_this 5 ≤ g_n ∧ g_S (I43 a_this 5).toNat = I43 a_this 6 ∧ I23 a_this 5 ≤ I43 a_this 5 ∧ ((x39 = 0 ∧ I43 a_this 1 ≠ 0) ∨ (x39 = 1 ∧ I43 a_this 1 = I23 a_this 1 ∧ I23 a_this 5 + 1 ≤ I43 a_this 5))) := hp38a
    obtain ⟨hp38a_0, hp38a_1, hp38a_2⟩ := hp38a
    obtain ⟨hp38a_2_0, hp38a_2_1, hp38a_2_2, hp38a_2_3⟩ := hp38a_2
    obtain ⟨x49, e50⟩ : ∃ v, I43 a_this 5 = v := ⟨_, rfl⟩
    obtain ⟨x51, e52⟩ : ∃ v, I43 a_this 6 = v := ⟨_, rfl⟩
    have nz53 : g_S (x49).toNat = x51 := by have h9 := hp38a_2_1; rw [e50, e52] at h9; exact h9
    obtain ⟨x54, e55⟩ : ∃ v, I43 a_this 1 = v := ⟨_, rfl⟩
    refine q_ine (tgt := 31) B dX6_readMark_26 (by decide) (by unfold inr; omega) (fun c56 => ?_) (fun c56 => ?_)
    · have hMo := hM
      refine c_new (t := 38) pk_X8 B hX.out hA hM kd38 df_X8 rfl rfl (by decide) cl_X6_205 in_X8 ini_X8 (by show 0 + 1 ≤ 40; omega) (by show 0 + 6 ≤ 315; omega) dX6_readMark_31 (fun b57 L58 T59 N60 H t61 hT62 hN63 hM => ?_)
      have t64 : T59 b57 = 38 := by rw [hT62, va_up_self]
      have n65 : N60 b57 = 6 := by rw [hN63, va_up_self]
      replace hF : Fr mo_X6_readMark [] T N I J R T59 N60 I43 J44 R := hF.new t61 hT62 hN63
      have zz66 := hMo.2.2.2.2.2.1 b57 t61
      clear hMo
      refine lv_dup B.1 B.2.1 dX6_readMark_34 rfl ?_
      refine lv_lconst (v := 0) B.1 B.2.1 dX6_readMark_35 (by decide) ?_
      refine q_bip B dX6_readMark_36 (by decide) ?_
      refine g_callv hM hA (c_runI (n := 2) (as := [.long ((0 : Int64)), .int (II 6)]) (rest := [.ref b57]) B hX hA hM hl.1 (k_X8_init l D dA eA L58 T59 N60 I43 J44 R b57 t64 ((0 : Int64)) (6) (by first | omega | assumption | exact trivial) zz66 _ _) ml_X6_207 nm_X8_init ⟨rfl, rfl⟩ ⟨Nat.le_of_ble_eq_true rfl, Nat.le_of_ble_eq_true rfl⟩ dX6_readMark_38 rfl rfl (Nat.le_of_ble_eq_true rfl) ⟨by show 0 + 1 + 2 ≤ 40; omega, by show 0 + 6 + 6 ≤ 315; omega⟩) (fun L69 T70 N71 I72 J73 R74 dz75 dl76 H locs hp67 hMn => ?_)
      obtain ⟨hFc77, hp67a⟩ := hp67
      have t78 : T59 a_this = 7 := hF.tt t_this (by decide) nm0
      have t79 : T59 g_t = 3 := hF.tt p_1 (by decide) nm0
      have t80 : T59 g_s = 62 := hF.tt p_3 (by decide) nm0
      have t81 : T59 b8 = 6 := hF.tt t10 (by decide) nm0
      have t82 : T59 b11 = 17 := hF.tt t13 (by decide) nm0
      replace hF : Fr mo_X6_readMark [] T N I J R T70 N71 I72 J73 R74 := hF.trans hFc77 (by decide) (e2x (fun h => absurd t61 h))
      have hM := hMn
      clear hMn
      obtain ⟨t83, hp67a⟩ := hp67a
      replace hp67a : dz75 ≤ 2 ∧ dl76 ≤ 6 ∧ I72 (R74 b57 3 - 1) 2 = 0 ∧ I72 (R74 b57 4 - 1) 2 = 0 := hp67a
      obtain ⟨hp67a_0, hp67a_1, hp67a_2, hp67a_3⟩ := hp67a
      obtain ⟨b84, e85, t86⟩ := g10_3 hM.2.2.2.2.2.2.1 t83
      have pq87 : I72 (R74 b57 3 - 1) 2 = I72 b84 2 := by rw [e85, Nat.add_sub_cancel]
      obtain ⟨x88, e89⟩ : ∃ v, I72 b84 2 = v := ⟨_, rfl⟩
      obtain ⟨b90, e91, t92⟩ := g10_4 hM.2.2.2.2.2.2.1 t83
      have pq93 : I72 (R74 b57 4 - 1) 2 = I72 b90 2 := by rw [e91, Nat.add_sub_cancel]
      obtain ⟨x94, e95⟩ : ∃ v, I72 b90 2 = v := ⟨_, rfl⟩
      refine lv_astore_n (lv' := [(1, .ref b57), (0, .ref a_this)]) B.1 B.2.1 dX6_readMark_41 rfl hl (by decide) rfl (fun ls hl => ?_)
      refine lv_aload_n B.1 B.2.1 dX6_readMark_42 rfl (lv_at hl 1 rfl) ?_
      have t96 : T70 a_this = 7 := hF.tt t_this (by decide) nm0
      have e97 : R74 a_this 0 = b8 + 1 := (hF.r t_this (by decide) nm0 rfl).trans e9
      refine c_getn (k := 0) pk_X6 B hM t96 kd7 rfl (by decide) fl_X6_22 dX6_readMark_43 e97 ?_
      have t98 : T70 b8 = 6 := hF.tt t10 (by decide) nm0
      have e99 : R74 b8 2 = b11 + 1 := (hF.r t10 (by decide) nm0 rfl).trans e12
      refine c_getn (k := 2) pk_X0 B hM t98 kd6 rfl (by decide) fl_X6_202 dX6_readMark_46 e99 ?_
      refine lv_aload_n B.1 B.2.1 dX6_readMark_49 rfl (lv_at hl 0 rfl) ?_
      have t100 : T70 b11 = 17 := hF.tt t13 (by decide) nm0
      have e101 : I23 b11 2 = x16 := (hFc28.i t13 (by decide) nm0 rfl).trans hp15a_0
      have e102 : I43 b11 2 = x16 := (hFc48.i t13 (by decide) nm0 rfl).trans e101
      have e103 : I72 b11 2 = x16 := (hFc77.i t82 (by decide) (nm1 (tne t82 t64 (by decide))) rfl).trans e102
      obtain ⟨x104, e105⟩ : ∃ v, I72 b57 0 = v := ⟨_, rfl⟩
      have hv106 : (15 ≤ 17) ∧ (17 ≤ 23) ∧ (I72 b11 2 < 16) ∧ (17 = 18 → I72 b57 0 ≤ I72 b11 2) := by first | omega | exact ⟨by first | omega | assumption | exact trivial, by first | omega | assumption | exact trivial, by first | omega | assumption | exact trivial, by first | omega | assumption | exact trivial⟩
      refine g_calli hM hA (c_runV (n := 1) (as := [.ref b57]) (rest := []) B hX hA hM hl.1 t100 kd17 rfl (k_Jx4a65c_add_9ea2d l D dA eA L69 T70 N71 I72 J73 R74 b11 t100 b57 t83 hv106.1 hv106.2.1 hv106.2.2.1 hv106.2.2.2 _ _) ml_X6_146 nm_Jx4a65c_add_9ea2d ⟨rfl, rfl⟩ ⟨Nat.le_of_ble_eq_true rfl, Nat.le_of_ble_eq_true rfl⟩ dX6_readMark_50 rfl rfl (Nat.le_of_ble_eq_true rfl) ⟨by show 0 + 1 + dz75 + 1 ≤ 40; omega, by show 0 + 6 + dl76 + 24 ≤ 315; omega⟩) (fun x108 ix108 L109 T110 N111 I112 J113 R114 dz115 dl116 H locs hp107 hMn => ?_)
      obtain ⟨yJ113, hFc117, hp107a⟩ := hp107
      obtain rfl := yJ113.symm
      have t118 : T70 g_t = 3 := hF.tt p_1 (by decide) nm0
      have t119 : T70 g_s = 62 := hF.tt p_3 (by decide) nm0
      replace hF : Fr mo_X6_readMark [] T N I J R T110 N111 I112 J73 R114 := hF.trans hFc117 (by decide) e20
      have hM := hMn
      clear hMn
      replace hp107a : (0 : Int) ≤ x108 ∧ x108 ≤ 1 ∧ (I112 b11 2 = I72 b11 2 + 1 ∧ R114 (R114 b11 1 - 1) (I72 b11 2).toNat = b57 + 1 ∧ (∀ i : Nat, (i : Int) < I72 b11 2 → R114 (R114 b11 1 - 1) i = R74 (R74 b11 1 - 1) i) ∧ (∀ b, T70 b = 17 → b ≠ b11 → I112 b 2 = I72 b 2) ∧ dz115 ≤ 1 ∧ dl116 ≤ 24 ∧ dl116 + 3 * N71 (R74 b11 1 - 1) ≤ 3 * N111 (R114 b11 1 - 1) + 2) := hp107a
      obtain ⟨hp107a_0, hp107a_1, hp107a_2⟩ := hp107a
      obtain ⟨hp107a_2_0, hp107a_2_1, hp107a_2_2, hp107a_2_3, hp107a_2_4, hp107a_2_5, hp107a_2_6⟩ := hp107a_2
      obtain ⟨v120, e121⟩ : ∃ v, R114 b11 1 = v := ⟨_, rfl⟩
      refine lv_pop B.1 B.2.1 dX6_readMark_53 rfl ?_
      refine lv_aload_n B.1 B.2.1 dX6_readMark_54 rfl (lv_at hl 1 rfl) ?_
      refine lv_aload_n B.1 B.2.1 dX6_readMark_55 rfl (lv_at hl 0 rfl) ?_
      have t122 : T110 a_this = 7 := hF.tt t_this (by decide) nm0
      have t123 : T110 b57 = 10 := hFc117.tt t83 (by decide) nm0
      have e124 : R114 a_this 3 = g_t + 1 := (hF.r t_this (by decide) nm0 rfl).trans p_0
      have e125 : R114 g_t 0 = g_s + 1 := (hF.r p_1 (by decide) nm0 rfl).trans p_2
      have e126 : R114 b57 3 = b84 + 1 := (hFc117.r t83 (by decide) nm0 rfl).trans e85
      have t127 : T110 g_t = 3 := hF.tt p_1 (by decide) nm0
      have t128 : T110 g_s = 62 := hF.tt p_3 (by decide) nm0
      have e129 : I72 a_this 5 = x49 := (hFc77.i t78 (by decide) (nm1 (tne t78 t64 (by decide))) rfl).trans e50
      have e130 : I112 a_this 5 = x49 := (hFc117.i t96 (by decide) nm0 rfl).trans e129
      have e131 : I72 a_this 6 = x51 := (hFc77.i t78 (by decide) (nm1 (tne t78 t64 (by decide))) rfl).trans e52
      have e132 : I112 a_this 6 = x51 := (hFc117.i t96 (by decide) nm0 rfl).trans e131
      have t133 : T110 b84 = 20 := hFc117.tt t86 (by decide) nm0
      have hv134 : (TKz g_S g_n) ∧ (I112 a_this 5 ≤ g_n) := by first | omega | exact ⟨by first | omega | assumption | exact trivial, by first | omega | assumption | exact trivial⟩
      refine g_calli hM hA (c_runV (n := 1) (as := [.ref b57]) (rest := []) B hX hA hM hl.1 t122 kd7 rfl (k_X6_readUses l D dA eA L109 T110 N111 I112 J73 R114 a_this t122 b57 t123 g_t g_s g_S g_n b84 (show R114 a_this 3 = g_t + 1 from e124) (show T110 g_t = 3 from t127) (show R114 g_t 0 = g_s + 1 from e125) (show T110 g_s = 62 from t128) (show I112 g_s = g_S from ((Fr.irow hF p_3 (by decide) nm0 (by decide)).trans p_4)) hv134.1 hv134.2 (show g_S (I112 a_this 5).toNat = I112 a_this 6 from by rw [e130, e132]; first | assumption | omega) (show R114 b57 3 = b84 + 1 from e126) (show T110 b84 = 20 from t133) _ _) ml_X6_209 nm_X6_readUses ⟨rfl, rfl⟩ ⟨Nat.le_of_ble_eq_true rfl, Nat.le_of_ble_eq_true rfl⟩ dX6_readMark_56 rfl rfl (Nat.le_of_ble_eq_true rfl) ⟨by show 0 + 1 + dz75 + dz115 + 36 ≤ 40; omega, by show 0 + 6 + dl76 + dl116 + 279 ≤ 315; omega⟩) (fun x136 ix136 L137 T138 N139 I140 J141 R142 dz143 dl144 H locs hp135 hMn => ?_)
      obtain ⟨hFc145, hp135a⟩ := hp135
      have t146 : T110 b8 = 6 := hF.tt t10 (by decide) nm0
      have t147 : T110 b11 = 17 := hF.tt t13 (by decide) nm0
      have t148 : T110 b90 = 21 := hFc117.tt t92 (by decide) nm0
      replace hF : Fr mo_X6_readMark [] T N I J R T138 N139 I140 J141 R142 := hF.trans hFc145 (by decide) e20
      have hM := hMn
      clear hMn
      replace hp135a : (0 : Int) ≤ x136 ∧ x136 ≤ 1 ∧ (I140 a_this 5 ≤ g_n ∧ g_S (I140 a_this 5).toNat = I140 a_this 6 ∧ I112 a_this 5 ≤ I140 a_this 5 ∧ ((x136 = 0 ∧ I140 a_this 1 ≠ 0) ∨ (x136 = 1 ∧ I140 a_this 1 = I112 a_this 1 ∧ I112 a_this 5 + 1 ≤ I140 a_this 5)) ∧ (dz143 : Int) ≤ 4 * (I140 a_this 5 - I112 a_this 5) ∧ (dl144 : Int) ≤ 31 * (I140 a_this 5 - I112 a_this 5) ∧ dz143 ≤ 36 ∧ dl144 ≤ 279) := hp135a
      obtain ⟨hp135a_0, hp135a_1, hp135a_2⟩ := hp135a
      obtain ⟨hp135a_2_0, hp135a_2_1, hp135a_2_2, hp135a_2_3, hp135a_2_4, hp135a_2_5, hp135a_2_6, hp135a_2_7⟩ := hp135a_2
      obtain ⟨x149, e150⟩ : ∃ v, I140 a_this 5 = v := ⟨_, rfl⟩
      obtain ⟨x151, e152⟩ : ∃ v, I140 a_this 6 = v := ⟨_, rfl⟩
      have nz153 : g_S (x149).toNat = x151 := by have h9 := hp135a_2_1; rw [e150, e152] at h9; exact h9
      have e154 : I72 a_this 1 = x54 := (hFc77.i t78 (by decide) (nm1 (tne t78 t64 (by decide))) rfl).trans e55
      have e155 : I112 a_this 1 = x54 := (hFc117.i t96 (by decide) nm0 rfl).trans e154
      obtain ⟨x156, e157⟩ : ∃ v, I140 a_this 1 = v := ⟨_, rfl⟩
      refine q_ieq (tgt := 75) B dX6_readMark_59 (by decide) (by unfold inr; omega) (fun c158 => ?_) (fun c158 => ?_)
      · refine q_con B dX6_readMark_75 ?_
        refine g_zret B hM dX6_readMark_76 ⟨by show 0 + 1 + dz75 + dz115 + dz143 ≤ 40; omega, by show 0 + 6 + dl76 + dl116 + dl144 ≤ 315; omega⟩ (by omega) (by omega) ?_
        rw [← hPST]
        exact ⟨(0), rfl, by omega, hF, by omega, by omega, by first | omega | assumption | exact trivial, by show g_S (I140 a_this 5).toNat = I140 a_this 6; rw [e150, e152]; first | assumption | omega, by first | omega | assumption | exact trivial, by first | omega | assumption | exact trivial, by first | omega | assumption | exact trivial, by first | omega | assumption | exact trivial, by first | omega | assumption | exact trivial, by first | omega | assumption | exact trivial⟩
      · refine lv_aload_n B.1 B.2.1 dX6_readMark_62 rfl (lv_at hl 1 rfl) ?_
        refine q_bip B dX6_readMark_63 (by decide) ?_
        have t159 : T138 a_this = 7 := hF.tt t_this (by decide) nm0
        have e160 : R142 a_this 3 = g_t + 1 := (hF.r t_this (by decide) nm0 rfl).trans p_0
        have e161 : R142 g_t 0 = g_s + 1 := (hF.r p_1 (by decide) nm0 rfl).trans p_2
        have t162 : T138 g_t = 3 := hF.tt p_1 (by decide) nm0
        have t163 : T138 g_s = 62 := hF.tt p_3 (by decide) nm0
        have hv164 : ((-2147483648 : Int) ≤ 59 ∧ (59 : Int) ≤ 2147483647) ∧ (TKz g_S g_n) ∧ (I140 a_this 5 ≤ g_n) ∧ ((59 : Int) ≠ 0) ∧ ((59 : Int) ≠ 1) := by first | omega | exact ⟨by first | omega | assumption | exact trivial, by first | omega | assumption | exact trivial, by first | omega | assumption | exact trivial, by first | omega | assumption | exact trivial, by first | omega | assumption | exact trivial⟩
        refine z_calli hM hA (c_runV (n := 1) (as := [.int (II 59)]) (rest := []) B hX hA hM hl.1 t159 kd7 rfl (k_X6_readSign l D dA eA L137 T138 N139 I140 J141 R142 a_this t159 (59) hv164.1 g_t g_s g_S g_n (show R142 a_this 3 = g_t + 1 from e160) (show T138 g_t = 3 from t162) (show R142 g_t 0 = g_s + 1 from e161) (show T138 g_s = 62 from t163) (show I140 g_s = g_S from ((Fr.irow hF p_3 (by decide) nm0 (by decide)).trans p_4)) hv164.2.1 hv164.2.2.1 (show g_S (I140 a_this 5).toNat = I140 a_this 6 from by rw [e150, e152]; first | assumption | omega) hv164.2.2.2.1 hv164.2.2.2.2 _ _) ml_X6_122 nm_X6_readSign ⟨rfl, rfl⟩ ⟨Nat.le_of_ble_eq_true rfl, Nat.le_of_ble_eq_true rfl⟩ dX6_readMark_65 rfl rfl (Nat.le_of_ble_eq_true rfl) ⟨by show 0 + 1 + dz75 + dz115 + dz143 + 0 ≤ 40; omega, by show 0 + 6 + dl76 + dl116 + dl144 + 0 ≤ 315; omega⟩) (fun x166 ix166 L167 T168 N169 I170 J171 R172 dz173 dl174 H locs hp165 hMn => ?_)
        obtain ⟨yL167, yT168, yN169, yR172, hFc175, hp165a⟩ := hp165
        obtain rfl := yL167.symm; obtain rfl := yT168.symm; obtain rfl := yN169.symm; obtain rfl := yR172.symm
        replace hF : Fr mo_X6_readMark [] T N I J R T138 N139 I170 J171 R142 := hF.trans hFc175 (by decide) e20
        have hM := hMn
        clear hMn
        replace hp165a : (0 : Int) ≤ x166 ∧ x166 ≤ 1 ∧ (I170 a_this 5 ≤ g_n ∧ g_S (I170 a_this 5).toNat = I170 a_this 6 ∧ I140 a_this 5 ≤ I170 a_this 5 ∧ ((x166 = 0 ∧ I170 a_this 1 ≠ 0) ∨ (x166 = 1 ∧ I170 a_this 1 = I140 a_this 1 ∧ I140 a_this 5 + 1 ≤ I170 a_this 5))) := hp165a
        obtain ⟨hp165a_0, hp165a_1, hp165a_2⟩ := hp165a
        obtain ⟨hp165a_2_0, hp165a_2_1, hp165a_2_2, hp165a_2_3⟩ := hp165a_2
        obtain ⟨x176, e177⟩ : ∃ v, I170 a_this 5 = v := ⟨_, rfl⟩
        obtain ⟨x178, e179⟩ : ∃ v, I170 a_this 6 = v := ⟨_, rfl⟩
        have nz180 : g_S (x176).toNat = x178 := by have h9 := hp165a_2_1; rw [e177, e179] at h9; exact h9
        obtain ⟨x181, e182⟩ : ∃ v, I170 a_this 1 = v := ⟨_, rfl⟩
        refine q_ieq (tgt := 75) B dX6_readMark_68 (by decide) (by unfold inr; omega) (fun c183 => ?_) (fun c183 => ?_)
        · refine q_con B dX6_readMark_75 ?_
          refine g_zret B hM dX6_readMark_76 ⟨by show 0 + 1 + dz75 + dz115 + dz143 ≤ 40; omega, by show 0 + 6 + dl76 + dl116 + dl144 ≤ 315; omega⟩ (by omega) (by omega) ?_
          rw [← hPST]
          exact ⟨(0), rfl, by omega, hF, by omega, by omega, by first | omega | assumption | exact trivial, by show g_S (I170 a_this 5).toNat = I170 a_this 6; rw [e177, e179]; first | assumption | omega, by first | omega | assumption | exact trivial, by first | omega | assumption | exact trivial, by first | omega | assumption | exact trivial, by first | omega | assumption | exact trivial, by first | omega | assumption | exact trivial, by first | omega | assumption | exact trivial⟩
        · refine q_con B dX6_readMark_71 ?_
          refine lv_goto (tgt := 76) B.1 B.2.1 dX6_readMark_72 (by decide) ?_
          refine g_zret B hM dX6_readMark_76 ⟨by show 0 + 1 + dz75 + dz115 + dz143 ≤ 40; omega, by show 0 + 6 + dl76 + dl116 + dl144 ≤ 315; omega⟩ (by omega) (by omega) ?_
          rw [← hPST]
          exact ⟨(1), rfl, by omega, hF, by omega, by omega, by first | omega | assumption | exact trivial, by show g_S (I170 a_this 5).toNat = I170 a_this 6; rw [e177, e179]; first | assumption | omega, by first | omega | assumption | exact trivial, by first | omega | assumption | exact trivial, by first | omega | assumption | exact trivial, by first | omega | assumption | exact trivial, by first | omega | assumption | exact trivial, by first | omega | assumption | exact trivial⟩
    · refine q_con B dX6_readMark_29 ?_
      refine g_zret B hM dX6_readMark_30 ⟨by show 0 ≤ 40; omega, by show 0 ≤ 315; omega⟩ (by omega) (by omega) ?_
      rw [← hPST]
      exact ⟨(0), rfl, by omega, hF, by omega, by omega, by first | omega | assumption | exact trivial, by show g_S (I43 a_this 5).toNat = I43 a_this 6; rw [e50, e52]; first | assumption | omega, by first | omega | assumption | exact trivial, by first | omega | assumption | exact trivial, by first | omega | assumption | exact trivial, by first | omega | assumption | exact trivial, by first | omega | assumption | exact trivial, by first | omega | assumption | exact trivial⟩

def mo_X6_readChain : List Nat := [229, 230, 231, 225, 226, 2080, 233, 2272, 2304, 203, 2176, 197]
set_option maxHeartbeats 1000000 in
set_option maxRecDepth 20000 in
theorem k_X6_readChain (l : Launch) (D : va_G) (dA : Nat → ClassId) (eA : Nat) (L : List Nat) (T N : Nat → Nat) (I : Nat → Nat → Int) (J : Nat → Nat → Int64) (R : Nat → Nat → Nat) (a_this : Nat) (t_this : T a_this = 7) (g_t : Nat) (g_s : Nat) (g_S : Nat → Int) (g_n : Int) (p_0 : R a_this 3 = g_t + 1) (p_1 : T g_t = 3) (p_2 : R g_t 0 = g_s + 1) (p_3 : T g_s = 62) (p_4 : I g_s = g_S) (p_5 : TKz g_S g_n) (p_6 : I a_this 5 ≤ g_n) (p_7 : g_S (I a_this 5).toNat = I a_this 6) : GC l yX6_readChain cX6_readChain 1 (some .boolean) ({ frames := 3, cells := 1, slots := 8, locals := 104 }) D dA eA L T N I J R [.ref a_this] 1 8 (gI (fun r L' T' N' I' J' R' dz dl => Fr mo_X6_readChain [] T N I J R T' N' I' J' R' ∧ (0 : Int) ≤ r ∧ r ≤ 1 ∧ (I' a_this 5 ≤ g_n ∧ g_S (I' a_this 5).toNat = I' a_this 6 ∧ I a_this 5 ≤ I' a_this 5 ∧ ((r = 0 ∧ I' a_this 1 ≠ 0) ∨ (r = 1 ∧ I' a_this 1 = I a_this 1 ∧ I a_this 5 + 1 ≤ I' a_this 5)) ∧ (dz : Int) ≤ 20 * (I' a_this 5 - I a_this 5) ∧ (dl : Int) ≤ 300 * (I' a_this 5 - I a_this 5) ∧ dz ≤ 1 ∧ dl ≤ 8))) := by
  generalize hPST : (gI (fun r L' T' N' I' J' R' dz dl => Fr mo_X6_readChain [] T N I J R T' N' I' J' R' ∧ (0 : Int) ≤ r ∧ r ≤ 1 ∧ (I' a_this 5 ≤ g_n ∧ g_S (I' a_this 5).toNat = I' a_this 6 ∧ I a_this 5 ≤ I' a_this 5 ∧ ((r = 0 ∧ I' a_this 1 ≠ 0) ∨ (r = 1 ∧ I' a_this 1 = I a_this 1 ∧ I a_this 5 + 1 ≤ I' a_this 5)) ∧ (dz : Int) ≤ 20 * (I' a_this 5 - I a_this 5) ∧ (dl : Int) ≤ 300 * (I' a_this 5 - I a_this 5) ∧ dz ≤ 1 ∧ dl ≤ 8))) = PST
  refine g_enter (own := RX6) (by decide) rfl (Nat.le_of_ble_eq_true rfl) (fun p e s m args below meth c ls hm B hX hM hl => ?_)
  have hC0 := hM.2.2.2.2.2.2.1
  have hW0 := hM.2.2.2
  have hF : Fr mo_X6_readChain [] T N I J R T N I J R := Fr.rf
  have hA : ∀ q, s.heap.size ≤ q → cF dA L T N I J R s.heap.size q := fun q h => Or.inr h
  have hl : lv_has ls 1 [(0, .ref a_this)] := hl
  obtain ⟨x1, e2⟩ : ∃ v, I a_this 5 = v := ⟨_, rfl⟩
  obtain ⟨x3, e4⟩ : ∃ v, I a_this 6 = v := ⟨_, rfl⟩
  have nz5 : g_S (x1).toNat = x3 := by have h9 := p_7; rw [e2, e4] at h9; exact h9
  obtain ⟨x6, e7⟩ : ∃ v, I a_this 1 = v := ⟨_, rfl⟩
  refine lv_aload_n B.1 B.2.1 dX6_readChain_0 rfl (lv_at hl 0 rfl) ?_
  refine q_con B dX6_readChain_1 ?_
  refine lv_aload_n B.1 B.2.1 dX6_readChain_2 rfl (lv_at hl 0 rfl) ?_
  obtain ⟨b8, e9, t10⟩ := g7_0 hC0 t_this
  refine c_getn (k := 0) pk_X6 B hM t_this kd7 rfl (by decide) fl_X6_22 dX6_readChain_3 e9 ?_
  obtain ⟨x11, e12⟩ : ∃ v, I b8 5 = v := ⟨_, rfl⟩
  have r13 : (0 : Int) ≤ x11 ∧ x11 ≤ 6 := by rw [← e12]; exact g6_5 hM.2.2.2.2.2.2.1 t10
  refine c_geti (k := 5) pk_X0 B hM t10 kd6 rfl (by decide) fl_X6_125 dX6_readChain_6 e12 ?_
  refine q_bip B dX6_readChain_9 (by decide) ?_
  have hv14 : ((-2147483648 : Int) ≤ 2 ∧ (2 : Int) ≤ 2147483647) ∧ ((-2147483648 : Int) ≤ x11 ∧ (x11 : Int) ≤ 2147483647) ∧ ((-2147483648 : Int) ≤ 6 ∧ (6 : Int) ≤ 2147483647) ∧ (TKz g_S g_n) ∧ (I a_this 5 ≤ g_n) := by first | omega | exact ⟨by first | omega | assumption | exact trivial, by first | omega | assumption | exact trivial, by first | omega | assumption | exact trivial, by first | omega | assumption | exact trivial, by first | omega | assumption | exact trivial⟩
  refine z_calli hM hA (c_runV (n := 3) (as := [.int (II 2), .int (II x11), .int (II 6)]) (rest := []) B hX hA hM hl.1 t_this kd7 rfl (k_X6_readHead l D dA eA L T N I J R a_this t_this (2) hv14.1 x11 hv14.2.1 (6) hv14.2.2.1 g_t g_s g_S g_n (show R a_this 3 = g_t + 1 from p_0) (show T g_t = 3 from p_1) (show R g_t 0 = g_s + 1 from p_2) (show T g_s = 62 from p_3) (show I g_s = g_S from p_4) hv14.2.2.2.1 hv14.2.2.2.2 (show g_S (I a_this 5).toNat = I a_this 6 from by rw [e2, e4]; first | assumption | omega) _ _) ml_X6_111 nm_X6_readHead ⟨rfl, rfl⟩ ⟨Nat.le_of_ble_eq_true rfl, Nat.le_of_ble_eq_true rfl⟩ dX6_readChain_11 rfl rfl (Nat.le_of_ble_eq_true rfl) ⟨by show 0 + 0 ≤ 1; omega, by show 0 + 0 ≤ 8; omega⟩) (fun x16 ix16 L17 T18 N19 I20 J21 R22 dz23 dl24 H locs hp15 hMn => ?_)
  obtain ⟨yL17, yT18, yN19, yR22, hFc25, hp15a⟩ := hp15
  obtain rfl := yL17.symm; obtain rfl := yT18.symm; obtain rfl := yN19.symm; obtain rfl := yR22.symm
  replace hF : Fr mo_X6_readChain [] T N I J R T N I20 J21 R := hF.trans hFc25 (by decide) e20
  have hM := hMn
  clear hMn
  replace hp15a : (0 : Int) ≤ x16 ∧ x16 ≤ 1 ∧ (I20 a_this 5 ≤ g_n ∧ g_S (I20 a_this 5).toNat = I20 a_this 6 ∧ I a_this 5 ≤ I20 a_this 5 ∧ ((x16 = 0 ∧ I20 a_this 1 ≠ 0) ∨ (x16 = 1 ∧ I20 a_this 1 = I a_this 1 ∧ I a_this 5 + 1 ≤ I20 a_this 5)) ∧ (x16 = 0 ∨ x11 < (6 : Int))) := hp15a
  obtain ⟨hp15a_0, hp15a_1, hp15a_2⟩ := hp15a
  obtain ⟨hp15a_2_0, hp15a_2_1, hp15a_2_2, hp15a_2_3, hp15a_2_4⟩ := hp15a_2
  obtain ⟨x26, e27⟩ : ∃ v, I20 a_this 5 = v := ⟨_, rfl⟩
  obtain ⟨x28, e29⟩ : ∃ v, I20 a_this 6 = v := ⟨_, rfl⟩
  have nz30 : g_S (x26).toNat = x28 := by have h9 := hp15a_2_1; rw [e27, e29] at h9; exact h9
  obtain ⟨x31, e32⟩ : ∃ v, I20 a_this 1 = v := ⟨_, rfl⟩
  refine q_ieq (tgt := 35) B dX6_readChain_14 (by decide) (by unfold inr; omega) (fun c33 => ?_) (fun c33 => ?_)
  · refine q_con B dX6_readChain_35 ?_
    refine g_zret B hM dX6_readChain_36 ⟨by show 0 ≤ 1; omega, by show 0 ≤ 8; omega⟩ (by omega) (by omega) ?_
    rw [← hPST]
    exact ⟨(0), rfl, by omega, hF, by omega, by omega, by first | omega | assumption | exact trivial, by show g_S (I20 a_this 5).toNat = I20 a_this 6; rw [e27, e29]; first | assumption | omega, by first | omega | assumption | exact trivial, by first | omega | assumption | exact trivial, by first | omega | assumption | exact trivial, by first | omega | assumption | exact trivial, by first | omega | assumption | exact trivial, by first | omega | assumption | exact trivial⟩
  · refine lv_aload_n B.1 B.2.1 dX6_readChain_17 rfl (lv_at hl 0 rfl) ?_
    refine q_bip B dX6_readChain_18 (by decide) ?_
    have hv34 : ((-2147483648 : Int) ≤ 58 ∧ (58 : Int) ≤ 2147483647) ∧ (TKz g_S g_n) ∧ (I20 a_this 5 ≤ g_n) ∧ ((58 : Int) ≠ 0) ∧ ((58 : Int) ≠ 1) := by first | omega | exact ⟨by first | omega | assumption | exact trivial, by first | omega | assumption | exact trivial, by first | omega | assumption | exact trivial, by first | omega | assumption | exact trivial, by first | omega | assumption | exact trivial⟩
    refine z_calli hM hA (c_runV (n := 1) (as := [.int (II 58)]) (rest := []) B hX hA hM hl.1 t_this kd7 rfl (k_X6_readSign l D dA eA L T N I20 J21 R a_this t_this (58) hv34.1 g_t g_s g_S g_n (show R a_this 3 = g_t + 1 from p_0) (show T g_t = 3 from p_1) (show R g_t 0 = g_s + 1 from p_2) (show T g_s = 62 from p_3) (show I20 g_s = g_S from ((Fr.irow hF p_3 (by decide) nm0 (by decide)).trans p_4)) hv34.2.1 hv34.2.2.1 (show g_S (I20 a_this 5).toNat = I20 a_this 6 from by rw [e27, e29]; first | assumption | omega) hv34.2.2.2.1 hv34.2.2.2.2 _ _) ml_X6_122 nm_X6_readSign ⟨rfl, rfl⟩ ⟨Nat.le_of_ble_eq_true rfl, Nat.le_of_ble_eq_true rfl⟩ dX6_readChain_20 rfl rfl (Nat.le_of_ble_eq_true rfl) ⟨by show 0 + 0 ≤ 1; omega, by show 0 + 0 ≤ 8; omega⟩) (fun x36 ix36 L37 T38 N39 I40 J41 R42 dz43 dl44 H locs hp35 hMn => ?_)
    obtain ⟨yL37, yT38, yN39, yR42, hFc45, hp35a⟩ := hp35
    obtain rfl := yL37.symm; obtain rfl := yT38.symm; obtain rfl := yN39.symm; obtain rfl := yR42.symm
    replace hF : Fr mo_X6_readChain [] T N I J R T N I40 J41 R := hF.trans hFc45 (by decide) e20
    have hM := hMn
    clear hMn
    replace hp35a : (0 : Int) ≤ x36 ∧ x36 ≤ 1 ∧ (I40 a_this 5 ≤ g_n ∧ g_S (I40 a_this 5).toNat = I40 a_this 6 ∧ I20 a_this 5 ≤ I40 a_this 5 ∧ ((x36 = 0 ∧ I40 a_this 1 ≠ 0) ∨ (x36 = 1 ∧ I40 a_this 1 = I20 a_this 1 ∧ I20 a_this 5 + 1 ≤ I40 a_this 5))) := hp35a
    obtain ⟨hp35a_0, hp35a_1, hp35a_2⟩ := hp35a
    obtain ⟨hp35a_2_0, hp35a_2_1, hp35a_2_2, hp35a_2_3⟩ := hp35a_2
    obtain ⟨x46, e47⟩ : ∃ v, I40 a_this 5 = v := ⟨_, rfl⟩
    obtain ⟨x48, e49⟩ : ∃ v, I40 a_this 6 = v := ⟨_, rfl⟩
    have nz50 : g_S (x46).toNat = x48 := by have h9 := hp35a_2_1; rw [e47, e49] at h9; exact h9
    obtain ⟨x51, e52⟩ : ∃ v, I40 a_this 1 = v := ⟨_, rfl⟩
    refine q_ieq (tgt := 35) B dX6_readChain_23 (by decide) (by unfold inr; omega) (fun c53 => ?_) (fun c53 => ?_)
    · refine q_con B dX6_readChain_35 ?_
      refine g_zret B hM dX6_readChain_36 ⟨by show 0 ≤ 1; omega, by show 0 ≤ 8; omega⟩ (by omega) (by omega) ?_
      rw [← hPST]
      exact ⟨(0), rfl, by omega, hF, by omega, by omega, by first | omega | assumption | exact trivial, by show g_S (I40 a_this 5).toNat = I40 a_this 6; rw [e47, e49]; first | assumption | omega, by first | omega | assumption | exact trivial, by first | omega | assumption | exact trivial, by first | omega | assumption | exact trivial, by first | omega | assumption | exact trivial, by first | omega | assumption | exact trivial, by first | omega | assumption | exact trivial⟩
    · refine lv_aload_n B.1 B.2.1 dX6_readChain_26 rfl (lv_at hl 0 rfl) ?_
      refine q_bip B dX6_readChain_27 (by decide) ?_
      have hv54 : ((-2147483648 : Int) ≤ 8 ∧ (8 : Int) ≤ 2147483647) ∧ (TKz g_S g_n) ∧ (I40 a_this 5 ≤ g_n) := by first | omega | exact ⟨by first | omega | assumption | exact trivial, by first | omega | assumption | exact trivial, by first | omega | assumption | exact trivial⟩
      refine z_calli hM hA (c_runV (n := 1) (as := [.int (II 8)]) (rest := []) B hX hA hM hl.1 t_this kd7 rfl (k_X6_readRow l D dA eA L T N I40 J41 R a_this t_this (8) hv54.1 g_t g_s g_S g_n (show R a_this 3 = g_t + 1 from p_0) (show T g_t = 3 from p_1) (show R g_t 0 = g_s + 1 from p_2) (show T g_s = 62 from p_3) (show I40 g_s = g_S from ((Fr.irow hF p_3 (by decide) nm0 (by decide)).trans p_4)) hv54.2.1 hv54.2.2 (show g_S (I40 a_this 5).toNat = I40 a_this 6 from by rw [e47, e49]; first | assumption | omega) _ _) ml_X6_115 nm_X6_readRow ⟨rfl, rfl⟩ ⟨Nat.le_of_ble_eq_true rfl, Nat.le_of_ble_eq_true rfl⟩ dX6_readChain_29 rfl rfl (Nat.le_of_ble_eq_true rfl) ⟨by show 0 + 0 ≤ 1; omega, by show 0 + 0 ≤ 8; omega⟩) (fun x56 ix56 L57 T58 N59 I60 J61 R62 dz63 dl64 H locs hp55 hMn => ?_)
      obtain ⟨yL57, yT58, yN59, yR62, hFc65, hp55a⟩ := hp55
      obtain rfl := yL57.symm; obtain rfl := yT58.symm; obtain rfl := yN59.symm; obtain rfl := yR62.symm
      replace hF : Fr mo_X6_readChain [] T N I J R T N I60 J61 R := hF.trans hFc65 (by decide) e20
      have hM := hMn
      clear hMn
      replace hp55a : (0 : Int) ≤ x56 ∧ x56 ≤ 1 ∧ (I60 a_this 5 ≤ g_n ∧ g_S (I60 a_this 5).toNat = I60 a_this 6 ∧ I40 a_this 5 ≤ I60 a_this 5 ∧ ((x56 = 0 ∧ I60 a_this 1 ≠ 0) ∨ (x56 = 1 ∧ I60 a_this 1 = I40 a_this 1 ∧ I40 a_this 5 + 1 ≤ I60 a_this 5))) := hp55a
      obtain ⟨hp55a_0, hp55a_1, hp55a_2⟩ := hp55a
      obtain ⟨hp55a_2_0, hp55a_2_1, hp55a_2_2, hp55a_2_3⟩ := hp55a_2
      obtain ⟨x66, e67⟩ : ∃ v, I60 a_this 5 = v := ⟨_, rfl⟩
      obtain ⟨x68, e69⟩ : ∃ v, I60 a_this 6 = v := ⟨_, rfl⟩
      have nz70 : g_S (x66).toNat = x68 := by have h9 := hp55a_2_1; rw [e67, e69] at h9; exact h9
      obtain ⟨x71, e72⟩ : ∃ v, I60 a_this 1 = v := ⟨_, rfl⟩
      refine q_ine (tgt := 37) B dX6_readChain_32 (by decide) (by unfold inr; omega) (fun c73 => ?_) (fun c73 => ?_)
      · refine lv_aload_n B.1 B.2.1 dX6_readChain_37 rfl (lv_at hl 0 rfl) ?_
        refine c_getn (k := 0) pk_X6 B hM t_this kd7 rfl (by decide) fl_X6_22 dX6_readChain_38 e9 ?_
        refine lv_aload_n B.1 B.2.1 dX6_readChain_41 rfl (lv_at hl 0 rfl) ?_
        obtain ⟨b74, e75, t76⟩ := g7_8 hC0 t_this
        refine c_getn (k := 8) pk_X6 B hM t_this kd7 rfl (by decide) fl_X6_25 dX6_readChain_42 e75 ?_
        refine lv_aload_n B.1 B.2.1 dX6_readChain_45 rfl (lv_at hl 0 rfl) ?_
        obtain ⟨x77, e78⟩ : ∃ v, I60 a_this 9 = v := ⟨_, rfl⟩
        have r79 : (0 : Int) ≤ x77 ∧ x77 ≤ 8 := by rw [← e78]; exact g7_9 hM.2.2.2.2.2.2.1 t_this
        refine c_geti (k := 9) pk_X6 B hM t_this kd7 rfl (by decide) fl_X6_101 dX6_readChain_46 e78 ?_
        have hv80 : ((-2147483648 : Int) ≤ x77 ∧ (x77 : Int) ≤ 2147483647) ∧ (0 ≤ x77) ∧ (x77 ≤ 8) := by first | omega | exact ⟨by first | omega | assumption | exact trivial, by first | omega | assumption | exact trivial, by first | omega | assumption | exact trivial⟩
        refine g_callv hM hA (c_runV (n := 2) (as := [.ref b74, .int (II x77)]) (rest := []) B hX hA hM hl.1 t10 kd6 rfl (k_X0_addChain l D dA eA L T N I60 J61 R b8 t10 b74 t76 x77 hv80.1 hv80.2.1 hv80.2.2 _ _) ml_X6_128 nm_X0_addChain ⟨rfl, rfl⟩ ⟨Nat.le_of_ble_eq_true rfl, Nat.le_of_ble_eq_true rfl⟩ dX6_readChain_49 rfl rfl (Nat.le_of_ble_eq_true rfl) ⟨by show 0 + 1 ≤ 1; omega, by show 0 + 8 ≤ 8; omega⟩) (fun L83 T84 N85 I86 J87 R88 dz89 dl90 H locs hp81 hMn => ?_)
        obtain ⟨yJ87, hFc91, hp81a⟩ := hp81
        obtain rfl := yJ87.symm
        replace hF : Fr mo_X6_readChain [] T N I J R T84 N85 I86 J61 R88 := hF.trans hFc91 (by decide) e20
        have hM := hMn
        clear hMn
        replace hp81a : dz89 ≤ 1 ∧ dl90 ≤ 8 := hp81a
        obtain ⟨hp81a_0, hp81a_1⟩ := hp81a
        refine lv_aload_n B.1 B.2.1 dX6_readChain_52 rfl (lv_at hl 0 rfl) ?_
        refine q_bip B dX6_readChain_53 (by decide) ?_
        have t92 : T84 a_this = 7 := hF.tt t_this (by decide) nm0
        have e93 : R88 a_this 3 = g_t + 1 := (hF.r t_this (by decide) nm0 rfl).trans p_0
        have e94 : R88 g_t 0 = g_s + 1 := (hF.r p_1 (by decide) nm0 rfl).trans p_2
        have t95 : T84 g_t = 3 := hF.tt p_1 (by decide) nm0
        have t96 : T84 g_s = 62 := hF.tt p_3 (by decide) nm0
        have e97 : I86 a_this 5 = x66 := (hFc91.i t_this (by decide) nm0 rfl).trans e67
        have e98 : I86 a_this 6 = x68 := (hFc91.i t_this (by decide) nm0 rfl).trans e69
        have hv99 : ((-2147483648 : Int) ≤ 59 ∧ (59 : Int) ≤ 2147483647) ∧ (TKz g_S g_n) ∧ (I86 a_this 5 ≤ g_n) ∧ ((59 : Int) ≠ 0) ∧ ((59 : Int) ≠ 1) := by first | omega | exact ⟨by first | omega | assumption | exact trivial, by first | omega | assumption | exact trivial, by first | omega | assumption | exact trivial, by first | omega | assumption | exact trivial, by first | omega | assumption | exact trivial⟩
        refine z_calli hM hA (c_runV (n := 1) (as := [.int (II 59)]) (rest := []) B hX hA hM hl.1 t92 kd7 rfl (k_X6_readSign l D dA eA L83 T84 N85 I86 J61 R88 a_this t92 (59) hv99.1 g_t g_s g_S g_n (show R88 a_this 3 = g_t + 1 from e93) (show T84 g_t = 3 from t95) (show R88 g_t 0 = g_s + 1 from e94) (show T84 g_s = 62 from t96) (show I86 g_s = g_S from ((Fr.irow hF p_3 (by decide) nm0 (by decide)).trans p_4)) hv99.2.1 hv99.2.2.1 (show g_S (I86 a_this 5).toNat = I86 a_this 6 from by rw [e97, e98]; first | assumption | omega) hv99.2.2.2.1 hv99.2.2.2.2 _ _) ml_X6_122 nm_X6_readSign ⟨rfl, rfl⟩ ⟨Nat.le_of_ble_eq_true rfl, Nat.le_of_ble_eq_true rfl⟩ dX6_readChain_55 rfl rfl (Nat.le_of_ble_eq_true rfl) ⟨by show 0 + dz89 + 0 ≤ 1; omega, by show 0 + dl90 + 0 ≤ 8; omega⟩) (fun x101 ix101 L102 T103 N104 I105 J106 R107 dz108 dl109 H locs hp100 hMn => ?_)
        obtain ⟨yL102, yT103, yN104, yR107, hFc110, hp100a⟩ := hp100
        obtain rfl := yL102.symm; obtain rfl := yT103.symm; obtain rfl := yN104.symm; obtain rfl := yR107.symm
        replace hF : Fr mo_X6_readChain [] T N I J R T84 N85 I105 J106 R88 := hF.trans hFc110 (by decide) e20
        have hM := hMn
        clear hMn
        replace hp100a : (0 : Int) ≤ x101 ∧ x101 ≤ 1 ∧ (I105 a_this 5 ≤ g_n ∧ g_S (I105 a_this 5).toNat = I105 a_this 6 ∧ I86 a_this 5 ≤ I105 a_this 5 ∧ ((x101 = 0 ∧ I105 a_this 1 ≠ 0) ∨ (x101 = 1 ∧ I105 a_this 1 = I86 a_this 1 ∧ I86 a_this 5 + 1 ≤ I105 a_this 5))) := hp100a
        obtain ⟨hp100a_0, hp100a_1, hp100a_2⟩ := hp100a
        obtain ⟨hp100a_2_0, hp100a_2_1, hp100a_2_2, hp100a_2_3⟩ := hp100a_2
        obtain ⟨x111, e112⟩ : ∃ v, I105 a_this 5 = v := ⟨_, rfl⟩
        obtain ⟨x113, e114⟩ : ∃ v, I105 a_this 6 = v := ⟨_, rfl⟩
        have nz115 : g_S (x111).toNat = x113 := by have h9 := hp100a_2_1; rw [e112, e114] at h9; exact h9
        have e116 : I86 a_this 1 = x71 := (hFc91.i t_this (by decide) nm0 rfl).trans e72
        obtain ⟨x117, e118⟩ : ∃ v, I105 a_this 1 = v := ⟨_, rfl⟩
        refine g_zret B hM dX6_readChain_58 ⟨by show 0 + dz89 ≤ 1; omega, by show 0 + dl90 ≤ 8; omega⟩ (by omega) (by omega) ?_
        rw [← hPST]
        exact ⟨x101, rfl, by omega, hF, by omega, by omega, by first | omega | assumption | exact trivial, by show g_S (I105 a_this 5).toNat = I105 a_this 6; rw [e112, e114]; first | assumption | omega, by first | omega | assumption | exact trivial, by first | omega | assumption | exact trivial, by first | omega | assumption | exact trivial, by first | omega | assumption | exact trivial, by first | omega | assumption | exact trivial, by first | omega | assumption | exact trivial⟩
      · refine q_con B dX6_readChain_35 ?_
        refine g_zret B hM dX6_readChain_36 ⟨by show 0 ≤ 1; omega, by show 0 ≤ 8; omega⟩ (by omega) (by omega) ?_
        rw [← hPST]
        exact ⟨(0), rfl, by omega, hF, by omega, by omega, by first | omega | assumption | exact trivial, by show g_S (I60 a_this 5).toNat = I60 a_this 6; rw [e67, e69]; first | assumption | omega, by first | omega | assumption | exact trivial, by first | omega | assumption | exact trivial, by first | omega | assumption | exact trivial, by first | omega | assumption | exact trivial, by first | omega | assumption | exact trivial, by first | omega | assumption | exact trivial⟩

def mo_X6_endSteps : List Nat := [225, 226]
set_option maxHeartbeats 1000000 in
set_option maxRecDepth 20000 in
theorem k_X6_endSteps (l : Launch) (D : va_G) (dA : Nat → ClassId) (eA : Nat) (L : List Nat) (T N : Nat → Nat) (I : Nat → Nat → Int) (J : Nat → Nat → Int64) (R : Nat → Nat → Nat) (a_this : Nat) (t_this : T a_this = 7) (a_s : Int) (i_s : (0 : Int) ≤ a_s ∧ a_s ≤ 1) (a_d : Int) (i_d : (-2147483648 : Int) ≤ a_d ∧ a_d ≤ 2147483647) : GC l yX6_endSteps cX6_endSteps 3 (some .boolean) ({ frames := 1, cells := 0, slots := 0, locals := 21 }) D dA eA L T N I J R [.ref a_this, .int (II a_s), .int (II a_d)] 0 0 (gI (fun r L' T' N' I' J' R' dz dl => L' = L ∧ T' = T ∧ N' = N ∧ J' = J ∧ R' = R ∧ Fr mo_X6_endSteps [] T N I J R T' N' I' J' R' ∧ (0 : Int) ≤ r ∧ r ≤ 1 ∧ (((r = 0 ∧ I' a_this 1 ≠ 0) ∨ (r = 1 ∧ I' a_this 1 = I a_this 1))))) := by
  generalize hPST : (gI (fun r L' T' N' I' J' R' dz dl => L' = L ∧ T' = T ∧ N' = N ∧ J' = J ∧ R' = R ∧ Fr mo_X6_endSteps [] T N I J R T' N' I' J' R' ∧ (0 : Int) ≤ r ∧ r ≤ 1 ∧ (((r = 0 ∧ I' a_this 1 ≠ 0) ∨ (r = 1 ∧ I' a_this 1 = I a_this 1))))) = PST
  refine g_enter (own := RX6) (by decide) rfl (Nat.le_of_ble_eq_true rfl) (fun p e s m args below meth c ls hm B hX hM hl => ?_)
  have hC0 := hM.2.2.2.2.2.2.1
  have hW0 := hM.2.2.2
  have hF : Fr mo_X6_endSteps [] T N I J R T N I J R := Fr.rf
  have hA : ∀ q, s.heap.size ≤ q → cF dA L T N I J R s.heap.size q := fun q h => Or.inr h
  have hl : lv_has ls 3 [(0, .ref a_this), (1, .int (II a_s)), (2, .int (II a_d))] := hl
  obtain ⟨x1, e2⟩ : ∃ v, I a_this 1 = v := ⟨_, rfl⟩
  refine lv_iload_n B.1 B.2.1 dX6_endSteps_0 rfl (lv_at hl 1 rfl) ?_
  refine q_ieq (tgt := 11) B dX6_endSteps_1 (by decide) (by unfold inr; omega) (fun c3 => ?_) (fun c3 => ?_)
  · refine lv_iload_n B.1 B.2.1 dX6_endSteps_11 rfl (lv_at hl 2 rfl) ?_
    refine q_con B dX6_endSteps_12 ?_
    refine q_ceq (tgt := 24) B dX6_endSteps_13 (by decide) (by unfold inr; omega) (by unfold inr; omega) (fun c4 => ?_) (fun c4 => ?_)
    · refine q_con B dX6_endSteps_24 ?_
      refine lv_goto (tgt := 29) B.1 B.2.1 dX6_endSteps_25 (by decide) ?_
      refine g_zret B hM dX6_endSteps_29 ⟨Nat.le_refl _, Nat.le_refl _⟩ (by omega) (by omega) ?_
      rw [← hPST]
      exact ⟨(1), rfl, by omega, rfl, rfl, rfl, rfl, rfl, hF, by omega, by omega, by first | omega | assumption | exact trivial⟩
    · refine lv_aload_n B.1 B.2.1 dX6_endSteps_16 rfl (lv_at hl 0 rfl) ?_
      refine q_con B dX6_endSteps_17 ?_
      have hv5 : ((-2147483648 : Int) ≤ 4 ∧ (4 : Int) ≤ 2147483647) ∧ ((4 : Int) ≠ 0) := by first | omega | exact ⟨by first | omega | assumption | exact trivial, by first | omega | assumption | exact trivial⟩
      refine z_calli hM hA (c_runV (n := 1) (as := [.int (II 4)]) (rest := []) B hX hA hM hl.1 t_this kd7 rfl (k_X6_wrong l D dA eA L T N I J R a_this t_this (4) hv5.1 hv5.2 _ _) ml_X6_84 nm_X6_wrong ⟨rfl, rfl⟩ ⟨Nat.le_of_ble_eq_true rfl, Nat.le_of_ble_eq_true rfl⟩ dX6_endSteps_18 rfl rfl (Nat.le_of_ble_eq_true rfl) ⟨Nat.zero_le _, Nat.zero_le _⟩) (fun x7 ix7 L8 T9 N10 I11 J12 R13 dz14 dl15 H locs hp6 hMn => ?_)
      obtain ⟨yL8, yT9, yN10, yJ12, yR13, hFc16, hp6a⟩ := hp6
      obtain rfl := yL8.symm; obtain rfl := yT9.symm; obtain rfl := yN10.symm; obtain rfl := yJ12.symm; obtain rfl := yR13.symm
      replace hF : Fr mo_X6_endSteps [] T N I J R T N I11 J R := hF.trans hFc16 (by decide) e20
      have hM := hMn
      clear hMn
      replace hp6a : (0 : Int) ≤ x7 ∧ x7 ≤ 1 ∧ (x7 = 0 ∧ I11 a_this 1 ≠ 0) := hp6a
      obtain ⟨hp6a_0, hp6a_1, hp6a_2⟩ := hp6a
      obtain ⟨hp6a_2_0, hp6a_2_1⟩ := hp6a_2
      refine q_ieq (tgt := 28) B dX6_endSteps_21 (by decide) (by unfold inr; omega) (fun c17 => ?_) (fun c17 => ?_)
      · refine q_con B dX6_endSteps_28 ?_
        obtain ⟨x18, e19⟩ : ∃ v, I11 a_this 1 = v := ⟨_, rfl⟩
        refine g_zret B hM dX6_endSteps_29 ⟨Nat.le_refl _, Nat.le_refl _⟩ (by omega) (by omega) ?_
        rw [← hPST]
        exact ⟨(0), rfl, by omega, rfl, rfl, rfl, rfl, rfl, hF, by omega, by omega, by first | omega | assumption | exact trivial⟩
      · refine q_con B dX6_endSteps_24 ?_
        refine lv_goto (tgt := 29) B.1 B.2.1 dX6_endSteps_25 (by decide) ?_
        obtain ⟨x20, e21⟩ : ∃ v, I11 a_this 1 = v := ⟨_, rfl⟩
        refine g_zret B hM dX6_endSteps_29 ⟨Nat.le_refl _, Nat.le_refl _⟩ (by omega) (by omega) ?_
        rw [← hPST]
        exact ⟨(1), rfl, by omega, rfl, rfl, rfl, rfl, rfl, hF, by omega, by omega, by first | omega | assumption | exact trivial⟩
  · refine lv_aload_n B.1 B.2.1 dX6_endSteps_4 rfl (lv_at hl 0 rfl) ?_
    obtain ⟨x22, e23⟩ : ∃ v, I a_this 12 = v := ⟨_, rfl⟩
    have r24 : (0 : Int) ≤ x22 ∧ x22 ≤ 40 := by rw [← e23]; exact g7_12 hM.2.2.2.2.2.2.1 t_this
    refine c_geti (k := 12) pk_X6 B hM t_this kd7 rfl (by decide) fl_X6_150 dX6_endSteps_5 e23 ?_
    refine q_ieq (tgt := 24) B dX6_endSteps_8 (by decide) (by unfold inr; omega) (fun c25 => ?_) (fun c25 => ?_)
    · refine q_con B dX6_endSteps_24 ?_
      refine lv_goto (tgt := 29) B.1 B.2.1 dX6_endSteps_25 (by decide) ?_
      refine g_zret B hM dX6_endSteps_29 ⟨Nat.le_refl _, Nat.le_refl _⟩ (by omega) (by omega) ?_
      rw [← hPST]
      exact ⟨(1), rfl, by omega, rfl, rfl, rfl, rfl, rfl, hF, by omega, by omega, by first | omega | assumption | exact trivial⟩
    · refine lv_iload_n B.1 B.2.1 dX6_endSteps_11 rfl (lv_at hl 2 rfl) ?_
      refine q_con B dX6_endSteps_12 ?_
      refine q_ceq (tgt := 24) B dX6_endSteps_13 (by decide) (by unfold inr; omega) (by unfold inr; omega) (fun c26 => ?_) (fun c26 => ?_)
      · refine q_con B dX6_endSteps_24 ?_
        refine lv_goto (tgt := 29) B.1 B.2.1 dX6_endSteps_25 (by decide) ?_
        refine g_zret B hM dX6_endSteps_29 ⟨Nat.le_refl _, Nat.le_refl _⟩ (by omega) (by omega) ?_
        rw [← hPST]
        exact ⟨(1), rfl, by omega, rfl, rfl, rfl, rfl, rfl, hF, by omega, by omega, by first | omega | assumption | exact trivial⟩
      · refine lv_aload_n B.1 B.2.1 dX6_endSteps_16 rfl (lv_at hl 0 rfl) ?_
        refine q_con B dX6_endSteps_17 ?_
        have hv27 : ((-2147483648 : Int) ≤ 4 ∧ (4 : Int) ≤ 2147483647) ∧ ((4 : Int) ≠ 0) := by first | omega | exact ⟨by first | omega | assumption | exact trivial, by first | omega | assumption | exact trivial⟩
        refine z_calli hM hA (c_runV (n := 1) (as := [.int (II 4)]) (rest := []) B hX hA hM hl.1 t_this kd7 rfl (k_X6_wrong l D dA eA L T N I J R a_this t_this (4) hv27.1 hv27.2 _ _) ml_X6_84 nm_X6_wrong ⟨rfl, rfl⟩ ⟨Nat.le_of_ble_eq_true rfl, Nat.le_of_ble_eq_true rfl⟩ dX6_endSteps_18 rfl rfl (Nat.le_of_ble_eq_true rfl) ⟨Nat.zero_le _, Nat.zero_le _⟩) (fun x29 ix29 L30 T31 N32 I33 J34 R35 dz36 dl37 H locs hp28 hMn => ?_)
        obtain ⟨yL30, yT31, yN32, yJ34, yR35, hFc38, hp28a⟩ := hp28
        obtain rfl := yL30.symm; obtain rfl := yT31.symm; obtain rfl := yN32.symm; obtain rfl := yJ34.symm; obtain rfl := yR35.symm
        replace hF : Fr mo_X6_endSteps [] T N I J R T N I33 J R := hF.trans hFc38 (by decide) e20
        have hM := hMn
        clear hMn
        replace hp28a : (0 : Int) ≤ x29 ∧ x29 ≤ 1 ∧ (x29 = 0 ∧ I33 a_this 1 ≠ 0) := hp28a
        obtain ⟨hp28a_0, hp28a_1, hp28a_2⟩ := hp28a
        obtain ⟨hp28a_2_0, hp28a_2_1⟩ := hp28a_2
        refine q_ieq (tgt := 28) B dX6_endSteps_21 (by decide) (by unfold inr; omega) (fun c39 => ?_) (fun c39 => ?_)
        · refine q_con B dX6_endSteps_28 ?_
          obtain ⟨x40, e41⟩ : ∃ v, I33 a_this 1 = v := ⟨_, rfl⟩
          refine g_zret B hM dX6_endSteps_29 ⟨Nat.le_refl _, Nat.le_refl _⟩ (by omega) (by omega) ?_
          rw [← hPST]
          exact ⟨(0), rfl, by omega, rfl, rfl, rfl, rfl, rfl, hF, by omega, by omega, by first | omega | assumption | exact trivial⟩
        · refine q_con B dX6_endSteps_24 ?_
          refine lv_goto (tgt := 29) B.1 B.2.1 dX6_endSteps_25 (by decide) ?_
          obtain ⟨x42, e43⟩ : ∃ v, I33 a_this 1 = v := ⟨_, rfl⟩
          refine g_zret B hM dX6_endSteps_29 ⟨Nat.le_refl _, Nat.le_refl _⟩ (by omega) (by omega) ?_
          rw [← hPST]
          exact ⟨(1), rfl, by omega, rfl, rfl, rfl, rfl, rfl, hF, by omega, by omega, by first | omega | assumption | exact trivial⟩
