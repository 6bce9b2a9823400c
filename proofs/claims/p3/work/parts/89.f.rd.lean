def mo_X6_readUses : List Nat := [229, 230, 231, 225, 226, 290, 291, 289, 2400, 2432, 640, 641, 642, 1760, 293, 294, 295, 296, 297, 298]
set_option maxHeartbeats 1000000 in
set_option maxRecDepth 20000 in
theorem k_X6_readUses (l : Launch) (D : va_G) (dA : Nat → ClassId) (eA : Nat) (L : List Nat) (T N : Nat → Nat) (I : Nat → Nat → Int) (J : Nat → Nat → Int64) (R : Nat → Nat → Nat) (a_this : Nat) (t_this : T a_this = 7) (a_spot : Nat) (t_spot : T a_spot = 10) (g_t : Nat) (g_s : Nat) (g_S : Nat → Int) (g_n : Int) (g_u : Nat) (p_0 : R a_this 3 = g_t + 1) (p_1 : T g_t = 3) (p_2 : R g_t 0 = g_s + 1) (p_3 : T g_s = 62) (p_4 : I g_s = g_S) (p_5 : TKz g_S g_n) (p_6 : I a_this 5 ≤ g_n) (p_7 : g_S (I a_this 5).toNat = I a_this 6) (p_8 : R a_spot 3 = g_u + 1) (p_9 : T g_u = 20) : GC l yX6_readUses cX6_readUses 3 (some .boolean) ({ frames := 8, cells := 36, slots := 279, locals := 264 }) D dA eA L T N I J R [.ref a_this, .ref a_spot] 36 279 (gI (fun r L' T' N' I' J' R' dz dl => Fr mo_X6_readUses [] T N I J R T' N' I' J' R' ∧ (0 : Int) ≤ r ∧ r ≤ 1 ∧ (I' a_this 5 ≤ g_n ∧ g_S (I' a_this 5).toNat = I' a_this 6 ∧ I a_this 5 ≤ I' a_this 5 ∧ ((r = 0 ∧ I' a_this 1 ≠ 0) ∨ (r = 1 ∧ I' a_this 1 = I a_this 1 ∧ I a_this 5 + 1 ≤ I' a_this 5)) ∧ (dz : Int) ≤ 4 * (I' a_this 5 - I a_this 5) ∧ (dl : Int) ≤ 31 * (I' a_this 5 - I a_this 5) ∧ dz ≤ 36 ∧ dl ≤ 279))) := by
  generalize hPST : (gI (fun r L' T' N' I' J' R' dz dl => Fr mo_X6_readUses [] T N I J R T' N' I' J' R' ∧ (0 : Int) ≤ r ∧ r ≤ 1 ∧ (I' a_this 5 ≤ g_n ∧ g_S (I' a_this 5).toNat = I' a_this 6 ∧ I a_this 5 ≤ I' a_this 5 ∧ ((r = 0 ∧ I' a_this 1 ≠ 0) ∨ (r = 1 ∧ I' a_this 1 = I a_this 1 ∧ I a_this 5 + 1 ≤ I' a_this 5)) ∧ (dz : Int) ≤ 4 * (I' a_this 5 - I a_this 5) ∧ (dl : Int) ≤ 31 * (I' a_this 5 - I a_this 5) ∧ dz ≤ 36 ∧ dl ≤ 279))) = PST
  refine g_enter (own := RX6) (by decide) rfl (Nat.le_of_ble_eq_true rfl) (fun p e s m args below meth c ls hm B hX hM hl => ?_)
  have hC0 := hM.2.2.2.2.2.2.1
  have hW0 := hM.2.2.2
  have hF : Fr mo_X6_readUses [] T N I J R T N I J R := Fr.rf
  have hA : ∀ q, s.heap.size ≤ q → cF dA L T N I J R s.heap.size q := fun q h => Or.inr h
  have hl : lv_has ls 3 [(0, .ref a_this), (1, .ref a_spot)] := hl
  obtain ⟨x1, e2⟩ : ∃ v, I a_this 5 = v := ⟨_, rfl⟩
  obtain ⟨x3, e4⟩ : ∃ v, I a_this 6 = v := ⟨_, rfl⟩
  have nz5 : g_S (x1).toNat = x3 := by have h9 := p_7; rw [e2, e4] at h9; exact h9
  obtain ⟨x6, e7⟩ : ∃ v, I g_u 2 = v := ⟨_, rfl⟩
  have r8 : (0 : Int) ≤ x6 ∧ x6 ≤ 8 := by rw [← e7]; exact g20_2 hM.2.2.2.2.2.2.1 p_9
  obtain ⟨x9, e10⟩ : ∃ v, I a_this 1 = v := ⟨_, rfl⟩
  refine q_con B dX6_readUses_0 ?_
  refine lv_istore_n (lv' := [(2, .int (II 0)), (0, .ref a_this), (1, .ref a_spot)]) B.1 B.2.1 dX6_readUses_1 rfl hl (by decide) rfl (fun ls hl => ?_)
  have LL2 : ∀ NN : Nat, ∀ (v2_2 : Int) (L_2 : List Nat) (T_2 : Nat → Nat) (N_2 : Nat → Nat) (I_2 : Nat → Nat → Int) (J_2 : Nat → Nat → Int64) (R_2 : Nat → Nat → Nat) (zc2 zs2 : Nat) (H : Heap) (locs : List Loc) (ls : Array Slot), (CWd D dA eA (cF dA L T N I J R s.heap.size) s.heap L_2 T_2 N_2 I_2 J_2 R_2 H locs) → (Fr mo_X6_readUses [] T N I J R T_2 N_2 I_2 J_2 R_2) → lv_has ls 3 [(0, .ref a_this), (1, .ref a_spot), (2, .int (II v2_2))] → ((-2147483648 : Int) ≤ v2_2 ∧ v2_2 ≤ 2147483647) → (0 ≤ v2_2) → (v2_2 ≤ I_2 g_u 2) → (I_2 g_u 2 ≤ 8) → (I a_this 5 + v2_2 ≤ I_2 a_this 5) → ((zc2 : Int) ≤ 4 * v2_2) → ((zs2 : Int) ≤ 31 * v2_2) → ((zc2 : Int) ≤ 4 * (I_2 a_this 5 - I a_this 5)) → ((zs2 : Int) ≤ 31 * (I_2 a_this 5 - I a_this 5)) → (I_2 a_this 5 ≤ g_n) → (g_S (I_2 a_this 5).toNat = I_2 a_this 6) → (I_2 a_this 1 = I a_this 1) → (0 ≤ 9 - v2_2) → (9 - v2_2 < (NN : Int)) → W p l e ({ frames := 8, cells := 36, slots := 279, locals := 264 }) s m args below meth c H locs zc2 zs2 (MQ below (gQ D dA eA (cF dA L T N I J R s.heap.size) s.heap.size (hs s.heap) PST) args s 36 279 (cF dA L T N I J R s.heap.size)) (F0 m 2 ls []) := by
    intro NN
    induction NN with
    | zero => intro v2_2 L_2 T_2 N_2 I_2 J_2 R_2 zc2 zs2 H locs ls hM hF hl hLL2_0 hLL2_1 hLL2_2 hLL2_3 hLL2_4 hLL2_5 hLL2_6 hLL2_7 hLL2_8 hLL2_9 hLL2_10 hLL2_11 hLL2_12 hN; exfalso; omega
    | succ NN IH2 =>
      intro v2_2 L_2 T_2 N_2 I_2 J_2 R_2 zc2 zs2 H locs ls hM hF hl hLL2_0 hLL2_1 hLL2_2 hLL2_3 hLL2_4 hLL2_5 hLL2_6 hLL2_7 hLL2_8 hLL2_9 hLL2_10 hLL2_11 hLL2_12 hN
      obtain ⟨x11, e12⟩ : ∃ v, I_2 a_this 5 = v := ⟨_, rfl⟩
      obtain ⟨x13, e14⟩ : ∃ v, I_2 a_this 6 = v := ⟨_, rfl⟩
      have nz15 : g_S (x11).toNat = x13 := by have h9 := hLL2_10; rw [e12, e14] at h9; exact h9
      refine lv_iload_n B.1 B.2.1 dX6_readUses_2 rfl (lv_at hl 2 rfl) ?_
      refine q_bip B dX6_readUses_3 (by decide) ?_
      refine q_cgt (tgt := 65) B dX6_readUses_5 (by decide) (by unfold inr; omega) (by unfold inr; omega) (fun c16 => absurd c16 (by omega)) (fun c16 => ?_)
      refine lv_aload_n B.1 B.2.1 dX6_readUses_8 rfl (lv_at hl 0 rfl) ?_
      have t17 : T_2 a_this = 7 := hF.tt t_this (by decide) nm0
      have r18 : (-2147483648 : Int) ≤ x13 ∧ x13 ≤ 2147483647 := by rw [← e14]; exact g7_6 hM.2.2.2.2.2.2.1 t17
      refine c_geti (k := 6) pk_X6 B hM t17 kd7 rfl (by decide) fl_X6_47 dX6_readUses_9 e14 ?_
      refine q_con B dX6_readUses_12 ?_
      refine q_cne (tgt := 28) B dX6_readUses_13 (by decide) (by unfold inr; omega) (by unfold inr; omega) (fun c19 => ?_) (fun c19 => ?_)
      · refine lv_aload_n B.1 B.2.1 dX6_readUses_28 rfl (lv_at hl 0 rfl) ?_
        refine q_con B dX6_readUses_29 ?_
        have hv20 : ((-2147483648 : Int) ≤ 2 ∧ (2 : Int) ≤ 2147483647) ∧ ((2 : Int) ≠ 0) := by first | omega | exact ⟨by first | omega | assumption | exact trivial, by first | omega | assumption | exact trivial⟩
        refine z_calli hM hA (c_runV (n := 1) (as := [.int (II 2)]) (rest := []) B hX hA hM hl.1 t17 kd7 rfl (k_X6_wrong l D dA eA L_2 T_2 N_2 I_2 J_2 R_2 a_this t17 (2) hv20.1 hv20.2 _ _) ml_X6_84 nm_X6_wrong ⟨rfl, rfl⟩ ⟨Nat.le_of_ble_eq_true rfl, Nat.le_of_ble_eq_true rfl⟩ dX6_readUses_30 rfl rfl (Nat.le_of_ble_eq_true rfl) ⟨by show zc2 + 0 ≤ 36; omega, by show zs2 + 0 ≤ 279; omega⟩) (fun x22 ix22 L23 T24 N25 I26 J27 R28 dz29 dl30 H locs hp21 hMn => ?_)
        obtain ⟨yL23, yT24, yN25, yJ27, yR28, hFc31, hp21a⟩ := hp21
        obtain rfl := yL23.symm; obtain rfl := yT24.symm; obtain rfl := yN25.symm; obtain rfl := yJ27.symm; obtain rfl := yR28.symm
        replace hF : Fr mo_X6_readUses [] T N I J R T_2 N_2 I26 J_2 R_2 := hF.trans hFc31 (by decide) e20
        have hM := hMn
        clear hMn
        replace hp21a : (0 : Int) ≤ x22 ∧ x22 ≤ 1 ∧ (x22 = 0 ∧ I26 a_this 1 ≠ 0) := hp21a
        obtain ⟨hp21a_0, hp21a_1, hp21a_2⟩ := hp21a
        obtain ⟨hp21a_2_0, hp21a_2_1⟩ := hp21a_2
        obtain ⟨x32, e33⟩ : ∃ v, I26 a_this 1 = v := ⟨_, rfl⟩
        have e34 : I26 a_this 5 = x11 := (hFc31.i t17 (by decide) nm0 rfl).trans e12
        have e35 : I26 a_this 6 = x13 := (hFc31.i t17 (by decide) nm0 rfl).trans e14
        refine g_zret B hM dX6_readUses_33 ⟨by show zc2 ≤ 36; omega, by show zs2 ≤ 279; omega⟩ (by omega) (by omega) ?_
        rw [← hPST]
        exact ⟨x22, rfl, by omega, hF, by omega, by omega, by first | omega | assumption | exact trivial, by show g_S (I26 a_this 5).toNat = I26 a_this 6; rw [e34, e35]; first | assumption | omega, by first | omega | assumption | exact trivial, by first | omega | assumption | exact trivial, by first | omega | assumption | exact trivial, by first | omega | assumption | exact trivial, by first | omega | assumption | exact trivial, by first | omega | assumption | exact trivial⟩
      · refine lv_aload_n B.1 B.2.1 dX6_readUses_16 rfl (lv_at hl 1 rfl) ?_
        have t36 : T_2 a_spot = 10 := hF.tt t_spot (by decide) nm0
        have e37 : R_2 a_spot 3 = g_u + 1 := (hF.r t_spot (by decide) nm0 rfl).trans p_8
        refine c_getn (k := 3) pk_X8 B hM t36 kd10 rfl (by decide) fl_X6_251 dX6_readUses_17 e37 ?_
        have t38 : T_2 g_u = 20 := hF.tt p_9 (by decide) nm0
        have hv39 : (15 ≤ 20) ∧ (20 ≤ 23) := by first | omega | exact ⟨by first | omega | assumption | exact trivial, by first | omega | assumption | exact trivial⟩
        refine p_calli (c_runV (n := 0) (as := []) (rest := []) B hX hA hM hl.1 t38 kd20 rfl (k_Jx4a65c_size_8abf5 l D dA eA L_2 T_2 N_2 I_2 J_2 R_2 g_u t38 hv39.1 hv39.2 _ _) ml_X6_135 nm_Jx4a65c_size_8abf5 ⟨rfl, rfl⟩ ⟨Nat.le_of_ble_eq_true rfl, Nat.le_of_ble_eq_true rfl⟩ dX6_readUses_20 rfl rfl (Nat.le_of_ble_eq_true rfl) ⟨by show zc2 + 0 ≤ 36; omega, by show zs2 + 0 ≤ 279; omega⟩) (fun x41 ix41 hp40 => ?_)
        have hp40a := hp40
        replace hp40a : I_2 g_u 2 = x41 ∧ 0 ≤ x41 ∧ x41 ≤ 8 := hp40a
        obtain ⟨hp40a_0, hp40a_1, hp40a_2⟩ := hp40a
        refine q_bip B dX6_readUses_23 (by decide) ?_
        refine q_clt (tgt := 34) B dX6_readUses_25 (by decide) (by unfold inr; omega) (by unfold inr; omega) (fun c42 => ?_) (fun c42 => ?_)
        · refine lv_aload_n B.1 B.2.1 dX6_readUses_34 rfl (lv_at hl 0 rfl) ?_
          refine lv_aload_n B.1 B.2.1 dX6_readUses_35 rfl (lv_at hl 1 rfl) ?_
          have e43 : R_2 a_this 3 = g_t + 1 := (hF.r t_this (by decide) nm0 rfl).trans p_0
          have e44 : R_2 g_t 0 = g_s + 1 := (hF.r p_1 (by decide) nm0 rfl).trans p_2
          have t45 : T_2 g_t = 3 := hF.tt p_1 (by decide) nm0
          have t46 : T_2 g_s = 62 := hF.tt p_3 (by decide) nm0
          have hv47 : (TKz g_S g_n) ∧ (I_2 a_this 5 ≤ g_n) ∧ (I_2 a_this 6 = 2) ∧ (I_2 g_u 2 < 8) := by first | omega | exact ⟨by first | omega | assumption | exact trivial, by first | omega | assumption | exact trivial, by first | omega | assumption | exact trivial, by first | omega | assumption | exact trivial⟩
          refine g_calli hM hA (c_runV (n := 1) (as := [.ref a_spot]) (rest := []) B hX hA hM hl.1 t17 kd7 rfl (k_X6_readUse l D dA eA L_2 T_2 N_2 I_2 J_2 R_2 a_this t17 a_spot t36 g_t g_s g_S g_n g_u (show R_2 a_this 3 = g_t + 1 from e43) (show T_2 g_t = 3 from t45) (show R_2 g_t 0 = g_s + 1 from e44) (show T_2 g_s = 62 from t46) (show I_2 g_s = g_S from ((Fr.irow hF p_3 (by decide) nm0 (by decide)).trans p_4)) hv47.1 hv47.2.1 (show g_S (I_2 a_this 5).toNat = I_2 a_this 6 from by rw [e12, e14]; first | assumption | omega) (show R_2 a_spot 3 = g_u + 1 from e37) (show T_2 g_u = 20 from t38) hv47.2.2.1 hv47.2.2.2 _ _) ml_X6_254 nm_X6_readUse ⟨rfl, rfl⟩ ⟨Nat.le_of_ble_eq_true rfl, Nat.le_of_ble_eq_true rfl⟩ dX6_readUses_36 rfl rfl (Nat.le_of_ble_eq_true rfl) ⟨by show zc2 + 4 ≤ 36; omega, by show zs2 + 31 ≤ 279; omega⟩) (fun x49 ix49 L50 T51 N52 I53 J54 R55 dz56 dl57 H locs hp48 hMn => ?_)
          obtain ⟨hFc58, hp48a⟩ := hp48
          replace hF : Fr mo_X6_readUses [] T N I J R T51 N52 I53 J54 R55 := hF.trans hFc58 (by decide) e20
          have hM := hMn
          clear hMn
          replace hp48a : (0 : Int) ≤ x49 ∧ x49 ≤ 1 ∧ (I53 a_this 5 ≤ g_n ∧ g_S (I53 a_this 5).toNat = I53 a_this 6 ∧ I_2 a_this 5 ≤ I53 a_this 5 ∧ ((x49 = 0 ∧ I53 a_this 1 ≠ 0) ∨ (x49 = 1 ∧ I53 a_this 1 = I_2 a_this 1 ∧ I_2 a_this 5 + 1 ≤ I53 a_this 5)) ∧ (dz56 : Int) ≤ 4 * (I53 a_this 5 - I_2 a_this 5) ∧ (dl57 : Int) ≤ 31 * (I53 a_this 5 - I_2 a_this 5) ∧ dz56 ≤ 4 ∧ dl57 ≤ 31 ∧ (x49 = 1 → I53 g_u 2 = I_2 g_u 2 + 1)) := hp48a
          obtain ⟨hp48a_0, hp48a_1, hp48a_2⟩ := hp48a
          obtain ⟨hp48a_2_0, hp48a_2_1, hp48a_2_2, hp48a_2_3, hp48a_2_4, hp48a_2_5, hp48a_2_6, hp48a_2_7, hp48a_2_8⟩ := hp48a_2
          obtain ⟨x59, e60⟩ : ∃ v, I53 a_this 5 = v := ⟨_, rfl⟩
          obtain ⟨x61, e62⟩ : ∃ v, I53 a_this 6 = v := ⟨_, rfl⟩
          have nz63 : g_S (x59).toNat = x61 := by have h9 := hp48a_2_1; rw [e60, e62] at h9; exact h9
          obtain ⟨x64, e65⟩ : ∃ v, I53 a_this 1 = v := ⟨_, rfl⟩
          obtain ⟨x66, e67⟩ : ∃ v, I53 g_u 2 = v := ⟨_, rfl⟩
          refine q_ine (tgt := 44) B dX6_readUses_39 (by decide) (by unfold inr; omega) (fun c68 => ?_) (fun c68 => ?_)
          · refine lv_aload_n B.1 B.2.1 dX6_readUses_44 rfl (lv_at hl 0 rfl) ?_
            have t69 : T51 a_this = 7 := hF.tt t_this (by decide) nm0
            have r70 : (-2147483648 : Int) ≤ x61 ∧ x61 ≤ 2147483647 := by rw [← e62]; exact g7_6 hM.2.2.2.2.2.2.1 t69
            refine c_geti (k := 6) pk_X6 B hM t69 kd7 rfl (by decide) fl_X6_47 dX6_readUses_45 e62 ?_
            refine q_bip B dX6_readUses_48 (by decide) ?_
            refine q_ceq (tgt := 55) B dX6_readUses_50 (by decide) (by unfold inr; omega) (by unfold inr; omega) (fun c71 => ?_) (fun c71 => ?_)
            · refine lv_aload_n B.1 B.2.1 dX6_readUses_55 rfl (lv_at hl 0 rfl) ?_
              have e72 : R55 a_this 3 = g_t + 1 := (hF.r t_this (by decide) nm0 rfl).trans p_0
              have e73 : R55 g_t 0 = g_s + 1 := (hF.r p_1 (by decide) nm0 rfl).trans p_2
              have t74 : T51 g_t = 3 := hF.tt p_1 (by decide) nm0
              have t75 : T51 g_s = 62 := hF.tt p_3 (by decide) nm0
              have hv76 : (TKz g_S g_n) ∧ (I53 a_this 5 ≤ g_n) := by first | omega | exact ⟨by first | omega | assumption | exact trivial, by first | omega | assumption | exact trivial⟩
              refine z_callv hM hA (c_runV (n := 0) (as := []) (rest := []) B hX hA hM hl.1 t69 kd7 rfl (k_X6_advance l D dA eA L50 T51 N52 I53 J54 R55 a_this t69 g_t g_s g_S g_n (show R55 a_this 3 = g_t + 1 from e72) (show T51 g_t = 3 from t74) (show R55 g_t 0 = g_s + 1 from e73) (show T51 g_s = 62 from t75) (show I53 g_s = g_S from ((Fr.irow hF p_3 (by decide) nm0 (by decide)).trans p_4)) hv76.1 hv76.2 (show g_S (I53 a_this 5).toNat = I53 a_this 6 from by rw [e60, e62]; first | assumption | omega) _ _) ml_X6_87 nm_X6_advance ⟨rfl, rfl⟩ ⟨Nat.le_of_ble_eq_true rfl, Nat.le_of_ble_eq_true rfl⟩ dX6_readUses_56 rfl rfl (Nat.le_of_ble_eq_true rfl) ⟨by show zc2 + dz56 + 0 ≤ 36; omega, by show zs2 + dl57 + 0 ≤ 279; omega⟩) (fun L79 T80 N81 I82 J83 R84 dz85 dl86 H locs hp77 hMn => ?_)
              obtain ⟨yL79, yT80, yN81, yR84, hFc87, hp77a⟩ := hp77
              obtain rfl := yL79.symm; obtain rfl := yT80.symm; obtain rfl := yN81.symm; obtain rfl := yR84.symm
              replace hF : Fr mo_X6_readUses [] T N I J R T51 N52 I82 J83 R55 := hF.trans hFc87 (by decide) e20
              have hM := hMn
              clear hMn
              replace hp77a : I82 a_this 5 ≤ g_n ∧ g_S (I82 a_this 5).toNat = I82 a_this 6 ∧ (((I53 a_this 6 = 0 ∨ I53 a_this 6 = 1) ∧ I82 a_this 5 = I53 a_this 5) ∨ (I82 a_this 5 = I53 a_this 5 + 1)) := hp77a
              obtain ⟨hp77a_0, hp77a_1, hp77a_2⟩ := hp77a
              obtain ⟨x88, e89⟩ : ∃ v, I82 a_this 5 = v := ⟨_, rfl⟩
              obtain ⟨x90, e91⟩ : ∃ v, I82 a_this 6 = v := ⟨_, rfl⟩
              have nz92 : g_S (x88).toNat = x90 := by have h9 := hp77a_1; rw [e89, e91] at h9; exact h9
              refine q_inc (lv' := [(2, .int (II (v2_2 + 1))), (0, .ref a_this), (1, .ref a_spot)]) B dX6_readUses_59 hl (k := 2) rfl (by decide) rfl (fun ls hl => ?_)
              refine lv_goto (tgt := 2) B.1 B.2.1 dX6_readUses_62 (by decide) ?_
              have t93 : T51 g_u = 20 := hF.tt p_9 (by decide) nm0
              have e94 : I82 g_u 2 = x66 := (hFc87.i t93 (by decide) nm0 rfl).trans e67
              have e95 : I82 a_this 1 = x64 := (hFc87.i t69 (by decide) nm0 rfl).trans e65
              have hv96 : ((-2147483648 : Int) ≤ v2_2 + 1 ∧ (v2_2 + 1 : Int) ≤ 2147483647) ∧ (0 ≤ (v2_2 + 1)) ∧ ((v2_2 + 1) ≤ I82 g_u 2) ∧ (I82 g_u 2 ≤ 8) ∧ (I a_this 5 + (v2_2 + 1) ≤ I82 a_this 5) ∧ ((zc2 + dz56 : Int) ≤ 4 * (v2_2 + 1)) ∧ ((zs2 + dl57 : Int) ≤ 31 * (v2_2 + 1)) ∧ ((zc2 + dz56 : Int) ≤ 4 * (I82 a_this 5 - I a_this 5)) ∧ ((zs2 + dl57 : Int) ≤ 31 * (I82 a_this 5 - I a_this 5)) ∧ (I82 a_this 5 ≤ g_n) ∧ (I82 a_this 1 = I a_this 1) ∧ (0 ≤ 9 - (v2_2 + 1)) := by first | omega | exact ⟨by first | omega | assumption | exact trivial, by first | omega | assumption | exact trivial, by first | omega | assumption | exact trivial, by first | omega | assumption | exact trivial, by first | omega | assumption | exact trivial, by first | omega | assumption | exact trivial, by first | omega | assumption | exact trivial, by first | omega | assumption | exact trivial, by first | omega | assumption | exact trivial, by first | omega | assumption | exact trivial, by first | omega | assumption | exact trivial, by first | omega | assumption | exact trivial⟩
              exact IH2 (v2_2 + 1) L50 T51 N52 I82 J83 R55 (zc2 + dz56) (zs2 + dl57) _ _ ls hM hF (lv_sub hl [1, 2, 0] rfl) hv96.1 hv96.2.1 hv96.2.2.1 hv96.2.2.2.1 hv96.2.2.2.2.1 hv96.2.2.2.2.2.1 hv96.2.2.2.2.2.2.1 hv96.2.2.2.2.2.2.2.1 hv96.2.2.2.2.2.2.2.2.1 hv96.2.2.2.2.2.2.2.2.2.1 (by rw [e89, e91]; first | assumption | omega) hv96.2.2.2.2.2.2.2.2.2.2.1 hv96.2.2.2.2.2.2.2.2.2.2.2 (by omega)
            · refine q_con B dX6_readUses_53 ?_
              refine g_zret B hM dX6_readUses_54 ⟨by show zc2 + dz56 ≤ 36; omega, by show zs2 + dl57 ≤ 279; omega⟩ (by omega) (by omega) ?_
              rw [← hPST]
              exact ⟨(1), rfl, by omega, hF, by omega, by omega, by first | omega | assumption | exact trivial, by show g_S (I53 a_this 5).toNat = I53 a_this 6; rw [e60, e62]; first | assumption | omega, by first | omega | assumption | exact trivial, by first | omega | assumption | exact trivial, by first | omega | assumption | exact trivial, by first | omega | assumption | exact trivial, by first | omega | assumption | exact trivial, by first | omega | assumption | exact trivial⟩
          · refine q_con B dX6_readUses_42 ?_
            refine g_zret B hM dX6_readUses_43 ⟨by show zc2 + dz56 ≤ 36; omega, by show zs2 + dl57 ≤ 279; omega⟩ (by omega) (by omega) ?_
            rw [← hPST]
            exact ⟨(0), rfl, by omega, hF, by omega, by omega, by first | omega | assumption | exact trivial, by show g_S (I53 a_this 5).toNat = I53 a_this 6; rw [e60, e62]; first | assumption | omega, by first | omega | assumption | exact trivial, by first | omega | assumption | exact trivial, by first | omega | assumption | exact trivial, by first | omega | assumption | exact trivial, by first | omega | assumption | exact trivial, by first | omega | assumption | exact trivial⟩
        · refine lv_aload_n B.1 B.2.1 dX6_readUses_28 rfl (lv_at hl 0 rfl) ?_
          refine q_con B dX6_readUses_29 ?_
          have hv97 : ((-2147483648 : Int) ≤ 2 ∧ (2 : Int) ≤ 2147483647) ∧ ((2 : Int) ≠ 0) := by first | omega | exact ⟨by first | omega | assumption | exact trivial, by first | omega | assumption | exact trivial⟩
          refine z_calli hM hA (c_runV (n := 1) (as := [.int (II 2)]) (rest := []) B hX hA hM hl.1 t17 kd7 rfl (k_X6_wrong l D dA eA L_2 T_2 N_2 I_2 J_2 R_2 a_this t17 (2) hv97.1 hv97.2 _ _) ml_X6_84 nm_X6_wrong ⟨rfl, rfl⟩ ⟨Nat.le_of_ble_eq_true rfl, Nat.le_of_ble_eq_true rfl⟩ dX6_readUses_30 rfl rfl (Nat.le_of_ble_eq_true rfl) ⟨by show zc2 + 0 ≤ 36; omega, by show zs2 + 0 ≤ 279; omega⟩) (fun x99 ix99 L100 T101 N102 I103 J104 R105 dz106 dl107 H locs hp98 hMn => ?_)
          obtain ⟨yL100, yT101, yN102, yJ104, yR105, hFc108, hp98a⟩ := hp98
          obtain rfl := yL100.symm; obtain rfl := yT101.symm; obtain rfl := yN102.symm; obtain rfl := yJ104.symm; obtain rfl := yR105.symm
          replace hF : Fr mo_X6_readUses [] T N I J R T_2 N_2 I103 J_2 R_2 := hF.trans hFc108 (by decide) e20
          have hM := hMn
          clear hMn
          replace hp98a : (0 : Int) ≤ x99 ∧ x99 ≤ 1 ∧ (x99 = 0 ∧ I103 a_this 1 ≠ 0) := hp98a
          obtain ⟨hp98a_0, hp98a_1, hp98a_2⟩ := hp98a
          obtain ⟨hp98a_2_0, hp98a_2_1⟩ := hp98a_2
          obtain ⟨x109, e110⟩ : ∃ v, I103 a_this 1 = v := ⟨_, rfl⟩
          have e111 : I103 a_this 5 = x11 := (hFc108.i t17 (by decide) nm0 rfl).trans e12
          have e112 : I103 a_this 6 = x13 := (hFc108.i t17 (by decide) nm0 rfl).trans e14
          refine g_zret B hM dX6_readUses_33 ⟨by show zc2 ≤ 36; omega, by show zs2 ≤ 279; omega⟩ (by omega) (by omega) ?_
          rw [← hPST]
          exact ⟨x99, rfl, by omega, hF, by omega, by omega, by first | omega | assumption | exact trivial, by show g_S (I103 a_this 5).toNat = I103 a_this 6; rw [e111, e112]; first | assumption | omega, by first | omega | assumption | exact trivial, by first | omega | assumption | exact trivial, by first | omega | assumption | exact trivial, by first | omega | assumption | exact trivial, by first | omega | assumption | exact trivial, by first | omega | assumption | exact trivial⟩
  have hv113 : ((-2147483648 : Int) ≤ 0 ∧ (0 : Int) ≤ 2147483647) ∧ (0 ≤ (0 : Int)) ∧ ((0 : Int) ≤ I g_u 2) ∧ (I g_u 2 ≤ 8) ∧ (I a_this 5 + (0 : Int) ≤ I a_this 5) ∧ (0 ≤ 4 * (0 : Int)) ∧ (0 ≤ 31 * (0 : Int)) ∧ (0 ≤ 4 * (I a_this 5 - I a_this 5)) ∧ (0 ≤ 31 * (I a_this 5 - I a_this 5)) ∧ (I a_this 5 ≤ g_n) ∧ (I a_this 1 = I a_this 1) ∧ (0 ≤ 9 - (0 : Int)) := by first | omega | exact ⟨by first | omega | assumption | exact trivial, by first | omega | assumption | exact trivial, by first | omega | assumption | exact trivial, by first | omega | assumption | exact trivial, by first | omega | assumption | exact trivial, by first | omega | assumption | exact trivial, by first | omega | assumption | exact trivial, by first | omega | assumption | exact trivial, by first | omega | assumption | exact trivial, by first | omega | assumption | exact trivial, by first | omega | assumption | exact trivial, by first | omega | assumption | exact trivial⟩
  exact LL2 (Int.toNat (9 - (0 : Int) + 1)) 0 L T N I J R 0 0 _ _ ls hM hF (lv_sub hl [1, 2, 0] rfl) hv113.1 hv113.2.1 hv113.2.2.1 hv113.2.2.2.1 hv113.2.2.2.2.1 hv113.2.2.2.2.2.1 hv113.2.2.2.2.2.2.1 hv113.2.2.2.2.2.2.2.1 hv113.2.2.2.2.2.2.2.2.1 hv113.2.2.2.2.2.2.2.2.2.1 (by rw [e2, e4]; first | assumption | omega) hv113.2.2.2.2.2.2.2.2.2.2.1 hv113.2.2.2.2.2.2.2.2.2.2.2 (by omega)

def mo_X6_readStar : List Nat := [229, 230, 231, 225, 226, 290, 291, 289, 2400, 2432, 640, 641, 642, 1760, 293, 294, 295, 296, 297, 298]
set_option maxHeartbeats 1000000 in
set_option maxRecDepth 20000 in
theorem k_X6_readStar (l : Launch) (D : va_G) (dA : Nat → ClassId) (eA : Nat) (L : List Nat) (T N : Nat → Nat) (I : Nat → Nat → Int) (J : Nat → Nat → Int64) (R : Nat → Nat → Nat) (a_this : Nat) (t_this : T a_this = 7) (a_kind : Nat) (t_kind : T a_kind = 11) (g_t : Nat) (g_s : Nat) (g_S : Nat → Int) (g_n : Int) (p_0 : R a_this 3 = g_t + 1) (p_1 : T g_t = 3) (p_2 : R g_t 0 = g_s + 1) (p_3 : T g_s = 62) (p_4 : I g_s = g_S) (p_5 : TKz g_S g_n) (p_6 : I a_this 5 ≤ g_n) (p_7 : g_S (I a_this 5).toNat = I a_this 6) : GC l yX6_readStar cX6_readStar 2 (some .boolean) ({ frames := 9, cells := 36, slots := 279, locals := 286 }) D dA eA L T N I J R [.ref a_this, .ref a_kind] 36 279 (gI (fun r L' T' N' I' J' R' dz dl => Fr mo_X6_readStar [] T N I J R T' N' I' J' R' ∧ (0 : Int) ≤ r ∧ r ≤ 1 ∧ (I' a_this 5 ≤ g_n ∧ g_S (I' a_this 5).toNat = I' a_this 6 ∧ I a_this 5 ≤ I' a_this 5 ∧ ((r = 0 ∧ I' a_this 1 ≠ 0) ∨ (r = 1 ∧ I' a_this 1 = I a_this 1 ∧ I a_this 5 + 1 ≤ I' a_this 5)) ∧ (dz : Int) ≤ 4 * (I' a_this 5 - I a_this 5) ∧ (dl : Int) ≤ 31 * (I' a_this 5 - I a_this 5) ∧ dz ≤ 36 ∧ dl ≤ 279))) := by
  generalize hPST : (gI (fun r L' T' N' I' J' R' dz dl => Fr mo_X6_readStar [] T N I J R T' N' I' J' R' ∧ (0 : Int) ≤ r ∧ r ≤ 1 ∧ (I' a_this 5 ≤ g_n ∧ g_S (I' a_this 5).toNat = I' a_this 6 ∧ I a_this 5 ≤ I' a_this 5 ∧ ((r = 0 ∧ I' a_this 1 ≠ 0) ∨ (r = 1 ∧ I' a_this 1 = I a_this 1 ∧ I a_this 5 + 1 ≤ I' a_this 5)) ∧ (dz : Int) ≤ 4 * (I' a_this 5 - I a_this 5) ∧ (dl : Int) ≤ 31 * (I' a_this 5 - I a_this 5) ∧ dz ≤ 36 ∧ dl ≤ 279))) = PST
  refine g_enter (own := RX6) (by decide) rfl (Nat.le_of_ble_eq_true rfl) (fun p e s m args below meth c ls hm B hX hM hl => ?_)
  have hC0 := hM.2.2.2.2.2.2.1
  have hW0 := hM.2.2.2
  have hF : Fr mo_X6_readStar [] T N I J R T N I J R := Fr.rf
  have hA : ∀ q, s.heap.size ≤ q → cF dA L T N I J R s.heap.size q := fun q h => Or.inr h
  have hl : lv_has ls 2 [(0, .ref a_this), (1, .ref a_kind)] := hl
  obtain ⟨x1, e2⟩ : ∃ v, I a_this 5 = v := ⟨_, rfl⟩
  obtain ⟨x3, e4⟩ : ∃ v, I a_this 6 = v := ⟨_, rfl⟩
  have nz5 : g_S (x1).toNat = x3 := by have h9 := p_7; rw [e2, e4] at h9; exact h9
  obtain ⟨x6, e7⟩ : ∃ v, I a_this 1 = v := ⟨_, rfl⟩
  refine lv_aload_n B.1 B.2.1 dX6_readStar_0 rfl (lv_at hl 0 rfl) ?_
  have hv8 : (TKz g_S g_n) ∧ (I a_this 5 ≤ g_n) := by first | omega | exact ⟨by first | omega | assumption | exact trivial, by first | omega | assumption | exact trivial⟩
  refine z_callv hM hA (c_runV (n := 0) (as := []) (rest := []) B hX hA hM hl.1 t_this kd7 rfl (k_X6_advance l D dA eA L T N I J R a_this t_this g_t g_s g_S g_n (show R a_this 3 = g_t + 1 from p_0) (show T g_t = 3 from p_1) (show R g_t 0 = g_s + 1 from p_2) (show T g_s = 62 from p_3) (show I g_s = g_S from p_4) hv8.1 hv8.2 (show g_S (I a_this 5).toNat = I a_this 6 from by rw [e2, e4]; first | assumption | omega) _ _) ml_X6_87 nm_X6_advance ⟨rfl, rfl⟩ ⟨Nat.le_of_ble_eq_true rfl, Nat.le_of_ble_eq_true rfl⟩ dX6_readStar_1 rfl rfl (Nat.le_of_ble_eq_true rfl) ⟨by show 0 + 0 ≤ 36; omega, by show 0 + 0 ≤ 279; omega⟩) (fun L11 T12 N13 I14 J15 R16 dz17 dl18 H locs hp9 hMn => ?_)
  obtain ⟨yL11, yT12, yN13, yR16, hFc19, hp9a⟩ := hp9
  obtain rfl := yL11.symm; obtain rfl := yT12.symm; obtain rfl := yN13.symm; obtain rfl := yR16.symm
  replace hF : Fr mo_X6_readStar [] T N I J R T N I14 J15 R := hF.trans hFc19 (by decide) e20
  have hM := hMn
  clear hMn
  replace hp9a : I14 a_this 5 ≤ g_n ∧ g_S (I14 a_this 5).toNat = I14 a_this 6 ∧ (((I a_this 6 = 0 ∨ I a_this 6 = 1) ∧ I14 a_this 5 = I a_this 5) ∨ (I14 a_this 5 = I a_this 5 + 1)) := hp9a
  obtain ⟨hp9a_0, hp9a_1, hp9a_2⟩ := hp9a
  obtain ⟨x20, e21⟩ : ∃ v, I14 a_this 5 = v := ⟨_, rfl⟩
  obtain ⟨x22, e23⟩ : ∃ v, I14 a_this 6 = v := ⟨_, rfl⟩
  have nz24 : g_S (x20).toNat = x22 := by have h9 := hp9a_1; rw [e21, e23] at h9; exact h9
  refine lv_aload_n B.1 B.2.1 dX6_readStar_4 rfl (lv_at hl 0 rfl) ?_
  refine q_bip B dX6_readStar_5 (by decide) ?_
  have hv25 : ((-2147483648 : Int) ≤ 61 ∧ (61 : Int) ≤ 2147483647) ∧ (TKz g_S g_n) ∧ (I14 a_this 5 ≤ g_n) ∧ ((61 : Int) ≠ 0) ∧ ((61 : Int) ≠ 1) := by first | omega | exact ⟨by first | omega | assumption | exact trivial, by first | omega | assumption | exact trivial, by first | omega | assumption | exact trivial, by first | omega | assumption | exact trivial, by first | omega | assumption | exact trivial⟩
  refine z_calli hM hA (c_runV (n := 1) (as := [.int (II 61)]) (rest := []) B hX hA hM hl.1 t_this kd7 rfl (k_X6_readSign l D dA eA L T N I14 J15 R a_this t_this (61) hv25.1 g_t g_s g_S g_n (show R a_this 3 = g_t + 1 from p_0) (show T g_t = 3 from p_1) (show R g_t 0 = g_s + 1 from p_2) (show T g_s = 62 from p_3) (show I14 g_s = g_S from ((Fr.irow hF p_3 (by decide) nm0 (by decide)).trans p_4)) hv25.2.1 hv25.2.2.1 (show g_S (I14 a_this 5).toNat = I14 a_this 6 from by rw [e21, e23]; first | assumption | omega) hv25.2.2.2.1 hv25.2.2.2.2 _ _) ml_X6_122 nm_X6_readSign ⟨rfl, rfl⟩ ⟨Nat.le_of_ble_eq_true rfl, Nat.le_of_ble_eq_true rfl⟩ dX6_readStar_7 rfl rfl (Nat.le_of_ble_eq_true rfl) ⟨by show 0 + 0 ≤ 36; omega, by show 0 + 0 ≤ 279; omega⟩) (fun x27 ix27 L28 T29 N30 I31 J32 R33 dz34 dl35 H locs hp26 hMn => ?_)
  obtain ⟨yL28, yT29, yN30, yR33, hFc36, hp26a⟩ := hp26
  obtain rfl := yL28.symm; obtain rfl := yT29.symm; obtain rfl := yN30.symm; obtain rfl := yR33.symm
  replace hF : Fr mo_X6_readStar [] T N I J R T N I31 J32 R := hF.trans hFc36 (by decide) e20
  have hM := hMn
  clear hMn
  replace hp26a : (0 : Int) ≤ x27 ∧ x27 ≤ 1 ∧ (I31 a_this 5 ≤ g_n ∧ g_S (I31 a_this 5).toNat = I31 a_this 6 ∧ I14 a_this 5 ≤ I31 a_this 5 ∧ ((x27 = 0 ∧ I31 a_this 1 ≠ 0) ∨ (x27 = 1 ∧ I31 a_this 1 = I14 a_this 1 ∧ I14 a_this 5 + 1 ≤ I31 a_this 5))) := hp26a
  obtain ⟨hp26a_0, hp26a_1, hp26a_2⟩ := hp26a
  obtain ⟨hp26a_2_0, hp26a_2_1, hp26a_2_2, hp26a_2_3⟩ := hp26a_2
  obtain ⟨x37, e38⟩ : ∃ v, I31 a_this 5 = v := ⟨_, rfl⟩
  obtain ⟨x39, e40⟩ : ∃ v, I31 a_this 6 = v := ⟨_, rfl⟩
  have nz41 : g_S (x37).toNat = x39 := by have h9 := hp26a_2_1; rw [e38, e40] at h9; exact h9
  have e42 : I14 a_this 1 = x6 := (hFc19.i t_this (by decide) nm0 rfl).trans e7
  obtain ⟨x43, e44⟩ : ∃ v, I31 a_this 1 = v := ⟨_, rfl⟩
  refine q_ieq (tgt := 37) B dX6_readStar_10 (by decide) (by unfold inr; omega) (fun c45 => ?_) (fun c45 => ?_)
  · refine q_con B dX6_readStar_37 ?_
    refine g_zret B hM dX6_readStar_38 ⟨by show 0 ≤ 36; omega, by show 0 ≤ 279; omega⟩ (by omega) (by omega) ?_
    rw [← hPST]
    exact ⟨(0), rfl, by omega, hF, by omega, by omega, by first | omega | assumption | exact trivial, by show g_S (I31 a_this 5).toNat = I31 a_this 6; rw [e38, e40]; first | assumption | omega, by first | omega | assumption | exact trivial, by first | omega | assumption | exact trivial, by first | omega | assumption | exact trivial, by first | omega | assumption | exact trivial, by first | omega | assumption | exact trivial, by first | omega | assumption | exact trivial⟩
  · refine lv_aload_n B.1 B.2.1 dX6_readStar_13 rfl (lv_at hl 0 rfl) ?_
    refine lv_aload_n B.1 B.2.1 dX6_readStar_14 rfl (lv_at hl 1 rfl) ?_
    obtain ⟨b46, e47, t48⟩ := g11_5 hC0 t_kind
    refine c_getn (k := 5) pk_X3 B hM t_kind kd11 rfl (by decide) fl_X6_232 dX6_readStar_15 e47 ?_
    obtain ⟨v49, e50⟩ : ∃ v, R b46 3 = v := ⟨_, rfl⟩
    obtain ⟨b51, e52, t53⟩ := g10_3 hC0 t48
    have hv54 : (TKz g_S g_n) ∧ (I31 a_this 5 ≤ g_n) := by first | omega | exact ⟨by first | omega | assumption | exact trivial, by first | omega | assumption | exact trivial⟩
    refine g_calli hM hA (c_runV (n := 1) (as := [.ref b46]) (rest := []) B hX hA hM hl.1 t_this kd7 rfl (k_X6_readUses l D dA eA L T N I31 J32 R a_this t_this b46 t48 g_t g_s g_S g_n b51 (show R a_this 3 = g_t + 1 from p_0) (show T g_t = 3 from p_1) (show R g_t 0 = g_s + 1 from p_2) (show T g_s = 62 from p_3) (show I31 g_s = g_S from ((Fr.irow hF p_3 (by decide) nm0 (by decide)).trans p_4)) hv54.1 hv54.2 (show g_S (I31 a_this 5).toNat = I31 a_this 6 from by rw [e38, e40]; first | assumption | omega) (show R b46 3 = b51 + 1 from e52) (show T b51 = 20 from t53) _ _) ml_X6_209 nm_X6_readUses ⟨rfl, rfl⟩ ⟨Nat.le_of_ble_eq_true rfl, Nat.le_of_ble_eq_true rfl⟩ dX6_readStar_18 rfl rfl (Nat.le_of_ble_eq_true rfl) ⟨by show 0 + 36 ≤ 36; omega, by show 0 + 279 ≤ 279; omega⟩) (fun x56 ix56 L57 T58 N59 I60 J61 R62 dz63 dl64 H locs hp55 hMn => ?_)
    obtain ⟨hFc65, hp55a⟩ := hp55
    replace hF : Fr mo_X6_readStar [] T N I J R T58 N59 I60 J61 R62 := hF.trans hFc65 (by decide) e20
    have hM := hMn
    clear hMn
    replace hp55a : (0 : Int) ≤ x56 ∧ x56 ≤ 1 ∧ (I60 a_this 5 ≤ g_n ∧ g_S (I60 a_this 5).toNat = I60 a_this 6 ∧ I31 a_this 5 ≤ I60 a_this 5 ∧ ((x56 = 0 ∧ I60 a_this 1 ≠ 0) ∨ (x56 = 1 ∧ I60 a_this 1 = I31 a_this 1 ∧ I31 a_this 5 + 1 ≤ I60 a_this 5)) ∧ (dz63 : Int) ≤ 4 * (I60 a_this 5 - I31 a_this 5) ∧ (dl64 : Int) ≤ 31 * (I60 a_this 5 - I31 a_this 5) ∧ dz63 ≤ 36 ∧ dl64 ≤ 279) := hp55a
    obtain ⟨hp55a_0, hp55a_1, hp55a_2⟩ := hp55a
    obtain ⟨hp55a_2_0, hp55a_2_1, hp55a_2_2, hp55a_2_3, hp55a_2_4, hp55a_2_5, hp55a_2_6, hp55a_2_7⟩ := hp55a_2
    obtain ⟨x66, e67⟩ : ∃ v, I60 a_this 5 = v := ⟨_, rfl⟩
    obtain ⟨x68, e69⟩ : ∃ v, I60 a_this 6 = v := ⟨_, rfl⟩
    have nz70 : g_S (x66).toNat = x68 := by have h9 := hp55a_2_1; rw [e67, e69] at h9; exact h9
    obtain ⟨x71, e72⟩ : ∃ v, I60 a_this 1 = v := ⟨_, rfl⟩
    refine q_ieq (tgt := 37) B dX6_readStar_21 (by decide) (by unfold inr; omega) (fun c73 => ?_) (fun c73 => ?_)
    · refine q_con B dX6_readStar_37 ?_
      refine g_zret B hM dX6_readStar_38 ⟨by show 0 + dz63 ≤ 36; omega, by show 0 + dl64 ≤ 279; omega⟩ (by omega) (by omega) ?_
      rw [← hPST]
      exact ⟨(0), rfl, by omega, hF, by omega, by omega, by first | omega | assumption | exact trivial, by show g_S (I60 a_this 5).toNat = I60 a_this 6; rw [e67, e69]; first | assumption | omega, by first | omega | assumption | exact trivial, by first | omega | assumption | exact trivial, by first | omega | assumption | exact trivial, by first | omega | assumption | exact trivial, by first | omega | assumption | exact trivial, by first | omega | assumption | exact trivial⟩
    · refine lv_aload_n B.1 B.2.1 dX6_readStar_24 rfl (lv_at hl 0 rfl) ?_
      refine q_bip B dX6_readStar_25 (by decide) ?_
      have t74 : T58 a_this = 7 := hF.tt t_this (by decide) nm0
      have e75 : R62 a_this 3 = g_t + 1 := (hF.r t_this (by decide) nm0 rfl).trans p_0
      have e76 : R62 g_t 0 = g_s + 1 := (hF.r p_1 (by decide) nm0 rfl).trans p_2
      have t77 : T58 g_t = 3 := hF.tt p_1 (by decide) nm0
      have t78 : T58 g_s = 62 := hF.tt p_3 (by decide) nm0
      have hv79 : ((-2147483648 : Int) ≤ 59 ∧ (59 : Int) ≤ 2147483647) ∧ (TKz g_S g_n) ∧ (I60 a_this 5 ≤ g_n) ∧ ((59 : Int) ≠ 0) ∧ ((59 : Int) ≠ 1) := by first | omega | exact ⟨by first | omega | assumption | exact trivial, by first | omega | assumption | exact trivial, by first | omega | assumption | exact trivial, by first | omega | assumption | exact trivial, by first | omega | assumption | exact trivial⟩
      refine z_calli hM hA (c_runV (n := 1) (as := [.int (II 59)]) (rest := []) B hX hA hM hl.1 t74 kd7 rfl (k_X6_readSign l D dA eA L57 T58 N59 I60 J61 R62 a_this t74 (59) hv79.1 g_t g_s g_S g_n (show R62 a_this 3 = g_t + 1 from e75) (show T58 g_t = 3 from t77) (show R62 g_t 0 = g_s + 1 from e76) (show T58 g_s = 62 from t78) (show I60 g_s = g_S from ((Fr.irow hF p_3 (by decide) nm0 (by decide)).trans p_4)) hv79.2.1 hv79.2.2.1 (show g_S (I60 a_this 5).toNat = I60 a_this 6 from by rw [e67, e69]; first | assumption | omega) hv79.2.2.2.1 hv79.2.2.2.2 _ _) ml_X6_122 nm_X6_readSign ⟨rfl, rfl⟩ ⟨Nat.le_of_ble_eq_true rfl, Nat.le_of_ble_eq_true rfl⟩ dX6_readStar_27 rfl rfl (Nat.le_of_ble_eq_true rfl) ⟨by show 0 + dz63 + 0 ≤ 36; omega, by show 0 + dl64 + 0 ≤ 279; omega⟩) (fun x81 ix81 L82 T83 N84 I85 J86 R87 dz88 dl89 H locs hp80 hMn => ?_)
      obtain ⟨yL82, yT83, yN84, yR87, hFc90, hp80a⟩ := hp80
      obtain rfl := yL82.symm; obtain rfl := yT83.symm; obtain rfl := yN84.symm; obtain rfl := yR87.symm
      replace hF : Fr mo_X6_readStar [] T N I J R T58 N59 I85 J86 R62 := hF.trans hFc90 (by decide) e20
      have hM := hMn
      clear hMn
      replace hp80a : (0 : Int) ≤ x81 ∧ x81 ≤ 1 ∧ (I85 a_this 5 ≤ g_n ∧ g_S (I85 a_this 5).toNat = I85 a_this 6 ∧ I60 a_this 5 ≤ I85 a_this 5 ∧ ((x81 = 0 ∧ I85 a_this 1 ≠ 0) ∨ (x81 = 1 ∧ I85 a_this 1 = I60 a_this 1 ∧ I60 a_this 5 + 1 ≤ I85 a_this 5))) := hp80a
      obtain ⟨hp80a_0, hp80a_1, hp80a_2⟩ := hp80a
      obtain ⟨hp80a_2_0, hp80a_2_1, hp80a_2_2, hp80a_2_3⟩ := hp80a_2
      obtain ⟨x91, e92⟩ : ∃ v, I85 a_this 5 = v := ⟨_, rfl⟩
      obtain ⟨x93, e94⟩ : ∃ v, I85 a_this 6 = v := ⟨_, rfl⟩
      have nz95 : g_S (x91).toNat = x93 := by have h9 := hp80a_2_1; rw [e92, e94] at h9; exact h9
      obtain ⟨x96, e97⟩ : ∃ v, I85 a_this 1 = v := ⟨_, rfl⟩
      refine q_ieq (tgt := 37) B dX6_readStar_30 (by decide) (by unfold inr; omega) (fun c98 => ?_) (fun c98 => ?_)
      · refine q_con B dX6_readStar_37 ?_
        refine g_zret B hM dX6_readStar_38 ⟨by show 0 + dz63 ≤ 36; omega, by show 0 + dl64 ≤ 279; omega⟩ (by omega) (by omega) ?_
        rw [← hPST]
        exact ⟨(0), rfl, by omega, hF, by omega, by omega, by first | omega | assumption | exact trivial, by show g_S (I85 a_this 5).toNat = I85 a_this 6; rw [e92, e94]; first | assumption | omega, by first | omega | assumption | exact trivial, by first | omega | assumption | exact trivial, by first | omega | assumption | exact trivial, by first | omega | assumption | exact trivial, by first | omega | assumption | exact trivial, by first | omega | assumption | exact trivial⟩
      · refine q_con B dX6_readStar_33 ?_
        refine lv_goto (tgt := 38) B.1 B.2.1 dX6_readStar_34 (by decide) ?_
        refine g_zret B hM dX6_readStar_38 ⟨by show 0 + dz63 ≤ 36; omega, by show 0 + dl64 ≤ 279; omega⟩ (by omega) (by omega) ?_
        rw [← hPST]
        exact ⟨(1), rfl, by omega, hF, by omega, by omega, by first | omega | assumption | exact trivial, by show g_S (I85 a_this 5).toNat = I85 a_this 6; rw [e92, e94]; first | assumption | omega, by first | omega | assumption | exact trivial, by first | omega | assumption | exact trivial, by first | omega | assumption | exact trivial, by first | omega | assumption | exact trivial, by first | omega | assumption | exact trivial, by first | omega | assumption | exact trivial⟩

def mo_X6_endSteps : List Nat := [225, 226]
set_option maxHeartbeats 1000000 in
set_option maxRecDepth 20000 in
theorem k_X6_endSteps (l : Launch) (D : va_G) (dA : Nat → ClassId) (eA : Nat) (L : List Nat) (T N : Nat → Nat) (I : Nat → Nat → Int) (J : Nat → Nat → Int64) (R : Nat → Nat → Nat) (a_this : Nat) (t_this : T a_this = 7) (a_s : Int) (i_s : (0 : Int) ≤ a_s ∧ a_s ≤ 1) (a_d : Int) (i_d : (-2147483648 : Int) ≤ a_d ∧ a_d ≤ 2147483647) : GC l yX6_endSteps cX6_endSteps 3 (some .boolean) ({ frames := 1, cells := 0, slots := 0, locals := 21 }) D dA eA L T N I J R [.ref a_this, .int (II a_s), .int (II a_d)] 0 0 (gI (fun r L' T' N' I' J' R' dz dl => L' = L ∧ T' = T ∧ N' = N ∧ J' = J ∧ R' = R ∧ Fr mo_X6_endSteps [] T N I J R T' N' I' J' R' ∧ (0 : Int) ≤ r ∧ r ≤ 1 ∧ (((r = 0 ∧ I' a_this 1 ≠ 0) ∨ (r = 1 ∧ I' a_this 1 = I a_this 1))))) := by
  generalize hPST : (gI (fun r L' T' N' I' J' R' dz dl => L' = L ∧ T' = T ∧ N' = N ∧ J' = J ∧ R' = R ∧ Fr mo_X6_endSteps [] T N I J R T' N' I' J' R' ∧ (0 : Int) ≤ r ∧ r ≤ 1 ∧ (((r = 0 ∧ I' a_this 1 ≠ 0) ∨ (r = 1 ∧ I' a_this 1 = I a_this 1))))) = PST
  refine g_enter (own := RX6) (by decide) rfl (Nat.le_of_ble_eq_true rfl) (fun p e s m args below meth c ls hm B hX hM hl => ?_)
  have hC0 := hM.2.2.2.2.2.2.1
  have hW0 := hM.2.2.2
  have hF : Fr mo_X6_endSteps [] T N I J R T N I J R := Fr.rf
  have hA : ∀ q, s.heap.size ≤ q → cF dA L T N I J R s.heap.size q := fun q h => Or.inr h
  have hl : lv_has ls 3 [(0, .ref a_this), (1, .int (II a_s)), (2, .int (II a_d))] := hl
  obtain ⟨x1, e2⟩ : ∃ v, I a_this 1 = v := ⟨_, rfl⟩
  refine lv_iload_n B.1 B.2.1 dX6_endSteps_0 rfl (lv_at hl 1 rfl) ?_
  refine q_ieq (tgt := 11) B dX6_endSteps_1 (by decide) (by unfold inr; omega) (fun c3 => ?_) (fun c3 => ?_)
  · refine lv_iload_n B.1 B.2.1 dX6_endSteps_11 rfl (lv_at hl 2 rfl) ?_
    refine q_con B dX6_endSteps_12 ?_
    refine q_ceq (tgt := 24) B dX6_endSteps_13 (by decide) (by unfold inr; omega) (by unfold inr; omega) (fun c4 => ?_) (fun c4 => ?_)
    · refine q_con B dX6_endSteps_24 ?_
      refine lv_goto (tgt := 29) B.1 B.2.1 dX6_endSteps_25 (by decide) ?_
      refine g_zret B hM dX6_endSteps_29 ⟨Nat.le_refl _, Nat.le_refl _⟩ (by omega) (by omega) ?_
      rw [← hPST]
      exact ⟨(1), rfl, by omega, rfl, rfl, rfl, rfl, rfl, hF, by omega, by omega, by first | omega | assumption | exact trivial⟩
    · refine lv_aload_n B.1 B.2.1 dX6_endSteps_16 rfl (lv_at hl 0 rfl) ?_
      refine q_con B dX6_endSteps_17 ?_
      have hv5 : ((-2147483648 : Int) ≤ 4 ∧ (4 : Int) ≤ 2147483647) ∧ ((4 : Int) ≠ 0) := by first | omega | exact ⟨by first | omega | assumption | exact trivial, by first | omega | assumption | exact trivial⟩
      refine z_calli hM hA (c_runV (n := 1) (as := [.int (II 4)]) (rest := []) B hX hA hM hl.1 t_this kd7 rfl (k_X6_wrong l D dA eA L T N I J R a_this t_this (4) hv5.1 hv5.2 _ _) ml_X6_84 nm_X6_wrong ⟨rfl, rfl⟩ ⟨Nat.le_of_ble_eq_true rfl, Nat.le_of_ble_eq_true rfl⟩ dX6_endSteps_18 rfl rfl (Nat.le_of_ble_eq_true rfl) ⟨Nat.zero_le _, Nat.zero_le _⟩) (fun x7 ix7 L8 T9 N10 I11 J12 R13 dz14 dl15 H locs hp6 hMn => ?_)
      obtain ⟨yL8, yT9, yN10, yJ12, yR13, hFc16, hp6a⟩ := hp6
      obtain rfl := yL8.symm; obtain rfl := yT9.symm; obtain rfl := yN10.symm; obtain rfl := yJ12.symm; obtain rfl := yR13.symm
      replace hF : Fr mo_X6_endSteps [] T N I J R T N I11 J R := hF.trans hFc16 (by decide) e20
      have hM := hMn
      clear hMn
      replace hp6a : (0 : Int) ≤ x7 ∧ x7 ≤ 1 ∧ (x7 = 0 ∧ I11 a_this 1 ≠ 0) := hp6a
      obtain ⟨hp6a_0, hp6a_1, hp6a_2⟩ := hp6a
      obtain ⟨hp6a_2_0, hp6a_2_1⟩ := hp6a_2
      refine q_ieq (tgt := 28) B dX6_endSteps_21 (by decide) (by unfold inr; omega) (fun c17 => ?_) (fun c17 => ?_)
      · refine q_con B dX6_endSteps_28 ?_
        obtain ⟨x18, e19⟩ : ∃ v, I11 a_this 1 = v := ⟨_, rfl⟩
        refine g_zret B hM dX6_endSteps_29 ⟨Nat.le_refl _, Nat.le_refl _⟩ (by omega) (by omega) ?_
        rw [← hPST]
        exact ⟨(0), rfl, by omega, rfl, rfl, rfl, rfl, rfl, hF, by omega, by omega, by first | omega | assumption | exact trivial⟩
      · refine q_con B dX6_endSteps_24 ?_
        refine lv_goto (tgt := 29) B.1 B.2.1 dX6_endSteps_25 (by decide) ?_
        obtain ⟨x20, e21⟩ : ∃ v, I11 a_this 1 = v := ⟨_, rfl⟩
        refine g_zret B hM dX6_endSteps_29 ⟨Nat.le_refl _, Nat.le_refl _⟩ (by omega) (by omega) ?_
        rw [← hPST]
        exact ⟨(1), rfl, by omega, rfl, rfl, rfl, rfl, rfl, hF, by omega, by omega, by first | omega | assumption | exact trivial⟩
  · refine lv_aload_n B.1 B.2.1 dX6_endSteps_4 rfl (lv_at hl 0 rfl) ?_
    obtain ⟨x22, e23⟩ : ∃ v, I a_this 12 = v := ⟨_, rfl⟩
    have r24 : (0 : Int) ≤ x22 ∧ x22 ≤ 40 := by rw [← e23]; exact g7_12 hM.2.2.2.2.2.2.1 t_this
    refine c_geti (k := 12) pk_X6 B hM t_this kd7 rfl (by decide) fl_X6_150 dX6_endSteps_5 e23 ?_
    refine q_ieq (tgt := 24) B dX6_endSteps_8 (by decide) (by unfold inr; omega) (fun c25 => ?_) (fun c25 => ?_)
    · refine q_con B dX6_endSteps_24 ?_
      refine lv_goto (tgt := 29) B.1 B.2.1 dX6_endSteps_25 (by decide) ?_
      refine g_zret B hM dX6_endSteps_29 ⟨Nat.le_refl _, Nat.le_refl _⟩ (by omega) (by omega) ?_
      rw [← hPST]
      exact ⟨(1), rfl, by omega, rfl, rfl, rfl, rfl, rfl, hF, by omega, by omega, by first | omega | assumption | exact trivial⟩
    · refine lv_iload_n B.1 B.2.1 dX6_endSteps_11 rfl (lv_at hl 2 rfl) ?_
      refine q_con B dX6_endSteps_12 ?_
      refine q_ceq (tgt := 24) B dX6_endSteps_13 (by decide) (by unfold inr; omega) (by unfold inr; omega) (fun c26 => ?_) (fun c26 => ?_)
      · refine q_con B dX6_endSteps_24 ?_
        refine lv_goto (tgt := 29) B.1 B.2.1 dX6_endSteps_25 (by decide) ?_
        refine g_zret B hM dX6_endSteps_29 ⟨Nat.le_refl _, Nat.le_refl _⟩ (by omega) (by omega) ?_
        rw [← hPST]
        exact ⟨(1), rfl, by omega, rfl, rfl, rfl, rfl, rfl, hF, by omega, by omega, by first | omega | assumption | exact trivial⟩
      · refine lv_aload_n B.1 B.2.1 dX6_endSteps_16 rfl (lv_at hl 0 rfl) ?_
        refine q_con B dX6_endSteps_17 ?_
        have hv27 : ((-2147483648 : Int) ≤ 4 ∧ (4 : Int) ≤ 2147483647) ∧ ((4 : Int) ≠ 0) := by first | omega | exact ⟨by first | omega | assumption | exact trivial, by first | omega | assumption | exact trivial⟩
        refine z_calli hM hA (c_runV (n := 1) (as := [.int (II 4)]) (rest := []) B hX hA hM hl.1 t_this kd7 rfl (k_X6_wrong l D dA eA L T N I J R a_this t_this (4) hv27.1 hv27.2 _ _) ml_X6_84 nm_X6_wrong ⟨rfl, rfl⟩ ⟨Nat.le_of_ble_eq_true rfl, Nat.le_of_ble_eq_true rfl⟩ dX6_endSteps_18 rfl rfl (Nat.le_of_ble_eq_true rfl) ⟨Nat.zero_le _, Nat.zero_le _⟩) (fun x29 ix29 L30 T31 N32 I33 J34 R35 dz36 dl37 H locs hp28 hMn => ?_)
        obtain ⟨yL30, yT31, yN32, yJ34, yR35, hFc38, hp28a⟩ := hp28
        obtain rfl := yL30.symm; obtain rfl := yT31.symm; obtain rfl := yN32.symm; obtain rfl := yJ34.symm; obtain rfl := yR35.symm
        replace hF : Fr mo_X6_endSteps [] T N I J R T N I33 J R := hF.trans hFc38 (by decide) e20
        have hM := hMn
        clear hMn
        replace hp28a : (0 : Int) ≤ x29 ∧ x29 ≤ 1 ∧ (x29 = 0 ∧ I33 a_this 1 ≠ 0) := hp28a
        obtain ⟨hp28a_0, hp28a_1, hp28a_2⟩ := hp28a
        obtain ⟨hp28a_2_0, hp28a_2_1⟩ := hp28a_2
        refine q_ieq (tgt := 28) B dX6_endSteps_21 (by decide) (by unfold inr; omega) (fun c39 => ?_) (fun c39 => ?_)
        · refine q_con B dX6_endSteps_28 ?_
          obtain ⟨x40, e41⟩ : ∃ v, I33 a_this 1 = v := ⟨_, rfl⟩
          refine g_zret B hM dX6_endSteps_29 ⟨Nat.le_refl _, Nat.le_refl _⟩ (by omega) (by omega) ?_
          rw [← hPST]
          exact ⟨(0), rfl, by omega, rfl, rfl, rfl, rfl, rfl, hF, by omega, by omega, by first | omega | assumption | exact trivial⟩
        · refine q_con B dX6_endSteps_24 ?_
          refine lv_goto (tgt := 29) B.1 B.2.1 dX6_endSteps_25 (by decide) ?_
          obtain ⟨x42, e43⟩ : ∃ v, I33 a_this 1 = v := ⟨_, rfl⟩
          refine g_zret B hM dX6_endSteps_29 ⟨Nat.le_refl _, Nat.le_refl _⟩ (by omega) (by omega) ?_
          rw [← hPST]
          exact ⟨(1), rfl, by omega, rfl, rfl, rfl, rfl, rfl, hF, by omega, by omega, by first | omega | assumption | exact trivial⟩
