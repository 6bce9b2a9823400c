def mo_X4_open : List Nat := [672, 673, 674, 1792, 325, 2560, 129, 2656, 134, 130, 131, 132, 133, 2592]
set_option maxHeartbeats 1000000 in
set_option maxRecDepth 20000 in
theorem k_X4_open (l : Launch) (D : va_G) (dA : Nat → ClassId) (eA : Nat) (L : List Nat) (T N : Nat → Nat) (I : Nat → Nat → Int) (J : Nat → Nat → Int64) (R : Nat → Nat → Nat) (a_this : Nat) (t_this : T a_this = 4) (a_b : Nat) (t_b : T a_b = 6) (g_kl : Nat) (p_0 : R a_b 3 = g_kl + 1) (p_1 : T g_kl = 18) : GC l yX4_open cX4_open 4 none ({ frames := 26, cells := 180 * (spn I R g_kl (I g_kl 2).toNat).toNat + 190, slots := 1000 * (spn I R g_kl (I g_kl 2).toNat).toNat + 1100, locals := 715 }) D dA eA L T N I J R [.ref a_this, .ref a_b] (180 * (spn I R g_kl (I g_kl 2).toNat).toNat + 190) (1000 * (spn I R g_kl (I g_kl 2).toNat).toNat + 1100) (gV (fun L' T' N' I' J' R' dz dl => J' = J ∧ Fr mo_X4_open [] T N I J R T' N' I' J' R' ∧ (dz : Int) ≤ 180 * spn I R g_kl (I g_kl 2).toNat ∧ (dl : Int) ≤ 1000 * spn I R g_kl (I g_kl 2).toNat)) := by
  generalize hPST : (gV (fun L' T' N' I' J' R' dz dl => J' = J ∧ Fr mo_X4_open [] T N I J R T' N' I' J' R' ∧ (dz : Int) ≤ 180 * spn I R g_kl (I g_kl 2).toNat ∧ (dl : Int) ≤ 1000 * spn I R g_kl (I g_kl 2).toNat)) = PST
  refine g_enter (own := RX4) (by decide) rfl (Nat.le_of_ble_eq_true rfl) (fun p e s m args below meth c ls hm B hX hM hl => ?_)
  have hC0 := hM.2.2.2.2.2.2.1
  have hW0 := hM.2.2.2
  have hF : Fr mo_X4_open [] T N I J R T N I J R := Fr.rf
  have hA : ∀ q, s.heap.size ≤ q → cF dA L T N I J R s.heap.size q := fun q h => Or.inr h
  have hl : lv_has ls 4 [(0, .ref a_this), (1, .ref a_b)] := hl
  obtain ⟨x1, e2⟩ : ∃ v, I g_kl 2 = v := ⟨_, rfl⟩
  have hs0 : spn I R g_kl ((0 : Int)).toNat = 0 := rfl
  have hsn := spn_nn (I := I) (R := R) (g := g_kl) (n := (I g_kl 2).toNat)
  have h0k := (g18_2 hM.2.2.2.2.2.2.1 p_1).1
  refine lv_aload_n B.1 B.2.1 dX4_open_0 rfl (lv_at hl 0 rfl) ?_
  refine lv_aload_n B.1 B.2.1 dX4_open_1 rfl (lv_at hl 1 rfl) ?_
  refine c_putr (k := 2) (v := a_b + 1) pk_X4 B hM t_this kd4 rfl (by decide) fl_X4_23 (Or.inl rfl) dX4_open_2 rfl rfl ⟨rfl, fun _ => rfl, rfl, fun _ => rfl⟩ (rokR t_b rfl) (fun R3 H locs hu4 hM => ?_)
  have e5 : R3 a_this 2 = a_b + 1 := w2_at hu4
  replace hF : Fr mo_X4_open [] T N I J R T N I J R3 := hF.wr hu4 (fun _ _ => by rw [t_this]; rfl)
  refine lv_aload_n B.1 B.2.1 dX4_open_5 rfl (lv_at hl 0 rfl) ?_
  refine q_con B dX4_open_6 ?_
  refine c_puti (k := 1) pk_X4 B hM t_this kd4 rfl (by decide) fl_X4_27 (Or.inl rfl) dX4_open_7 rfl rfl rfl (show (0 : Int) ≤ 0 from by omega) (show 0 ≤ (200 : Int) from by omega) (fun I6 H locs hu7 hM => ?_)
  have e8 : I6 a_this 1 = 0 := w2_at hu7
  replace hF : Fr mo_X4_open [] T N I J R T N I6 J R3 := hF.wi hu7 (fun _ _ => by rw [t_this]; rfl)
  refine lv_aload_n B.1 B.2.1 dX4_open_10 rfl (lv_at hl 0 rfl) ?_
  have hFt := hF
  have hMt := hM
  refine z_callv hM hA (c_runV (n := 0) (as := []) (rest := []) B hX hA hM hl.1 t_this kd4 rfl (k_X4_findReach l D dA eA L T N I6 J R3 a_this t_this a_b (show R3 a_this 2 = a_b + 1 from e5) (show T a_b = 6 from t_b) _ _) ml_X4_31 nm_X4_findReach ⟨rfl, rfl⟩ ⟨Nat.le_of_ble_eq_true rfl, Nat.le_of_ble_eq_true rfl⟩ dX4_open_11 rfl rfl (Nat.le_of_ble_eq_true rfl) ⟨by show 0 + 0 ≤ (180 * (spn I R g_kl (I g_kl 2).toNat).toNat + 190); omega, by show 0 + 0 ≤ (1000 * (spn I R g_kl (I g_kl 2).toNat).toNat + 1100); omega⟩) (fun L11 T12 N13 I14 J15 R16 dz17 dl18 H locs hp9 hMn => ?_)
  obtain ⟨yL11, yT12, yN13, yJ15, yR16, hFc19, hp9a⟩ := hp9
  obtain rfl := yL11.symm; obtain rfl := yT12.symm; obtain rfl := yN13.symm; obtain rfl := yJ15.symm; obtain rfl := yR16.symm
  replace hF : Fr mo_X4_open [] T N I J R T N I14 J R3 := hF.trans hFc19 (by decide) e20
  have hM := hMn
  clear hMn
  clear hp9a
  clear hFt hMt
  refine q_con B dX4_open_14 ?_
  refine lv_istore_n (lv' := [(2, .int (II 0)), (0, .ref a_this), (1, .ref a_b)]) B.1 B.2.1 dX4_open_15 rfl hl (by decide) rfl (fun ls hl => ?_)
  have LL16 : ∀ NN : Nat, ∀ (v16_2 : Int) (L_16 : List Nat) (T_16 : Nat → Nat) (N_16 : Nat → Nat) (I_16 : Nat → Nat → Int) (R_16 : Nat → Nat → Nat) (zc16 zs16 : Nat) (H : Heap) (locs : List Loc) (ls : Array Slot), (CWd D dA eA (cF dA L T N I J R s.heap.size) s.heap L_16 T_16 N_16 I_16 J R_16 H locs) → (Fr mo_X4_open [] T N I J R T_16 N_16 I_16 J R_16) → lv_has ls 4 [(0, .ref a_this), (1, .ref a_b), (2, .int (II v16_2))] → ((-2147483648 : Int) ≤ v16_2 ∧ v16_2 ≤ 2147483647) → (0 ≤ v16_2) → (v16_2 ≤ I g_kl 2) → (R_16 a_this 2 = a_b + 1) → ((zc16 : Int) ≤ 180 * spn I R g_kl (v16_2).toNat) → ((zs16 : Int) ≤ 1000 * spn I R g_kl (v16_2).toNat) → (0 ≤ 17 - v16_2) → (17 - v16_2 < (NN : Int)) → W p l e ({ frames := 26, cells := 180 * (spn I R g_kl (I g_kl 2).toNat).toNat + 190, slots := 1000 * (spn I R g_kl (I g_kl 2).toNat).toNat + 1100, locals := 715 }) s m args below meth c H locs zc16 zs16 (MQ below (gQ D dA eA (cF dA L T N I J R s.heap.size) s.heap.size (hs s.heap) PST) args s (180 * (spn I R g_kl (I g_kl 2).toNat).toNat + 190) (1000 * (spn I R g_kl (I g_kl 2).toNat).toNat + 1100) (cF dA L T N I J R s.heap.size)) (F0 m 16 ls []) := by
    intro NN
    induction NN with
    | zero => intro v16_2 L_16 T_16 N_16 I_16 R_16 zc16 zs16 H locs ls hM hF hl hLL16_0 hLL16_1 hLL16_2 hLL16_3 hLL16_4 hLL16_5 hLL16_6 hN; exfalso; omega
    | succ NN IH16 =>
      intro v16_2 L_16 T_16 N_16 I_16 R_16 zc16 zs16 H locs ls hM hF hl hLL16_0 hLL16_1 hLL16_2 hLL16_3 hLL16_4 hLL16_5 hLL16_6 hN
      have hmh := spn_mono (I := I) (R := R) (g := g_kl) (show (v16_2).toNat ≤ (I g_kl 2).toNat from by omega)
      refine lv_iload_n B.1 B.2.1 dX4_open_16 rfl (lv_at hl 2 rfl) ?_
      refine lv_aload_n B.1 B.2.1 dX4_open_17 rfl (lv_at hl 0 rfl) ?_
      have t20 : T_16 a_this = 4 := hF.tt t_this (by decide) nm0
      refine c_getn (k := 2) pk_X4 B hM t20 kd4 rfl (by decide) fl_X4_23 dX4_open_18 hLL16_3 ?_
      have t21 : T_16 a_b = 6 := hF.tt t_b (by decide) nm0
      have e22 : R_16 a_b 3 = g_kl + 1 := (hF.r t_b (by decide) nm0 rfl).trans p_0
      refine c_getn (k := 3) pk_X0 B hM t21 kd6 rfl (by decide) fl_X4_34 dX4_open_21 e22 ?_
      have e23 : I_16 g_kl 2 = x1 := (hF.i p_1 (by decide) nm0 rfl).trans e2
      have hFt := hF
      have hMt := hM
      have t24 : T_16 g_kl = 18 := hF.tt p_1 (by decide) nm0
      have hv25 : (15 ≤ 18) ∧ (18 ≤ 23) := by first | omega | exact ⟨by first | omega | assumption | exact trivial, by first | omega | assumption | exact trivial⟩
      refine p_calli (c_runV (n := 0) (as := []) (rest := [.int (II v16_2)]) B hX hA hM hl.1 t24 kd18 rfl (k_Jx4a65c_size_8abf5 l D dA eA L_16 T_16 N_16 I_16 J R_16 g_kl t24 hv25.1 hv25.2 _ _) ml_X4_40 nm_Jx4a65c_size_8abf5 ⟨rfl, rfl⟩ ⟨Nat.le_of_ble_eq_true rfl, Nat.le_of_ble_eq_true rfl⟩ dX4_open_24 rfl rfl (Nat.le_of_ble_eq_true rfl) ⟨by show zc16 + 0 ≤ (180 * (spn I R g_kl (I g_kl 2).toNat).toNat + 190); omega, by show zs16 + 0 ≤ (1000 * (spn I R g_kl (I g_kl 2).toNat).toNat + 1100); omega⟩) (fun x27 ix27 hp26 => ?_)
      have hp26a := hp26
      replace hp26a : I_16 g_kl 2 = x27 ∧ 0 ≤ x27 ∧ x27 ≤ 16 := hp26a
      obtain ⟨hp26a_0, hp26a_1, hp26a_2⟩ := hp26a
      clear hFt hMt
      refine q_cge (tgt := 137) B dX4_open_27 (by decide) (by unfold inr; omega) (by unfold inr; omega) (fun c28 => ?_) (fun c28 => ?_)
      · have hse : spn I R g_kl (v16_2).toNat = spn I R g_kl (I g_kl 2).toNat := by rw [show (v16_2 : Int) = I g_kl 2 from by omega]
        refine g_vret B hM dX4_open_137 ⟨by show zc16 ≤ (180 * (spn I R g_kl (I g_kl 2).toNat).toNat + 190); omega, by show zs16 ≤ (1000 * (spn I R g_kl (I g_kl 2).toNat).toNat + 1100); omega⟩ ?_
        rw [← hPST]
        exact ⟨rfl, rfl, hF, by first | omega | assumption | exact trivial, by first | omega | assumption | exact trivial⟩
      · refine lv_aload_n B.1 B.2.1 dX4_open_30 rfl (lv_at hl 0 rfl) ?_
        refine lv_aload_n B.1 B.2.1 dX4_open_31 rfl (lv_at hl 0 rfl) ?_
        refine c_getn (k := 2) pk_X4 B hM t20 kd4 rfl (by decide) fl_X4_23 dX4_open_32 hLL16_3 ?_
        refine c_getn (k := 3) pk_X0 B hM t21 kd6 rfl (by decide) fl_X4_34 dX4_open_35 e22 ?_
        refine lv_iload_n B.1 B.2.1 dX4_open_38 rfl (lv_at hl 2 rfl) ?_
        have hFt := hF
        have hMt := hM
        have hv29 : ((-2147483648 : Int) ≤ v16_2 ∧ (v16_2 : Int) ≤ 2147483647) ∧ (15 ≤ 18) ∧ (18 ≤ 23) ∧ (0 ≤ v16_2) ∧ (v16_2 < I_16 g_kl 2) := by first | omega | exact ⟨by first | omega | assumption | exact trivial, by first | omega | assumption | exact trivial, by first | omega | assumption | exact trivial, by first | omega | assumption | exact trivial, by first | omega | assumption | exact trivial⟩
        refine p_callr (c_runV (n := 1) (as := [.int (II v16_2)]) (rest := [.ref a_this]) B hX hA hM hl.1 t24 kd18 rfl (k_Jx4a65c_get_915e3 l D dA eA L_16 T_16 N_16 I_16 J R_16 g_kl t24 v16_2 hv29.1 hv29.2.1 hv29.2.2.1 hv29.2.2.2.1 hv29.2.2.2.2 _ _) ml_X4_46 nm_Jx4a65c_get_915e3 ⟨rfl, rfl⟩ ⟨Nat.le_of_ble_eq_true rfl, Nat.le_of_ble_eq_true rfl⟩ dX4_open_39 rfl rfl (Nat.le_of_ble_eq_true rfl) ⟨by show zc16 + 0 ≤ (180 * (spn I R g_kl (I g_kl 2).toNat).toNat + 190); omega, by show zs16 + 0 ≤ (1000 * (spn I R g_kl (I g_kl 2).toNat).toNat + 1100); omega⟩) (fun b31 hp30 => ?_)
        obtain ⟨tb31, hp30a⟩ := hp30
        replace hp30a : R_16 (R_16 g_kl 1 - 1) v16_2.toNat = b31 + 1 := hp30a
        clear hFt hMt
        refine c_cast B hM tb31 kd11 rfl cl_X4_50 dX4_open_42 ?_
        have hkd : R (R g_kl 1 - 1) (v16_2).toNat = b31 + 1 := (kdi_fr2 hC0 hW0.2.2.2.2 p_1 hF (by decide) (by omega)).symm.trans (by assumption)
        have tkd : T b31 = 11 := kdT hC0 hW0.2.2.2.2 p_1 (by omega) hkd
        obtain ⟨b32, e33, t34⟩ := g11_3 hC0 tkd
        have e35 : R_16 b31 3 = b32 + 1 := (hF.r tkd (by decide) nm0 rfl).trans e33
        obtain ⟨x36, e37⟩ : ∃ v, I b31 4 = v := ⟨_, rfl⟩
        have e38 : I_16 b31 4 = x36 := (hF.i tkd (by decide) nm0 rfl).trans e37
        obtain ⟨x39, e40⟩ : ∃ v, I b32 2 = v := ⟨_, rfl⟩
        have e41 : I_16 b32 2 = x39 := (hF.i t34 (by decide) nm0 rfl).trans e40
        have hsx := spn_at2 (I := I) (z := v16_2) (by omega) hkd e33
        have hmo := spn_mono (I := I) (R := R) (g := g_kl) (show (v16_2 + 1).toNat ≤ (I g_kl 2).toNat from by omega)
        refine c_putr (k := 3) (v := b31 + 1) pk_X4 B hM t20 kd4 rfl (by decide) fl_X4_52 (Or.inl rfl) dX4_open_45 rfl rfl ⟨rfl, fun _ => rfl, rfl, fun _ => rfl⟩ (rokR tb31 rfl) (fun R42 H locs hu43 hM => ?_)
        have e44 : R42 a_this 3 = b31 + 1 := w2_at hu43
        replace hF : Fr mo_X4_open [] T N I J R T_16 N_16 I_16 J R42 := hF.wr hu43 (fun _ _ => by rw [t_this]; rfl)
        refine lv_aload_n B.1 B.2.1 dX4_open_48 rfl (lv_at hl 0 rfl) ?_
        refine lv_aload_n B.1 B.2.1 dX4_open_49 rfl (lv_at hl 0 rfl) ?_
        refine c_getn (k := 3) pk_X4 B hM t20 kd4 rfl (by decide) fl_X4_52 dX4_open_50 e44 ?_
        obtain ⟨b45, e46, t47⟩ := g11_5 hC0 tkd
        have e48 : R42 b31 5 = b45 + 1 := (hF.r tkd (by decide) nm0 rfl).trans e46
        refine c_getn (k := 5) pk_X3 B hM tb31 kd11 rfl (by decide) fl_X4_56 dX4_open_53 e48 ?_
        refine q_con B dX4_open_56 ?_
        have hFt := hF
        have hMt := hM
        have t49 : T_16 b45 = 10 := hF.tt t47 (by decide) nm0
        refine z_callv hM hA (c_runV (n := 2) (as := [.ref b45, .int (II (-1))]) (rest := []) B hX hA hM hl.1 t20 kd4 rfl (k_X4_turnTo l D dA eA L_16 T_16 N_16 I_16 J R42 a_this t20 b45 t49 (-1) (by first | omega | assumption | exact trivial) _ _) ml_X4_60 nm_X4_turnTo ⟨rfl, rfl⟩ ⟨Nat.le_of_ble_eq_true rfl, Nat.le_of_ble_eq_true rfl⟩ dX4_open_57 rfl rfl (Nat.le_of_ble_eq_true rfl) ⟨by show zc16 + 0 ≤ (180 * (spn I R g_kl (I g_kl 2).toNat).toNat + 190); omega, by show zs16 + 0 ≤ (1000 * (spn I R g_kl (I g_kl 2).toNat).toNat + 1100); omega⟩) (fun L52 T53 N54 I55 J56 R57 dz58 dl59 H locs hp50 hMn => ?_)
        obtain ⟨yL52, yT53, yN54, yJ56, hFc60, hp50a⟩ := hp50
        obtain rfl := yL52.symm; obtain rfl := yT53.symm; obtain rfl := yN54.symm; obtain rfl := yJ56.symm
        replace hF : Fr mo_X4_open [] T N I J R T_16 N_16 I55 J R57 := hF.trans hFc60 (by decide) e20
        have hM := hMn
        clear hMn
        replace hp50a : I55 a_this 6 = 0 ∧ R57 a_this 4 = b45 + 1 := hp50a
        obtain ⟨hp50a_0, hp50a_1⟩ := hp50a
        clear hFt hMt
        refine lv_aload_n B.1 B.2.1 dX4_open_60 rfl (lv_at hl 0 rfl) ?_
        refine lv_aload_n B.1 B.2.1 dX4_open_61 rfl (lv_at hl 0 rfl) ?_
        refine c_getn (k := 4) pk_X4 B hM t20 kd4 rfl (by decide) fl_X4_64 dX4_open_62 hp50a_1 ?_
        obtain ⟨b61, e62, t63⟩ := g10_3 hC0 t47
        have e64 : R57 b45 3 = b61 + 1 := (hF.r t47 (by decide) nm0 rfl).trans e62
        refine c_getn (k := 3) pk_X8 B hM t49 kd10 rfl (by decide) fl_X4_67 dX4_open_65 e64 ?_
        refine q_con B dX4_open_68 ?_
        obtain ⟨b65, e66, t67⟩ := g10_4 hC0 t47
        have e68 : R57 b45 4 = b65 + 1 := (hF.r t47 (by decide) nm0 rfl).trans e66
        obtain ⟨x69, e70⟩ : ∃ v, I55 b65 2 = v := ⟨_, rfl⟩
        have t71 : T_16 b65 = 21 := hF.tt t67 (by decide) nm0
        have r72 : (0 : Int) ≤ x69 ∧ x69 ≤ 40 := by rw [← e70]; exact g21_2 hM.2.2.2.2.2.2.1 t71
        have hFt := hF
        have hMt := hM
        have t73 : T_16 b61 = 20 := hF.tt t63 (by decide) nm0
        have e74 : R42 a_this 2 = a_b + 1 := (w2_ne hu43 (Or.inr (by decide))).trans hLL16_3
        have e75 : R57 a_this 2 = a_b + 1 := (hFc60.r t20 (by decide) nm0 rfl).trans e74
        have e76 : R57 a_this 3 = b31 + 1 := (hFc60.r t20 (by decide) nm0 rfl).trans e44
        have hv77 : ((-2147483648 : Int) ≤ 0 ∧ (0 : Int) ≤ 2147483647) ∧ (I55 a_this 6 ≤ 100) ∧ (0 ≤ (0 : Int)) := by first | omega | exact ⟨by first | omega | assumption | exact trivial, by first | omega | assumption | exact trivial, by first | omega | assumption | exact trivial⟩
        refine g_callv hM hA (c_runV (n := 2) (as := [.ref b61, .int (II 0)]) (rest := []) B hX hA hM hl.1 t20 kd4 rfl (k_X4_openUses l D dA eA L_16 T_16 N_16 I55 J R57 a_this t20 b61 t73 (0) hv77.1 a_b b31 b45 b65 (show R57 a_this 2 = a_b + 1 from e75) (show T_16 a_b = 6 from t21) (show R57 a_this 3 = b31 + 1 from e76) (show T_16 b31 = 11 from tb31) (show R57 a_this 4 = b45 + 1 from hp50a_1) (show T_16 b45 = 10 from t49) (show R57 b45 4 = b65 + 1 from e68) (show T_16 b65 = 21 from t71) hv77.2.1 hv77.2.2 _ _) ml_X4_72 nm_X4_openUses ⟨rfl, rfl⟩ ⟨Nat.le_of_ble_eq_true rfl, Nat.le_of_ble_eq_true rfl⟩ dX4_open_69 rfl rfl (Nat.le_of_ble_eq_true rfl) ⟨by show zc16 + ((100 - I55 a_this 6).toNat + 2 * (40 - I55 b65 2).toNat + 3) ≤ (180 * (spn I R g_kl (I g_kl 2).toNat).toNat + 190); omega, by show zs16 + (3 * (100 - I55 a_this 6).toNat + 13 * (40 - I55 b65 2).toNat + 3 * (60 - N_16 (R57 b65 1 - 1)) + 75) ≤ (1000 * (spn I R g_kl (I g_kl 2).toNat).toNat + 1100); omega⟩) (fun L80 T81 N82 I83 J84 R85 dz86 dl87 H locs hp78 hMn => ?_)
        obtain ⟨yJ84, hFc88, hp78a⟩ := hp78
        obtain rfl := yJ84.symm
        have t89 : T_16 b32 = 19 := hF.tt t34 (by decide) nm0
        replace hF : Fr mo_X4_open [] T N I J R T81 N82 I83 J R85 := hF.trans hFc88 (by decide) e20
        have hM := hMn
        clear hMn
        replace hp78a : I55 a_this 6 ≤ I83 a_this 6 ∧ I83 a_this 6 ≤ 100 ∧ I55 b65 2 ≤ I83 b65 2 ∧ I83 b65 2 ≤ 40 ∧ (dz86 : Int) ≤ (I83 a_this 6 - I55 a_this 6) + 2 * (I83 b65 2 - I55 b65 2) ∧ (dl87 : Int) + 3 * ((N_16 (R57 b65 1 - 1) : Nat) : Int) ≤ 3 * (I83 a_this 6 - I55 a_this 6) + 13 * (I83 b65 2 - I55 b65 2) + 3 * ((N82 (R85 b65 1 - 1) : Nat) : Int) := hp78a
        obtain ⟨hp78a_0, hp78a_1, hp78a_2, hp78a_3, hp78a_4, hp78a_5⟩ := hp78a
        have e90 : R85 a_this 4 = b45 + 1 := (hFc88.r t20 (by decide) nm0 rfl).trans hp50a_1
        have e91 : R85 b45 4 = b65 + 1 := (hF.r t47 (by decide) nm0 rfl).trans e66
        have t92 : T81 b65 = 21 := hF.tt t67 (by decide) nm0
        have hnb := edB hM.2.2.2.2.2.2.1 t92
        clear hFt hMt
        refine lv_aload_n B.1 B.2.1 dX4_open_72 rfl (lv_at hl 0 rfl) ?_
        have t93 : T81 a_this = 4 := hF.tt t_this (by decide) nm0
        have e94 : R85 a_this 3 = b31 + 1 := (hFc88.r t20 (by decide) nm0 rfl).trans e76
        refine c_getn (k := 3) pk_X4 B hM t93 kd4 rfl (by decide) fl_X4_52 dX4_open_73 e94 ?_
        have t95 : T81 b31 = 11 := hF.tt tkd (by decide) nm0
        have e96 : I83 b31 4 = x36 := (hF.i tkd (by decide) nm0 rfl).trans e37
        have r97 : (0 : Int) ≤ x36 ∧ x36 ≤ 12 := by rw [← e96]; exact g11_4 hM.2.2.2.2.2.2.1 t95
        refine c_geti (k := 4) pk_X3 B hM t95 kd11 rfl (by decide) fl_X4_76 dX4_open_76 e96 ?_
        refine lv_istore_n (lv' := [(3, .int (II x36)), (0, .ref a_this), (1, .ref a_b), (2, .int (II v16_2))]) B.1 B.2.1 dX4_open_79 rfl hl (by decide) rfl (fun ls hl => ?_)
        have LL80 : ∀ NN : Nat, ∀ (v80_3 : Int) (L_80 : List Nat) (T_80 : Nat → Nat) (N_80 : Nat → Nat) (I_80 : Nat → Nat → Int) (R_80 : Nat → Nat → Nat) (zc80 zs80 : Nat) (H : Heap) (locs : List Loc) (ls : Array Slot), (CWd D dA eA (cF dA L T N I J R s.heap.size) s.heap L_80 T_80 N_80 I_80 J R_80 H locs) → (Fr mo_X4_open [] T N I J R T_80 N_80 I_80 J R_80) → lv_has ls 4 [(0, .ref a_this), (1, .ref a_b), (2, .int (II v16_2)), (3, .int (II v80_3))] → ((-2147483648 : Int) ≤ v80_3 ∧ v80_3 ≤ 2147483647) → (R_80 a_this 2 = a_b + 1) → (R_80 a_this 3 = b31 + 1) → (I b31 4 ≤ v80_3) → ((zc80 : Int) ≤ 180 * (spn I R g_kl (v16_2).toNat + 1 + (v80_3 - I b31 4))) → ((zs80 : Int) ≤ 1000 * (spn I R g_kl (v16_2).toNat + 1 + (v80_3 - I b31 4))) → (v80_3 ≤ 12 ∧ (v80_3 ≤ I b32 2 ∨ v80_3 = I b31 4)) → (0 ≤ 13 - v80_3) → (13 - v80_3 < (NN : Int)) → W p l e ({ frames := 26, cells := 180 * (spn I R g_kl (I g_kl 2).toNat).toNat + 190, slots := 1000 * (spn I R g_kl (I g_kl 2).toNat).toNat + 1100, locals := 715 }) s m args below meth c H locs zc80 zs80 (MQ below (gQ D dA eA (cF dA L T N I J R s.heap.size) s.heap.size (hs s.heap) PST) args s (180 * (spn I R g_kl (I g_kl 2).toNat).toNat + 190) (1000 * (spn I R g_kl (I g_kl 2).toNat).toNat + 1100) (cF dA L T N I J R s.heap.size)) (F0 m 80 ls []) := by
          intro NN
          induction NN with
          | zero => intro v80_3 L_80 T_80 N_80 I_80 R_80 zc80 zs80 H locs ls hM hF hl hLL80_0 hLL80_1 hLL80_2 hLL80_3 hLL80_4 hLL80_5 hLL80_6 hLL80_7 hN; exfalso; omega
          | succ NN IH80 =>
            intro v80_3 L_80 T_80 N_80 I_80 R_80 zc80 zs80 H locs ls hM hF hl hLL80_0 hLL80_1 hLL80_2 hLL80_3 hLL80_4 hLL80_5 hLL80_6 hLL80_7 hN
            refine lv_iload_n B.1 B.2.1 dX4_open_80 rfl (lv_at hl 3 rfl) ?_
            refine lv_aload_n B.1 B.2.1 dX4_open_81 rfl (lv_at hl 0 rfl) ?_
            have t98 : T_80 a_this = 4 := hF.tt t_this (by decide) nm0
            refine c_getn (k := 3) pk_X4 B hM t98 kd4 rfl (by decide) fl_X4_52 dX4_open_82 hLL80_2 ?_
            have t99 : T_80 b31 = 11 := hF.tt tkd (by decide) nm0
            have e100 : R_80 b31 3 = b32 + 1 := (hF.r tkd (by decide) nm0 rfl).trans e33
            refine c_getn (k := 3) pk_X3 B hM t99 kd11 rfl (by decide) fl_X4_79 dX4_open_85 e100 ?_
            have e101 : I_80 b32 2 = x39 := (hF.i t34 (by decide) nm0 rfl).trans e40
            have hFt := hF
            have hMt := hM
            have t102 : T_80 b32 = 19 := hF.tt t34 (by decide) nm0
            have hv103 : (15 ≤ 19) ∧ (19 ≤ 23) := by first | omega | exact ⟨by first | omega | assumption | exact trivial, by first | omega | assumption | exact trivial⟩
            refine p_calli (c_runV (n := 0) (as := []) (rest := [.int (II v80_3)]) B hX hA hM hl.1 t102 kd19 rfl (k_Jx4a65c_size_8abf5 l D dA eA L_80 T_80 N_80 I_80 J R_80 b32 t102 hv103.1 hv103.2 _ _) ml_X4_40 nm_Jx4a65c_size_8abf5 ⟨rfl, rfl⟩ ⟨Nat.le_of_ble_eq_true rfl, Nat.le_of_ble_eq_true rfl⟩ dX4_open_88 rfl rfl (Nat.le_of_ble_eq_true rfl) ⟨by show zc80 + 0 ≤ (180 * (spn I R g_kl (I g_kl 2).toNat).toNat + 190); omega, by show zs80 + 0 ≤ (1000 * (spn I R g_kl (I g_kl 2).toNat).toNat + 1100); omega⟩) (fun x105 ix105 hp104 => ?_)
            have hp104a := hp104
            replace hp104a : I_80 b32 2 = x105 ∧ 0 ≤ x105 ∧ x105 ≤ 12 := hp104a
            obtain ⟨hp104a_0, hp104a_1, hp104a_2⟩ := hp104a
            clear hFt hMt
            refine q_cge (tgt := 131) B dX4_open_91 (by decide) (by unfold inr; omega) (by unfold inr; omega) (fun c106 => ?_) (fun c106 => ?_)
            · refine q_inc (lv' := [(2, .int (II (v16_2 + 1))), (0, .ref a_this), (1, .ref a_b), (3, .int (II v80_3))]) B dX4_open_131 hl (k := 2) rfl (by decide) rfl (fun ls hl => ?_)
              refine lv_goto (tgt := 16) B.1 B.2.1 dX4_open_134 (by decide) ?_
              obtain ⟨x107, e108⟩ : ∃ v, I g_kl 2 = v := ⟨_, rfl⟩
              have e109 : I_80 g_kl 2 = x107 := (hF.i p_1 (by decide) nm0 rfl).trans e108
              have hv110 : ((-2147483648 : Int) ≤ v16_2 + 1 ∧ (v16_2 + 1 : Int) ≤ 2147483647) ∧ (0 ≤ (v16_2 + 1)) ∧ ((v16_2 + 1) ≤ I g_kl 2) ∧ (R_80 a_this 2 = a_b + 1) ∧ ((zc80 : Int) ≤ 180 * spn I R g_kl ((v16_2 + 1)).toNat) ∧ ((zs80 : Int) ≤ 1000 * spn I R g_kl ((v16_2 + 1)).toNat) ∧ (0 ≤ 17 - (v16_2 + 1)) := by first | omega | exact ⟨by first | omega | assumption | exact trivial, by first | omega | assumption | exact trivial, by first | omega | assumption | exact trivial, by first | omega | assumption | exact trivial, by first | omega | assumption | exact trivial, by first | omega | assumption | exact trivial, by first | omega | assumption | exact trivial⟩
              exact IH16 (v16_2 + 1) L_80 T_80 N_80 I_80 R_80 zc80 zs80 _ _ ls hM hF (lv_sub hl [1, 2, 0] rfl) hv110.1 hv110.2.1 hv110.2.2.1 hv110.2.2.2.1 hv110.2.2.2.2.1 hv110.2.2.2.2.2.1 hv110.2.2.2.2.2.2 (by omega)
            · refine lv_aload_n B.1 B.2.1 dX4_open_94 rfl (lv_at hl 0 rfl) ?_
              refine lv_aload_n B.1 B.2.1 dX4_open_95 rfl (lv_at hl 0 rfl) ?_
              refine c_getn (k := 3) pk_X4 B hM t98 kd4 rfl (by decide) fl_X4_52 dX4_open_96 hLL80_2 ?_
              refine c_getn (k := 3) pk_X3 B hM t99 kd11 rfl (by decide) fl_X4_79 dX4_open_99 e100 ?_
              refine lv_iload_n B.1 B.2.1 dX4_open_102 rfl (lv_at hl 3 rfl) ?_
              have hFt := hF
              have hMt := hM
              have hv111 : ((-2147483648 : Int) ≤ v80_3 ∧ (v80_3 : Int) ≤ 2147483647) ∧ (15 ≤ 19) ∧ (19 ≤ 23) ∧ (0 ≤ v80_3) ∧ (v80_3 < I_80 b32 2) := by first | omega | exact ⟨by first | omega | assumption | exact trivial, by first | omega | assumption | exact trivial, by first | omega | assumption | exact trivial, by first | omega | assumption | exact trivial, by first | omega | assumption | exact trivial⟩
              refine p_callr (c_runV (n := 1) (as := [.int (II v80_3)]) (rest := [.ref a_this]) B hX hA hM hl.1 t102 kd19 rfl (k_Jx4a65c_get_915e3 l D dA eA L_80 T_80 N_80 I_80 J R_80 b32 t102 v80_3 hv111.1 hv111.2.1 hv111.2.2.1 hv111.2.2.2.1 hv111.2.2.2.2 _ _) ml_X4_46 nm_Jx4a65c_get_915e3 ⟨rfl, rfl⟩ ⟨Nat.le_of_ble_eq_true rfl, Nat.le_of_ble_eq_true rfl⟩ dX4_open_103 rfl rfl (Nat.le_of_ble_eq_true rfl) ⟨by show zc80 + 0 ≤ (180 * (spn I R g_kl (I g_kl 2).toNat).toNat + 190); omega, by show zs80 + 0 ≤ (1000 * (spn I R g_kl (I g_kl 2).toNat).toNat + 1100); omega⟩) (fun b113 hp112 => ?_)
              obtain ⟨tb113, hp112a⟩ := hp112
              replace hp112a : R_80 (R_80 b32 1 - 1) v80_3.toNat = b113 + 1 := hp112a
              clear hFt hMt
              refine c_cast B hM tb113 kd10 rfl cl_X4_68 dX4_open_106 ?_
              refine lv_iload_n B.1 B.2.1 dX4_open_109 rfl (lv_at hl 3 rfl) ?_
              have hFt := hF
              have hMt := hM
              refine z_callv hM hA (c_runV (n := 2) (as := [.ref b113, .int (II v80_3)]) (rest := []) B hX hA hM hl.1 t98 kd4 rfl (k_X4_turnTo l D dA eA L_80 T_80 N_80 I_80 J R_80 a_this t98 b113 tb113 v80_3 (by first | omega | assumption | exact trivial) _ _) ml_X4_60 nm_X4_turnTo ⟨rfl, rfl⟩ ⟨Nat.le_of_ble_eq_true rfl, Nat.le_of_ble_eq_true rfl⟩ dX4_open_110 rfl rfl (Nat.le_of_ble_eq_true rfl) ⟨by show zc80 + 0 ≤ (180 * (spn I R g_kl (I g_kl 2).toNat).toNat + 190); omega, by show zs80 + 0 ≤ (1000 * (spn I R g_kl (I g_kl 2).toNat).toNat + 1100); omega⟩) (fun L116 T117 N118 I119 J120 R121 dz122 dl123 H locs hp114 hMn => ?_)
              obtain ⟨yL116, yT117, yN118, yJ120, hFc124, hp114a⟩ := hp114
              obtain rfl := yL116.symm; obtain rfl := yT117.symm; obtain rfl := yN118.symm; obtain rfl := yJ120.symm
              replace hF : Fr mo_X4_open [] T N I J R T_80 N_80 I119 J R121 := hF.trans hFc124 (by decide) e20
              have hM := hMn
              clear hMn
              replace hp114a : I119 a_this 6 = 0 ∧ R121 a_this 4 = b113 + 1 := hp114a
              obtain ⟨hp114a_0, hp114a_1⟩ := hp114a
              clear hFt hMt
              refine lv_aload_n B.1 B.2.1 dX4_open_113 rfl (lv_at hl 0 rfl) ?_
              refine lv_aload_n B.1 B.2.1 dX4_open_114 rfl (lv_at hl 0 rfl) ?_
              refine c_getn (k := 4) pk_X4 B hM t98 kd4 rfl (by decide) fl_X4_64 dX4_open_115 hp114a_1 ?_
              obtain ⟨b125, e126, t127⟩ := g10_3 hM.2.2.2.2.2.2.1 tb113
              refine c_getn (k := 3) pk_X8 B hM tb113 kd10 rfl (by decide) fl_X4_67 dX4_open_118 e126 ?_
              refine q_con B dX4_open_121 ?_
              obtain ⟨b128, e129, t130⟩ := g10_4 hM.2.2.2.2.2.2.1 tb113
              obtain ⟨x131, e132⟩ : ∃ v, I119 b128 2 = v := ⟨_, rfl⟩
              have r133 : (0 : Int) ≤ x131 ∧ x131 ≤ 40 := by rw [← e132]; exact g21_2 hM.2.2.2.2.2.2.1 t130
              have hFt := hF
              have hMt := hM
              have e134 : R121 a_this 2 = a_b + 1 := (hFc124.r t98 (by decide) nm0 rfl).trans hLL80_1
              have e135 : R121 a_this 3 = b31 + 1 := (hFc124.r t98 (by decide) nm0 rfl).trans hLL80_2
              have t136 : T_80 a_b = 6 := hF.tt t_b (by decide) nm0
              have hv137 : ((-2147483648 : Int) ≤ 0 ∧ (0 : Int) ≤ 2147483647) ∧ (I119 a_this 6 ≤ 100) ∧ (0 ≤ (0 : Int)) := by first | omega | exact ⟨by first | omega | assumption | exact trivial, by first | omega | assumption | exact trivial, by first | omega | assumption | exact trivial⟩
              refine g_callv hM hA (c_runV (n := 2) (as := [.ref b125, .int (II 0)]) (rest := []) B hX hA hM hl.1 t98 kd4 rfl (k_X4_openUses l D dA eA L_80 T_80 N_80 I119 J R121 a_this t98 b125 t127 (0) hv137.1 a_b b31 b113 b128 (show R121 a_this 2 = a_b + 1 from e134) (show T_80 a_b = 6 from t136) (show R121 a_this 3 = b31 + 1 from e135) (show T_80 b31 = 11 from t99) (show R121 a_this 4 = b113 + 1 from hp114a_1) (show T_80 b113 = 10 from tb113) (show R121 b113 4 = b128 + 1 from e129) (show T_80 b128 = 21 from t130) hv137.2.1 hv137.2.2 _ _) ml_X4_72 nm_X4_openUses ⟨rfl, rfl⟩ ⟨Nat.le_of_ble_eq_true rfl, Nat.le_of_ble_eq_true rfl⟩ dX4_open_122 rfl rfl (Nat.le_of_ble_eq_true rfl) ⟨by show zc80 + ((100 - I119 a_this 6).toNat + 2 * (40 - I119 b128 2).toNat + 3) ≤ (180 * (spn I R g_kl (I g_kl 2).toNat).toNat + 190); omega, by show zs80 + (3 * (100 - I119 a_this 6).toNat + 13 * (40 - I119 b128 2).toNat + 3 * (60 - N_80 (R121 b128 1 - 1)) + 75) ≤ (1000 * (spn I R g_kl (I g_kl 2).toNat).toNat + 1100); omega⟩) (fun L140 T141 N142 I143 J144 R145 dz146 dl147 H locs hp138 hMn => ?_)
              obtain ⟨yJ144, hFc148, hp138a⟩ := hp138
              obtain rfl := yJ144.symm
              have t149 : T_80 g_kl = 18 := hF.tt p_1 (by decide) nm0
              have t150 : T_80 b45 = 10 := hF.tt t47 (by decide) nm0
              have t151 : T_80 b61 = 20 := hF.tt t63 (by decide) nm0
              have t152 : T_80 b65 = 21 := hF.tt t67 (by decide) nm0
              replace hF : Fr mo_X4_open [] T N I J R T141 N142 I143 J R145 := hF.trans hFc148 (by decide) e20
              have hM := hMn
              clear hMn
              replace hp138a : I119 a_this 6 ≤ I143 a_this 6 ∧ I143 a_this 6 ≤ 100 ∧ I119 b128 2 ≤ I143 b128 2 ∧ I143 b128 2 ≤ 40 ∧ (dz146 : Int) ≤ (I143 a_this 6 - I119 a_this 6) + 2 * (I143 b128 2 - I119 b128 2) ∧ (dl147 : Int) + 3 * ((N_80 (R121 b128 1 - 1) : Nat) : Int) ≤ 3 * (I143 a_this 6 - I119 a_this 6) + 13 * (I143 b128 2 - I119 b128 2) + 3 * ((N142 (R145 b128 1 - 1) : Nat) : Int) := hp138a
              obtain ⟨hp138a_0, hp138a_1, hp138a_2, hp138a_3, hp138a_4, hp138a_5⟩ := hp138a
              have e153 : R145 a_this 4 = b113 + 1 := (hFc148.r t98 (by decide) nm0 rfl).trans hp114a_1
              have e154 : R145 b113 4 = b128 + 1 := (hFc148.r tb113 (by decide) nm0 rfl).trans e129
              have t155 : T141 b128 = 21 := hFc148.tt t130 (by decide) nm0
              have hnb := edB hM.2.2.2.2.2.2.1 t155
              clear hFt hMt
              refine q_inc (lv' := [(3, .int (II (v80_3 + 1))), (0, .ref a_this), (1, .ref a_b), (2, .int (II v16_2))]) B dX4_open_125 hl (k := 3) rfl (by decide) rfl (fun ls hl => ?_)
              refine lv_goto (tgt := 80) B.1 B.2.1 dX4_open_128 (by decide) ?_
              have e156 : R145 a_this 2 = a_b + 1 := (hFc148.r t98 (by decide) nm0 rfl).trans e134
              have e157 : R145 a_this 3 = b31 + 1 := (hFc148.r t98 (by decide) nm0 rfl).trans e135
              have e158 : I143 b31 4 = x36 := (hF.i tkd (by decide) nm0 rfl).trans e37
              obtain ⟨x159, e160⟩ : ∃ v, I b32 2 = v := ⟨_, rfl⟩
              have e161 : I143 b32 2 = x159 := (hF.i t34 (by decide) nm0 rfl).trans e160
              have hv162 : ((-2147483648 : Int) ≤ v80_3 + 1 ∧ (v80_3 + 1 : Int) ≤ 2147483647) ∧ (R145 a_this 2 = a_b + 1) ∧ (R145 a_this 3 = b31 + 1) ∧ (I b31 4 ≤ (v80_3 + 1)) ∧ ((zc80 + dz146 : Int) ≤ 180 * (spn I R g_kl (v16_2).toNat + 1 + ((v80_3 + 1) - I b31 4))) ∧ ((zs80 + dl147 : Int) ≤ 1000 * (spn I R g_kl (v16_2).toNat + 1 + ((v80_3 + 1) - I b31 4))) ∧ ((v80_3 + 1) ≤ 12 ∧ ((v80_3 + 1) ≤ I b32 2 ∨ (v80_3 + 1) = I b31 4)) ∧ (0 ≤ 13 - (v80_3 + 1)) := by first | omega | exact ⟨by first | omega | assumption | exact trivial, by first | omega | assumption | exact trivial, by first | omega | assumption | exact trivial, by first | omega | assumption | exact trivial, by first | omega | assumption | exact trivial, by first | omega | assumption | exact trivial, by first | omega | assumption | exact trivial, by first | omega | assumption | exact trivial⟩
              exact IH80 (v80_3 + 1) L140 T141 N142 I143 R145 (zc80 + dz146) (zs80 + dl147) _ _ ls hM hF (lv_sub hl [1, 2, 3, 0] rfl) hv162.1 hv162.2.1 hv162.2.2.1 hv162.2.2.2.1 hv162.2.2.2.2.1 hv162.2.2.2.2.2.1 hv162.2.2.2.2.2.2.1 hv162.2.2.2.2.2.2.2 (by omega)
        have e163 : R85 a_this 2 = a_b + 1 := (hFc88.r t20 (by decide) nm0 rfl).trans e75
        have e164 : I83 b32 2 = x39 := (hF.i t34 (by decide) nm0 rfl).trans e40
        have hv165 : ((-2147483648 : Int) ≤ x36 ∧ (x36 : Int) ≤ 2147483647) ∧ (R85 a_this 2 = a_b + 1) ∧ (R85 a_this 3 = b31 + 1) ∧ (I b31 4 ≤ x36) ∧ ((zc16 + dz86 : Int) ≤ 180 * (spn I R g_kl (v16_2).toNat + 1 + (x36 - I b31 4))) ∧ ((zs16 + dl87 : Int) ≤ 1000 * (spn I R g_kl (v16_2).toNat + 1 + (x36 - I b31 4))) ∧ (x36 ≤ 12 ∧ (x36 ≤ I b32 2 ∨ x36 = I b31 4)) ∧ (0 ≤ 13 - x36) := by first | omega | exact ⟨by first | omega | assumption | exact trivial, by first | omega | assumption | exact trivial, by first | omega | assumption | exact trivial, by first | omega | assumption | exact trivial, by first | omega | assumption | exact trivial, by first | omega | assumption | exact trivial, by first | omega | assumption | exact trivial, by first | omega | assumption | exact trivial⟩
        exact LL80 (Int.toNat (13 - x36 + 1)) x36 L80 T81 N82 I83 R85 (zc16 + dz86) (zs16 + dl87) _ _ ls hM hF (lv_sub hl [1, 2, 3, 0] rfl) hv165.1 hv165.2.1 hv165.2.2.1 hv165.2.2.2.1 hv165.2.2.2.2.1 hv165.2.2.2.2.2.1 hv165.2.2.2.2.2.2.1 hv165.2.2.2.2.2.2.2 (by omega)
  have e166 : I14 g_kl 2 = x1 := (hF.i p_1 (by decide) nm0 rfl).trans e2
  have hv167 : ((-2147483648 : Int) ≤ 0 ∧ (0 : Int) ≤ 2147483647) ∧ (0 ≤ (0 : Int)) ∧ ((0 : Int) ≤ I g_kl 2) ∧ (R3 a_this 2 = a_b + 1) ∧ (0 ≤ 180 * spn I R g_kl ((0 : Int)).toNat) ∧ (0 ≤ 1000 * spn I R g_kl ((0 : Int)).toNat) ∧ (0 ≤ 17 - (0 : Int)) := by first | omega | exact ⟨by first | omega | assumption | exact trivial, by first | omega | assumption | exact trivial, by first | omega | assumption | exact trivial, by first | omega | assumption | exact trivial, by first | omega | assumption | exact trivial, by first | omega | assumption | exact trivial, by first | omega | assumption | exact trivial⟩
  exact LL16 (Int.toNat (17 - (0 : Int) + 1)) 0 L T N I14 R3 0 0 _ _ ls hM hF (lv_sub hl [1, 2, 0] rfl) hv167.1 hv167.2.1 hv167.2.2.1 hv167.2.2.2.1 hv167.2.2.2.2.1 hv167.2.2.2.2.2.1 hv167.2.2.2.2.2.2 (by omega)
