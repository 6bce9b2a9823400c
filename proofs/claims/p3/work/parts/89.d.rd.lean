def mo_X6_readSign : List Nat := [229, 230, 231, 225, 226]
set_option maxHeartbeats 1000000 in
set_option maxRecDepth 20000 in
theorem k_X6_readSign (l : Launch) (D : va_G) (dA : Nat → ClassId) (eA : Nat) (L : List Nat) (T N : Nat → Nat) (I : Nat → Nat → Int) (J : Nat → Nat → Int64) (R : Nat → Nat → Nat) (a_this : Nat) (t_this : T a_this = 7) (a_sign : Int) (i_sign : (-2147483648 : Int) ≤ a_sign ∧ a_sign ≤ 2147483647) (g_t : Nat) (g_s : Nat) (g_S : Nat → Int) (g_n : Int) (p_0 : R a_this 3 = g_t + 1) (p_1 : T g_t = 3) (p_2 : R g_t 0 = g_s + 1) (p_3 : T g_s = 62) (p_4 : I g_s = g_S) (p_5 : TKz g_S g_n) (p_6 : I a_this 5 ≤ g_n) (p_7 : g_S (I a_this 5).toNat = I a_this 6) (p_8 : a_sign ≠ 0) (p_9 : a_sign ≠ 1) : GC l yX6_readSign cX6_readSign 2 (some .boolean) ({ frames := 1, cells := 0, slots := 0, locals := 21 }) D dA eA L T N I J R [.ref a_this, .int (II a_sign)] 0 0 (gI (fun r L' T' N' I' J' R' dz dl => L' = L ∧ T' = T ∧ N' = N ∧ R' = R ∧ Fr mo_X6_readSign [] T N I J R T' N' I' J' R' ∧ (0 : Int) ≤ r ∧ r ≤ 1 ∧ (I' a_this 5 ≤ g_n ∧ g_S (I' a_this 5).toNat = I' a_this 6 ∧ I a_this 5 ≤ I' a_this 5 ∧ ((r = 0 ∧ I' a_this 1 ≠ 0) ∨ (r = 1 ∧ I' a_this 1 = I a_this 1 ∧ I a_this 5 + 1 ≤ I' a_this 5))))) := by
  generalize hPST : (gI (fun r L' T' N' I' J' R' dz dl => L' = L ∧ T' = T ∧ N' = N ∧ R' = R ∧ Fr mo_X6_readSign [] T N I J R T' N' I' J' R' ∧ (0 : Int) ≤ r ∧ r ≤ 1 ∧ (I' a_this 5 ≤ g_n ∧ g_S (I' a_this 5).toNat = I' a_this 6 ∧ I a_this 5 ≤ I' a_this 5 ∧ ((r = 0 ∧ I' a_this 1 ≠ 0) ∨ (r = 1 ∧ I' a_this 1 = I a_this 1 ∧ I a_this 5 + 1 ≤ I' a_this 5))))) = PST
  refine g_enter (own := RX6) (by decide) rfl (Nat.le_of_ble_eq_true rfl) (fun p e s m args below meth c ls hm B hX hM hl => ?_)
  have hC0 := hM.2.2.2.2.2.2.1
  have hW0 := hM.2.2.2
  have hF : Fr mo_X6_readSign [] T N I J R T N I J R := Fr.rf
  have hA : ∀ q, s.heap.size ≤ q → cF dA L T N I J R s.heap.size q := fun q h => Or.inr h
  have hl : lv_has ls 2 [(0, .ref a_this), (1, .int (II a_sign))] := hl
  obtain ⟨x1, e2⟩ : ∃ v, I a_this 5 = v := ⟨_, rfl⟩
  obtain ⟨x3, e4⟩ : ∃ v, I a_this 6 = v := ⟨_, rfl⟩
  have nz5 : g_S (x1).toNat = x3 := by have h9 := p_7; rw [e2, e4] at h9; exact h9
  obtain ⟨x6, e7⟩ : ∃ v, I a_this 1 = v := ⟨_, rfl⟩
  refine lv_aload_n B.1 B.2.1 dX6_readSign_0 rfl (lv_at hl 0 rfl) ?_
  have r8 : (-2147483648 : Int) ≤ x3 ∧ x3 ≤ 2147483647 := by rw [← e4]; exact g7_6 hM.2.2.2.2.2.2.1 t_this
  refine c_geti (k := 6) pk_X6 B hM t_this kd7 rfl (by decide) fl_X6_47 dX6_readSign_1 e4 ?_
  refine lv_iload_n B.1 B.2.1 dX6_readSign_4 rfl (lv_at hl 1 rfl) ?_
  refine q_ceq (tgt := 14) B dX6_readSign_5 (by decide) (by unfold inr; omega) (by unfold inr; omega) (fun c9 => ?_) (fun c9 => ?_)
  · refine lv_aload_n B.1 B.2.1 dX6_readSign_14 rfl (lv_at hl 0 rfl) ?_
    have hv10 : (TKz g_S g_n) ∧ (I a_this 5 ≤ g_n) := by first | omega | exact ⟨by first | omega | assumption | exact trivial, by first | omega | assumption | exact trivial⟩
    refine z_callv hM hA (c_runV (n := 0) (as := []) (rest := []) B hX hA hM hl.1 t_this kd7 rfl (k_X6_advance l D dA eA L T N I J R a_this t_this g_t g_s g_S g_n (show R a_this 3 = g_t + 1 from p_0) (show T g_t = 3 from p_1) (show R g_t 0 = g_s + 1 from p_2) (show T g_s = 62 from p_3) (show I g_s = g_S from p_4) hv10.1 hv10.2 (show g_S (I a_this 5).toNat = I a_this 6 from by rw [e2, e4]; first | assumption | omega) _ _) ml_X6_87 nm_X6_advance ⟨rfl, rfl⟩ ⟨Nat.le_of_ble_eq_true rfl, Nat.le_of_ble_eq_true rfl⟩ dX6_readSign_15 rfl rfl (Nat.le_of_ble_eq_true rfl) ⟨Nat.zero_le _, Nat.zero_le _⟩) (fun L13 T14 N15 I16 J17 R18 dz19 dl20 H locs hp11 hMn => ?_)
    obtain ⟨yL13, yT14, yN15, yR18, hFc21, hp11a⟩ := hp11
    obtain rfl := yL13.symm; obtain rfl := yT14.symm; obtain rfl := yN15.symm; obtain rfl := yR18.symm
    replace hF : Fr mo_X6_readSign [] T N I J R T N I16 J17 R := hF.trans hFc21 (by decide) e20
    have hM := hMn
    clear hMn
    replace hp11a : I16 a_this 5 ≤ g_n ∧ g_S (I16 a_this 5).toNat = I16 a_this 6 ∧ (((I a_this 6 = 0 ∨ I a_this 6 = 1) ∧ I16 a_this 5 = I a_this 5) ∨ (I16 a_this 5 = I a_this 5 + 1)) := hp11a
    obtain ⟨hp11a_0, hp11a_1, hp11a_2⟩ := hp11a
    obtain ⟨x22, e23⟩ : ∃ v, I16 a_this 5 = v := ⟨_, rfl⟩
    obtain ⟨x24, e25⟩ : ∃ v, I16 a_this 6 = v := ⟨_, rfl⟩
    have nz26 : g_S (x22).toNat = x24 := by have h9 := hp11a_1; rw [e23, e25] at h9; exact h9
    refine q_con B dX6_readSign_18 ?_
    have e27 : I16 a_this 1 = x6 := (hFc21.i t_this (by decide) nm0 rfl).trans e7
    refine g_zret B hM dX6_readSign_19 ⟨Nat.le_refl _, Nat.le_refl _⟩ (by omega) (by omega) ?_
    rw [← hPST]
    exact ⟨(1), rfl, by omega, rfl, rfl, rfl, rfl, hF, by omega, by omega, by first | omega | assumption | exact trivial, by show g_S (I16 a_this 5).toNat = I16 a_this 6; rw [e23, e25]; first | assumption | omega, by first | omega | assumption | exact trivial, by first | omega | assumption | exact trivial⟩
  · refine lv_aload_n B.1 B.2.1 dX6_readSign_8 rfl (lv_at hl 0 rfl) ?_
    refine q_con B dX6_readSign_9 ?_
    have hv28 : ((-2147483648 : Int) ≤ 2 ∧ (2 : Int) ≤ 2147483647) ∧ ((2 : Int) ≠ 0) := by first | omega | exact ⟨by first | omega | assumption | exact trivial, by first | omega | assumption | exact trivial⟩
    refine z_calli hM hA (c_runV (n := 1) (as := [.int (II 2)]) (rest := []) B hX hA hM hl.1 t_this kd7 rfl (k_X6_wrong l D dA eA L T N I J R a_this t_this (2) hv28.1 hv28.2 _ _) ml_X6_84 nm_X6_wrong ⟨rfl, rfl⟩ ⟨Nat.le_of_ble_eq_true rfl, Nat.le_of_ble_eq_true rfl⟩ dX6_readSign_10 rfl rfl (Nat.le_of_ble_eq_true rfl) ⟨Nat.zero_le _, Nat.zero_le _⟩) (fun x30 ix30 L31 T32 N33 I34 J35 R36 dz37 dl38 H locs hp29 hMn => ?_)
    obtain ⟨yL31, yT32, yN33, yJ35, yR36, hFc39, hp29a⟩ := hp29
    obtain rfl := yL31.symm; obtain rfl := yT32.symm; obtain rfl := yN33.symm; obtain rfl := yJ35.symm; obtain rfl := yR36.symm
    replace hF : Fr mo_X6_readSign [] T N I J R T N I34 J R := hF.trans hFc39 (by decide) e20
    have hM := hMn
    clear hMn
    replace hp29a : (0 : Int) ≤ x30 ∧ x30 ≤ 1 ∧ (x30 = 0 ∧ I34 a_this 1 ≠ 0) := hp29a
    obtain ⟨hp29a_0, hp29a_1, hp29a_2⟩ := hp29a
    obtain ⟨hp29a_2_0, hp29a_2_1⟩ := hp29a_2
    obtain ⟨x40, e41⟩ : ∃ v, I34 a_this 1 = v := ⟨_, rfl⟩
    have e42 : I34 a_this 5 = x1 := (hFc39.i t_this (by decide) nm0 rfl).trans e2
    have e43 : I34 a_this 6 = x3 := (hFc39.i t_this (by decide) nm0 rfl).trans e4
    refine g_zret B hM dX6_readSign_13 ⟨Nat.le_refl _, Nat.le_refl _⟩ (by omega) (by omega) ?_
    rw [← hPST]
    exact ⟨x30, rfl, by omega, rfl, rfl, rfl, rfl, hF, by omega, by omega, by first | omega | assumption | exact trivial, by show g_S (I34 a_this 5).toNat = I34 a_this 6; rw [e42, e43]; first | assumption | omega, by first | omega | assumption | exact trivial, by first | omega | assumption | exact trivial⟩

def mo_X6_readHead : List Nat := [229, 230, 231, 225, 226, 2272, 2304, 203]
set_option maxHeartbeats 1000000 in
set_option maxRecDepth 20000 in
theorem k_X6_readHead (l : Launch) (D : va_G) (dA : Nat → ClassId) (eA : Nat) (L : List Nat) (T N : Nat → Nat) (I : Nat → Nat → Int) (J : Nat → Nat → Int64) (R : Nat → Nat → Nat) (a_this : Nat) (t_this : T a_this = 7) (a_k : Int) (i_k : (-2147483648 : Int) ≤ a_k ∧ a_k ≤ 2147483647) (a_n : Int) (i_n : (-2147483648 : Int) ≤ a_n ∧ a_n ≤ 2147483647) (a_most : Int) (i_most : (-2147483648 : Int) ≤ a_most ∧ a_most ≤ 2147483647) (g_t : Nat) (g_s : Nat) (g_S : Nat → Int) (g_n : Int) (p_0 : R a_this 3 = g_t + 1) (p_1 : T g_t = 3) (p_2 : R g_t 0 = g_s + 1) (p_3 : T g_s = 62) (p_4 : I g_s = g_S) (p_5 : TKz g_S g_n) (p_6 : I a_this 5 ≤ g_n) (p_7 : g_S (I a_this 5).toNat = I a_this 6) : GC l yX6_readHead cX6_readHead 4 (some .boolean) ({ frames := 1, cells := 0, slots := 0, locals := 23 }) D dA eA L T N I J R [.ref a_this, .int (II a_k), .int (II a_n), .int (II a_most)] 0 0 (gI (fun r L' T' N' I' J' R' dz dl => L' = L ∧ T' = T ∧ N' = N ∧ R' = R ∧ Fr mo_X6_readHead [] T N I J R T' N' I' J' R' ∧ (0 : Int) ≤ r ∧ r ≤ 1 ∧ (I' a_this 5 ≤ g_n ∧ g_S (I' a_this 5).toNat = I' a_this 6 ∧ I a_this 5 ≤ I' a_this 5 ∧ ((r = 0 ∧ I' a_this 1 ≠ 0) ∨ (r = 1 ∧ I' a_this 1 = I a_this 1 ∧ I a_this 5 + 1 ≤ I' a_this 5)) ∧ (r = 0 ∨ a_n < a_most)))) := by
  generalize hPST : (gI (fun r L' T' N' I' J' R' dz dl => L' = L ∧ T' = T ∧ N' = N ∧ R' = R ∧ Fr mo_X6_readHead [] T N I J R T' N' I' J' R' ∧ (0 : Int) ≤ r ∧ r ≤ 1 ∧ (I' a_this 5 ≤ g_n ∧ g_S (I' a_this 5).toNat = I' a_this 6 ∧ I a_this 5 ≤ I' a_this 5 ∧ ((r = 0 ∧ I' a_this 1 ≠ 0) ∨ (r = 1 ∧ I' a_this 1 = I a_this 1 ∧ I a_this 5 + 1 ≤ I' a_this 5)) ∧ (r = 0 ∨ a_n < a_most)))) = PST
  refine g_enter (own := RX6) (by decide) rfl (Nat.le_of_ble_eq_true rfl) (fun p e s m args below meth c ls hm B hX hM hl => ?_)
  have hC0 := hM.2.2.2.2.2.2.1
  have hW0 := hM.2.2.2
  have hF : Fr mo_X6_readHead [] T N I J R T N I J R := Fr.rf
  have hA : ∀ q, s.heap.size ≤ q → cF dA L T N I J R s.heap.size q := fun q h => Or.inr h
  have hl : lv_has ls 4 [(0, .ref a_this), (1, .int (II a_k)), (2, .int (II a_n)), (3, .int (II a_most))] := hl
  obtain ⟨x1, e2⟩ : ∃ v, I a_this 5 = v := ⟨_, rfl⟩
  obtain ⟨x3, e4⟩ : ∃ v, I a_this 6 = v := ⟨_, rfl⟩
  have nz5 : g_S (x1).toNat = x3 := by have h9 := p_7; rw [e2, e4] at h9; exact h9
  obtain ⟨x6, e7⟩ : ∃ v, I a_this 1 = v := ⟨_, rfl⟩
  refine lv_iload_n B.1 B.2.1 dX6_readHead_0 rfl (lv_at hl 2 rfl) ?_
  refine lv_iload_n B.1 B.2.1 dX6_readHead_1 rfl (lv_at hl 3 rfl) ?_
  refine q_clt (tgt := 11) B dX6_readHead_2 (by decide) (by unfold inr; omega) (by unfold inr; omega) (fun c8 => ?_) (fun c8 => ?_)
  · refine lv_aload_n B.1 B.2.1 dX6_readHead_11 rfl (lv_at hl 0 rfl) ?_
    have hv9 : (TKz g_S g_n) ∧ (I a_this 5 ≤ g_n) := by first | omega | exact ⟨by first | omega | assumption | exact trivial, by first | omega | assumption | exact trivial⟩
    refine z_callv hM hA (c_runV (n := 0) (as := []) (rest := []) B hX hA hM hl.1 t_this kd7 rfl (k_X6_advance l D dA eA L T N I J R a_this t_this g_t g_s g_S g_n (show R a_this 3 = g_t + 1 from p_0) (show T g_t = 3 from p_1) (show R g_t 0 = g_s + 1 from p_2) (show T g_s = 62 from p_3) (show I g_s = g_S from p_4) hv9.1 hv9.2 (show g_S (I a_this 5).toNat = I a_this 6 from by rw [e2, e4]; first | assumption | omega) _ _) ml_X6_87 nm_X6_advance ⟨rfl, rfl⟩ ⟨Nat.le_of_ble_eq_true rfl, Nat.le_of_ble_eq_true rfl⟩ dX6_readHead_12 rfl rfl (Nat.le_of_ble_eq_true rfl) ⟨Nat.zero_le _, Nat.zero_le _⟩) (fun L12 T13 N14 I15 J16 R17 dz18 dl19 H locs hp10 hMn => ?_)
    obtain ⟨yL12, yT13, yN14, yR17, hFc20, hp10a⟩ := hp10
    obtain rfl := yL12.symm; obtain rfl := yT13.symm; obtain rfl := yN14.symm; obtain rfl := yR17.symm
    replace hF : Fr mo_X6_readHead [] T N I J R T N I15 J16 R := hF.trans hFc20 (by decide) e20
    have hM := hMn
    clear hMn
    replace hp10a : I15 a_this 5 ≤ g_n ∧ g_S (I15 a_this 5).toNat = I15 a_this 6 ∧ (((I a_this 6 = 0 ∨ I a_this 6 = 1) ∧ I15 a_this 5 = I a_this 5) ∨ (I15 a_this 5 = I a_this 5 + 1)) := hp10a
    obtain ⟨hp10a_0, hp10a_1, hp10a_2⟩ := hp10a
    obtain ⟨x21, e22⟩ : ∃ v, I15 a_this 5 = v := ⟨_, rfl⟩
    obtain ⟨x23, e24⟩ : ∃ v, I15 a_this 6 = v := ⟨_, rfl⟩
    have nz25 : g_S (x21).toNat = x23 := by have h9 := hp10a_1; rw [e22, e24] at h9; exact h9
    refine lv_aload_n B.1 B.2.1 dX6_readHead_15 rfl (lv_at hl 0 rfl) ?_
    have r26 : (-2147483648 : Int) ≤ x23 ∧ x23 ≤ 2147483647 := by rw [← e24]; exact g7_6 hM.2.2.2.2.2.2.1 t_this
    refine c_geti (k := 6) pk_X6 B hM t_this kd7 rfl (by decide) fl_X6_47 dX6_readHead_16 e24 ?_
    refine q_con B dX6_readHead_19 ?_
    refine q_ceq (tgt := 29) B dX6_readHead_20 (by decide) (by unfold inr; omega) (by unfold inr; omega) (fun c27 => ?_) (fun c27 => ?_)
    · refine lv_aload_n B.1 B.2.1 dX6_readHead_29 rfl (lv_at hl 0 rfl) ?_
      obtain ⟨w28, e29⟩ : ∃ v, J16 a_this 7 = v := ⟨_, rfl⟩
      refine c_getl (k := 7) pk_X6 B hM t_this kd7 rfl (by decide) fl_X6_54 dX6_readHead_30 e29 ?_
      refine p_calli (c_runS (n := 1) (as := [.long w28]) (rest := []) B hX hA hM hl.1 (k_X0_builtIn l D dA eA L T N I15 J16 R w28 _ _) ml_X6_90 nm_X0_builtIn ⟨rfl, rfl⟩ ⟨Nat.le_of_ble_eq_true rfl, Nat.le_of_ble_eq_true rfl⟩ dX6_readHead_33 rfl rfl (Nat.le_of_ble_eq_true rfl) ⟨Nat.zero_le _, Nat.zero_le _⟩) (fun x31 ix31 hp30 => ?_)
      have hp30a := hp30
      replace hp30a : 0 ≤ x31 ∧ x31 ≤ 8 := hp30a
      obtain ⟨hp30a_0, hp30a_1⟩ := hp30a
      refine q_ine (tgt := 54) B dX6_readHead_36 (by decide) (by unfold inr; omega) (fun c32 => ?_) (fun c32 => ?_)
      · refine lv_aload_n B.1 B.2.1 dX6_readHead_54 rfl (lv_at hl 0 rfl) ?_
        refine q_con B dX6_readHead_55 ?_
        have hv33 : ((-2147483648 : Int) ≤ 3 ∧ (3 : Int) ≤ 2147483647) ∧ ((3 : Int) ≠ 0) := by first | omega | exact ⟨by first | omega | assumption | exact trivial, by first | omega | assumption | exact trivial⟩
        refine z_calli hM hA (c_runV (n := 1) (as := [.int (II 3)]) (rest := []) B hX hA hM hl.1 t_this kd7 rfl (k_X6_wrong l D dA eA L T N I15 J16 R a_this t_this (3) hv33.1 hv33.2 _ _) ml_X6_84 nm_X6_wrong ⟨rfl, rfl⟩ ⟨Nat.le_of_ble_eq_true rfl, Nat.le_of_ble_eq_true rfl⟩ dX6_readHead_56 rfl rfl (Nat.le_of_ble_eq_true rfl) ⟨Nat.zero_le _, Nat.zero_le _⟩) (fun x35 ix35 L36 T37 N38 I39 J40 R41 dz42 dl43 H locs hp34 hMn => ?_)
        obtain ⟨yL36, yT37, yN38, yJ40, yR41, hFc44, hp34a⟩ := hp34
        obtain rfl := yL36.symm; obtain rfl := yT37.symm; obtain rfl := yN38.symm; obtain rfl := yJ40.symm; obtain rfl := yR41.symm
        replace hF : Fr mo_X6_readHead [] T N I J R T N I39 J16 R := hF.trans hFc44 (by decide) e20
        have hM := hMn
        clear hMn
        replace hp34a : (0 : Int) ≤ x35 ∧ x35 ≤ 1 ∧ (x35 = 0 ∧ I39 a_this 1 ≠ 0) := hp34a
        obtain ⟨hp34a_0, hp34a_1, hp34a_2⟩ := hp34a
        obtain ⟨hp34a_2_0, hp34a_2_1⟩ := hp34a_2
        have e45 : I15 a_this 1 = x6 := (hFc20.i t_this (by decide) nm0 rfl).trans e7
        obtain ⟨x46, e47⟩ : ∃ v, I39 a_this 1 = v := ⟨_, rfl⟩
        have e48 : I39 a_this 5 = x21 := (hFc44.i t_this (by decide) nm0 rfl).trans e22
        have e49 : I39 a_this 6 = x23 := (hFc44.i t_this (by decide) nm0 rfl).trans e24
        refine g_zret B hM dX6_readHead_59 ⟨Nat.le_refl _, Nat.le_refl _⟩ (by omega) (by omega) ?_
        rw [← hPST]
        exact ⟨x35, rfl, by omega, rfl, rfl, rfl, rfl, hF, by omega, by omega, by first | omega | assumption | exact trivial, by show g_S (I39 a_this 5).toNat = I39 a_this 6; rw [e48, e49]; first | assumption | omega, by first | omega | assumption | exact trivial, by first | omega | assumption | exact trivial, by first | omega | assumption | exact trivial⟩
      · refine lv_aload_n B.1 B.2.1 dX6_readHead_39 rfl (lv_at hl 0 rfl) ?_
        obtain ⟨b50, e51, t52⟩ := g7_0 hC0 t_this
        refine c_getn (k := 0) pk_X6 B hM t_this kd7 rfl (by decide) fl_X6_22 dX6_readHead_40 e51 ?_
        refine lv_aload_n B.1 B.2.1 dX6_readHead_43 rfl (lv_at hl 0 rfl) ?_
        refine c_getl (k := 7) pk_X6 B hM t_this kd7 rfl (by decide) fl_X6_54 dX6_readHead_44 e29 ?_
        refine p_calli (c_runV (n := 1) (as := [.long w28]) (rest := []) B hX hA hM hl.1 t52 kd6 rfl (k_X0_find l D dA eA L T N I15 J16 R b50 t52 w28 _ _) ml_X6_94 nm_X0_find ⟨rfl, rfl⟩ ⟨Nat.le_of_ble_eq_true rfl, Nat.le_of_ble_eq_true rfl⟩ dX6_readHead_47 rfl rfl (Nat.le_of_ble_eq_true rfl) ⟨Nat.zero_le _, Nat.zero_le _⟩) (fun x54 ix54 hp53 => ?_)
        have hp53a := hp53
        clear hp53a
        refine q_con B dX6_readHead_50 ?_
        refine q_ceq (tgt := 60) B dX6_readHead_51 (by decide) (by unfold inr; omega) (by unfold inr; omega) (fun c55 => ?_) (fun c55 => ?_)
        · refine lv_aload_n B.1 B.2.1 dX6_readHead_60 rfl (lv_at hl 0 rfl) ?_
          refine c_getn (k := 0) pk_X6 B hM t_this kd7 rfl (by decide) fl_X6_22 dX6_readHead_61 e51 ?_
          refine lv_aload_n B.1 B.2.1 dX6_readHead_64 rfl (lv_at hl 0 rfl) ?_
          refine c_getl (k := 7) pk_X6 B hM t_this kd7 rfl (by decide) fl_X6_54 dX6_readHead_65 e29 ?_
          refine lv_iload_n B.1 B.2.1 dX6_readHead_68 rfl (lv_at hl 1 rfl) ?_
          refine q_bip B dX6_readHead_69 (by decide) ?_
          refine q_mul B dX6_readHead_71 ?_
          refine q_wrap (fun x56 ix56 => ?_)
          refine lv_iload_n B.1 B.2.1 dX6_readHead_72 rfl (lv_at hl 2 rfl) ?_
          refine q_add B dX6_readHead_73 ?_
          refine q_wrap (fun x57 ix57 => ?_)
          refine z_callv hM hA (c_runV (n := 2) (as := [.long w28, .int (II x57)]) (rest := []) B hX hA hM hl.1 t52 kd6 rfl (k_X0_tell l D dA eA L T N I15 J16 R b50 t52 w28 x57 (by first | omega | assumption | exact trivial) _ _) ml_X6_97 nm_X0_tell ⟨rfl, rfl⟩ ⟨Nat.le_of_ble_eq_true rfl, Nat.le_of_ble_eq_true rfl⟩ dX6_readHead_74 rfl rfl (Nat.le_of_ble_eq_true rfl) ⟨Nat.zero_le _, Nat.zero_le _⟩) (fun L60 T61 N62 I63 J64 R65 dz66 dl67 H locs hp58 hMn => ?_)
          obtain ⟨yL60, yT61, yN62, yR65, hFc68, hp58a⟩ := hp58
          obtain rfl := yL60.symm; obtain rfl := yT61.symm; obtain rfl := yN62.symm; obtain rfl := yR65.symm
          replace hF : Fr mo_X6_readHead [] T N I J R T N I63 J64 R := hF.trans hFc68 (by decide) e20
          have hM := hMn
          clear hMn
          clear hp58a
          refine lv_aload_n B.1 B.2.1 dX6_readHead_77 rfl (lv_at hl 0 rfl) ?_
          have e69 : I63 a_this 5 = x21 := (hFc68.i t_this (by decide) nm0 rfl).trans e22
          have e70 : I63 a_this 6 = x23 := (hFc68.i t_this (by decide) nm0 rfl).trans e24
          have hv71 : (TKz g_S g_n) ∧ (I63 a_this 5 ≤ g_n) := by first | omega | exact ⟨by first | omega | assumption | exact trivial, by first | omega | assumption | exact trivial⟩
          refine z_callv hM hA (c_runV (n := 0) (as := []) (rest := []) B hX hA hM hl.1 t_this kd7 rfl (k_X6_advance l D dA eA L T N I63 J64 R a_this t_this g_t g_s g_S g_n (show R a_this 3 = g_t + 1 from p_0) (show T g_t = 3 from p_1) (show R g_t 0 = g_s + 1 from p_2) (show T g_s = 62 from p_3) (show I63 g_s = g_S from ((Fr.irow hF p_3 (by decide) nm0 (by decide)).trans p_4)) hv71.1 hv71.2 (show g_S (I63 a_this 5).toNat = I63 a_this 6 from by rw [e69, e70]; first | assumption | omega) _ _) ml_X6_87 nm_X6_advance ⟨rfl, rfl⟩ ⟨Nat.le_of_ble_eq_true rfl, Nat.le_of_ble_eq_true rfl⟩ dX6_readHead_78 rfl rfl (Nat.le_of_ble_eq_true rfl) ⟨Nat.zero_le _, Nat.zero_le _⟩) (fun L74 T75 N76 I77 J78 R79 dz80 dl81 H locs hp72 hMn => ?_)
          obtain ⟨yL74, yT75, yN76, yR79, hFc82, hp72a⟩ := hp72
          obtain rfl := yL74.symm; obtain rfl := yT75.symm; obtain rfl := yN76.symm; obtain rfl := yR79.symm
          replace hF : Fr mo_X6_readHead [] T N I J R T N I77 J78 R := hF.trans hFc82 (by decide) e20
          have hM := hMn
          clear hMn
          replace hp72a : I77 a_this 5 ≤ g_n ∧ g_S (I77 a_this 5).toNat = I77 a_this 6 ∧ (((I63 a_this 6 = 0 ∨ I63 a_this 6 = 1) ∧ I77 a_this 5 = I63 a_this 5) ∨ (I77 a_this 5 = I63 a_this 5 + 1)) := hp72a
          obtain ⟨hp72a_0, hp72a_1, hp72a_2⟩ := hp72a
          obtain ⟨x83, e84⟩ : ∃ v, I77 a_this 5 = v := ⟨_, rfl⟩
          obtain ⟨x85, e86⟩ : ∃ v, I77 a_this 6 = v := ⟨_, rfl⟩
          have nz87 : g_S (x83).toNat = x85 := by have h9 := hp72a_1; rw [e84, e86] at h9; exact h9
          refine q_con B dX6_readHead_81 ?_
          have e88 : I15 a_this 1 = x6 := (hFc20.i t_this (by decide) nm0 rfl).trans e7
          have e89 : I63 a_this 1 = x6 := (hFc68.i t_this (by decide) nm0 rfl).trans e88
          have e90 : I77 a_this 1 = x6 := (hFc82.i t_this (by decide) nm0 rfl).trans e89
          refine g_zret B hM dX6_readHead_82 ⟨Nat.le_refl _, Nat.le_refl _⟩ (by omega) (by omega) ?_
          rw [← hPST]
          exact ⟨(1), rfl, by omega, rfl, rfl, rfl, rfl, hF, by omega, by omega, by first | omega | assumption | exact trivial, by show g_S (I77 a_this 5).toNat = I77 a_this 6; rw [e84, e86]; first | assumption | omega, by first | omega | assumption | exact trivial, by first | omega | assumption | exact trivial, by first | omega | assumption | exact trivial⟩
        · refine lv_aload_n B.1 B.2.1 dX6_readHead_54 rfl (lv_at hl 0 rfl) ?_
          refine q_con B dX6_readHead_55 ?_
          have hv91 : ((-2147483648 : Int) ≤ 3 ∧ (3 : Int) ≤ 2147483647) ∧ ((3 : Int) ≠ 0) := by first | omega | exact ⟨by first | omega | assumption | exact trivial, by first | omega | assumption | exact trivial⟩
          refine z_calli hM hA (c_runV (n := 1) (as := [.int (II 3)]) (rest := []) B hX hA hM hl.1 t_this kd7 rfl (k_X6_wrong l D dA eA L T N I15 J16 R a_this t_this (3) hv91.1 hv91.2 _ _) ml_X6_84 nm_X6_wrong ⟨rfl, rfl⟩ ⟨Nat.le_of_ble_eq_true rfl, Nat.le_of_ble_eq_true rfl⟩ dX6_readHead_56 rfl rfl (Nat.le_of_ble_eq_true rfl) ⟨Nat.zero_le _, Nat.zero_le _⟩) (fun x93 ix93 L94 T95 N96 I97 J98 R99 dz100 dl101 H locs hp92 hMn => ?_)
          obtain ⟨yL94, yT95, yN96, yJ98, yR99, hFc102, hp92a⟩ := hp92
          obtain rfl := yL94.symm; obtain rfl := yT95.symm; obtain rfl := yN96.symm; obtain rfl := yJ98.symm; obtain rfl := yR99.symm
          replace hF : Fr mo_X6_readHead [] T N I J R T N I97 J16 R := hF.trans hFc102 (by decide) e20
          have hM := hMn
          clear hMn
          replace hp92a : (0 : Int) ≤ x93 ∧ x93 ≤ 1 ∧ (x93 = 0 ∧ I97 a_this 1 ≠ 0) := hp92a
          obtain ⟨hp92a_0, hp92a_1, hp92a_2⟩ := hp92a
          obtain ⟨hp92a_2_0, hp92a_2_1⟩ := hp92a_2
          have e103 : I15 a_this 1 = x6 := (hFc20.i t_this (by decide) nm0 rfl).trans e7
          obtain ⟨x104, e105⟩ : ∃ v, I97 a_this 1 = v := ⟨_, rfl⟩
          have e106 : I97 a_this 5 = x21 := (hFc102.i t_this (by decide) nm0 rfl).trans e22
          have e107 : I97 a_this 6 = x23 := (hFc102.i t_this (by decide) nm0 rfl).trans e24
          refine g_zret B hM dX6_readHead_59 ⟨Nat.le_refl _, Nat.le_refl _⟩ (by omega) (by omega) ?_
          rw [← hPST]
          exact ⟨x93, rfl, by omega, rfl, rfl, rfl, rfl, hF, by omega, by omega, by first | omega | assumption | exact trivial, by show g_S (I97 a_this 5).toNat = I97 a_this 6; rw [e106, e107]; first | assumption | omega, by first | omega | assumption | exact trivial, by first | omega | assumption | exact trivial, by first | omega | assumption | exact trivial⟩
    · refine lv_aload_n B.1 B.2.1 dX6_readHead_23 rfl (lv_at hl 0 rfl) ?_
      refine q_con B dX6_readHead_24 ?_
      have hv108 : ((-2147483648 : Int) ≤ 2 ∧ (2 : Int) ≤ 2147483647) ∧ ((2 : Int) ≠ 0) := by first | omega | exact ⟨by first | omega | assumption | exact trivial, by first | omega | assumption | exact trivial⟩
      refine z_calli hM hA (c_runV (n := 1) (as := [.int (II 2)]) (rest := []) B hX hA hM hl.1 t_this kd7 rfl (k_X6_wrong l D dA eA L T N I15 J16 R a_this t_this (2) hv108.1 hv108.2 _ _) ml_X6_84 nm_X6_wrong ⟨rfl, rfl⟩ ⟨Nat.le_of_ble_eq_true rfl, Nat.le_of_ble_eq_true rfl⟩ dX6_readHead_25 rfl rfl (Nat.le_of_ble_eq_true rfl) ⟨Nat.zero_le _, Nat.zero_le _⟩) (fun x110 ix110 L111 T112 N113 I114 J115 R116 dz117 dl118 H locs hp109 hMn => ?_)
      obtain ⟨yL111, yT112, yN113, yJ115, yR116, hFc119, hp109a⟩ := hp109
      obtain rfl := yL111.symm; obtain rfl := yT112.symm; obtain rfl := yN113.symm; obtain rfl := yJ115.symm; obtain rfl := yR116.symm
      replace hF : Fr mo_X6_readHead [] T N I J R T N I114 J16 R := hF.trans hFc119 (by decide) e20
      have hM := hMn
      clear hMn
      replace hp109a : (0 : Int) ≤ x110 ∧ x110 ≤ 1 ∧ (x110 = 0 ∧ I114 a_this 1 ≠ 0) := hp109a
      obtain ⟨hp109a_0, hp109a_1, hp109a_2⟩ := hp109a
      obtain ⟨hp109a_2_0, hp109a_2_1⟩ := hp109a_2
      have e120 : I15 a_this 1 = x6 := (hFc20.i t_this (by decide) nm0 rfl).trans e7
      obtain ⟨x121, e122⟩ : ∃ v, I114 a_this 1 = v := ⟨_, rfl⟩
      have e123 : I114 a_this 5 = x21 := (hFc119.i t_this (by decide) nm0 rfl).trans e22
      have e124 : I114 a_this 6 = x23 := (hFc119.i t_this (by decide) nm0 rfl).trans e24
      refine g_zret B hM dX6_readHead_28 ⟨Nat.le_refl _, Nat.le_refl _⟩ (by omega) (by omega) ?_
      rw [← hPST]
      exact ⟨x110, rfl, by omega, rfl, rfl, rfl, rfl, hF, by omega, by omega, by first | omega | assumption | exact trivial, by show g_S (I114 a_this 5).toNat = I114 a_this 6; rw [e123, e124]; first | assumption | omega, by first | omega | assumption | exact trivial, by first | omega | assumption | exact trivial, by first | omega | assumption | exact trivial⟩
  · refine lv_aload_n B.1 B.2.1 dX6_readHead_5 rfl (lv_at hl 0 rfl) ?_
    refine q_con B dX6_readHead_6 ?_
    have hv125 : ((-2147483648 : Int) ≤ 2 ∧ (2 : Int) ≤ 2147483647) ∧ ((2 : Int) ≠ 0) := by first | omega | exact ⟨by first | omega | assumption | exact trivial, by first | omega | assumption | exact trivial⟩
    refine z_calli hM hA (c_runV (n := 1) (as := [.int (II 2)]) (rest := []) B hX hA hM hl.1 t_this kd7 rfl (k_X6_wrong l D dA eA L T N I J R a_this t_this (2) hv125.1 hv125.2 _ _) ml_X6_84 nm_X6_wrong ⟨rfl, rfl⟩ ⟨Nat.le_of_ble_eq_true rfl, Nat.le_of_ble_eq_true rfl⟩ dX6_readHead_7 rfl rfl (Nat.le_of_ble_eq_true rfl) ⟨Nat.zero_le _, Nat.zero_le _⟩) (fun x127 ix127 L128 T129 N130 I131 J132 R133 dz134 dl135 H locs hp126 hMn => ?_)
    obtain ⟨yL128, yT129, yN130, yJ132, yR133, hFc136, hp126a⟩ := hp126
    obtain rfl := yL128.symm; obtain rfl := yT129.symm; obtain rfl := yN130.symm; obtain rfl := yJ132.symm; obtain rfl := yR133.symm
    replace hF : Fr mo_X6_readHead [] T N I J R T N I131 J R := hF.trans hFc136 (by decide) e20
    have hM := hMn
    clear hMn
    replace hp126a : (0 : Int) ≤ x127 ∧ x127 ≤ 1 ∧ (x127 = 0 ∧ I131 a_this 1 ≠ 0) := hp126a
    obtain ⟨hp126a_0, hp126a_1, hp126a_2⟩ := hp126a
    obtain ⟨hp126a_2_0, hp126a_2_1⟩ := hp126a_2
    obtain ⟨x137, e138⟩ : ∃ v, I131 a_this 1 = v := ⟨_, rfl⟩
    have e139 : I131 a_this 5 = x1 := (hFc136.i t_this (by decide) nm0 rfl).trans e2
    have e140 : I131 a_this 6 = x3 := (hFc136.i t_this (by decide) nm0 rfl).trans e4
    refine g_zret B hM dX6_readHead_10 ⟨Nat.le_refl _, Nat.le_refl _⟩ (by omega) (by omega) ?_
    rw [← hPST]
    exact ⟨x127, rfl, by omega, rfl, rfl, rfl, rfl, hF, by omega, by omega, by first | omega | assumption | exact trivial, by show g_S (I131 a_this 5).toNat = I131 a_this 6; rw [e139, e140]; first | assumption | omega, by first | omega | assumption | exact trivial, by first | omega | assumption | exact trivial, by first | omega | assumption | exact trivial⟩

def mo_X6_readReference : List Nat := [225, 226]
set_option maxHeartbeats 1000000 in
set_option maxRecDepth 20000 in
theorem k_X6_readReference (l : Launch) (D : va_G) (dA : Nat → ClassId) (eA : Nat) (L : List Nat) (T N : Nat → Nat) (I : Nat → Nat → Int) (J : Nat → Nat → Int64) (R : Nat → Nat → Nat) (a_this : Nat) (t_this : T a_this = 7) (a_k : Int) (i_k : (-2147483648 : Int) ≤ a_k ∧ a_k ≤ 2147483647) (p_0 : 1 ≤ a_k) : GC l yX6_readReference cX6_readReference 4 (some .int) ({ frames := 1, cells := 0, slots := 0, locals := 23 }) D dA eA L T N I J R [.ref a_this, .int (II a_k)] 0 0 (gI (fun r L' T' N' I' J' R' dz dl => L' = L ∧ T' = T ∧ N' = N ∧ J' = J ∧ R' = R ∧ Fr mo_X6_readReference [] T N I J R T' N' I' J' R' ∧ (((r = -1 ∧ I' a_this 1 ≠ 0) ∨ (0 ≤ r ∧ r ≤ 99 ∧ I' a_this 1 = I a_this 1))))) := by
  generalize hPST : (gI (fun r L' T' N' I' J' R' dz dl => L' = L ∧ T' = T ∧ N' = N ∧ J' = J ∧ R' = R ∧ Fr mo_X6_readReference [] T N I J R T' N' I' J' R' ∧ (((r = -1 ∧ I' a_this 1 ≠ 0) ∨ (0 ≤ r ∧ r ≤ 99 ∧ I' a_this 1 = I a_this 1))))) = PST
  refine g_enter (own := RX6) (by decide) rfl (Nat.le_of_ble_eq_true rfl) (fun p e s m args below meth c ls hm B hX hM hl => ?_)
  have hC0 := hM.2.2.2.2.2.2.1
  have hW0 := hM.2.2.2
  have hF : Fr mo_X6_readReference [] T N I J R T N I J R := Fr.rf
  have hA : ∀ q, s.heap.size ≤ q → cF dA L T N I J R s.heap.size q := fun q h => Or.inr h
  have hl : lv_has ls 4 [(0, .ref a_this), (1, .int (II a_k))] := hl
  obtain ⟨x1, e2⟩ : ∃ v, I a_this 1 = v := ⟨_, rfl⟩
  refine q_con B dX6_readReference_0 ?_
  refine lv_istore_n (lv' := [(2, .int (II 0)), (0, .ref a_this), (1, .int (II a_k))]) B.1 B.2.1 dX6_readReference_1 rfl hl (by decide) rfl (fun ls hl => ?_)
  refine lv_aload_n B.1 B.2.1 dX6_readReference_2 rfl (lv_at hl 1 rfl) ?_
  obtain ⟨v3, e4⟩ : ∃ v, R a_this 4 = v := ⟨_, rfl⟩
  have q5 : v3 = 0 ∨ ∃ b, v3 = b + 1 ∧ T b = 6 := by rw [← e4]; exact g7_4 hC0 t_this
  refine c_getr (k := 4) pk_X6 B hM t_this kd7 rfl (by decide) fl_X6_15 dX6_readReference_3 e4 ?_
  rcases q5 with rfl | ⟨b6, rfl, t7⟩
  · have hl : lv_has ls 4 [(2, .int (II 0)), (0, .ref a_this), (1, .int (II a_k))] := hl
    refine lv_ifnullN (tgt := 47) B.1 B.2.1 dX6_readReference_6 (by decide) ?_
    refine lv_iload_n B.1 B.2.1 dX6_readReference_47 rfl (lv_at hl 0 rfl) ?_
    refine g_iret B hM dX6_readReference_48 ⟨Nat.le_refl _, Nat.le_refl _⟩ ?_
    rw [← hPST]
    exact ⟨(0), rfl, by omega, rfl, rfl, rfl, rfl, rfl, hF, by first | omega | assumption | exact trivial⟩
  · have hl : lv_has ls 4 [(2, .int (II 0)), (0, .ref a_this), (1, .int (II a_k))] := hl
    refine lv_ifnull B.1 B.2.1 dX6_readReference_6 ?_
    refine lv_aload_n B.1 B.2.1 dX6_readReference_9 rfl (lv_at hl 1 rfl) ?_
    refine c_getn (k := 4) pk_X6 B hM t_this kd7 rfl (by decide) fl_X6_15 dX6_readReference_10 e4 ?_
    refine lv_aload_n B.1 B.2.1 dX6_readReference_13 rfl (lv_at hl 1 rfl) ?_
    obtain ⟨w8, e9⟩ : ∃ v, J a_this 7 = v := ⟨_, rfl⟩
    refine c_getl (k := 7) pk_X6 B hM t_this kd7 rfl (by decide) fl_X6_54 dX6_readReference_14 e9 ?_
    refine p_calli (c_runV (n := 1) (as := [.long w8]) (rest := []) B hX hA hM hl.1 t7 kd6 rfl (k_X0_find l D dA eA L T N I J R b6 t7 w8 _ _) ml_X6_94 nm_X0_find ⟨rfl, rfl⟩ ⟨Nat.le_of_ble_eq_true rfl, Nat.le_of_ble_eq_true rfl⟩ dX6_readReference_17 rfl rfl (Nat.le_of_ble_eq_true rfl) ⟨Nat.zero_le _, Nat.zero_le _⟩) (fun x11 ix11 hp10 => ?_)
    have hp10a := hp10
    clear hp10a
    refine lv_istore_n (lv' := [(3, .int (II x11)), (2, .int (II 0)), (0, .ref a_this), (1, .int (II a_k))]) B.1 B.2.1 dX6_readReference_20 rfl hl (by decide) rfl (fun ls hl => ?_)
    refine lv_iload_n B.1 B.2.1 dX6_readReference_21 rfl (lv_at hl 0 rfl) ?_
    refine q_con B dX6_readReference_22 ?_
    refine q_ceq (tgt := 34) B dX6_readReference_23 (by decide) (by unfold inr; omega) (by unfold inr; omega) (fun c12 => ?_) (fun c12 => ?_)
    · refine lv_aload_n B.1 B.2.1 dX6_readReference_34 rfl (lv_at hl 2 rfl) ?_
      refine q_con B dX6_readReference_35 ?_
      have hv13 : ((-2147483648 : Int) ≤ 5 ∧ (5 : Int) ≤ 2147483647) ∧ ((5 : Int) ≠ 0) := by first | omega | exact ⟨by first | omega | assumption | exact trivial, by first | omega | assumption | exact trivial⟩
      refine z_calli hM hA (c_runV (n := 1) (as := [.int (II 5)]) (rest := []) B hX hA hM hl.1 t_this kd7 rfl (k_X6_wrong l D dA eA L T N I J R a_this t_this (5) hv13.1 hv13.2 _ _) ml_X6_84 nm_X6_wrong ⟨rfl, rfl⟩ ⟨Nat.le_of_ble_eq_true rfl, Nat.le_of_ble_eq_true rfl⟩ dX6_readReference_36 rfl rfl (Nat.le_of_ble_eq_true rfl) ⟨Nat.zero_le _, Nat.zero_le _⟩) (fun x15 ix15 L16 T17 N18 I19 J20 R21 dz22 dl23 H locs hp14 hMn => ?_)
      obtain ⟨yL16, yT17, yN18, yJ20, yR21, hFc24, hp14a⟩ := hp14
      obtain rfl := yL16.symm; obtain rfl := yT17.symm; obtain rfl := yN18.symm; obtain rfl := yJ20.symm; obtain rfl := yR21.symm
      replace hF : Fr mo_X6_readReference [] T N I J R T N I19 J R := hF.trans hFc24 (by decide) e20
      have hM := hMn
      clear hMn
      replace hp14a : (0 : Int) ≤ x15 ∧ x15 ≤ 1 ∧ (x15 = 0 ∧ I19 a_this 1 ≠ 0) := hp14a
      obtain ⟨hp14a_0, hp14a_1, hp14a_2⟩ := hp14a
      obtain ⟨hp14a_2_0, hp14a_2_1⟩ := hp14a_2
      refine lv_pop B.1 B.2.1 dX6_readReference_39 rfl ?_
      refine q_con B dX6_readReference_40 ?_
      obtain ⟨x25, e26⟩ : ∃ v, I19 a_this 1 = v := ⟨_, rfl⟩
      refine g_iret B hM dX6_readReference_41 ⟨Nat.le_refl _, Nat.le_refl _⟩ ?_
      rw [← hPST]
      exact ⟨(-1), rfl, by omega, rfl, rfl, rfl, rfl, rfl, hF, by first | omega | assumption | exact trivial⟩
    · refine lv_iload_n B.1 B.2.1 dX6_readReference_26 rfl (lv_at hl 0 rfl) ?_
      refine q_bip B dX6_readReference_27 (by decide) ?_
      refine q_divE B dX6_readReference_29 (by unfold inr; omega) (by unfold inr; omega) (by omega) (fun x27 ix27 px27 nx27 => ?_)
      unfold inr at ix27
      refine lv_iload_n B.1 B.2.1 dX6_readReference_30 rfl (lv_at hl 3 rfl) ?_
      refine q_ceq (tgt := 42) B dX6_readReference_31 (by decide) (by unfold inr; omega) (by unfold inr; omega) (fun c28 => ?_) (fun c28 => ?_)
      · refine lv_iload_n B.1 B.2.1 dX6_readReference_42 rfl (lv_at hl 0 rfl) ?_
        refine q_bip B dX6_readReference_43 (by decide) ?_
        refine q_remE B dX6_readReference_45 (by unfold inr; omega) (by unfold inr; omega) (by omega) (fun x29 ix29 px29 nx29 => ?_)
        unfold inr at ix29
        refine lv_istore_n (lv' := [(2, .int (II x29)), (3, .int (II x11)), (0, .ref a_this), (1, .int (II a_k))]) B.1 B.2.1 dX6_readReference_46 rfl hl (by decide) rfl (fun ls hl => ?_)
        refine lv_iload_n B.1 B.2.1 dX6_readReference_47 rfl (lv_at hl 0 rfl) ?_
        refine g_iret B hM dX6_readReference_48 ⟨Nat.le_refl _, Nat.le_refl _⟩ ?_
        rw [← hPST]
        exact ⟨x29, rfl, by omega, rfl, rfl, rfl, rfl, rfl, hF, by first | omega | assumption | exact trivial⟩
      · refine lv_aload_n B.1 B.2.1 dX6_readReference_34 rfl (lv_at hl 2 rfl) ?_
        refine q_con B dX6_readReference_35 ?_
        have hv30 : ((-2147483648 : Int) ≤ 5 ∧ (5 : Int) ≤ 2147483647) ∧ ((5 : Int) ≠ 0) := by first | omega | exact ⟨by first | omega | assumption | exact trivial, by first | omega | assumption | exact trivial⟩
        refine z_calli hM hA (c_runV (n := 1) (as := [.int (II 5)]) (rest := []) B hX hA hM hl.1 t_this kd7 rfl (k_X6_wrong l D dA eA L T N I J R a_this t_this (5) hv30.1 hv30.2 _ _) ml_X6_84 nm_X6_wrong ⟨rfl, rfl⟩ ⟨Nat.le_of_ble_eq_true rfl, Nat.le_of_ble_eq_true rfl⟩ dX6_readReference_36 rfl rfl (Nat.le_of_ble_eq_true rfl) ⟨Nat.zero_le _, Nat.zero_le _⟩) (fun x32 ix32 L33 T34 N35 I36 J37 R38 dz39 dl40 H locs hp31 hMn => ?_)
        obtain ⟨yL33, yT34, yN35, yJ37, yR38, hFc41, hp31a⟩ := hp31
        obtain rfl := yL33.symm; obtain rfl := yT34.symm; obtain rfl := yN35.symm; obtain rfl := yJ37.symm; obtain rfl := yR38.symm
        replace hF : Fr mo_X6_readReference [] T N I J R T N I36 J R := hF.trans hFc41 (by decide) e20
        have hM := hMn
        clear hMn
        replace hp31a : (0 : Int) ≤ x32 ∧ x32 ≤ 1 ∧ (x32 = 0 ∧ I36 a_this 1 ≠ 0) := hp31a
        obtain ⟨hp31a_0, hp31a_1, hp31a_2⟩ := hp31a
        obtain ⟨hp31a_2_0, hp31a_2_1⟩ := hp31a_2
        refine lv_pop B.1 B.2.1 dX6_readReference_39 rfl ?_
        refine q_con B dX6_readReference_40 ?_
        obtain ⟨x42, e43⟩ : ∃ v, I36 a_this 1 = v := ⟨_, rfl⟩
        refine g_iret B hM dX6_readReference_41 ⟨Nat.le_refl _, Nat.le_refl _⟩ ?_
        rw [← hPST]
        exact ⟨(-1), rfl, by omega, rfl, rfl, rfl, rfl, rfl, hF, by first | omega | assumption | exact trivial⟩

def mo_X6_readRow : List Nat := [229, 230, 231, 225, 226, 2080, 233]
set_option maxHeartbeats 1000000 in
set_option maxRecDepth 20000 in
theorem k_X6_readRow (l : Launch) (D : va_G) (dA : Nat → ClassId) (eA : Nat) (L : List Nat) (T N : Nat → Nat) (I : Nat → Nat → Int) (J : Nat → Nat → Int64) (R : Nat → Nat → Nat) (a_this : Nat) (t_this : T a_this = 7) (a_most : Int) (i_most : (-2147483648 : Int) ≤ a_most ∧ a_most ≤ 2147483647) (g_t : Nat) (g_s : Nat) (g_S : Nat → Int) (g_n : Int) (p_0 : R a_this 3 = g_t + 1) (p_1 : T g_t = 3) (p_2 : R g_t 0 = g_s + 1) (p_3 : T g_s = 62) (p_4 : I g_s = g_S) (p_5 : TKz g_S g_n) (p_6 : I a_this 5 ≤ g_n) (p_7 : g_S (I a_this 5).toNat = I a_this 6) : GC l yX6_readRow cX6_readRow 4 (some .boolean) ({ frames := 2, cells := 0, slots := 0, locals := 46 }) D dA eA L T N I J R [.ref a_this, .int (II a_most)] 0 0 (gI (fun r L' T' N' I' J' R' dz dl => L' = L ∧ T' = T ∧ N' = N ∧ R' = R ∧ Fr mo_X6_readRow [] T N I J R T' N' I' J' R' ∧ (0 : Int) ≤ r ∧ r ≤ 1 ∧ (I' a_this 5 ≤ g_n ∧ g_S (I' a_this 5).toNat = I' a_this 6 ∧ I a_this 5 ≤ I' a_this 5 ∧ ((r = 0 ∧ I' a_this 1 ≠ 0) ∨ (r = 1 ∧ I' a_this 1 = I a_this 1 ∧ I a_this 5 + 1 ≤ I' a_this 5))))) := by
  generalize hPST : (gI (fun r L' T' N' I' J' R' dz dl => L' = L ∧ T' = T ∧ N' = N ∧ R' = R ∧ Fr mo_X6_readRow [] T N I J R T' N' I' J' R' ∧ (0 : Int) ≤ r ∧ r ≤ 1 ∧ (I' a_this 5 ≤ g_n ∧ g_S (I' a_this 5).toNat = I' a_this 6 ∧ I a_this 5 ≤ I' a_this 5 ∧ ((r = 0 ∧ I' a_this 1 ≠ 0) ∨ (r = 1 ∧ I' a_this 1 = I a_this 1 ∧ I a_this 5 + 1 ≤ I' a_this 5))))) = PST
  refine g_enter (own := RX6) (by decide) rfl (Nat.le_of_ble_eq_true rfl) (fun p e s m args below meth c ls hm B hX hM hl => ?_)
  have hC0 := hM.2.2.2.2.2.2.1
  have hW0 := hM.2.2.2
  have hF : Fr mo_X6_readRow [] T N I J R T N I J R := Fr.rf
  have hA : ∀ q, s.heap.size ≤ q → cF dA L T N I J R s.heap.size q := fun q h => Or.inr h
  have hl : lv_has ls 4 [(0, .ref a_this), (1, .int (II a_most))] := hl
  obtain ⟨x1, e2⟩ : ∃ v, I a_this 5 = v := ⟨_, rfl⟩
  obtain ⟨x3, e4⟩ : ∃ v, I a_this 6 = v := ⟨_, rfl⟩
  have nz5 : g_S (x1).toNat = x3 := by have h9 := p_7; rw [e2, e4] at h9; exact h9
  obtain ⟨x6, e7⟩ : ∃ v, I a_this 1 = v := ⟨_, rfl⟩
  refine lv_aload_n B.1 B.2.1 dX6_readRow_0 rfl (lv_at hl 0 rfl) ?_
  refine q_con B dX6_readRow_1 ?_
  refine c_puti (k := 9) pk_X6 B hM t_this kd7 rfl (by decide) fl_X6_101 (Or.inl rfl) dX6_readRow_2 rfl rfl rfl (show (0 : Int) ≤ 0 from by omega) (show 0 ≤ (8 : Int) from by omega) (fun I8 H locs hu9 hM => ?_)
  have e10 : I8 a_this 9 = 0 := w2_at hu9
  replace hF : Fr mo_X6_readRow [] T N I J R T N I8 J R := hF.wi hu9 (fun _ _ => by rw [t_this]; rfl)
  refine q_con B dX6_readRow_5 ?_
  refine lv_istore_n (lv' := [(2, .int (II 0)), (0, .ref a_this), (1, .int (II a_most))]) B.1 B.2.1 dX6_readRow_6 rfl hl (by decide) rfl (fun ls hl => ?_)
  have LL7 : ∀ NN : Nat, ∀ (v7_2 : Int) (I_7 : Nat → Nat → Int) (J_7 : Nat → Nat → Int64) (H : Heap) (locs : List Loc) (ls : Array Slot), (CWd D dA eA (cF dA L T N I J R s.heap.size) s.heap L T N I_7 J_7 R H locs) → (Fr mo_X6_readRow [] T N I J R T N I_7 J_7 R) → lv_has ls 4 [(0, .ref a_this), (1, .int (II a_most)), (2, .int (II v7_2))] → ((-2147483648 : Int) ≤ v7_2 ∧ v7_2 ≤ 2147483647) → (0 ≤ v7_2) → (v7_2 ≤ 8) → (I_7 a_this 9 = v7_2) → (I a_this 5 + v7_2 ≤ I_7 a_this 5) → (I_7 a_this 5 ≤ g_n) → (g_S (I_7 a_this 5).toNat = I_7 a_this 6) → (I_7 a_this 1 = I a_this 1) → (0 ≤ 9 - v7_2) → (9 - v7_2 < (NN : Int)) → W p l e ({ frames := 2, cells := 0, slots := 0, locals := 46 }) s m args below meth c H locs 0 0 (MQ below (gQ D dA eA (cF dA L T N I J R s.heap.size) s.heap.size (hs s.heap) PST) args s 0 0 (cF dA L T N I J R s.heap.size)) (F0 m 7 ls []) := by
    intro NN
    induction NN with
    | zero => intro v7_2 I_7 J_7 H locs ls hM hF hl hLL7_0 hLL7_1 hLL7_2 hLL7_3 hLL7_4 hLL7_5 hLL7_6 hLL7_7 hLL7_8 hN; exfalso; omega
    | succ NN IH7 =>
      intro v7_2 I_7 J_7 H locs ls hM hF hl hLL7_0 hLL7_1 hLL7_2 hLL7_3 hLL7_4 hLL7_5 hLL7_6 hLL7_7 hLL7_8 hN
      obtain ⟨x11, e12⟩ : ∃ v, I_7 a_this 5 = v := ⟨_, rfl⟩
      obtain ⟨x13, e14⟩ : ∃ v, I_7 a_this 6 = v := ⟨_, rfl⟩
      have nz15 : g_S (x11).toNat = x13 := by have h9 := hLL7_6; rw [e12, e14] at h9; exact h9
      refine lv_iload_n B.1 B.2.1 dX6_readRow_7 rfl (lv_at hl 2 rfl) ?_
      refine q_bip B dX6_readRow_8 (by decide) ?_
      refine q_cgt (tgt := 105) B dX6_readRow_10 (by decide) (by unfold inr; omega) (by unfold inr; omega) (fun c16 => absurd c16 (by omega)) (fun c16 => ?_)
      refine lv_aload_n B.1 B.2.1 dX6_readRow_13 rfl (lv_at hl 0 rfl) ?_
      have r17 : (-2147483648 : Int) ≤ x13 ∧ x13 ≤ 2147483647 := by rw [← e14]; exact g7_6 hM.2.2.2.2.2.2.1 t_this
      refine c_geti (k := 6) pk_X6 B hM t_this kd7 rfl (by decide) fl_X6_47 dX6_readRow_14 e14 ?_
      refine q_con B dX6_readRow_17 ?_
      refine q_cne (tgt := 30) B dX6_readRow_18 (by decide) (by unfold inr; omega) (by unfold inr; omega) (fun c18 => ?_) (fun c18 => ?_)
      · refine lv_aload_n B.1 B.2.1 dX6_readRow_30 rfl (lv_at hl 0 rfl) ?_
        refine q_con B dX6_readRow_31 ?_
        have hv19 : ((-2147483648 : Int) ≤ 2 ∧ (2 : Int) ≤ 2147483647) ∧ ((2 : Int) ≠ 0) := by first | omega | exact ⟨by first | omega | assumption | exact trivial, by first | omega | assumption | exact trivial⟩
        refine z_calli hM hA (c_runV (n := 1) (as := [.int (II 2)]) (rest := []) B hX hA hM hl.1 t_this kd7 rfl (k_X6_wrong l D dA eA L T N I_7 J_7 R a_this t_this (2) hv19.1 hv19.2 _ _) ml_X6_84 nm_X6_wrong ⟨rfl, rfl⟩ ⟨Nat.le_of_ble_eq_true rfl, Nat.le_of_ble_eq_true rfl⟩ dX6_readRow_32 rfl rfl (Nat.le_of_ble_eq_true rfl) ⟨Nat.zero_le _, Nat.zero_le _⟩) (fun x21 ix21 L22 T23 N24 I25 J26 R27 dz28 dl29 H locs hp20 hMn => ?_)
        obtain ⟨yL22, yT23, yN24, yJ26, yR27, hFc30, hp20a⟩ := hp20
        obtain rfl := yL22.symm; obtain rfl := yT23.symm; obtain rfl := yN24.symm; obtain rfl := yJ26.symm; obtain rfl := yR27.symm
        replace hF : Fr mo_X6_readRow [] T N I J R T N I25 J_7 R := hF.trans hFc30 (by decide) e20
        have hM := hMn
        clear hMn
        replace hp20a : (0 : Int) ≤ x21 ∧ x21 ≤ 1 ∧ (x21 = 0 ∧ I25 a_this 1 ≠ 0) := hp20a
        obtain ⟨hp20a_0, hp20a_1, hp20a_2⟩ := hp20a
        obtain ⟨hp20a_2_0, hp20a_2_1⟩ := hp20a_2
        obtain ⟨x31, e32⟩ : ∃ v, I25 a_this 1 = v := ⟨_, rfl⟩
        have e33 : I25 a_this 5 = x11 := (hFc30.i t_this (by decide) nm0 rfl).trans e12
        have e34 : I25 a_this 6 = x13 := (hFc30.i t_this (by decide) nm0 rfl).trans e14
        refine g_zret B hM dX6_readRow_35 ⟨Nat.le_refl _, Nat.le_refl _⟩ (by omega) (by omega) ?_
        rw [← hPST]
        exact ⟨x21, rfl, by omega, rfl, rfl, rfl, rfl, hF, by omega, by omega, by first | omega | assumption | exact trivial, by show g_S (I25 a_this 5).toNat = I25 a_this 6; rw [e33, e34]; first | assumption | omega, by first | omega | assumption | exact trivial, by first | omega | assumption | exact trivial⟩
      · refine lv_aload_n B.1 B.2.1 dX6_readRow_21 rfl (lv_at hl 0 rfl) ?_
        have r35 : (0 : Int) ≤ v7_2 ∧ v7_2 ≤ 8 := by rw [← hLL7_3]; exact g7_9 hM.2.2.2.2.2.2.1 t_this
        refine c_geti (k := 9) pk_X6 B hM t_this kd7 rfl (by decide) fl_X6_101 dX6_readRow_22 hLL7_3 ?_
        refine q_bip B dX6_readRow_25 (by decide) ?_
        refine q_clt (tgt := 36) B dX6_readRow_27 (by decide) (by unfold inr; omega) (by unfold inr; omega) (fun c36 => ?_) (fun c36 => ?_)
        · refine lv_aload_n B.1 B.2.1 dX6_readRow_36 rfl (lv_at hl 0 rfl) ?_
          refine q_con B dX6_readRow_37 ?_
          have hv37 : ((-2147483648 : Int) ≤ 1 ∧ (1 : Int) ≤ 2147483647) ∧ (1 ≤ (1 : Int)) := by first | omega | exact ⟨by first | omega | assumption | exact trivial, by first | omega | assumption | exact trivial⟩
          refine z_calli hM hA (c_runV (n := 1) (as := [.int (II 1)]) (rest := []) B hX hA hM hl.1 t_this kd7 rfl (k_X6_readReference l D dA eA L T N I_7 J_7 R a_this t_this (1) hv37.1 hv37.2 _ _) ml_X6_104 nm_X6_readReference ⟨rfl, rfl⟩ ⟨Nat.le_of_ble_eq_true rfl, Nat.le_of_ble_eq_true rfl⟩ dX6_readRow_38 rfl rfl (Nat.le_of_ble_eq_true rfl) ⟨Nat.zero_le _, Nat.zero_le _⟩) (fun x39 ix39 L40 T41 N42 I43 J44 R45 dz46 dl47 H locs hp38 hMn => ?_)
          obtain ⟨yL40, yT41, yN42, yJ44, yR45, hFc48, hp38a⟩ := hp38
          obtain rfl := yL40.symm; obtain rfl := yT41.symm; obtain rfl := yN42.symm; obtain rfl := yJ44.symm; obtain rfl := yR45.symm
          replace hF : Fr mo_X6_readRow [] T N I J R T N I43 J_7 R := hF.trans hFc48 (by decide) e20
          have hM := hMn
          clear hMn
          replace hp38a : ((x39 = -1 ∧ I43 a_this 1 ≠ 0) ∨ (0 ≤ x39 ∧ x39 ≤ 99 ∧ I43 a_this 1 = I_7 a_this 1)) := hp38a
          obtain ⟨x49, e50⟩ : ∃ v, I43 a_this 1 = v := ⟨_, rfl⟩
          refine lv_istore_n (lv' := [(3, .int (II x39)), (0, .ref a_this), (1, .int (II a_most)), (2, .int (II v7_2))]) B.1 B.2.1 dX6_readRow_41 rfl hl (by decide) rfl (fun ls hl => ?_)
          refine lv_iload_n B.1 B.2.1 dX6_readRow_42 rfl (lv_at hl 0 rfl) ?_
          refine q_con B dX6_readRow_43 ?_
          refine q_cne (tgt := 49) B dX6_readRow_44 (by decide) (by unfold inr; omega) (by unfold inr; omega) (fun c51 => ?_) (fun c51 => ?_)
          · refine lv_iload_n B.1 B.2.1 dX6_readRow_49 rfl (lv_at hl 0 rfl) ?_
            refine lv_iload_n B.1 B.2.1 dX6_readRow_50 rfl (lv_at hl 2 rfl) ?_
            refine q_clt (tgt := 60) B dX6_readRow_51 (by decide) (by unfold inr; omega) (by unfold inr; omega) (fun c52 => ?_) (fun c52 => ?_)
            · refine lv_aload_n B.1 B.2.1 dX6_readRow_60 rfl (lv_at hl 1 rfl) ?_
              obtain ⟨b53, e54, t55⟩ := g7_8 hC0 t_this
              refine c_getn (k := 8) pk_X6 B hM t_this kd7 rfl (by decide) fl_X6_25 dX6_readRow_61 e54 ?_
              refine lv_aload_n B.1 B.2.1 dX6_readRow_64 rfl (lv_at hl 1 rfl) ?_
              have e56 : I43 a_this 9 = v7_2 := (hFc48.i t_this (by decide) nm0 rfl).trans hLL7_3
              refine c_geti (k := 9) pk_X6 B hM t_this kd7 rfl (by decide) fl_X6_101 dX6_readRow_65 e56 ?_
              refine lv_iload_n B.1 B.2.1 dX6_readRow_68 rfl (lv_at hl 0 rfl) ?_
              have n57 : 8 ≤ N b53 ∧ N b53 ≤ 8 := gn65 hM.2.2.2.2.2.2.1 t55
              refine c_ist B hM t55 kd65 aq65 dX6_readRow_69 (by omega) (by omega) (show (-2147483648 : Int) ≤ x39 from by omega) (show x39 ≤ (2147483647 : Int) from by omega) (fun I59 H locs hu58 hM => ?_)
              have e60 : I59 b53 v7_2.toNat = x39 := w2_at hu58
              replace hF : Fr mo_X6_readRow [] T N I J R T N I59 J_7 R := hF.wi hu58 (fun _ _ => by rw [t55, cd_arr (j := 0) (by decide)]; rfl)
              refine lv_aload_n B.1 B.2.1 dX6_readRow_70 rfl (lv_at hl 1 rfl) ?_
              refine lv_dup B.1 B.2.1 dX6_readRow_71 rfl ?_
              have e61 : I59 a_this 9 = v7_2 := (w2_ne hu58 (Or.inl (tne t_this t55 (by decide)))).trans e56
              refine c_geti (k := 9) pk_X6 B hM t_this kd7 rfl (by decide) fl_X6_101 dX6_readRow_72 e61 ?_
              refine q_con B dX6_readRow_75 ?_
              refine q_add B dX6_readRow_76 ?_
              refine c_puti (k := 9) pk_X6 B hM t_this kd7 rfl (by decide) fl_X6_101 (Or.inl rfl) dX6_readRow_77 rfl rfl rfl (show (0 : Int) ≤ v7_2 + (1 : Int) from by omega) (show v7_2 + (1 : Int) ≤ (8 : Int) from by omega) (fun I62 H locs hu63 hM => ?_)
              have e64 : I62 a_this 9 = v7_2 + (1 : Int) := w2_at hu63
              replace hF : Fr mo_X6_readRow [] T N I J R T N I62 J_7 R := hF.wi hu63 (fun _ _ => by rw [t_this]; rfl)
              refine lv_aload_n B.1 B.2.1 dX6_readRow_80 rfl (lv_at hl 1 rfl) ?_
              have e65 : I43 a_this 5 = x11 := (hFc48.i t_this (by decide) nm0 rfl).trans e12
              have e66 : I59 a_this 5 = x11 := (w2_ne hu58 (Or.inl (tne t_this t55 (by decide)))).trans e65
              have e67 : I62 a_this 5 = x11 := (w2_ne hu63 (Or.inr (by decide))).trans e66
              have e68 : I43 a_this 6 = x13 := (hFc48.i t_this (by decide) nm0 rfl).trans e14
              have e69 : I59 a_this 6 = x13 := (w2_ne hu58 (Or.inl (tne t_this t55 (by decide)))).trans e68
              have e70 : I62 a_this 6 = x13 := (w2_ne hu63 (Or.inr (by decide))).trans e69
              have hv71 : (TKz g_S g_n) ∧ (I62 a_this 5 ≤ g_n) := by first | omega | exact ⟨by first | omega | assumption | exact trivial, by first | omega | assumption | exact trivial⟩
              refine z_callv hM hA (c_runV (n := 0) (as := []) (rest := []) B hX hA hM hl.1 t_this kd7 rfl (k_X6_advance l D dA eA L T N I62 J_7 R a_this t_this g_t g_s g_S g_n (show R a_this 3 = g_t + 1 from p_0) (show T g_t = 3 from p_1) (show R g_t 0 = g_s + 1 from p_2) (show T g_s = 62 from p_3) (show I62 g_s = g_S from ((Fr.irow hF p_3 (by decide) nm0 (by decide)).trans p_4)) hv71.1 hv71.2 (show g_S (I62 a_this 5).toNat = I62 a_this 6 from by rw [e67, e70]; first | assumption | omega) _ _) ml_X6_87 nm_X6_advance ⟨rfl, rfl⟩ ⟨Nat.le_of_ble_eq_true rfl, Nat.le_of_ble_eq_true rfl⟩ dX6_readRow_81 rfl rfl (Nat.le_of_ble_eq_true rfl) ⟨Nat.zero_le _, Nat.zero_le _⟩) (fun L74 T75 N76 I77 J78 R79 dz80 dl81 H locs hp72 hMn => ?_)
              obtain ⟨yL74, yT75, yN76, yR79, hFc82, hp72a⟩ := hp72
              obtain rfl := yL74.symm; obtain rfl := yT75.symm; obtain rfl := yN76.symm; obtain rfl := yR79.symm
              replace hF : Fr mo_X6_readRow [] T N I J R T N I77 J78 R := hF.trans hFc82 (by decide) e20
              have hM := hMn
              clear hMn
              replace hp72a : I77 a_this 5 ≤ g_n ∧ g_S (I77 a_this 5).toNat = I77 a_this 6 ∧ (((I62 a_this 6 = 0 ∨ I62 a_this 6 = 1) ∧ I77 a_this 5 = I62 a_this 5) ∨ (I77 a_this 5 = I62 a_this 5 + 1)) := hp72a
              obtain ⟨hp72a_0, hp72a_1, hp72a_2⟩ := hp72a
              obtain ⟨x83, e84⟩ : ∃ v, I77 a_this 5 = v := ⟨_, rfl⟩
              obtain ⟨x85, e86⟩ : ∃ v, I77 a_this 6 = v := ⟨_, rfl⟩
              have nz87 : g_S (x83).toNat = x85 := by have h9 := hp72a_1; rw [e84, e86] at h9; exact h9
              refine lv_aload_n B.1 B.2.1 dX6_readRow_84 rfl (lv_at hl 1 rfl) ?_
              have r88 : (-2147483648 : Int) ≤ x85 ∧ x85 ≤ 2147483647 := by rw [← e86]; exact g7_6 hM.2.2.2.2.2.2.1 t_this
              refine c_geti (k := 6) pk_X6 B hM t_this kd7 rfl (by decide) fl_X6_47 dX6_readRow_85 e86 ?_
              refine q_bip B dX6_readRow_88 (by decide) ?_
              refine q_ceq (tgt := 95) B dX6_readRow_90 (by decide) (by unfold inr; omega) (by unfold inr; omega) (fun c89 => ?_) (fun c89 => ?_)
              · refine lv_aload_n B.1 B.2.1 dX6_readRow_95 rfl (lv_at hl 1 rfl) ?_
                have hv90 : (TKz g_S g_n) ∧ (I77 a_this 5 ≤ g_n) := by first | omega | exact ⟨by first | omega | assumption | exact trivial, by first | omega | assumption | exact trivial⟩
                refine z_callv hM hA (c_runV (n := 0) (as := []) (rest := []) B hX hA hM hl.1 t_this kd7 rfl (k_X6_advance l D dA eA L T N I77 J78 R a_this t_this g_t g_s g_S g_n (show R a_this 3 = g_t + 1 from p_0) (show T g_t = 3 from p_1) (show R g_t 0 = g_s + 1 from p_2) (show T g_s = 62 from p_3) (show I77 g_s = g_S from ((Fr.irow hF p_3 (by decide) nm0 (by decide)).trans p_4)) hv90.1 hv90.2 (show g_S (I77 a_this 5).toNat = I77 a_this 6 from by rw [e84, e86]; first | assumption | omega) _ _) ml_X6_87 nm_X6_advance ⟨rfl, rfl⟩ ⟨Nat.le_of_ble_eq_true rfl, Nat.le_of_ble_eq_true rfl⟩ dX6_readRow_96 rfl rfl (Nat.le_of_ble_eq_true rfl) ⟨Nat.zero_le _, Nat.zero_le _⟩) (fun L93 T94 N95 I96 J97 R98 dz99 dl100 H locs hp91 hMn => ?_)
                obtain ⟨yL93, yT94, yN95, yR98, hFc101, hp91a⟩ := hp91
                obtain rfl := yL93.symm; obtain rfl := yT94.symm; obtain rfl := yN95.symm; obtain rfl := yR98.symm
                replace hF : Fr mo_X6_readRow [] T N I J R T N I96 J97 R := hF.trans hFc101 (by decide) e20
                have hM := hMn
                clear hMn
                replace hp91a : I96 a_this 5 ≤ g_n ∧ g_S (I96 a_this 5).toNat = I96 a_this 6 ∧ (((I77 a_this 6 = 0 ∨ I77 a_this 6 = 1) ∧ I96 a_this 5 = I77 a_this 5) ∨ (I96 a_this 5 = I77 a_this 5 + 1)) := hp91a
                obtain ⟨hp91a_0, hp91a_1, hp91a_2⟩ := hp91a
                obtain ⟨x102, e103⟩ : ∃ v, I96 a_this 5 = v := ⟨_, rfl⟩
                obtain ⟨x104, e105⟩ : ∃ v, I96 a_this 6 = v := ⟨_, rfl⟩
                have nz106 : g_S (x102).toNat = x104 := by have h9 := hp91a_1; rw [e103, e105] at h9; exact h9
                refine q_inc (lv' := [(2, .int (II (v7_2 + 1))), (3, .int (II x39)), (0, .ref a_this), (1, .int (II a_most))]) B dX6_readRow_99 hl (k := 3) rfl (by decide) rfl (fun ls hl => ?_)
                refine lv_goto (tgt := 7) B.1 B.2.1 dX6_readRow_102 (by decide) ?_
                have e107 : I77 a_this 9 = v7_2 + (1 : Int) := (hFc82.i t_this (by decide) nm0 rfl).trans e64
                have e108 : I96 a_this 9 = v7_2 + (1 : Int) := (hFc101.i t_this (by decide) nm0 rfl).trans e107
                have e109 : I59 a_this 1 = x49 := (w2_ne hu58 (Or.inl (tne t_this t55 (by decide)))).trans e50
                have e110 : I62 a_this 1 = x49 := (w2_ne hu63 (Or.inr (by decide))).trans e109
                have e111 : I77 a_this 1 = x49 := (hFc82.i t_this (by decide) nm0 rfl).trans e110
                have e112 : I96 a_this 1 = x49 := (hFc101.i t_this (by decide) nm0 rfl).trans e111
                have hv113 : ((-2147483648 : Int) ≤ v7_2 + 1 ∧ (v7_2 + 1 : Int) ≤ 2147483647) ∧ (0 ≤ (v7_2 + 1)) ∧ ((v7_2 + 1) ≤ 8) ∧ (I96 a_this 9 = (v7_2 + 1)) ∧ (I a_this 5 + (v7_2 + 1) ≤ I96 a_this 5) ∧ (I96 a_this 5 ≤ g_n) ∧ (I96 a_this 1 = I a_this 1) ∧ (0 ≤ 9 - (v7_2 + 1)) := by first | omega | exact ⟨by first | omega | assumption | exact trivial, by first | omega | assumption | exact trivial, by first | omega | assumption | exact trivial, by first | omega | assumption | exact trivial, by first | omega | assumption | exact trivial, by first | omega | assumption | exact trivial, by first | omega | assumption | exact trivial, by first | omega | assumption | exact trivial⟩
                exact IH7 (v7_2 + 1) I96 J97 _ _ ls hM hF (lv_sub hl [2, 3, 0] rfl) hv113.1 hv113.2.1 hv113.2.2.1 hv113.2.2.2.1 hv113.2.2.2.2.1 hv113.2.2.2.2.2.1 (by rw [e103, e105]; first | assumption | omega) hv113.2.2.2.2.2.2.1 hv113.2.2.2.2.2.2.2 (by omega)
              · refine q_con B dX6_readRow_93 ?_
                have e114 : I59 a_this 1 = x49 := (w2_ne hu58 (Or.inl (tne t_this t55 (by decide)))).trans e50
                have e115 : I62 a_this 1 = x49 := (w2_ne hu63 (Or.inr (by decide))).trans e114
                have e116 : I77 a_this 1 = x49 := (hFc82.i t_this (by decide) nm0 rfl).trans e115
                refine g_zret B hM dX6_readRow_94 ⟨Nat.le_refl _, Nat.le_refl _⟩ (by omega) (by omega) ?_
                rw [← hPST]
                exact ⟨(1), rfl, by omega, rfl, rfl, rfl, rfl, hF, by omega, by omega, by first | omega | assumption | exact trivial, by show g_S (I77 a_this 5).toNat = I77 a_this 6; rw [e84, e86]; first | assumption | omega, by first | omega | assumption | exact trivial, by first | omega | assumption | exact trivial⟩
            · refine lv_aload_n B.1 B.2.1 dX6_readRow_54 rfl (lv_at hl 1 rfl) ?_
              refine q_con B dX6_readRow_55 ?_
              have hv117 : ((-2147483648 : Int) ≤ 5 ∧ (5 : Int) ≤ 2147483647) ∧ ((5 : Int) ≠ 0) := by first | omega | exact ⟨by first | omega | assumption | exact trivial, by first | omega | assumption | exact trivial⟩
              refine z_calli hM hA (c_runV (n := 1) (as := [.int (II 5)]) (rest := []) B hX hA hM hl.1 t_this kd7 rfl (k_X6_wrong l D dA eA L T N I43 J_7 R a_this t_this (5) hv117.1 hv117.2 _ _) ml_X6_84 nm_X6_wrong ⟨rfl, rfl⟩ ⟨Nat.le_of_ble_eq_true rfl, Nat.le_of_ble_eq_true rfl⟩ dX6_readRow_56 rfl rfl (Nat.le_of_ble_eq_true rfl) ⟨Nat.zero_le _, Nat.zero_le _⟩) (fun x119 ix119 L120 T121 N122 I123 J124 R125 dz126 dl127 H locs hp118 hMn => ?_)
              obtain ⟨yL120, yT121, yN122, yJ124, yR125, hFc128, hp118a⟩ := hp118
              obtain rfl := yL120.symm; obtain rfl := yT121.symm; obtain rfl := yN122.symm; obtain rfl := yJ124.symm; obtain rfl := yR125.symm
              replace hF : Fr mo_X6_readRow [] T N I J R T N I123 J_7 R := hF.trans hFc128 (by decide) e20
              have hM := hMn
              clear hMn
              replace hp118a : (0 : Int) ≤ x119 ∧ x119 ≤ 1 ∧ (x119 = 0 ∧ I123 a_this 1 ≠ 0) := hp118a
              obtain ⟨hp118a_0, hp118a_1, hp118a_2⟩ := hp118a
              obtain ⟨hp118a_2_0, hp118a_2_1⟩ := hp118a_2
              obtain ⟨x129, e130⟩ : ∃ v, I123 a_this 1 = v := ⟨_, rfl⟩
              have e131 : I43 a_this 5 = x11 := (hFc48.i t_this (by decide) nm0 rfl).trans e12
              have e132 : I123 a_this 5 = x11 := (hFc128.i t_this (by decide) nm0 rfl).trans e131
              have e133 : I43 a_this 6 = x13 := (hFc48.i t_this (by decide) nm0 rfl).trans e14
              have e134 : I123 a_this 6 = x13 := (hFc128.i t_this (by decide) nm0 rfl).trans e133
              refine g_zret B hM dX6_readRow_59 ⟨Nat.le_refl _, Nat.le_refl _⟩ (by omega) (by omega) ?_
              rw [← hPST]
              exact ⟨x119, rfl, by omega, rfl, rfl, rfl, rfl, hF, by omega, by omega, by first | omega | assumption | exact trivial, by show g_S (I123 a_this 5).toNat = I123 a_this 6; rw [e132, e134]; first | assumption | omega, by first | omega | assumption | exact trivial, by first | omega | assumption | exact trivial⟩
          · refine q_con B dX6_readRow_47 ?_
            have e135 : I43 a_this 5 = x11 := (hFc48.i t_this (by decide) nm0 rfl).trans e12
            have e136 : I43 a_this 6 = x13 := (hFc48.i t_this (by decide) nm0 rfl).trans e14
            refine g_zret B hM dX6_readRow_48 ⟨Nat.le_refl _, Nat.le_refl _⟩ (by omega) (by omega) ?_
            rw [← hPST]
            exact ⟨(0), rfl, by omega, rfl, rfl, rfl, rfl, hF, by omega, by omega, by first | omega | assumption | exact trivial, by show g_S (I43 a_this 5).toNat = I43 a_this 6; rw [e135, e136]; first | assumption | omega, by first | omega | assumption | exact trivial, by first | omega | assumption | exact trivial⟩
        · refine lv_aload_n B.1 B.2.1 dX6_readRow_30 rfl (lv_at hl 0 rfl) ?_
          refine q_con B dX6_readRow_31 ?_
          have hv137 : ((-2147483648 : Int) ≤ 2 ∧ (2 : Int) ≤ 2147483647) ∧ ((2 : Int) ≠ 0) := by first | omega | exact ⟨by first | omega | assumption | exact trivial, by first | omega | assumption | exact trivial⟩
          refine z_calli hM hA (c_runV (n := 1) (as := [.int (II 2)]) (rest := []) B hX hA hM hl.1 t_this kd7 rfl (k_X6_wrong l D dA eA L T N I_7 J_7 R a_this t_this (2) hv137.1 hv137.2 _ _) ml_X6_84 nm_X6_wrong ⟨rfl, rfl⟩ ⟨Nat.le_of_ble_eq_true rfl, Nat.le_of_ble_eq_true rfl⟩ dX6_readRow_32 rfl rfl (Nat.le_of_ble_eq_true rfl) ⟨Nat.zero_le _, Nat.zero_le _⟩) (fun x139 ix139 L140 T141 N142 I143 J144 R145 dz146 dl147 H locs hp138 hMn => ?_)
          obtain ⟨yL140, yT141, yN142, yJ144, yR145, hFc148, hp138a⟩ := hp138
          obtain rfl := yL140.symm; obtain rfl := yT141.symm; obtain rfl := yN142.symm; obtain rfl := yJ144.symm; obtain rfl := yR145.symm
          replace hF : Fr mo_X6_readRow [] T N I J R T N I143 J_7 R := hF.trans hFc148 (by decide) e20
          have hM := hMn
          clear hMn
          replace hp138a : (0 : Int) ≤ x139 ∧ x139 ≤ 1 ∧ (x139 = 0 ∧ I143 a_this 1 ≠ 0) := hp138a
          obtain ⟨hp138a_0, hp138a_1, hp138a_2⟩ := hp138a
          obtain ⟨hp138a_2_0, hp138a_2_1⟩ := hp138a_2
          obtain ⟨x149, e150⟩ : ∃ v, I143 a_this 1 = v := ⟨_, rfl⟩
          have e151 : I143 a_this 5 = x11 := (hFc148.i t_this (by decide) nm0 rfl).trans e12
          have e152 : I143 a_this 6 = x13 := (hFc148.i t_this (by decide) nm0 rfl).trans e14
          refine g_zret B hM dX6_readRow_35 ⟨Nat.le_refl _, Nat.le_refl _⟩ (by omega) (by omega) ?_
          rw [← hPST]
          exact ⟨x139, rfl, by omega, rfl, rfl, rfl, rfl, hF, by omega, by omega, by first | omega | assumption | exact trivial, by show g_S (I143 a_this 5).toNat = I143 a_this 6; rw [e151, e152]; first | assumption | omega, by first | omega | assumption | exact trivial, by first | omega | assumption | exact trivial⟩
  have e153 : I8 a_this 5 = x1 := (w2_ne hu9 (Or.inr (by decide))).trans e2
  have e154 : I8 a_this 6 = x3 := (w2_ne hu9 (Or.inr (by decide))).trans e4
  have e155 : I8 a_this 1 = x6 := (w2_ne hu9 (Or.inr (by decide))).trans e7
  have hv156 : ((-2147483648 : Int) ≤ 0 ∧ (0 : Int) ≤ 2147483647) ∧ (0 ≤ (0 : Int)) ∧ ((0 : Int) ≤ 8) ∧ (I8 a_this 9 = (0 : Int)) ∧ (I a_this 5 + (0 : Int) ≤ I8 a_this 5) ∧ (I8 a_this 5 ≤ g_n) ∧ (I8 a_this 1 = I a_this 1) ∧ (0 ≤ 9 - (0 : Int)) := by first | omega | exact ⟨by first | omega | assumption | exact trivial, by first | omega | assumption | exact trivial, by first | omega | assumption | exact trivial, by first | omega | assumption | exact trivial, by first | omega | assumption | exact trivial, by first | omega | assumption | exact trivial, by first | omega | assumption | exact trivial, by first | omega | assumption | exact trivial⟩
  exact LL7 (Int.toNat (9 - (0 : Int) + 1)) 0 I8 J _ _ ls hM hF (lv_sub hl [1, 2, 0] rfl) hv156.1 hv156.2.1 hv156.2.2.1 hv156.2.2.2.1 hv156.2.2.2.2.1 hv156.2.2.2.2.2.1 (by rw [e153, e154]; first | assumption | omega) hv156.2.2.2.2.2.2.1 hv156.2.2.2.2.2.2.2 (by omega)

def mo_X6_readGroup : List Nat := [229, 230, 231, 225, 226, 2080, 233, 2272, 2304, 203, 2240, 198]
set_option maxHeartbeats 1000000 in
set_option maxRecDepth 20000 in
theorem k_X6_readGroup (l : Launch) (D : va_G) (dA : Nat → ClassId) (eA : Nat) (L : List Nat) (T N : Nat → Nat) (I : Nat → Nat → Int) (J : Nat → Nat → Int64) (R : Nat → Nat → Nat) (a_this : Nat) (t_this : T a_this = 7) (g_t : Nat) (g_s : Nat) (g_S : Nat → Int) (g_n : Int) (p_0 : R a_this 3 = g_t + 1) (p_1 : T g_t = 3) (p_2 : R g_t 0 = g_s + 1) (p_3 : T g_s = 62) (p_4 : I g_s = g_S) (p_5 : TKz g_S g_n) (p_6 : I a_this 5 ≤ g_n) (p_7 : g_S (I a_this 5).toNat = I a_this 6) : GC l yX6_readGroup cX6_readGroup 2 (some .boolean) ({ frames := 3, cells := 0, slots := 0, locals := 69 }) D dA eA L T N I J R [.ref a_this] 0 0 (gI (fun r L' T' N' I' J' R' dz dl => L' = L ∧ T' = T ∧ N' = N ∧ R' = R ∧ Fr mo_X6_readGroup [] T N I J R T' N' I' J' R' ∧ (0 : Int) ≤ r ∧ r ≤ 1 ∧ (I' a_this 5 ≤ g_n ∧ g_S (I' a_this 5).toNat = I' a_this 6 ∧ I a_this 5 ≤ I' a_this 5 ∧ ((r = 0 ∧ I' a_this 1 ≠ 0) ∨ (r = 1 ∧ I' a_this 1 = I a_this 1 ∧ I a_this 5 + 1 ≤ I' a_this 5))))) := by
  generalize hPST : (gI (fun r L' T' N' I' J' R' dz dl => L' = L ∧ T' = T ∧ N' = N ∧ R' = R ∧ Fr mo_X6_readGroup [] T N I J R T' N' I' J' R' ∧ (0 : Int) ≤ r ∧ r ≤ 1 ∧ (I' a_this 5 ≤ g_n ∧ g_S (I' a_this 5).toNat = I' a_this 6 ∧ I a_this 5 ≤ I' a_this 5 ∧ ((r = 0 ∧ I' a_this 1 ≠ 0) ∨ (r = 1 ∧ I' a_this 1 = I a_this 1 ∧ I a_this 5 + 1 ≤ I' a_this 5))))) = PST
  refine g_enter (own := RX6) (by decide) rfl (Nat.le_of_ble_eq_true rfl) (fun p e s m args below meth c ls hm B hX hM hl => ?_)
  have hC0 := hM.2.2.2.2.2.2.1
  have hW0 := hM.2.2.2
  have hF : Fr mo_X6_readGroup [] T N I J R T N I J R := Fr.rf
  have hA : ∀ q, s.heap.size ≤ q → cF dA L T N I J R s.heap.size q := fun q h => Or.inr h
  have hl : lv_has ls 2 [(0, .ref a_this)] := hl
  obtain ⟨x1, e2⟩ : ∃ v, I a_this 5 = v := ⟨_, rfl⟩
  obtain ⟨x3, e4⟩ : ∃ v, I a_this 6 = v := ⟨_, rfl⟩
  have nz5 : g_S (x1).toNat = x3 := by have h9 := p_7; rw [e2, e4] at h9; exact h9
  obtain ⟨x6, e7⟩ : ∃ v, I a_this 1 = v := ⟨_, rfl⟩
  refine lv_aload_n B.1 B.2.1 dX6_readGroup_0 rfl (lv_at hl 0 rfl) ?_
  obtain ⟨b8, e9, t10⟩ := g7_0 hC0 t_this
  refine c_getn (k := 0) pk_X6 B hM t_this kd7 rfl (by decide) fl_X6_22 dX6_readGroup_1 e9 ?_
  obtain ⟨x11, e12⟩ : ∃ v, I b8 6 = v := ⟨_, rfl⟩
  have r13 : (1 : Int) ≤ x11 ∧ x11 ≤ 8 := by rw [← e12]; exact g6_6 hM.2.2.2.2.2.2.1 t10
  refine c_geti (k := 6) pk_X0 B hM t10 kd6 rfl (by decide) fl_X6_108 dX6_readGroup_4 e12 ?_
  refine lv_istore_n (lv' := [(1, .int (II x11)), (0, .ref a_this)]) B.1 B.2.1 dX6_readGroup_7 rfl hl (by decide) rfl (fun ls hl => ?_)
  refine lv_aload_n B.1 B.2.1 dX6_readGroup_8 rfl (lv_at hl 1 rfl) ?_
  refine q_con B dX6_readGroup_9 ?_
  refine lv_iload_n B.1 B.2.1 dX6_readGroup_10 rfl (lv_at hl 0 rfl) ?_
  refine q_bip B dX6_readGroup_11 (by decide) ?_
  have hv14 : ((-2147483648 : Int) ≤ 1 ∧ (1 : Int) ≤ 2147483647) ∧ ((-2147483648 : Int) ≤ x11 ∧ (x11 : Int) ≤ 2147483647) ∧ ((-2147483648 : Int) ≤ 8 ∧ (8 : Int) ≤ 2147483647) ∧ (TKz g_S g_n) ∧ (I a_this 5 ≤ g_n) := by first | omega | exact ⟨by first | omega | assumption | exact trivial, by first | omega | assumption | exact trivial, by first | omega | assumption | exact trivial, by first | omega | assumption | exact trivial, by first | omega | assumption | exact trivial⟩
  refine z_calli hM hA (c_runV (n := 3) (as := [.int (II 1), .int (II x11), .int (II 8)]) (rest := []) B hX hA hM hl.1 t_this kd7 rfl (k_X6_readHead l D dA eA L T N I J R a_this t_this (1) hv14.1 x11 hv14.2.1 (8) hv14.2.2.1 g_t g_s g_S g_n (show R a_this 3 = g_t + 1 from p_0) (show T g_t = 3 from p_1) (show R g_t 0 = g_s + 1 from p_2) (show T g_s = 62 from p_3) (show I g_s = g_S from p_4) hv14.2.2.2.1 hv14.2.2.2.2 (show g_S (I a_this 5).toNat = I a_this 6 from by rw [e2, e4]; first | assumption | omega) _ _) ml_X6_111 nm_X6_readHead ⟨rfl, rfl⟩ ⟨Nat.le_of_ble_eq_true rfl, Nat.le_of_ble_eq_true rfl⟩ dX6_readGroup_13 rfl rfl (Nat.le_of_ble_eq_true rfl) ⟨Nat.zero_le _, Nat.zero_le _⟩) (fun x16 ix16 L17 T18 N19 I20 J21 R22 dz23 dl24 H locs hp15 hMn => ?_)
  obtain ⟨yL17, yT18, yN19, yR22, hFc25, hp15a⟩ := hp15
  obtain rfl := yL17.symm; obtain rfl := yT18.symm; obtain rfl := yN19.symm; obtain rfl := yR22.symm
  replace hF : Fr mo_X6_readGroup [] T N I J R T N I20 J21 R := hF.trans hFc25 (by decide) e20
  have hM := hMn
  clear hMn
  replace hp15a : (0 : Int) ≤ x16 ∧ x16 ≤ 1 ∧ (I20 a_this 5 ≤ g_n ∧ g_S (I20 a_this 5).toNat = I20 a_this 6 ∧ I a_this 5 ≤ I20 a_this 5 ∧ ((x16 = 0 ∧ I20 a_this 1 ≠ 0) ∨ (x16 = 1 ∧ I20 a_this 1 = I a_this 1 ∧ I a_this 5 + 1 ≤ I20 a_this 5)) ∧ (x16 = 0 ∨ x11 < (8 : Int))) := hp15a
  obtain ⟨hp15a_0, hp15a_1, hp15a_2⟩ := hp15a
  obtain ⟨hp15a_2_0, hp15a_2_1, hp15a_2_2, hp15a_2_3, hp15a_2_4⟩ := hp15a_2
  obtain ⟨x26, e27⟩ : ∃ v, I20 a_this 5 = v := ⟨_, rfl⟩
  obtain ⟨x28, e29⟩ : ∃ v, I20 a_this 6 = v := ⟨_, rfl⟩
  have nz30 : g_S (x26).toNat = x28 := by have h9 := hp15a_2_1; rw [e27, e29] at h9; exact h9
  obtain ⟨x31, e32⟩ : ∃ v, I20 a_this 1 = v := ⟨_, rfl⟩
  refine q_ine (tgt := 21) B dX6_readGroup_16 (by decide) (by unfold inr; omega) (fun c33 => ?_) (fun c33 => ?_)
  · refine lv_aload_n B.1 B.2.1 dX6_readGroup_21 rfl (lv_at hl 1 rfl) ?_
    refine q_con B dX6_readGroup_22 ?_
    refine c_puti (k := 9) pk_X6 B hM t_this kd7 rfl (by decide) fl_X6_101 (Or.inl rfl) dX6_readGroup_23 rfl rfl rfl (show (0 : Int) ≤ 0 from by omega) (show 0 ≤ (8 : Int) from by omega) (fun I34 H locs hu35 hM => ?_)
    have e36 : I34 a_this 9 = 0 := w2_at hu35
    replace hF : Fr mo_X6_readGroup [] T N I J R T N I34 J21 R := hF.wi hu35 (fun _ _ => by rw [t_this]; rfl)
    refine lv_aload_n B.1 B.2.1 dX6_readGroup_26 rfl (lv_at hl 1 rfl) ?_
    have e37 : I34 a_this 6 = x28 := (w2_ne hu35 (Or.inr (by decide))).trans e29
    have r38 : (-2147483648 : Int) ≤ x28 ∧ x28 ≤ 2147483647 := by rw [← e37]; exact g7_6 hM.2.2.2.2.2.2.1 t_this
    refine c_geti (k := 6) pk_X6 B hM t_this kd7 rfl (by decide) fl_X6_47 dX6_readGroup_27 e37 ?_
    refine q_bip B dX6_readGroup_30 (by decide) ?_
    refine q_cne (tgt := 49) B dX6_readGroup_32 (by decide) (by unfold inr; omega) (by unfold inr; omega) (fun c39 => ?_) (fun c39 => ?_)
    · refine lv_aload_n B.1 B.2.1 dX6_readGroup_49 rfl (lv_at hl 1 rfl) ?_
      refine c_getn (k := 0) pk_X6 B hM t_this kd7 rfl (by decide) fl_X6_22 dX6_readGroup_50 e9 ?_
      refine lv_aload_n B.1 B.2.1 dX6_readGroup_53 rfl (lv_at hl 1 rfl) ?_
      obtain ⟨b40, e41, t42⟩ := g7_8 hC0 t_this
      refine c_getn (k := 8) pk_X6 B hM t_this kd7 rfl (by decide) fl_X6_25 dX6_readGroup_54 e41 ?_
      refine lv_aload_n B.1 B.2.1 dX6_readGroup_57 rfl (lv_at hl 1 rfl) ?_
      refine c_geti (k := 9) pk_X6 B hM t_this kd7 rfl (by decide) fl_X6_101 dX6_readGroup_58 e36 ?_
      have hv43 : ((-2147483648 : Int) ≤ 0 ∧ (0 : Int) ≤ 2147483647) ∧ (0 ≤ (0 : Int)) ∧ ((0 : Int) ≤ 8) := by first | omega | exact ⟨by first | omega | assumption | exact trivial, by first | omega | assumption | exact trivial, by first | omega | assumption | exact trivial⟩
      refine z_callv hM hA (c_runV (n := 2) (as := [.ref b40, .int (II 0)]) (rest := []) B hX hA hM hl.1 t10 kd6 rfl (k_X0_addGroup l D dA eA L T N I34 J21 R b8 t10 b40 t42 (0) hv43.1 hv43.2.1 hv43.2.2 _ _) ml_X6_118 nm_X0_addGroup ⟨rfl, rfl⟩ ⟨Nat.le_of_ble_eq_true rfl, Nat.le_of_ble_eq_true rfl⟩ dX6_readGroup_61 rfl rfl (Nat.le_of_ble_eq_true rfl) ⟨Nat.zero_le _, Nat.zero_le _⟩) (fun L46 T47 N48 I49 J50 R51 dz52 dl53 H locs hp44 hMn => ?_)
      obtain ⟨yL46, yT47, yN48, yJ50, yR51, hFc54, hp44a⟩ := hp44
      obtain rfl := yL46.symm; obtain rfl := yT47.symm; obtain rfl := yN48.symm; obtain rfl := yJ50.symm; obtain rfl := yR51.symm
      replace hF : Fr mo_X6_readGroup [] T N I J R T N I49 J21 R := hF.trans hFc54 (by decide) e20
      have hM := hMn
      clear hMn
      clear hp44a
      refine lv_aload_n B.1 B.2.1 dX6_readGroup_64 rfl (lv_at hl 1 rfl) ?_
      refine q_bip B dX6_readGroup_65 (by decide) ?_
      have e55 : I34 a_this 5 = x26 := (w2_ne hu35 (Or.inr (by decide))).trans e27
      have e56 : I49 a_this 5 = x26 := (hFc54.i t_this (by decide) nm0 rfl).trans e55
      have e57 : I49 a_this 6 = x28 := (hFc54.i t_this (by decide) nm0 rfl).trans e37
      have hv58 : ((-2147483648 : Int) ≤ 59 ∧ (59 : Int) ≤ 2147483647) ∧ (TKz g_S g_n) ∧ (I49 a_this 5 ≤ g_n) ∧ ((59 : Int) ≠ 0) ∧ ((59 : Int) ≠ 1) := by first | omega | exact ⟨by first | omega | assumption | exact trivial, by first | omega | assumption | exact trivial, by first | omega | assumption | exact trivial, by first | omega | assumption | exact trivial, by first | omega | assumption | exact trivial⟩
      refine z_calli hM hA (c_runV (n := 1) (as := [.int (II 59)]) (rest := []) B hX hA hM hl.1 t_this kd7 rfl (k_X6_readSign l D dA eA L T N I49 J21 R a_this t_this (59) hv58.1 g_t g_s g_S g_n (show R a_this 3 = g_t + 1 from p_0) (show T g_t = 3 from p_1) (show R g_t 0 = g_s + 1 from p_2) (show T g_s = 62 from p_3) (show I49 g_s = g_S from ((Fr.irow hF p_3 (by decide) nm0 (by decide)).trans p_4)) hv58.2.1 hv58.2.2.1 (show g_S (I49 a_this 5).toNat = I49 a_this 6 from by rw [e56, e57]; first | assumption | omega) hv58.2.2.2.1 hv58.2.2.2.2 _ _) ml_X6_122 nm_X6_readSign ⟨rfl, rfl⟩ ⟨Nat.le_of_ble_eq_true rfl, Nat.le_of_ble_eq_true rfl⟩ dX6_readGroup_67 rfl rfl (Nat.le_of_ble_eq_true rfl) ⟨Nat.zero_le _, Nat.zero_le _⟩) (fun x60 ix60 L61 T62 N63 I64 J65 R66 dz67 dl68 H locs hp59 hMn => ?_)
      obtain ⟨yL61, yT62, yN63, yR66, hFc69, hp59a⟩ := hp59
      obtain rfl := yL61.symm; obtain rfl := yT62.symm; obtain rfl := yN63.symm; obtain rfl := yR66.symm
      replace hF : Fr mo_X6_readGroup [] T N I J R T N I64 J65 R := hF.trans hFc69 (by decide) e20
      have hM := hMn
      clear hMn
      replace hp59a : (0 : Int) ≤ x60 ∧ x60 ≤ 1 ∧ (I64 a_this 5 ≤ g_n ∧ g_S (I64 a_this 5).toNat = I64 a_this 6 ∧ I49 a_this 5 ≤ I64 a_this 5 ∧ ((x60 = 0 ∧ I64 a_this 1 ≠ 0) ∨ (x60 = 1 ∧ I64 a_this 1 = I49 a_this 1 ∧ I49 a_this 5 + 1 ≤ I64 a_this 5))) := hp59a
      obtain ⟨hp59a_0, hp59a_1, hp59a_2⟩ := hp59a
      obtain ⟨hp59a_2_0, hp59a_2_1, hp59a_2_2, hp59a_2_3⟩ := hp59a_2
      obtain ⟨x70, e71⟩ : ∃ v, I64 a_this 5 = v := ⟨_, rfl⟩
      obtain ⟨x72, e73⟩ : ∃ v, I64 a_this 6 = v := ⟨_, rfl⟩
      have nz74 : g_S (x70).toNat = x72 := by have h9 := hp59a_2_1; rw [e71, e73] at h9; exact h9
      have e75 : I34 a_this 1 = x31 := (w2_ne hu35 (Or.inr (by decide))).trans e32
      have e76 : I49 a_this 1 = x31 := (hFc54.i t_this (by decide) nm0 rfl).trans e75
      obtain ⟨x77, e78⟩ : ∃ v, I64 a_this 1 = v := ⟨_, rfl⟩
      refine g_zret B hM dX6_readGroup_70 ⟨Nat.le_refl _, Nat.le_refl _⟩ (by omega) (by omega) ?_
      rw [← hPST]
      exact ⟨x60, rfl, by omega, rfl, rfl, rfl, rfl, hF, by omega, by omega, by first | omega | assumption | exact trivial, by show g_S (I64 a_this 5).toNat = I64 a_this 6; rw [e71, e73]; first | assumption | omega, by first | omega | assumption | exact trivial, by first | omega | assumption | exact trivial⟩
    · refine lv_aload_n B.1 B.2.1 dX6_readGroup_35 rfl (lv_at hl 1 rfl) ?_
      have e79 : I34 a_this 5 = x26 := (w2_ne hu35 (Or.inr (by decide))).trans e27
      have hv80 : (TKz g_S g_n) ∧ (I34 a_this 5 ≤ g_n) := by first | omega | exact ⟨by first | omega | assumption | exact trivial, by first | omega | assumption | exact trivial⟩
      refine z_callv hM hA (c_runV (n := 0) (as := []) (rest := []) B hX hA hM hl.1 t_this kd7 rfl (k_X6_advance l D dA eA L T N I34 J21 R a_this t_this g_t g_s g_S g_n (show R a_this 3 = g_t + 1 from p_0) (show T g_t = 3 from p_1) (show R g_t 0 = g_s + 1 from p_2) (show T g_s = 62 from p_3) (show I34 g_s = g_S from ((Fr.irow hF p_3 (by decide) nm0 (by decide)).trans p_4)) hv80.1 hv80.2 (show g_S (I34 a_this 5).toNat = I34 a_this 6 from by rw [e79, e37]; first | assumption | omega) _ _) ml_X6_87 nm_X6_advance ⟨rfl, rfl⟩ ⟨Nat.le_of_ble_eq_true rfl, Nat.le_of_ble_eq_true rfl⟩ dX6_readGroup_36 rfl rfl (Nat.le_of_ble_eq_true rfl) ⟨Nat.zero_le _, Nat.zero_le _⟩) (fun L83 T84 N85 I86 J87 R88 dz89 dl90 H locs hp81 hMn => ?_)
      obtain ⟨yL83, yT84, yN85, yR88, hFc91, hp81a⟩ := hp81
      obtain rfl := yL83.symm; obtain rfl := yT84.symm; obtain rfl := yN85.symm; obtain rfl := yR88.symm
      replace hF : Fr mo_X6_readGroup [] T N I J R T N I86 J87 R := hF.trans hFc91 (by decide) e20
      have hM := hMn
      clear hMn
      replace hp81a : I86 a_this 5 ≤ g_n ∧ g_S (I86 a_this 5).toNat = I86 a_this 6 ∧ (((I34 a_this 6 = 0 ∨ I34 a_this 6 = 1) ∧ I86 a_this 5 = I34 a_this 5) ∨ (I86 a_this 5 = I34 a_this 5 + 1)) := hp81a
      obtain ⟨hp81a_0, hp81a_1, hp81a_2⟩ := hp81a
      obtain ⟨x92, e93⟩ : ∃ v, I86 a_this 5 = v := ⟨_, rfl⟩
      obtain ⟨x94, e95⟩ : ∃ v, I86 a_this 6 = v := ⟨_, rfl⟩
      have nz96 : g_S (x92).toNat = x94 := by have h9 := hp81a_1; rw [e93, e95] at h9; exact h9
      refine lv_aload_n B.1 B.2.1 dX6_readGroup_39 rfl (lv_at hl 1 rfl) ?_
      refine lv_iload_n B.1 B.2.1 dX6_readGroup_40 rfl (lv_at hl 0 rfl) ?_
      have hv97 : ((-2147483648 : Int) ≤ x11 ∧ (x11 : Int) ≤ 2147483647) ∧ (TKz g_S g_n) ∧ (I86 a_this 5 ≤ g_n) := by first | omega | exact ⟨by first | omega | assumption | exact trivial, by first | omega | assumption | exact trivial, by first | omega | assumption | exact trivial⟩
      refine z_calli hM hA (c_runV (n := 1) (as := [.int (II x11)]) (rest := []) B hX hA hM hl.1 t_this kd7 rfl (k_X6_readRow l D dA eA L T N I86 J87 R a_this t_this x11 hv97.1 g_t g_s g_S g_n (show R a_this 3 = g_t + 1 from p_0) (show T g_t = 3 from p_1) (show R g_t 0 = g_s + 1 from p_2) (show T g_s = 62 from p_3) (show I86 g_s = g_S from ((Fr.irow hF p_3 (by decide) nm0 (by decide)).trans p_4)) hv97.2.1 hv97.2.2 (show g_S (I86 a_this 5).toNat = I86 a_this 6 from by rw [e93, e95]; first | assumption | omega) _ _) ml_X6_115 nm_X6_readRow ⟨rfl, rfl⟩ ⟨Nat.le_of_ble_eq_true rfl, Nat.le_of_ble_eq_true rfl⟩ dX6_readGroup_41 rfl rfl (Nat.le_of_ble_eq_true rfl) ⟨Nat.zero_le _, Nat.zero_le _⟩) (fun x99 ix99 L100 T101 N102 I103 J104 R105 dz106 dl107 H locs hp98 hMn => ?_)
      obtain ⟨yL100, yT101, yN102, yR105, hFc108, hp98a⟩ := hp98
      obtain rfl := yL100.symm; obtain rfl := yT101.symm; obtain rfl := yN102.symm; obtain rfl := yR105.symm
      replace hF : Fr mo_X6_readGroup [] T N I J R T N I103 J104 R := hF.trans hFc108 (by decide) e20
      have hM := hMn
      clear hMn
      replace hp98a : (0 : Int) ≤ x99 ∧ x99 ≤ 1 ∧ (I103 a_this 5 ≤ g_n ∧ g_S (I103 a_this 5).toNat = I103 a_this 6 ∧ I86 a_this 5 ≤ I103 a_this 5 ∧ ((x99 = 0 ∧ I103 a_this 1 ≠ 0) ∨ (x99 = 1 ∧ I103 a_this 1 = I86 a_this 1 ∧ I86 a_this 5 + 1 ≤ I103 a_this 5))) := hp98a
      obtain ⟨hp98a_0, hp98a_1, hp98a_2⟩ := hp98a
      obtain ⟨hp98a_2_0, hp98a_2_1, hp98a_2_2, hp98a_2_3⟩ := hp98a_2
      obtain ⟨x109, e110⟩ : ∃ v, I103 a_this 5 = v := ⟨_, rfl⟩
      obtain ⟨x111, e112⟩ : ∃ v, I103 a_this 6 = v := ⟨_, rfl⟩
      have nz113 : g_S (x109).toNat = x111 := by have h9 := hp98a_2_1; rw [e110, e112] at h9; exact h9
      have e114 : I34 a_this 1 = x31 := (w2_ne hu35 (Or.inr (by decide))).trans e32
      have e115 : I86 a_this 1 = x31 := (hFc91.i t_this (by decide) nm0 rfl).trans e114
      obtain ⟨x116, e117⟩ : ∃ v, I103 a_this 1 = v := ⟨_, rfl⟩
      refine q_ine (tgt := 49) B dX6_readGroup_44 (by decide) (by unfold inr; omega) (fun c118 => ?_) (fun c118 => ?_)
      · refine lv_aload_n B.1 B.2.1 dX6_readGroup_49 rfl (lv_at hl 1 rfl) ?_
        refine c_getn (k := 0) pk_X6 B hM t_this kd7 rfl (by decide) fl_X6_22 dX6_readGroup_50 e9 ?_
        refine lv_aload_n B.1 B.2.1 dX6_readGroup_53 rfl (lv_at hl 1 rfl) ?_
        obtain ⟨b119, e120, t121⟩ := g7_8 hC0 t_this
        refine c_getn (k := 8) pk_X6 B hM t_this kd7 rfl (by decide) fl_X6_25 dX6_readGroup_54 e120 ?_
        refine lv_aload_n B.1 B.2.1 dX6_readGroup_57 rfl (lv_at hl 1 rfl) ?_
        have e122 : I86 a_this 9 = 0 := (hFc91.i t_this (by decide) nm0 rfl).trans e36
        obtain ⟨x123, e124⟩ : ∃ v, I103 a_this 9 = v := ⟨_, rfl⟩
        have r125 : (0 : Int) ≤ x123 ∧ x123 ≤ 8 := by rw [← e124]; exact g7_9 hM.2.2.2.2.2.2.1 t_this
        refine c_geti (k := 9) pk_X6 B hM t_this kd7 rfl (by decide) fl_X6_101 dX6_readGroup_58 e124 ?_
        have hv126 : ((-2147483648 : Int) ≤ x123 ∧ (x123 : Int) ≤ 2147483647) ∧ (0 ≤ x123) ∧ (x123 ≤ 8) := by first | omega | exact ⟨by first | omega | assumption | exact trivial, by first | omega | assumption | exact trivial, by first | omega | assumption | exact trivial⟩
        refine z_callv hM hA (c_runV (n := 2) (as := [.ref b119, .int (II x123)]) (rest := []) B hX hA hM hl.1 t10 kd6 rfl (k_X0_addGroup l D dA eA L T N I103 J104 R b8 t10 b119 t121 x123 hv126.1 hv126.2.1 hv126.2.2 _ _) ml_X6_118 nm_X0_addGroup ⟨rfl, rfl⟩ ⟨Nat.le_of_ble_eq_true rfl, Nat.le_of_ble_eq_true rfl⟩ dX6_readGroup_61 rfl rfl (Nat.le_of_ble_eq_true rfl) ⟨Nat.zero_le _, Nat.zero_le _⟩) (fun L129 T130 N131 I132 J133 R134 dz135 dl136 H locs hp127 hMn => ?_)
        obtain ⟨yL129, yT130, yN131, yJ133, yR134, hFc137, hp127a⟩ := hp127
        obtain rfl := yL129.symm; obtain rfl := yT130.symm; obtain rfl := yN131.symm; obtain rfl := yJ133.symm; obtain rfl := yR134.symm
        replace hF : Fr mo_X6_readGroup [] T N I J R T N I132 J104 R := hF.trans hFc137 (by decide) e20
        have hM := hMn
        clear hMn
        clear hp127a
        refine lv_aload_n B.1 B.2.1 dX6_readGroup_64 rfl (lv_at hl 1 rfl) ?_
        refine q_bip B dX6_readGroup_65 (by decide) ?_
        have e138 : I132 a_this 5 = x109 := (hFc137.i t_this (by decide) nm0 rfl).trans e110
        have e139 : I132 a_this 6 = x111 := (hFc137.i t_this (by decide) nm0 rfl).trans e112
        have hv140 : ((-2147483648 : Int) ≤ 59 ∧ (59 : Int) ≤ 2147483647) ∧ (TKz g_S g_n) ∧ (I132 a_this 5 ≤ g_n) ∧ ((59 : Int) ≠ 0) ∧ ((59 : Int) ≠ 1) := by first | omega | exact ⟨by first | omega | assumption | exact trivial, by first | omega | assumption | exact trivial, by first | omega | assumption | exact trivial, by first | omega | assumption | exact trivial, by first | omega | assumption | exact trivial⟩
        refine z_calli hM hA (c_runV (n := 1) (as := [.int (II 59)]) (rest := []) B hX hA hM hl.1 t_this kd7 rfl (k_X6_readSign l D dA eA L T N I132 J104 R a_this t_this (59) hv140.1 g_t g_s g_S g_n (show R a_this 3 = g_t + 1 from p_0) (show T g_t = 3 from p_1) (show R g_t 0 = g_s + 1 from p_2) (show T g_s = 62 from p_3) (show I132 g_s = g_S from ((Fr.irow hF p_3 (by decide) nm0 (by decide)).trans p_4)) hv140.2.1 hv140.2.2.1 (show g_S (I132 a_this 5).toNat = I132 a_this 6 from by rw [e138, e139]; first | assumption | omega) hv140.2.2.2.1 hv140.2.2.2.2 _ _) ml_X6_122 nm_X6_readSign ⟨rfl, rfl⟩ ⟨Nat.le_of_ble_eq_true rfl, Nat.le_of_ble_eq_true rfl⟩ dX6_readGroup_67 rfl rfl (Nat.le_of_ble_eq_true rfl) ⟨Nat.zero_le _, Nat.zero_le _⟩) (fun x142 ix142 L143 T144 N145 I146 J147 R148 dz149 dl150 H locs hp141 hMn => ?_)
        obtain ⟨yL143, yT144, yN145, yR148, hFc151, hp141a⟩ := hp141
        obtain rfl := yL143.symm; obtain rfl := yT144.symm; obtain rfl := yN145.symm; obtain rfl := yR148.symm
        replace hF : Fr mo_X6_readGroup [] T N I J R T N I146 J147 R := hF.trans hFc151 (by decide) e20
        have hM := hMn
        clear hMn
        replace hp141a : (0 : Int) ≤ x142 ∧ x142 ≤ 1 ∧ (I146 a_this 5 ≤ g_n ∧ g_S (I146 a_this 5).toNat = I146 a_this 6 ∧ I132 a_this 5 ≤ I146 a_this 5 ∧ ((x142 = 0 ∧ I146 a_this 1 ≠ 0) ∨ (x142 = 1 ∧ I146 a_this 1 = I132 a_this 1 ∧ I132 a_this 5 + 1 ≤ I146 a_this 5))) := hp141a
        obtain ⟨hp141a_0, hp141a_1, hp141a_2⟩ := hp141a
        obtain ⟨hp141a_2_0, hp141a_2_1, hp141a_2_2, hp141a_2_3⟩ := hp141a_2
        obtain ⟨x152, e153⟩ : ∃ v, I146 a_this 5 = v := ⟨_, rfl⟩
        obtain ⟨x154, e155⟩ : ∃ v, I146 a_this 6 = v := ⟨_, rfl⟩
        have nz156 : g_S (x152).toNat = x154 := by have h9 := hp141a_2_1; rw [e153, e155] at h9; exact h9
        have e157 : I132 a_this 1 = x116 := (hFc137.i t_this (by decide) nm0 rfl).trans e117
        obtain ⟨x158, e159⟩ : ∃ v, I146 a_this 1 = v := ⟨_, rfl⟩
        refine g_zret B hM dX6_readGroup_70 ⟨Nat.le_refl _, Nat.le_refl _⟩ (by omega) (by omega) ?_
        rw [← hPST]
        exact ⟨x142, rfl, by omega, rfl, rfl, rfl, rfl, hF, by omega, by omega, by first | omega | assumption | exact trivial, by show g_S (I146 a_this 5).toNat = I146 a_this 6; rw [e153, e155]; first | assumption | omega, by first | omega | assumption | exact trivial, by first | omega | assumption | exact trivial⟩
      · refine q_con B dX6_readGroup_47 ?_
        refine g_zret B hM dX6_readGroup_48 ⟨Nat.le_refl _, Nat.le_refl _⟩ (by omega) (by omega) ?_
        rw [← hPST]
        exact ⟨(0), rfl, by omega, rfl, rfl, rfl, rfl, hF, by omega, by omega, by first | omega | assumption | exact trivial, by show g_S (I103 a_this 5).toNat = I103 a_this 6; rw [e110, e112]; first | assumption | omega, by first | omega | assumption | exact trivial, by first | omega | assumption | exact trivial⟩
  · refine q_con B dX6_readGroup_19 ?_
    refine g_zret B hM dX6_readGroup_20 ⟨Nat.le_refl _, Nat.le_refl _⟩ (by omega) (by omega) ?_
    rw [← hPST]
    exact ⟨(0), rfl, by omega, rfl, rfl, rfl, rfl, hF, by omega, by omega, by first | omega | assumption | exact trivial, by show g_S (I20 a_this 5).toNat = I20 a_this 6; rw [e27, e29]; first | assumption | omega, by first | omega | assumption | exact trivial, by first | omega | assumption | exact trivial⟩
