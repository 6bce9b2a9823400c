def mo_X6_advance : List Nat := [229, 230, 231]
set_option maxHeartbeats 1000000 in
set_option maxRecDepth 20000 in
theorem k_X6_advance (l : Launch) (D : va_G) (dA : Nat → ClassId) (eA : Nat) (L : List Nat) (T N : Nat → Nat) (I : Nat → Nat → Int) (J : Nat → Nat → Int64) (R : Nat → Nat → Nat) (a_this : Nat) (t_this : T a_this = 7) (g_t : Nat) (g_s : Nat) (g_S : Nat → Int) (g_n : Int) (p_0 : R a_this 3 = g_t + 1) (p_1 : T g_t = 3) (p_2 : R g_t 0 = g_s + 1) (p_3 : T g_s = 62) (p_4 : I g_s = g_S) (p_5 : TKz g_S g_n) (p_6 : I a_this 5 ≤ g_n) (p_7 : g_S (I a_this 5).toNat = I a_this 6) : GC l yX6_advance cX6_advance 1 none ({ frames := 0, cells := 0, slots := 0, locals := 0 }) D dA eA L T N I J R [.ref a_this] 0 0 (gV (fun L' T' N' I' J' R' dz dl => L' = L ∧ T' = T ∧ N' = N ∧ R' = R ∧ Fr mo_X6_advance [] T N I J R T' N' I' J' R' ∧ I' a_this 5 ≤ g_n ∧ g_S (I' a_this 5).toNat = I' a_this 6 ∧ (((I a_this 6 = 0 ∨ I a_this 6 = 1) ∧ I' a_this 5 = I a_this 5) ∨ (I' a_this 5 = I a_this 5 + 1)))) := by
  generalize hPST : (gV (fun L' T' N' I' J' R' dz dl => L' = L ∧ T' = T ∧ N' = N ∧ R' = R ∧ Fr mo_X6_advance [] T N I J R T' N' I' J' R' ∧ I' a_this 5 ≤ g_n ∧ g_S (I' a_this 5).toNat = I' a_this 6 ∧ (((I a_this 6 = 0 ∨ I a_this 6 = 1) ∧ I' a_this 5 = I a_this 5) ∨ (I' a_this 5 = I a_this 5 + 1)))) = PST
  refine g_enter (own := RX6) (by decide) rfl (Nat.le_of_ble_eq_true rfl) (fun p e s m args below meth c ls hm B hX hM hl => ?_)
  have hC0 := hM.2.2.2.2.2.2.1
  have hW0 := hM.2.2.2
  have hF : Fr mo_X6_advance [] T N I J R T N I J R := Fr.rf
  have hA : ∀ q, s.heap.size ≤ q → cF dA L T N I J R s.heap.size q := fun q h => Or.inr h
  have hl : lv_has ls 1 [(0, .ref a_this)] := hl
  obtain ⟨x1, e2⟩ : ∃ v, I a_this 5 = v := ⟨_, rfl⟩
  obtain ⟨x3, e4⟩ : ∃ v, I a_this 6 = v := ⟨_, rfl⟩
  have nz5 : g_S (x1).toNat = x3 := by have h9 := p_7; rw [e2, e4] at h9; exact h9
  refine lv_aload_n B.1 B.2.1 dX6_advance_0 rfl (lv_at hl 0 rfl) ?_
  have r6 : (-2147483648 : Int) ≤ x3 ∧ x3 ≤ 2147483647 := by rw [← e4]; exact g7_6 hM.2.2.2.2.2.2.1 t_this
  refine c_geti (k := 6) pk_X6 B hM t_this kd7 rfl (by decide) fl_X6_47 dX6_advance_1 e4 ?_
  refine q_ieq (tgt := 67) B dX6_advance_4 (by decide) (by unfold inr; omega) (fun c7 => ?_) (fun c7 => ?_)
  · refine g_vret B hM dX6_advance_67 ⟨Nat.le_refl _, Nat.le_refl _⟩ ?_
    rw [← hPST]
    exact ⟨rfl, rfl, rfl, rfl, rfl, hF, by first | omega | assumption | exact trivial, by show g_S (I a_this 5).toNat = I a_this 6; rw [e2, e4]; first | assumption | omega, by first | omega | assumption | exact trivial⟩
  · refine lv_aload_n B.1 B.2.1 dX6_advance_7 rfl (lv_at hl 0 rfl) ?_
    refine c_geti (k := 6) pk_X6 B hM t_this kd7 rfl (by decide) fl_X6_47 dX6_advance_8 e4 ?_
    refine q_con B dX6_advance_11 ?_
    refine q_ceq (tgt := 67) B dX6_advance_12 (by decide) (by unfold inr; omega) (by unfold inr; omega) (fun c8 => ?_) (fun c8 => ?_)
    · refine g_vret B hM dX6_advance_67 ⟨Nat.le_refl _, Nat.le_refl _⟩ ?_
      rw [← hPST]
      exact ⟨rfl, rfl, rfl, rfl, rfl, hF, by first | omega | assumption | exact trivial, by show g_S (I a_this 5).toNat = I a_this 6; rw [e2, e4]; first | assumption | omega, by first | omega | assumption | exact trivial⟩
    · have hn3 := p_5.2.1
      have hlt : x1 < g_n := by refine TKz.lt p_5 ?_ ?_ ?_ <;> rw [← e2] <;> first | (rw [p_7, e4]; omega) | omega
      refine lv_aload_n B.1 B.2.1 dX6_advance_15 rfl (lv_at hl 0 rfl) ?_
      have r9 : (0 : Int) ≤ x1 ∧ x1 ≤ 3000 := by rw [← e2]; exact g7_5 hM.2.2.2.2.2.2.1 t_this
      refine c_geti (k := 5) pk_X6 B hM t_this kd7 rfl (by decide) fl_X6_39 dX6_advance_16 e2 ?_
      refine q_sip B dX6_advance_19 (by decide) ?_
      refine q_cge (tgt := 67) B dX6_advance_22 (by decide) (by unfold inr; omega) (by unfold inr; omega) (fun c10 => ?_) (fun c10 => ?_)
      · refine g_vret B hM dX6_advance_67 ⟨Nat.le_refl _, Nat.le_refl _⟩ ?_
        rw [← hPST]
        exact ⟨rfl, rfl, rfl, rfl, rfl, hF, by first | omega | assumption | exact trivial, by show g_S (I a_this 5).toNat = I a_this 6; rw [e2, e4]; first | assumption | omega, by first | omega | assumption | exact trivial⟩
      · refine lv_aload_n B.1 B.2.1 dX6_advance_25 rfl (lv_at hl 0 rfl) ?_
        refine lv_dup B.1 B.2.1 dX6_advance_26 rfl ?_
        refine c_geti (k := 5) pk_X6 B hM t_this kd7 rfl (by decide) fl_X6_39 dX6_advance_27 e2 ?_
        refine q_con B dX6_advance_30 ?_
        refine q_add B dX6_advance_31 ?_
        refine c_puti (k := 5) pk_X6 B hM t_this kd7 rfl (by decide) fl_X6_39 (Or.inl rfl) dX6_advance_32 rfl rfl rfl (show (0 : Int) ≤ x1 + (1 : Int) from by omega) (show x1 + (1 : Int) ≤ (3000 : Int) from by omega) (fun I11 H locs hu12 hM => ?_)
        have e13 : I11 a_this 5 = x1 + (1 : Int) := w2_at hu12
        replace hF : Fr mo_X6_advance [] T N I J R T N I11 J R := hF.wi hu12 (fun _ _ => by rw [t_this]; rfl)
        refine lv_aload_n B.1 B.2.1 dX6_advance_35 rfl (lv_at hl 0 rfl) ?_
        refine lv_aload_n B.1 B.2.1 dX6_advance_36 rfl (lv_at hl 0 rfl) ?_
        refine c_getn (k := 3) pk_X6 B hM t_this kd7 rfl (by decide) fl_X6_9 dX6_advance_37 p_0 ?_
        refine c_getn (k := 0) pk_X9 B hM p_1 kd3 rfl (by decide) fl_X6_42 dX6_advance_40 p_2 ?_
        refine lv_aload_n B.1 B.2.1 dX6_advance_43 rfl (lv_at hl 0 rfl) ?_
        have r14 : (0 : Int) ≤ x1 + (1 : Int) ∧ x1 + (1 : Int) ≤ 3000 := by rw [← e13]; exact g7_5 hM.2.2.2.2.2.2.1 t_this
        refine c_geti (k := 5) pk_X6 B hM t_this kd7 rfl (by decide) fl_X6_39 dX6_advance_44 e13 ?_
        have n15 : 3001 ≤ N g_s ∧ N g_s ≤ 3001 := gn62 hM.2.2.2.2.2.2.1 p_3
        obtain ⟨x16, e17⟩ : ∃ v, I g_s ((x1 + (1 : Int)).toNat) = v := ⟨_, rfl⟩
        have e18 : I11 g_s ((x1 + (1 : Int)).toNat) = x16 := (hF.i p_3 (by decide) nm0 (by rw [cd_arr (j := 0) (by decide)]; rfl)).trans e17
        have r19 : (-2147483648 : Int) ≤ x16 ∧ x16 ≤ 2147483647 := by rw [← e18]; exact ga62 hM.2.2.2.2.2.2.1 p_3 (by omega)
        refine c_ild B hM p_3 kd62 an62 dX6_advance_47 (by omega) (by omega) e18 ?_
        have hsx : g_S ((x1 + (1 : Int)).toNat) = x16 := by rw [← e18]; exact (congrFun ((Fr.irow hF p_3 (by decide) nm0 (by decide)).trans p_4) _).symm
        refine c_puti (k := 6) pk_X6 B hM t_this kd7 rfl (by decide) fl_X6_47 (Or.inl rfl) dX6_advance_48 rfl rfl rfl (show (-2147483648 : Int) ≤ x16 from by omega) (show x16 ≤ (2147483647 : Int) from by omega) (fun I20 H locs hu21 hM => ?_)
        have e22 : I20 a_this 6 = x16 := w2_at hu21
        replace hF : Fr mo_X6_advance [] T N I J R T N I20 J R := hF.wi hu21 (fun _ _ => by rw [t_this]; rfl)
        refine lv_aload_n B.1 B.2.1 dX6_advance_51 rfl (lv_at hl 0 rfl) ?_
        refine lv_aload_n B.1 B.2.1 dX6_advance_52 rfl (lv_at hl 0 rfl) ?_
        refine c_getn (k := 3) pk_X6 B hM t_this kd7 rfl (by decide) fl_X6_9 dX6_advance_53 p_0 ?_
        obtain ⟨b23, e24, t25⟩ := g3_2 hC0 p_1
        refine c_getn (k := 2) pk_X9 B hM p_1 kd3 rfl (by decide) fl_X6_50 dX6_advance_56 e24 ?_
        refine lv_aload_n B.1 B.2.1 dX6_advance_59 rfl (lv_at hl 0 rfl) ?_
        have e26 : I20 a_this 5 = x1 + (1 : Int) := (w2_ne hu21 (Or.inr (by decide))).trans e13
        refine c_geti (k := 5) pk_X6 B hM t_this kd7 rfl (by decide) fl_X6_39 dX6_advance_60 e26 ?_
        have n27 : 3001 ≤ N b23 ∧ N b23 ≤ 3001 := gn64 hM.2.2.2.2.2.2.1 t25
        obtain ⟨w28, e29⟩ : ∃ v, J b23 ((x1 + (1 : Int)).toNat) = v := ⟨_, rfl⟩
        refine c_lld B hM t25 kd64 an64 dX6_advance_63 (by omega) (by omega) e29 ?_
        refine c_putl (k := 7) pk_X6 B hM t_this kd7 rfl (by decide) fl_X6_54 (Or.inl rfl) dX6_advance_64 rfl rfl (fun J30 H locs hu31 hM => ?_)
        have e32 : J30 a_this 7 = w28 := w2_at hu31
        replace hF : Fr mo_X6_advance [] T N I J R T N I20 J30 R := hF.wj hu31 (fun _ _ => by rw [t_this]; rfl)
        refine g_vret B hM dX6_advance_67 ⟨Nat.le_refl _, Nat.le_refl _⟩ ?_
        rw [← hPST]
        exact ⟨rfl, rfl, rfl, rfl, rfl, hF, by first | omega | assumption | exact trivial, by show g_S (I20 a_this 5).toNat = I20 a_this 6; rw [e26, e22]; first | assumption | omega, by first | omega | assumption | exact trivial⟩

def mo_X6_wrong : List Nat := [225, 226]
set_option maxHeartbeats 1000000 in
set_option maxRecDepth 20000 in
theorem k_X6_wrong (l : Launch) (D : va_G) (dA : Nat → ClassId) (eA : Nat) (L : List Nat) (T N : Nat → Nat) (I : Nat → Nat → Int) (J : Nat → Nat → Int64) (R : Nat → Nat → Nat) (a_this : Nat) (t_this : T a_this = 7) (a_w : Int) (i_w : (-2147483648 : Int) ≤ a_w ∧ a_w ≤ 2147483647) (p_0 : a_w ≠ 0) : GC l yX6_wrong cX6_wrong 2 (some .boolean) ({ frames := 0, cells := 0, slots := 0, locals := 0 }) D dA eA L T N I J R [.ref a_this, .int (II a_w)] 0 0 (gI (fun r L' T' N' I' J' R' dz dl => L' = L ∧ T' = T ∧ N' = N ∧ J' = J ∧ R' = R ∧ Fr mo_X6_wrong [] T N I J R T' N' I' J' R' ∧ (0 : Int) ≤ r ∧ r ≤ 1 ∧ (r = 0 ∧ I' a_this 1 ≠ 0))) := by
  generalize hPST : (gI (fun r L' T' N' I' J' R' dz dl => L' = L ∧ T' = T ∧ N' = N ∧ J' = J ∧ R' = R ∧ Fr mo_X6_wrong [] T N I J R T' N' I' J' R' ∧ (0 : Int) ≤ r ∧ r ≤ 1 ∧ (r = 0 ∧ I' a_this 1 ≠ 0))) = PST
  refine g_enter (own := RX6) (by decide) rfl (Nat.le_of_ble_eq_true rfl) (fun p e s m args below meth c ls hm B hX hM hl => ?_)
  have hC0 := hM.2.2.2.2.2.2.1
  have hW0 := hM.2.2.2
  have hF : Fr mo_X6_wrong [] T N I J R T N I J R := Fr.rf
  have hA : ∀ q, s.heap.size ≤ q → cF dA L T N I J R s.heap.size q := fun q h => Or.inr h
  have hl : lv_has ls 2 [(0, .ref a_this), (1, .int (II a_w))] := hl
  refine lv_aload_n B.1 B.2.1 dX6_wrong_0 rfl (lv_at hl 0 rfl) ?_
  refine lv_aload_n B.1 B.2.1 dX6_wrong_1 rfl (lv_at hl 0 rfl) ?_
  obtain ⟨x1, e2⟩ : ∃ v, I a_this 6 = v := ⟨_, rfl⟩
  have r3 : (-2147483648 : Int) ≤ x1 ∧ x1 ≤ 2147483647 := by rw [← e2]; exact g7_6 hM.2.2.2.2.2.2.1 t_this
  refine c_geti (k := 6) pk_X6 B hM t_this kd7 rfl (by decide) fl_X6_47 dX6_wrong_2 e2 ?_
  refine q_con B dX6_wrong_5 ?_
  refine q_cne (tgt := 13) B dX6_wrong_6 (by decide) (by unfold inr; omega) (by unfold inr; omega) (fun c4 => ?_) (fun c4 => ?_)
  · refine lv_iload_n B.1 B.2.1 dX6_wrong_13 rfl (lv_at hl 1 rfl) ?_
    refine c_puti (k := 1) pk_X6 B hM t_this kd7 rfl (by decide) fl_X6_58 (Or.inl rfl) dX6_wrong_14 rfl rfl rfl (show (-2147483648 : Int) ≤ a_w from by omega) (show a_w ≤ (2147483647 : Int) from by omega) (fun I5 H locs hu6 hM => ?_)
    have e7 : I5 a_this 1 = a_w := w2_at hu6
    replace hF : Fr mo_X6_wrong [] T N I J R T N I5 J R := hF.wi hu6 (fun _ _ => by rw [t_this]; rfl)
    refine lv_aload_n B.1 B.2.1 dX6_wrong_17 rfl (lv_at hl 0 rfl) ?_
    refine lv_aload_n B.1 B.2.1 dX6_wrong_18 rfl (lv_at hl 0 rfl) ?_
    obtain ⟨b8, e9, t10⟩ := g7_3 hC0 t_this
    refine c_getn (k := 3) pk_X6 B hM t_this kd7 rfl (by decide) fl_X6_9 dX6_wrong_19 e9 ?_
    obtain ⟨b11, e12, t13⟩ := g3_1 hC0 t10
    refine c_getn (k := 1) pk_X9 B hM t10 kd3 rfl (by decide) fl_X6_61 dX6_wrong_22 e12 ?_
    refine lv_aload_n B.1 B.2.1 dX6_wrong_25 rfl (lv_at hl 0 rfl) ?_
    obtain ⟨x14, e15⟩ : ∃ v, I a_this 5 = v := ⟨_, rfl⟩
    have e16 : I5 a_this 5 = x14 := (hF.i t_this (by decide) nm0 rfl).trans e15
    have r17 : (0 : Int) ≤ x14 ∧ x14 ≤ 3000 := by rw [← e16]; exact g7_5 hM.2.2.2.2.2.2.1 t_this
    refine c_geti (k := 5) pk_X6 B hM t_this kd7 rfl (by decide) fl_X6_39 dX6_wrong_26 e16 ?_
    have n18 : 3001 ≤ N b11 ∧ N b11 ≤ 3001 := gn63 hM.2.2.2.2.2.2.1 t13
    obtain ⟨x19, e21⟩ : ∃ v, I b11 x14.toNat = v := ⟨_, rfl⟩
    have e22 : I5 b11 x14.toNat = x19 := (hF.i t13 (by decide) nm0 (by rw [cd_arr (j := 0) (by decide)]; rfl)).trans e21
    have r23 : (-2147483648 : Int) ≤ x19 ∧ x19 ≤ 2147483647 := by rw [← e22]; exact ga63 hM.2.2.2.2.2.2.1 t13 (by omega)
    refine c_ild B hM t13 kd63 an63 dX6_wrong_29 (by omega) (by omega) e22 ?_
    refine c_puti (k := 2) pk_X6 B hM t_this kd7 rfl (by decide) fl_X6_35 (Or.inl rfl) dX6_wrong_30 rfl rfl rfl (show (-2147483648 : Int) ≤ x19 from by omega) (show x19 ≤ (2147483647 : Int) from by omega) (fun I24 H locs hu25 hM => ?_)
    have e26 : I24 a_this 2 = x19 := w2_at hu25
    replace hF : Fr mo_X6_wrong [] T N I J R T N I24 J R := hF.wi hu25 (fun _ _ => by rw [t_this]; rfl)
    refine q_con B dX6_wrong_33 ?_
    have e27 : I24 a_this 1 = a_w := (w2_ne hu25 (Or.inr (by decide))).trans e7
    refine g_zret B hM dX6_wrong_34 ⟨Nat.le_refl _, Nat.le_refl _⟩ (by omega) (by omega) ?_
    rw [← hPST]
    exact ⟨(0), rfl, by omega, rfl, rfl, rfl, rfl, rfl, hF, by omega, by omega, by first | omega | assumption | exact trivial, by first | omega | assumption | exact trivial⟩
  · refine q_con B dX6_wrong_9 ?_
    refine lv_goto (tgt := 14) B.1 B.2.1 dX6_wrong_10 (by decide) ?_
    refine c_puti (k := 1) pk_X6 B hM t_this kd7 rfl (by decide) fl_X6_58 (Or.inl rfl) dX6_wrong_14 rfl rfl rfl (show (-2147483648 : Int) ≤ 1 from by omega) (show 1 ≤ (2147483647 : Int) from by omega) (fun I28 H locs hu29 hM => ?_)
    have e30 : I28 a_this 1 = 1 := w2_at hu29
    replace hF : Fr mo_X6_wrong [] T N I J R T N I28 J R := hF.wi hu29 (fun _ _ => by rw [t_this]; rfl)
    refine lv_aload_n B.1 B.2.1 dX6_wrong_17 rfl (lv_at hl 0 rfl) ?_
    refine lv_aload_n B.1 B.2.1 dX6_wrong_18 rfl (lv_at hl 0 rfl) ?_
    obtain ⟨b31, e32, t33⟩ := g7_3 hC0 t_this
    refine c_getn (k := 3) pk_X6 B hM t_this kd7 rfl (by decide) fl_X6_9 dX6_wrong_19 e32 ?_
    obtain ⟨b34, e35, t36⟩ := g3_1 hC0 t33
    refine c_getn (k := 1) pk_X9 B hM t33 kd3 rfl (by decide) fl_X6_61 dX6_wrong_22 e35 ?_
    refine lv_aload_n B.1 B.2.1 dX6_wrong_25 rfl (lv_at hl 0 rfl) ?_
    obtain ⟨x37, e38⟩ : ∃ v, I a_this 5 = v := ⟨_, rfl⟩
    have e39 : I28 a_this 5 = x37 := (hF.i t_this (by decide) nm0 rfl).trans e38
    have r40 : (0 : Int) ≤ x37 ∧ x37 ≤ 3000 := by rw [← e39]; exact g7_5 hM.2.2.2.2.2.2.1 t_this
    refine c_geti (k := 5) pk_X6 B hM t_this kd7 rfl (by decide) fl_X6_39 dX6_wrong_26 e39 ?_
    have n41 : 3001 ≤ N b34 ∧ N b34 ≤ 3001 := gn63 hM.2.2.2.2.2.2.1 t36
    obtain ⟨x42, e43⟩ : ∃ v, I b34 x37.toNat = v := ⟨_, rfl⟩
    have e44 : I28 b34 x37.toNat = x42 := (hF.i t36 (by decide) nm0 (by rw [cd_arr (j := 0) (by decide)]; rfl)).trans e43
    have r45 : (-2147483648 : Int) ≤ x42 ∧ x42 ≤ 2147483647 := by rw [← e44]; exact ga63 hM.2.2.2.2.2.2.1 t36 (by omega)
    refine c_ild B hM t36 kd63 an63 dX6_wrong_29 (by omega) (by omega) e44 ?_
    refine c_puti (k := 2) pk_X6 B hM t_this kd7 rfl (by decide) fl_X6_35 (Or.inl rfl) dX6_wrong_30 rfl rfl rfl (show (-2147483648 : Int) ≤ x42 from by omega) (show x42 ≤ (2147483647 : Int) from by omega) (fun I46 H locs hu47 hM => ?_)
    have e48 : I46 a_this 2 = x42 := w2_at hu47
    replace hF : Fr mo_X6_wrong [] T N I J R T N I46 J R := hF.wi hu47 (fun _ _ => by rw [t_this]; rfl)
    refine q_con B dX6_wrong_33 ?_
    have e49 : I46 a_this 1 = 1 := (w2_ne hu47 (Or.inr (by decide))).trans e30
    refine g_zret B hM dX6_wrong_34 ⟨Nat.le_refl _, Nat.le_refl _⟩ (by omega) (by omega) ?_
    rw [← hPST]
    exact ⟨(0), rfl, by omega, rfl, rfl, rfl, rfl, rfl, hF, by omega, by omega, by first | omega | assumption | exact trivial, by first | omega | assumption | exact trivial⟩
