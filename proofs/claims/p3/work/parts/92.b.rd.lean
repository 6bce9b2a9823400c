def mo_X6_advanceb : List Nat := [229, 230, 231]
set_option maxHeartbeats 1000000 in
set_option maxRecDepth 20000 in
theorem k_X6_advanceb (l : Launch) (D : va_G) (dA : Nat → ClassId) (eA : Nat) (L : List Nat) (T N : Nat → Nat) (I : Nat → Nat → Int) (J : Nat → Nat → Int64) (R : Nat → Nat → Nat) (a_this : Nat) (t_this : T a_this = 7) (g_t : Nat) (g_s : Nat) (g_S : Nat → Int) (g_n : Int) (p_0 : R a_this 3 = g_t + 1) (p_1 : T g_t = 3) (p_2 : R g_t 0 = g_s + 1) (p_3 : T g_s = 62) (p_4 : I g_s = g_S) (p_5 : TKz g_S g_n) (p_6 : I a_this 5 ≤ g_n) (p_7 : g_S (I a_this 5).toNat = I a_this 6) : GC l yX6_advance cX6_advance 1 none ({ frames := 0, cells := 0, slots := 0, locals := 0 }) D dA eA L T N I J R [.ref a_this] 0 0 (gV (fun L' T' N' I' J' R' dz dl => L' = L ∧ T' = T ∧ N' = N ∧ R' = R ∧ Fr mo_X6_advanceb [] T N I J R T' N' I' J' R' ∧ I' a_this 5 ≤ g_n ∧ g_S (I' a_this 5).toNat = I' a_this 6 ∧ (((I a_this 6 = 0 ∨ I a_this 6 = 1) ∧ I' a_this 5 = I a_this 5 ∧ I' a_this 6 = I a_this 6) ∨ (I' a_this 5 = I a_this 5 + 1)))) := by
  generalize hPST : (gV (fun L' T' N' I' J' R' dz dl => L' = L ∧ T' = T ∧ N' = N ∧ R' = R ∧ Fr mo_X6_advanceb [] T N I J R T' N' I' J' R' ∧ I' a_this 5 ≤ g_n ∧ g_S (I' a_this 5).toNat = I' a_this 6 ∧ (((I a_this 6 = 0 ∨ I a_this 6 = 1) ∧ I' a_this 5 = I a_this 5 ∧ I' a_this 6 = I a_this 6) ∨ (I' a_this 5 = I a_this 5 + 1)))) = PST
  refine g_enter (own := RX6) (by decide) rfl (Nat.le_of_ble_eq_true rfl) (fun p e s m args below meth c ls hm B hX hM hl => ?_)
  have hC0 := hM.2.2.2.2.2.2.1
  have hW0 := hM.2.2.2
  have hF : Fr mo_X6_advanceb [] T N I J R T N I J R := Fr.rf
  have hA : ∀ q, s.heap.size ≤ q → cF dA L T N I J R s.heap.size q := fun q h => Or.inr h
  have hl : lv_has ls 1 [(0, .ref a_this)] := hl
  obtain ⟨x1, e2⟩ : ∃ v, I a_this 5 = v := ⟨_, rfl⟩
  obtain ⟨x3, e4⟩ : ∃ v, I a_this 6 = v := ⟨_, rfl⟩
  have nz5 : g_S (x1).toNat = x3 := by have h9 := p_7; rw [e2, e4] at h9; exact h9
  refine lv_aload_n B.1 B.2.1 dX6_advance_0 rfl (lv_at hl 0 rfl) ?_
  have r6 : (-2147483648 : Int) ≤ x3 ∧ x3 ≤ 2147483647 := by rw [← e4]; exact g7_6 hM.2.2.2.2.2.2.1 t_this
  refine c_geti (k := 6) pk_X6 B hM t_this kd7 rfl (by decide) fl_X6_47 dX6_advance_1 e4 ?_
  refine q_ieq (tgt := 67) B dX6_advance_4 (by decide) (by unfold inr; omega) (fun c7 => ?_) (fun c7 => ?_)
  · refine g_vret B hM dX6_advance_67 ⟨Nat.le_refl _, Nat.le_refl _⟩ ?_
    rw [← hPST]
    exact ⟨rfl, rfl, rfl, rfl, rfl, hF, by first | omega | assumption | exact trivial, by show g_S (I a_this 5).toNat = I a_this 6; rw [e2, e4]; first | assumption | omega, by first | omega | assumption | exact trivial⟩
  · refine lv_aload_n B.1 B.2.1 dX6_advance_7 rfl (lv_at hl 0 rfl) ?_
    refine c_geti (k := 6) pk_X6 B hM t_this kd7 rfl (by decide) fl_X6_47 dX6_advance_8 e4 ?_
    refine q_con B dX6_advance_11 ?_
    refine q_ceq (tgt := 67) B dX6_advance_12 (by decide) (by unfold inr; omega) (by unfold inr; omega) (fun c8 => ?_) (fun c8 => ?_)
    · refine g_vret B hM dX6_advance_67 ⟨Nat.le_refl _, Nat.le_refl _⟩ ?_
      rw [← hPST]
      exact ⟨rfl, rfl, rfl, rfl, rfl, hF, by first | omega | assumption | exact trivial, by show g_S (I a_this 5).toNat = I a_this 6; rw [e2, e4]; first | assumption | omega, by first | omega | assumption | exact trivial⟩
    · have hn3 := p_5.2.1
      have hlt : x1 < g_n := by refine TKz.lt p_5 ?_ ?_ ?_ <;> rw [← e2] <;> first | (rw [p_7, e4]; omega) | omega
      refine lv_aload_n B.1 B.2.1 dX6_advance_15 rfl (lv_at hl 0 rfl) ?_
      have r9 : (0 : Int) ≤ x1 ∧ x1 ≤ 3000 := by rw [← e2]; exact g7_5 hM.2.2.2.2.2.2.1 t_this
      refine c_geti (k := 5) pk_X6 B hM t_this kd7 rfl (by decide) fl_X6_39 dX6_advance_16 e2 ?_
      refine q_sip B dX6_advance_19 (by decide) ?_
      refine q_cge (tgt := 67) B dX6_advance_22 (by decide) (by unfold inr; omega) (by unfold inr; omega) (fun c10 => ?_) (fun c10 => ?_)
      · refine g_vret B hM dX6_advance_67 ⟨Nat.le_refl _, Nat.le_refl _⟩ ?_
        rw [← hPST]
        exact ⟨rfl, rfl, rfl, rfl, rfl, hF, by first | omega | assumption | exact trivial, by show g_S (I a_this 5).toNat = I a_this 6; rw [e2, e4]; first | assumption | omega, by first | omega | assumption | exact trivial⟩
      · refine lv_aload_n B.1 B.2.1 dX6_advance_25 rfl (lv_at hl 0 rfl) ?_
        refine lv_dup B.1 B.2.1 dX6_advance_26 rfl ?_
        refine c_geti (k := 5) pk_X6 B hM t_this kd7 rfl (by decide) fl_X6_39 dX6_advance_27 e2 ?_
        refine q_con B dX6_advance_30 ?_
        refine q_add B dX6_advance_31 ?_
        refine c_puti (k := 5) pk_X6 B hM t_this kd7 rfl (by decide) fl_X6_39 (Or.inl rfl) dX6_advance_32 rfl rfl rfl (show (0 : Int) ≤ x1 + (1 : Int) from by omega) (show x1 + (1 : Int) ≤ (3000 : Int) from by omega) (fun I11 H locs hu12 hM => ?_)
        have e13 : I11 a_this 5 = x1 + (1 : Int) := w2_at hu12
        replace hF : Fr mo_X6_advanceb [] T N I J R T N I11 J R := hF.wi hu12 (fun _ _ => by rw [t_this]; rfl)
        refine lv_aload_n B.1 B.2.1 dX6_advance_35 rfl (lv_at hl 0 rfl) ?_
        refine lv_aload_n B.1 B.2.1 dX6_advance_36 rfl (lv_at hl 0 rfl) ?_
        refine c_getn (k := 3) pk_X6 B hM t_this kd7 rfl (by decide) fl_X6_9 dX6_advance_37 p_0 ?_
        refine c_getn (k := 0) pk_X9 B hM p_1 kd3 rfl (by decide) fl_X6_42 dX6_advance_40 p_2 ?_
        refine lv_aload_n B.1 B.2.1 dX6_advance_43 rfl (lv_at hl 0 rfl) ?_
        have r14 : (0 : Int) ≤ x1 + (1 : Int) ∧ x1 + (1 : Int) ≤ 3000 := by rw [← e13]; exact g7_5 hM.2.2.2.2.2.2.1 t_this
        refine c_geti (k := 5) pk_X6 B hM t_this kd7 rfl (by decide) fl_X6_39 dX6_advance_44 e13 ?_
        have n15 : 3001 ≤ N g_s ∧ N g_s ≤ 3001 := gn62 hM.2.2.2.2.2.2.1 p_3
        obtain ⟨x16, e17⟩ : ∃ v, I g_s ((x1 + (1 : Int)).toNat) = v := ⟨_, rfl⟩
        have e18 : I11 g_s ((x1 + (1 : Int)).toNat) = x16 := (hF.i p_3 (by decide) nm0 (by rw [cd_arr (j := 0) (by decide)]; rfl)).trans e17
        have r19 : (-2147483648 : Int) ≤ x16 ∧ x16 ≤ 2147483647 := by rw [← e18]; exact ga62 hM.2.2.2.2.2.2.1 p_3 (by omega)
        refine c_ild B hM p_3 kd62 an62 dX6_advance_47 (by omega) (by omega) e18 ?_
        have hsx : g_S ((x1 + (1 : Int)).toNat) = x16 := by rw [← e18]; exact (congrFun ((Fr.irow hF p_3 (by decide) nm0 (by decide)).trans p_4) _).symm
        refine c_puti (k := 6) pk_X6 B hM t_this kd7 rfl (by decide) fl_X6_47 (Or.inl rfl) dX6_advance_48 rfl rfl rfl (show (-2147483648 : Int) ≤ x16 from by omega) (show x16 ≤ (2147483647 : Int) from by omega) (fun I20 H locs hu21 hM => ?_)
        have e22 : I20 a_this 6 = x16 := w2_at hu21
        replace hF : Fr mo_X6_advanceb [] T N I J R T N I20 J R := hF.wi hu21 (fun _ _ => by rw [t_this]; rfl)
        refine lv_aload_n B.1 B.2.1 dX6_advance_51 rfl (lv_at hl 0 rfl) ?_
        refine lv_aload_n B.1 B.2.1 dX6_advance_52 rfl (lv_at hl 0 rfl) ?_
        refine c_getn (k := 3) pk_X6 B hM t_this kd7 rfl (by decide) fl_X6_9 dX6_advance_53 p_0 ?_
        obtain ⟨b23, e24, t25⟩ := g3_2 hC0 p_1
        refine c_getn (k := 2) pk_X9 B hM p_1 kd3 rfl (by decide) fl_X6_50 dX6_advance_56 e24 ?_
        refine lv_aload_n B.1 B.2.1 dX6_advance_59 rfl (lv_at hl 0 rfl) ?_
        have e26 : I20 a_this 5 = x1 + (1 : Int) := (w2_ne hu21 (Or.inr (by decide))).trans e13
        refine c_geti (k := 5) pk_X6 B hM t_this kd7 rfl (by decide) fl_X6_39 dX6_advance_60 e26 ?_
        have n27 : 3001 ≤ N b23 ∧ N b23 ≤ 3001 := gn64 hM.2.2.2.2.2.2.1 t25
        obtain ⟨w28, e29⟩ : ∃ v, J b23 ((x1 + (1 : Int)).toNat) = v := ⟨_, rfl⟩
        refine c_lld B hM t25 kd64 an64 dX6_advance_63 (by omega) (by omega) e29 ?_
        refine c_putl (k := 7) pk_X6 B hM t_this kd7 rfl (by decide) fl_X6_54 (Or.inl rfl) dX6_advance_64 rfl rfl (fun J30 H locs hu31 hM => ?_)
        have e32 : J30 a_this 7 = w28 := w2_at hu31
        replace hF : Fr mo_X6_advanceb [] T N I J R T N I20 J30 R := hF.wj hu31 (fun _ _ => by rw [t_this]; rfl)
        refine g_vret B hM dX6_advance_67 ⟨Nat.le_refl _, Nat.le_refl _⟩ ?_
        rw [← hPST]
        exact ⟨rfl, rfl, rfl, rfl, rfl, hF, by first | omega | assumption | exact trivial, by show g_S (I20 a_this 5).toNat = I20 a_this 6; rw [e26, e22]; first | assumption | omega, by first | omega | assumption | exact trivial⟩

set_option maxHeartbeats 1000000 in
set_option maxRecDepth 20000 in
theorem k_X6_isWordb (l : Launch) (D : va_G) (dA : Nat → ClassId) (eA : Nat) (L : List Nat) (T N : Nat → Nat) (I : Nat → Nat → Int) (J : Nat → Nat → Int64) (R : Nat → Nat → Nat) (a_this : Nat) (t_this : T a_this = 7) (a_w : Int) (i_w : (-2147483648 : Int) ≤ a_w ∧ a_w ≤ 2147483647) : PC l yX6_isWord cX6_isWord 2 (some .boolean) ({ frames := 0, cells := 0, slots := 0, locals := 0 }) D dA eA L T N I J R [.ref a_this, .int (II a_w)] (rI (fun r => (0 : Int) ≤ r ∧ r ≤ 1 ∧ (r = 0 ∨ I a_this 6 = 5))) := by
  generalize hPST : (rI (fun r => (0 : Int) ≤ r ∧ r ≤ 1 ∧ (r = 0 ∨ I a_this 6 = 5))) = PST
  refine p_enter (own := RX6) (by decide) rfl (Nat.le_of_ble_eq_true rfl) (fun p e s m args below meth c ls B hX hM hl => ?_)
  have hA : ∀ q, s.heap.size ≤ q → cF dA L T N I J R s.heap.size q := fun q h => Or.inr h
  have hl : lv_has ls 2 [(0, .ref a_this), (1, .int (II a_w))] := hl
  refine lv_aload_n B.1 B.2.1 dX6_isWord_0 rfl (lv_at hl 0 rfl) ?_
  obtain ⟨x1, e2⟩ : ∃ v, I a_this 6 = v := ⟨_, rfl⟩
  have r3 : (-2147483648 : Int) ≤ x1 ∧ x1 ≤ 2147483647 := by rw [← e2]; exact g7_6 hM.2.2.2.2.2.2.1 t_this
  refine c_geti (k := 6) pk_X6 B hM t_this kd7 rfl (by decide) fl_X6_47 dX6_isWord_1 e2 ?_
  refine q_con B dX6_isWord_4 ?_
  refine q_cne (tgt := 22) B dX6_isWord_5 (by decide) (by unfold inr; omega) (by unfold inr; omega) (fun c4 => ?_) (fun c4 => ?_)
  · refine q_con B dX6_isWord_22 ?_
    refine p_zret B dX6_isWord_23 (by omega) (by omega) ?_
    rw [← hPST]
    exact ⟨(0), rfl, by omega, by omega, by omega, by first | omega | assumption | exact trivial⟩
  · refine lv_aload_n B.1 B.2.1 dX6_isWord_8 rfl (lv_at hl 0 rfl) ?_
    obtain ⟨w5, e6⟩ : ∃ v, J a_this 7 = v := ⟨_, rfl⟩
    refine c_getl (k := 7) pk_X6 B hM t_this kd7 rfl (by decide) fl_X6_54 dX6_isWord_9 e6 ?_
    refine lv_iload_n B.1 B.2.1 dX6_isWord_12 rfl (lv_at hl 1 rfl) ?_
    refine q_i2l B dX6_isWord_13 (fun w7 => ?_)
    refine q_lcmp B dX6_isWord_14 (fun x8 lx8 ux8 ex8 => ?_)
    refine q_ine (tgt := 22) B dX6_isWord_15 (by decide) (by unfold inr; omega) (fun c9 => ?_) (fun c9 => ?_)
    · refine q_con B dX6_isWord_22 ?_
      refine p_zret B dX6_isWord_23 (by omega) (by omega) ?_
      rw [← hPST]
      exact ⟨(0), rfl, by omega, by omega, by omega, by first | omega | assumption | exact trivial⟩
    · refine q_con B dX6_isWord_18 ?_
      refine lv_goto (tgt := 23) B.1 B.2.1 dX6_isWord_19 (by decide) ?_
      refine p_zret B dX6_isWord_23 (by omega) (by omega) ?_
      rw [← hPST]
      exact ⟨(1), rfl, by omega, by omega, by omega, by first | omega | assumption | exact trivial⟩

def mo_X6_readHeadb : List Nat := [229, 230, 231, 225, 226, 2272, 2304, 203]
set_option maxHeartbeats 1000000 in
set_option maxRecDepth 20000 in
theorem k_X6_readHeadb (l : Launch) (D : va_G) (dA : Nat → ClassId) (eA : Nat) (L : List Nat) (T N : Nat → Nat) (I : Nat → Nat → Int) (J : Nat → Nat → Int64) (R : Nat → Nat → Nat) (a_this : Nat) (t_this : T a_this = 7) (a_k : Int) (i_k : (-2147483648 : Int) ≤ a_k ∧ a_k ≤ 2147483647) (a_n : Int) (i_n : (-2147483648 : Int) ≤ a_n ∧ a_n ≤ 2147483647) (a_most : Int) (i_most : (-2147483648 : Int) ≤ a_most ∧ a_most ≤ 2147483647) (g_t : Nat) (g_s : Nat) (g_S : Nat → Int) (g_n : Int) (p_0 : R a_this 3 = g_t + 1) (p_1 : T g_t = 3) (p_2 : R g_t 0 = g_s + 1) (p_3 : T g_s = 62) (p_4 : I g_s = g_S) (p_5 : TKz g_S g_n) (p_6 : I a_this 5 ≤ g_n) (p_7 : g_S (I a_this 5).toNat = I a_this 6) : GC l yX6_readHead cX6_readHead 4 (some .boolean) ({ frames := 1, cells := 0, slots := 0, locals := 23 }) D dA eA L T N I J R [.ref a_this, .int (II a_k), .int (II a_n), .int (II a_most)] 0 0 (gI (fun r L' T' N' I' J' R' dz dl => L' = L ∧ T' = T ∧ N' = N ∧ R' = R ∧ Fr mo_X6_readHeadb [] T N I J R T' N' I' J' R' ∧ (0 : Int) ≤ r ∧ r ≤ 1 ∧ (I' a_this 5 ≤ g_n ∧ g_S (I' a_this 5).toNat = I' a_this 6 ∧ I a_this 5 ≤ I' a_this 5 ∧ ((r = 0 ∧ I' a_this 1 ≠ 0) ∨ (r = 1 ∧ I' a_this 1 = I a_this 1 ∧ I a_this 5 + 2 ≤ I' a_this 5)) ∧ (r = 0 ∨ a_n < a_most)))) := by
  generalize hPST : (gI (fun r L' T' N' I' J' R' dz dl => L' = L ∧ T' = T ∧ N' = N ∧ R' = R ∧ Fr mo_X6_readHeadb [] T N I J R T' N' I' J' R' ∧ (0 : Int) ≤ r ∧ r ≤ 1 ∧ (I' a_this 5 ≤ g_n ∧ g_S (I' a_this 5).toNat = I' a_this 6 ∧ I a_this 5 ≤ I' a_this 5 ∧ ((r = 0 ∧ I' a_this 1 ≠ 0) ∨ (r = 1 ∧ I' a_this 1 = I a_this 1 ∧ I a_this 5 + 2 ≤ I' a_this 5)) ∧ (r = 0 ∨ a_n < a_most)))) = PST
  refine g_enter (own := RX6) (by decide) rfl (Nat.le_of_ble_eq_true rfl) (fun p e s m args below meth c ls hm B hX hM hl => ?_)
  have hC0 := hM.2.2.2.2.2.2.1
  have hW0 := hM.2.2.2
  have hF : Fr mo_X6_readHeadb [] T N I J R T N I J R := Fr.rf
  have hA : ∀ q, s.heap.size ≤ q → cF dA L T N I J R s.heap.size q := fun q h => Or.inr h
  have hl : lv_has ls 4 [(0, .ref a_this), (1, .int (II a_k)), (2, .int (II a_n)), (3, .int (II a_most))] := hl
  obtain ⟨x1, e2⟩ : ∃ v, I a_this 5 = v := ⟨_, rfl⟩
  obtain ⟨x3, e4⟩ : ∃ v, I a_this 6 = v := ⟨_, rfl⟩
  have nz5 : g_S (x1).toNat = x3 := by have h9 := p_7; rw [e2, e4] at h9; exact h9
  obtain ⟨x6, e7⟩ : ∃ v, I a_this 1 = v := ⟨_, rfl⟩
  refine lv_iload_n B.1 B.2.1 dX6_readHead_0 rfl (lv_at hl 2 rfl) ?_
  refine lv_iload_n B.1 B.2.1 dX6_readHead_1 rfl (lv_at hl 3 rfl) ?_
  refine q_clt (tgt := 11) B dX6_readHead_2 (by decide) (by unfold inr; omega) (by unfold inr; omega) (fun c8 => ?_) (fun c8 => ?_)
  · refine lv_aload_n B.1 B.2.1 dX6_readHead_11 rfl (lv_at hl 0 rfl) ?_
    have hv9 : (TKz g_S g_n) ∧ (I a_this 5 ≤ g_n) := by first | omega | exact ⟨by first | omega | assumption | exact trivial, by first | omega | assumption | exact trivial⟩
    refine z_callv hM hA (c_runV (n := 0) (as := []) (rest := []) B hX hA hM hl.1 t_this kd7 rfl (k_X6_advanceb l D dA eA L T N I J R a_this t_this g_t g_s g_S g_n (show R a_this 3 = g_t + 1 from p_0) (show T g_t = 3 from p_1) (show R g_t 0 = g_s + 1 from p_2) (show T g_s = 62 from p_3) (show I g_s = g_S from p_4) hv9.1 hv9.2 (show g_S (I a_this 5).toNat = I a_this 6 from by rw [e2, e4]; first | assumption | omega) _ _) ml_X6_87 nm_X6_advance ⟨rfl, rfl⟩ ⟨Nat.le_of_ble_eq_true rfl, Nat.le_of_ble_eq_true rfl⟩ dX6_readHead_12 rfl rfl (Nat.le_of_ble_eq_true rfl) ⟨Nat.zero_le _, Nat.zero_le _⟩) (fun L12 T13 N14 I15 J16 R17 dz18 dl19 H locs hp10 hMn => ?_)
    obtain ⟨yL12, yT13, yN14, yR17, hFc20, hp10a⟩ := hp10
    obtain rfl := yL12.symm; obtain rfl := yT13.symm; obtain rfl := yN14.symm; obtain rfl := yR17.symm
    replace hF : Fr mo_X6_readHeadb [] T N I J R T N I15 J16 R := hF.trans hFc20 (by decide) e20
    have hM := hMn
    clear hMn
    replace hp10a : I15 a_this 5 ≤ g_n ∧ g_S (I15 a_this 5).toNat = I15 a_this 6 ∧ (((I a_this 6 = 0 ∨ I a_this 6 = 1) ∧ I15 a_this 5 = I a_this 5 ∧ I15 a_this 6 = I a_this 6) ∨ (I15 a_this 5 = I a_this 5 + 1)) := hp10a
    obtain ⟨hp10a_0, hp10a_1, hp10a_2⟩ := hp10a
    obtain ⟨x21, e22⟩ : ∃ v, I15 a_this 5 = v := ⟨_, rfl⟩
    obtain ⟨x23, e24⟩ : ∃ v, I15 a_this 6 = v := ⟨_, rfl⟩
    have nz25 : g_S (x21).toNat = x23 := by have h9 := hp10a_1; rw [e22, e24] at h9; exact h9
    refine lv_aload_n B.1 B.2.1 dX6_readHead_15 rfl (lv_at hl 0 rfl) ?_
    have r26 : (-2147483648 : Int) ≤ x23 ∧ x23 ≤ 2147483647 := by rw [← e24]; exact g7_6 hM.2.2.2.2.2.2.1 t_this
    refine c_geti (k := 6) pk_X6 B hM t_this kd7 rfl (by decide) fl_X6_47 dX6_readHead_16 e24 ?_
    refine q_con B dX6_readHead_19 ?_
    refine q_ceq (tgt := 29) B dX6_readHead_20 (by decide) (by unfold inr; omega) (by unfold inr; omega) (fun c27 => ?_) (fun c27 => ?_)
    · refine lv_aload_n B.1 B.2.1 dX6_readHead_29 rfl (lv_at hl 0 rfl) ?_
      obtain ⟨w28, e29⟩ : ∃ v, J16 a_this 7 = v := ⟨_, rfl⟩
      refine c_getl (k := 7) pk_X6 B hM t_this kd7 rfl (by decide) fl_X6_54 dX6_readHead_30 e29 ?_
      refine p_calli (c_runS (n := 1) (as := [.long w28]) (rest := []) B hX hA hM hl.1 (k_X0_builtIn l D dA eA L T N I15 J16 R w28 _ _) ml_X6_90 nm_X0_builtIn ⟨rfl, rfl⟩ ⟨Nat.le_of_ble_eq_true rfl, Nat.le_of_ble_eq_true rfl⟩ dX6_readHead_33 rfl rfl (Nat.le_of_ble_eq_true rfl) ⟨Nat.zero_le _, Nat.zero_le _⟩) (fun x31 ix31 hp30 => ?_)
      have hp30a := hp30
      replace hp30a : 0 ≤ x31 ∧ x31 ≤ 8 := hp30a
      obtain ⟨hp30a_0, hp30a_1⟩ := hp30a
      refine q_ine (tgt := 54) B dX6_readHead_36 (by decide) (by unfold inr; omega) (fun c32 => ?_) (fun c32 => ?_)
      · refine lv_aload_n B.1 B.2.1 dX6_readHead_54 rfl (lv_at hl 0 rfl) ?_
        refine q_con B dX6_readHead_55 ?_
        have hv33 : ((-2147483648 : Int) ≤ 3 ∧ (3 : Int) ≤ 2147483647) ∧ ((3 : Int) ≠ 0) := by first | omega | exact ⟨by first | omega | assumption | exact trivial, by first | omega | assumption | exact trivial⟩
        refine z_calli hM hA (c_runV (n := 1) (as := [.int (II 3)]) (rest := []) B hX hA hM hl.1 t_this kd7 rfl (k_X6_wrong l D dA eA L T N I15 J16 R a_this t_this (3) hv33.1 hv33.2 _ _) ml_X6_84 nm_X6_wrong ⟨rfl, rfl⟩ ⟨Nat.le_of_ble_eq_true rfl, Nat.le_of_ble_eq_true rfl⟩ dX6_readHead_56 rfl rfl (Nat.le_of_ble_eq_true rfl) ⟨Nat.zero_le _, Nat.zero_le _⟩) (fun x35 ix35 L36 T37 N38 I39 J40 R41 dz42 dl43 H locs hp34 hMn => ?_)
        obtain ⟨yL36, yT37, yN38, yJ40, yR41, hFc44, hp34a⟩ := hp34
        obtain rfl := yL36.symm; obtain rfl := yT37.symm; obtain rfl := yN38.symm; obtain rfl := yJ40.symm; obtain rfl := yR41.symm
        replace hF : Fr mo_X6_readHeadb [] T N I J R T N I39 J16 R := hF.trans hFc44 (by decide) e20
        have hM := hMn
        clear hMn
        replace hp34a : (0 : Int) ≤ x35 ∧ x35 ≤ 1 ∧ (x35 = 0 ∧ I39 a_this 1 ≠ 0) := hp34a
        obtain ⟨hp34a_0, hp34a_1, hp34a_2⟩ := hp34a
        obtain ⟨hp34a_2_0, hp34a_2_1⟩ := hp34a_2
        have e45 : I15 a_this 1 = x6 := (hFc20.i t_this (by decide) nm0 rfl).trans e7
        obtain ⟨x46, e47⟩ : ∃ v, I39 a_this 1 = v := ⟨_, rfl⟩
        have e48 : I39 a_this 5 = x21 := (hFc44.i t_this (by decide) nm0 rfl).trans e22
        have e49 : I39 a_this 6 = x23 := (hFc44.i t_this (by decide) nm0 rfl).trans e24
        refine g_zret B hM dX6_readHead_59 ⟨Nat.le_refl _, Nat.le_refl _⟩ (by omega) (by omega) ?_
        rw [← hPST]
        exact ⟨x35, rfl, by omega, rfl, rfl, rfl, rfl, hF, by omega, by omega, by first | omega | assumption | exact trivial, by show g_S (I39 a_this 5).toNat = I39 a_this 6; rw [e48, e49]; first | assumption | omega, by first | omega | assumption | exact trivial, by first | omega | assumption | exact trivial, by first | omega | assumption | exact trivial⟩
      · refine lv_aload_n B.1 B.2.1 dX6_readHead_39 rfl (lv_at hl 0 rfl) ?_
        obtain ⟨b50, e51, t52⟩ := g7_0 hC0 t_this
        refine c_getn (k := 0) pk_X6 B hM t_this kd7 rfl (by decide) fl_X6_22 dX6_readHead_40 e51 ?_
        refine lv_aload_n B.1 B.2.1 dX6_readHead_43 rfl (lv_at hl 0 rfl) ?_
        refine c_getl (k := 7) pk_X6 B hM t_this kd7 rfl (by decide) fl_X6_54 dX6_readHead_44 e29 ?_
        refine p_calli (c_runV (n := 1) (as := [.long w28]) (rest := []) B hX hA hM hl.1 t52 kd6 rfl (k_X0_find l D dA eA L T N I15 J16 R b50 t52 w28 _ _) ml_X6_94 nm_X0_find ⟨rfl, rfl⟩ ⟨Nat.le_of_ble_eq_true rfl, Nat.le_of_ble_eq_true rfl⟩ dX6_readHead_47 rfl rfl (Nat.le_of_ble_eq_true rfl) ⟨Nat.zero_le _, Nat.zero_le _⟩) (fun x54 ix54 hp53 => ?_)
        have hp53a := hp53
        clear hp53a
        refine q_con B dX6_readHead_50 ?_
        refine q_ceq (tgt := 60) B dX6_readHead_51 (by decide) (by unfold inr; omega) (by unfold inr; omega) (fun c55 => ?_) (fun c55 => ?_)
        · refine lv_aload_n B.1 B.2.1 dX6_readHead_60 rfl (lv_at hl 0 rfl) ?_
          refine c_getn (k := 0) pk_X6 B hM t_this kd7 rfl (by decide) fl_X6_22 dX6_readHead_61 e51 ?_
          refine lv_aload_n B.1 B.2.1 dX6_readHead_64 rfl (lv_at hl 0 rfl) ?_
          refine c_getl (k := 7) pk_X6 B hM t_this kd7 rfl (by decide) fl_X6_54 dX6_readHead_65 e29 ?_
          refine lv_iload_n B.1 B.2.1 dX6_readHead_68 rfl (lv_at hl 1 rfl) ?_
          refine q_bip B dX6_readHead_69 (by decide) ?_
          refine q_mul B dX6_readHead_71 ?_
          refine q_wrap (fun x56 ix56 => ?_)
          refine lv_iload_n B.1 B.2.1 dX6_readHead_72 rfl (lv_at hl 2 rfl) ?_
          refine q_add B dX6_readHead_73 ?_
          refine q_wrap (fun x57 ix57 => ?_)
          refine z_callv hM hA (c_runV (n := 2) (as := [.long w28, .int (II x57)]) (rest := []) B hX hA hM hl.1 t52 kd6 rfl (k_X0_tell l D dA eA L T N I15 J16 R b50 t52 w28 x57 (by first | omega | assumption | exact trivial) _ _) ml_X6_97 nm_X0_tell ⟨rfl, rfl⟩ ⟨Nat.le_of_ble_eq_true rfl, Nat.le_of_ble_eq_true rfl⟩ dX6_readHead_74 rfl rfl (Nat.le_of_ble_eq_true rfl) ⟨Nat.zero_le _, Nat.zero_le _⟩) (fun L60 T61 N62 I63 J64 R65 dz66 dl67 H locs hp58 hMn => ?_)
          obtain ⟨yL60, yT61, yN62, yR65, hFc68, hp58a⟩ := hp58
          obtain rfl := yL60.symm; obtain rfl := yT61.symm; obtain rfl := yN62.symm; obtain rfl := yR65.symm
          replace hF : Fr mo_X6_readHeadb [] T N I J R T N I63 J64 R := hF.trans hFc68 (by decide) e20
          have hM := hMn
          clear hMn
          clear hp58a
          refine lv_aload_n B.1 B.2.1 dX6_readHead_77 rfl (lv_at hl 0 rfl) ?_
          have e69 : I63 a_this 5 = x21 := (hFc68.i t_this (by decide) nm0 rfl).trans e22
          have e70 : I63 a_this 6 = x23 := (hFc68.i t_this (by decide) nm0 rfl).trans e24
          have hv71 : (TKz g_S g_n) ∧ (I63 a_this 5 ≤ g_n) := by first | omega | exact ⟨by first | omega | assumption | exact trivial, by first | omega | assumption | exact trivial⟩
          refine z_callv hM hA (c_runV (n := 0) (as := []) (rest := []) B hX hA hM hl.1 t_this kd7 rfl (k_X6_advanceb l D dA eA L T N I63 J64 R a_this t_this g_t g_s g_S g_n (show R a_this 3 = g_t + 1 from p_0) (show T g_t = 3 from p_1) (show R g_t 0 = g_s + 1 from p_2) (show T g_s = 62 from p_3) (show I63 g_s = g_S from ((Fr.irow hF p_3 (by decide) nm0 (by decide)).trans p_4)) hv71.1 hv71.2 (show g_S (I63 a_this 5).toNat = I63 a_this 6 from by rw [e69, e70]; first | assumption | omega) _ _) ml_X6_87 nm_X6_advance ⟨rfl, rfl⟩ ⟨Nat.le_of_ble_eq_true rfl, Nat.le_of_ble_eq_true rfl⟩ dX6_readHead_78 rfl rfl (Nat.le_of_ble_eq_true rfl) ⟨Nat.zero_le _, Nat.zero_le _⟩) (fun L74 T75 N76 I77 J78 R79 dz80 dl81 H locs hp72 hMn => ?_)
          obtain ⟨yL74, yT75, yN76, yR79, hFc82, hp72a⟩ := hp72
          obtain rfl := yL74.symm; obtain rfl := yT75.symm; obtain rfl := yN76.symm; obtain rfl := yR79.symm
          replace hF : Fr mo_X6_readHeadb [] T N I J R T N I77 J78 R := hF.trans hFc82 (by decide) e20
          have hM := hMn
          clear hMn
          replace hp72a : I77 a_this 5 ≤ g_n ∧ g_S (I77 a_this 5).toNat = I77 a_this 6 ∧ (((I63 a_this 6 = 0 ∨ I63 a_this 6 = 1) ∧ I77 a_this 5 = I63 a_this 5 ∧ I77 a_this 6 = I63 a_this 6) ∨ (I77 a_this 5 = I63 a_this 5 + 1)) := hp72a
          obtain ⟨hp72a_0, hp72a_1, hp72a_2⟩ := hp72a
          obtain ⟨x83, e84⟩ : ∃ v, I77 a_this 5 = v := ⟨_, rfl⟩
          obtain ⟨x85, e86⟩ : ∃ v, I77 a_this 6 = v := ⟨_, rfl⟩
          have nz87 : g_S (x83).toNat = x85 := by have h9 := hp72a_1; rw [e84, e86] at h9; exact h9
          refine q_con B dX6_readHead_81 ?_
          have e88 : I15 a_this 1 = x6 := (hFc20.i t_this (by decide) nm0 rfl).trans e7
          have e89 : I63 a_this 1 = x6 := (hFc68.i t_this (by decide) nm0 rfl).trans e88
          have e90 : I77 a_this 1 = x6 := (hFc82.i t_this (by decide) nm0 rfl).trans e89
          refine g_zret B hM dX6_readHead_82 ⟨Nat.le_refl _, Nat.le_refl _⟩ (by omega) (by omega) ?_
          rw [← hPST]
          exact ⟨(1), rfl, by omega, rfl, rfl, rfl, rfl, hF, by omega, by omega, by first | omega | assumption | exact trivial, by show g_S (I77 a_this 5).toNat = I77 a_this 6; rw [e84, e86]; first | assumption | omega, by first | omega | assumption | exact trivial, by first | omega | assumption | exact trivial, by first | omega | assumption | exact trivial⟩
        · refine lv_aload_n B.1 B.2.1 dX6_readHead_54 rfl (lv_at hl 0 rfl) ?_
          refine q_con B dX6_readHead_55 ?_
          have hv91 : ((-2147483648 : Int) ≤ 3 ∧ (3 : Int) ≤ 2147483647) ∧ ((3 : Int) ≠ 0) := by first | omega | exact ⟨by first | omega | assumption | exact trivial, by first | omega | assumption | exact trivial⟩
          refine z_calli hM hA (c_runV (n := 1) (as := [.int (II 3)]) (rest := []) B hX hA hM hl.1 t_this kd7 rfl (k_X6_wrong l D dA eA L T N I15 J16 R a_this t_this (3) hv91.1 hv91.2 _ _) ml_X6_84 nm_X6_wrong ⟨rfl, rfl⟩ ⟨Nat.le_of_ble_eq_true rfl, Nat.le_of_ble_eq_true rfl⟩ dX6_readHead_56 rfl rfl (Nat.le_of_ble_eq_true rfl) ⟨Nat.zero_le _, Nat.zero_le _⟩) (fun x93 ix93 L94 T95 N96 I97 J98 R99 dz100 dl101 H locs hp92 hMn => ?_)
          obtain ⟨yL94, yT95, yN96, yJ98, yR99, hFc102, hp92a⟩ := hp92
          obtain rfl := yL94.symm; obtain rfl := yT95.symm; obtain rfl := yN96.symm; obtain rfl := yJ98.symm; obtain rfl := yR99.symm
          replace hF : Fr mo_X6_readHeadb [] T N I J R T N I97 J16 R := hF.trans hFc102 (by decide) e20
          have hM := hMn
          clear hMn
          replace hp92a : (0 : Int) ≤ x93 ∧ x93 ≤ 1 ∧ (x93 = 0 ∧ I97 a_this 1 ≠ 0) := hp92a
          obtain ⟨hp92a_0, hp92a_1, hp92a_2⟩ := hp92a
          obtain ⟨hp92a_2_0, hp92a_2_1⟩ := hp92a_2
          have e103 : I15 a_this 1 = x6 := (hFc20.i t_this (by decide) nm0 rfl).trans e7
          obtain ⟨x104, e105⟩ : ∃ v, I97 a_this 1 = v := ⟨_, rfl⟩
          have e106 : I97 a_this 5 = x21 := (hFc102.i t_this (by decide) nm0 rfl).trans e22
          have e107 : I97 a_this 6 = x23 := (hFc102.i t_this (by decide) nm0 rfl).trans e24
          refine g_zret B hM dX6_readHead_59 ⟨Nat.le_refl _, Nat.le_refl _⟩ (by omega) (by omega) ?_
          rw [← hPST]
          exact ⟨x93, rfl, by omega, rfl, rfl, rfl, rfl, hF, by omega, by omega, by first | omega | assumption | exact trivial, by show g_S (I97 a_this 5).toNat = I97 a_this 6; rw [e106, e107]; first | assumption | omega, by first | omega | assumption | exact trivial, by first | omega | assumption | exact trivial, by first | omega | assumption | exact trivial⟩
    · refine lv_aload_n B.1 B.2.1 dX6_readHead_23 rfl (lv_at hl 0 rfl) ?_
      refine q_con B dX6_readHead_24 ?_
      have hv108 : ((-2147483648 : Int) ≤ 2 ∧ (2 : Int) ≤ 2147483647) ∧ ((2 : Int) ≠ 0) := by first | omega | exact ⟨by first | omega | assumption | exact trivial, by first | omega | assumption | exact trivial⟩
      refine z_calli hM hA (c_runV (n := 1) (as := [.int (II 2)]) (rest := []) B hX hA hM hl.1 t_this kd7 rfl (k_X6_wrong l D dA eA L T N I15 J16 R a_this t_this (2) hv108.1 hv108.2 _ _) ml_X6_84 nm_X6_wrong ⟨rfl, rfl⟩ ⟨Nat.le_of_ble_eq_true rfl, Nat.le_of_ble_eq_true rfl⟩ dX6_readHead_25 rfl rfl (Nat.le_of_ble_eq_true rfl) ⟨Nat.zero_le _, Nat.zero_le _⟩) (fun x110 ix110 L111 T112 N113 I114 J115 R116 dz117 dl118 H locs hp109 hMn => ?_)
      obtain ⟨yL111, yT112, yN113, yJ115, yR116, hFc119, hp109a⟩ := hp109
      obtain rfl := yL111.symm; obtain rfl := yT112.symm; obtain rfl := yN113.symm; obtain rfl := yJ115.symm; obtain rfl := yR116.symm
      replace hF : Fr mo_X6_readHeadb [] T N I J R T N I114 J16 R := hF.trans hFc119 (by decide) e20
      have hM := hMn
      clear hMn
      replace hp109a : (0 : Int) ≤ x110 ∧ x110 ≤ 1 ∧ (x110 = 0 ∧ I114 a_this 1 ≠ 0) := hp109a
      obtain ⟨hp109a_0, hp109a_1, hp109a_2⟩ := hp109a
      obtain ⟨hp109a_2_0, hp109a_2_1⟩ := hp109a_2
      have e120 : I15 a_this 1 = x6 := (hFc20.i t_this (by decide) nm0 rfl).trans e7
      obtain ⟨x121, e122⟩ : ∃ v, I114 a_this 1 = v := ⟨_, rfl⟩
      have e123 : I114 a_this 5 = x21 := (hFc119.i t_this (by decide) nm0 rfl).trans e22
      have e124 : I114 a_this 6 = x23 := (hFc119.i t_this (by decide) nm0 rfl).trans e24
      refine g_zret B hM dX6_readHead_28 ⟨Nat.le_refl _, Nat.le_refl _⟩ (by omega) (by omega) ?_
      rw [← hPST]
      exact ⟨x110, rfl, by omega, rfl, rfl, rfl, rfl, hF, by omega, by omega, by first | omega | assumption | exact trivial, by show g_S (I114 a_this 5).toNat = I114 a_this 6; rw [e123, e124]; first | assumption | omega, by first | omega | assumption | exact trivial, by first | omega | assumption | exact trivial, by first | omega | assumption | exact trivial⟩
  · refine lv_aload_n B.1 B.2.1 dX6_readHead_5 rfl (lv_at hl 0 rfl) ?_
    refine q_con B dX6_readHead_6 ?_
    have hv125 : ((-2147483648 : Int) ≤ 2 ∧ (2 : Int) ≤ 2147483647) ∧ ((2 : Int) ≠ 0) := by first | omega | exact ⟨by first | omega | assumption | exact trivial, by first | omega | assumption | exact trivial⟩
    refine z_calli hM hA (c_runV (n := 1) (as := [.int (II 2)]) (rest := []) B hX hA hM hl.1 t_this kd7 rfl (k_X6_wrong l D dA eA L T N I J R a_this t_this (2) hv125.1 hv125.2 _ _) ml_X6_84 nm_X6_wrong ⟨rfl, rfl⟩ ⟨Nat.le_of_ble_eq_true rfl, Nat.le_of_ble_eq_true rfl⟩ dX6_readHead_7 rfl rfl (Nat.le_of_ble_eq_true rfl) ⟨Nat.zero_le _, Nat.zero_le _⟩) (fun x127 ix127 L128 T129 N130 I131 J132 R133 dz134 dl135 H locs hp126 hMn => ?_)
    obtain ⟨yL128, yT129, yN130, yJ132, yR133, hFc136, hp126a⟩ := hp126
    obtain rfl := yL128.symm; obtain rfl := yT129.symm; obtain rfl := yN130.symm; obtain rfl := yJ132.symm; obtain rfl := yR133.symm
    replace hF : Fr mo_X6_readHeadb [] T N I J R T N I131 J R := hF.trans hFc136 (by decide) e20
    have hM := hMn
    clear hMn
    replace hp126a : (0 : Int) ≤ x127 ∧ x127 ≤ 1 ∧ (x127 = 0 ∧ I131 a_this 1 ≠ 0) := hp126a
    obtain ⟨hp126a_0, hp126a_1, hp126a_2⟩ := hp126a
    obtain ⟨hp126a_2_0, hp126a_2_1⟩ := hp126a_2
    obtain ⟨x137, e138⟩ : ∃ v, I131 a_this 1 = v := ⟨_, rfl⟩
    have e139 : I131 a_this 5 = x1 := (hFc136.i t_this (by decide) nm0 rfl).trans e2
    have e140 : I131 a_this 6 = x3 := (hFc136.i t_this (by decide) nm0 rfl).trans e4
    refine g_zret B hM dX6_readHead_10 ⟨Nat.le_refl _, Nat.le_refl _⟩ (by omega) (by omega) ?_
    rw [← hPST]
    exact ⟨x127, rfl, by omega, rfl, rfl, rfl, rfl, hF, by omega, by omega, by first | omega | assumption | exact trivial, by show g_S (I131 a_this 5).toNat = I131 a_this 6; rw [e139, e140]; first | assumption | omega, by first | omega | assumption | exact trivial, by first | omega | assumption | exact trivial, by first | omega | assumption | exact trivial⟩

def mo_X6_readTypeb : List Nat := [229, 230, 231, 225, 226, 321, 322]
set_option maxHeartbeats 1000000 in
set_option maxRecDepth 20000 in
theorem k_X6_readTypeb (l : Launch) (D : va_G) (dA : Nat → ClassId) (eA : Nat) (L : List Nat) (T N : Nat → Nat) (I : Nat → Nat → Int) (J : Nat → Nat → Int64) (R : Nat → Nat → Nat) (a_this : Nat) (t_this : T a_this = 7) (a_spot : Nat) (t_spot : T a_spot = 10) (g_t : Nat) (g_s : Nat) (g_S : Nat → Int) (g_n : Int) (p_0 : R a_this 3 = g_t + 1) (p_1 : T g_t = 3) (p_2 : R g_t 0 = g_s + 1) (p_3 : T g_s = 62) (p_4 : I g_s = g_S) (p_5 : TKz g_S g_n) (p_6 : I a_this 5 ≤ g_n) (p_7 : g_S (I a_this 5).toNat = I a_this 6) : GC l yX6_readType cX6_readType 2 (some .boolean) ({ frames := 2, cells := 0, slots := 0, locals := 46 }) D dA eA L T N I J R [.ref a_this, .ref a_spot] 0 0 (gI (fun r L' T' N' I' J' R' dz dl => L' = L ∧ T' = T ∧ N' = N ∧ R' = R ∧ Fr mo_X6_readTypeb [] T N I J R T' N' I' J' R' ∧ (0 : Int) ≤ r ∧ r ≤ 1 ∧ (I' a_this 5 ≤ g_n ∧ g_S (I' a_this 5).toNat = I' a_this 6 ∧ I a_this 5 ≤ I' a_this 5 ∧ ((r = 0 ∧ I' a_this 1 ≠ 0) ∨ (r = 1 ∧ I' a_this 1 = I a_this 1 ∧ I a_this 5 + 1 ≤ I' a_this 5))))) := by
  generalize hPST : (gI (fun r L' T' N' I' J' R' dz dl => L' = L ∧ T' = T ∧ N' = N ∧ R' = R ∧ Fr mo_X6_readTypeb [] T N I J R T' N' I' J' R' ∧ (0 : Int) ≤ r ∧ r ≤ 1 ∧ (I' a_this 5 ≤ g_n ∧ g_S (I' a_this 5).toNat = I' a_this 6 ∧ I a_this 5 ≤ I' a_this 5 ∧ ((r = 0 ∧ I' a_this 1 ≠ 0) ∨ (r = 1 ∧ I' a_this 1 = I a_this 1 ∧ I a_this 5 + 1 ≤ I' a_this 5))))) = PST
  refine g_enter (own := RX6) (by decide) rfl (Nat.le_of_ble_eq_true rfl) (fun p e s m args below meth c ls hm B hX hM hl => ?_)
  have hC0 := hM.2.2.2.2.2.2.1
  have hW0 := hM.2.2.2
  have hF : Fr mo_X6_readTypeb [] T N I J R T N I J R := Fr.rf
  have hA : ∀ q, s.heap.size ≤ q → cF dA L T N I J R s.heap.size q := fun q h => Or.inr h
  have hl : lv_has ls 2 [(0, .ref a_this), (1, .ref a_spot)] := hl
  obtain ⟨x1, e2⟩ : ∃ v, I a_this 5 = v := ⟨_, rfl⟩
  obtain ⟨x3, e4⟩ : ∃ v, I a_this 6 = v := ⟨_, rfl⟩
  have nz5 : g_S (x1).toNat = x3 := by have h9 := p_7; rw [e2, e4] at h9; exact h9
  obtain ⟨x6, e7⟩ : ∃ v, I a_this 1 = v := ⟨_, rfl⟩
  refine lv_aload_n B.1 B.2.1 dX6_readType_0 rfl (lv_at hl 0 rfl) ?_
  refine q_bip B dX6_readType_1 (by decide) ?_
  refine p_calli (c_runV (n := 1) (as := [.int (II 7)]) (rest := []) B hX hA hM hl.1 t_this kd7 rfl (k_X6_isWordb l D dA eA L T N I J R a_this t_this (7) (by first | omega | assumption | exact trivial) _ _) ml_X6_64 nm_X6_isWord ⟨rfl, rfl⟩ ⟨Nat.le_of_ble_eq_true rfl, Nat.le_of_ble_eq_true rfl⟩ dX6_readType_3 rfl rfl (Nat.le_of_ble_eq_true rfl) ⟨Nat.zero_le _, Nat.zero_le _⟩) (fun x9 ix9 hp8 => ?_)
  have hp8a := hp8
  replace hp8a : (0 : Int) ≤ x9 ∧ x9 ≤ 1 ∧ (x9 = 0 ∨ I a_this 6 = 5) := hp8a
  obtain ⟨hp8a_0, hp8a_1, hp8a_2⟩ := hp8a
  refine q_ine (tgt := 18) B dX6_readType_6 (by decide) (by unfold inr; omega) (fun c10 => ?_) (fun c10 => ?_)
  · refine lv_aload_n B.1 B.2.1 dX6_readType_18 rfl (lv_at hl 1 rfl) ?_
    refine lv_aload_n B.1 B.2.1 dX6_readType_19 rfl (lv_at hl 0 rfl) ?_
    obtain ⟨w11, e12⟩ : ∃ v, J a_this 7 = v := ⟨_, rfl⟩
    refine c_getl (k := 7) pk_X6 B hM t_this kd7 rfl (by decide) fl_X6_54 dX6_readType_20 e12 ?_
    refine lv_ldc2 B.1 B.2.1 B.2.2.2.1 (B.2.2.2.2.1 _ lc_X6_243) dX6_readType_23 ?_
    refine q_lcmp B dX6_readType_26 (fun x13 lx13 ux13 ex13 => ?_)
    refine q_ine (tgt := 34) B dX6_readType_27 (by decide) (by unfold inr; omega) (fun c14 => ?_) (fun c14 => ?_)
    · refine q_con B dX6_readType_34 ?_
      refine c_puti (k := 1) pk_X8 B hM t_spot kd10 rfl (by decide) fl_X6_245 (Or.inl rfl) dX6_readType_35 rfl rfl rfl (show (-2147483648 : Int) ≤ 2 from by omega) (show 2 ≤ (2147483647 : Int) from by omega) (fun I15 H locs hu16 hM => ?_)
      have e17 : I15 a_spot 1 = 2 := w2_at hu16
      replace hF : Fr mo_X6_readTypeb [] T N I J R T N I15 J R := hF.wi hu16 (fun _ _ => by rw [t_spot]; rfl)
      refine lv_aload_n B.1 B.2.1 dX6_readType_38 rfl (lv_at hl 0 rfl) ?_
      have e18 : I15 a_this 5 = x1 := (w2_ne hu16 (Or.inl (tne t_this t_spot (by decide)))).trans e2
      have e19 : I15 a_this 6 = x3 := (w2_ne hu16 (Or.inl (tne t_this t_spot (by decide)))).trans e4
      have hv20 : (TKz g_S g_n) ∧ (I15 a_this 5 ≤ g_n) := by first | omega | exact ⟨by first | omega | assumption | exact trivial, by first | omega | assumption | exact trivial⟩
      refine z_callv hM hA (c_runV (n := 0) (as := []) (rest := []) B hX hA hM hl.1 t_this kd7 rfl (k_X6_advanceb l D dA eA L T N I15 J R a_this t_this g_t g_s g_S g_n (show R a_this 3 = g_t + 1 from p_0) (show T g_t = 3 from p_1) (show R g_t 0 = g_s + 1 from p_2) (show T g_s = 62 from p_3) (show I15 g_s = g_S from ((Fr.irow hF p_3 (by decide) nm0 (by decide)).trans p_4)) hv20.1 hv20.2 (show g_S (I15 a_this 5).toNat = I15 a_this 6 from by rw [e18, e19]; first | assumption | omega) _ _) ml_X6_87 nm_X6_advance ⟨rfl, rfl⟩ ⟨Nat.le_of_ble_eq_true rfl, Nat.le_of_ble_eq_true rfl⟩ dX6_readType_39 rfl rfl (Nat.le_of_ble_eq_true rfl) ⟨Nat.zero_le _, Nat.zero_le _⟩) (fun L23 T24 N25 I26 J27 R28 dz29 dl30 H locs hp21 hMn => ?_)
      obtain ⟨yL23, yT24, yN25, yR28, hFc31, hp21a⟩ := hp21
      obtain rfl := yL23.symm; obtain rfl := yT24.symm; obtain rfl := yN25.symm; obtain rfl := yR28.symm
      replace hF : Fr mo_X6_readTypeb [] T N I J R T N I26 J27 R := hF.trans hFc31 (by decide) e20
      have hM := hMn
      clear hMn
      replace hp21a : I26 a_this 5 ≤ g_n ∧ g_S (I26 a_this 5).toNat = I26 a_this 6 ∧ (((I15 a_this 6 = 0 ∨ I15 a_this 6 = 1) ∧ I26 a_this 5 = I15 a_this 5 ∧ I26 a_this 6 = I15 a_this 6) ∨ (I26 a_this 5 = I15 a_this 5 + 1)) := hp21a
      obtain ⟨hp21a_0, hp21a_1, hp21a_2⟩ := hp21a
      obtain ⟨x32, e33⟩ : ∃ v, I26 a_this 5 = v := ⟨_, rfl⟩
      obtain ⟨x34, e35⟩ : ∃ v, I26 a_this 6 = v := ⟨_, rfl⟩
      have nz36 : g_S (x32).toNat = x34 := by have h9 := hp21a_1; rw [e33, e35] at h9; exact h9
      refine q_con B dX6_readType_42 ?_
      have e37 : I15 a_this 1 = x6 := (w2_ne hu16 (Or.inl (tne t_this t_spot (by decide)))).trans e7
      have e38 : I26 a_this 1 = x6 := (hFc31.i t_this (by decide) nm0 rfl).trans e37
      refine g_zret B hM dX6_readType_43 ⟨Nat.le_refl _, Nat.le_refl _⟩ (by omega) (by omega) ?_
      rw [← hPST]
      exact ⟨(1), rfl, by omega, rfl, rfl, rfl, rfl, hF, by omega, by omega, by first | omega | assumption | exact trivial, by show g_S (I26 a_this 5).toNat = I26 a_this 6; rw [e33, e35]; first | assumption | omega, by first | omega | assumption | exact trivial, by first | omega | assumption | exact trivial⟩
    · refine q_con B dX6_readType_30 ?_
      refine lv_goto (tgt := 35) B.1 B.2.1 dX6_readType_31 (by decide) ?_
      refine c_puti (k := 1) pk_X8 B hM t_spot kd10 rfl (by decide) fl_X6_245 (Or.inl rfl) dX6_readType_35 rfl rfl rfl (show (-2147483648 : Int) ≤ 1 from by omega) (show 1 ≤ (2147483647 : Int) from by omega) (fun I39 H locs hu40 hM => ?_)
      have e41 : I39 a_spot 1 = 1 := w2_at hu40
      replace hF : Fr mo_X6_readTypeb [] T N I J R T N I39 J R := hF.wi hu40 (fun _ _ => by rw [t_spot]; rfl)
      refine lv_aload_n B.1 B.2.1 dX6_readType_38 rfl (lv_at hl 0 rfl) ?_
      have e42 : I39 a_this 5 = x1 := (w2_ne hu40 (Or.inl (tne t_this t_spot (by decide)))).trans e2
      have e43 : I39 a_this 6 = x3 := (w2_ne hu40 (Or.inl (tne t_this t_spot (by decide)))).trans e4
      have hv44 : (TKz g_S g_n) ∧ (I39 a_this 5 ≤ g_n) := by first | omega | exact ⟨by first | omega | assumption | exact trivial, by first | omega | assumption | exact trivial⟩
      refine z_callv hM hA (c_runV (n := 0) (as := []) (rest := []) B hX hA hM hl.1 t_this kd7 rfl (k_X6_advanceb l D dA eA L T N I39 J R a_this t_this g_t g_s g_S g_n (show R a_this 3 = g_t + 1 from p_0) (show T g_t = 3 from p_1) (show R g_t 0 = g_s + 1 from p_2) (show T g_s = 62 from p_3) (show I39 g_s = g_S from ((Fr.irow hF p_3 (by decide) nm0 (by decide)).trans p_4)) hv44.1 hv44.2 (show g_S (I39 a_this 5).toNat = I39 a_this 6 from by rw [e42, e43]; first | assumption | omega) _ _) ml_X6_87 nm_X6_advance ⟨rfl, rfl⟩ ⟨Nat.le_of_ble_eq_true rfl, Nat.le_of_ble_eq_true rfl⟩ dX6_readType_39 rfl rfl (Nat.le_of_ble_eq_true rfl) ⟨Nat.zero_le _, Nat.zero_le _⟩) (fun L47 T48 N49 I50 J51 R52 dz53 dl54 H locs hp45 hMn => ?_)
      obtain ⟨yL47, yT48, yN49, yR52, hFc55, hp45a⟩ := hp45
      obtain rfl := yL47.symm; obtain rfl := yT48.symm; obtain rfl := yN49.symm; obtain rfl := yR52.symm
      replace hF : Fr mo_X6_readTypeb [] T N I J R T N I50 J51 R := hF.trans hFc55 (by decide) e20
      have hM := hMn
      clear hMn
      replace hp45a : I50 a_this 5 ≤ g_n ∧ g_S (I50 a_this 5).toNat = I50 a_this 6 ∧ (((I39 a_this 6 = 0 ∨ I39 a_this 6 = 1) ∧ I50 a_this 5 = I39 a_this 5 ∧ I50 a_this 6 = I39 a_this 6) ∨ (I50 a_this 5 = I39 a_this 5 + 1)) := hp45a
      obtain ⟨hp45a_0, hp45a_1, hp45a_2⟩ := hp45a
      obtain ⟨x56, e57⟩ : ∃ v, I50 a_this 5 = v := ⟨_, rfl⟩
      obtain ⟨x58, e59⟩ : ∃ v, I50 a_this 6 = v := ⟨_, rfl⟩
      have nz60 : g_S (x56).toNat = x58 := by have h9 := hp45a_1; rw [e57, e59] at h9; exact h9
      refine q_con B dX6_readType_42 ?_
      have e61 : I39 a_this 1 = x6 := (w2_ne hu40 (Or.inl (tne t_this t_spot (by decide)))).trans e7
      have e62 : I50 a_this 1 = x6 := (hFc55.i t_this (by decide) nm0 rfl).trans e61
      refine g_zret B hM dX6_readType_43 ⟨Nat.le_refl _, Nat.le_refl _⟩ (by omega) (by omega) ?_
      rw [← hPST]
      exact ⟨(1), rfl, by omega, rfl, rfl, rfl, rfl, hF, by omega, by omega, by first | omega | assumption | exact trivial, by show g_S (I50 a_this 5).toNat = I50 a_this 6; rw [e57, e59]; first | assumption | omega, by first | omega | assumption | exact trivial, by first | omega | assumption | exact trivial⟩
  · refine lv_aload_n B.1 B.2.1 dX6_readType_9 rfl (lv_at hl 0 rfl) ?_
    refine q_bip B dX6_readType_10 (by decide) ?_
    refine p_calli (c_runV (n := 1) (as := [.int (II 8)]) (rest := []) B hX hA hM hl.1 t_this kd7 rfl (k_X6_isWordb l D dA eA L T N I J R a_this t_this (8) (by first | omega | assumption | exact trivial) _ _) ml_X6_64 nm_X6_isWord ⟨rfl, rfl⟩ ⟨Nat.le_of_ble_eq_true rfl, Nat.le_of_ble_eq_true rfl⟩ dX6_readType_12 rfl rfl (Nat.le_of_ble_eq_true rfl) ⟨Nat.zero_le _, Nat.zero_le _⟩) (fun x64 ix64 hp63 => ?_)
    have hp63a := hp63
    replace hp63a : (0 : Int) ≤ x64 ∧ x64 ≤ 1 ∧ (x64 = 0 ∨ I a_this 6 = 5) := hp63a
    obtain ⟨hp63a_0, hp63a_1, hp63a_2⟩ := hp63a
    refine q_ieq (tgt := 44) B dX6_readType_15 (by decide) (by unfold inr; omega) (fun c65 => ?_) (fun c65 => ?_)
    · refine lv_aload_n B.1 B.2.1 dX6_readType_44 rfl (lv_at hl 1 rfl) ?_
      refine q_con B dX6_readType_45 ?_
      refine c_puti (k := 1) pk_X8 B hM t_spot kd10 rfl (by decide) fl_X6_245 (Or.inl rfl) dX6_readType_46 rfl rfl rfl (show (-2147483648 : Int) ≤ 3 from by omega) (show 3 ≤ (2147483647 : Int) from by omega) (fun I66 H locs hu67 hM => ?_)
      have e68 : I66 a_spot 1 = 3 := w2_at hu67
      replace hF : Fr mo_X6_readTypeb [] T N I J R T N I66 J R := hF.wi hu67 (fun _ _ => by rw [t_spot]; rfl)
      refine lv_aload_n B.1 B.2.1 dX6_readType_49 rfl (lv_at hl 0 rfl) ?_
      refine q_bip B dX6_readType_50 (by decide) ?_
      refine p_calli (c_runV (n := 1) (as := [.int (II 9)]) (rest := []) B hX hA hM hl.1 t_this kd7 rfl (k_X6_isWordb l D dA eA L T N I66 J R a_this t_this (9) (by first | omega | assumption | exact trivial) _ _) ml_X6_64 nm_X6_isWord ⟨rfl, rfl⟩ ⟨Nat.le_of_ble_eq_true rfl, Nat.le_of_ble_eq_true rfl⟩ dX6_readType_52 rfl rfl (Nat.le_of_ble_eq_true rfl) ⟨Nat.zero_le _, Nat.zero_le _⟩) (fun x70 ix70 hp69 => ?_)
      have hp69a := hp69
      replace hp69a : (0 : Int) ≤ x70 ∧ x70 ≤ 1 ∧ (x70 = 0 ∨ I66 a_this 6 = 5) := hp69a
      obtain ⟨hp69a_0, hp69a_1, hp69a_2⟩ := hp69a
      have e71 : I66 a_this 6 = x3 := (w2_ne hu67 (Or.inl (tne t_this t_spot (by decide)))).trans e4
      refine q_ieq (tgt := 67) B dX6_readType_55 (by decide) (by unfold inr; omega) (fun c72 => ?_) (fun c72 => ?_)
      · refine lv_aload_n B.1 B.2.1 dX6_readType_67 rfl (lv_at hl 0 rfl) ?_
        have r73 : (-2147483648 : Int) ≤ x3 ∧ x3 ≤ 2147483647 := by rw [← e71]; exact g7_6 hM.2.2.2.2.2.2.1 t_this
        refine c_geti (k := 6) pk_X6 B hM t_this kd7 rfl (by decide) fl_X6_47 dX6_readType_68 e71 ?_
        refine q_con B dX6_readType_71 ?_
        refine q_ceq (tgt := 81) B dX6_readType_72 (by decide) (by unfold inr; omega) (by unfold inr; omega) (fun c74 => ?_) (fun c74 => ?_)
        · refine lv_aload_n B.1 B.2.1 dX6_readType_81 rfl (lv_at hl 1 rfl) ?_
          refine lv_aload_n B.1 B.2.1 dX6_readType_82 rfl (lv_at hl 0 rfl) ?_
          refine q_con B dX6_readType_83 ?_
          have hv75 : ((-2147483648 : Int) ≤ 5 ∧ (5 : Int) ≤ 2147483647) ∧ (1 ≤ (5 : Int)) := by first | omega | exact ⟨by first | omega | assumption | exact trivial, by first | omega | assumption | exact trivial⟩
          refine z_calli hM hA (c_runV (n := 1) (as := [.int (II 5)]) (rest := [.ref a_spot]) B hX hA hM hl.1 t_this kd7 rfl (k_X6_readReference l D dA eA L T N I66 J R a_this t_this (5) hv75.1 hv75.2 _ _) ml_X6_104 nm_X6_readReference ⟨rfl, rfl⟩ ⟨Nat.le_of_ble_eq_true rfl, Nat.le_of_ble_eq_true rfl⟩ dX6_readType_84 rfl rfl (Nat.le_of_ble_eq_true rfl) ⟨Nat.zero_le _, Nat.zero_le _⟩) (fun x77 ix77 L78 T79 N80 I81 J82 R83 dz84 dl85 H locs hp76 hMn => ?_)
          obtain ⟨yL78, yT79, yN80, yJ82, yR83, hFc86, hp76a⟩ := hp76
          obtain rfl := yL78.symm; obtain rfl := yT79.symm; obtain rfl := yN80.symm; obtain rfl := yJ82.symm; obtain rfl := yR83.symm
          replace hF : Fr mo_X6_readTypeb [] T N I J R T N I81 J R := hF.trans hFc86 (by decide) e20
          have hM := hMn
          clear hMn
          replace hp76a : ((x77 = -1 ∧ I81 a_this 1 ≠ 0) ∨ (0 ≤ x77 ∧ x77 ≤ 99 ∧ I81 a_this 1 = I66 a_this 1)) := hp76a
          have e87 : I66 a_this 1 = x6 := (w2_ne hu67 (Or.inl (tne t_this t_spot (by decide)))).trans e7
          obtain ⟨x88, e89⟩ : ∃ v, I81 a_this 1 = v := ⟨_, rfl⟩
          refine c_puti (k := 2) pk_X8 B hM t_spot kd10 rfl (by decide) fl_X6_248 (Or.inl rfl) dX6_readType_87 rfl rfl rfl (show (-2147483648 : Int) ≤ x77 from by omega) (show x77 ≤ (2147483647 : Int) from by omega) (fun I90 H locs hu91 hM => ?_)
          have e92 : I90 a_spot 2 = x77 := w2_at hu91
          replace hF : Fr mo_X6_readTypeb [] T N I J R T N I90 J R := hF.wi hu91 (fun _ _ => by rw [t_spot]; rfl)
          refine lv_aload_n B.1 B.2.1 dX6_readType_90 rfl (lv_at hl 1 rfl) ?_
          refine c_geti (k := 2) pk_X8 B hM t_spot kd10 rfl (by decide) fl_X6_248 dX6_readType_91 e92 ?_
          refine q_con B dX6_readType_94 ?_
          refine q_cne (tgt := 100) B dX6_readType_95 (by decide) (by unfold inr; omega) (by unfold inr; omega) (fun c93 => ?_) (fun c93 => ?_)
          · refine lv_aload_n B.1 B.2.1 dX6_readType_100 rfl (lv_at hl 0 rfl) ?_
            have e94 : I66 a_this 5 = x1 := (w2_ne hu67 (Or.inl (tne t_this t_spot (by decide)))).trans e2
            have e95 : I81 a_this 5 = x1 := (hFc86.i t_this (by decide) nm0 rfl).trans e94
            have e96 : I90 a_this 5 = x1 := (w2_ne hu91 (Or.inl (tne t_this t_spot (by decide)))).trans e95
            have e97 : I81 a_this 6 = x3 := (hFc86.i t_this (by decide) nm0 rfl).trans e71
            have e98 : I90 a_this 6 = x3 := (w2_ne hu91 (Or.inl (tne t_this t_spot (by decide)))).trans e97
            have hv99 : (TKz g_S g_n) ∧ (I90 a_this 5 ≤ g_n) := by first | omega | exact ⟨by first | omega | assumption | exact trivial, by first | omega | assumption | exact trivial⟩
            refine z_callv hM hA (c_runV (n := 0) (as := []) (rest := []) B hX hA hM hl.1 t_this kd7 rfl (k_X6_advanceb l D dA eA L T N I90 J R a_this t_this g_t g_s g_S g_n (show R a_this 3 = g_t + 1 from p_0) (show T g_t = 3 from p_1) (show R g_t 0 = g_s + 1 from p_2) (show T g_s = 62 from p_3) (show I90 g_s = g_S from ((Fr.irow hF p_3 (by decide) nm0 (by decide)).trans p_4)) hv99.1 hv99.2 (show g_S (I90 a_this 5).toNat = I90 a_this 6 from by rw [e96, e98]; first | assumption | omega) _ _) ml_X6_87 nm_X6_advance ⟨rfl, rfl⟩ ⟨Nat.le_of_ble_eq_true rfl, Nat.le_of_ble_eq_true rfl⟩ dX6_readType_101 rfl rfl (Nat.le_of_ble_eq_true rfl) ⟨Nat.zero_le _, Nat.zero_le _⟩) (fun L102 T103 N104 I105 J106 R107 dz108 dl109 H locs hp100 hMn => ?_)
            obtain ⟨yL102, yT103, yN104, yR107, hFc110, hp100a⟩ := hp100
            obtain rfl := yL102.symm; obtain rfl := yT103.symm; obtain rfl := yN104.symm; obtain rfl := yR107.symm
            replace hF : Fr mo_X6_readTypeb [] T N I J R T N I105 J106 R := hF.trans hFc110 (by decide) e20
            have hM := hMn
            clear hMn
            replace hp100a : I105 a_this 5 ≤ g_n ∧ g_S (I105 a_this 5).toNat = I105 a_this 6 ∧ (((I90 a_this 6 = 0 ∨ I90 a_this 6 = 1) ∧ I105 a_this 5 = I90 a_this 5 ∧ I105 a_this 6 = I90 a_this 6) ∨ (I105 a_this 5 = I90 a_this 5 + 1)) := hp100a
            obtain ⟨hp100a_0, hp100a_1, hp100a_2⟩ := hp100a
            obtain ⟨x111, e112⟩ : ∃ v, I105 a_this 5 = v := ⟨_, rfl⟩
            obtain ⟨x113, e114⟩ : ∃ v, I105 a_this 6 = v := ⟨_, rfl⟩
            have nz115 : g_S (x111).toNat = x113 := by have h9 := hp100a_1; rw [e112, e114] at h9; exact h9
            refine q_con B dX6_readType_104 ?_
            have e116 : I90 a_this 1 = x88 := (w2_ne hu91 (Or.inl (tne t_this t_spot (by decide)))).trans e89
            have e117 : I105 a_this 1 = x88 := (hFc110.i t_this (by decide) nm0 rfl).trans e116
            refine g_zret B hM dX6_readType_105 ⟨Nat.le_refl _, Nat.le_refl _⟩ (by omega) (by omega) ?_
            rw [← hPST]
            exact ⟨(1), rfl, by omega, rfl, rfl, rfl, rfl, hF, by omega, by omega, by first | omega | assumption | exact trivial, by show g_S (I105 a_this 5).toNat = I105 a_this 6; rw [e112, e114]; first | assumption | omega, by first | omega | assumption | exact trivial, by first | omega | assumption | exact trivial⟩
          · refine q_con B dX6_readType_98 ?_
            have e118 : I66 a_this 5 = x1 := (w2_ne hu67 (Or.inl (tne t_this t_spot (by decide)))).trans e2
            have e119 : I81 a_this 5 = x1 := (hFc86.i t_this (by decide) nm0 rfl).trans e118
            have e120 : I90 a_this 5 = x1 := (w2_ne hu91 (Or.inl (tne t_this t_spot (by decide)))).trans e119
            have e121 : I81 a_this 6 = x3 := (hFc86.i t_this (by decide) nm0 rfl).trans e71
            have e122 : I90 a_this 6 = x3 := (w2_ne hu91 (Or.inl (tne t_this t_spot (by decide)))).trans e121
            have e123 : I90 a_this 1 = x88 := (w2_ne hu91 (Or.inl (tne t_this t_spot (by decide)))).trans e89
            refine g_zret B hM dX6_readType_99 ⟨Nat.le_refl _, Nat.le_refl _⟩ (by omega) (by omega) ?_
            rw [← hPST]
            exact ⟨(0), rfl, by omega, rfl, rfl, rfl, rfl, hF, by omega, by omega, by first | omega | assumption | exact trivial, by show g_S (I90 a_this 5).toNat = I90 a_this 6; rw [e120, e122]; first | assumption | omega, by first | omega | assumption | exact trivial, by first | omega | assumption | exact trivial⟩
        · refine lv_aload_n B.1 B.2.1 dX6_readType_75 rfl (lv_at hl 0 rfl) ?_
          refine q_con B dX6_readType_76 ?_
          have hv124 : ((-2147483648 : Int) ≤ 2 ∧ (2 : Int) ≤ 2147483647) ∧ ((2 : Int) ≠ 0) := by first | omega | exact ⟨by first | omega | assumption | exact trivial, by first | omega | assumption | exact trivial⟩
          refine z_calli hM hA (c_runV (n := 1) (as := [.int (II 2)]) (rest := []) B hX hA hM hl.1 t_this kd7 rfl (k_X6_wrong l D dA eA L T N I66 J R a_this t_this (2) hv124.1 hv124.2 _ _) ml_X6_84 nm_X6_wrong ⟨rfl, rfl⟩ ⟨Nat.le_of_ble_eq_true rfl, Nat.le_of_ble_eq_true rfl⟩ dX6_readType_77 rfl rfl (Nat.le_of_ble_eq_true rfl) ⟨Nat.zero_le _, Nat.zero_le _⟩) (fun x126 ix126 L127 T128 N129 I130 J131 R132 dz133 dl134 H locs hp125 hMn => ?_)
          obtain ⟨yL127, yT128, yN129, yJ131, yR132, hFc135, hp125a⟩ := hp125
          obtain rfl := yL127.symm; obtain rfl := yT128.symm; obtain rfl := yN129.symm; obtain rfl := yJ131.symm; obtain rfl := yR132.symm
          replace hF : Fr mo_X6_readTypeb [] T N I J R T N I130 J R := hF.trans hFc135 (by decide) e20
          have hM := hMn
          clear hMn
          replace hp125a : (0 : Int) ≤ x126 ∧ x126 ≤ 1 ∧ (x126 = 0 ∧ I130 a_this 1 ≠ 0) := hp125a
          obtain ⟨hp125a_0, hp125a_1, hp125a_2⟩ := hp125a
          obtain ⟨hp125a_2_0, hp125a_2_1⟩ := hp125a_2
          have e136 : I66 a_this 1 = x6 := (w2_ne hu67 (Or.inl (tne t_this t_spot (by decide)))).trans e7
          obtain ⟨x137, e138⟩ : ∃ v, I130 a_this 1 = v := ⟨_, rfl⟩
          have e139 : I66 a_this 5 = x1 := (w2_ne hu67 (Or.inl (tne t_this t_spot (by decide)))).trans e2
          have e140 : I130 a_this 5 = x1 := (hFc135.i t_this (by decide) nm0 rfl).trans e139
          have e141 : I130 a_this 6 = x3 := (hFc135.i t_this (by decide) nm0 rfl).trans e71
          refine g_zret B hM dX6_readType_80 ⟨Nat.le_refl _, Nat.le_refl _⟩ (by omega) (by omega) ?_
          rw [← hPST]
          exact ⟨x126, rfl, by omega, rfl, rfl, rfl, rfl, hF, by omega, by omega, by first | omega | assumption | exact trivial, by show g_S (I130 a_this 5).toNat = I130 a_this 6; rw [e140, e141]; first | assumption | omega, by first | omega | assumption | exact trivial, by first | omega | assumption | exact trivial⟩
      · refine lv_aload_n B.1 B.2.1 dX6_readType_58 rfl (lv_at hl 1 rfl) ?_
        refine q_con B dX6_readType_59 ?_
        refine c_puti (k := 1) pk_X8 B hM t_spot kd10 rfl (by decide) fl_X6_245 (Or.inl rfl) dX6_readType_60 rfl rfl rfl (show (-2147483648 : Int) ≤ 4 from by omega) (show 4 ≤ (2147483647 : Int) from by omega) (fun I142 H locs hu143 hM => ?_)
        have e144 : I142 a_spot 1 = 4 := w2_at hu143
        replace hF : Fr mo_X6_readTypeb [] T N I J R T N I142 J R := hF.wi hu143 (fun _ _ => by rw [t_spot]; rfl)
        refine lv_aload_n B.1 B.2.1 dX6_readType_63 rfl (lv_at hl 0 rfl) ?_
        have e145 : I66 a_this 5 = x1 := (w2_ne hu67 (Or.inl (tne t_this t_spot (by decide)))).trans e2
        have e146 : I142 a_this 5 = x1 := (w2_ne hu143 (Or.inl (tne t_this t_spot (by decide)))).trans e145
        have e147 : I142 a_this 6 = x3 := (w2_ne hu143 (Or.inl (tne t_this t_spot (by decide)))).trans e71
        have hv148 : (TKz g_S g_n) ∧ (I142 a_this 5 ≤ g_n) := by first | omega | exact ⟨by first | omega | assumption | exact trivial, by first | omega | assumption | exact trivial⟩
        refine z_callv hM hA (c_runV (n := 0) (as := []) (rest := []) B hX hA hM hl.1 t_this kd7 rfl (k_X6_advanceb l D dA eA L T N I142 J R a_this t_this g_t g_s g_S g_n (show R a_this 3 = g_t + 1 from p_0) (show T g_t = 3 from p_1) (show R g_t 0 = g_s + 1 from p_2) (show T g_s = 62 from p_3) (show I142 g_s = g_S from ((Fr.irow hF p_3 (by decide) nm0 (by decide)).trans p_4)) hv148.1 hv148.2 (show g_S (I142 a_this 5).toNat = I142 a_this 6 from by rw [e146, e147]; first | assumption | omega) _ _) ml_X6_87 nm_X6_advance ⟨rfl, rfl⟩ ⟨Nat.le_of_ble_eq_true rfl, Nat.le_of_ble_eq_true rfl⟩ dX6_readType_64 rfl rfl (Nat.le_of_ble_eq_true rfl) ⟨Nat.zero_le _, Nat.zero_le _⟩) (fun L151 T152 N153 I154 J155 R156 dz157 dl158 H locs hp149 hMn => ?_)
        obtain ⟨yL151, yT152, yN153, yR156, hFc159, hp149a⟩ := hp149
        obtain rfl := yL151.symm; obtain rfl := yT152.symm; obtain rfl := yN153.symm; obtain rfl := yR156.symm
        replace hF : Fr mo_X6_readTypeb [] T N I J R T N I154 J155 R := hF.trans hFc159 (by decide) e20
        have hM := hMn
        clear hMn
        replace hp149a : I154 a_this 5 ≤ g_n ∧ g_S (I154 a_this 5).toNat = I154 a_this 6 ∧ (((I142 a_this 6 = 0 ∨ I142 a_this 6 = 1) ∧ I154 a_this 5 = I142 a_this 5 ∧ I154 a_this 6 = I142 a_this 6) ∨ (I154 a_this 5 = I142 a_this 5 + 1)) := hp149a
        obtain ⟨hp149a_0, hp149a_1, hp149a_2⟩ := hp149a
        obtain ⟨x160, e161⟩ : ∃ v, I154 a_this 5 = v := ⟨_, rfl⟩
        obtain ⟨x162, e163⟩ : ∃ v, I154 a_this 6 = v := ⟨_, rfl⟩
        have nz164 : g_S (x160).toNat = x162 := by have h9 := hp149a_1; rw [e161, e163] at h9; exact h9
        refine lv_aload_n B.1 B.2.1 dX6_readType_67 rfl (lv_at hl 0 rfl) ?_
        have r165 : (-2147483648 : Int) ≤ x162 ∧ x162 ≤ 2147483647 := by rw [← e163]; exact g7_6 hM.2.2.2.2.2.2.1 t_this
        refine c_geti (k := 6) pk_X6 B hM t_this kd7 rfl (by decide) fl_X6_47 dX6_readType_68 e163 ?_
        refine q_con B dX6_readType_71 ?_
        refine q_ceq (tgt := 81) B dX6_readType_72 (by decide) (by unfold inr; omega) (by unfold inr; omega) (fun c166 => ?_) (fun c166 => ?_)
        · refine lv_aload_n B.1 B.2.1 dX6_readType_81 rfl (lv_at hl 1 rfl) ?_
          refine lv_aload_n B.1 B.2.1 dX6_readType_82 rfl (lv_at hl 0 rfl) ?_
          refine q_con B dX6_readType_83 ?_
          have hv167 : ((-2147483648 : Int) ≤ 5 ∧ (5 : Int) ≤ 2147483647) ∧ (1 ≤ (5 : Int)) := by first | omega | exact ⟨by first | omega | assumption | exact trivial, by first | omega | assumption | exact trivial⟩
          refine z_calli hM hA (c_runV (n := 1) (as := [.int (II 5)]) (rest := [.ref a_spot]) B hX hA hM hl.1 t_this kd7 rfl (k_X6_readReference l D dA eA L T N I154 J155 R a_this t_this (5) hv167.1 hv167.2 _ _) ml_X6_104 nm_X6_readReference ⟨rfl, rfl⟩ ⟨Nat.le_of_ble_eq_true rfl, Nat.le_of_ble_eq_true rfl⟩ dX6_readType_84 rfl rfl (Nat.le_of_ble_eq_true rfl) ⟨Nat.zero_le _, Nat.zero_le _⟩) (fun x169 ix169 L170 T171 N172 I173 J174 R175 dz176 dl177 H locs hp168 hMn => ?_)
          obtain ⟨yL170, yT171, yN172, yJ174, yR175, hFc178, hp168a⟩ := hp168
          obtain rfl := yL170.symm; obtain rfl := yT171.symm; obtain rfl := yN172.symm; obtain rfl := yJ174.symm; obtain rfl := yR175.symm
          replace hF : Fr mo_X6_readTypeb [] T N I J R T N I173 J155 R := hF.trans hFc178 (by decide) e20
          have hM := hMn
          clear hMn
          replace hp168a : ((x169 = -1 ∧ I173 a_this 1 ≠ 0) ∨ (0 ≤ x169 ∧ x169 ≤ 99 ∧ I173 a_this 1 = I154 a_this 1)) := hp168a
          have e179 : I66 a_this 1 = x6 := (w2_ne hu67 (Or.inl (tne t_this t_spot (by decide)))).trans e7
          have e180 : I142 a_this 1 = x6 := (w2_ne hu143 (Or.inl (tne t_this t_spot (by decide)))).trans e179
          have e181 : I154 a_this 1 = x6 := (hFc159.i t_this (by decide) nm0 rfl).trans e180
          obtain ⟨x182, e183⟩ : ∃ v, I173 a_this 1 = v := ⟨_, rfl⟩
          refine c_puti (k := 2) pk_X8 B hM t_spot kd10 rfl (by decide) fl_X6_248 (Or.inl rfl) dX6_readType_87 rfl rfl rfl (show (-2147483648 : Int) ≤ x169 from by omega) (show x169 ≤ (2147483647 : Int) from by omega) (fun I184 H locs hu185 hM => ?_)
          have e186 : I184 a_spot 2 = x169 := w2_at hu185
          replace hF : Fr mo_X6_readTypeb [] T N I J R T N I184 J155 R := hF.wi hu185 (fun _ _ => by rw [t_spot]; rfl)
          refine lv_aload_n B.1 B.2.1 dX6_readType_90 rfl (lv_at hl 1 rfl) ?_
          refine c_geti (k := 2) pk_X8 B hM t_spot kd10 rfl (by decide) fl_X6_248 dX6_readType_91 e186 ?_
          refine q_con B dX6_readType_94 ?_
          refine q_cne (tgt := 100) B dX6_readType_95 (by decide) (by unfold inr; omega) (by unfold inr; omega) (fun c187 => ?_) (fun c187 => ?_)
          · refine lv_aload_n B.1 B.2.1 dX6_readType_100 rfl (lv_at hl 0 rfl) ?_
            have e188 : I173 a_this 5 = x160 := (hFc178.i t_this (by decide) nm0 rfl).trans e161
            have e189 : I184 a_this 5 = x160 := (w2_ne hu185 (Or.inl (tne t_this t_spot (by decide)))).trans e188
            have e190 : I173 a_this 6 = x162 := (hFc178.i t_this (by decide) nm0 rfl).trans e163
            have e191 : I184 a_this 6 = x162 := (w2_ne hu185 (Or.inl (tne t_this t_spot (by decide)))).trans e190
            have hv192 : (TKz g_S g_n) ∧ (I184 a_this 5 ≤ g_n) := by first | omega | exact ⟨by first | omega | assumption | exact trivial, by first | omega | assumption | exact trivial⟩
            refine z_callv hM hA (c_runV (n := 0) (as := []) (rest := []) B hX hA hM hl.1 t_this kd7 rfl (k_X6_advanceb l D dA eA L T N I184 J155 R a_this t_this g_t g_s g_S g_n (show R a_this 3 = g_t + 1 from p_0) (show T g_t = 3 from p_1) (show R g_t 0 = g_s + 1 from p_2) (show T g_s = 62 from p_3) (show I184 g_s = g_S from ((Fr.irow hF p_3 (by decide) nm0 (by decide)).trans p_4)) hv192.1 hv192.2 (show g_S (I184 a_this 5).toNat = I184 a_this 6 from by rw [e189, e191]; first | assumption | omega) _ _) ml_X6_87 nm_X6_advance ⟨rfl, rfl⟩ ⟨Nat.le_of_ble_eq_true rfl, Nat.le_of_ble_eq_true rfl⟩ dX6_readType_101 rfl rfl (Nat.le_of_ble_eq_true rfl) ⟨Nat.zero_le _, Nat.zero_le _⟩) (fun L195 T196 N197 I198 J199 R200 dz201 dl202 H locs hp193 hMn => ?_)
            obtain ⟨yL195, yT196, yN197, yR200, hFc203, hp193a⟩ := hp193
            obtain rfl := yL195.symm; obtain rfl := yT196.symm; obtain rfl := yN197.symm; obtain rfl := yR200.symm
            replace hF : Fr mo_X6_readTypeb [] T N I J R T N I198 J199 R := hF.trans hFc203 (by decide) e20
            have hM := hMn
            clear hMn
            replace hp193a : I198 a_this 5 ≤ g_n ∧ g_S (I198 a_this 5).toNat = I198 a_this 6 ∧ (((I184 a_this 6 = 0 ∨ I184 a_this 6 = 1) ∧ I198 a_this 5 = I184 a_this 5 ∧ I198 a_this 6 = I184 a_this 6) ∨ (I198 a_this 5 = I184 a_this 5 + 1)) := hp193a
            obtain ⟨hp193a_0, hp193a_1, hp193a_2⟩ := hp193a
            obtain ⟨x204, e205⟩ : ∃ v, I198 a_this 5 = v := ⟨_, rfl⟩
            obtain ⟨x206, e207⟩ : ∃ v, I198 a_this 6 = v := ⟨_, rfl⟩
            have nz208 : g_S (x204).toNat = x206 := by have h9 := hp193a_1; rw [e205, e207] at h9; exact h9
            refine q_con B dX6_readType_104 ?_
            have e209 : I184 a_this 1 = x182 := (w2_ne hu185 (Or.inl (tne t_this t_spot (by decide)))).trans e183
            have e210 : I198 a_this 1 = x182 := (hFc203.i t_this (by decide) nm0 rfl).trans e209
            refine g_zret B hM dX6_readType_105 ⟨Nat.le_refl _, Nat.le_refl _⟩ (by omega) (by omega) ?_
            rw [← hPST]
            exact ⟨(1), rfl, by omega, rfl, rfl, rfl, rfl, hF, by omega, by omega, by first | omega | assumption | exact trivial, by show g_S (I198 a_this 5).toNat = I198 a_this 6; rw [e205, e207]; first | assumption | omega, by first | omega | assumption | exact trivial, by first | omega | assumption | exact trivial⟩
          · refine q_con B dX6_readType_98 ?_
            have e211 : I173 a_this 5 = x160 := (hFc178.i t_this (by decide) nm0 rfl).trans e161
            have e212 : I184 a_this 5 = x160 := (w2_ne hu185 (Or.inl (tne t_this t_spot (by decide)))).trans e211
            have e213 : I173 a_this 6 = x162 := (hFc178.i t_this (by decide) nm0 rfl).trans e163
            have e214 : I184 a_this 6 = x162 := (w2_ne hu185 (Or.inl (tne t_this t_spot (by decide)))).trans e213
            have e215 : I184 a_this 1 = x182 := (w2_ne hu185 (Or.inl (tne t_this t_spot (by decide)))).trans e183
            refine g_zret B hM dX6_readType_99 ⟨Nat.le_refl _, Nat.le_refl _⟩ (by omega) (by omega) ?_
            rw [← hPST]
            exact ⟨(0), rfl, by omega, rfl, rfl, rfl, rfl, hF, by omega, by omega, by first | omega | assumption | exact trivial, by show g_S (I184 a_this 5).toNat = I184 a_this 6; rw [e212, e214]; first | assumption | omega, by first | omega | assumption | exact trivial, by first | omega | assumption | exact trivial⟩
        · refine lv_aload_n B.1 B.2.1 dX6_readType_75 rfl (lv_at hl 0 rfl) ?_
          refine q_con B dX6_readType_76 ?_
          have hv216 : ((-2147483648 : Int) ≤ 2 ∧ (2 : Int) ≤ 2147483647) ∧ ((2 : Int) ≠ 0) := by first | omega | exact ⟨by first | omega | assumption | exact trivial, by first | omega | assumption | exact trivial⟩
          refine z_calli hM hA (c_runV (n := 1) (as := [.int (II 2)]) (rest := []) B hX hA hM hl.1 t_this kd7 rfl (k_X6_wrong l D dA eA L T N I154 J155 R a_this t_this (2) hv216.1 hv216.2 _ _) ml_X6_84 nm_X6_wrong ⟨rfl, rfl⟩ ⟨Nat.le_of_ble_eq_true rfl, Nat.le_of_ble_eq_true rfl⟩ dX6_readType_77 rfl rfl (Nat.le_of_ble_eq_true rfl) ⟨Nat.zero_le _, Nat.zero_le _⟩) (fun x218 ix218 L219 T220 N221 I222 J223 R224 dz225 dl226 H locs hp217 hMn => ?_)
          obtain ⟨yL219, yT220, yN221, yJ223, yR224, hFc227, hp217a⟩ := hp217
          obtain rfl := yL219.symm; obtain rfl := yT220.symm; obtain rfl := yN221.symm; obtain rfl := yJ223.symm; obtain rfl := yR224.symm
          replace hF : Fr mo_X6_readTypeb [] T N I J R T N I222 J155 R := hF.trans hFc227 (by decide) e20
          have hM := hMn
          clear hMn
          replace hp217a : (0 : Int) ≤ x218 ∧ x218 ≤ 1 ∧ (x218 = 0 ∧ I222 a_this 1 ≠ 0) := hp217a
          obtain ⟨hp217a_0, hp217a_1, hp217a_2⟩ := hp217a
          obtain ⟨hp217a_2_0, hp217a_2_1⟩ := hp217a_2
          have e228 : I66 a_this 1 = x6 := (w2_ne hu67 (Or.inl (tne t_this t_spot (by decide)))).trans e7
          have e229 : I142 a_this 1 = x6 := (w2_ne hu143 (Or.inl (tne t_this t_spot (by decide)))).trans e228
          have e230 : I154 a_this 1 = x6 := (hFc159.i t_this (by decide) nm0 rfl).trans e229
          obtain ⟨x231, e232⟩ : ∃ v, I222 a_this 1 = v := ⟨_, rfl⟩
          have e233 : I222 a_this 5 = x160 := (hFc227.i t_this (by decide) nm0 rfl).trans e161
          have e234 : I222 a_this 6 = x162 := (hFc227.i t_this (by decide) nm0 rfl).trans e163
          refine g_zret B hM dX6_readType_80 ⟨Nat.le_refl _, Nat.le_refl _⟩ (by omega) (by omega) ?_
          rw [← hPST]
          exact ⟨x218, rfl, by omega, rfl, rfl, rfl, rfl, hF, by omega, by omega, by first | omega | assumption | exact trivial, by show g_S (I222 a_this 5).toNat = I222 a_this 6; rw [e233, e234]; first | assumption | omega, by first | omega | assumption | exact trivial, by first | omega | assumption | exact trivial⟩
    · refine lv_aload_n B.1 B.2.1 dX6_readType_18 rfl (lv_at hl 1 rfl) ?_
      refine lv_aload_n B.1 B.2.1 dX6_readType_19 rfl (lv_at hl 0 rfl) ?_
      obtain ⟨w235, e236⟩ : ∃ v, J a_this 7 = v := ⟨_, rfl⟩
      refine c_getl (k := 7) pk_X6 B hM t_this kd7 rfl (by decide) fl_X6_54 dX6_readType_20 e236 ?_
      refine lv_ldc2 B.1 B.2.1 B.2.2.2.1 (B.2.2.2.2.1 _ lc_X6_243) dX6_readType_23 ?_
      refine q_lcmp B dX6_readType_26 (fun x237 lx237 ux237 ex237 => ?_)
      refine q_ine (tgt := 34) B dX6_readType_27 (by decide) (by unfold inr; omega) (fun c238 => ?_) (fun c238 => ?_)
      · refine q_con B dX6_readType_34 ?_
        refine c_puti (k := 1) pk_X8 B hM t_spot kd10 rfl (by decide) fl_X6_245 (Or.inl rfl) dX6_readType_35 rfl rfl rfl (show (-2147483648 : Int) ≤ 2 from by omega) (show 2 ≤ (2147483647 : Int) from by omega) (fun I239 H locs hu240 hM => ?_)
        have e241 : I239 a_spot 1 = 2 := w2_at hu240
        replace hF : Fr mo_X6_readTypeb [] T N I J R T N I239 J R := hF.wi hu240 (fun _ _ => by rw [t_spot]; rfl)
        refine lv_aload_n B.1 B.2.1 dX6_readType_38 rfl (lv_at hl 0 rfl) ?_
        have e242 : I239 a_this 5 = x1 := (w2_ne hu240 (Or.inl (tne t_this t_spot (by decide)))).trans e2
        have e243 : I239 a_this 6 = x3 := (w2_ne hu240 (Or.inl (tne t_this t_spot (by decide)))).trans e4
        have hv244 : (TKz g_S g_n) ∧ (I239 a_this 5 ≤ g_n) := by first | omega | exact ⟨by first | omega | assumption | exact trivial, by first | omega | assumption | exact trivial⟩
        refine z_callv hM hA (c_runV (n := 0) (as := []) (rest := []) B hX hA hM hl.1 t_this kd7 rfl (k_X6_advanceb l D dA eA L T N I239 J R a_this t_this g_t g_s g_S g_n (show R a_this 3 = g_t + 1 from p_0) (show T g_t = 3 from p_1) (show R g_t 0 = g_s + 1 from p_2) (show T g_s = 62 from p_3) (show I239 g_s = g_S from ((Fr.irow hF p_3 (by decide) nm0 (by decide)).trans p_4)) hv244.1 hv244.2 (show g_S (I239 a_this 5).toNat = I239 a_this 6 from by rw [e242, e243]; first | assumption | omega) _ _) ml_X6_87 nm_X6_advance ⟨rfl, rfl⟩ ⟨Nat.le_of_ble_eq_true rfl, Nat.le_of_ble_eq_true rfl⟩ dX6_readType_39 rfl rfl (Nat.le_of_ble_eq_true rfl) ⟨Nat.zero_le _, Nat.zero_le _⟩) (fun L247 T248 N249 I250 J251 R252 dz253 dl254 H locs hp245 hMn => ?_)
        obtain ⟨yL247, yT248, yN249, yR252, hFc255, hp245a⟩ := hp245
        obtain rfl := yL247.symm; obtain rfl := yT248.symm; obtain rfl := yN249.symm; obtain rfl := yR252.symm
        replace hF : Fr mo_X6_readTypeb [] T N I J R T N I250 J251 R := hF.trans hFc255 (by decide) e20
        have hM := hMn
        clear hMn
        replace hp245a : I250 a_this 5 ≤ g_n ∧ g_S (I250 a_this 5).toNat = I250 a_this 6 ∧ (((I239 a_this 6 = 0 ∨ I239 a_this 6 = 1) ∧ I250 a_this 5 = I239 a_this 5 ∧ I250 a_this 6 = I239 a_this 6) ∨ (I250 a_this 5 = I239 a_this 5 + 1)) := hp245a
        obtain ⟨hp245a_0, hp245a_1, hp245a_2⟩ := hp245a
        obtain ⟨x256, e257⟩ : ∃ v, I250 a_this 5 = v := ⟨_, rfl⟩
        obtain ⟨x258, e259⟩ : ∃ v, I250 a_this 6 = v := ⟨_, rfl⟩
        have nz260 : g_S (x256).toNat = x258 := by have h9 := hp245a_1; rw [e257, e259] at h9; exact h9
        refine q_con B dX6_readType_42 ?_
        have e261 : I239 a_this 1 = x6 := (w2_ne hu240 (Or.inl (tne t_this t_spot (by decide)))).trans e7
        have e262 : I250 a_this 1 = x6 := (hFc255.i t_this (by decide) nm0 rfl).trans e261
        refine g_zret B hM dX6_readType_43 ⟨Nat.le_refl _, Nat.le_refl _⟩ (by omega) (by omega) ?_
        rw [← hPST]
        exact ⟨(1), rfl, by omega, rfl, rfl, rfl, rfl, hF, by omega, by omega, by first | omega | assumption | exact trivial, by show g_S (I250 a_this 5).toNat = I250 a_this 6; rw [e257, e259]; first | assumption | omega, by first | omega | assumption | exact trivial, by first | omega | assumption | exact trivial⟩
      · refine q_con B dX6_readType_30 ?_
        refine lv_goto (tgt := 35) B.1 B.2.1 dX6_readType_31 (by decide) ?_
        refine c_puti (k := 1) pk_X8 B hM t_spot kd10 rfl (by decide) fl_X6_245 (Or.inl rfl) dX6_readType_35 rfl rfl rfl (show (-2147483648 : Int) ≤ 1 from by omega) (show 1 ≤ (2147483647 : Int) from by omega) (fun I263 H locs hu264 hM => ?_)
        have e265 : I263 a_spot 1 = 1 := w2_at hu264
        replace hF : Fr mo_X6_readTypeb [] T N I J R T N I263 J R := hF.wi hu264 (fun _ _ => by rw [t_spot]; rfl)
        refine lv_aload_n B.1 B.2.1 dX6_readType_38 rfl (lv_at hl 0 rfl) ?_
        have e266 : I263 a_this 5 = x1 := (w2_ne hu264 (Or.inl (tne t_this t_spot (by decide)))).trans e2
        have e267 : I263 a_this 6 = x3 := (w2_ne hu264 (Or.inl (tne t_this t_spot (by decide)))).trans e4
        have hv268 : (TKz g_S g_n) ∧ (I263 a_this 5 ≤ g_n) := by first | omega | exact ⟨by first | omega | assumption | exact trivial, by first | omega | assumption | exact trivial⟩
        refine z_callv hM hA (c_runV (n := 0) (as := []) (rest := []) B hX hA hM hl.1 t_this kd7 rfl (k_X6_advanceb l D dA eA L T N I263 J R a_this t_this g_t g_s g_S g_n (show R a_this 3 = g_t + 1 from p_0) (show T g_t = 3 from p_1) (show R g_t 0 = g_s + 1 from p_2) (show T g_s = 62 from p_3) (show I263 g_s = g_S from ((Fr.irow hF p_3 (by decide) nm0 (by decide)).trans p_4)) hv268.1 hv268.2 (show g_S (I263 a_this 5).toNat = I263 a_this 6 from by rw [e266, e267]; first | assumption | omega) _ _) ml_X6_87 nm_X6_advance ⟨rfl, rfl⟩ ⟨Nat.le_of_ble_eq_true rfl, Nat.le_of_ble_eq_true rfl⟩ dX6_readType_39 rfl rfl (Nat.le_of_ble_eq_true rfl) ⟨Nat.zero_le _, Nat.zero_le _⟩) (fun L271 T272 N273 I274 J275 R276 dz277 dl278 H locs hp269 hMn => ?_)
        obtain ⟨yL271, yT272, yN273, yR276, hFc279, hp269a⟩ := hp269
        obtain rfl := yL271.symm; obtain rfl := yT272.symm; obtain rfl := yN273.symm; obtain rfl := yR276.symm
        replace hF : Fr mo_X6_readTypeb [] T N I J R T N I274 J275 R := hF.trans hFc279 (by decide) e20
        have hM := hMn
        clear hMn
        replace hp269a : I274 a_this 5 ≤ g_n ∧ g_S (I274 a_this 5).toNat = I274 a_this 6 ∧ (((I263 a_this 6 = 0 ∨ I263 a_this 6 = 1) ∧ I274 a_this 5 = I263 a_this 5 ∧ I274 a_this 6 = I263 a_this 6) ∨ (I274 a_this 5 = I263 a_this 5 + 1)) := hp269a
        obtain ⟨hp269a_0, hp269a_1, hp269a_2⟩ := hp269a
        obtain ⟨x280, e281⟩ : ∃ v, I274 a_this 5 = v := ⟨_, rfl⟩
        obtain ⟨x282, e283⟩ : ∃ v, I274 a_this 6 = v := ⟨_, rfl⟩
        have nz284 : g_S (x280).toNat = x282 := by have h9 := hp269a_1; rw [e281, e283] at h9; exact h9
        refine q_con B dX6_readType_42 ?_
        have e285 : I263 a_this 1 = x6 := (w2_ne hu264 (Or.inl (tne t_this t_spot (by decide)))).trans e7
        have e286 : I274 a_this 1 = x6 := (hFc279.i t_this (by decide) nm0 rfl).trans e285
        refine g_zret B hM dX6_readType_43 ⟨Nat.le_refl _, Nat.le_refl _⟩ (by omega) (by omega) ?_
        rw [← hPST]
        exact ⟨(1), rfl, by omega, rfl, rfl, rfl, rfl, hF, by omega, by omega, by first | omega | assumption | exact trivial, by show g_S (I274 a_this 5).toNat = I274 a_this 6; rw [e281, e283]; first | assumption | omega, by first | omega | assumption | exact trivial, by first | omega | assumption | exact trivial⟩

def mo_X6_readMemberb : List Nat := [229, 230, 231, 225, 226, 290, 291, 289, 2400, 2432, 640, 641, 642, 1760, 293, 294, 295, 296, 297, 298, 608, 609, 610, 1728, 321, 322]
set_option maxHeartbeats 1000000 in
set_option maxRecDepth 20000 in
theorem k_X6_readMemberb (l : Launch) (D : va_G) (dA : Nat → ClassId) (eA : Nat) (L : List Nat) (T N : Nat → Nat) (I : Nat → Nat → Int) (J : Nat → Nat → Int64) (R : Nat → Nat → Nat) (a_this : Nat) (t_this : T a_this = 7) (a_kind : Nat) (t_kind : T a_kind = 11) (g_t : Nat) (g_s : Nat) (g_S : Nat → Int) (g_n : Int) (g_m : Nat) (p_0 : R a_this 3 = g_t + 1) (p_1 : T g_t = 3) (p_2 : R g_t 0 = g_s + 1) (p_3 : T g_s = 62) (p_4 : I g_s = g_S) (p_5 : TKz g_S g_n) (p_6 : I a_this 5 ≤ g_n) (p_7 : g_S (I a_this 5).toNat = I a_this 6) (p_8 : R a_kind 3 = g_m + 1) (p_9 : T g_m = 19) : GC l yX6_readMember cX6_readMember 3 (some .boolean) ({ frames := 9, cells := 40, slots := 309, locals := 286 }) D dA eA L T N I J R [.ref a_this, .ref a_kind] 40 309 (gI (fun r L' T' N' I' J' R' dz dl => Fr mo_X6_readMemberb [] T N I J R T' N' I' J' R' ∧ (0 : Int) ≤ r ∧ r ≤ 1 ∧ (I' a_this 5 ≤ g_n ∧ g_S (I' a_this 5).toNat = I' a_this 6 ∧ I a_this 5 ≤ I' a_this 5 ∧ ((r = 0 ∧ I' a_this 1 ≠ 0) ∨ (r = 1 ∧ I' a_this 1 = I a_this 1 ∧ I a_this 5 + 4 ≤ I' a_this 5)) ∧ (dz : Int) ≤ 5 * (I' a_this 5 - I a_this 5) ∧ (dl : Int) ≤ 75 * (I' a_this 5 - I a_this 5) ∧ dz ≤ 40 ∧ dl ≤ 309 ∧ OT 19 T I I' g_m ∧ I' g_m 2 ≤ I g_m 2 + 1))) := by
  generalize hPST : (gI (fun r L' T' N' I' J' R' dz dl => Fr mo_X6_readMemberb [] T N I J R T' N' I' J' R' ∧ (0 : Int) ≤ r ∧ r ≤ 1 ∧ (I' a_this 5 ≤ g_n ∧ g_S (I' a_this 5).toNat = I' a_this 6 ∧ I a_this 5 ≤ I' a_this 5 ∧ ((r = 0 ∧ I' a_this 1 ≠ 0) ∨ (r = 1 ∧ I' a_this 1 = I a_this 1 ∧ I a_this 5 + 4 ≤ I' a_this 5)) ∧ (dz : Int) ≤ 5 * (I' a_this 5 - I a_this 5) ∧ (dl : Int) ≤ 75 * (I' a_this 5 - I a_this 5) ∧ dz ≤ 40 ∧ dl ≤ 309 ∧ OT 19 T I I' g_m ∧ I' g_m 2 ≤ I g_m 2 + 1))) = PST
  refine g_enter (own := RX6) (by decide) rfl (Nat.le_of_ble_eq_true rfl) (fun p e s m args below meth c ls hm B hX hM hl => ?_)
  have hC0 := hM.2.2.2.2.2.2.1
  have hW0 := hM.2.2.2
  have hF : Fr mo_X6_readMemberb [] T N I J R T N I J R := Fr.rf
  have hA : ∀ q, s.heap.size ≤ q → cF dA L T N I J R s.heap.size q := fun q h => Or.inr h
  have hl : lv_has ls 3 [(0, .ref a_this), (1, .ref a_kind)] := hl
  obtain ⟨x1, e2⟩ : ∃ v, I a_this 5 = v := ⟨_, rfl⟩
  obtain ⟨x3, e4⟩ : ∃ v, I a_this 6 = v := ⟨_, rfl⟩
  have nz5 : g_S (x1).toNat = x3 := by have h9 := p_7; rw [e2, e4] at h9; exact h9
  have hot : OT 19 T I I g_m := OT.rf
  obtain ⟨x6, e7⟩ : ∃ v, I a_this 1 = v := ⟨_, rfl⟩
  obtain ⟨x8, e9⟩ : ∃ v, I g_m 2 = v := ⟨_, rfl⟩
  refine lv_aload_n B.1 B.2.1 dX6_readMember_0 rfl (lv_at hl 0 rfl) ?_
  have r10 : (-2147483648 : Int) ≤ x3 ∧ x3 ≤ 2147483647 := by rw [← e4]; exact g7_6 hM.2.2.2.2.2.2.1 t_this
  refine c_geti (k := 6) pk_X6 B hM t_this kd7 rfl (by decide) fl_X6_47 dX6_readMember_1 e4 ?_
  refine q_con B dX6_readMember_4 ?_
  refine q_cne (tgt := 20) B dX6_readMember_5 (by decide) (by unfold inr; omega) (by unfold inr; omega) (fun c11 => ?_) (fun c11 => ?_)
  · refine lv_aload_n B.1 B.2.1 dX6_readMember_20 rfl (lv_at hl 0 rfl) ?_
    refine q_con B dX6_readMember_21 ?_
    have hFt := hF
    have hMt := hM
    have hv12 : ((-2147483648 : Int) ≤ 2 ∧ (2 : Int) ≤ 2147483647) ∧ ((2 : Int) ≠ 0) := by first | omega | exact ⟨by first | omega | assumption | exact trivial, by first | omega | assumption | exact trivial⟩
    refine z_calli hM hA (c_runV (n := 1) (as := [.int (II 2)]) (rest := []) B hX hA hM hl.1 t_this kd7 rfl (k_X6_wrong l D dA eA L T N I J R a_this t_this (2) hv12.1 hv12.2 _ _) ml_X6_84 nm_X6_wrong ⟨rfl, rfl⟩ ⟨Nat.le_of_ble_eq_true rfl, Nat.le_of_ble_eq_true rfl⟩ dX6_readMember_22 rfl rfl (Nat.le_of_ble_eq_true rfl) ⟨by show 0 + 0 ≤ 40; omega, by show 0 + 0 ≤ 309; omega⟩) (fun x14 ix14 L15 T16 N17 I18 J19 R20 dz21 dl22 H locs hp13 hMn => ?_)
    obtain ⟨yL15, yT16, yN17, yJ19, yR20, hFc23, hp13a⟩ := hp13
    obtain rfl := yL15.symm; obtain rfl := yT16.symm; obtain rfl := yN17.symm; obtain rfl := yJ19.symm; obtain rfl := yR20.symm
    replace hF : Fr mo_X6_readMemberb [] T N I J R T N I18 J R := hF.trans hFc23 (by decide) e20
    have hM := hMn
    clear hMn
    replace hp13a : (0 : Int) ≤ x14 ∧ x14 ≤ 1 ∧ (x14 = 0 ∧ I18 a_this 1 ≠ 0) := hp13a
    obtain ⟨hp13a_0, hp13a_1, hp13a_2⟩ := hp13a
    obtain ⟨hp13a_2_0, hp13a_2_1⟩ := hp13a_2
    obtain ⟨x24, e25⟩ : ∃ v, I18 a_this 1 = v := ⟨_, rfl⟩
    replace hot : OT 19 T I I18 g_m := OT.step hot hFt (fun _ _ => nm0) hFc23 (by decide) (by decide) (fun b hb => nm0)
    clear hFt hMt
    have e26 : I18 a_this 5 = x1 := (hFc23.i t_this (by decide) nm0 rfl).trans e2
    have e27 : I18 a_this 6 = x3 := (hFc23.i t_this (by decide) nm0 rfl).trans e4
    have e28 : I18 g_m 2 = x8 := (hFc23.i p_9 (by decide) nm0 rfl).trans e9
    refine g_zret B hM dX6_readMember_25 ⟨by show 0 ≤ 40; omega, by show 0 ≤ 309; omega⟩ (by omega) (by omega) ?_
    rw [← hPST]
    exact ⟨x14, rfl, by omega, hF, by omega, by omega, by first | omega | assumption | exact trivial, by show g_S (I18 a_this 5).toNat = I18 a_this 6; rw [e26, e27]; first | assumption | omega, by first | omega | assumption | exact trivial, by first | omega | assumption | exact trivial, by first | omega | assumption | exact trivial, by first | omega | assumption | exact trivial, by first | omega | assumption | exact trivial, by first | omega | assumption | exact trivial, by exact hot, by first | omega | assumption | exact trivial⟩
  · refine lv_aload_n B.1 B.2.1 dX6_readMember_8 rfl (lv_at hl 1 rfl) ?_
    refine c_getn (k := 3) pk_X3 B hM t_kind kd11 rfl (by decide) fl_X6_236 dX6_readMember_9 p_8 ?_
    have hFt := hF
    have hMt := hM
    have hv29 : (15 ≤ 19) ∧ (19 ≤ 23) := by first | omega | exact ⟨by first | omega | assumption | exact trivial, by first | omega | assumption | exact trivial⟩
    refine p_calli (c_runV (n := 0) (as := []) (rest := []) B hX hA hM hl.1 p_9 kd19 rfl (k_Jx4a65c_size_8abf5 l D dA eA L T N I J R g_m p_9 hv29.1 hv29.2 _ _) ml_X6_135 nm_Jx4a65c_size_8abf5 ⟨rfl, rfl⟩ ⟨Nat.le_of_ble_eq_true rfl, Nat.le_of_ble_eq_true rfl⟩ dX6_readMember_12 rfl rfl (Nat.le_of_ble_eq_true rfl) ⟨by show 0 + 0 ≤ 40; omega, by show 0 + 0 ≤ 309; omega⟩) (fun x31 ix31 hp30 => ?_)
    have hp30a := hp30
    replace hp30a : I g_m 2 = x31 ∧ 0 ≤ x31 ∧ x31 ≤ 12 := hp30a
    obtain ⟨hp30a_0, hp30a_1, hp30a_2⟩ := hp30a
    clear hFt hMt
    refine q_bip B dX6_readMember_15 (by decide) ?_
    refine q_clt (tgt := 26) B dX6_readMember_17 (by decide) (by unfold inr; omega) (by unfold inr; omega) (fun c32 => ?_) (fun c32 => ?_)
    · refine lv_aload_n B.1 B.2.1 dX6_readMember_26 rfl (lv_at hl 1 rfl) ?_
      refine lv_aload_n B.1 B.2.1 dX6_readMember_27 rfl (lv_at hl 0 rfl) ?_
      obtain ⟨w33, e34⟩ : ∃ v, J a_this 7 = v := ⟨_, rfl⟩
      refine c_getl (k := 7) pk_X6 B hM t_this kd7 rfl (by decide) fl_X6_54 dX6_readMember_28 e34 ?_
      have hFt := hF
      have hMt := hM
      refine p_calli (c_runV (n := 1) (as := [.long w33]) (rest := []) B hX hA hM hl.1 t_kind kd11 rfl (k_X3_find l D dA eA L T N I J R a_kind t_kind w33 _ _) ml_X6_239 nm_X3_find ⟨rfl, rfl⟩ ⟨Nat.le_of_ble_eq_true rfl, Nat.le_of_ble_eq_true rfl⟩ dX6_readMember_31 rfl rfl (Nat.le_of_ble_eq_true rfl) ⟨by show 0 + 0 ≤ 40; omega, by show 0 + 0 ≤ 309; omega⟩) (fun x36 ix36 hp35 => ?_)
      have hp35a := hp35
      replace hp35a : x36 = -1 ∨ (0 ≤ x36 ∧ x36 < I (R a_kind 3 - 1) 2) := hp35a
      have pq37 : I (R a_kind 3 - 1) 2 = I g_m 2 := by rw [p_8, Nat.add_sub_cancel]
      clear hFt hMt
      refine q_con B dX6_readMember_34 ?_
      refine q_ceq (tgt := 44) B dX6_readMember_35 (by decide) (by unfold inr; omega) (by unfold inr; omega) (fun c38 => ?_) (fun c38 => ?_)
      · have hMo := hM
        refine c_new (t := 38) pk_X8 B hX.out hA hM kd38 df_X8 rfl rfl (by decide) cl_X6_205 in_X8 ini_X8 (by show 0 + 1 ≤ 40; omega) (by show 0 + 6 ≤ 309; omega) dX6_readMember_44 (fun b39 L40 T41 N42 H t43 hT44 hN45 hM => ?_)
        have t46 : T41 b39 = 38 := by rw [hT44, va_up_self]
        have n47 : N42 b39 = 6 := by rw [hN45, va_up_self]
        replace hF : Fr mo_X6_readMemberb [] T N I J R T41 N42 I J R := hF.new t43 hT44 hN45
        have zz48 := hMo.2.2.2.2.2.1 b39 t43
        clear hMo
        refine lv_dup B.1 B.2.1 dX6_readMember_47 rfl ?_
        refine lv_aload_n B.1 B.2.1 dX6_readMember_48 rfl (lv_at hl 0 rfl) ?_
        have t49 : T41 a_this = 7 := hF.tt t_this (by decide) nm0
        refine c_getl (k := 7) pk_X6 B hM t49 kd7 rfl (by decide) fl_X6_54 dX6_readMember_49 e34 ?_
        refine q_con B dX6_readMember_52 ?_
        have hFt := hF
        have hMt := hM
        refine g_callv hM hA (c_runI (n := 2) (as := [.long w33, .int (II 1)]) (rest := [.ref b39]) B hX hA hM hl.1 (k_X8_init l D dA eA L40 T41 N42 I J R b39 t46 w33 (1) (by first | omega | assumption | exact trivial) zz48 _ _) ml_X6_207 nm_X8_init ⟨rfl, rfl⟩ ⟨Nat.le_of_ble_eq_true rfl, Nat.le_of_ble_eq_true rfl⟩ dX6_readMember_53 rfl rfl (Nat.le_of_ble_eq_true rfl) ⟨by show 0 + 1 + 2 ≤ 40; omega, by show 0 + 6 + 6 ≤ 309; omega⟩) (fun L52 T53 N54 I55 J56 R57 dz58 dl59 H locs hp50 hMn => ?_)
        obtain ⟨hFc60, hp50a⟩ := hp50
        have t61 : T41 a_kind = 11 := hF.tt t_kind (by decide) nm0
        have t62 : T41 g_t = 3 := hF.tt p_1 (by decide) nm0
        have t63 : T41 g_s = 62 := hF.tt p_3 (by decide) nm0
        have t64 : T41 g_m = 19 := hF.tt p_9 (by decide) nm0
        replace hF : Fr mo_X6_readMemberb [] T N I J R T53 N54 I55 J56 R57 := hF.trans hFc60 (by decide) (e2x (fun h => absurd t43 h))
        have hM := hMn
        clear hMn
        obtain ⟨t65, hp50a⟩ := hp50a
        replace hp50a : dz58 ≤ 2 ∧ dl59 ≤ 6 ∧ I55 (R57 b39 3 - 1) 2 = 0 ∧ I55 (R57 b39 4 - 1) 2 = 0 := hp50a
        obtain ⟨hp50a_0, hp50a_1, hp50a_2, hp50a_3⟩ := hp50a
        obtain ⟨b66, e67, t68⟩ := g10_3 hM.2.2.2.2.2.2.1 t65
        have pq69 : I55 (R57 b39 3 - 1) 2 = I55 b66 2 := by rw [e67, Nat.add_sub_cancel]
        obtain ⟨x70, e71⟩ : ∃ v, I55 b66 2 = v := ⟨_, rfl⟩
        obtain ⟨b72, e73, t74⟩ := g10_4 hM.2.2.2.2.2.2.1 t65
        have pq75 : I55 (R57 b39 4 - 1) 2 = I55 b72 2 := by rw [e73, Nat.add_sub_cancel]
        obtain ⟨x76, e77⟩ : ∃ v, I55 b72 2 = v := ⟨_, rfl⟩
        replace hot : OT 19 T I I55 g_m := OT.step hot hFt (fun _ _ => nm0) hFc60 (by decide) (by decide) (fun b hb => (nm1 (tne hb t46 (by decide))))
        clear hFt hMt
        refine lv_astore_n (lv' := [(2, .ref b39), (0, .ref a_this), (1, .ref a_kind)]) B.1 B.2.1 dX6_readMember_56 rfl hl (by decide) rfl (fun ls hl => ?_)
        refine lv_aload_n B.1 B.2.1 dX6_readMember_57 rfl (lv_at hl 2 rfl) ?_
        have t78 : T53 a_kind = 11 := hF.tt t_kind (by decide) nm0
        have e79 : R57 a_kind 3 = g_m + 1 := (hF.r t_kind (by decide) nm0 rfl).trans p_8
        refine c_getn (k := 3) pk_X3 B hM t78 kd11 rfl (by decide) fl_X6_236 dX6_readMember_58 e79 ?_
        refine lv_aload_n B.1 B.2.1 dX6_readMember_61 rfl (lv_at hl 0 rfl) ?_
        have hFt := hF
        have hMt := hM
        have t80 : T53 g_m = 19 := hF.tt p_9 (by decide) nm0
        have e81 : I55 g_m 2 = x31 := (hFc60.i t64 (by decide) (nm1 (tne t64 t46 (by decide))) rfl).trans hp30a_0
        obtain ⟨x82, e83⟩ : ∃ v, I55 b39 0 = v := ⟨_, rfl⟩
        have hv84 : (15 ≤ 19) ∧ (19 ≤ 23) ∧ (I55 g_m 2 < 12) ∧ (19 = 18 → I55 b39 0 ≤ I55 g_m 2) := by first | omega | exact ⟨by first | omega | assumption | exact trivial, by first | omega | assumption | exact trivial, by first | omega | assumption | exact trivial, by first | omega | assumption | exact trivial⟩
        refine g_calli hM hA (c_runV (n := 1) (as := [.ref b39]) (rest := []) B hX hA hM hl.1 t80 kd19 rfl (k_Jx4a65c_add_9ea2d l D dA eA L52 T53 N54 I55 J56 R57 g_m t80 b39 t65 hv84.1 hv84.2.1 hv84.2.2.1 hv84.2.2.2 _ _) ml_X6_146 nm_Jx4a65c_add_9ea2d ⟨rfl, rfl⟩ ⟨Nat.le_of_ble_eq_true rfl, Nat.le_of_ble_eq_true rfl⟩ dX6_readMember_62 rfl rfl (Nat.le_of_ble_eq_true rfl) ⟨by show 0 + 1 + dz58 + 1 ≤ 40; omega, by show 0 + 6 + dl59 + 18 ≤ 309; omega⟩) (fun x86 ix86 L87 T88 N89 I90 J91 R92 dz93 dl94 H locs hp85 hMn => ?_)
        obtain ⟨yJ91, hFc95, hp85a⟩ := hp85
        obtain rfl := yJ91.symm
        have t96 : T53 a_this = 7 := hF.tt t_this (by decide) nm0
        have t97 : T53 g_t = 3 := hF.tt p_1 (by decide) nm0
        have t98 : T53 g_s = 62 := hF.tt p_3 (by decide) nm0
        replace hF : Fr mo_X6_readMemberb [] T N I J R T88 N89 I90 J56 R92 := hF.trans hFc95 (by decide) e20
        have hM := hMn
        clear hMn
        replace hp85a : (0 : Int) ≤ x86 ∧ x86 ≤ 1 ∧ (I90 g_m 2 = I55 g_m 2 + 1 ∧ R92 (R92 g_m 1 - 1) (I55 g_m 2).toNat = b39 + 1 ∧ (∀ i : Nat, (i : Int) < I55 g_m 2 → R92 (R92 g_m 1 - 1) i = R57 (R57 g_m 1 - 1) i) ∧ (∀ b, T53 b = 19 → b ≠ g_m → I90 b 2 = I55 b 2) ∧ dz93 ≤ 1 ∧ dl94 ≤ 18 ∧ dl94 + 3 * N54 (R57 g_m 1 - 1) ≤ 3 * N89 (R92 g_m 1 - 1) + 2) := hp85a
        obtain ⟨hp85a_0, hp85a_1, hp85a_2⟩ := hp85a
        obtain ⟨hp85a_2_0, hp85a_2_1, hp85a_2_2, hp85a_2_3, hp85a_2_4, hp85a_2_5, hp85a_2_6⟩ := hp85a_2
        obtain ⟨v99, e100⟩ : ∃ v, R92 g_m 1 = v := ⟨_, rfl⟩
        replace hot : OT 19 T I I90 g_m := OT.ad hot hFt (fun _ _ => nm0) (by decide) (by assumption)
        clear hFt hMt
        refine lv_pop B.1 B.2.1 dX6_readMember_65 rfl ?_
        refine lv_aload_n B.1 B.2.1 dX6_readMember_66 rfl (lv_at hl 1 rfl) ?_
        have hFt := hF
        have hMt := hM
        have t101 : T88 a_this = 7 := hF.tt t_this (by decide) nm0
        have e102 : R92 a_this 3 = g_t + 1 := (hF.r t_this (by decide) nm0 rfl).trans p_0
        have e103 : R92 g_t 0 = g_s + 1 := (hF.r p_1 (by decide) nm0 rfl).trans p_2
        have t104 : T88 g_t = 3 := hF.tt p_1 (by decide) nm0
        have t105 : T88 g_s = 62 := hF.tt p_3 (by decide) nm0
        have e106 : I55 a_this 5 = x1 := (hFc60.i t49 (by decide) (nm1 (tne t49 t46 (by decide))) rfl).trans e2
        have e107 : I90 a_this 5 = x1 := (hFc95.i t96 (by decide) nm0 rfl).trans e106
        have e108 : I55 a_this 6 = x3 := (hFc60.i t49 (by decide) (nm1 (tne t49 t46 (by decide))) rfl).trans e4
        have e109 : I90 a_this 6 = x3 := (hFc95.i t96 (by decide) nm0 rfl).trans e108
        have hv110 : (TKz g_S g_n) ∧ (I90 a_this 5 ≤ g_n) := by first | omega | exact ⟨by first | omega | assumption | exact trivial, by first | omega | assumption | exact trivial⟩
        refine z_callv hM hA (c_runV (n := 0) (as := []) (rest := []) B hX hA hM hl.1 t101 kd7 rfl (k_X6_advanceb l D dA eA L87 T88 N89 I90 J56 R92 a_this t101 g_t g_s g_S g_n (show R92 a_this 3 = g_t + 1 from e102) (show T88 g_t = 3 from t104) (show R92 g_t 0 = g_s + 1 from e103) (show T88 g_s = 62 from t105) (show I90 g_s = g_S from ((Fr.irow hF p_3 (by decide) nm0 (by decide)).trans p_4)) hv110.1 hv110.2 (show g_S (I90 a_this 5).toNat = I90 a_this 6 from by rw [e107, e109]; first | assumption | omega) _ _) ml_X6_87 nm_X6_advance ⟨rfl, rfl⟩ ⟨Nat.le_of_ble_eq_true rfl, Nat.le_of_ble_eq_true rfl⟩ dX6_readMember_67 rfl rfl (Nat.le_of_ble_eq_true rfl) ⟨by show 0 + 1 + dz58 + dz93 + 0 ≤ 40; omega, by show 0 + 6 + dl59 + dl94 + 0 ≤ 309; omega⟩) (fun L113 T114 N115 I116 J117 R118 dz119 dl120 H locs hp111 hMn => ?_)
        obtain ⟨yL113, yT114, yN115, yR118, hFc121, hp111a⟩ := hp111
        obtain rfl := yL113.symm; obtain rfl := yT114.symm; obtain rfl := yN115.symm; obtain rfl := yR118.symm
        replace hF : Fr mo_X6_readMemberb [] T N I J R T88 N89 I116 J117 R92 := hF.trans hFc121 (by decide) e20
        have hM := hMn
        clear hMn
        replace hp111a : I116 a_this 5 ≤ g_n ∧ g_S (I116 a_this 5).toNat = I116 a_this 6 ∧ (((I90 a_this 6 = 0 ∨ I90 a_this 6 = 1) ∧ I116 a_this 5 = I90 a_this 5 ∧ I116 a_this 6 = I90 a_this 6) ∨ (I116 a_this 5 = I90 a_this 5 + 1)) := hp111a
        obtain ⟨hp111a_0, hp111a_1, hp111a_2⟩ := hp111a
        obtain ⟨x122, e123⟩ : ∃ v, I116 a_this 5 = v := ⟨_, rfl⟩
        obtain ⟨x124, e125⟩ : ∃ v, I116 a_this 6 = v := ⟨_, rfl⟩
        have nz126 : g_S (x122).toNat = x124 := by have h9 := hp111a_1; rw [e123, e125] at h9; exact h9
        replace hot : OT 19 T I I116 g_m := OT.step hot hFt (fun _ _ => nm0) hFc121 (by decide) (by decide) (fun b hb => nm0)
        clear hFt hMt
        refine lv_aload_n B.1 B.2.1 dX6_readMember_70 rfl (lv_at hl 1 rfl) ?_
        refine q_bip B dX6_readMember_71 (by decide) ?_
        have hFt := hF
        have hMt := hM
        have hv127 : ((-2147483648 : Int) ≤ 58 ∧ (58 : Int) ≤ 2147483647) ∧ (TKz g_S g_n) ∧ (I116 a_this 5 ≤ g_n) ∧ ((58 : Int) ≠ 0) ∧ ((58 : Int) ≠ 1) := by first | omega | exact ⟨by first | omega | assumption | exact trivial, by first | omega | assumption | exact trivial, by first | omega | assumption | exact trivial, by first | omega | assumption | exact trivial, by first | omega | assumption | exact trivial⟩
        refine z_calli hM hA (c_runV (n := 1) (as := [.int (II 58)]) (rest := []) B hX hA hM hl.1 t101 kd7 rfl (k_X6_readSign l D dA eA L87 T88 N89 I116 J117 R92 a_this t101 (58) hv127.1 g_t g_s g_S g_n (show R92 a_this 3 = g_t + 1 from e102) (show T88 g_t = 3 from t104) (show R92 g_t 0 = g_s + 1 from e103) (show T88 g_s = 62 from t105) (show I116 g_s = g_S from ((Fr.irow hF p_3 (by decide) nm0 (by decide)).trans p_4)) hv127.2.1 hv127.2.2.1 (show g_S (I116 a_this 5).toNat = I116 a_this 6 from by rw [e123, e125]; first | assumption | omega) hv127.2.2.2.1 hv127.2.2.2.2 _ _) ml_X6_122 nm_X6_readSign ⟨rfl, rfl⟩ ⟨Nat.le_of_ble_eq_true rfl, Nat.le_of_ble_eq_true rfl⟩ dX6_readMember_73 rfl rfl (Nat.le_of_ble_eq_true rfl) ⟨by show 0 + 1 + dz58 + dz93 + 0 ≤ 40; omega, by show 0 + 6 + dl59 + dl94 + 0 ≤ 309; omega⟩) (fun x129 ix129 L130 T131 N132 I133 J134 R135 dz136 dl137 H locs hp128 hMn => ?_)
        obtain ⟨yL130, yT131, yN132, yR135, hFc138, hp128a⟩ := hp128
        obtain rfl := yL130.symm; obtain rfl := yT131.symm; obtain rfl := yN132.symm; obtain rfl := yR135.symm
        replace hF : Fr mo_X6_readMemberb [] T N I J R T88 N89 I133 J134 R92 := hF.trans hFc138 (by decide) e20
        have hM := hMn
        clear hMn
        replace hp128a : (0 : Int) ≤ x129 ∧ x129 ≤ 1 ∧ (I133 a_this 5 ≤ g_n ∧ g_S (I133 a_this 5).toNat = I133 a_this 6 ∧ I116 a_this 5 ≤ I133 a_this 5 ∧ ((x129 = 0 ∧ I133 a_this 1 ≠ 0) ∨ (x129 = 1 ∧ I133 a_this 1 = I116 a_this 1 ∧ I116 a_this 5 + 1 ≤ I133 a_this 5))) := hp128a
        obtain ⟨hp128a_0, hp128a_1, hp128a_2⟩ := hp128a
        obtain ⟨hp128a_2_0, hp128a_2_1, hp128a_2_2, hp128a_2_3⟩ := hp128a_2
        obtain ⟨x139, e140⟩ : ∃ v, I133 a_this 5 = v := ⟨_, rfl⟩
        obtain ⟨x141, e142⟩ : ∃ v, I133 a_this 6 = v := ⟨_, rfl⟩
        have nz143 : g_S (x139).toNat = x141 := by have h9 := hp128a_2_1; rw [e140, e142] at h9; exact h9
        have e144 : I55 a_this 1 = x6 := (hFc60.i t49 (by decide) (nm1 (tne t49 t46 (by decide))) rfl).trans e7
        have e145 : I90 a_this 1 = x6 := (hFc95.i t96 (by decide) nm0 rfl).trans e144
        have e146 : I116 a_this 1 = x6 := (hFc121.i t101 (by decide) nm0 rfl).trans e145
        obtain ⟨x147, e148⟩ : ∃ v, I133 a_this 1 = v := ⟨_, rfl⟩
        replace hot : OT 19 T I I133 g_m := OT.step hot hFt (fun _ _ => nm0) hFc138 (by decide) (by decide) (fun b hb => nm0)
        clear hFt hMt
        refine q_ieq (tgt := 87) B dX6_readMember_76 (by decide) (by unfold inr; omega) (fun c149 => ?_) (fun c149 => ?_)
        · refine q_con B dX6_readMember_87 ?_
          have t150 : T88 g_m = 19 := hF.tt p_9 (by decide) nm0
          have e151 : I116 g_m 2 = I55 g_m 2 + 1 := (hFc121.i t150 (by decide) nm0 rfl).trans hp85a_2_0
          have e152 : I133 g_m 2 = I55 g_m 2 + 1 := (hFc138.i t150 (by decide) nm0 rfl).trans e151
          refine g_zret B hM dX6_readMember_88 ⟨by show 0 + 1 + dz58 + dz93 ≤ 40; omega, by show 0 + 6 + dl59 + dl94 ≤ 309; omega⟩ (by omega) (by omega) ?_
          rw [← hPST]
          exact ⟨(0), rfl, by omega, hF, by omega, by omega, by first | omega | assumption | exact trivial, by show g_S (I133 a_this 5).toNat = I133 a_this 6; rw [e140, e142]; first | assumption | omega, by first | omega | assumption | exact trivial, by first | omega | assumption | exact trivial, by first | omega | assumption | exact trivial, by first | omega | assumption | exact trivial, by first | omega | assumption | exact trivial, by first | omega | assumption | exact trivial, by exact hot, by first | omega | assumption | exact trivial⟩
        · refine lv_aload_n B.1 B.2.1 dX6_readMember_79 rfl (lv_at hl 1 rfl) ?_
          refine lv_aload_n B.1 B.2.1 dX6_readMember_80 rfl (lv_at hl 0 rfl) ?_
          have hFt := hF
          have hMt := hM
          have t153 : T88 b39 = 10 := hFc95.tt t65 (by decide) nm0
          have hv154 : (TKz g_S g_n) ∧ (I133 a_this 5 ≤ g_n) := by first | omega | exact ⟨by first | omega | assumption | exact trivial, by first | omega | assumption | exact trivial⟩
          refine z_calli hM hA (c_runV (n := 1) (as := [.ref b39]) (rest := []) B hX hA hM hl.1 t101 kd7 rfl (k_X6_readTypeb l D dA eA L87 T88 N89 I133 J134 R92 a_this t101 b39 t153 g_t g_s g_S g_n (show R92 a_this 3 = g_t + 1 from e102) (show T88 g_t = 3 from t104) (show R92 g_t 0 = g_s + 1 from e103) (show T88 g_s = 62 from t105) (show I133 g_s = g_S from ((Fr.irow hF p_3 (by decide) nm0 (by decide)).trans p_4)) hv154.1 hv154.2 (show g_S (I133 a_this 5).toNat = I133 a_this 6 from by rw [e140, e142]; first | assumption | omega) _ _) ml_X6_240 nm_X6_readType ⟨rfl, rfl⟩ ⟨Nat.le_of_ble_eq_true rfl, Nat.le_of_ble_eq_true rfl⟩ dX6_readMember_81 rfl rfl (Nat.le_of_ble_eq_true rfl) ⟨by show 0 + 1 + dz58 + dz93 + 0 ≤ 40; omega, by show 0 + 6 + dl59 + dl94 + 0 ≤ 309; omega⟩) (fun x156 ix156 L157 T158 N159 I160 J161 R162 dz163 dl164 H locs hp155 hMn => ?_)
          obtain ⟨yL157, yT158, yN159, yR162, hFc165, hp155a⟩ := hp155
          obtain rfl := yL157.symm; obtain rfl := yT158.symm; obtain rfl := yN159.symm; obtain rfl := yR162.symm
          replace hF : Fr mo_X6_readMemberb [] T N I J R T88 N89 I160 J161 R92 := hF.trans hFc165 (by decide) e20
          have hM := hMn
          clear hMn
          replace hp155a : (0 : Int) ≤ x156 ∧ x156 ≤ 1 ∧ (I160 a_this 5 ≤ g_n ∧ g_S (I160 a_this 5).toNat = I160 a_this 6 ∧ I133 a_this 5 ≤ I160 a_this 5 ∧ ((x156 = 0 ∧ I160 a_this 1 ≠ 0) ∨ (x156 = 1 ∧ I160 a_this 1 = I133 a_this 1 ∧ I133 a_this 5 + 1 ≤ I160 a_this 5))) := hp155a
          obtain ⟨hp155a_0, hp155a_1, hp155a_2⟩ := hp155a
          obtain ⟨hp155a_2_0, hp155a_2_1, hp155a_2_2, hp155a_2_3⟩ := hp155a_2
          obtain ⟨x166, e167⟩ : ∃ v, I160 a_this 5 = v := ⟨_, rfl⟩
          obtain ⟨x168, e169⟩ : ∃ v, I160 a_this 6 = v := ⟨_, rfl⟩
          have nz170 : g_S (x166).toNat = x168 := by have h9 := hp155a_2_1; rw [e167, e169] at h9; exact h9
          obtain ⟨x171, e172⟩ : ∃ v, I160 a_this 1 = v := ⟨_, rfl⟩
          replace hot : OT 19 T I I160 g_m := OT.step hot hFt (fun _ _ => nm0) hFc165 (by decide) (by decide) (fun b hb => nm0)
          clear hFt hMt
          refine q_ine (tgt := 89) B dX6_readMember_84 (by decide) (by unfold inr; omega) (fun c173 => ?_) (fun c173 => ?_)
          · refine lv_aload_n B.1 B.2.1 dX6_readMember_89 rfl (lv_at hl 1 rfl) ?_
            have r174 : (-2147483648 : Int) ≤ x168 ∧ x168 ≤ 2147483647 := by rw [← e169]; exact g7_6 hM.2.2.2.2.2.2.1 t101
            refine c_geti (k := 6) pk_X6 B hM t101 kd7 rfl (by decide) fl_X6_47 dX6_readMember_90 e169 ?_
            refine q_bip B dX6_readMember_93 (by decide) ?_
            have JJ112 : ∀ (L_112 : List Nat) (T_112 : Nat → Nat) (N_112 : Nat → Nat) (I_112 : Nat → Nat → Int) (J_112 : Nat → Nat → Int64) (R_112 : Nat → Nat → Nat) (zc112 zs112 : Nat) (H : Heap) (locs : List Loc) (ls : Array Slot), (CWd D dA eA (cF dA L T N I J R s.heap.size) s.heap L_112 T_112 N_112 I_112 J_112 R_112 H locs) → (Fr mo_X6_readMemberb [] T N I J R T_112 N_112 I_112 J_112 R_112) → lv_has ls 3 [(0, .ref a_this), (1, .ref a_kind)] → (I a_this 5 + 3 ≤ I_112 a_this 5) → ((zc112 : Int) ≤ 40) → ((zs112 : Int) ≤ 309) → ((zc112 : Int) ≤ 5 * (I_112 a_this 5 - I a_this 5)) → ((zs112 : Int) ≤ 75 * (I_112 a_this 5 - I a_this 5)) → (I_112 a_this 5 ≤ g_n) → (g_S (I_112 a_this 5).toNat = I_112 a_this 6) → (I_112 a_this 1 = I a_this 1) → (I_112 g_m 2 ≤ I g_m 2 + 1) → (OT 19 T I I_112 g_m) → W p l e ({ frames := 9, cells := 40, slots := 309, locals := 286 }) s m args below meth c H locs zc112 zs112 (MQ below (gQ D dA eA (cF dA L T N I J R s.heap.size) s.heap.size (hs s.heap) PST) args s 40 309 (cF dA L T N I J R s.heap.size)) (F0 m 112 ls []) := by
              intro L_112 T_112 N_112 I_112 J_112 R_112 zc112 zs112 H locs ls hM hF hl hJJ112_0 hJJ112_1 hJJ112_2 hJJ112_3 hJJ112_4 hJJ112_5 hJJ112_6 hJJ112_7 hJJ112_8 hJJ112_9
              obtain ⟨x175, e176⟩ : ∃ v, I_112 a_this 5 = v := ⟨_, rfl⟩
              obtain ⟨x177, e178⟩ : ∃ v, I_112 a_this 6 = v := ⟨_, rfl⟩
              have nz179 : g_S (x175).toNat = x177 := by have h9 := hJJ112_6; rw [e176, e178] at h9; exact h9
              have hot : OT 19 T I I_112 g_m := by assumption
              obtain ⟨x180, e181⟩ : ∃ v, I_112 g_m 2 = v := ⟨_, rfl⟩
              refine lv_aload_n B.1 B.2.1 dX6_readMember_112 rfl (lv_at hl 0 rfl) ?_
              refine q_bip B dX6_readMember_113 (by decide) ?_
              have hFt := hF
              have hMt := hM
              have t182 : T_112 a_this = 7 := hF.tt t_this (by decide) nm0
              have e183 : R_112 a_this 3 = g_t + 1 := (hF.r t_this (by decide) nm0 rfl).trans p_0
              have e184 : R_112 g_t 0 = g_s + 1 := (hF.r p_1 (by decide) nm0 rfl).trans p_2
              have t185 : T_112 g_t = 3 := hF.tt p_1 (by decide) nm0
              have t186 : T_112 g_s = 62 := hF.tt p_3 (by decide) nm0
              have hv187 : ((-2147483648 : Int) ≤ 59 ∧ (59 : Int) ≤ 2147483647) ∧ (TKz g_S g_n) ∧ (I_112 a_this 5 ≤ g_n) ∧ ((59 : Int) ≠ 0) ∧ ((59 : Int) ≠ 1) := by first | omega | exact ⟨by first | omega | assumption | exact trivial, by first | omega | assumption | exact trivial, by first | omega | assumption | exact trivial, by first | omega | assumption | exact trivial, by first | omega | assumption | exact trivial⟩
              refine z_calli hM hA (c_runV (n := 1) (as := [.int (II 59)]) (rest := []) B hX hA hM hl.1 t182 kd7 rfl (k_X6_readSign l D dA eA L_112 T_112 N_112 I_112 J_112 R_112 a_this t182 (59) hv187.1 g_t g_s g_S g_n (show R_112 a_this 3 = g_t + 1 from e183) (show T_112 g_t = 3 from t185) (show R_112 g_t 0 = g_s + 1 from e184) (show T_112 g_s = 62 from t186) (show I_112 g_s = g_S from ((Fr.irow hF p_3 (by decide) nm0 (by decide)).trans p_4)) hv187.2.1 hv187.2.2.1 (show g_S (I_112 a_this 5).toNat = I_112 a_this 6 from by rw [e176, e178]; first | assumption | omega) hv187.2.2.2.1 hv187.2.2.2.2 _ _) ml_X6_122 nm_X6_readSign ⟨rfl, rfl⟩ ⟨Nat.le_of_ble_eq_true rfl, Nat.le_of_ble_eq_true rfl⟩ dX6_readMember_115 rfl rfl (Nat.le_of_ble_eq_true rfl) ⟨by show zc112 + 0 ≤ 40; omega, by show zs112 + 0 ≤ 309; omega⟩) (fun x189 ix189 L190 T191 N192 I193 J194 R195 dz196 dl197 H locs hp188 hMn => ?_)
              obtain ⟨yL190, yT191, yN192, yR195, hFc198, hp188a⟩ := hp188
              obtain rfl := yL190.symm; obtain rfl := yT191.symm; obtain rfl := yN192.symm; obtain rfl := yR195.symm
              replace hF : Fr mo_X6_readMemberb [] T N I J R T_112 N_112 I193 J194 R_112 := hF.trans hFc198 (by decide) e20
              have hM := hMn
              clear hMn
              replace hp188a : (0 : Int) ≤ x189 ∧ x189 ≤ 1 ∧ (I193 a_this 5 ≤ g_n ∧ g_S (I193 a_this 5).toNat = I193 a_this 6 ∧ I_112 a_this 5 ≤ I193 a_this 5 ∧ ((x189 = 0 ∧ I193 a_this 1 ≠ 0) ∨ (x189 = 1 ∧ I193 a_this 1 = I_112 a_this 1 ∧ I_112 a_this 5 + 1 ≤ I193 a_this 5))) := hp188a
              obtain ⟨hp188a_0, hp188a_1, hp188a_2⟩ := hp188a
              obtain ⟨hp188a_2_0, hp188a_2_1, hp188a_2_2, hp188a_2_3⟩ := hp188a_2
              obtain ⟨x199, e200⟩ : ∃ v, I193 a_this 5 = v := ⟨_, rfl⟩
              obtain ⟨x201, e202⟩ : ∃ v, I193 a_this 6 = v := ⟨_, rfl⟩
              have nz203 : g_S (x199).toNat = x201 := by have h9 := hp188a_2_1; rw [e200, e202] at h9; exact h9
              obtain ⟨x204, e205⟩ : ∃ v, I193 a_this 1 = v := ⟨_, rfl⟩
              replace hot : OT 19 T I I193 g_m := OT.step hot hFt (fun _ _ => nm0) hFc198 (by decide) (by decide) (fun b hb => nm0)
              clear hFt hMt
              have t206 : T_112 g_m = 19 := hF.tt p_9 (by decide) nm0
              have e207 : I193 g_m 2 = x180 := (hFc198.i t206 (by decide) nm0 rfl).trans e181
              refine g_zret B hM dX6_readMember_118 ⟨by show zc112 ≤ 40; omega, by show zs112 ≤ 309; omega⟩ (by omega) (by omega) ?_
              rw [← hPST]
              exact ⟨x189, rfl, by omega, hF, by omega, by omega, by first | omega | assumption | exact trivial, by show g_S (I193 a_this 5).toNat = I193 a_this 6; rw [e200, e202]; first | assumption | omega, by first | omega | assumption | exact trivial, by first | omega | assumption | exact trivial, by first | omega | assumption | exact trivial, by first | omega | assumption | exact trivial, by first | omega | assumption | exact trivial, by first | omega | assumption | exact trivial, by exact hot, by first | omega | assumption | exact trivial⟩
            refine q_cne (tgt := 112) B dX6_readMember_95 (by decide) (by unfold inr; omega) (by unfold inr; omega) (fun c208 => ?_) (fun c208 => ?_)
            · have t209 : T88 g_m = 19 := hF.tt p_9 (by decide) nm0
              have e210 : I116 g_m 2 = I55 g_m 2 + 1 := (hFc121.i t209 (by decide) nm0 rfl).trans hp85a_2_0
              have e211 : I133 g_m 2 = I55 g_m 2 + 1 := (hFc138.i t209 (by decide) nm0 rfl).trans e210
              have e212 : I160 g_m 2 = I55 g_m 2 + 1 := (hFc165.i t209 (by decide) nm0 rfl).trans e211
              have hv213 : (I a_this 5 + 3 ≤ I160 a_this 5) ∧ ((0 + 1 + dz58 + dz93 : Int) ≤ 40) ∧ ((0 + 6 + dl59 + dl94 : Int) ≤ 309) ∧ ((0 + 1 + dz58 + dz93 : Int) ≤ 5 * (I160 a_this 5 - I a_this 5)) ∧ ((0 + 6 + dl59 + dl94 : Int) ≤ 75 * (I160 a_this 5 - I a_this 5)) ∧ (I160 a_this 5 ≤ g_n) ∧ (I160 a_this 1 = I a_this 1) ∧ (I160 g_m 2 ≤ I g_m 2 + 1) := by first | omega | exact ⟨by first | omega | assumption | exact trivial, by first | omega | assumption | exact trivial, by first | omega | assumption | exact trivial, by first | omega | assumption | exact trivial, by first | omega | assumption | exact trivial, by first | omega | assumption | exact trivial, by first | omega | assumption | exact trivial, by first | omega | assumption | exact trivial⟩
              exact JJ112 L87 T88 N89 I160 J161 R92 (0 + 1 + dz58 + dz93) (0 + 6 + dl59 + dl94) _ _ ls hM hF (lv_sub hl [1, 2] rfl) hv213.1 hv213.2.1 hv213.2.2.1 hv213.2.2.2.1 hv213.2.2.2.2.1 hv213.2.2.2.2.2.1 (by rw [e167, e169]; first | assumption | omega) hv213.2.2.2.2.2.2.1 hv213.2.2.2.2.2.2.2 (by exact hot)
            · refine lv_aload_n B.1 B.2.1 dX6_readMember_98 rfl (lv_at hl 1 rfl) ?_
              have hFt := hF
              have hMt := hM
              have hv214 : (TKz g_S g_n) ∧ (I160 a_this 5 ≤ g_n) := by first | omega | exact ⟨by first | omega | assumption | exact trivial, by first | omega | assumption | exact trivial⟩
              refine z_callv hM hA (c_runV (n := 0) (as := []) (rest := []) B hX hA hM hl.1 t101 kd7 rfl (k_X6_advanceb l D dA eA L87 T88 N89 I160 J161 R92 a_this t101 g_t g_s g_S g_n (show R92 a_this 3 = g_t + 1 from e102) (show T88 g_t = 3 from t104) (show R92 g_t 0 = g_s + 1 from e103) (show T88 g_s = 62 from t105) (show I160 g_s = g_S from ((Fr.irow hF p_3 (by decide) nm0 (by decide)).trans p_4)) hv214.1 hv214.2 (show g_S (I160 a_this 5).toNat = I160 a_this 6 from by rw [e167, e169]; first | assumption | omega) _ _) ml_X6_87 nm_X6_advance ⟨rfl, rfl⟩ ⟨Nat.le_of_ble_eq_true rfl, Nat.le_of_ble_eq_true rfl⟩ dX6_readMember_99 rfl rfl (Nat.le_of_ble_eq_true rfl) ⟨by show 0 + 1 + dz58 + dz93 + 0 ≤ 40; omega, by show 0 + 6 + dl59 + dl94 + 0 ≤ 309; omega⟩) (fun L217 T218 N219 I220 J221 R222 dz223 dl224 H locs hp215 hMn => ?_)
              obtain ⟨yL217, yT218, yN219, yR222, hFc225, hp215a⟩ := hp215
              obtain rfl := yL217.symm; obtain rfl := yT218.symm; obtain rfl := yN219.symm; obtain rfl := yR222.symm
              replace hF : Fr mo_X6_readMemberb [] T N I J R T88 N89 I220 J221 R92 := hF.trans hFc225 (by decide) e20
              have hM := hMn
              clear hMn
              replace hp215a : I220 a_this 5 ≤ g_n ∧ g_S (I220 a_this 5).toNat = I220 a_this 6 ∧ (((I160 a_this 6 = 0 ∨ I160 a_this 6 = 1) ∧ I220 a_this 5 = I160 a_this 5 ∧ I220 a_this 6 = I160 a_this 6) ∨ (I220 a_this 5 = I160 a_this 5 + 1)) := hp215a
              obtain ⟨hp215a_0, hp215a_1, hp215a_2⟩ := hp215a
              obtain ⟨x226, e227⟩ : ∃ v, I220 a_this 5 = v := ⟨_, rfl⟩
              obtain ⟨x228, e229⟩ : ∃ v, I220 a_this 6 = v := ⟨_, rfl⟩
              have nz230 : g_S (x226).toNat = x228 := by have h9 := hp215a_1; rw [e227, e229] at h9; exact h9
              replace hot : OT 19 T I I220 g_m := OT.step hot hFt (fun _ _ => nm0) hFc225 (by decide) (by decide) (fun b hb => nm0)
              clear hFt hMt
              refine lv_aload_n B.1 B.2.1 dX6_readMember_102 rfl (lv_at hl 1 rfl) ?_
              refine lv_aload_n B.1 B.2.1 dX6_readMember_103 rfl (lv_at hl 0 rfl) ?_
              have hFt := hF
              have hMt := hM
              have e231 : R92 b39 3 = b66 + 1 := (hFc95.r t65 (by decide) nm0 rfl).trans e67
              have t232 : T88 b66 = 20 := hFc95.tt t68 (by decide) nm0
              have hv233 : (TKz g_S g_n) ∧ (I220 a_this 5 ≤ g_n) := by first | omega | exact ⟨by first | omega | assumption | exact trivial, by first | omega | assumption | exact trivial⟩
              refine g_calli hM hA (c_runV (n := 1) (as := [.ref b39]) (rest := []) B hX hA hM hl.1 t101 kd7 rfl (k_X6_readUses l D dA eA L87 T88 N89 I220 J221 R92 a_this t101 b39 t153 g_t g_s g_S g_n b66 (show R92 a_this 3 = g_t + 1 from e102) (show T88 g_t = 3 from t104) (show R92 g_t 0 = g_s + 1 from e103) (show T88 g_s = 62 from t105) (show I220 g_s = g_S from ((Fr.irow hF p_3 (by decide) nm0 (by decide)).trans p_4)) hv233.1 hv233.2 (show g_S (I220 a_this 5).toNat = I220 a_this 6 from by rw [e227, e229]; first | assumption | omega) (show R92 b39 3 = b66 + 1 from e231) (show T88 b66 = 20 from t232) _ _) ml_X6_209 nm_X6_readUses ⟨rfl, rfl⟩ ⟨Nat.le_of_ble_eq_true rfl, Nat.le_of_ble_eq_true rfl⟩ dX6_readMember_104 rfl rfl (Nat.le_of_ble_eq_true rfl) ⟨by show 0 + 1 + dz58 + dz93 + 36 ≤ 40; omega, by show 0 + 6 + dl59 + dl94 + 279 ≤ 309; omega⟩) (fun x235 ix235 L236 T237 N238 I239 J240 R241 dz242 dl243 H locs hp234 hMn => ?_)
              obtain ⟨hFc244, hp234a⟩ := hp234
              have t245 : T88 a_kind = 11 := hF.tt t_kind (by decide) nm0
              have t246 : T88 g_m = 19 := hF.tt p_9 (by decide) nm0
              have t247 : T88 b72 = 21 := hFc95.tt t74 (by decide) nm0
              replace hF : Fr mo_X6_readMemberb [] T N I J R T237 N238 I239 J240 R241 := hF.trans hFc244 (by decide) e20
              have hM := hMn
              clear hMn
              replace hp234a : (0 : Int) ≤ x235 ∧ x235 ≤ 1 ∧ (I239 a_this 5 ≤ g_n ∧ g_S (I239 a_this 5).toNat = I239 a_this 6 ∧ I220 a_this 5 ≤ I239 a_this 5 ∧ ((x235 = 0 ∧ I239 a_this 1 ≠ 0) ∨ (x235 = 1 ∧ I239 a_this 1 = I220 a_this 1 ∧ I220 a_this 5 + 1 ≤ I239 a_this 5)) ∧ (dz242 : Int) ≤ 4 * (I239 a_this 5 - I220 a_this 5) ∧ (dl243 : Int) ≤ 31 * (I239 a_this 5 - I220 a_this 5) ∧ dz242 ≤ 36 ∧ dl243 ≤ 279) := hp234a
              obtain ⟨hp234a_0, hp234a_1, hp234a_2⟩ := hp234a
              obtain ⟨hp234a_2_0, hp234a_2_1, hp234a_2_2, hp234a_2_3, hp234a_2_4, hp234a_2_5, hp234a_2_6, hp234a_2_7⟩ := hp234a_2
              obtain ⟨x248, e249⟩ : ∃ v, I239 a_this 5 = v := ⟨_, rfl⟩
              obtain ⟨x250, e251⟩ : ∃ v, I239 a_this 6 = v := ⟨_, rfl⟩
              have nz252 : g_S (x248).toNat = x250 := by have h9 := hp234a_2_1; rw [e249, e251] at h9; exact h9
              have e253 : I220 a_this 1 = x171 := (hFc225.i t101 (by decide) nm0 rfl).trans e172
              obtain ⟨x254, e255⟩ : ∃ v, I239 a_this 1 = v := ⟨_, rfl⟩
              replace hot : OT 19 T I I239 g_m := OT.step hot hFt (fun _ _ => nm0) hFc244 (by decide) (by decide) (fun b hb => nm0)
              clear hFt hMt
              refine q_ine (tgt := 112) B dX6_readMember_107 (by decide) (by unfold inr; omega) (fun c256 => ?_) (fun c256 => ?_)
              · have e257 : I116 g_m 2 = I55 g_m 2 + 1 := (hFc121.i t246 (by decide) nm0 rfl).trans hp85a_2_0
                have e258 : I133 g_m 2 = I55 g_m 2 + 1 := (hFc138.i t246 (by decide) nm0 rfl).trans e257
                have e259 : I160 g_m 2 = I55 g_m 2 + 1 := (hFc165.i t246 (by decide) nm0 rfl).trans e258
                have e260 : I220 g_m 2 = I55 g_m 2 + 1 := (hFc225.i t246 (by decide) nm0 rfl).trans e259
                have e261 : I239 g_m 2 = I55 g_m 2 + 1 := (hFc244.i t246 (by decide) nm0 rfl).trans e260
                have hv262 : (I a_this 5 + 3 ≤ I239 a_this 5) ∧ ((0 + 1 + dz58 + dz93 + dz242 : Int) ≤ 40) ∧ ((0 + 6 + dl59 + dl94 + dl243 : Int) ≤ 309) ∧ ((0 + 1 + dz58 + dz93 + dz242 : Int) ≤ 5 * (I239 a_this 5 - I a_this 5)) ∧ ((0 + 6 + dl59 + dl94 + dl243 : Int) ≤ 75 * (I239 a_this 5 - I a_this 5)) ∧ (I239 a_this 5 ≤ g_n) ∧ (I239 a_this 1 = I a_this 1) ∧ (I239 g_m 2 ≤ I g_m 2 + 1) := by first | omega | exact ⟨by first | omega | assumption | exact trivial, by first | omega | assumption | exact trivial, by first | omega | assumption | exact trivial, by first | omega | assumption | exact trivial, by first | omega | assumption | exact trivial, by first | omega | assumption | exact trivial, by first | omega | assumption | exact trivial, by first | omega | assumption | exact trivial⟩
                exact JJ112 L236 T237 N238 I239 J240 R241 (0 + 1 + dz58 + dz93 + dz242) (0 + 6 + dl59 + dl94 + dl243) _ _ ls hM hF (lv_sub hl [1, 2] rfl) hv262.1 hv262.2.1 hv262.2.2.1 hv262.2.2.2.1 hv262.2.2.2.2.1 hv262.2.2.2.2.2.1 (by rw [e249, e251]; first | assumption | omega) hv262.2.2.2.2.2.2.1 hv262.2.2.2.2.2.2.2 (by exact hot)
              · refine q_con B dX6_readMember_110 ?_
                have e263 : I116 g_m 2 = I55 g_m 2 + 1 := (hFc121.i t246 (by decide) nm0 rfl).trans hp85a_2_0
                have e264 : I133 g_m 2 = I55 g_m 2 + 1 := (hFc138.i t246 (by decide) nm0 rfl).trans e263
                have e265 : I160 g_m 2 = I55 g_m 2 + 1 := (hFc165.i t246 (by decide) nm0 rfl).trans e264
                have e266 : I220 g_m 2 = I55 g_m 2 + 1 := (hFc225.i t246 (by decide) nm0 rfl).trans e265
                have e267 : I239 g_m 2 = I55 g_m 2 + 1 := (hFc244.i t246 (by decide) nm0 rfl).trans e266
                refine g_zret B hM dX6_readMember_111 ⟨by show 0 + 1 + dz58 + dz93 + dz242 ≤ 40; omega, by show 0 + 6 + dl59 + dl94 + dl243 ≤ 309; omega⟩ (by omega) (by omega) ?_
                rw [← hPST]
                exact ⟨(0), rfl, by omega, hF, by omega, by omega, by first | omega | assumption | exact trivial, by show g_S (I239 a_this 5).toNat = I239 a_this 6; rw [e249, e251]; first | assumption | omega, by first | omega | assumption | exact trivial, by first | omega | assumption | exact trivial, by first | omega | assumption | exact trivial, by first | omega | assumption | exact trivial, by first | omega | assumption | exact trivial, by first | omega | assumption | exact trivial, by exact hot, by first | omega | assumption | exact trivial⟩
          · refine q_con B dX6_readMember_87 ?_
            have t268 : T88 g_m = 19 := hF.tt p_9 (by decide) nm0
            have e269 : I116 g_m 2 = I55 g_m 2 + 1 := (hFc121.i t268 (by decide) nm0 rfl).trans hp85a_2_0
            have e270 : I133 g_m 2 = I55 g_m 2 + 1 := (hFc138.i t268 (by decide) nm0 rfl).trans e269
            have e271 : I160 g_m 2 = I55 g_m 2 + 1 := (hFc165.i t268 (by decide) nm0 rfl).trans e270
            refine g_zret B hM dX6_readMember_88 ⟨by show 0 + 1 + dz58 + dz93 ≤ 40; omega, by show 0 + 6 + dl59 + dl94 ≤ 309; omega⟩ (by omega) (by omega) ?_
            rw [← hPST]
            exact ⟨(0), rfl, by omega, hF, by omega, by omega, by first | omega | assumption | exact trivial, by show g_S (I160 a_this 5).toNat = I160 a_this 6; rw [e167, e169]; first | assumption | omega, by first | omega | assumption | exact trivial, by first | omega | assumption | exact trivial, by first | omega | assumption | exact trivial, by first | omega | assumption | exact trivial, by first | omega | assumption | exact trivial, by first | omega | assumption | exact trivial, by exact hot, by first | omega | assumption | exact trivial⟩
      · refine lv_aload_n B.1 B.2.1 dX6_readMember_38 rfl (lv_at hl 0 rfl) ?_
        refine q_con B dX6_readMember_39 ?_
        have hFt := hF
        have hMt := hM
        have hv272 : ((-2147483648 : Int) ≤ 3 ∧ (3 : Int) ≤ 2147483647) ∧ ((3 : Int) ≠ 0) := by first | omega | exact ⟨by first | omega | assumption | exact trivial, by first | omega | assumption | exact trivial⟩
        refine z_calli hM hA (c_runV (n := 1) (as := [.int (II 3)]) (rest := []) B hX hA hM hl.1 t_this kd7 rfl (k_X6_wrong l D dA eA L T N I J R a_this t_this (3) hv272.1 hv272.2 _ _) ml_X6_84 nm_X6_wrong ⟨rfl, rfl⟩ ⟨Nat.le_of_ble_eq_true rfl, Nat.le_of_ble_eq_true rfl⟩ dX6_readMember_40 rfl rfl (Nat.le_of_ble_eq_true rfl) ⟨by show 0 + 0 ≤ 40; omega, by show 0 + 0 ≤ 309; omega⟩) (fun x274 ix274 L275 T276 N277 I278 J279 R280 dz281 dl282 H locs hp273 hMn => ?_)
        obtain ⟨yL275, yT276, yN277, yJ279, yR280, hFc283, hp273a⟩ := hp273
        obtain rfl := yL275.symm; obtain rfl := yT276.symm; obtain rfl := yN277.symm; obtain rfl := yJ279.symm; obtain rfl := yR280.symm
        replace hF : Fr mo_X6_readMemberb [] T N I J R T N I278 J R := hF.trans hFc283 (by decide) e20
        have hM := hMn
        clear hMn
        replace hp273a : (0 : Int) ≤ x274 ∧ x274 ≤ 1 ∧ (x274 = 0 ∧ I278 a_this 1 ≠ 0) := hp273a
        obtain ⟨hp273a_0, hp273a_1, hp273a_2⟩ := hp273a
        obtain ⟨hp273a_2_0, hp273a_2_1⟩ := hp273a_2
        obtain ⟨x284, e285⟩ : ∃ v, I278 a_this 1 = v := ⟨_, rfl⟩
        replace hot : OT 19 T I I278 g_m := OT.step hot hFt (fun _ _ => nm0) hFc283 (by decide) (by decide) (fun b hb => nm0)
        clear hFt hMt
        have e286 : I278 a_this 5 = x1 := (hFc283.i t_this (by decide) nm0 rfl).trans e2
        have e287 : I278 a_this 6 = x3 := (hFc283.i t_this (by decide) nm0 rfl).trans e4
        have e288 : I278 g_m 2 = x31 := (hFc283.i p_9 (by decide) nm0 rfl).trans hp30a_0
        refine g_zret B hM dX6_readMember_43 ⟨by show 0 ≤ 40; omega, by show 0 ≤ 309; omega⟩ (by omega) (by omega) ?_
        rw [← hPST]
        exact ⟨x274, rfl, by omega, hF, by omega, by omega, by first | omega | assumption | exact trivial, by show g_S (I278 a_this 5).toNat = I278 a_this 6; rw [e286, e287]; first | assumption | omega, by first | omega | assumption | exact trivial, by first | omega | assumption | exact trivial, by first | omega | assumption | exact trivial, by first | omega | assumption | exact trivial, by first | omega | assumption | exact trivial, by first | omega | assumption | exact trivial, by exact hot, by first | omega | assumption | exact trivial⟩
    · refine lv_aload_n B.1 B.2.1 dX6_readMember_20 rfl (lv_at hl 0 rfl) ?_
      refine q_con B dX6_readMember_21 ?_
      have hFt := hF
      have hMt := hM
      have hv289 : ((-2147483648 : Int) ≤ 2 ∧ (2 : Int) ≤ 2147483647) ∧ ((2 : Int) ≠ 0) := by first | omega | exact ⟨by first | omega | assumption | exact trivial, by first | omega | assumption | exact trivial⟩
      refine z_calli hM hA (c_runV (n := 1) (as := [.int (II 2)]) (rest := []) B hX hA hM hl.1 t_this kd7 rfl (k_X6_wrong l D dA eA L T N I J R a_this t_this (2) hv289.1 hv289.2 _ _) ml_X6_84 nm_X6_wrong ⟨rfl, rfl⟩ ⟨Nat.le_of_ble_eq_true rfl, Nat.le_of_ble_eq_true rfl⟩ dX6_readMember_22 rfl rfl (Nat.le_of_ble_eq_true rfl) ⟨by show 0 + 0 ≤ 40; omega, by show 0 + 0 ≤ 309; omega⟩) (fun x291 ix291 L292 T293 N294 I295 J296 R297 dz298 dl299 H locs hp290 hMn => ?_)
      obtain ⟨yL292, yT293, yN294, yJ296, yR297, hFc300, hp290a⟩ := hp290
      obtain rfl := yL292.symm; obtain rfl := yT293.symm; obtain rfl := yN294.symm; obtain rfl := yJ296.symm; obtain rfl := yR297.symm
      replace hF : Fr mo_X6_readMemberb [] T N I J R T N I295 J R := hF.trans hFc300 (by decide) e20
      have hM := hMn
      clear hMn
      replace hp290a : (0 : Int) ≤ x291 ∧ x291 ≤ 1 ∧ (x291 = 0 ∧ I295 a_this 1 ≠ 0) := hp290a
      obtain ⟨hp290a_0, hp290a_1, hp290a_2⟩ := hp290a
      obtain ⟨hp290a_2_0, hp290a_2_1⟩ := hp290a_2
      obtain ⟨x301, e302⟩ : ∃ v, I295 a_this 1 = v := ⟨_, rfl⟩
      replace hot : OT 19 T I I295 g_m := OT.step hot hFt (fun _ _ => nm0) hFc300 (by decide) (by decide) (fun b hb => nm0)
      clear hFt hMt
      have e303 : I295 a_this 5 = x1 := (hFc300.i t_this (by decide) nm0 rfl).trans e2
      have e304 : I295 a_this 6 = x3 := (hFc300.i t_this (by decide) nm0 rfl).trans e4
      have e305 : I295 g_m 2 = x31 := (hFc300.i p_9 (by decide) nm0 rfl).trans hp30a_0
      refine g_zret B hM dX6_readMember_25 ⟨by show 0 ≤ 40; omega, by show 0 ≤ 309; omega⟩ (by omega) (by omega) ?_
      rw [← hPST]
      exact ⟨x291, rfl, by omega, hF, by omega, by omega, by first | omega | assumption | exact trivial, by show g_S (I295 a_this 5).toNat = I295 a_this 6; rw [e303, e304]; first | assumption | omega, by first | omega | assumption | exact trivial, by first | omega | assumption | exact trivial, by first | omega | assumption | exact trivial, by first | omega | assumption | exact trivial, by first | omega | assumption | exact trivial, by first | omega | assumption | exact trivial, by exact hot, by first | omega | assumption | exact trivial⟩

def mo_X6_readMarkb : List Nat := [229, 230, 231, 225, 226, 290, 291, 289, 2400, 2432, 640, 641, 642, 1760, 293, 294, 295, 296, 297, 298, 544, 545, 546, 1664, 2272, 2304, 203]
set_option maxHeartbeats 1000000 in
set_option maxRecDepth 20000 in
theorem k_X6_readMarkb (l : Launch) (D : va_G) (dA : Nat → ClassId) (eA : Nat) (L : List Nat) (T N : Nat → Nat) (I : Nat → Nat → Int) (J : Nat → Nat → Int64) (R : Nat → Nat → Nat) (a_this : Nat) (t_this : T a_this = 7) (g_t : Nat) (g_s : Nat) (g_S : Nat → Int) (g_n : Int) (p_0 : R a_this 3 = g_t + 1) (p_1 : T g_t = 3) (p_2 : R g_t 0 = g_s + 1) (p_3 : T g_s = 62) (p_4 : I g_s = g_S) (p_5 : TKz g_S g_n) (p_6 : I a_this 5 ≤ g_n) (p_7 : g_S (I a_this 5).toNat = I a_this 6) : GC l yX6_readMark cX6_readMark 2 (some .boolean) ({ frames := 9, cells := 40, slots := 315, locals := 286 }) D dA eA L T N I J R [.ref a_this] 40 315 (gI (fun r L' T' N' I' J' R' dz dl => Fr mo_X6_readMarkb [] T N I J R T' N' I' J' R' ∧ (0 : Int) ≤ r ∧ r ≤ 1 ∧ (I' a_this 5 ≤ g_n ∧ g_S (I' a_this 5).toNat = I' a_this 6 ∧ I a_this 5 ≤ I' a_this 5 ∧ ((r = 0 ∧ I' a_this 1 ≠ 0) ∨ (r = 1 ∧ I' a_this 1 = I a_this 1 ∧ I a_this 5 + 1 ≤ I' a_this 5)) ∧ (dz : Int) ≤ 5 * (I' a_this 5 - I a_this 5) + 20 * (1 - r) ∧ (dl : Int) ≤ 75 * (I' a_this 5 - I a_this 5) + 300 * (1 - r) ∧ dz ≤ 40 ∧ dl ≤ 315))) := by
  generalize hPST : (gI (fun r L' T' N' I' J' R' dz dl => Fr mo_X6_readMarkb [] T N I J R T' N' I' J' R' ∧ (0 : Int) ≤ r ∧ r ≤ 1 ∧ (I' a_this 5 ≤ g_n ∧ g_S (I' a_this 5).toNat = I' a_this 6 ∧ I a_this 5 ≤ I' a_this 5 ∧ ((r = 0 ∧ I' a_this 1 ≠ 0) ∨ (r = 1 ∧ I' a_this 1 = I a_this 1 ∧ I a_this 5 + 1 ≤ I' a_this 5)) ∧ (dz : Int) ≤ 5 * (I' a_this 5 - I a_this 5) + 20 * (1 - r) ∧ (dl : Int) ≤ 75 * (I' a_this 5 - I a_this 5) + 300 * (1 - r) ∧ dz ≤ 40 ∧ dl ≤ 315))) = PST
  refine g_enter (own := RX6) (by decide) rfl (Nat.le_of_ble_eq_true rfl) (fun p e s m args below meth c ls hm B hX hM hl => ?_)
  have hC0 := hM.2.2.2.2.2.2.1
  have hW0 := hM.2.2.2
  have hF : Fr mo_X6_readMarkb [] T N I J R T N I J R := Fr.rf
  have hA : ∀ q, s.heap.size ≤ q → cF dA L T N I J R s.heap.size q := fun q h => Or.inr h
  have hl : lv_has ls 2 [(0, .ref a_this)] := hl
  obtain ⟨x1, e2⟩ : ∃ v, I a_this 5 = v := ⟨_, rfl⟩
  obtain ⟨x3, e4⟩ : ∃ v, I a_this 6 = v := ⟨_, rfl⟩
  have nz5 : g_S (x1).toNat = x3 := by have h9 := p_7; rw [e2, e4] at h9; exact h9
  obtain ⟨x6, e7⟩ : ∃ v, I a_this 1 = v := ⟨_, rfl⟩
  refine lv_aload_n B.1 B.2.1 dX6_readMark_0 rfl (lv_at hl 0 rfl) ?_
  refine q_con B dX6_readMark_1 ?_
  refine lv_aload_n B.1 B.2.1 dX6_readMark_2 rfl (lv_at hl 0 rfl) ?_
  obtain ⟨b8, e9, t10⟩ := g7_0 hC0 t_this
  refine c_getn (k := 0) pk_X6 B hM t_this kd7 rfl (by decide) fl_X6_22 dX6_readMark_3 e9 ?_
  obtain ⟨b11, e12, t13⟩ := g6_2 hC0 t10
  refine c_getn (k := 2) pk_X0 B hM t10 kd6 rfl (by decide) fl_X6_202 dX6_readMark_6 e12 ?_
  have hv14 : (15 ≤ 17) ∧ (17 ≤ 23) := by first | omega | exact ⟨by first | omega | assumption | exact trivial, by first | omega | assumption | exact trivial⟩
  refine p_calli (c_runV (n := 0) (as := []) (rest := [.int (II 4), .ref a_this]) B hX hA hM hl.1 t13 kd17 rfl (k_Jx4a65c_size_8abf5 l D dA eA L T N I J R b11 t13 hv14.1 hv14.2 _ _) ml_X6_135 nm_Jx4a65c_size_8abf5 ⟨rfl, rfl⟩ ⟨Nat.le_of_ble_eq_true rfl, Nat.le_of_ble_eq_true rfl⟩ dX6_readMark_9 rfl rfl (Nat.le_of_ble_eq_true rfl) ⟨by show 0 + 0 ≤ 40; omega, by show 0 + 0 ≤ 315; omega⟩) (fun x16 ix16 hp15 => ?_)
  have hp15a := hp15
  replace hp15a : I b11 2 = x16 ∧ 0 ≤ x16 ∧ x16 ≤ 16 := hp15a
  obtain ⟨hp15a_0, hp15a_1, hp15a_2⟩ := hp15a
  refine q_bip B dX6_readMark_12 (by decide) ?_
  have hv17 : ((-2147483648 : Int) ≤ 4 ∧ (4 : Int) ≤ 2147483647) ∧ ((-2147483648 : Int) ≤ x16 ∧ (x16 : Int) ≤ 2147483647) ∧ ((-2147483648 : Int) ≤ 16 ∧ (16 : Int) ≤ 2147483647) ∧ (TKz g_S g_n) ∧ (I a_this 5 ≤ g_n) := by first | omega | exact ⟨by first | omega | assumption | exact trivial, by first | omega | assumption | exact trivial, by first | omega | assumption | exact trivial, by first | omega | assumption | exact trivial, by first | omega | assumption | exact trivial⟩
  refine z_calli hM hA (c_runV (n := 3) (as := [.int (II 4), .int (II x16), .int (II 16)]) (rest := []) B hX hA hM hl.1 t_this kd7 rfl (k_X6_readHeadb l D dA eA L T N I J R a_this t_this (4) hv17.1 x16 hv17.2.1 (16) hv17.2.2.1 g_t g_s g_S g_n (show R a_this 3 = g_t + 1 from p_0) (show T g_t = 3 from p_1) (show R g_t 0 = g_s + 1 from p_2) (show T g_s = 62 from p_3) (show I g_s = g_S from p_4) hv17.2.2.2.1 hv17.2.2.2.2 (show g_S (I a_this 5).toNat = I a_this 6 from by rw [e2, e4]; first | assumption | omega) _ _) ml_X6_111 nm_X6_readHead ⟨rfl, rfl⟩ ⟨Nat.le_of_ble_eq_true rfl, Nat.le_of_ble_eq_true rfl⟩ dX6_readMark_14 rfl rfl (Nat.le_of_ble_eq_true rfl) ⟨by show 0 + 0 ≤ 40; omega, by show 0 + 0 ≤ 315; omega⟩) (fun x19 ix19 L20 T21 N22 I23 J24 R25 dz26 dl27 H locs hp18 hMn => ?_)
  obtain ⟨yL20, yT21, yN22, yR25, hFc28, hp18a⟩ := hp18
  obtain rfl := yL20.symm; obtain rfl := yT21.symm; obtain rfl := yN22.symm; obtain rfl := yR25.symm
  replace hF : Fr mo_X6_readMarkb [] T N I J R T N I23 J24 R := hF.trans hFc28 (by decide) e20
  have hM := hMn
  clear hMn
  replace hp18a : (0 : Int) ≤ x19 ∧ x19 ≤ 1 ∧ (I23 a_this 5 ≤ g_n ∧ g_S (I23 a_this 5).toNat = I23 a_this 6 ∧ I a_this 5 ≤ I23 a_this 5 ∧ ((x19 = 0 ∧ I23 a_this 1 ≠ 0) ∨ (x19 = 1 ∧ I23 a_this 1 = I a_this 1 ∧ I a_this 5 + 2 ≤ I23 a_this 5)) ∧ (x19 = 0 ∨ x16 < (16 : Int))) := hp18a
  obtain ⟨hp18a_0, hp18a_1, hp18a_2⟩ := hp18a
  obtain ⟨hp18a_2_0, hp18a_2_1, hp18a_2_2, hp18a_2_3, hp18a_2_4⟩ := hp18a_2
  obtain ⟨x29, e30⟩ : ∃ v, I23 a_this 5 = v := ⟨_, rfl⟩
  obtain ⟨x31, e32⟩ : ∃ v, I23 a_this 6 = v := ⟨_, rfl⟩
  have nz33 : g_S (x29).toNat = x31 := by have h9 := hp18a_2_1; rw [e30, e32] at h9; exact h9
  obtain ⟨x34, e35⟩ : ∃ v, I23 a_this 1 = v := ⟨_, rfl⟩
  refine q_ieq (tgt := 29) B dX6_readMark_17 (by decide) (by unfold inr; omega) (fun c36 => ?_) (fun c36 => ?_)
  · refine q_con B dX6_readMark_29 ?_
    refine g_zret B hM dX6_readMark_30 ⟨by show 0 ≤ 40; omega, by show 0 ≤ 315; omega⟩ (by omega) (by omega) ?_
    rw [← hPST]
    exact ⟨(0), rfl, by omega, hF, by omega, by omega, by first | omega | assumption | exact trivial, by show g_S (I23 a_this 5).toNat = I23 a_this 6; rw [e30, e32]; first | assumption | omega, by first | omega | assumption | exact trivial, by first | omega | assumption | exact trivial, by first | omega | assumption | exact trivial, by first | omega | assumption | exact trivial, by first | omega | assumption | exact trivial, by first | omega | assumption | exact trivial⟩
  · refine lv_aload_n B.1 B.2.1 dX6_readMark_20 rfl (lv_at hl 0 rfl) ?_
    refine q_bip B dX6_readMark_21 (by decide) ?_
    have hv37 : ((-2147483648 : Int) ≤ 61 ∧ (61 : Int) ≤ 2147483647) ∧ (TKz g_S g_n) ∧ (I23 a_this 5 ≤ g_n) ∧ ((61 : Int) ≠ 0) ∧ ((61 : Int) ≠ 1) := by first | omega | exact ⟨by first | omega | assumption | exact trivial, by first | omega | assumption | exact trivial, by first | omega | assumption | exact trivial, by first | omega | assumption | exact trivial, by first | omega | assumption | exact trivial⟩
    refine z_calli hM hA (c_runV (n := 1) (as := [.int (II 61)]) (rest := []) B hX hA hM hl.1 t_this kd7 rfl (k_X6_readSign l D dA eA L T N I23 J24 R a_this t_this (61) hv37.1 g_t g_s g_S g_n (show R a_this 3 = g_t + 1 from p_0) (show T g_t = 3 from p_1) (show R g_t 0 = g_s + 1 from p_2) (show T g_s = 62 from p_3) (show I23 g_s = g_S from ((Fr.irow hF p_3 (by decide) nm0 (by decide)).trans p_4)) hv37.2.1 hv37.2.2.1 (show g_S (I23 a_this 5).toNat = I23 a_this 6 from by rw [e30, e32]; first | assumption | omega) hv37.2.2.2.1 hv37.2.2.2.2 _ _) ml_X6_122 nm_X6_readSign ⟨rfl, rfl⟩ ⟨Nat.le_of_ble_eq_true rfl, Nat.le_of_ble_eq_true rfl⟩ dX6_readMark_23 rfl rfl (Nat.le_of_ble_eq_true rfl) ⟨by show 0 + 0 ≤ 40; omega, by show 0 + 0 ≤ 315; omega⟩) (fun x39 ix39 L40 T41 N42 I43 J44 R45 dz46 dl47 H locs hp38 hMn => ?_)
    obtain ⟨yL40, yT41, yN42, yR45, hFc48, hp38a⟩ := hp38
    obtain rfl := yL40.symm; obtain rfl := yT41.symm; obtain rfl := yN42.symm; obtain rfl := yR45.symm
    replace hF : Fr mo_X6_readMarkb [] T N I J R T N I43 J44 R := hF.trans hFc48 (by decide) e20
    have hM := hMn
    clear hMn
    replace hp38a : (0 : Int) ≤ x39 ∧ x39 ≤ 1 ∧ (I43 a_this 5 ≤ g_n ∧ g_S (I43 a_this 5).toNat = I43 a_this 6 ∧ I23 a_this 5 ≤ I43 a_this 5 ∧ ((x39 = 0 ∧ I43 a_this 1 ≠ 0) ∨ (x39 = 1 ∧ I43 a_this 1 = I23 a_this 1 ∧ I23 a_this 5 + 1 ≤ I43 a_this 5))) := hp38a
    obtain ⟨hp38a_0, hp38a_1, hp38a_2⟩ := hp38a
    obtain ⟨hp38a_2_0, hp38a_2_1, hp38a_2_2, hp38a_2_3⟩ := hp38a_2
    obtain ⟨x49, e50⟩ : ∃ v, I43 a_this 5 = v := ⟨_, rfl⟩
    obtain ⟨x51, e52⟩ : ∃ v, I43 a_this 6 = v := ⟨_, rfl⟩
    have nz53 : g_S (x49).toNat = x51 := by have h9 := hp38a_2_1; rw [e50, e52] at h9; exact h9
    obtain ⟨x54, e55⟩ : ∃ v, I43 a_this 1 = v := ⟨_, rfl⟩
    refine q_ine (tgt := 31) B dX6_readMark_26 (by decide) (by unfold inr; omega) (fun c56 => ?_) (fun c56 => ?_)
    · have hMo := hM
      refine c_new (t := 38) pk_X8 B hX.out hA hM kd38 df_X8 rfl rfl (by decide) cl_X6_205 in_X8 ini_X8 (by show 0 + 1 ≤ 40; omega) (by show 0 + 6 ≤ 315; omega) dX6_readMark_31 (fun b57 L58 T59 N60 H t61 hT62 hN63 hM => ?_)
      have t64 : T59 b57 = 38 := by rw [hT62, va_up_self]
      have n65 : N60 b57 = 6 := by rw [hN63, va_up_self]
      replace hF : Fr mo_X6_readMarkb [] T N I J R T59 N60 I43 J44 R := hF.new t61 hT62 hN63
      have zz66 := hMo.2.2.2.2.2.1 b57 t61
      clear hMo
      refine lv_dup B.1 B.2.1 dX6_readMark_34 rfl ?_
      refine lv_lconst (v := 0) B.1 B.2.1 dX6_readMark_35 (by decide) ?_
      refine q_bip B dX6_readMark_36 (by decide) ?_
      refine g_callv hM hA (c_runI (n := 2) (as := [.long ((0 : Int64)), .int (II 6)]) (rest := [.ref b57]) B hX hA hM hl.1 (k_X8_init l D dA eA L58 T59 N60 I43 J44 R b57 t64 ((0 : Int64)) (6) (by first | omega | assumption | exact trivial) zz66 _ _) ml_X6_207 nm_X8_init ⟨rfl, rfl⟩ ⟨Nat.le_of_ble_eq_true rfl, Nat.le_of_ble_eq_true rfl⟩ dX6_readMark_38 rfl rfl (Nat.le_of_ble_eq_true rfl) ⟨by show 0 + 1 + 2 ≤ 40; omega, by show 0 + 6 + 6 ≤ 315; omega⟩) (fun L69 T70 N71 I72 J73 R74 dz75 dl76 H locs hp67 hMn => ?_)
      obtain ⟨hFc77, hp67a⟩ := hp67
      have t78 : T59 a_this = 7 := hF.tt t_this (by decide) nm0
      have t79 : T59 g_t = 3 := hF.tt p_1 (by decide) nm0
      have t80 : T59 g_s = 62 := hF.tt p_3 (by decide) nm0
      have t81 : T59 b8 = 6 := hF.tt t10 (by decide) nm0
      have t82 : T59 b11 = 17 := hF.tt t13 (by decide) nm0
      replace hF : Fr mo_X6_readMarkb [] T N I J R T70 N71 I72 J73 R74 := hF.trans hFc77 (by decide) (e2x (fun h => absurd t61 h))
      have hM := hMn
      clear hMn
      obtain ⟨t83, hp67a⟩ := hp67a
      replace hp67a : dz75 ≤ 2 ∧ dl76 ≤ 6 ∧ I72 (R74 b57 3 - 1) 2 = 0 ∧ I72 (R74 b57 4 - 1) 2 = 0 := hp67a
      obtain ⟨hp67a_0, hp67a_1, hp67a_2, hp67a_3⟩ := hp67a
      obtain ⟨b84, e85, t86⟩ := g10_3 hM.2.2.2.2.2.2.1 t83
      have pq87 : I72 (R74 b57 3 - 1) 2 = I72 b84 2 := by rw [e85, Nat.add_sub_cancel]
      obtain ⟨x88, e89⟩ : ∃ v, I72 b84 2 = v := ⟨_, rfl⟩
      obtain ⟨b90, e91, t92⟩ := g10_4 hM.2.2.2.2.2.2.1 t83
      have pq93 : I72 (R74 b57 4 - 1) 2 = I72 b90 2 := by rw [e91, Nat.add_sub_cancel]
      obtain ⟨x94, e95⟩ : ∃ v, I72 b90 2 = v := ⟨_, rfl⟩
      refine lv_astore_n (lv' := [(1, .ref b57), (0, .ref a_this)]) B.1 B.2.1 dX6_readMark_41 rfl hl (by decide) rfl (fun ls hl => ?_)
      refine lv_aload_n B.1 B.2.1 dX6_readMark_42 rfl (lv_at hl 1 rfl) ?_
      have t96 : T70 a_this = 7 := hF.tt t_this (by decide) nm0
      have e97 : R74 a_this 0 = b8 + 1 := (hF.r t_this (by decide) nm0 rfl).trans e9
      refine c_getn (k := 0) pk_X6 B hM t96 kd7 rfl (by decide) fl_X6_22 dX6_readMark_43 e97 ?_
      have t98 : T70 b8 = 6 := hF.tt t10 (by decide) nm0
      have e99 : R74 b8 2 = b11 + 1 := (hF.r t10 (by decide) nm0 rfl).trans e12
      refine c_getn (k := 2) pk_X0 B hM t98 kd6 rfl (by decide) fl_X6_202 dX6_readMark_46 e99 ?_
      refine lv_aload_n B.1 B.2.1 dX6_readMark_49 rfl (lv_at hl 0 rfl) ?_
      have t100 : T70 b11 = 17 := hF.tt t13 (by decide) nm0
      have e101 : I23 b11 2 = x16 := (hFc28.i t13 (by decide) nm0 rfl).trans hp15a_0
      have e102 : I43 b11 2 = x16 := (hFc48.i t13 (by decide) nm0 rfl).trans e101
      have e103 : I72 b11 2 = x16 := (hFc77.i t82 (by decide) (nm1 (tne t82 t64 (by decide))) rfl).trans e102
      obtain ⟨x104, e105⟩ : ∃ v, I72 b57 0 = v := ⟨_, rfl⟩
      have hv106 : (15 ≤ 17) ∧ (17 ≤ 23) ∧ (I72 b11 2 < 16) ∧ (17 = 18 → I72 b57 0 ≤ I72 b11 2) := by first | omega | exact ⟨by first | omega | assumption | exact trivial, by first | omega | assumption | exact trivial, by first | omega | assumption | exact trivial, by first | omega | assumption | exact trivial⟩
      refine g_calli hM hA (c_runV (n := 1) (as := [.ref b57]) (rest := []) B hX hA hM hl.1 t100 kd17 rfl (k_Jx4a65c_add_9ea2d l D dA eA L69 T70 N71 I72 J73 R74 b11 t100 b57 t83 hv106.1 hv106.2.1 hv106.2.2.1 hv106.2.2.2 _ _) ml_X6_146 nm_Jx4a65c_add_9ea2d ⟨rfl, rfl⟩ ⟨Nat.le_of_ble_eq_true rfl, Nat.le_of_ble_eq_true rfl⟩ dX6_readMark_50 rfl rfl (Nat.le_of_ble_eq_true rfl) ⟨by show 0 + 1 + dz75 + 1 ≤ 40; omega, by show 0 + 6 + dl76 + 24 ≤ 315; omega⟩) (fun x108 ix108 L109 T110 N111 I112 J113 R114 dz115 dl116 H locs hp107 hMn => ?_)
      obtain ⟨yJ113, hFc117, hp107a⟩ := hp107
      obtain rfl := yJ113.symm
      have t118 : T70 g_t = 3 := hF.tt p_1 (by decide) nm0
      have t119 : T70 g_s = 62 := hF.tt p_3 (by decide) nm0
      replace hF : Fr mo_X6_readMarkb [] T N I J R T110 N111 I112 J73 R114 := hF.trans hFc117 (by decide) e20
      have hM := hMn
      clear hMn
      replace hp107a : (0 : Int) ≤ x108 ∧ x108 ≤ 1 ∧ (I112 b11 2 = I72 b11 2 + 1 ∧ R114 (R114 b11 1 - 1) (I72 b11 2).toNat = b57 + 1 ∧ (∀ i : Nat, (i : Int) < I72 b11 2 → R114 (R114 b11 1 - 1) i = R74 (R74 b11 1 - 1) i) ∧ (∀ b, T70 b = 17 → b ≠ b11 → I112 b 2 = I72 b 2) ∧ dz115 ≤ 1 ∧ dl116 ≤ 24 ∧ dl116 + 3 * N71 (R74 b11 1 - 1) ≤ 3 * N111 (R114 b11 1 - 1) + 2) := hp107a
      obtain ⟨hp107a_0, hp107a_1, hp107a_2⟩ := hp107a
      obtain ⟨hp107a_2_0, hp107a_2_1, hp107a_2_2, hp107a_2_3, hp107a_2_4, hp107a_2_5, hp107a_2_6⟩ := hp107a_2
      obtain ⟨v120, e121⟩ : ∃ v, R114 b11 1 = v := ⟨_, rfl⟩
      refine lv_pop B.1 B.2.1 dX6_readMark_53 rfl ?_
      refine lv_aload_n B.1 B.2.1 dX6_readMark_54 rfl (lv_at hl 1 rfl) ?_
      refine lv_aload_n B.1 B.2.1 dX6_readMark_55 rfl (lv_at hl 0 rfl) ?_
      have t122 : T110 a_this = 7 := hF.tt t_this (by decide) nm0
      have t123 : T110 b57 = 10 := hFc117.tt t83 (by decide) nm0
      have e124 : R114 a_this 3 = g_t + 1 := (hF.r t_this (by decide) nm0 rfl).trans p_0
      have e125 : R114 g_t 0 = g_s + 1 := (hF.r p_1 (by decide) nm0 rfl).trans p_2
      have e126 : R114 b57 3 = b84 + 1 := (hFc117.r t83 (by decide) nm0 rfl).trans e85
      have t127 : T110 g_t = 3 := hF.tt p_1 (by decide) nm0
      have t128 : T110 g_s = 62 := hF.tt p_3 (by decide) nm0
      have e129 : I72 a_this 5 = x49 := (hFc77.i t78 (by decide) (nm1 (tne t78 t64 (by decide))) rfl).trans e50
      have e130 : I112 a_this 5 = x49 := (hFc117.i t96 (by decide) nm0 rfl).trans e129
      have e131 : I72 a_this 6 = x51 := (hFc77.i t78 (by decide) (nm1 (tne t78 t64 (by decide))) rfl).trans e52
      have e132 : I112 a_this 6 = x51 := (hFc117.i t96 (by decide) nm0 rfl).trans e131
      have t133 : T110 b84 = 20 := hFc117.tt t86 (by decide) nm0
      have hv134 : (TKz g_S g_n) ∧ (I112 a_this 5 ≤ g_n) := by first | omega | exact ⟨by first | omega | assumption | exact trivial, by first | omega | assumption | exact trivial⟩
      refine g_calli hM hA (c_runV (n := 1) (as := [.ref b57]) (rest := []) B hX hA hM hl.1 t122 kd7 rfl (k_X6_readUses l D dA eA L109 T110 N111 I112 J73 R114 a_this t122 b57 t123 g_t g_s g_S g_n b84 (show R114 a_this 3 = g_t + 1 from e124) (show T110 g_t = 3 from t127) (show R114 g_t 0 = g_s + 1 from e125) (show T110 g_s = 62 from t128) (show I112 g_s = g_S from ((Fr.irow hF p_3 (by decide) nm0 (by decide)).trans p_4)) hv134.1 hv134.2 (show g_S (I112 a_this 5).toNat = I112 a_this 6 from by rw [e130, e132]; first | assumption | omega) (show R114 b57 3 = b84 + 1 from e126) (show T110 b84 = 20 from t133) _ _) ml_X6_209 nm_X6_readUses ⟨rfl, rfl⟩ ⟨Nat.le_of_ble_eq_true rfl, Nat.le_of_ble_eq_true rfl⟩ dX6_readMark_56 rfl rfl (Nat.le_of_ble_eq_true rfl) ⟨by show 0 + 1 + dz75 + dz115 + 36 ≤ 40; omega, by show 0 + 6 + dl76 + dl116 + 279 ≤ 315; omega⟩) (fun x136 ix136 L137 T138 N139 I140 J141 R142 dz143 dl144 H locs hp135 hMn => ?_)
      obtain ⟨hFc145, hp135a⟩ := hp135
      have t146 : T110 b8 = 6 := hF.tt t10 (by decide) nm0
      have t147 : T110 b11 = 17 := hF.tt t13 (by decide) nm0
      have t148 : T110 b90 = 21 := hFc117.tt t92 (by decide) nm0
      replace hF : Fr mo_X6_readMarkb [] T N I J R T138 N139 I140 J141 R142 := hF.trans hFc145 (by decide) e20
      have hM := hMn
      clear hMn
      replace hp135a : (0 : Int) ≤ x136 ∧ x136 ≤ 1 ∧ (I140 a_this 5 ≤ g_n ∧ g_S (I140 a_this 5).toNat = I140 a_this 6 ∧ I112 a_this 5 ≤ I140 a_this 5 ∧ ((x136 = 0 ∧ I140 a_this 1 ≠ 0) ∨ (x136 = 1 ∧ I140 a_this 1 = I112 a_this 1 ∧ I112 a_this 5 + 1 ≤ I140 a_this 5)) ∧ (dz143 : Int) ≤ 4 * (I140 a_this 5 - I112 a_this 5) ∧ (dl144 : Int) ≤ 31 * (I140 a_this 5 - I112 a_this 5) ∧ dz143 ≤ 36 ∧ dl144 ≤ 279) := hp135a
      obtain ⟨hp135a_0, hp135a_1, hp135a_2⟩ := hp135a
      obtain ⟨hp135a_2_0, hp135a_2_1, hp135a_2_2, hp135a_2_3, hp135a_2_4, hp135a_2_5, hp135a_2_6, hp135a_2_7⟩ := hp135a_2
      obtain ⟨x149, e150⟩ : ∃ v, I140 a_this 5 = v := ⟨_, rfl⟩
      obtain ⟨x151, e152⟩ : ∃ v, I140 a_this 6 = v := ⟨_, rfl⟩
      have nz153 : g_S (x149).toNat = x151 := by have h9 := hp135a_2_1; rw [e150, e152] at h9; exact h9
      have e154 : I72 a_this 1 = x54 := (hFc77.i t78 (by decide) (nm1 (tne t78 t64 (by decide))) rfl).trans e55
      have e155 : I112 a_this 1 = x54 := (hFc117.i t96 (by decide) nm0 rfl).trans e154
      obtain ⟨x156, e157⟩ : ∃ v, I140 a_this 1 = v := ⟨_, rfl⟩
      refine q_ieq (tgt := 75) B dX6_readMark_59 (by decide) (by unfold inr; omega) (fun c158 => ?_) (fun c158 => ?_)
      · refine q_con B dX6_readMark_75 ?_
        refine g_zret B hM dX6_readMark_76 ⟨by show 0 + 1 + dz75 + dz115 + dz143 ≤ 40; omega, by show 0 + 6 + dl76 + dl116 + dl144 ≤ 315; omega⟩ (by omega) (by omega) ?_
        rw [← hPST]
        exact ⟨(0), rfl, by omega, hF, by omega, by omega, by first | omega | assumption | exact trivial, by show g_S (I140 a_this 5).toNat = I140 a_this 6; rw [e150, e152]; first | assumption | omega, by first | omega | assumption | exact trivial, by first | omega | assumption | exact trivial, by first | omega | assumption | exact trivial, by first | omega | assumption | exact trivial, by first | omega | assumption | exact trivial, by first | omega | assumption | exact trivial⟩
      · refine lv_aload_n B.1 B.2.1 dX6_readMark_62 rfl (lv_at hl 1 rfl) ?_
        refine q_bip B dX6_readMark_63 (by decide) ?_
        have t159 : T138 a_this = 7 := hF.tt t_this (by decide) nm0
        have e160 : R142 a_this 3 = g_t + 1 := (hF.r t_this (by decide) nm0 rfl).trans p_0
        have e161 : R142 g_t 0 = g_s + 1 := (hF.r p_1 (by decide) nm0 rfl).trans p_2
        have t162 : T138 g_t = 3 := hF.tt p_1 (by decide) nm0
        have t163 : T138 g_s = 62 := hF.tt p_3 (by decide) nm0
        have hv164 : ((-2147483648 : Int) ≤ 59 ∧ (59 : Int) ≤ 2147483647) ∧ (TKz g_S g_n) ∧ (I140 a_this 5 ≤ g_n) ∧ ((59 : Int) ≠ 0) ∧ ((59 : Int) ≠ 1) := by first | omega | exact ⟨by first | omega | assumption | exact trivial, by first | omega | assumption | exact trivial, by first | omega | assumption | exact trivial, by first | omega | assumption | exact trivial, by first | omega | assumption | exact trivial⟩
        refine z_calli hM hA (c_runV (n := 1) (as := [.int (II 59)]) (rest := []) B hX hA hM hl.1 t159 kd7 rfl (k_X6_readSign l D dA eA L137 T138 N139 I140 J141 R142 a_this t159 (59) hv164.1 g_t g_s g_S g_n (show R142 a_this 3 = g_t + 1 from e160) (show T138 g_t = 3 from t162) (show R142 g_t 0 = g_s + 1 from e161) (show T138 g_s = 62 from t163) (show I140 g_s = g_S from ((Fr.irow hF p_3 (by decide) nm0 (by decide)).trans p_4)) hv164.2.1 hv164.2.2.1 (show g_S (I140 a_this 5).toNat = I140 a_this 6 from by rw [e150, e152]; first | assumption | omega) hv164.2.2.2.1 hv164.2.2.2.2 _ _) ml_X6_122 nm_X6_readSign ⟨rfl, rfl⟩ ⟨Nat.le_of_ble_eq_true rfl, Nat.le_of_ble_eq_true rfl⟩ dX6_readMark_65 rfl rfl (Nat.le_of_ble_eq_true rfl) ⟨by show 0 + 1 + dz75 + dz115 + dz143 + 0 ≤ 40; omega, by show 0 + 6 + dl76 + dl116 + dl144 + 0 ≤ 315; omega⟩) (fun x166 ix166 L167 T168 N169 I170 J171 R172 dz173 dl174 H locs hp165 hMn => ?_)
        obtain ⟨yL167, yT168, yN169, yR172, hFc175, hp165a⟩ := hp165
        obtain rfl := yL167.symm; obtain rfl := yT168.symm; obtain rfl := yN169.symm; obtain rfl := yR172.symm
        replace hF : Fr mo_X6_readMarkb [] T N I J R T138 N139 I170 J171 R142 := hF.trans hFc175 (by decide) e20
        have hM := hMn
        clear hMn
        replace hp165a : (0 : Int) ≤ x166 ∧ x166 ≤ 1 ∧ (I170 a_this 5 ≤ g_n ∧ g_S (I170 a_this 5).toNat = I170 a_this 6 ∧ I140 a_this 5 ≤ I170 a_this 5 ∧ ((x166 = 0 ∧ I170 a_this 1 ≠ 0) ∨ (x166 = 1 ∧ I170 a_this 1 = I140 a_this 1 ∧ I140 a_this 5 + 1 ≤ I170 a_this 5))) := hp165a
        obtain ⟨hp165a_0, hp165a_1, hp165a_2⟩ := hp165a
        obtain ⟨hp165a_2_0, hp165a_2_1, hp165a_2_2, hp165a_2_3⟩ := hp165a_2
        obtain ⟨x176, e177⟩ : ∃ v, I170 a_this 5 = v := ⟨_, rfl⟩
        obtain ⟨x178, e179⟩ : ∃ v, I170 a_this 6 = v := ⟨_, rfl⟩
        have nz180 : g_S (x176).toNat = x178 := by have h9 := hp165a_2_1; rw [e177, e179] at h9; exact h9
        obtain ⟨x181, e182⟩ : ∃ v, I170 a_this 1 = v := ⟨_, rfl⟩
        refine q_ieq (tgt := 75) B dX6_readMark_68 (by decide) (by unfold inr; omega) (fun c183 => ?_) (fun c183 => ?_)
        · refine q_con B dX6_readMark_75 ?_
          refine g_zret B hM dX6_readMark_76 ⟨by show 0 + 1 + dz75 + dz115 + dz143 ≤ 40; omega, by show 0 + 6 + dl76 + dl116 + dl144 ≤ 315; omega⟩ (by omega) (by omega) ?_
          rw [← hPST]
          exact ⟨(0), rfl, by omega, hF, by omega, by omega, by first | omega | assumption | exact trivial, by show g_S (I170 a_this 5).toNat = I170 a_this 6; rw [e177, e179]; first | assumption | omega, by first | omega | assumption | exact trivial, by first | omega | assumption | exact trivial, by first | omega | assumption | exact trivial, by first | omega | assumption | exact trivial, by first | omega | assumption | exact trivial, by first | omega | assumption | exact trivial⟩
        · refine q_con B dX6_readMark_71 ?_
          refine lv_goto (tgt := 76) B.1 B.2.1 dX6_readMark_72 (by decide) ?_
          refine g_zret B hM dX6_readMark_76 ⟨by show 0 + 1 + dz75 + dz115 + dz143 ≤ 40; omega, by show 0 + 6 + dl76 + dl116 + dl144 ≤ 315; omega⟩ (by omega) (by omega) ?_
          rw [← hPST]
          exact ⟨(1), rfl, by omega, hF, by omega, by omega, by first | omega | assumption | exact trivial, by show g_S (I170 a_this 5).toNat = I170 a_this 6; rw [e177, e179]; first | assumption | omega, by first | omega | assumption | exact trivial, by first | omega | assumption | exact trivial, by first | omega | assumption | exact trivial, by first | omega | assumption | exact trivial, by first | omega | assumption | exact trivial, by first | omega | assumption | exact trivial⟩
    · refine q_con B dX6_readMark_29 ?_
      refine g_zret B hM dX6_readMark_30 ⟨by show 0 ≤ 40; omega, by show 0 ≤ 315; omega⟩ (by omega) (by omega) ?_
      rw [← hPST]
      exact ⟨(0), rfl, by omega, hF, by omega, by omega, by first | omega | assumption | exact trivial, by show g_S (I43 a_this 5).toNat = I43 a_this 6; rw [e50, e52]; first | assumption | omega, by first | omega | assumption | exact trivial, by first | omega | assumption | exact trivial, by first | omega | assumption | exact trivial, by first | omega | assumption | exact trivial, by first | omega | assumption | exact trivial, by first | omega | assumption | exact trivial⟩

def mo_X6_readChainb : List Nat := [229, 230, 231, 225, 226, 2080, 233, 2272, 2304, 203, 2176, 197]
set_option maxHeartbeats 1000000 in
set_option maxRecDepth 20000 in
theorem k_X6_readChainb (l : Launch) (D : va_G) (dA : Nat → ClassId) (eA : Nat) (L : List Nat) (T N : Nat → Nat) (I : Nat → Nat → Int) (J : Nat → Nat → Int64) (R : Nat → Nat → Nat) (a_this : Nat) (t_this : T a_this = 7) (g_t : Nat) (g_s : Nat) (g_S : Nat → Int) (g_n : Int) (p_0 : R a_this 3 = g_t + 1) (p_1 : T g_t = 3) (p_2 : R g_t 0 = g_s + 1) (p_3 : T g_s = 62) (p_4 : I g_s = g_S) (p_5 : TKz g_S g_n) (p_6 : I a_this 5 ≤ g_n) (p_7 : g_S (I a_this 5).toNat = I a_this 6) : GC l yX6_readChain cX6_readChain 1 (some .boolean) ({ frames := 3, cells := 1, slots := 8, locals := 104 }) D dA eA L T N I J R [.ref a_this] 1 8 (gI (fun r L' T' N' I' J' R' dz dl => Fr mo_X6_readChainb [] T N I J R T' N' I' J' R' ∧ (0 : Int) ≤ r ∧ r ≤ 1 ∧ (I' a_this 5 ≤ g_n ∧ g_S (I' a_this 5).toNat = I' a_this 6 ∧ I a_this 5 ≤ I' a_this 5 ∧ ((r = 0 ∧ I' a_this 1 ≠ 0) ∨ (r = 1 ∧ I' a_this 1 = I a_this 1 ∧ I a_this 5 + 1 ≤ I' a_this 5)) ∧ (dz : Int) ≤ 5 * (I' a_this 5 - I a_this 5) + 20 * (1 - r) ∧ (dl : Int) ≤ 75 * (I' a_this 5 - I a_this 5) + 300 * (1 - r) ∧ dz ≤ 1 ∧ dl ≤ 8))) := by
  generalize hPST : (gI (fun r L' T' N' I' J' R' dz dl => Fr mo_X6_readChainb [] T N I J R T' N' I' J' R' ∧ (0 : Int) ≤ r ∧ r ≤ 1 ∧ (I' a_this 5 ≤ g_n ∧ g_S (I' a_this 5).toNat = I' a_this 6 ∧ I a_this 5 ≤ I' a_this 5 ∧ ((r = 0 ∧ I' a_this 1 ≠ 0) ∨ (r = 1 ∧ I' a_this 1 = I a_this 1 ∧ I a_this 5 + 1 ≤ I' a_this 5)) ∧ (dz : Int) ≤ 5 * (I' a_this 5 - I a_this 5) + 20 * (1 - r) ∧ (dl : Int) ≤ 75 * (I' a_this 5 - I a_this 5) + 300 * (1 - r) ∧ dz ≤ 1 ∧ dl ≤ 8))) = PST
  refine g_enter (own := RX6) (by decide) rfl (Nat.le_of_ble_eq_true rfl) (fun p e s m args below meth c ls hm B hX hM hl => ?_)
  have hC0 := hM.2.2.2.2.2.2.1
  have hW0 := hM.2.2.2
  have hF : Fr mo_X6_readChainb [] T N I J R T N I J R := Fr.rf
  have hA : ∀ q, s.heap.size ≤ q → cF dA L T N I J R s.heap.size q := fun q h => Or.inr h
  have hl : lv_has ls 1 [(0, .ref a_this)] := hl
  obtain ⟨x1, e2⟩ : ∃ v, I a_this 5 = v := ⟨_, rfl⟩
  obtain ⟨x3, e4⟩ : ∃ v, I a_this 6 = v := ⟨_, rfl⟩
  have nz5 : g_S (x1).toNat = x3 := by have h9 := p_7; rw [e2, e4] at h9; exact h9
  obtain ⟨x6, e7⟩ : ∃ v, I a_this 1 = v := ⟨_, rfl⟩
  refine lv_aload_n B.1 B.2.1 dX6_readChain_0 rfl (lv_at hl 0 rfl) ?_
  refine q_con B dX6_readChain_1 ?_
  refine lv_aload_n B.1 B.2.1 dX6_readChain_2 rfl (lv_at hl 0 rfl) ?_
  obtain ⟨b8, e9, t10⟩ := g7_0 hC0 t_this
  refine c_getn (k := 0) pk_X6 B hM t_this kd7 rfl (by decide) fl_X6_22 dX6_readChain_3 e9 ?_
  obtain ⟨x11, e12⟩ : ∃ v, I b8 5 = v := ⟨_, rfl⟩
  have r13 : (0 : Int) ≤ x11 ∧ x11 ≤ 6 := by rw [← e12]; exact g6_5 hM.2.2.2.2.2.2.1 t10
  refine c_geti (k := 5) pk_X0 B hM t10 kd6 rfl (by decide) fl_X6_125 dX6_readChain_6 e12 ?_
  refine q_bip B dX6_readChain_9 (by decide) ?_
  have hv14 : ((-2147483648 : Int) ≤ 2 ∧ (2 : Int) ≤ 2147483647) ∧ ((-2147483648 : Int) ≤ x11 ∧ (x11 : Int) ≤ 2147483647) ∧ ((-2147483648 : Int) ≤ 6 ∧ (6 : Int) ≤ 2147483647) ∧ (TKz g_S g_n) ∧ (I a_this 5 ≤ g_n) := by first | omega | exact ⟨by first | omega | assumption | exact trivial, by first | omega | assumption | exact trivial, by first | omega | assumption | exact trivial, by first | omega | assumption | exact trivial, by first | omega | assumption | exact trivial⟩
  refine z_calli hM hA (c_runV (n := 3) (as := [.int (II 2), .int (II x11), .int (II 6)]) (rest := []) B hX hA hM hl.1 t_this kd7 rfl (k_X6_readHeadb l D dA eA L T N I J R a_this t_this (2) hv14.1 x11 hv14.2.1 (6) hv14.2.2.1 g_t g_s g_S g_n (show R a_this 3 = g_t + 1 from p_0) (show T g_t = 3 from p_1) (show R g_t 0 = g_s + 1 from p_2) (show T g_s = 62 from p_3) (show I g_s = g_S from p_4) hv14.2.2.2.1 hv14.2.2.2.2 (show g_S (I a_this 5).toNat = I a_this 6 from by rw [e2, e4]; first | assumption | omega) _ _) ml_X6_111 nm_X6_readHead ⟨rfl, rfl⟩ ⟨Nat.le_of_ble_eq_true rfl, Nat.le_of_ble_eq_true rfl⟩ dX6_readChain_11 rfl rfl (Nat.le_of_ble_eq_true rfl) ⟨by show 0 + 0 ≤ 1; omega, by show 0 + 0 ≤ 8; omega⟩) (fun x16 ix16 L17 T18 N19 I20 J21 R22 dz23 dl24 H locs hp15 hMn => ?_)
  obtain ⟨yL17, yT18, yN19, yR22, hFc25, hp15a⟩ := hp15
  obtain rfl := yL17.symm; obtain rfl := yT18.symm; obtain rfl := yN19.symm; obtain rfl := yR22.symm
  replace hF : Fr mo_X6_readChainb [] T N I J R T N I20 J21 R := hF.trans hFc25 (by decide) e20
  have hM := hMn
  clear hMn
  replace hp15a : (0 : Int) ≤ x16 ∧ x16 ≤ 1 ∧ (I20 a_this 5 ≤ g_n ∧ g_S (I20 a_this 5).toNat = I20 a_this 6 ∧ I a_this 5 ≤ I20 a_this 5 ∧ ((x16 = 0 ∧ I20 a_this 1 ≠ 0) ∨ (x16 = 1 ∧ I20 a_this 1 = I a_this 1 ∧ I a_this 5 + 2 ≤ I20 a_this 5)) ∧ (x16 = 0 ∨ x11 < (6 : Int))) := hp15a
  obtain ⟨hp15a_0, hp15a_1, hp15a_2⟩ := hp15a
  obtain ⟨hp15a_2_0, hp15a_2_1, hp15a_2_2, hp15a_2_3, hp15a_2_4⟩ := hp15a_2
  obtain ⟨x26, e27⟩ : ∃ v, I20 a_this 5 = v := ⟨_, rfl⟩
  obtain ⟨x28, e29⟩ : ∃ v, I20 a_this 6 = v := ⟨_, rfl⟩
  have nz30 : g_S (x26).toNat = x28 := by have h9 := hp15a_2_1; rw [e27, e29] at h9; exact h9
  obtain ⟨x31, e32⟩ : ∃ v, I20 a_this 1 = v := ⟨_, rfl⟩
  refine q_ieq (tgt := 35) B dX6_readChain_14 (by decide) (by unfold inr; omega) (fun c33 => ?_) (fun c33 => ?_)
  · refine q_con B dX6_readChain_35 ?_
    refine g_zret B hM dX6_readChain_36 ⟨by show 0 ≤ 1; omega, by show 0 ≤ 8; omega⟩ (by omega) (by omega) ?_
    rw [← hPST]
    exact ⟨(0), rfl, by omega, hF, by omega, by omega, by first | omega | assumption | exact trivial, by show g_S (I20 a_this 5).toNat = I20 a_this 6; rw [e27, e29]; first | assumption | omega, by first | omega | assumption | exact trivial, by first | omega | assumption | exact trivial, by first | omega | assumption | exact trivial, by first | omega | assumption | exact trivial, by first | omega | assumption | exact trivial, by first | omega | assumption | exact trivial⟩
  · refine lv_aload_n B.1 B.2.1 dX6_readChain_17 rfl (lv_at hl 0 rfl) ?_
    refine q_bip B dX6_readChain_18 (by decide) ?_
    have hv34 : ((-2147483648 : Int) ≤ 58 ∧ (58 : Int) ≤ 2147483647) ∧ (TKz g_S g_n) ∧ (I20 a_this 5 ≤ g_n) ∧ ((58 : Int) ≠ 0) ∧ ((58 : Int) ≠ 1) := by first | omega | exact ⟨by first | omega | assumption | exact trivial, by first | omega | assumption | exact trivial, by first | omega | assumption | exact trivial, by first | omega | assumption | exact trivial, by first | omega | assumption | exact trivial⟩
    refine z_calli hM hA (c_runV (n := 1) (as := [.int (II 58)]) (rest := []) B hX hA hM hl.1 t_this kd7 rfl (k_X6_readSign l D dA eA L T N I20 J21 R a_this t_this (58) hv34.1 g_t g_s g_S g_n (show R a_this 3 = g_t + 1 from p_0) (show T g_t = 3 from p_1) (show R g_t 0 = g_s + 1 from p_2) (show T g_s = 62 from p_3) (show I20 g_s = g_S from ((Fr.irow hF p_3 (by decide) nm0 (by decide)).trans p_4)) hv34.2.1 hv34.2.2.1 (show g_S (I20 a_this 5).toNat = I20 a_this 6 from by rw [e27, e29]; first | assumption | omega) hv34.2.2.2.1 hv34.2.2.2.2 _ _) ml_X6_122 nm_X6_readSign ⟨rfl, rfl⟩ ⟨Nat.le_of_ble_eq_true rfl, Nat.le_of_ble_eq_true rfl⟩ dX6_readChain_20 rfl rfl (Nat.le_of_ble_eq_true rfl) ⟨by show 0 + 0 ≤ 1; omega, by show 0 + 0 ≤ 8; omega⟩) (fun x36 ix36 L37 T38 N39 I40 J41 R42 dz43 dl44 H locs hp35 hMn => ?_)
    obtain ⟨yL37, yT38, yN39, yR42, hFc45, hp35a⟩ := hp35
    obtain rfl := yL37.symm; obtain rfl := yT38.symm; obtain rfl := yN39.symm; obtain rfl := yR42.symm
    replace hF : Fr mo_X6_readChainb [] T N I J R T N I40 J41 R := hF.trans hFc45 (by decide) e20
    have hM := hMn
    clear hMn
    replace hp35a : (0 : Int) ≤ x36 ∧ x36 ≤ 1 ∧ (I40 a_this 5 ≤ g_n ∧ g_S (I40 a_this 5).toNat = I40 a_this 6 ∧ I20 a_this 5 ≤ I40 a_this 5 ∧ ((x36 = 0 ∧ I40 a_this 1 ≠ 0) ∨ (x36 = 1 ∧ I40 a_this 1 = I20 a_this 1 ∧ I20 a_this 5 + 1 ≤ I40 a_this 5))) := hp35a
    obtain ⟨hp35a_0, hp35a_1, hp35a_2⟩ := hp35a
    obtain ⟨hp35a_2_0, hp35a_2_1, hp35a_2_2, hp35a_2_3⟩ := hp35a_2
    obtain ⟨x46, e47⟩ : ∃ v, I40 a_this 5 = v := ⟨_, rfl⟩
    obtain ⟨x48, e49⟩ : ∃ v, I40 a_this 6 = v := ⟨_, rfl⟩
    have nz50 : g_S (x46).toNat = x48 := by have h9 := hp35a_2_1; rw [e47, e49] at h9; exact h9
    obtain ⟨x51, e52⟩ : ∃ v, I40 a_this 1 = v := ⟨_, rfl⟩
    refine q_ieq (tgt := 35) B dX6_readChain_23 (by decide) (by unfold inr; omega) (fun c53 => ?_) (fun c53 => ?_)
    · refine q_con B dX6_readChain_35 ?_
      refine g_zret B hM dX6_readChain_36 ⟨by show 0 ≤ 1; omega, by show 0 ≤ 8; omega⟩ (by omega) (by omega) ?_
      rw [← hPST]
      exact ⟨(0), rfl, by omega, hF, by omega, by omega, by first | omega | assumption | exact trivial, by show g_S (I40 a_this 5).toNat = I40 a_this 6; rw [e47, e49]; first | assumption | omega, by first | omega | assumption | exact trivial, by first | omega | assumption | exact trivial, by first | omega | assumption | exact trivial, by first | omega | assumption | exact trivial, by first | omega | assumption | exact trivial, by first | omega | assumption | exact trivial⟩
    · refine lv_aload_n B.1 B.2.1 dX6_readChain_26 rfl (lv_at hl 0 rfl) ?_
      refine q_bip B dX6_readChain_27 (by decide) ?_
      have hv54 : ((-2147483648 : Int) ≤ 8 ∧ (8 : Int) ≤ 2147483647) ∧ (TKz g_S g_n) ∧ (I40 a_this 5 ≤ g_n) := by first | omega | exact ⟨by first | omega | assumption | exact trivial, by first | omega | assumption | exact trivial, by first | omega | assumption | exact trivial⟩
      refine z_calli hM hA (c_runV (n := 1) (as := [.int (II 8)]) (rest := []) B hX hA hM hl.1 t_this kd7 rfl (k_X6_readRow l D dA eA L T N I40 J41 R a_this t_this (8) hv54.1 g_t g_s g_S g_n (show R a_this 3 = g_t + 1 from p_0) (show T g_t = 3 from p_1) (show R g_t 0 = g_s + 1 from p_2) (show T g_s = 62 from p_3) (show I40 g_s = g_S from ((Fr.irow hF p_3 (by decide) nm0 (by decide)).trans p_4)) hv54.2.1 hv54.2.2 (show g_S (I40 a_this 5).toNat = I40 a_this 6 from by rw [e47, e49]; first | assumption | omega) _ _) ml_X6_115 nm_X6_readRow ⟨rfl, rfl⟩ ⟨Nat.le_of_ble_eq_true rfl, Nat.le_of_ble_eq_true rfl⟩ dX6_readChain_29 rfl rfl (Nat.le_of_ble_eq_true rfl) ⟨by show 0 + 0 ≤ 1; omega, by show 0 + 0 ≤ 8; omega⟩) (fun x56 ix56 L57 T58 N59 I60 J61 R62 dz63 dl64 H locs hp55 hMn => ?_)
      obtain ⟨yL57, yT58, yN59, yR62, hFc65, hp55a⟩ := hp55
      obtain rfl := yL57.symm; obtain rfl := yT58.symm; obtain rfl := yN59.symm; obtain rfl := yR62.symm
      replace hF : Fr mo_X6_readChainb [] T N I J R T N I60 J61 R := hF.trans hFc65 (by decide) e20
      have hM := hMn
      clear hMn
      replace hp55a : (0 : Int) ≤ x56 ∧ x56 ≤ 1 ∧ (I60 a_this 5 ≤ g_n ∧ g_S (I60 a_this 5).toNat = I60 a_this 6 ∧ I40 a_this 5 ≤ I60 a_this 5 ∧ ((x56 = 0 ∧ I60 a_this 1 ≠ 0) ∨ (x56 = 1 ∧ I60 a_this 1 = I40 a_this 1 ∧ I40 a_this 5 + 1 ≤ I60 a_this 5))) := hp55a
      obtain ⟨hp55a_0, hp55a_1, hp55a_2⟩ := hp55a
      obtain ⟨hp55a_2_0, hp55a_2_1, hp55a_2_2, hp55a_2_3⟩ := hp55a_2
      obtain ⟨x66, e67⟩ : ∃ v, I60 a_this 5 = v := ⟨_, rfl⟩
      obtain ⟨x68, e69⟩ : ∃ v, I60 a_this 6 = v := ⟨_, rfl⟩
      have nz70 : g_S (x66).toNat = x68 := by have h9 := hp55a_2_1; rw [e67, e69] at h9; exact h9
      obtain ⟨x71, e72⟩ : ∃ v, I60 a_this 1 = v := ⟨_, rfl⟩
      refine q_ine (tgt := 37) B dX6_readChain_32 (by decide) (by unfold inr; omega) (fun c73 => ?_) (fun c73 => ?_)
      · refine lv_aload_n B.1 B.2.1 dX6_readChain_37 rfl (lv_at hl 0 rfl) ?_
        refine c_getn (k := 0) pk_X6 B hM t_this kd7 rfl (by decide) fl_X6_22 dX6_readChain_38 e9 ?_
        refine lv_aload_n B.1 B.2.1 dX6_readChain_41 rfl (lv_at hl 0 rfl) ?_
        obtain ⟨b74, e75, t76⟩ := g7_8 hC0 t_this
        refine c_getn (k := 8) pk_X6 B hM t_this kd7 rfl (by decide) fl_X6_25 dX6_readChain_42 e75 ?_
        refine lv_aload_n B.1 B.2.1 dX6_readChain_45 rfl (lv_at hl 0 rfl) ?_
        obtain ⟨x77, e78⟩ : ∃ v, I60 a_this 9 = v := ⟨_, rfl⟩
        have r79 : (0 : Int) ≤ x77 ∧ x77 ≤ 8 := by rw [← e78]; exact g7_9 hM.2.2.2.2.2.2.1 t_this
        refine c_geti (k := 9) pk_X6 B hM t_this kd7 rfl (by decide) fl_X6_101 dX6_readChain_46 e78 ?_
        have hv80 : ((-2147483648 : Int) ≤ x77 ∧ (x77 : Int) ≤ 2147483647) ∧ (0 ≤ x77) ∧ (x77 ≤ 8) := by first | omega | exact ⟨by first | omega | assumption | exact trivial, by first | omega | assumption | exact trivial, by first | omega | assumption | exact trivial⟩
        refine g_callv hM hA (c_runV (n := 2) (as := [.ref b74, .int (II x77)]) (rest := []) B hX hA hM hl.1 t10 kd6 rfl (k_X0_addChain l D dA eA L T N I60 J61 R b8 t10 b74 t76 x77 hv80.1 hv80.2.1 hv80.2.2 _ _) ml_X6_128 nm_X0_addChain ⟨rfl, rfl⟩ ⟨Nat.le_of_ble_eq_true rfl, Nat.le_of_ble_eq_true rfl⟩ dX6_readChain_49 rfl rfl (Nat.le_of_ble_eq_true rfl) ⟨by show 0 + 1 ≤ 1; omega, by show 0 + 8 ≤ 8; omega⟩) (fun L83 T84 N85 I86 J87 R88 dz89 dl90 H locs hp81 hMn => ?_)
        obtain ⟨yJ87, hFc91, hp81a⟩ := hp81
        obtain rfl := yJ87.symm
        replace hF : Fr mo_X6_readChainb [] T N I J R T84 N85 I86 J61 R88 := hF.trans hFc91 (by decide) e20
        have hM := hMn
        clear hMn
        replace hp81a : dz89 ≤ 1 ∧ dl90 ≤ 8 := hp81a
        obtain ⟨hp81a_0, hp81a_1⟩ := hp81a
        refine lv_aload_n B.1 B.2.1 dX6_readChain_52 rfl (lv_at hl 0 rfl) ?_
        refine q_bip B dX6_readChain_53 (by decide) ?_
        have t92 : T84 a_this = 7 := hF.tt t_this (by decide) nm0
        have e93 : R88 a_this 3 = g_t + 1 := (hF.r t_this (by decide) nm0 rfl).trans p_0
        have e94 : R88 g_t 0 = g_s + 1 := (hF.r p_1 (by decide) nm0 rfl).trans p_2
        have t95 : T84 g_t = 3 := hF.tt p_1 (by decide) nm0
        have t96 : T84 g_s = 62 := hF.tt p_3 (by decide) nm0
        have e97 : I86 a_this 5 = x66 := (hFc91.i t_this (by decide) nm0 rfl).trans e67
        have e98 : I86 a_this 6 = x68 := (hFc91.i t_this (by decide) nm0 rfl).trans e69
        have hv99 : ((-2147483648 : Int) ≤ 59 ∧ (59 : Int) ≤ 2147483647) ∧ (TKz g_S g_n) ∧ (I86 a_this 5 ≤ g_n) ∧ ((59 : Int) ≠ 0) ∧ ((59 : Int) ≠ 1) := by first | omega | exact ⟨by first | omega | assumption | exact trivial, by first | omega | assumption | exact trivial, by first | omega | assumption | exact trivial, by first | omega | assumption | exact trivial, by first | omega | assumption | exact trivial⟩
        refine z_calli hM hA (c_runV (n := 1) (as := [.int (II 59)]) (rest := []) B hX hA hM hl.1 t92 kd7 rfl (k_X6_readSign l D dA eA L83 T84 N85 I86 J61 R88 a_this t92 (59) hv99.1 g_t g_s g_S g_n (show R88 a_this 3 = g_t + 1 from e93) (show T84 g_t = 3 from t95) (show R88 g_t 0 = g_s + 1 from e94) (show T84 g_s = 62 from t96) (show I86 g_s = g_S from ((Fr.irow hF p_3 (by decide) nm0 (by decide)).trans p_4)) hv99.2.1 hv99.2.2.1 (show g_S (I86 a_this 5).toNat = I86 a_this 6 from by rw [e97, e98]; first | assumption | omega) hv99.2.2.2.1 hv99.2.2.2.2 _ _) ml_X6_122 nm_X6_readSign ⟨rfl, rfl⟩ ⟨Nat.le_of_ble_eq_true rfl, Nat.le_of_ble_eq_true rfl⟩ dX6_readChain_55 rfl rfl (Nat.le_of_ble_eq_true rfl) ⟨by show 0 + dz89 + 0 ≤ 1; omega, by show 0 + dl90 + 0 ≤ 8; omega⟩) (fun x101 ix101 L102 T103 N104 I105 J106 R107 dz108 dl109 H locs hp100 hMn => ?_)
        obtain ⟨yL102, yT103, yN104, yR107, hFc110, hp100a⟩ := hp100
        obtain rfl := yL102.symm; obtain rfl := yT103.symm; obtain rfl := yN104.symm; obtain rfl := yR107.symm
        replace hF : Fr mo_X6_readChainb [] T N I J R T84 N85 I105 J106 R88 := hF.trans hFc110 (by decide) e20
        have hM := hMn
        clear hMn
        replace hp100a : (0 : Int) ≤ x101 ∧ x101 ≤ 1 ∧ (I105 a_this 5 ≤ g_n ∧ g_S (I105 a_this 5).toNat = I105 a_this 6 ∧ I86 a_this 5 ≤ I105 a_this 5 ∧ ((x101 = 0 ∧ I105 a_this 1 ≠ 0) ∨ (x101 = 1 ∧ I105 a_this 1 = I86 a_this 1 ∧ I86 a_this 5 + 1 ≤ I105 a_this 5))) := hp100a
        obtain ⟨hp100a_0, hp100a_1, hp100a_2⟩ := hp100a
        obtain ⟨hp100a_2_0, hp100a_2_1, hp100a_2_2, hp100a_2_3⟩ := hp100a_2
        obtain ⟨x111, e112⟩ : ∃ v, I105 a_this 5 = v := ⟨_, rfl⟩
        obtain ⟨x113, e114⟩ : ∃ v, I105 a_this 6 = v := ⟨_, rfl⟩
        have nz115 : g_S (x111).toNat = x113 := by have h9 := hp100a_2_1; rw [e112, e114] at h9; exact h9
        have e116 : I86 a_this 1 = x71 := (hFc91.i t_this (by decide) nm0 rfl).trans e72
        obtain ⟨x117, e118⟩ : ∃ v, I105 a_this 1 = v := ⟨_, rfl⟩
        refine g_zret B hM dX6_readChain_58 ⟨by show 0 + dz89 ≤ 1; omega, by show 0 + dl90 ≤ 8; omega⟩ (by omega) (by omega) ?_
        rw [← hPST]
        exact ⟨x101, rfl, by omega, hF, by omega, by omega, by first | omega | assumption | exact trivial, by show g_S (I105 a_this 5).toNat = I105 a_this 6; rw [e112, e114]; first | assumption | omega, by first | omega | assumption | exact trivial, by first | omega | assumption | exact trivial, by first | omega | assumption | exact trivial, by first | omega | assumption | exact trivial, by first | omega | assumption | exact trivial, by first | omega | assumption | exact trivial⟩
      · refine q_con B dX6_readChain_35 ?_
        refine g_zret B hM dX6_readChain_36 ⟨by show 0 ≤ 1; omega, by show 0 ≤ 8; omega⟩ (by omega) (by omega) ?_
        rw [← hPST]
        exact ⟨(0), rfl, by omega, hF, by omega, by omega, by first | omega | assumption | exact trivial, by show g_S (I60 a_this 5).toNat = I60 a_this 6; rw [e67, e69]; first | assumption | omega, by first | omega | assumption | exact trivial, by first | omega | assumption | exact trivial, by first | omega | assumption | exact trivial, by first | omega | assumption | exact trivial, by first | omega | assumption | exact trivial, by first | omega | assumption | exact trivial⟩
