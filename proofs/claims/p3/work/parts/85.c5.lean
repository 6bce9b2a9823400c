def mo_X10_init : List Nat := []
set_option maxHeartbeats 1000000 in
set_option maxRecDepth 20000 in
theorem k_X10_init (l : Launch) (D : va_G) (dA : Nat → ClassId) (eA : Nat) (L : List Nat) (T N : Nat → Nat) (I : Nat → Nat → Int) (J : Nat → Nat → Int64) (R : Nat → Nat → Nat) (a_this : Nat) (t_this : T a_this = 37) (a_code : Int) (i_code : (-2147483648 : Int) ≤ a_code ∧ a_code ≤ 2147483647) (z_this : ∀ k, I a_this k = 0 ∧ J a_this k = 0 ∧ R a_this k = 0) : GC l yX10_init cX10_init 2 none ({ frames := 1, cells := 0, slots := 0, locals := 30 }) D dA eA L T N I J R [.ref a_this, .int (II a_code)] 0 0 (gV (fun L' T' N' I' J' R' dz dl => J' = J ∧ Fr mo_X10_init [a_this] T N I J R T' N' I' J' R' ∧ T' a_this = 9 ∧ (I' a_this 5 = -1 ∧ I' a_this 6 = -1))) := by
  generalize hPST : (gV (fun L' T' N' I' J' R' dz dl => J' = J ∧ Fr mo_X10_init [a_this] T N I J R T' N' I' J' R' ∧ T' a_this = 9 ∧ (I' a_this 5 = -1 ∧ I' a_this 6 = -1))) = PST
  refine g_enter (own := RX10) (by decide) rfl (Nat.le_of_ble_eq_true rfl) (fun p e s m args below meth c ls hm B hX hM hl => ?_)
  have hC0 := hM.2.2.2.2.2.2.1
  have hW0 := hM.2.2.2
  have hF : Fr mo_X10_init [a_this] T N I J R T N I J R := Fr.rf
  have hA : ∀ q, s.heap.size ≤ q → cF dA L T N I J R s.heap.size q := fun q h => Or.inr h
  have hl : lv_has ls 2 [(0, .ref a_this), (1, .int (II a_code))] := hl
  have e1 : I a_this 0 = 0 := (z_this 0).1
  have e2 : I a_this 1 = 0 := (z_this 1).1
  have e3 : R a_this 2 = 0 := (z_this 2).2.2
  have e4 : R a_this 3 = 0 := (z_this 3).2.2
  have e5 : R a_this 4 = 0 := (z_this 4).2.2
  have e6 : I a_this 5 = 0 := (z_this 5).1
  have e7 : I a_this 6 = 0 := (z_this 6).1
  have e8 : I a_this 7 = 0 := (z_this 7).1
  have e9 : I a_this 8 = 0 := (z_this 8).1
  have e10 : I a_this 9 = 0 := (z_this 9).1
  have e11 : I a_this 10 = 0 := (z_this 10).1
  refine lv_aload_n B.1 B.2.1 dX10_init_0 rfl (lv_at hl 0 rfl) ?_
  refine c_obj B ol_X10_3 hl.1 (Nat.le_of_ble_eq_true rfl) (Nat.le_of_ble_eq_true rfl) dX10_init_1 ?_
  refine lv_aload_n B.1 B.2.1 dX10_init_4 rfl (lv_at hl 0 rfl) ?_
  refine lv_iload_n B.1 B.2.1 dX10_init_5 rfl (lv_at hl 1 rfl) ?_
  refine c_puti (k := 0) pk_X10 B hM t_this kd37 rfl (by decide) fl_X10_9 (Or.inr ⟨rfl, hm, rfl⟩) dX10_init_6 rfl rfl rfl (show (-2147483648 : Int) ≤ a_code from by omega) (show a_code ≤ (2147483647 : Int) from by omega) (fun I12 H locs hu13 hM => ?_)
  have e14 : I12 a_this 0 = a_code := w2_at hu13
  replace hF : Fr mo_X10_init [a_this] T N I J R T N I12 J R := hF.wi hu13 (fun _ h => absurd (List.mem_singleton.mpr rfl) h)
  refine lv_aload_n B.1 B.2.1 dX10_init_9 rfl (lv_at hl 0 rfl) ?_
  refine q_con B dX10_init_10 ?_
  refine c_puti (k := 5) pk_X10 B hM t_this kd37 rfl (by decide) fl_X10_15 (Or.inl rfl) dX10_init_11 rfl rfl rfl (show (-2147483648 : Int) ≤ -1 from by omega) (show -1 ≤ (2147483647 : Int) from by omega) (fun I15 H locs hu16 hM => ?_)
  have e17 : I15 a_this 5 = -1 := w2_at hu16
  replace hF : Fr mo_X10_init [a_this] T N I J R T N I15 J R := hF.wi hu16 (fun _ h => absurd (List.mem_singleton.mpr rfl) h)
  refine lv_aload_n B.1 B.2.1 dX10_init_14 rfl (lv_at hl 0 rfl) ?_
  refine q_con B dX10_init_15 ?_
  refine c_puti (k := 6) pk_X10 B hM t_this kd37 rfl (by decide) fl_X10_18 (Or.inl rfl) dX10_init_16 rfl rfl rfl (show (-2147483648 : Int) ≤ -1 from by omega) (show -1 ≤ (2147483647 : Int) from by omega) (fun I18 H locs hu19 hM => ?_)
  have e20 : I18 a_this 6 = -1 := w2_at hu19
  replace hF : Fr mo_X10_init [a_this] T N I J R T N I18 J R := hF.wi hu19 (fun _ h => absurd (List.mem_singleton.mpr rfl) h)
  refine lv_aload_n B.1 B.2.1 dX10_init_19 rfl (lv_at hl 0 rfl) ?_
  refine q_con B dX10_init_20 ?_
  refine c_puti (k := 9) pk_X10 B hM t_this kd37 rfl (by decide) fl_X10_21 (Or.inl rfl) dX10_init_21 rfl rfl rfl (show (-2147483648 : Int) ≤ -1 from by omega) (show -1 ≤ (2147483647 : Int) from by omega) (fun I21 H locs hu22 hM => ?_)
  have e23 : I21 a_this 9 = -1 := w2_at hu22
  replace hF : Fr mo_X10_init [a_this] T N I J R T N I21 J R := hF.wi hu22 (fun _ h => absurd (List.mem_singleton.mpr rfl) h)
  have e24 : I15 a_this 0 = a_code := (w2_ne hu16 (Or.inr (by decide))).trans e14
  have e25 : I18 a_this 0 = a_code := (w2_ne hu19 (Or.inr (by decide))).trans e24
  have e26 : I21 a_this 0 = a_code := (w2_ne hu22 (Or.inr (by decide))).trans e25
  have e27 : I12 a_this 1 = 0 := (w2_ne hu13 (Or.inr (by decide))).trans e2
  have e28 : I15 a_this 1 = 0 := (w2_ne hu16 (Or.inr (by decide))).trans e27
  have e29 : I18 a_this 1 = 0 := (w2_ne hu19 (Or.inr (by decide))).trans e28
  have e30 : I21 a_this 1 = 0 := (w2_ne hu22 (Or.inr (by decide))).trans e29
  have e31 : I18 a_this 5 = -1 := (w2_ne hu19 (Or.inr (by decide))).trans e17
  have e32 : I21 a_this 5 = -1 := (w2_ne hu22 (Or.inr (by decide))).trans e31
  have e33 : I21 a_this 6 = -1 := (w2_ne hu22 (Or.inr (by decide))).trans e20
  have e34 : I12 a_this 7 = 0 := (w2_ne hu13 (Or.inr (by decide))).trans e8
  have e35 : I15 a_this 7 = 0 := (w2_ne hu16 (Or.inr (by decide))).trans e34
  have e36 : I18 a_this 7 = 0 := (w2_ne hu19 (Or.inr (by decide))).trans e35
  have e37 : I21 a_this 7 = 0 := (w2_ne hu22 (Or.inr (by decide))).trans e36
  have e38 : I12 a_this 8 = 0 := (w2_ne hu13 (Or.inr (by decide))).trans e9
  have e39 : I15 a_this 8 = 0 := (w2_ne hu16 (Or.inr (by decide))).trans e38
  have e40 : I18 a_this 8 = 0 := (w2_ne hu19 (Or.inr (by decide))).trans e39
  have e41 : I21 a_this 8 = 0 := (w2_ne hu22 (Or.inr (by decide))).trans e40
  have e42 : I12 a_this 10 = 0 := (w2_ne hu13 (Or.inr (by decide))).trans e11
  have e43 : I15 a_this 10 = 0 := (w2_ne hu16 (Or.inr (by decide))).trans e42
  have e44 : I18 a_this 10 = 0 := (w2_ne hu19 (Or.inr (by decide))).trans e43
  have e45 : I21 a_this 10 = 0 := (w2_ne hu22 (Or.inr (by decide))).trans e44
  obtain ⟨T46, hT47⟩ : ∃ X, X = va_up T a_this 9 := ⟨_, rfl⟩
  have hn9 : 11 ≤ N a_this ∧ N a_this ≤ 11 := hM.2.2.2.2.2.2.1.n t_this (by decide)
  have hty48 : TY T46 N I21 R a_this := by
    have h9 : T46 a_this = 9 := by rw [hT47, va_up_self]
    unfold TY; rw [h9]
    refine ⟨hn9.1, hn9.2, fun k hk => ?_⟩
    have hk9 : k = 0 ∨ k = 1 ∨ k = 2 ∨ k = 3 ∨ k = 4 ∨ k = 5 ∨ k = 6 ∨ k = 7 ∨ k = 8 ∨ k = 9 ∨ k = 10 := by omega
    rcases hk9 with rfl | rfl | rfl | rfl | rfl | rfl | rfl | rfl | rfl | rfl | rfl
    · exact ⟨hM.2.2.2.2.2.2.1.io (t := 37) t_this (by decide) (by decide), Or.inl rfl⟩
    · exact ⟨hM.2.2.2.2.2.2.1.io (t := 37) t_this (by decide) (by decide), Or.inl rfl⟩
    · exact ⟨hM.2.2.2.2.2.2.1.io (t := 37) t_this (by decide) (by decide), (by rw [e3]; exact Or.inr (Or.inl ⟨rfl, rfl⟩))⟩
    · exact ⟨hM.2.2.2.2.2.2.1.io (t := 37) t_this (by decide) (by decide), (by rw [e4]; exact Or.inr (Or.inl ⟨rfl, rfl⟩))⟩
    · exact ⟨hM.2.2.2.2.2.2.1.io (t := 37) t_this (by decide) (by decide), (by rw [e5]; exact Or.inr (Or.inl ⟨rfl, rfl⟩))⟩
    · exact ⟨hM.2.2.2.2.2.2.1.io (t := 37) t_this (by decide) (by decide), Or.inl rfl⟩
    · exact ⟨hM.2.2.2.2.2.2.1.io (t := 37) t_this (by decide) (by decide), Or.inl rfl⟩
    · exact ⟨(by rw [e37]; exact (show (0 : Int) ≤ 0 ∧ (0 : Int) ≤ 1 from by omega)), Or.inl rfl⟩
    · exact ⟨hM.2.2.2.2.2.2.1.io (t := 37) t_this (by decide) (by decide), Or.inl rfl⟩
    · exact ⟨hM.2.2.2.2.2.2.1.io (t := 37) t_this (by decide) (by decide), Or.inl rfl⟩
    · exact ⟨hM.2.2.2.2.2.2.1.io (t := 37) t_this (by decide) (by decide), Or.inl rfl⟩
  have hM := hM.tag (t := 9) t_this (by decide) (by decide) rfl (by decide) hT47 hty48 (XI.tag0 hM.2.2.2.2.2.2.1 hM.2.2.2.2.2.2.2 t_this (by decide) hT47 (fun h h2 => by omega) (fun h => by omega) (fun h => by omega) (fun h => by omega) (fun h => by omega))
  replace hF : Fr mo_X10_init [a_this] T N I J R T46 N I21 J R := hF.tag hT47 (fun _ => List.mem_singleton.mpr rfl)
  have t49 : T46 a_this = 9 := by rw [hT47, va_up_self]
  refine g_vret B hM dX10_init_24 ⟨Nat.le_refl _, Nat.le_refl _⟩ ?_
  rw [← hPST]
  exact ⟨rfl, rfl, hF, t49, by first | omega | assumption | exact trivial, by first | omega | assumption | exact trivial⟩

def mo_X2_init : List Nat := []
set_option maxHeartbeats 1000000 in
set_option maxRecDepth 20000 in
theorem k_X2_init (l : Launch) (D : va_G) (dA : Nat → ClassId) (eA : Nat) (L : List Nat) (T N : Nat → Nat) (I : Nat → Nat → Int) (J : Nat → Nat → Int64) (R : Nat → Nat → Nat) (a_this : Nat) (t_this : T a_this = 41) (z_this : ∀ k, I a_this k = 0 ∧ J a_this k = 0 ∧ R a_this k = 0) : GC l yX2_init cX2_init 1 none ({ frames := 1, cells := 0, slots := 0, locals := 30 }) D dA eA L T N I J R [.ref a_this] 0 0 (gV (fun L' T' N' I' J' R' dz dl => I' = I ∧ J' = J ∧ R' = R ∧ Fr mo_X2_init [a_this] T N I J R T' N' I' J' R' ∧ T' a_this = 13 ∧ (True))) := by
  generalize hPST : (gV (fun L' T' N' I' J' R' dz dl => I' = I ∧ J' = J ∧ R' = R ∧ Fr mo_X2_init [a_this] T N I J R T' N' I' J' R' ∧ T' a_this = 13 ∧ (True))) = PST
  refine g_enter (own := RX2) (by decide) rfl (Nat.le_of_ble_eq_true rfl) (fun p e s m args below meth c ls hm B hX hM hl => ?_)
  have hC0 := hM.2.2.2.2.2.2.1
  have hW0 := hM.2.2.2
  have hF : Fr mo_X2_init [a_this] T N I J R T N I J R := Fr.rf
  have hA : ∀ q, s.heap.size ≤ q → cF dA L T N I J R s.heap.size q := fun q h => Or.inr h
  have hl : lv_has ls 1 [(0, .ref a_this)] := hl
  have e1 : R a_this 0 = 0 := (z_this 0).2.2
  have e2 : I a_this 1 = 0 := (z_this 1).1
  have e3 : I a_this 2 = 0 := (z_this 2).1
  have e4 : I a_this 3 = 0 := (z_this 3).1
  have e5 : I a_this 4 = 0 := (z_this 4).1
  have e6 : I a_this 5 = 0 := (z_this 5).1
  have e7 : I a_this 6 = 0 := (z_this 6).1
  have e8 : I a_this 7 = 0 := (z_this 7).1
  have e9 : I a_this 8 = 0 := (z_this 8).1
  refine lv_aload_n B.1 B.2.1 dX2_init_0 rfl (lv_at hl 0 rfl) ?_
  refine c_obj B ol_X2_1 hl.1 (Nat.le_of_ble_eq_true rfl) (Nat.le_of_ble_eq_true rfl) dX2_init_1 ?_
  obtain ⟨T10, hT11⟩ : ∃ X, X = va_up T a_this 13 := ⟨_, rfl⟩
  have hn9 : 9 ≤ N a_this ∧ N a_this ≤ 9 := hM.2.2.2.2.2.2.1.n t_this (by decide)
  have hty12 : TY T10 N I R a_this := by
    have h9 : T10 a_this = 13 := by rw [hT11, va_up_self]
    unfold TY; rw [h9]
    refine ⟨hn9.1, hn9.2, fun k hk => ?_⟩
    have hk9 : k = 0 ∨ k = 1 ∨ k = 2 ∨ k = 3 ∨ k = 4 ∨ k = 5 ∨ k = 6 ∨ k = 7 ∨ k = 8 := by omega
    rcases hk9 with rfl | rfl | rfl | rfl | rfl | rfl | rfl | rfl | rfl
    · exact ⟨hM.2.2.2.2.2.2.1.io (t := 41) t_this (by decide) (by decide), (by rw [e1]; exact Or.inr (Or.inl ⟨rfl, rfl⟩))⟩
    · exact ⟨(by rw [e2]; exact (show (0 : Int) ≤ 0 ∧ (0 : Int) ≤ 1599 from by omega)), Or.inl rfl⟩
    · exact ⟨hM.2.2.2.2.2.2.1.io (t := 41) t_this (by decide) (by decide), Or.inl rfl⟩
    · exact ⟨hM.2.2.2.2.2.2.1.io (t := 41) t_this (by decide) (by decide), Or.inl rfl⟩
    · exact ⟨hM.2.2.2.2.2.2.1.io (t := 41) t_this (by decide) (by decide), Or.inl rfl⟩
    · exact ⟨hM.2.2.2.2.2.2.1.io (t := 41) t_this (by decide) (by decide), Or.inl rfl⟩
    · exact ⟨(by rw [e7]; exact (show (0 : Int) ≤ 0 ∧ (0 : Int) ≤ 1 from by omega)), Or.inl rfl⟩
    · exact ⟨hM.2.2.2.2.2.2.1.io (t := 41) t_this (by decide) (by decide), Or.inl rfl⟩
    · exact ⟨(by rw [e9]; exact (show (0 : Int) ≤ 0 ∧ (0 : Int) ≤ 1 from by omega)), Or.inl rfl⟩
  have hM := hM.tag (t := 13) t_this (by decide) (by decide) rfl (by decide) hT11 hty12 (XI.tag0 hM.2.2.2.2.2.2.1 hM.2.2.2.2.2.2.2 t_this (by decide) hT11 (fun h h2 => by omega) (fun h => by omega) (fun h => by omega) (fun h => by omega) (fun h => by omega))
  replace hF : Fr mo_X2_init [a_this] T N I J R T10 N I J R := hF.tag hT11 (fun _ => List.mem_singleton.mpr rfl)
  have t13 : T10 a_this = 13 := by rw [hT11, va_up_self]
  refine g_vret B hM dX2_init_4 ⟨Nat.le_refl _, Nat.le_refl _⟩ ?_
  rw [← hPST]
  exact ⟨rfl, rfl, rfl, rfl, hF, t13, by first | omega | assumption | exact trivial⟩

def mo_X8_init : List Nat := []
set_option maxHeartbeats 1000000 in
set_option maxRecDepth 20000 in
theorem k_X8_init (l : Launch) (D : va_G) (dA : Nat → ClassId) (eA : Nat) (L : List Nat) (T N : Nat → Nat) (I : Nat → Nat → Int) (J : Nat → Nat → Int64) (R : Nat → Nat → Nat) (a_this : Nat) (t_this : T a_this = 38) (a_name : Int64) (a_type : Int) (i_type : (-2147483648 : Int) ≤ a_type ∧ a_type ≤ 2147483647) (z_this : ∀ k, I a_this k = 0 ∧ J a_this k = 0 ∧ R a_this k = 0) : GC l yX8_init cX8_init 4 none ({ frames := 4, cells := 2, slots := 6, locals := 110 }) D dA eA L T N I J R [.ref a_this, .long a_name, .int (II a_type)] 2 6 (gV (fun L' T' N' I' J' R' dz dl => Fr mo_X8_init [a_this] T N I J R T' N' I' J' R' ∧ T' a_this = 10 ∧ (dz ≤ 2 ∧ dl ≤ 6 ∧ I' (R' a_this 3 - 1) 2 = 0 ∧ I' (R' a_this 4 - 1) 2 = 0))) := by
  generalize hPST : (gV (fun L' T' N' I' J' R' dz dl => Fr mo_X8_init [a_this] T N I J R T' N' I' J' R' ∧ T' a_this = 10 ∧ (dz ≤ 2 ∧ dl ≤ 6 ∧ I' (R' a_this 3 - 1) 2 = 0 ∧ I' (R' a_this 4 - 1) 2 = 0))) = PST
  refine g_enter (own := RX8) (by decide) rfl (Nat.le_of_ble_eq_true rfl) (fun p e s m args below meth c ls hm B hX hM hl => ?_)
  have hC0 := hM.2.2.2.2.2.2.1
  have hW0 := hM.2.2.2
  have hF : Fr mo_X8_init [a_this] T N I J R T N I J R := Fr.rf
  have hA : ∀ q, s.heap.size ≤ q → cF dA L T N I J R s.heap.size q := fun q h => Or.inr h
  have hl : lv_has ls 4 [(0, .ref a_this), (1, .long a_name), (3, .int (II a_type))] := hl
  have e1 : J a_this 0 = 0 := (z_this 0).2.1
  have e2 : I a_this 1 = 0 := (z_this 1).1
  have e3 : I a_this 2 = 0 := (z_this 2).1
  have e4 : R a_this 3 = 0 := (z_this 3).2.2
  have e5 : R a_this 4 = 0 := (z_this 4).2.2
  have e6 : I a_this 5 = 0 := (z_this 5).1
  refine lv_aload_n B.1 B.2.1 dX8_init_0 rfl (lv_at hl 0 rfl) ?_
  refine c_obj B ol_X8_3 hl.1 (Nat.le_of_ble_eq_true rfl) (Nat.le_of_ble_eq_true rfl) dX8_init_1 ?_
  refine lv_aload_n B.1 B.2.1 dX8_init_4 rfl (lv_at hl 0 rfl) ?_
  refine lv_lload_n B.1 B.2.1 dX8_init_5 rfl (lv_at hl 1 rfl) ?_
  refine c_putl (k := 0) pk_X8 B hM t_this kd38 rfl (by decide) fl_X8_9 (Or.inr ⟨rfl, hm, rfl⟩) dX8_init_6 rfl rfl (fun J7 H locs hu8 hM => ?_)
  have e9 : J7 a_this 0 = a_name := w2_at hu8
  replace hF : Fr mo_X8_init [a_this] T N I J R T N I J7 R := hF.wj hu8 (fun _ h => absurd (List.mem_singleton.mpr rfl) h)
  refine lv_aload_n B.1 B.2.1 dX8_init_9 rfl (lv_at hl 0 rfl) ?_
  refine lv_iload_n B.1 B.2.1 dX8_init_10 rfl (lv_at hl 2 rfl) ?_
  refine c_puti (k := 1) pk_X8 B hM t_this kd38 rfl (by decide) fl_X8_15 (Or.inl rfl) dX8_init_11 rfl rfl rfl (show (-2147483648 : Int) ≤ a_type from by omega) (show a_type ≤ (2147483647 : Int) from by omega) (fun I10 H locs hu11 hM => ?_)
  have e12 : I10 a_this 1 = a_type := w2_at hu11
  replace hF : Fr mo_X8_init [a_this] T N I J R T N I10 J7 R := hF.wi hu11 (fun _ h => absurd (List.mem_singleton.mpr rfl) h)
  refine lv_aload_n B.1 B.2.1 dX8_init_14 rfl (lv_at hl 0 rfl) ?_
  refine q_con B dX8_init_15 ?_
  refine c_puti (k := 2) pk_X8 B hM t_this kd38 rfl (by decide) fl_X8_19 (Or.inl rfl) dX8_init_16 rfl rfl rfl (show (-2147483648 : Int) ≤ -1 from by omega) (show -1 ≤ (2147483647 : Int) from by omega) (fun I13 H locs hu14 hM => ?_)
  have e15 : I13 a_this 2 = -1 := w2_at hu14
  replace hF : Fr mo_X8_init [a_this] T N I J R T N I13 J7 R := hF.wi hu14 (fun _ h => absurd (List.mem_singleton.mpr rfl) h)
  refine lv_aload_n B.1 B.2.1 dX8_init_19 rfl (lv_at hl 0 rfl) ?_
  have hMo := hM
  refine c_new (t := 43) pk_Jx4a65c B hX.out hA hM kd43 df_Jx4a65c rfl rfl (by decide) cl_X8_22 in_Jx4a65c ini_Jx4a65c (by show 0 + 1 ≤ 2; omega) (by show 0 + 3 ≤ 6; omega) dX8_init_20 (fun b16 L17 T18 N19 H t20 hT21 hN22 hM => ?_)
  have t23 : T18 b16 = 43 := by rw [hT21, va_up_self]
  have n24 : N19 b16 = 3 := by rw [hN22, va_up_self]
  replace hF : Fr mo_X8_init [a_this] T N I J R T18 N19 I13 J7 R := hF.new t20 hT21 hN22
  have zz25 := hMo.2.2.2.2.2.1 b16 t20
  clear hMo
  refine lv_dup B.1 B.2.1 dX8_init_23 rfl ?_
  have hv26 : (15 ≤ 20) ∧ (20 ≤ 23) := by first | omega | exact ⟨by first | omega | assumption | exact trivial, by first | omega | assumption | exact trivial⟩
  refine z_callv hM hA (c_runI (n := 0) (as := []) (rest := [.ref b16, .ref a_this]) B hX hA hM hl.1 (k_Jx4a65c_init_da8c8 l D dA eA L17 T18 N19 I13 J7 R b16 t23 zz25 20 hv26.1 hv26.2 _ _) ml_X8_24 nm_Jx4a65c_init_da8c8 ⟨rfl, rfl⟩ ⟨Nat.le_of_ble_eq_true rfl, Nat.le_of_ble_eq_true rfl⟩ dX8_init_24 rfl rfl (Nat.le_of_ble_eq_true rfl) ⟨by show 0 + 1 + 0 ≤ 2; omega, by show 0 + 3 + 0 ≤ 6; omega⟩) (fun L29 T30 N31 I32 J33 R34 dz35 dl36 H locs hp27 hMn => ?_)
  obtain ⟨yJ33, hFc37, hp27a⟩ := hp27
  obtain rfl := yJ33.symm
  have t38 : T18 a_this = 38 := upT hT21 t20 t_this (by decide)
  replace hF : Fr mo_X8_init [a_this] T N I J R T30 N31 I32 J7 R34 := hF.trans hFc37 (by decide) (e2x (fun h => absurd t20 h))
  have hM := hMn
  clear hMn
  obtain ⟨t39, hp27a⟩ := hp27a
  replace hp27a : I32 b16 2 = 0 ∧ N31 (R34 b16 1 - 1) = 0 := hp27a
  obtain ⟨hp27a_0, hp27a_1⟩ := hp27a
  have t40 : T30 a_this = 38 := hFc37.tt t38 (by decide) (nm1 (tne t38 t23 (by decide)))
  refine c_putr (k := 3) (v := b16 + 1) pk_X8 B hM t40 kd38 rfl (by decide) fl_X8_25 (Or.inr ⟨rfl, hm, rfl⟩) dX8_init_27 rfl rfl ⟨rfl, fun _ => rfl, rfl, fun _ => rfl⟩ (Or.inl rfl) (fun R41 H locs hu42 hM => ?_)
  have e43 : R41 a_this 3 = b16 + 1 := w2_at hu42
  replace hF : Fr mo_X8_init [a_this] T N I J R T30 N31 I32 J7 R41 := hF.wr hu42 (fun _ h => absurd (List.mem_singleton.mpr rfl) h)
  refine lv_aload_n B.1 B.2.1 dX8_init_30 rfl (lv_at hl 0 rfl) ?_
  have hMo := hM
  refine c_new (t := 43) pk_Jx4a65c B hX.out hA hM kd43 df_Jx4a65c rfl rfl (by decide) cl_X8_22 in_Jx4a65c ini_Jx4a65c (by show 0 + 1 + 1 ≤ 2; omega) (by show 0 + 3 + 3 ≤ 6; omega) dX8_init_31 (fun b44 L45 T46 N47 H t48 hT49 hN50 hM => ?_)
  have z51 : T b44 = 0 := T0_x hF t48 (nm1 (tne t48 t40 (by decide)))
  have t52 : T46 b44 = 43 := by rw [hT49, va_up_self]
  have n53 : N47 b44 = 3 := by rw [hN50, va_up_self]
  replace hF : Fr mo_X8_init [a_this] T N I J R T46 N47 I32 J7 R41 := hF.new t48 hT49 hN50
  have zz54 := hMo.2.2.2.2.2.1 b44 t48
  clear hMo
  refine lv_dup B.1 B.2.1 dX8_init_34 rfl ?_
  have hv55 : (15 ≤ 21) ∧ (21 ≤ 23) := by first | omega | exact ⟨by first | omega | assumption | exact trivial, by first | omega | assumption | exact trivial⟩
  refine z_callv hM hA (c_runI (n := 0) (as := []) (rest := [.ref b44, .ref a_this]) B hX hA hM hl.1 (k_Jx4a65c_init_da8c8 l D dA eA L45 T46 N47 I32 J7 R41 b44 t52 zz54 21 hv55.1 hv55.2 _ _) ml_X8_24 nm_Jx4a65c_init_da8c8 ⟨rfl, rfl⟩ ⟨Nat.le_of_ble_eq_true rfl, Nat.le_of_ble_eq_true rfl⟩ dX8_init_35 rfl rfl (Nat.le_of_ble_eq_true rfl) ⟨by show 0 + 1 + 1 + 0 ≤ 2; omega, by show 0 + 3 + 3 + 0 ≤ 6; omega⟩) (fun L58 T59 N60 I61 J62 R63 dz64 dl65 H locs hp56 hMn => ?_)
  obtain ⟨yJ62, hFc66, hp56a⟩ := hp56
  obtain rfl := yJ62.symm
  have t67 : T46 a_this = 38 := upT hT49 t48 t40 (by decide)
  have t68 : T46 b16 = 20 := upT hT49 t48 t39 (by decide)
  replace hF : Fr mo_X8_init [a_this] T N I J R T59 N60 I61 J7 R63 := hF.trans hFc66 (by decide) (e2x (fun h => absurd z51 h))
  have hM := hMn
  clear hMn
  obtain ⟨t69, hp56a⟩ := hp56a
  replace hp56a : I61 b44 2 = 0 ∧ N60 (R63 b44 1 - 1) = 0 := hp56a
  obtain ⟨hp56a_0, hp56a_1⟩ := hp56a
  have t70 : T59 a_this = 38 := hFc66.tt t67 (by decide) (nm1 (tne t67 t52 (by decide)))
  refine c_putr (k := 4) (v := b44 + 1) pk_X8 B hM t70 kd38 rfl (by decide) fl_X8_29 (Or.inr ⟨rfl, hm, rfl⟩) dX8_init_38 rfl rfl ⟨rfl, fun _ => rfl, rfl, fun _ => rfl⟩ (Or.inl rfl) (fun R71 H locs hu72 hM => ?_)
  have e73 : R71 a_this 4 = b44 + 1 := w2_at hu72
  replace hF : Fr mo_X8_init [a_this] T N I J R T59 N60 I61 J7 R71 := hF.wr hu72 (fun _ h => absurd (List.mem_singleton.mpr rfl) h)
  have e74 : I13 a_this 1 = a_type := (w2_ne hu14 (Or.inr (by decide))).trans e12
  have e75 : I32 a_this 1 = a_type := (hFc37.i t38 (by decide) (nm1 (tne t38 t23 (by decide))) rfl).trans e74
  have e76 : I61 a_this 1 = a_type := (hFc66.i t67 (by decide) (nm1 (tne t67 t52 (by decide))) rfl).trans e75
  have e77 : I32 a_this 2 = -1 := (hFc37.i t38 (by decide) (nm1 (tne t38 t23 (by decide))) rfl).trans e15
  have e78 : I61 a_this 2 = -1 := (hFc66.i t67 (by decide) (nm1 (tne t67 t52 (by decide))) rfl).trans e77
  have e79 : R63 a_this 3 = b16 + 1 := (hFc66.r t67 (by decide) (nm1 (tne t67 t52 (by decide))) rfl).trans e43
  have e80 : R71 a_this 3 = b16 + 1 := (w2_ne hu72 (Or.inr (by decide))).trans e79
  have e81 : I10 a_this 5 = 0 := (w2_ne hu11 (Or.inr (by decide))).trans e6
  have e82 : I13 a_this 5 = 0 := (w2_ne hu14 (Or.inr (by decide))).trans e81
  have e83 : I32 a_this 5 = 0 := (hFc37.i t38 (by decide) (nm1 (tne t38 t23 (by decide))) rfl).trans e82
  have e84 : I61 a_this 5 = 0 := (hFc66.i t67 (by decide) (nm1 (tne t67 t52 (by decide))) rfl).trans e83
  have t87 : T59 b16 = 20 := hFc66.tt t68 (by decide) (nm1 (tne t68 t52 (by decide)))
  obtain ⟨T85, hT86⟩ : ∃ X, X = va_up T59 a_this 10 := ⟨_, rfl⟩
  have hn9 : 6 ≤ N60 a_this ∧ N60 a_this ≤ 6 := hM.2.2.2.2.2.2.1.n t70 (by decide)
  have hty88 : TY T85 N60 I61 R71 a_this := by
    have h9 : T85 a_this = 10 := by rw [hT86, va_up_self]
    unfold TY; rw [h9]
    refine ⟨hn9.1, hn9.2, fun k hk => ?_⟩
    have hk9 : k = 0 ∨ k = 1 ∨ k = 2 ∨ k = 3 ∨ k = 4 ∨ k = 5 := by omega
    rcases hk9 with rfl | rfl | rfl | rfl | rfl | rfl
    · exact ⟨hM.2.2.2.2.2.2.1.io (t := 38) t70 (by decide) (by decide), Or.inl rfl⟩
    · exact ⟨hM.2.2.2.2.2.2.1.io (t := 38) t70 (by decide) (by decide), Or.inl rfl⟩
    · exact ⟨hM.2.2.2.2.2.2.1.io (t := 38) t70 (by decide) (by decide), Or.inl rfl⟩
    · exact ⟨hM.2.2.2.2.2.2.1.io (t := 38) t70 (by decide) (by decide), (by rw [e80]; exact rokR (t := 20) (by rw [hT86, va_up_ne _ _ (tne t87 t70 (by decide))]; exact t87) rfl)⟩
    · exact ⟨hM.2.2.2.2.2.2.1.io (t := 38) t70 (by decide) (by decide), (by rw [e73]; exact rokR (t := 21) (by rw [hT86, va_up_ne _ _ (tne t69 t70 (by decide))]; exact t69) rfl)⟩
    · exact ⟨(by rw [e84]; exact (show (0 : Int) ≤ 0 ∧ (0 : Int) ≤ 1 from by omega)), Or.inl rfl⟩
  have hM := hM.tag (t := 10) t70 (by decide) (by decide) rfl (by decide) hT86 hty88 (XI.tag0 hM.2.2.2.2.2.2.1 hM.2.2.2.2.2.2.2 t70 (by decide) hT86 (fun h h2 => by omega) (fun h => by omega) (fun h => by omega) (fun h => by omega) (fun h => by omega))
  replace hF : Fr mo_X8_init [a_this] T N I J R T85 N60 I61 J7 R71 := hF.tag hT86 (fun _ => List.mem_singleton.mpr rfl)
  have t89 : T85 a_this = 10 := by rw [hT86, va_up_self]
  have pq90 : I61 (R71 a_this 3 - 1) 2 = I61 b16 2 := by rw [e80, Nat.add_sub_cancel]
  have e91 : I61 b16 2 = 0 := (hFc66.i t68 (by decide) (nm1 (tne t68 t52 (by decide))) rfl).trans hp27a_0
  have pq92 : I61 (R71 a_this 4 - 1) 2 = I61 b44 2 := by rw [e73, Nat.add_sub_cancel]
  refine g_vret B hM dX8_init_41 ⟨by show 0 + 1 + 1 ≤ 2; omega, by show 0 + 3 + 3 ≤ 6; omega⟩ ?_
  rw [← hPST]
  exact ⟨rfl, hF, t89, by first | omega | assumption | exact trivial, by first | omega | assumption | exact trivial, by first | omega | assumption | exact trivial, by first | omega | assumption | exact trivial⟩

def mo_X7_init : List Nat := []
set_option maxHeartbeats 1000000 in
set_option maxRecDepth 20000 in
theorem k_X7_init (l : Launch) (D : va_G) (dA : Nat → ClassId) (eA : Nat) (L : List Nat) (T N : Nat → Nat) (I : Nat → Nat → Int) (J : Nat → Nat → Int64) (R : Nat → Nat → Nat) (a_this : Nat) (t_this : T a_this = 36) (a_n : Int) (i_n : (-2147483648 : Int) ≤ a_n ∧ a_n ≤ 2147483647) (z_this : ∀ k, I a_this k = 0 ∧ J a_this k = 0 ∧ R a_this k = 0) : GC l yX7_init cX7_init 2 none ({ frames := 1, cells := 2, slots := 16, locals := 30 }) D dA eA L T N I J R [.ref a_this, .int (II a_n)] 2 16 (gV (fun L' T' N' I' J' R' dz dl => J' = J ∧ Fr mo_X7_init [a_this] T N I J R T' N' I' J' R' ∧ T' a_this = 8 ∧ (dz ≤ 2 ∧ dl ≤ 16))) := by
  generalize hPST : (gV (fun L' T' N' I' J' R' dz dl => J' = J ∧ Fr mo_X7_init [a_this] T N I J R T' N' I' J' R' ∧ T' a_this = 8 ∧ (dz ≤ 2 ∧ dl ≤ 16))) = PST
  refine g_enter (own := RX7) (by decide) rfl (Nat.le_of_ble_eq_true rfl) (fun p e s m args below meth c ls hm B hX hM hl => ?_)
  have hC0 := hM.2.2.2.2.2.2.1
  have hW0 := hM.2.2.2
  have hF : Fr mo_X7_init [a_this] T N I J R T N I J R := Fr.rf
  have hA : ∀ q, s.heap.size ≤ q → cF dA L T N I J R s.heap.size q := fun q h => Or.inr h
  have hl : lv_has ls 2 [(0, .ref a_this), (1, .int (II a_n))] := hl
  have e1 : I a_this 0 = 0 := (z_this 0).1
  have e2 : R a_this 1 = 0 := (z_this 1).2.2
  have e3 : R a_this 2 = 0 := (z_this 2).2.2
  have e4 : R a_this 3 = 0 := (z_this 3).2.2
  have e5 : R a_this 4 = 0 := (z_this 4).2.2
  have e6 : I a_this 5 = 0 := (z_this 5).1
  have e7 : I a_this 6 = 0 := (z_this 6).1
  have e8 : I a_this 7 = 0 := (z_this 7).1
  have e9 : I a_this 8 = 0 := (z_this 8).1
  have e10 : I a_this 9 = 0 := (z_this 9).1
  have e11 : R a_this 10 = 0 := (z_this 10).2.2
  refine lv_aload_n B.1 B.2.1 dX7_init_0 rfl (lv_at hl 0 rfl) ?_
  refine c_obj B ol_X7_3 hl.1 (Nat.le_of_ble_eq_true rfl) (Nat.le_of_ble_eq_true rfl) dX7_init_1 ?_
  refine lv_aload_n B.1 B.2.1 dX7_init_4 rfl (lv_at hl 0 rfl) ?_
  refine lv_iload_n B.1 B.2.1 dX7_init_5 rfl (lv_at hl 1 rfl) ?_
  refine c_puti (k := 0) pk_X7 B hM t_this kd36 rfl (by decide) fl_X7_9 (Or.inr ⟨rfl, hm, rfl⟩) dX7_init_6 rfl rfl rfl (show (-2147483648 : Int) ≤ a_n from by omega) (show a_n ≤ (2147483647 : Int) from by omega) (fun I12 H locs hu13 hM => ?_)
  have e14 : I12 a_this 0 = a_n := w2_at hu13
  replace hF : Fr mo_X7_init [a_this] T N I J R T N I12 J R := hF.wi hu13 (fun _ h => absurd (List.mem_singleton.mpr rfl) h)
  refine lv_aload_n B.1 B.2.1 dX7_init_9 rfl (lv_at hl 0 rfl) ?_
  refine q_con B dX7_init_10 ?_
  have hMo := hM
  refine c_newa (t := 73) (atype := .int) (n' := 0) B hX.out hA hM kd73 aw73 rfl rfl (fun _ => va_RA_i) acc_int hav_int (by decide) (by omega) (show 0 ≤ 0 ∧ 0 ≤ 40 from by omega) (by show 0 + 1 ≤ 2; omega) (by show 0 + 0 ≤ 16; omega) dX7_init_11 (fun b15 L16 T17 N18 H t19 hT20 hN21 hM => ?_)
  have t22 : T17 b15 = 73 := by rw [hT20, va_up_self]
  have n23 : N18 b15 = 0 := by rw [hN21, va_up_self]
  replace hF : Fr mo_X7_init [a_this] T N I J R T17 N18 I12 J R := hF.new t19 hT20 hN21
  have zz24 := hMo.2.2.2.2.2.1 b15 t19
  clear hMo
  have t25 : T17 a_this = 36 := upT hT20 t19 t_this (by decide)
  refine c_putr (k := 1) (v := b15 + 1) pk_X7 B hM t25 kd36 rfl (by decide) fl_X7_15 (Or.inl rfl) dX7_init_13 rfl rfl ⟨rfl, fun _ => rfl, rfl, fun _ => rfl⟩ (Or.inl rfl) (fun R26 H locs hu27 hM => ?_)
  have e28 : R26 a_this 1 = b15 + 1 := w2_at hu27
  replace hF : Fr mo_X7_init [a_this] T N I J R T17 N18 I12 J R26 := hF.wr hu27 (fun _ h => absurd (List.mem_singleton.mpr rfl) h)
  refine lv_aload_n B.1 B.2.1 dX7_init_16 rfl (lv_at hl 0 rfl) ?_
  refine lv_aload_n B.1 B.2.1 dX7_init_17 rfl (lv_at hl 0 rfl) ?_
  refine c_getn (k := 1) pk_X7 B hM t25 kd36 rfl (by decide) fl_X7_15 dX7_init_18 e28 ?_
  refine c_putr (k := 2) (v := b15 + 1) pk_X7 B hM t25 kd36 rfl (by decide) fl_X7_19 (Or.inl rfl) dX7_init_21 rfl rfl ⟨rfl, fun _ => rfl, rfl, fun _ => rfl⟩ (Or.inl rfl) (fun R29 H locs hu30 hM => ?_)
  have e31 : R29 a_this 2 = b15 + 1 := w2_at hu30
  replace hF : Fr mo_X7_init [a_this] T N I J R T17 N18 I12 J R29 := hF.wr hu30 (fun _ h => absurd (List.mem_singleton.mpr rfl) h)
  refine lv_aload_n B.1 B.2.1 dX7_init_24 rfl (lv_at hl 0 rfl) ?_
  refine lv_aload_n B.1 B.2.1 dX7_init_25 rfl (lv_at hl 0 rfl) ?_
  have e32 : R29 a_this 1 = b15 + 1 := (w2_ne hu30 (Or.inr (by decide))).trans e28
  refine c_getn (k := 1) pk_X7 B hM t25 kd36 rfl (by decide) fl_X7_15 dX7_init_26 e32 ?_
  refine c_putr (k := 3) (v := b15 + 1) pk_X7 B hM t25 kd36 rfl (by decide) fl_X7_22 (Or.inl rfl) dX7_init_29 rfl rfl ⟨rfl, fun _ => rfl, rfl, fun _ => rfl⟩ (Or.inl rfl) (fun R33 H locs hu34 hM => ?_)
  have e35 : R33 a_this 3 = b15 + 1 := w2_at hu34
  replace hF : Fr mo_X7_init [a_this] T N I J R T17 N18 I12 J R33 := hF.wr hu34 (fun _ h => absurd (List.mem_singleton.mpr rfl) h)
  refine lv_aload_n B.1 B.2.1 dX7_init_32 rfl (lv_at hl 0 rfl) ?_
  refine lv_aload_n B.1 B.2.1 dX7_init_33 rfl (lv_at hl 0 rfl) ?_
  have e36 : R33 a_this 1 = b15 + 1 := (w2_ne hu34 (Or.inr (by decide))).trans e32
  refine c_getn (k := 1) pk_X7 B hM t25 kd36 rfl (by decide) fl_X7_15 dX7_init_34 e36 ?_
  refine c_putr (k := 4) (v := b15 + 1) pk_X7 B hM t25 kd36 rfl (by decide) fl_X7_25 (Or.inl rfl) dX7_init_37 rfl rfl ⟨rfl, fun _ => rfl, rfl, fun _ => rfl⟩ (Or.inl rfl) (fun R37 H locs hu38 hM => ?_)
  have e39 : R37 a_this 4 = b15 + 1 := w2_at hu38
  replace hF : Fr mo_X7_init [a_this] T N I J R T17 N18 I12 J R37 := hF.wr hu38 (fun _ h => absurd (List.mem_singleton.mpr rfl) h)
  refine lv_aload_n B.1 B.2.1 dX7_init_40 rfl (lv_at hl 0 rfl) ?_
  refine q_bip B dX7_init_41 (by decide) ?_
  have hMo := hM
  refine c_newa (t := 74) (atype := .int) (n' := 16) B hX.out hA hM kd74 aw74 rfl rfl (fun _ => va_RA_i) acc_int hav_int (by decide) (by omega) (show 16 ≤ 16 ∧ 16 ≤ 16 from by omega) (by show 0 + 1 + 1 ≤ 2; omega) (by show 0 + 0 + 16 ≤ 16; omega) dX7_init_43 (fun b40 L41 T42 N43 H t44 hT45 hN46 hM => ?_)
  have z47 : T b40 = 0 := T0_x hF t44 (nm1 (tne t44 t25 (by decide)))
  have t48 : T42 b40 = 74 := by rw [hT45, va_up_self]
  have n49 : N43 b40 = 16 := by rw [hN46, va_up_self]
  replace hF : Fr mo_X7_init [a_this] T N I J R T42 N43 I12 J R37 := hF.new t44 hT45 hN46
  have zz50 := hMo.2.2.2.2.2.1 b40 t44
  clear hMo
  have t51 : T42 a_this = 36 := upT hT45 t44 t25 (by decide)
  refine c_putr (k := 10) (v := b40 + 1) pk_X7 B hM t51 kd36 rfl (by decide) fl_X7_28 (Or.inr ⟨rfl, hm, rfl⟩) dX7_init_45 rfl rfl ⟨rfl, fun _ => rfl, rfl, fun _ => rfl⟩ (Or.inl rfl) (fun R52 H locs hu53 hM => ?_)
  have e54 : R52 a_this 10 = b40 + 1 := w2_at hu53
  replace hF : Fr mo_X7_init [a_this] T N I J R T42 N43 I12 J R52 := hF.wr hu53 (fun _ h => absurd (List.mem_singleton.mpr rfl) h)
  have e55 : R37 a_this 1 = b15 + 1 := (w2_ne hu38 (Or.inr (by decide))).trans e36
  have e56 : R52 a_this 1 = b15 + 1 := (w2_ne hu53 (Or.inr (by decide))).trans e55
  have e57 : R33 a_this 2 = b15 + 1 := (w2_ne hu34 (Or.inr (by decide))).trans e31
  have e58 : R37 a_this 2 = b15 + 1 := (w2_ne hu38 (Or.inr (by decide))).trans e57
  have e59 : R52 a_this 2 = b15 + 1 := (w2_ne hu53 (Or.inr (by decide))).trans e58
  have e60 : R37 a_this 3 = b15 + 1 := (w2_ne hu38 (Or.inr (by decide))).trans e35
  have e61 : R52 a_this 3 = b15 + 1 := (w2_ne hu53 (Or.inr (by decide))).trans e60
  have e62 : R52 a_this 4 = b15 + 1 := (w2_ne hu53 (Or.inr (by decide))).trans e39
  have e63 : I12 a_this 5 = 0 := (w2_ne hu13 (Or.inr (by decide))).trans e6
  have e64 : I12 a_this 6 = 0 := (w2_ne hu13 (Or.inr (by decide))).trans e7
  have e65 : I12 a_this 7 = 0 := (w2_ne hu13 (Or.inr (by decide))).trans e8
  have e66 : I12 a_this 8 = 0 := (w2_ne hu13 (Or.inr (by decide))).trans e9
  have e67 : I12 a_this 9 = 0 := (w2_ne hu13 (Or.inr (by decide))).trans e10
  have t70 : T42 b15 = 73 := upT hT45 t44 t22 (by decide)
  obtain ⟨T68, hT69⟩ : ∃ X, X = va_up T42 a_this 8 := ⟨_, rfl⟩
  have hn9 : 11 ≤ N43 a_this ∧ N43 a_this ≤ 11 := hM.2.2.2.2.2.2.1.n t51 (by decide)
  have hty71 : TY T68 N43 I12 R52 a_this := by
    have h9 : T68 a_this = 8 := by rw [hT69, va_up_self]
    unfold TY; rw [h9]
    refine ⟨hn9.1, hn9.2, fun k hk => ?_⟩
    have hk9 : k = 0 ∨ k = 1 ∨ k = 2 ∨ k = 3 ∨ k = 4 ∨ k = 5 ∨ k = 6 ∨ k = 7 ∨ k = 8 ∨ k = 9 ∨ k = 10 := by omega
    rcases hk9 with rfl | rfl | rfl | rfl | rfl | rfl | rfl | rfl | rfl | rfl | rfl
    · exact ⟨hM.2.2.2.2.2.2.1.io (t := 36) t51 (by decide) (by decide), Or.inl rfl⟩
    · exact ⟨hM.2.2.2.2.2.2.1.io (t := 36) t51 (by decide) (by decide), (by rw [e56]; exact rokR (t := 73) (by rw [hT69, va_up_ne _ _ (tne t70 t51 (by decide))]; exact t70) rfl)⟩
    · exact ⟨hM.2.2.2.2.2.2.1.io (t := 36) t51 (by decide) (by decide), (by rw [e59]; exact rokR (t := 73) (by rw [hT69, va_up_ne _ _ (tne t70 t51 (by decide))]; exact t70) rfl)⟩
    · exact ⟨hM.2.2.2.2.2.2.1.io (t := 36) t51 (by decide) (by decide), (by rw [e61]; exact rokR (t := 73) (by rw [hT69, va_up_ne _ _ (tne t70 t51 (by decide))]; exact t70) rfl)⟩
    · exact ⟨hM.2.2.2.2.2.2.1.io (t := 36) t51 (by decide) (by decide), (by rw [e62]; exact rokR (t := 73) (by rw [hT69, va_up_ne _ _ (tne t70 t51 (by decide))]; exact t70) rfl)⟩
    · exact ⟨hM.2.2.2.2.2.2.1.io (t := 36) t51 (by decide) (by decide), Or.inl rfl⟩
    · exact ⟨hM.2.2.2.2.2.2.1.io (t := 36) t51 (by decide) (by decide), Or.inl rfl⟩
    · exact ⟨hM.2.2.2.2.2.2.1.io (t := 36) t51 (by decide) (by decide), Or.inl rfl⟩
    · exact ⟨hM.2.2.2.2.2.2.1.io (t := 36) t51 (by decide) (by decide), Or.inl rfl⟩
    · exact ⟨hM.2.2.2.2.2.2.1.io (t := 36) t51 (by decide) (by decide), Or.inl rfl⟩
    · exact ⟨hM.2.2.2.2.2.2.1.io (t := 36) t51 (by decide) (by decide), (by rw [e54]; exact rokR (t := 74) (by rw [hT69, va_up_ne _ _ (tne t48 t51 (by decide))]; exact t48) rfl)⟩
  have hM := hM.tag (t := 8) t51 (by decide) (by decide) rfl (by decide) hT69 hty71 (XI.tag0 hM.2.2.2.2.2.2.1 hM.2.2.2.2.2.2.2 t51 (by decide) hT69 (fun h h2 => by omega) (fun h => by omega) (fun h => by omega) (fun h => by omega) (fun h => by omega))
  replace hF : Fr mo_X7_init [a_this] T N I J R T68 N43 I12 J R52 := hF.tag hT69 (fun _ => List.mem_singleton.mpr rfl)
  have t72 : T68 a_this = 8 := by rw [hT69, va_up_self]
  refine g_vret B hM dX7_init_48 ⟨by show 0 + 1 + 1 ≤ 2; omega, by show 0 + 0 + 16 ≤ 16; omega⟩ ?_
  rw [← hPST]
  exact ⟨rfl, rfl, hF, t72, by first | omega | assumption | exact trivial, by first | omega | assumption | exact trivial⟩

def mo_X9_init : List Nat := []
set_option maxHeartbeats 1000000 in
set_option maxRecDepth 20000 in
theorem k_X9_init (l : Launch) (D : va_G) (dA : Nat → ClassId) (eA : Nat) (L : List Nat) (T N : Nat → Nat) (I : Nat → Nat → Int) (J : Nat → Nat → Int64) (R : Nat → Nat → Nat) (a_this : Nat) (t_this : T a_this = 31) (z_this : ∀ k, I a_this k = 0 ∧ J a_this k = 0 ∧ R a_this k = 0) : GC l yX9_init cX9_init 1 none ({ frames := 1, cells := 3, slots := 9003, locals := 30 }) D dA eA L T N I J R [.ref a_this] 3 9003 (gV (fun L' T' N' I' J' R' dz dl => I' = I ∧ J' = J ∧ Fr mo_X9_init [a_this] T N I J R T' N' I' J' R' ∧ T' a_this = 3 ∧ (dz ≤ 3 ∧ dl ≤ 9003))) := by
  generalize hPST : (gV (fun L' T' N' I' J' R' dz dl => I' = I ∧ J' = J ∧ Fr mo_X9_init [a_this] T N I J R T' N' I' J' R' ∧ T' a_this = 3 ∧ (dz ≤ 3 ∧ dl ≤ 9003))) = PST
  refine g_enter (own := RX9) (by decide) rfl (Nat.le_of_ble_eq_true rfl) (fun p e s m args below meth c ls hm B hX hM hl => ?_)
  have hC0 := hM.2.2.2.2.2.2.1
  have hW0 := hM.2.2.2
  have hF : Fr mo_X9_init [a_this] T N I J R T N I J R := Fr.rf
  have hA : ∀ q, s.heap.size ≤ q → cF dA L T N I J R s.heap.size q := fun q h => Or.inr h
  have hl : lv_has ls 1 [(0, .ref a_this)] := hl
  have e1 : R a_this 0 = 0 := (z_this 0).2.2
  have e2 : R a_this 1 = 0 := (z_this 1).2.2
  have e3 : R a_this 2 = 0 := (z_this 2).2.2
  refine lv_aload_n B.1 B.2.1 dX9_init_0 rfl (lv_at hl 0 rfl) ?_
  refine c_obj B ol_X9_3 hl.1 (Nat.le_of_ble_eq_true rfl) (Nat.le_of_ble_eq_true rfl) dX9_init_1 ?_
  refine lv_aload_n B.1 B.2.1 dX9_init_4 rfl (lv_at hl 0 rfl) ?_
  refine q_sip B dX9_init_5 (by decide) ?_
  have hMo := hM
  refine c_newa (t := 62) (atype := .int) (n' := 3001) B hX.out hA hM kd62 aw62 rfl rfl (fun _ => va_RA_i) acc_int hav_int (by decide) (by omega) (show 3001 ≤ 3001 ∧ 3001 ≤ 3001 from by omega) (by show 0 + 1 ≤ 3; omega) (by show 0 + 3001 ≤ 9003; omega) dX9_init_8 (fun b4 L5 T6 N7 H t8 hT9 hN10 hM => ?_)
  have t11 : T6 b4 = 62 := by rw [hT9, va_up_self]
  have n12 : N7 b4 = 3001 := by rw [hN10, va_up_self]
  replace hF : Fr mo_X9_init [a_this] T N I J R T6 N7 I J R := hF.new t8 hT9 hN10
  have zz13 := hMo.2.2.2.2.2.1 b4 t8
  clear hMo
  have t14 : T6 a_this = 31 := upT hT9 t8 t_this (by decide)
  refine c_putr (k := 0) (v := b4 + 1) pk_X9 B hM t14 kd31 rfl (by decide) fl_X9_9 (Or.inr ⟨rfl, hm, rfl⟩) dX9_init_10 rfl rfl ⟨rfl, fun _ => rfl, rfl, fun _ => rfl⟩ (Or.inl rfl) (fun R15 H locs hu16 hM => ?_)
  have e17 : R15 a_this 0 = b4 + 1 := w2_at hu16
  replace hF : Fr mo_X9_init [a_this] T N I J R T6 N7 I J R15 := hF.wr hu16 (fun _ h => absurd (List.mem_singleton.mpr rfl) h)
  refine lv_aload_n B.1 B.2.1 dX9_init_13 rfl (lv_at hl 0 rfl) ?_
  refine q_sip B dX9_init_14 (by decide) ?_
  have hMo := hM
  refine c_newa (t := 63) (atype := .int) (n' := 3001) B hX.out hA hM kd63 aw63 rfl rfl (fun _ => va_RA_i) acc_int hav_int (by decide) (by omega) (show 3001 ≤ 3001 ∧ 3001 ≤ 3001 from by omega) (by show 0 + 1 + 1 ≤ 3; omega) (by show 0 + 3001 + 3001 ≤ 9003; omega) dX9_init_17 (fun b18 L19 T20 N21 H t22 hT23 hN24 hM => ?_)
  have z25 : T b18 = 0 := T0_x hF t22 (nm1 (tne t22 t14 (by decide)))
  have t26 : T20 b18 = 63 := by rw [hT23, va_up_self]
  have n27 : N21 b18 = 3001 := by rw [hN24, va_up_self]
  replace hF : Fr mo_X9_init [a_this] T N I J R T20 N21 I J R15 := hF.new t22 hT23 hN24
  have zz28 := hMo.2.2.2.2.2.1 b18 t22
  clear hMo
  have t29 : T20 a_this = 31 := upT hT23 t22 t14 (by decide)
  refine c_putr (k := 1) (v := b18 + 1) pk_X9 B hM t29 kd31 rfl (by decide) fl_X9_15 (Or.inr ⟨rfl, hm, rfl⟩) dX9_init_19 rfl rfl ⟨rfl, fun _ => rfl, rfl, fun _ => rfl⟩ (Or.inl rfl) (fun R30 H locs hu31 hM => ?_)
  have e32 : R30 a_this 1 = b18 + 1 := w2_at hu31
  replace hF : Fr mo_X9_init [a_this] T N I J R T20 N21 I J R30 := hF.wr hu31 (fun _ h => absurd (List.mem_singleton.mpr rfl) h)
  refine lv_aload_n B.1 B.2.1 dX9_init_22 rfl (lv_at hl 0 rfl) ?_
  refine q_sip B dX9_init_23 (by decide) ?_
  have hMo := hM
  refine c_newa (t := 64) (atype := .long) (n' := 3001) B hX.out hA hM kd64 aw64 rfl rfl (fun _ => va_RA_l) acc_long hav_long (by decide) (by omega) (show 3001 ≤ 3001 ∧ 3001 ≤ 3001 from by omega) (by show 0 + 1 + 1 + 1 ≤ 3; omega) (by show 0 + 3001 + 3001 + 3001 ≤ 9003; omega) dX9_init_26 (fun b33 L34 T35 N36 H t37 hT38 hN39 hM => ?_)
  have z40 : T b33 = 0 := T0_x hF t37 (nm1 (tne t37 t29 (by decide)))
  have t41 : T35 b33 = 64 := by rw [hT38, va_up_self]
  have n42 : N36 b33 = 3001 := by rw [hN39, va_up_self]
  replace hF : Fr mo_X9_init [a_this] T N I J R T35 N36 I J R30 := hF.new t37 hT38 hN39
  have zz43 := hMo.2.2.2.2.2.1 b33 t37
  clear hMo
  have t44 : T35 a_this = 31 := upT hT38 t37 t29 (by decide)
  refine c_putr (k := 2) (v := b33 + 1) pk_X9 B hM t44 kd31 rfl (by decide) fl_X9_18 (Or.inr ⟨rfl, hm, rfl⟩) dX9_init_28 rfl rfl ⟨rfl, fun _ => rfl, rfl, fun _ => rfl⟩ (Or.inl rfl) (fun R45 H locs hu46 hM => ?_)
  have e47 : R45 a_this 2 = b33 + 1 := w2_at hu46
  replace hF : Fr mo_X9_init [a_this] T N I J R T35 N36 I J R45 := hF.wr hu46 (fun _ h => absurd (List.mem_singleton.mpr rfl) h)
  have e48 : R30 a_this 0 = b4 + 1 := (w2_ne hu31 (Or.inr (by decide))).trans e17
  have e49 : R45 a_this 0 = b4 + 1 := (w2_ne hu46 (Or.inr (by decide))).trans e48
  have e50 : R45 a_this 1 = b18 + 1 := (w2_ne hu46 (Or.inr (by decide))).trans e32
  have t53 : T20 b4 = 62 := upT hT23 t22 t11 (by decide)
  have t54 : T35 b4 = 62 := upT hT38 t37 t53 (by decide)
  have t55 : T35 b18 = 63 := upT hT38 t37 t26 (by decide)
  obtain ⟨T51, hT52⟩ : ∃ X, X = va_up T35 a_this 3 := ⟨_, rfl⟩
  have hn9 : 3 ≤ N36 a_this ∧ N36 a_this ≤ 3 := hM.2.2.2.2.2.2.1.n t44 (by decide)
  have hty56 : TY T51 N36 I R45 a_this := by
    have h9 : T51 a_this = 3 := by rw [hT52, va_up_self]
    unfold TY; rw [h9]
    refine ⟨hn9.1, hn9.2, fun k hk => ?_⟩
    have hk9 : k = 0 ∨ k = 1 ∨ k = 2 := by omega
    rcases hk9 with rfl | rfl | rfl
    · exact ⟨hM.2.2.2.2.2.2.1.io (t := 31) t44 (by decide) (by decide), (by rw [e49]; exact rokR (t := 62) (by rw [hT52, va_up_ne _ _ (tne t54 t44 (by decide))]; exact t54) rfl)⟩
    · exact ⟨hM.2.2.2.2.2.2.1.io (t := 31) t44 (by decide) (by decide), (by rw [e50]; exact rokR (t := 63) (by rw [hT52, va_up_ne _ _ (tne t55 t44 (by decide))]; exact t55) rfl)⟩
    · exact ⟨hM.2.2.2.2.2.2.1.io (t := 31) t44 (by decide) (by decide), (by rw [e47]; exact rokR (t := 64) (by rw [hT52, va_up_ne _ _ (tne t41 t44 (by decide))]; exact t41) rfl)⟩
  have hM := hM.tag (t := 3) t44 (by decide) (by decide) rfl (by decide) hT52 hty56 (XI.tag0 hM.2.2.2.2.2.2.1 hM.2.2.2.2.2.2.2 t44 (by decide) hT52 (fun h h2 => by omega) (fun h => by omega) (fun h => by omega) (fun h => by omega) (fun h => by omega))
  replace hF : Fr mo_X9_init [a_this] T N I J R T51 N36 I J R45 := hF.tag hT52 (fun _ => List.mem_singleton.mpr rfl)
  have t57 : T51 a_this = 3 := by rw [hT52, va_up_self]
  refine g_vret B hM dX9_init_31 ⟨by show 0 + 1 + 1 + 1 ≤ 3; omega, by show 0 + 3001 + 3001 + 3001 ≤ 9003; omega⟩ ?_
  rw [← hPST]
  exact ⟨rfl, rfl, rfl, hF, t57, by first | omega | assumption | exact trivial, by first | omega | assumption | exact trivial⟩
