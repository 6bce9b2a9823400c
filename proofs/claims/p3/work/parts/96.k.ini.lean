def mo_J5_init_d00df : List Nat := []
set_option maxHeartbeats 1000000 in
set_option maxRecDepth 20000 in
theorem k_J5_init_d00df (l : Launch) (D : va_G) (dA : Nat → ClassId) (eA : Nat) (L : List Nat) (T N : Nat → Nat) (I : Nat → Nat → Int) (J : Nat → Nat → Int64) (R : Nat → Nat → Nat) (a_this : Nat) (t_this : T a_this = 42) (a_c : Int) (i_c : (-2147483648 : Int) ≤ a_c ∧ a_c ≤ 2147483647) (z_this : ∀ k, I a_this k = 0 ∧ J a_this k = 0 ∧ R a_this k = 0) (p_0 : a_c = 16) : GC l yJ5_init_d00df cJ5_init_d00df 2 none ({ frames := 1, cells := 1, slots := 16, locals := 30 }) D dA eA L T N I J R [.ref a_this, .int (II a_c)] 1 16 (gV (fun L' T' N' I' J' R' dz dl => J' = J ∧ Fr mo_J5_init_d00df [a_this] T N I J R T' N' I' J' R' ∧ T' a_this = 14 ∧ (dz ≤ 1 ∧ dl ≤ 16 ∧ I' a_this 3 = 0))) := by
  generalize hPST : (gV (fun L' T' N' I' J' R' dz dl => J' = J ∧ Fr mo_J5_init_d00df [a_this] T N I J R T' N' I' J' R' ∧ T' a_this = 14 ∧ (dz ≤ 1 ∧ dl ≤ 16 ∧ I' a_this 3 = 0))) = PST
  refine g_enter (own := RJ5) (by decide) rfl (Nat.le_of_ble_eq_true rfl) (fun p e s m args below meth c ls hm B hX hM hl => ?_)
  have hC0 := hM.2.2.2.2.2.2.1
  have hW0 := hM.2.2.2
  have hF : Fr mo_J5_init_d00df [a_this] T N I J R T N I J R := Fr.rf
  have hA : ∀ q, s.heap.size ≤ q → cF dA L T N I J R s.heap.size q := fun q h => Or.inr h
  have hl : lv_has ls 2 [(0, .ref a_this), (1, .int (II a_c))] := hl
  have e1 : R a_this 0 = 0 := (z_this 0).2.2
  have e2 : I a_this 1 = 0 := (z_this 1).1
  have e3 : I a_this 2 = 0 := (z_this 2).1
  have e4 : I a_this 3 = 0 := (z_this 3).1
  refine lv_aload_n B.1 B.2.1 dJ5_init_d00df_0 rfl (lv_at hl 0 rfl) ?_
  refine c_obj B ol_J5_3 hl.1 (Nat.le_of_ble_eq_true rfl) (Nat.le_of_ble_eq_true rfl) dJ5_init_d00df_1 ?_
  refine c_cmp1 B hX hM.2.2.1 fl_J5_18 dJ5_init_d00df_4 ?_
  refine q_ieq (tgt := 25) B dJ5_init_d00df_7 (by decide) (by unfold inr; omega) (fun c5 => absurd c5 (by omega)) (fun c5 => ?_)
  refine lv_aload_n B.1 B.2.1 dJ5_init_d00df_10 rfl (lv_at hl 0 rfl) ?_
  refine lv_iload_n B.1 B.2.1 dJ5_init_d00df_11 rfl (lv_at hl 1 rfl) ?_
  have hMo := hM
  refine c_newa (t := 96) (atype := .byte) (n' := a_c.toNat) B hX.out hA hM kd96 aw96 rfl rfl (fun _ => va_RA_b) acc_byte hav_byte (by decide) (by omega) (show 16 ≤ a_c.toNat ∧ a_c.toNat ≤ 70000 from by omega) (by show 0 + 1 ≤ 1; omega) (by show 0 + a_c.toNat ≤ 16; omega) dJ5_init_d00df_12 (fun b6 L7 T8 N9 H t10 hT11 hN12 hM => ?_)
  have t13 : T8 b6 = 96 := by rw [hT11, va_up_self]
  have n14 : N9 b6 = a_c.toNat := by rw [hN12, va_up_self]
  replace hF : Fr mo_J5_init_d00df [a_this] T N I J R T8 N9 I J R := hF.new t10 hT11 hN12
  have zz15 := hMo.2.2.2.2.2.1 b6 t10
  clear hMo
  have t16 : T8 a_this = 42 := upT hT11 t10 t_this (by decide)
  refine c_putr (k := 0) (v := b6 + 1) pk_J4 B hM t16 kd42 rfl (by decide) fl_J5_15 (Or.inl rfl) dJ5_init_d00df_14 rfl rfl ⟨rfl, fun _ => rfl, rfl, fun _ => rfl⟩ (Or.inl rfl) (fun R17 H locs hu18 hM => ?_)
  have e19 : R17 a_this 0 = b6 + 1 := w2_at hu18
  replace hF : Fr mo_J5_init_d00df [a_this] T N I J R T8 N9 I J R17 := hF.wr hu18 (fun _ h => absurd (List.mem_singleton.mpr rfl) h)
  refine lv_aload_n B.1 B.2.1 dJ5_init_d00df_17 rfl (lv_at hl 0 rfl) ?_
  refine q_con B dJ5_init_d00df_18 ?_
  refine c_puti (k := 1) pk_J4 B hM t16 kd42 rfl (by decide) fl_J5_22 (Or.inl rfl) dJ5_init_d00df_19 rfl (by decide) rfl (show (-2147483648 : Int) ≤ 0 from by omega) (show 0 ≤ (2147483647 : Int) from by omega) (fun I20 H locs hu21 hM => ?_)
  have e22 : I20 a_this 1 = 0 := w2_at hu21
  replace hF : Fr mo_J5_init_d00df [a_this] T N I J R T8 N9 I20 J R17 := hF.wi hu21 (fun _ h => absurd (List.mem_singleton.mpr rfl) h)
  refine lv_goto (tgt := 38) B.1 B.2.1 dJ5_init_d00df_22 (by decide) ?_
  have e23 : I20 a_this 2 = 0 := (w2_ne hu21 (Or.inr (by decide))).trans e3
  have e24 : I20 a_this 3 = 0 := (w2_ne hu21 (Or.inr (by decide))).trans e4
  obtain ⟨T25, hT26⟩ : ∃ X, X = va_up T8 a_this 14 := ⟨_, rfl⟩
  have hn9 : 4 ≤ N9 a_this ∧ N9 a_this ≤ 4 := hM.2.2.2.2.2.2.1.n t16 (by decide)
  have hty27 : TY T25 N9 I20 R17 a_this := by
    have h9 : T25 a_this = 14 := by rw [hT26, va_up_self]
    unfold TY; rw [h9]
    refine ⟨hn9.1, hn9.2, fun k hk => ?_⟩
    have hk9 : k = 0 ∨ k = 1 ∨ k = 2 ∨ k = 3 := by omega
    rcases hk9 with rfl | rfl | rfl | rfl
    · exact ⟨hM.2.2.2.2.2.2.1.io (t := 42) t16 (by decide) (by decide), (by rw [e19]; exact rokR (t := 96) (by rw [hT26, va_up_ne _ _ (tne t13 t16 (by decide))]; exact t13) rfl)⟩
    · exact ⟨(by rw [e22]; exact (show (0 : Int) ≤ 0 ∧ (0 : Int) ≤ 0 from by omega)), Or.inl rfl⟩
    · exact ⟨(by rw [e23]; exact (show (0 : Int) ≤ 0 ∧ (0 : Int) ≤ 1 from by omega)), Or.inl rfl⟩
    · exact ⟨(by rw [e24]; exact (show (0 : Int) ≤ 0 ∧ (0 : Int) ≤ 40000 from by omega)), Or.inl rfl⟩
  have hM := hM.tag (t := 14) t16 (by decide) (by decide) rfl (by decide) hT26 hty27 (XI.tag0 hM.2.2.2.2.2.2.1 hM.2.2.2.2.2.2.2 t16 (by decide) hT26 (fun h h2 => by omega) (fun h => by omega) (fun h => by omega) (fun h => by omega) (fun h => by omega))
  replace hF : Fr mo_J5_init_d00df [a_this] T N I J R T25 N9 I20 J R17 := hF.tag hT26 (fun _ => List.mem_singleton.mpr rfl)
  have t28 : T25 a_this = 14 := by rw [hT26, va_up_self]
  refine g_vret B hM dJ5_init_d00df_38 ⟨by show 0 + 1 ≤ 1; omega, by show 0 + a_c.toNat ≤ 16; omega⟩ ?_
  rw [← hPST]
  exact ⟨rfl, rfl, hF, t28, by first | omega | assumption | exact trivial, by first | omega | assumption | exact trivial, by first | omega | assumption | exact trivial⟩

def mo_J4_init_da8c8 : List Nat := []
set_option maxHeartbeats 1000000 in
set_option maxRecDepth 20000 in
theorem k_J4_init_da8c8 (l : Launch) (D : va_G) (dA : Nat → ClassId) (eA : Nat) (L : List Nat) (T N : Nat → Nat) (I : Nat → Nat → Int) (J : Nat → Nat → Int64) (R : Nat → Nat → Nat) (a_this : Nat) (t_this : T a_this = 42) (z_this : ∀ k, I a_this k = 0 ∧ J a_this k = 0 ∧ R a_this k = 0) : GC l yJ4_init_da8c8 cJ4_init_da8c8 1 none ({ frames := 2, cells := 1, slots := 16, locals := 51 }) D dA eA L T N I J R [.ref a_this] 1 16 (gV (fun L' T' N' I' J' R' dz dl => J' = J ∧ Fr mo_J4_init_da8c8 [a_this] T N I J R T' N' I' J' R' ∧ T' a_this = 14 ∧ (dz ≤ 1 ∧ dl ≤ 16 ∧ I' a_this 3 = 0))) := by
  generalize hPST : (gV (fun L' T' N' I' J' R' dz dl => J' = J ∧ Fr mo_J4_init_da8c8 [a_this] T N I J R T' N' I' J' R' ∧ T' a_this = 14 ∧ (dz ≤ 1 ∧ dl ≤ 16 ∧ I' a_this 3 = 0))) = PST
  refine g_enter (own := RJ4) (by decide) rfl (Nat.le_of_ble_eq_true rfl) (fun p e s m args below meth c ls hm B hX hM hl => ?_)
  have hC0 := hM.2.2.2.2.2.2.1
  have hW0 := hM.2.2.2
  have hF : Fr mo_J4_init_da8c8 [a_this] T N I J R T N I J R := Fr.rf
  have hA : ∀ q, s.heap.size ≤ q → cF dA L T N I J R s.heap.size q := fun q h => Or.inr h
  have hl : lv_has ls 1 [(0, .ref a_this)] := hl
  have e1 : R a_this 0 = 0 := (z_this 0).2.2
  have e2 : I a_this 1 = 0 := (z_this 1).1
  have e3 : I a_this 2 = 0 := (z_this 2).1
  have e4 : I a_this 3 = 0 := (z_this 3).1
  refine lv_aload_n B.1 B.2.1 dJ4_init_da8c8_0 rfl (lv_at hl 0 rfl) ?_
  refine q_bip B dJ4_init_da8c8_1 (by decide) ?_
  have hv5 : ((-2147483648 : Int) ≤ 16 ∧ (16 : Int) ≤ 2147483647) ∧ ((16 : Int) = 16) := by first | omega | exact ⟨by first | omega | assumption | exact trivial, by first | omega | assumption | exact trivial⟩
  refine g_callv hM hA (c_runI (n := 1) (as := [.int (II 16)]) (rest := []) B hX hA hM hl.1 (k_J5_init_d00df l D dA eA L T N I J R a_this t_this (16) hv5.1 z_this hv5.2 _ _) ml_J4_1 nm_J5_init_d00df ⟨rfl, rfl⟩ ⟨Nat.le_of_ble_eq_true rfl, Nat.le_of_ble_eq_true rfl⟩ dJ4_init_da8c8_3 rfl rfl (Nat.le_of_ble_eq_true rfl) ⟨by show 0 + 1 ≤ 1; omega, by show 0 + 16 ≤ 16; omega⟩) (fun L8 T9 N10 I11 J12 R13 dz14 dl15 H locs hp6 hMn => ?_)
  obtain ⟨yJ12, hFc16, hp6a⟩ := hp6
  obtain rfl := yJ12.symm
  replace hF : Fr mo_J4_init_da8c8 [a_this] T N I J R T9 N10 I11 J R13 := hF.trans hFc16 (by decide) (e2x (fun _ => List.mem_singleton.mpr rfl))
  have hM := hMn
  clear hMn
  obtain ⟨t17, hp6a⟩ := hp6a
  replace hp6a : dz14 ≤ 1 ∧ dl15 ≤ 16 ∧ I11 a_this 3 = 0 := hp6a
  obtain ⟨hp6a_0, hp6a_1, hp6a_2⟩ := hp6a
  refine g_vret B hM dJ4_init_da8c8_6 ⟨by show 0 + dz14 ≤ 1; omega, by show 0 + dl15 ≤ 16; omega⟩ ?_
  rw [← hPST]
  exact ⟨rfl, rfl, hF, t17, by first | omega | assumption | exact trivial, by first | omega | assumption | exact trivial, by first | omega | assumption | exact trivial⟩
