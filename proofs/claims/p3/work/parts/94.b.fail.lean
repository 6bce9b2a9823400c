def mo_X0_fail : List Nat := [261, 262, 512, 513, 514, 1632]
set_option maxHeartbeats 1000000 in
set_option maxRecDepth 20000 in
theorem k_X0_fail (l : Launch) (D : va_G) (dA : Nat → ClassId) (eA : Nat) (L : List Nat) (T N : Nat → Nat) (I : Nat → Nat → Int) (J : Nat → Nat → Int64) (R : Nat → Nat → Nat) (a_this : Nat) (t_this : T a_this = 6) (a_r : Nat) (t_r : T a_r = 8) (a_c : Int) (i_c : (-2147483648 : Int) ≤ a_c ∧ a_c ≤ 2147483647) (g_ru : Nat) (g_f : Nat) (g_i : Int) (p_0 : R a_this 0 = g_ru + 1) (p_1 : T g_ru = 15) (p_2 : R a_this 1 = g_f + 1) (p_3 : T g_f = 16) (p_4 : FLq I R g_ru g_f) (p_5 : 0 ≤ g_i) (p_6 : g_i < I g_ru 2) (p_7 : R (R g_ru 1 - 1) g_i.toNat = a_r + 1) (p_8 : I a_r 5 ≠ 2) : GC l yX0_fail cX0_fail 3 none ({ frames := 7, cells := 1, slots := 24, locals := 241 }) D dA eA L T N I J R [.ref a_this, .ref a_r, .int (II a_c)] 1 24 (gV (fun L' T' N' I' J' R' dz dl => J' = J ∧ Fr mo_X0_fail [] T N I J R T' N' I' J' R' ∧ FLq I' R' g_ru g_f ∧ I' a_r 5 = 2 ∧ I' g_f 2 = I g_f 2 + 1 ∧ dz ≤ 1 ∧ dl ≤ 24)) := by
  generalize hPST : (gV (fun L' T' N' I' J' R' dz dl => J' = J ∧ Fr mo_X0_fail [] T N I J R T' N' I' J' R' ∧ FLq I' R' g_ru g_f ∧ I' a_r 5 = 2 ∧ I' g_f 2 = I g_f 2 + 1 ∧ dz ≤ 1 ∧ dl ≤ 24)) = PST
  refine g_enter (own := RX0) (by decide) rfl (Nat.le_of_ble_eq_true rfl) (fun p e s m args below meth c ls hm B hX hM hl => ?_)
  have hC0 := hM.2.2.2.2.2.2.1
  have hW0 := hM.2.2.2
  have hF : Fr mo_X0_fail [] T N I J R T N I J R := Fr.rf
  have hA : ∀ q, s.heap.size ≤ q → cF dA L T N I J R s.heap.size q := fun q h => Or.inr h
  have hl : lv_has ls 3 [(0, .ref a_this), (1, .ref a_r), (2, .int (II a_c))] := hl
  obtain ⟨x1, e2⟩ : ∃ v, I g_ru 2 = v := ⟨_, rfl⟩
  have r3 : (0 : Int) ≤ x1 ∧ x1 ≤ 16 := by rw [← e2]; exact g15_2 hM.2.2.2.2.2.2.1 p_1
  obtain ⟨x4, e5⟩ : ∃ v, I g_f 2 = v := ⟨_, rfl⟩
  have r6 : (0 : Int) ≤ x4 ∧ x4 ≤ 16 := by rw [← e5]; exact g16_2 hM.2.2.2.2.2.2.1 p_3
  have hlt := p_4.lt p_5 p_6 p_7 p_8
  refine lv_aload_n B.1 B.2.1 dX0_fail_0 rfl (lv_at hl 1 rfl) ?_
  refine q_con B dX0_fail_1 ?_
  refine c_puti (k := 5) pk_X7 B hM t_r kd8 rfl (by decide) fl_X0_82 (Or.inl rfl) dX0_fail_2 rfl rfl rfl (show (-2147483648 : Int) ≤ 2 from by omega) (show 2 ≤ (2147483647 : Int) from by omega) (fun I7 H locs hu8 hM => ?_)
  obtain ⟨x9, e10⟩ : ∃ v, I a_r 5 = v := ⟨_, rfl⟩
  have hFt := hF
  have e11 : I7 a_r 5 = 2 := w2_at hu8
  replace hF : Fr mo_X0_fail [] T N I J R T N I7 J R := hF.wi hu8 (fun _ _ => by rw [t_r]; rfl)
  have hfc : fcn I R g_ru (I g_ru 2).toNat + 1 ≤ fcn I7 R g_ru (I g_ru 2).toNat := fcn_gt hu8 (by omega) p_7 p_8
  clear hFt
  refine lv_aload_n B.1 B.2.1 dX0_fail_5 rfl (lv_at hl 1 rfl) ?_
  refine lv_iload_n B.1 B.2.1 dX0_fail_6 rfl (lv_at hl 2 rfl) ?_
  refine c_puti (k := 6) pk_X7 B hM t_r kd8 rfl (by decide) fl_X0_104 (Or.inl rfl) dX0_fail_7 rfl rfl rfl (show (-2147483648 : Int) ≤ a_c from by omega) (show a_c ≤ (2147483647 : Int) from by omega) (fun I12 H locs hu13 hM => ?_)
  have e14 : I7 g_ru 2 = x1 := (hF.i p_1 (by decide) nm0 rfl).trans e2
  have e15 : I7 g_f 2 = x4 := (w2_ne hu8 (Or.inl (tne p_3 t_r (by decide)))).trans e5
  have hFt := hF
  have e16 : I12 a_r 6 = a_c := w2_at hu13
  replace hF : Fr mo_X0_fail [] T N I J R T N I12 J R := hF.wi hu13 (fun _ _ => by rw [t_r]; rfl)
  replace hfc : fcn I R g_ru (I g_ru 2).toNat + 1 ≤ fcn I12 R g_ru (I g_ru 2).toNat := by rw [fcn_ne hu13 (by decide)]; exact hfc
  clear hFt
  refine lv_aload_n B.1 B.2.1 dX0_fail_10 rfl (lv_at hl 0 rfl) ?_
  refine c_getn (k := 1) pk_X0 B hM t_this kd6 rfl (by decide) fl_X0_18 dX0_fail_11 p_2 ?_
  refine lv_aload_n B.1 B.2.1 dX0_fail_14 rfl (lv_at hl 1 rfl) ?_
  have e17 : I12 g_ru 2 = x1 := (hF.i p_1 (by decide) nm0 rfl).trans e2
  have e18 : I12 g_f 2 = x4 := (w2_ne hu13 (Or.inl (tne p_3 t_r (by decide)))).trans e15
  have e19 : I12 a_r 5 = 2 := (w2_ne hu13 (Or.inr (by decide))).trans e11
  have hFt := hF
  have hMt := hM
  obtain ⟨x20, e21⟩ : ∃ v, I a_r 0 = v := ⟨_, rfl⟩
  have e22 : I12 a_r 0 = x20 := (hF.i t_r (by decide) nm0 rfl).trans e21
  have hv23 : (15 ≤ 16) ∧ (16 ≤ 23) ∧ (I12 g_f 2 < 16) ∧ (16 = 18 → I12 a_r 0 ≤ I12 g_f 2) := by first | omega | exact ⟨by first | omega | assumption | exact trivial, by first | omega | assumption | exact trivial, by first | omega | assumption | exact trivial, by first | omega | assumption | exact trivial⟩
  refine g_calli hM hA (c_runV (n := 1) (as := [.ref a_r]) (rest := []) B hX hA hM hl.1 p_3 kd16 rfl (k_Jx4a65c_add_9ea2d l D dA eA L T N I12 J R g_f p_3 a_r t_r hv23.1 hv23.2.1 hv23.2.2.1 hv23.2.2.2 _ _) ml_X0_107 nm_Jx4a65c_add_9ea2d ⟨rfl, rfl⟩ ⟨Nat.le_of_ble_eq_true rfl, Nat.le_of_ble_eq_true rfl⟩ dX0_fail_15 rfl rfl (Nat.le_of_ble_eq_true rfl) ⟨by show 0 + 1 ≤ 1; omega, by show 0 + 24 ≤ 24; omega⟩) (fun x25 ix25 L26 T27 N28 I29 J30 R31 dz32 dl33 H locs hp24 hMn => ?_)
  obtain ⟨yJ30, hFc34, hp24a⟩ := hp24
  obtain rfl := yJ30.symm
  replace hF : Fr mo_X0_fail [] T N I J R T27 N28 I29 J R31 := hF.trans hFc34 (by decide) e20
  have hM := hMn
  clear hMn
  replace hp24a : (0 : Int) ≤ x25 ∧ x25 ≤ 1 ∧ (I29 g_f 2 = I12 g_f 2 + 1 ∧ R31 (R31 g_f 1 - 1) (I12 g_f 2).toNat = a_r + 1 ∧ (∀ i : Nat, (i : Int) < I12 g_f 2 → R31 (R31 g_f 1 - 1) i = R (R g_f 1 - 1) i) ∧ (∀ b, T b = 16 → b ≠ g_f → I29 b 2 = I12 b 2) ∧ dz32 ≤ 1 ∧ dl33 ≤ 24 ∧ dl33 + 3 * N (R g_f 1 - 1) ≤ 3 * N28 (R31 g_f 1 - 1) + 2) := hp24a
  obtain ⟨hp24a_0, hp24a_1, hp24a_2⟩ := hp24a
  obtain ⟨hp24a_2_0, hp24a_2_1, hp24a_2_2, hp24a_2_3, hp24a_2_4, hp24a_2_5, hp24a_2_6⟩ := hp24a_2
  have e35 : I29 g_ru 2 = x1 := (hF.i p_1 (by decide) nm0 rfl).trans e2
  replace hfc : fcn I R g_ru (I g_ru 2).toNat + 1 ≤ fcn I29 R31 g_ru (I g_ru 2).toNat := by rw [fcn_fr hMt.2.2.2.2.2.2.1 hMt.2.2.2.2.2.2.2 p_1 hFc34 (fun _ _ => nm0) (by decide) (by omega)]; exact hfc
  clear hFt hMt
  refine lv_pop B.1 B.2.1 dX0_fail_18 rfl ?_
  have e36 : I29 a_r 5 = 2 := (hFc34.i t_r (by decide) nm0 rfl).trans e19
  refine g_vret B hM dX0_fail_19 ⟨by show 0 + dz32 ≤ 1; omega, by show 0 + dl33 ≤ 24; omega⟩ ?_
  rw [← hPST]
  exact ⟨rfl, rfl, hF, by show I29 g_f 2 ≤ fcn I29 R31 g_ru (I29 g_ru 2).toNat; rw [show I29 g_ru 2 = I g_ru 2 from by omega]; have h9 : I g_f 2 ≤ fcn I R g_ru (I g_ru 2).toNat := p_4; omega, by first | omega | assumption | exact trivial, by first | omega | assumption | exact trivial, by first | omega | assumption | exact trivial, by first | omega | assumption | exact trivial⟩

def mo_X0_isReady : List Nat := [2368, 265, 261, 262, 512, 513, 514, 1632]
set_option maxHeartbeats 1000000 in
set_option maxRecDepth 20000 in
theorem k_X0_isReady (l : Launch) (D : va_G) (dA : Nat → ClassId) (eA : Nat) (L : List Nat) (T N : Nat → Nat) (I : Nat → Nat → Int) (J : Nat → Nat → Int64) (R : Nat → Nat → Nat) (a_this : Nat) (t_this : T a_this = 6) (a_r : Nat) (t_r : T a_r = 8) (g_ru : Nat) (g_f : Nat) (g_i : Int) (p_0 : R a_this 0 = g_ru + 1) (p_1 : T g_ru = 15) (p_2 : R a_this 1 = g_f + 1) (p_3 : T g_f = 16) (p_4 : FLq I R g_ru g_f) (p_5 : 0 ≤ g_i) (p_6 : g_i < I g_ru 2) (p_7 : R (R g_ru 1 - 1) g_i.toNat = a_r + 1) : GC l yX0_isReady cX0_isReady 3 (some .boolean) ({ frames := 8, cells := 1, slots := 24, locals := 263 }) D dA eA L T N I J R [.ref a_this, .ref a_r] 1 24 (gI (fun r L' T' N' I' J' R' dz dl => J' = J ∧ Fr mo_X0_isReady [] T N I J R T' N' I' J' R' ∧ (0 : Int) ≤ r ∧ r ≤ 1 ∧ (FLq I' R' g_ru g_f ∧ (r = 0 ∨ I' a_r 5 = 1) ∧ I g_f 2 ≤ I' g_f 2 ∧ (dz : Int) ≤ I' g_f 2 - I g_f 2 ∧ (dl : Int) ≤ 24 * (I' g_f 2 - I g_f 2)))) := by
  generalize hPST : (gI (fun r L' T' N' I' J' R' dz dl => J' = J ∧ Fr mo_X0_isReady [] T N I J R T' N' I' J' R' ∧ (0 : Int) ≤ r ∧ r ≤ 1 ∧ (FLq I' R' g_ru g_f ∧ (r = 0 ∨ I' a_r 5 = 1) ∧ I g_f 2 ≤ I' g_f 2 ∧ (dz : Int) ≤ I' g_f 2 - I g_f 2 ∧ (dl : Int) ≤ 24 * (I' g_f 2 - I g_f 2)))) = PST
  refine g_enter (own := RX0) (by decide) rfl (Nat.le_of_ble_eq_true rfl) (fun p e s m args below meth c ls hm B hX hM hl => ?_)
  have hC0 := hM.2.2.2.2.2.2.1
  have hW0 := hM.2.2.2
  have hF : Fr mo_X0_isReady [] T N I J R T N I J R := Fr.rf
  have hA : ∀ q, s.heap.size ≤ q → cF dA L T N I J R s.heap.size q := fun q h => Or.inr h
  have hl : lv_has ls 3 [(0, .ref a_this), (1, .ref a_r)] := hl
  obtain ⟨x1, e2⟩ : ∃ v, I g_ru 2 = v := ⟨_, rfl⟩
  have r3 : (0 : Int) ≤ x1 ∧ x1 ≤ 16 := by rw [← e2]; exact g15_2 hM.2.2.2.2.2.2.1 p_1
  obtain ⟨x4, e5⟩ : ∃ v, I g_f 2 = v := ⟨_, rfl⟩
  have r6 : (0 : Int) ≤ x4 ∧ x4 ≤ 16 := by rw [← e5]; exact g16_2 hM.2.2.2.2.2.2.1 p_3
  have hfl := p_4
  refine lv_aload_n B.1 B.2.1 dX0_isReady_0 rfl (lv_at hl 1 rfl) ?_
  obtain ⟨x7, e8⟩ : ∃ v, I a_r 5 = v := ⟨_, rfl⟩
  have r9 : (-2147483648 : Int) ≤ x7 ∧ x7 ≤ 2147483647 := by rw [← e8]; exact g8_5 hM.2.2.2.2.2.2.1 t_r
  refine c_geti (k := 5) pk_X7 B hM t_r kd8 rfl (by decide) fl_X0_82 dX0_isReady_1 e8 ?_
  refine q_ine (tgt := 46) B dX0_isReady_4 (by decide) (by unfold inr; omega) (fun c10 => ?_) (fun c10 => ?_)
  · refine lv_aload_n B.1 B.2.1 dX0_isReady_46 rfl (lv_at hl 1 rfl) ?_
    refine c_geti (k := 5) pk_X7 B hM t_r kd8 rfl (by decide) fl_X0_82 dX0_isReady_47 e8 ?_
    refine q_con B dX0_isReady_50 ?_
    refine q_cne (tgt := 58) B dX0_isReady_51 (by decide) (by unfold inr; omega) (by unfold inr; omega) (fun c11 => ?_) (fun c11 => ?_)
    · refine q_con B dX0_isReady_58 ?_
      refine g_zret B hM dX0_isReady_59 ⟨by show 0 ≤ 1; omega, by show 0 ≤ 24; omega⟩ (by omega) (by omega) ?_
      rw [← hPST]
      exact ⟨(0), rfl, by omega, rfl, hF, by omega, by omega, by exact hfl, by first | omega | assumption | exact trivial, by first | omega | assumption | exact trivial, by first | omega | assumption | exact trivial, by first | omega | assumption | exact trivial⟩
    · refine q_con B dX0_isReady_54 ?_
      refine lv_goto (tgt := 59) B.1 B.2.1 dX0_isReady_55 (by decide) ?_
      refine g_zret B hM dX0_isReady_59 ⟨by show 0 ≤ 1; omega, by show 0 ≤ 24; omega⟩ (by omega) (by omega) ?_
      rw [← hPST]
      exact ⟨(1), rfl, by omega, rfl, hF, by omega, by omega, by exact hfl, by first | omega | assumption | exact trivial, by first | omega | assumption | exact trivial, by first | omega | assumption | exact trivial, by first | omega | assumption | exact trivial⟩
  · refine lv_aload_n B.1 B.2.1 dX0_isReady_7 rfl (lv_at hl 1 rfl) ?_
    refine q_con B dX0_isReady_8 ?_
    refine q_con B dX0_isReady_9 ?_
    refine q_con B dX0_isReady_10 ?_
    refine q_con B dX0_isReady_11 ?_
    have hFt := hF
    have hMt := hM
    have hv12 : ((0 : Int) ≤ 1 ∧ (1 : Int) ≤ 1) ∧ ((-2147483648 : Int) ≤ 0 ∧ (0 : Int) ≤ 2147483647) ∧ ((-2147483648 : Int) ≤ 0 ∧ (0 : Int) ≤ 2147483647) ∧ ((-2147483648 : Int) ≤ 0 ∧ (0 : Int) ≤ 2147483647) := by first | omega | exact ⟨by first | omega | assumption | exact trivial, by first | omega | assumption | exact trivial, by first | omega | assumption | exact trivial, by first | omega | assumption | exact trivial⟩
    refine z_calli hM hA (c_runV (n := 4) (as := [.int (II 1), .int (II 0), .int (II 0), .int (II 0)]) (rest := []) B hX hA hM hl.1 t_r kd8 rfl (k_X7_work l D dA eA L T N I J R a_r t_r (1) hv12.1 (0) hv12.2.1 (0) hv12.2.2.1 (0) hv12.2.2.2 _ _) ml_X0_85 nm_X7_work ⟨rfl, rfl⟩ ⟨Nat.le_of_ble_eq_true rfl, Nat.le_of_ble_eq_true rfl⟩ dX0_isReady_12 rfl rfl (Nat.le_of_ble_eq_true rfl) ⟨by show 0 + 0 ≤ 1; omega, by show 0 + 0 ≤ 24; omega⟩) (fun x14 ix14 L15 T16 N17 I18 J19 R20 dz21 dl22 H locs hp13 hMn => ?_)
    obtain ⟨yL15, yT16, yN17, yJ19, yR20, hFc23, hp13a⟩ := hp13
    obtain rfl := yL15.symm; obtain rfl := yT16.symm; obtain rfl := yN17.symm; obtain rfl := yJ19.symm; obtain rfl := yR20.symm
    replace hF : Fr mo_X0_isReady [] T N I J R T N I18 J R := hF.trans hFc23 (by decide) e20
    have hM := hMn
    clear hMn
    replace hp13a : (0 : Int) ≤ x14 ∧ x14 ≤ 1 ∧ (True) := hp13a
    obtain ⟨hp13a_0, hp13a_1, hp13a_2⟩ := hp13a
    have e24 : I18 g_f 2 = x4 := (hFc23.i p_3 (by decide) nm0 rfl).trans e5
    replace hfl : FLq I18 R g_ru g_f := FLq.fr hfl hMt.2.2.2.2.2.2.1 hMt.2.2.2.2.2.2.2 p_1 p_3 hFc23 (fun _ _ => nm0) (by decide)
    clear hFt hMt
    refine lv_istore_n (lv' := [(2, .int (II x14)), (0, .ref a_this), (1, .ref a_r)]) B.1 B.2.1 dX0_isReady_15 rfl hl (by decide) rfl (fun ls hl => ?_)
    refine lv_aload_n B.1 B.2.1 dX0_isReady_16 rfl (lv_at hl 2 rfl) ?_
    refine q_con B dX0_isReady_17 ?_
    refine c_puti (k := 5) pk_X7 B hM t_r kd8 rfl (by decide) fl_X0_82 (Or.inl rfl) dX0_isReady_18 rfl rfl rfl (show (-2147483648 : Int) ≤ 1 from by omega) (show 1 ≤ (2147483647 : Int) from by omega) (fun I25 H locs hu26 hM => ?_)
    have e27 : I18 g_ru 2 = x1 := (hF.i p_1 (by decide) nm0 rfl).trans e2
    have e28 : I18 a_r 5 = x7 := (hFc23.i t_r (by decide) nm0 rfl).trans e8
    have hFt := hF
    have e29 : I25 a_r 5 = 1 := w2_at hu26
    replace hF : Fr mo_X0_isReady [] T N I J R T N I25 J R := hF.wi hu26 (fun _ _ => by rw [t_r]; rfl)
    have e30 : I25 g_ru 2 = x1 := (hF.i p_1 (by decide) nm0 rfl).trans e2
    have e31 : I25 g_f 2 = x4 := (w2_ne hu26 (Or.inl (tne p_3 t_r (by decide)))).trans e24
    replace hfl : FLq I25 R g_ru g_f := FLq.ws hfl hu26 (by omega) (by omega) (by omega)
    clear hFt
    have JJ32 : ∀  (H : Heap) (locs : List Loc) (ls : Array Slot), (CWd D dA eA (cF dA L T N I J R s.heap.size) s.heap L T N I25 J R H locs) → lv_has ls 3 [(2, .int (II x14)), (0, .ref a_this), (1, .ref a_r)] → W p l e ({ frames := 8, cells := 1, slots := 24, locals := 263 }) s m args below meth c H locs 0 0 (MQ below (gQ D dA eA (cF dA L T N I J R s.heap.size) s.heap.size (hs s.heap) PST) args s 1 24 (cF dA L T N I J R s.heap.size)) (F0 m 32 ls []) := by
      intro  H locs ls hM hl 
      refine lv_aload_n B.1 B.2.1 dX0_isReady_32 rfl (lv_at hl 1 rfl) ?_
      refine lv_aload_n B.1 B.2.1 dX0_isReady_33 rfl (lv_at hl 2 rfl) ?_
      refine lv_iload_n B.1 B.2.1 dX0_isReady_34 rfl (lv_at hl 0 rfl) ?_
      have JJ43 : ∀ (s43_0 : Int) (H : Heap) (locs : List Loc) (ls : Array Slot), (CWd D dA eA (cF dA L T N I J R s.heap.size) s.heap L T N I25 J R H locs) → lv_has ls 3 [(2, .int (II x14)), (0, .ref a_this), (1, .ref a_r)] → ((-2147483648 : Int) ≤ s43_0 ∧ s43_0 ≤ 2147483647) → W p l e ({ frames := 8, cells := 1, slots := 24, locals := 263 }) s m args below meth c H locs 0 0 (MQ below (gQ D dA eA (cF dA L T N I J R s.heap.size) s.heap.size (hs s.heap) PST) args s 1 24 (cF dA L T N I J R s.heap.size)) (F0 m 43 ls [.int (II s43_0), .ref a_r, .ref a_this]) := by
        intro s43_0 H locs ls hM hl hJJ43_0
        have hFt := hF
        have hMt := hM
        obtain ⟨v32, e33⟩ : ∃ v, R g_ru 1 = v := ⟨_, rfl⟩
        have hv34 : ((-2147483648 : Int) ≤ s43_0 ∧ (s43_0 : Int) ≤ 2147483647) ∧ (FLq I25 R g_ru g_f) ∧ (0 ≤ g_i) ∧ (g_i < I25 g_ru 2) ∧ (R (R g_ru 1 - 1) g_i.toNat = a_r + 1) ∧ (I25 a_r 5 ≠ 2) := by first | omega | exact ⟨by first | omega | assumption | exact trivial, by first | omega | assumption | exact trivial, by first | omega | assumption | exact trivial, by first | omega | assumption | exact trivial, by first | omega | assumption | exact trivial, by first | omega | assumption | exact trivial⟩
        refine g_callv hM hA (c_runV (n := 2) (as := [.ref a_r, .int (II s43_0)]) (rest := []) B hX hA hM hl.1 t_this kd6 rfl (k_X0_fail l D dA eA L T N I25 J R a_this t_this a_r t_r s43_0 hv34.1 g_ru g_f g_i (show R a_this 0 = g_ru + 1 from p_0) (show T g_ru = 15 from p_1) (show R a_this 1 = g_f + 1 from p_2) (show T g_f = 16 from p_3) hv34.2.1 hv34.2.2.1 hv34.2.2.2.1 hv34.2.2.2.2.1 hv34.2.2.2.2.2 _ _) ml_X0_92 nm_X0_fail ⟨rfl, rfl⟩ ⟨Nat.le_of_ble_eq_true rfl, Nat.le_of_ble_eq_true rfl⟩ dX0_isReady_43 rfl rfl (Nat.le_of_ble_eq_true rfl) ⟨by show 0 + 1 ≤ 1; omega, by show 0 + 24 ≤ 24; omega⟩) (fun L37 T38 N39 I40 J41 R42 dz43 dl44 H locs hp35 hMn => ?_)
        obtain ⟨yJ41, hFc45, hp35a⟩ := hp35
        obtain rfl := yJ41.symm
        replace hF : Fr mo_X0_isReady [] T N I J R T38 N39 I40 J R42 := hF.trans hFc45 (by decide) e20
        have hM := hMn
        clear hMn
        replace hp35a : FLq I40 R42 g_ru g_f ∧ I40 a_r 5 = 2 ∧ I40 g_f 2 = I25 g_f 2 + 1 ∧ dz43 ≤ 1 ∧ dl44 ≤ 24 := hp35a
        obtain ⟨hp35a_0, hp35a_1, hp35a_2, hp35a_3, hp35a_4⟩ := hp35a
        have t46 : T38 g_f = 16 := hF.tt p_3 (by decide) nm0
        have r47 : (0 : Int) ≤ I25 g_f 2 + 1 ∧ I25 g_f 2 + 1 ≤ 16 := by rw [← hp35a_2]; exact g16_2 hM.2.2.2.2.2.2.1 t46
        replace hfl : FLq I40 R42 g_ru g_f := by assumption
        clear hFt hMt
        refine lv_aload_n B.1 B.2.1 dX0_isReady_46 rfl (lv_at hl 2 rfl) ?_
        have t48 : T38 a_r = 8 := hF.tt t_r (by decide) nm0
        refine c_geti (k := 5) pk_X7 B hM t48 kd8 rfl (by decide) fl_X0_82 dX0_isReady_47 hp35a_1 ?_
        refine q_con B dX0_isReady_50 ?_
        refine q_cne (tgt := 58) B dX0_isReady_51 (by decide) (by unfold inr; omega) (by unfold inr; omega) (fun c49 => ?_) (fun c49 => absurd c49 (by omega))
        refine q_con B dX0_isReady_58 ?_
        refine g_zret B hM dX0_isReady_59 ⟨by show 0 + dz43 ≤ 1; omega, by show 0 + dl44 ≤ 24; omega⟩ (by omega) (by omega) ?_
        rw [← hPST]
        exact ⟨(0), rfl, by omega, rfl, hF, by omega, by omega, by exact hfl, by first | omega | assumption | exact trivial, by first | omega | assumption | exact trivial, by first | omega | assumption | exact trivial, by first | omega | assumption | exact trivial⟩
      refine q_ieq (tgt := 42) B dX0_isReady_35 (by decide) (by unfold inr; omega) (fun c50 => ?_) (fun c50 => ?_)
      · refine q_con B dX0_isReady_42 ?_
        exact JJ43 1 _ _ ls hM (lv_sub hl [0, 1, 2] rfl) (by first | omega | assumption | exact trivial)
      · refine q_con B dX0_isReady_38 ?_
        refine lv_goto (tgt := 43) B.1 B.2.1 dX0_isReady_39 (by decide) ?_
        exact JJ43 2 _ _ ls hM (lv_sub hl [0, 1, 2] rfl) (by first | omega | assumption | exact trivial)
    refine lv_iload_n B.1 B.2.1 dX0_isReady_21 rfl (lv_at hl 0 rfl) ?_
    refine q_ieq (tgt := 32) B dX0_isReady_22 (by decide) (by unfold inr; omega) (fun c51 => ?_) (fun c51 => ?_)
    · exact JJ32  _ _ ls hM (lv_sub hl [0, 1, 2] rfl)
    · refine lv_aload_n B.1 B.2.1 dX0_isReady_25 rfl (lv_at hl 2 rfl) ?_
      obtain ⟨x52, e53⟩ : ∃ v, I25 a_r 9 = v := ⟨_, rfl⟩
      have r54 : (-2147483648 : Int) ≤ x52 ∧ x52 ≤ 2147483647 := by rw [← e53]; exact g8_9 hM.2.2.2.2.2.2.1 t_r
      refine c_geti (k := 9) pk_X7 B hM t_r kd8 rfl (by decide) fl_X0_89 dX0_isReady_26 e53 ?_
      refine q_ine (tgt := 46) B dX0_isReady_29 (by decide) (by unfold inr; omega) (fun c55 => ?_) (fun c55 => ?_)
      · refine lv_aload_n B.1 B.2.1 dX0_isReady_46 rfl (lv_at hl 2 rfl) ?_
        refine c_geti (k := 5) pk_X7 B hM t_r kd8 rfl (by decide) fl_X0_82 dX0_isReady_47 e29 ?_
        refine q_con B dX0_isReady_50 ?_
        refine q_cne (tgt := 58) B dX0_isReady_51 (by decide) (by unfold inr; omega) (by unfold inr; omega) (fun c56 => absurd c56 (by omega)) (fun c56 => ?_)
        refine q_con B dX0_isReady_54 ?_
        refine lv_goto (tgt := 59) B.1 B.2.1 dX0_isReady_55 (by decide) ?_
        refine g_zret B hM dX0_isReady_59 ⟨by show 0 ≤ 1; omega, by show 0 ≤ 24; omega⟩ (by omega) (by omega) ?_
        rw [← hPST]
        exact ⟨(1), rfl, by omega, rfl, hF, by omega, by omega, by exact hfl, by first | omega | assumption | exact trivial, by first | omega | assumption | exact trivial, by first | omega | assumption | exact trivial, by first | omega | assumption | exact trivial⟩
      · exact JJ32  _ _ ls hM (lv_sub hl [0, 1, 2] rfl)

def mo_X0_judge : List Nat := [2368, 265, 261, 262, 512, 513, 514, 1632, 263]
set_option maxHeartbeats 1000000 in
set_option maxRecDepth 20000 in
theorem k_X0_judge (l : Launch) (D : va_G) (dA : Nat → ClassId) (eA : Nat) (L : List Nat) (T N : Nat → Nat) (I : Nat → Nat → Int) (J : Nat → Nat → Int64) (R : Nat → Nat → Nat) (a_this : Nat) (t_this : T a_this = 6) (a_r : Nat) (t_r : T a_r = 8) (a_v : Int) (i_v : (-2147483648 : Int) ≤ a_v ∧ a_v ≤ 2147483647) (a_use : Nat) (t_use : T a_use = 9) (g_ru : Nat) (g_f : Nat) (g_i : Int) (p_0 : R a_this 0 = g_ru + 1) (p_1 : T g_ru = 15) (p_2 : R a_this 1 = g_f + 1) (p_3 : T g_f = 16) (p_4 : FLq I R g_ru g_f) (p_5 : 0 ≤ g_i) (p_6 : g_i < I g_ru 2) (p_7 : R (R g_ru 1 - 1) g_i.toNat = a_r + 1) (p_8 : I a_r 5 = 1) : GC l yX0_judge cX0_judge 5 (some .boolean) ({ frames := 8, cells := 1, slots := 24, locals := 263 }) D dA eA L T N I J R [.ref a_this, .ref a_r, .int (II a_v), .ref a_use] 1 24 (gI (fun r L' T' N' I' J' R' dz dl => J' = J ∧ Fr mo_X0_judge [] T N I J R T' N' I' J' R' ∧ (0 : Int) ≤ r ∧ r ≤ 1 ∧ (FLq I' R' g_ru g_f ∧ I g_f 2 ≤ I' g_f 2 ∧ (dz : Int) ≤ I' g_f 2 - I g_f 2 ∧ (dl : Int) ≤ 24 * (I' g_f 2 - I g_f 2)))) := by
  generalize hPST : (gI (fun r L' T' N' I' J' R' dz dl => J' = J ∧ Fr mo_X0_judge [] T N I J R T' N' I' J' R' ∧ (0 : Int) ≤ r ∧ r ≤ 1 ∧ (FLq I' R' g_ru g_f ∧ I g_f 2 ≤ I' g_f 2 ∧ (dz : Int) ≤ I' g_f 2 - I g_f 2 ∧ (dl : Int) ≤ 24 * (I' g_f 2 - I g_f 2)))) = PST
  refine g_enter (own := RX0) (by decide) rfl (Nat.le_of_ble_eq_true rfl) (fun p e s m args below meth c ls hm B hX hM hl => ?_)
  have hC0 := hM.2.2.2.2.2.2.1
  have hW0 := hM.2.2.2
  have hF : Fr mo_X0_judge [] T N I J R T N I J R := Fr.rf
  have hA : ∀ q, s.heap.size ≤ q → cF dA L T N I J R s.heap.size q := fun q h => Or.inr h
  have hl : lv_has ls 5 [(0, .ref a_this), (1, .ref a_r), (2, .int (II a_v)), (3, .ref a_use)] := hl
  obtain ⟨x1, e2⟩ : ∃ v, I g_ru 2 = v := ⟨_, rfl⟩
  have r3 : (0 : Int) ≤ x1 ∧ x1 ≤ 16 := by rw [← e2]; exact g15_2 hM.2.2.2.2.2.2.1 p_1
  obtain ⟨x4, e5⟩ : ∃ v, I g_f 2 = v := ⟨_, rfl⟩
  have r6 : (0 : Int) ≤ x4 ∧ x4 ≤ 16 := by rw [← e5]; exact g16_2 hM.2.2.2.2.2.2.1 p_3
  have hfl := p_4
  refine lv_aload_n B.1 B.2.1 dX0_judge_0 rfl (lv_at hl 1 rfl) ?_
  refine q_con B dX0_judge_1 ?_
  refine lv_iload_n B.1 B.2.1 dX0_judge_2 rfl (lv_at hl 2 rfl) ?_
  refine lv_aload_n B.1 B.2.1 dX0_judge_3 rfl (lv_at hl 3 rfl) ?_
  refine q_con B dX0_judge_4 ?_
  have hFt := hF
  have hMt := hM
  refine p_calli (c_runV (n := 1) (as := [.int (II 0)]) (rest := [.int (II a_v), .int (II 0), .ref a_r]) B hX hA hM hl.1 t_use kd9 rfl (k_X10_arg l D dA eA L T N I J R a_use t_use (0) (by first | omega | assumption | exact trivial) _ _) ml_X0_96 nm_X10_arg ⟨rfl, rfl⟩ ⟨Nat.le_of_ble_eq_true rfl, Nat.le_of_ble_eq_true rfl⟩ dX0_judge_5 rfl rfl (Nat.le_of_ble_eq_true rfl) ⟨by show 0 + 0 ≤ 1; omega, by show 0 + 0 ≤ 24; omega⟩) (fun x8 ix8 hp7 => ?_)
  have hp7a := hp7
  clear hp7a
  clear hFt hMt
  refine lv_aload_n B.1 B.2.1 dX0_judge_8 rfl (lv_at hl 3 rfl) ?_
  refine q_con B dX0_judge_9 ?_
  have hFt := hF
  have hMt := hM
  refine p_calli (c_runV (n := 1) (as := [.int (II 1)]) (rest := [.int (II x8), .int (II a_v), .int (II 0), .ref a_r]) B hX hA hM hl.1 t_use kd9 rfl (k_X10_arg l D dA eA L T N I J R a_use t_use (1) (by first | omega | assumption | exact trivial) _ _) ml_X0_96 nm_X10_arg ⟨rfl, rfl⟩ ⟨Nat.le_of_ble_eq_true rfl, Nat.le_of_ble_eq_true rfl⟩ dX0_judge_10 rfl rfl (Nat.le_of_ble_eq_true rfl) ⟨by show 0 + 0 ≤ 1; omega, by show 0 + 0 ≤ 24; omega⟩) (fun x10 ix10 hp9 => ?_)
  have hp9a := hp9
  clear hp9a
  clear hFt hMt
  have hFt := hF
  have hMt := hM
  have hv11 : ((0 : Int) ≤ 0 ∧ (0 : Int) ≤ 1) ∧ ((-2147483648 : Int) ≤ a_v ∧ (a_v : Int) ≤ 2147483647) ∧ ((-2147483648 : Int) ≤ x8 ∧ (x8 : Int) ≤ 2147483647) ∧ ((-2147483648 : Int) ≤ x10 ∧ (x10 : Int) ≤ 2147483647) := by first | omega | exact ⟨by first | omega | assumption | exact trivial, by first | omega | assumption | exact trivial, by first | omega | assumption | exact trivial, by first | omega | assumption | exact trivial⟩
  refine z_calli hM hA (c_runV (n := 4) (as := [.int (II 0), .int (II a_v), .int (II x8), .int (II x10)]) (rest := []) B hX hA hM hl.1 t_r kd8 rfl (k_X7_work l D dA eA L T N I J R a_r t_r (0) hv11.1 a_v hv11.2.1 x8 hv11.2.2.1 x10 hv11.2.2.2 _ _) ml_X0_85 nm_X7_work ⟨rfl, rfl⟩ ⟨Nat.le_of_ble_eq_true rfl, Nat.le_of_ble_eq_true rfl⟩ dX0_judge_13 rfl rfl (Nat.le_of_ble_eq_true rfl) ⟨by show 0 + 0 ≤ 1; omega, by show 0 + 0 ≤ 24; omega⟩) (fun x13 ix13 L14 T15 N16 I17 J18 R19 dz20 dl21 H locs hp12 hMn => ?_)
  obtain ⟨yL14, yT15, yN16, yJ18, yR19, hFc22, hp12a⟩ := hp12
  obtain rfl := yL14.symm; obtain rfl := yT15.symm; obtain rfl := yN16.symm; obtain rfl := yJ18.symm; obtain rfl := yR19.symm
  replace hF : Fr mo_X0_judge [] T N I J R T N I17 J R := hF.trans hFc22 (by decide) e20
  have hM := hMn
  clear hMn
  replace hp12a : (0 : Int) ≤ x13 ∧ x13 ≤ 1 ∧ (True) := hp12a
  obtain ⟨hp12a_0, hp12a_1, hp12a_2⟩ := hp12a
  have e23 : I17 g_f 2 = x4 := (hFc22.i p_3 (by decide) nm0 rfl).trans e5
  replace hfl : FLq I17 R g_ru g_f := FLq.fr hfl hMt.2.2.2.2.2.2.1 hMt.2.2.2.2.2.2.2 p_1 p_3 hFc22 (fun _ _ => nm0) (by decide)
  clear hFt hMt
  refine lv_istore (lv' := [(4, .int (II x13)), (0, .ref a_this), (1, .ref a_r), (2, .int (II a_v)), (3, .ref a_use)]) B.1 B.2.1 dX0_judge_16 hl (by decide) rfl (fun ls hl => ?_)
  refine lv_iload B.1 B.2.1 dX0_judge_18 (lv_at hl 0 rfl) ?_
  refine q_ine (tgt := 48) B dX0_judge_20 (by decide) (by unfold inr; omega) (fun c24 => ?_) (fun c24 => ?_)
  · refine lv_iload B.1 B.2.1 dX0_judge_48 (lv_at hl 0 rfl) ?_
    refine g_zret B hM dX0_judge_50 ⟨by show 0 ≤ 1; omega, by show 0 ≤ 24; omega⟩ (by omega) (by omega) ?_
    rw [← hPST]
    exact ⟨x13, rfl, by omega, rfl, hF, by omega, by omega, by exact hfl, by first | omega | assumption | exact trivial, by first | omega | assumption | exact trivial, by first | omega | assumption | exact trivial⟩
  · refine lv_aload_n B.1 B.2.1 dX0_judge_23 rfl (lv_at hl 2 rfl) ?_
    refine lv_dup B.1 B.2.1 dX0_judge_24 rfl ?_
    obtain ⟨x25, e26⟩ : ∃ v, I17 a_r 7 = v := ⟨_, rfl⟩
    have r27 : (-2147483648 : Int) ≤ x25 ∧ x25 ≤ 2147483647 := by rw [← e26]; exact g8_7 hM.2.2.2.2.2.2.1 t_r
    refine c_geti (k := 7) pk_X7 B hM t_r kd8 rfl (by decide) fl_X0_101 dX0_judge_25 e26 ?_
    refine q_con B dX0_judge_28 ?_
    refine q_add B dX0_judge_29 ?_
    refine q_wrap (fun x28 ix28 => ?_)
    refine c_puti (k := 7) pk_X7 B hM t_r kd8 rfl (by decide) fl_X0_101 (Or.inl rfl) dX0_judge_30 rfl rfl rfl (show (-2147483648 : Int) ≤ x28 from by omega) (show x28 ≤ (2147483647 : Int) from by omega) (fun I29 H locs hu30 hM => ?_)
    have e31 : I17 g_ru 2 = x1 := (hF.i p_1 (by decide) nm0 rfl).trans e2
    have e32 : I17 a_r 5 = 1 := (hFc22.i t_r (by decide) nm0 rfl).trans p_8
    have hFt := hF
    have e33 : I29 a_r 7 = x28 := w2_at hu30
    replace hF : Fr mo_X0_judge [] T N I J R T N I29 J R := hF.wi hu30 (fun _ _ => by rw [t_r]; rfl)
    replace hfl : FLq I29 R g_ru g_f := FLq.wo hfl hu30 (by decide) (by decide)
    clear hFt
    refine lv_aload_n B.1 B.2.1 dX0_judge_33 rfl (lv_at hl 2 rfl) ?_
    have r34 : (-2147483648 : Int) ≤ x28 ∧ x28 ≤ 2147483647 := by rw [← e33]; exact g8_7 hM.2.2.2.2.2.2.1 t_r
    refine c_geti (k := 7) pk_X7 B hM t_r kd8 rfl (by decide) fl_X0_101 dX0_judge_34 e33 ?_
    refine q_bip B dX0_judge_37 (by decide) ?_
    refine q_clt (tgt := 48) B dX0_judge_39 (by decide) (by unfold inr; omega) (by unfold inr; omega) (fun c35 => ?_) (fun c35 => ?_)
    · refine lv_iload B.1 B.2.1 dX0_judge_48 (lv_at hl 0 rfl) ?_
      have e36 : I29 g_f 2 = x4 := (w2_ne hu30 (Or.inl (tne p_3 t_r (by decide)))).trans e23
      refine g_zret B hM dX0_judge_50 ⟨by show 0 ≤ 1; omega, by show 0 ≤ 24; omega⟩ (by omega) (by omega) ?_
      rw [← hPST]
      exact ⟨x13, rfl, by omega, rfl, hF, by omega, by omega, by exact hfl, by first | omega | assumption | exact trivial, by first | omega | assumption | exact trivial, by first | omega | assumption | exact trivial⟩
    · refine lv_aload_n B.1 B.2.1 dX0_judge_42 rfl (lv_at hl 1 rfl) ?_
      refine lv_aload_n B.1 B.2.1 dX0_judge_43 rfl (lv_at hl 2 rfl) ?_
      refine q_con B dX0_judge_44 ?_
      have e37 : I29 g_ru 2 = x1 := (hF.i p_1 (by decide) nm0 rfl).trans e2
      have e38 : I29 g_f 2 = x4 := (w2_ne hu30 (Or.inl (tne p_3 t_r (by decide)))).trans e23
      have e39 : I29 a_r 5 = 1 := (w2_ne hu30 (Or.inr (by decide))).trans e32
      have hFt := hF
      have hMt := hM
      obtain ⟨v40, e41⟩ : ∃ v, R g_ru 1 = v := ⟨_, rfl⟩
      have hv42 : ((-2147483648 : Int) ≤ 3 ∧ (3 : Int) ≤ 2147483647) ∧ (FLq I29 R g_ru g_f) ∧ (0 ≤ g_i) ∧ (g_i < I29 g_ru 2) ∧ (R (R g_ru 1 - 1) g_i.toNat = a_r + 1) ∧ (I29 a_r 5 ≠ 2) := by first | omega | exact ⟨by first | omega | assumption | exact trivial, by first | omega | assumption | exact trivial, by first | omega | assumption | exact trivial, by first | omega | assumption | exact trivial, by first | omega | assumption | exact trivial, by first | omega | assumption | exact trivial⟩
      refine g_callv hM hA (c_runV (n := 2) (as := [.ref a_r, .int (II 3)]) (rest := []) B hX hA hM hl.1 t_this kd6 rfl (k_X0_fail l D dA eA L T N I29 J R a_this t_this a_r t_r (3) hv42.1 g_ru g_f g_i (show R a_this 0 = g_ru + 1 from p_0) (show T g_ru = 15 from p_1) (show R a_this 1 = g_f + 1 from p_2) (show T g_f = 16 from p_3) hv42.2.1 hv42.2.2.1 hv42.2.2.2.1 hv42.2.2.2.2.1 hv42.2.2.2.2.2 _ _) ml_X0_92 nm_X0_fail ⟨rfl, rfl⟩ ⟨Nat.le_of_ble_eq_true rfl, Nat.le_of_ble_eq_true rfl⟩ dX0_judge_45 rfl rfl (Nat.le_of_ble_eq_true rfl) ⟨by show 0 + 1 ≤ 1; omega, by show 0 + 24 ≤ 24; omega⟩) (fun L45 T46 N47 I48 J49 R50 dz51 dl52 H locs hp43 hMn => ?_)
      obtain ⟨yJ49, hFc53, hp43a⟩ := hp43
      obtain rfl := yJ49.symm
      replace hF : Fr mo_X0_judge [] T N I J R T46 N47 I48 J R50 := hF.trans hFc53 (by decide) e20
      have hM := hMn
      clear hMn
      replace hp43a : FLq I48 R50 g_ru g_f ∧ I48 a_r 5 = 2 ∧ I48 g_f 2 = I29 g_f 2 + 1 ∧ dz51 ≤ 1 ∧ dl52 ≤ 24 := hp43a
      obtain ⟨hp43a_0, hp43a_1, hp43a_2, hp43a_3, hp43a_4⟩ := hp43a
      have t54 : T46 g_f = 16 := hF.tt p_3 (by decide) nm0
      have r55 : (0 : Int) ≤ I29 g_f 2 + 1 ∧ I29 g_f 2 + 1 ≤ 16 := by rw [← hp43a_2]; exact g16_2 hM.2.2.2.2.2.2.1 t54
      replace hfl : FLq I48 R50 g_ru g_f := by assumption
      clear hFt hMt
      refine lv_iload B.1 B.2.1 dX0_judge_48 (lv_at hl 0 rfl) ?_
      refine g_zret B hM dX0_judge_50 ⟨by show 0 + dz51 ≤ 1; omega, by show 0 + dl52 ≤ 24; omega⟩ (by omega) (by omega) ?_
      rw [← hPST]
      exact ⟨x13, rfl, by omega, rfl, hF, by omega, by omega, by exact hfl, by first | omega | assumption | exact trivial, by first | omega | assumption | exact trivial, by first | omega | assumption | exact trivial⟩

def mo_X0_countAgainst : List Nat := [2368, 265, 261, 262, 512, 513, 514, 1632, 263]
set_option maxHeartbeats 1000000 in
set_option maxRecDepth 20000 in
theorem k_X0_countAgainst (l : Launch) (D : va_G) (dA : Nat → ClassId) (eA : Nat) (L : List Nat) (T N : Nat → Nat) (I : Nat → Nat → Int) (J : Nat → Nat → Int64) (R : Nat → Nat → Nat) (a_this : Nat) (t_this : T a_this = 6) (a_spot : Nat) (t_spot : T a_spot = 10) (a_v : Int) (i_v : (-2147483648 : Int) ≤ a_v ∧ a_v ≤ 2147483647) (g_ru : Nat) (g_f : Nat) (p_0 : R a_this 0 = g_ru + 1) (p_1 : T g_ru = 15) (p_2 : R a_this 1 = g_f + 1) (p_3 : T g_f = 16) (p_4 : FLq I R g_ru g_f) : GC l yX0_countAgainst cX0_countAgainst 7 (some .int) ({ frames := 9, cells := (16 - I g_f 2).toNat + 1, slots := 24 * (16 - I g_f 2).toNat + 24, locals := 287 }) D dA eA L T N I J R [.ref a_this, .ref a_spot, .int (II a_v)] ((16 - I g_f 2).toNat + 1) (24 * (16 - I g_f 2).toNat + 24) (gI (fun r L' T' N' I' J' R' dz dl => J' = J ∧ Fr mo_X0_countAgainst [] T N I J R T' N' I' J' R' ∧ FLq I' R' g_ru g_f ∧ I g_f 2 ≤ I' g_f 2 ∧ (dz : Int) ≤ I' g_f 2 - I g_f 2 ∧ (dl : Int) ≤ 24 * (I' g_f 2 - I g_f 2))) := by
  generalize hPST : (gI (fun r L' T' N' I' J' R' dz dl => J' = J ∧ Fr mo_X0_countAgainst [] T N I J R T' N' I' J' R' ∧ FLq I' R' g_ru g_f ∧ I g_f 2 ≤ I' g_f 2 ∧ (dz : Int) ≤ I' g_f 2 - I g_f 2 ∧ (dl : Int) ≤ 24 * (I' g_f 2 - I g_f 2))) = PST
  refine g_enter (own := RX0) (by decide) rfl (Nat.le_of_ble_eq_true rfl) (fun p e s m args below meth c ls hm B hX hM hl => ?_)
  have hC0 := hM.2.2.2.2.2.2.1
  have hW0 := hM.2.2.2
  have hF : Fr mo_X0_countAgainst [] T N I J R T N I J R := Fr.rf
  have hA : ∀ q, s.heap.size ≤ q → cF dA L T N I J R s.heap.size q := fun q h => Or.inr h
  have hl : lv_has ls 7 [(0, .ref a_this), (1, .ref a_spot), (2, .int (II a_v))] := hl
  obtain ⟨x1, e2⟩ : ∃ v, I g_ru 2 = v := ⟨_, rfl⟩
  have r3 : (0 : Int) ≤ x1 ∧ x1 ≤ 16 := by rw [← e2]; exact g15_2 hM.2.2.2.2.2.2.1 p_1
  obtain ⟨x4, e5⟩ : ∃ v, I g_f 2 = v := ⟨_, rfl⟩
  have r6 : (0 : Int) ≤ x4 ∧ x4 ≤ 16 := by rw [← e5]; exact g16_2 hM.2.2.2.2.2.2.1 p_3
  have hfl := p_4
  refine q_con B dX0_countAgainst_0 ?_
  refine lv_istore_n (lv' := [(3, .int (II 0)), (0, .ref a_this), (1, .ref a_spot), (2, .int (II a_v))]) B.1 B.2.1 dX0_countAgainst_1 rfl hl (by decide) rfl (fun ls hl => ?_)
  refine q_con B dX0_countAgainst_2 ?_
  refine lv_istore (lv' := [(4, .int (II 0)), (3, .int (II 0)), (0, .ref a_this), (1, .ref a_spot), (2, .int (II a_v))]) B.1 B.2.1 dX0_countAgainst_3 hl (by decide) rfl (fun ls hl => ?_)
  have LL5 : ∀ NN : Nat, ∀ (v5_3 : Int) (v5_4 : Int) (L_5 : List Nat) (T_5 : Nat → Nat) (N_5 : Nat → Nat) (I_5 : Nat → Nat → Int) (R_5 : Nat → Nat → Nat) (zc5 zs5 : Nat) (H : Heap) (locs : List Loc) (ls : Array Slot), (CWd D dA eA (cF dA L T N I J R s.heap.size) s.heap L_5 T_5 N_5 I_5 J R_5 H locs) → (Fr mo_X0_countAgainst [] T N I J R T_5 N_5 I_5 J R_5) → lv_has ls 7 [(0, .ref a_this), (1, .ref a_spot), (2, .int (II a_v)), (3, .int (II v5_3)), (4, .int (II v5_4))] → ((-2147483648 : Int) ≤ v5_3 ∧ v5_3 ≤ 2147483647) → ((-2147483648 : Int) ≤ v5_4 ∧ v5_4 ≤ 2147483647) → (0 ≤ v5_4) → (v5_4 ≤ 40) → (0 ≤ v5_3) → (v5_3 ≤ v5_4) → (I g_f 2 ≤ I_5 g_f 2) → (I_5 g_f 2 ≤ 16) → ((zc5 : Int) ≤ I_5 g_f 2 - I g_f 2) → ((zs5 : Int) ≤ 24 * (I_5 g_f 2 - I g_f 2)) → (FLq I_5 R_5 g_ru g_f) → (0 ≤ 41 - v5_4) → (41 - v5_4 < (NN : Int)) → W p l e ({ frames := 9, cells := (16 - I g_f 2).toNat + 1, slots := 24 * (16 - I g_f 2).toNat + 24, locals := 287 }) s m args below meth c H locs zc5 zs5 (MQ below (gQ D dA eA (cF dA L T N I J R s.heap.size) s.heap.size (hs s.heap) PST) args s ((16 - I g_f 2).toNat + 1) (24 * (16 - I g_f 2).toNat + 24) (cF dA L T N I J R s.heap.size)) (F0 m 5 ls []) := by
    intro NN
    induction NN with
    | zero => intro v5_3 v5_4 L_5 T_5 N_5 I_5 R_5 zc5 zs5 H locs ls hM hF hl hLL5_0 hLL5_1 hLL5_2 hLL5_3 hLL5_4 hLL5_5 hLL5_6 hLL5_7 hLL5_8 hLL5_9 hLL5_10 hLL5_11 hN; exfalso; omega
    | succ NN IH5 =>
      intro v5_3 v5_4 L_5 T_5 N_5 I_5 R_5 zc5 zs5 H locs ls hM hF hl hLL5_0 hLL5_1 hLL5_2 hLL5_3 hLL5_4 hLL5_5 hLL5_6 hLL5_7 hLL5_8 hLL5_9 hLL5_10 hLL5_11 hN
      have hfl : FLq I_5 R_5 g_ru g_f := by assumption
      obtain ⟨x7, e8⟩ : ∃ v, I_5 g_f 2 = v := ⟨_, rfl⟩
      refine lv_iload B.1 B.2.1 dX0_countAgainst_5 (lv_at hl 4 rfl) ?_
      refine lv_aload_n B.1 B.2.1 dX0_countAgainst_7 rfl (lv_at hl 1 rfl) ?_
      have t9 : T_5 a_spot = 10 := hF.tt t_spot (by decide) nm0
      obtain ⟨b10, e11, t12⟩ := g10_4 hC0 t_spot
      have e13 : R_5 a_spot 4 = b10 + 1 := (hF.r t_spot (by decide) nm0 rfl).trans e11
      refine c_getn (k := 4) pk_X8 B hM t9 kd10 rfl (by decide) fl_X0_111 dX0_countAgainst_8 e13 ?_
      have e14 : I_5 g_ru 2 = x1 := (hF.i p_1 (by decide) nm0 rfl).trans e2
      have hFt := hF
      have hMt := hM
      have t15 : T_5 b10 = 21 := hF.tt t12 (by decide) nm0
      have hv16 : (15 ≤ 21) ∧ (21 ≤ 23) := by first | omega | exact ⟨by first | omega | assumption | exact trivial, by first | omega | assumption | exact trivial⟩
      refine p_calli (c_runV (n := 0) (as := []) (rest := [.int (II v5_4)]) B hX hA hM hl.1 t15 kd21 rfl (k_Jx4a65c_size_8abf5 l D dA eA L_5 T_5 N_5 I_5 J R_5 b10 t15 hv16.1 hv16.2 _ _) ml_X0_70 nm_Jx4a65c_size_8abf5 ⟨rfl, rfl⟩ ⟨Nat.le_of_ble_eq_true rfl, Nat.le_of_ble_eq_true rfl⟩ dX0_countAgainst_11 rfl rfl (Nat.le_of_ble_eq_true rfl) ⟨by show zc5 + 0 ≤ ((16 - I g_f 2).toNat + 1); omega, by show zs5 + 0 ≤ (24 * (16 - I g_f 2).toNat + 24); omega⟩) (fun x18 ix18 hp17 => ?_)
      have hp17a := hp17
      replace hp17a : I_5 b10 2 = x18 ∧ 0 ≤ x18 ∧ x18 ≤ 40 := hp17a
      obtain ⟨hp17a_0, hp17a_1, hp17a_2⟩ := hp17a
      clear hFt hMt
      refine q_cge (tgt := 118) B dX0_countAgainst_14 (by decide) (by unfold inr; omega) (by unfold inr; omega) (fun c19 => ?_) (fun c19 => ?_)
      · refine lv_iload_n B.1 B.2.1 dX0_countAgainst_118 rfl (lv_at hl 3 rfl) ?_
        refine g_iret B hM dX0_countAgainst_119 ⟨by show zc5 ≤ ((16 - I g_f 2).toNat + 1); omega, by show zs5 ≤ (24 * (16 - I g_f 2).toNat + 24); omega⟩ ?_
        rw [← hPST]
        exact ⟨v5_3, rfl, by omega, rfl, hF, by exact hfl, by first | omega | assumption | exact trivial, by first | omega | assumption | exact trivial, by first | omega | assumption | exact trivial⟩
      · refine lv_aload_n B.1 B.2.1 dX0_countAgainst_17 rfl (lv_at hl 1 rfl) ?_
        refine c_getn (k := 4) pk_X8 B hM t9 kd10 rfl (by decide) fl_X0_111 dX0_countAgainst_18 e13 ?_
        refine lv_iload B.1 B.2.1 dX0_countAgainst_21 (lv_at hl 4 rfl) ?_
        have hFt := hF
        have hMt := hM
        have hv20 : ((-2147483648 : Int) ≤ v5_4 ∧ (v5_4 : Int) ≤ 2147483647) ∧ (15 ≤ 21) ∧ (21 ≤ 23) ∧ (0 ≤ v5_4) ∧ (v5_4 < I_5 b10 2) := by first | omega | exact ⟨by first | omega | assumption | exact trivial, by first | omega | assumption | exact trivial, by first | omega | assumption | exact trivial, by first | omega | assumption | exact trivial, by first | omega | assumption | exact trivial⟩
        refine p_callr (c_runV (n := 1) (as := [.int (II v5_4)]) (rest := []) B hX hA hM hl.1 t15 kd21 rfl (k_Jx4a65c_get_915e3 l D dA eA L_5 T_5 N_5 I_5 J R_5 b10 t15 v5_4 hv20.1 hv20.2.1 hv20.2.2.1 hv20.2.2.2.1 hv20.2.2.2.2 _ _) ml_X0_74 nm_Jx4a65c_get_915e3 ⟨rfl, rfl⟩ ⟨Nat.le_of_ble_eq_true rfl, Nat.le_of_ble_eq_true rfl⟩ dX0_countAgainst_23 rfl rfl (Nat.le_of_ble_eq_true rfl) ⟨by show zc5 + 0 ≤ ((16 - I g_f 2).toNat + 1); omega, by show zs5 + 0 ≤ (24 * (16 - I g_f 2).toNat + 24); omega⟩) (fun b22 hp21 => ?_)
        obtain ⟨tb22, hp21a⟩ := hp21
        replace hp21a : R_5 (R_5 b10 1 - 1) v5_4.toNat = b22 + 1 := hp21a
        clear hFt hMt
        refine c_cast B hM tb22 kd9 rfl cl_X0_97 dX0_countAgainst_26 ?_
        refine lv_astore (lv' := [(5, .ref b22), (0, .ref a_this), (1, .ref a_spot), (2, .int (II a_v)), (3, .int (II v5_3)), (4, .int (II v5_4))]) B.1 B.2.1 dX0_countAgainst_29 hl (by decide) rfl (fun ls hl => ?_)
        refine lv_aload B.1 B.2.1 dX0_countAgainst_31 (lv_at hl 0 rfl) ?_
        obtain ⟨x23, e24⟩ : ∃ v, I_5 b22 0 = v := ⟨_, rfl⟩
        have r25 : (-2147483648 : Int) ≤ x23 ∧ x23 ≤ 2147483647 := by rw [← e24]; exact g9_0 hM.2.2.2.2.2.2.1 tb22
        refine c_geti (k := 0) pk_X10 B hM tb22 kd9 rfl (by decide) fl_X0_116 dX0_countAgainst_33 e24 ?_
        refine q_bip B dX0_countAgainst_36 (by decide) ?_
        refine q_cge (tgt := 61) B dX0_countAgainst_38 (by decide) (by unfold inr; omega) (by unfold inr; omega) (fun c26 => ?_) (fun c26 => ?_)
        · refine lv_aload_n B.1 B.2.1 dX0_countAgainst_61 rfl (lv_at hl 1 rfl) ?_
          refine lv_aload B.1 B.2.1 dX0_countAgainst_62 (lv_at hl 0 rfl) ?_
          refine c_geti (k := 0) pk_X10 B hM tb22 kd9 rfl (by decide) fl_X0_116 dX0_countAgainst_64 e24 ?_
          refine q_bip B dX0_countAgainst_67 (by decide) ?_
          refine q_sub B dX0_countAgainst_69 ?_
          have hFt := hF
          have hMt := hM
          have t27 : T_5 a_this = 6 := hF.tt t_this (by decide) nm0
          refine p_callq (c_runV (n := 1) (as := [.int (II (x23 - (100 : Int)))]) (rest := []) B hX hA hM hl.1 t27 kd6 rfl (k_X0_ruleAt l D dA eA L_5 T_5 N_5 I_5 J R_5 a_this t27 (x23 - (100 : Int)) (by first | omega | assumption | exact trivial) _ _) ml_X0_123 nm_X0_ruleAt ⟨rfl, rfl⟩ ⟨Nat.le_of_ble_eq_true rfl, Nat.le_of_ble_eq_true rfl⟩ dX0_countAgainst_70 rfl rfl (Nat.le_of_ble_eq_true rfl) ⟨by show zc5 + 0 ≤ ((16 - I g_f 2).toNat + 1); omega, by show zs5 + 0 ≤ (24 * (16 - I g_f 2).toNat + 24); omega⟩) (fun v29 hp28 => ?_)
          obtain ⟨qv29, hp28a⟩ := hp28
          replace hp28a : v29 = 0 ∨ (0 ≤ (x23 - (100 : Int)) ∧ (x23 - (100 : Int)) < I_5 (R_5 a_this 0 - 1) 2 ∧ R_5 (R_5 (R_5 a_this 0 - 1) 1 - 1) (x23 - (100 : Int)).toNat = v29) := hp28a
          have e30 : R_5 a_this 0 = g_ru + 1 := (hF.r t_this (by decide) nm0 rfl).trans p_0
          have pq31 : I_5 (R_5 a_this 0 - 1) 2 = I_5 g_ru 2 := by rw [e30, Nat.add_sub_cancel]
          have pq32 : R_5 (R_5 a_this 0 - 1) 1 = R_5 g_ru 1 := by rw [e30, Nat.add_sub_cancel]
          clear hFt hMt
          refine c_astore (lv' := [(6, cv v29), (5, .ref b22), (0, .ref a_this), (1, .ref a_spot), (2, .int (II a_v)), (3, .int (II v5_3)), (4, .int (II v5_4))]) B dX0_countAgainst_73 hl (by decide) (by first | rfl | simp [cv_cat]) (fun ls hl => ?_)
          refine c_aload B dX0_countAgainst_75 (lv_at hl 0 rfl) ?_
          rcases qv29 with rfl | ⟨b33, rfl, t34⟩
          · have hl : lv_has ls 7 [(6, .null), (5, .ref b22), (0, .ref a_this), (1, .ref a_spot), (2, .int (II a_v)), (3, .int (II v5_3)), (4, .int (II v5_4))] := hl
            refine lv_ifnullN (tgt := 112) B.1 B.2.1 dX0_countAgainst_77 (by decide) ?_
            refine q_inc (lv' := [(4, .int (II (v5_4 + 1))), (6, .null), (5, .ref b22), (0, .ref a_this), (1, .ref a_spot), (2, .int (II a_v)), (3, .int (II v5_3))]) B dX0_countAgainst_112 hl (k := 6) rfl (by decide) rfl (fun ls hl => ?_)
            refine lv_goto (tgt := 5) B.1 B.2.1 dX0_countAgainst_115 (by decide) ?_
            have hv35 : ((-2147483648 : Int) ≤ v5_3 ∧ (v5_3 : Int) ≤ 2147483647) ∧ ((-2147483648 : Int) ≤ v5_4 + 1 ∧ (v5_4 + 1 : Int) ≤ 2147483647) ∧ (0 ≤ (v5_4 + 1)) ∧ ((v5_4 + 1) ≤ 40) ∧ (0 ≤ v5_3) ∧ (v5_3 ≤ (v5_4 + 1)) ∧ (I g_f 2 ≤ I_5 g_f 2) ∧ (I_5 g_f 2 ≤ 16) ∧ ((zc5 : Int) ≤ I_5 g_f 2 - I g_f 2) ∧ ((zs5 : Int) ≤ 24 * (I_5 g_f 2 - I g_f 2)) ∧ (0 ≤ 41 - (v5_4 + 1)) := by first | omega | exact ⟨by first | omega | assumption | exact trivial, by first | omega | assumption | exact trivial, by first | omega | assumption | exact trivial, by first | omega | assumption | exact trivial, by first | omega | assumption | exact trivial, by first | omega | assumption | exact trivial, by first | omega | assumption | exact trivial, by first | omega | assumption | exact trivial, by first | omega | assumption | exact trivial, by first | omega | assumption | exact trivial, by first | omega | assumption | exact trivial⟩
            exact IH5 v5_3 (v5_4 + 1) L_5 T_5 N_5 I_5 R_5 zc5 zs5 _ _ ls hM hF (lv_sub hl [3, 4, 5, 6, 0] rfl) hv35.1 hv35.2.1 hv35.2.2.1 hv35.2.2.2.1 hv35.2.2.2.2.1 hv35.2.2.2.2.2.1 hv35.2.2.2.2.2.2.1 hv35.2.2.2.2.2.2.2.1 hv35.2.2.2.2.2.2.2.2.1 hv35.2.2.2.2.2.2.2.2.2.1 (by exact hfl) hv35.2.2.2.2.2.2.2.2.2.2 (by omega)
          · have hl : lv_has ls 7 [(6, .ref b33), (5, .ref b22), (0, .ref a_this), (1, .ref a_spot), (2, .int (II a_v)), (3, .int (II v5_3)), (4, .int (II v5_4))] := hl
            refine lv_ifnull B.1 B.2.1 dX0_countAgainst_77 ?_
            have hri : 0 ≤ x23 - (100 : Int) ∧ x23 - (100 : Int) < I_5 g_ru 2 ∧ R_5 (R_5 g_ru 1 - 1) (x23 - (100 : Int)).toNat = b33 + 1 := by
              rcases hp28a with h | h
              · omega
              · rw [e30] at h; simpa only [Nat.add_sub_cancel] using h
            refine lv_aload B.1 B.2.1 dX0_countAgainst_80 (lv_at hl 0 rfl) ?_
            obtain ⟨x36, e37⟩ : ∃ v, I_5 b33 5 = v := ⟨_, rfl⟩
            have r38 : (-2147483648 : Int) ≤ x36 ∧ x36 ≤ 2147483647 := by rw [← e37]; exact g8_5 hM.2.2.2.2.2.2.1 t34
            refine c_geti (k := 5) pk_X7 B hM t34 kd8 rfl (by decide) fl_X0_82 dX0_countAgainst_82 e37 ?_
            refine q_con B dX0_countAgainst_85 ?_
            refine q_cne (tgt := 112) B dX0_countAgainst_86 (by decide) (by unfold inr; omega) (by unfold inr; omega) (fun c39 => ?_) (fun c39 => ?_)
            · refine q_inc (lv' := [(4, .int (II (v5_4 + 1))), (6, .ref b33), (5, .ref b22), (0, .ref a_this), (1, .ref a_spot), (2, .int (II a_v)), (3, .int (II v5_3))]) B dX0_countAgainst_112 hl (k := 6) rfl (by decide) rfl (fun ls hl => ?_)
              refine lv_goto (tgt := 5) B.1 B.2.1 dX0_countAgainst_115 (by decide) ?_
              have hv40 : ((-2147483648 : Int) ≤ v5_3 ∧ (v5_3 : Int) ≤ 2147483647) ∧ ((-2147483648 : Int) ≤ v5_4 + 1 ∧ (v5_4 + 1 : Int) ≤ 2147483647) ∧ (0 ≤ (v5_4 + 1)) ∧ ((v5_4 + 1) ≤ 40) ∧ (0 ≤ v5_3) ∧ (v5_3 ≤ (v5_4 + 1)) ∧ (I g_f 2 ≤ I_5 g_f 2) ∧ (I_5 g_f 2 ≤ 16) ∧ ((zc5 : Int) ≤ I_5 g_f 2 - I g_f 2) ∧ ((zs5 : Int) ≤ 24 * (I_5 g_f 2 - I g_f 2)) ∧ (0 ≤ 41 - (v5_4 + 1)) := by first | omega | exact ⟨by first | omega | assumption | exact trivial, by first | omega | assumption | exact trivial, by first | omega | assumption | exact trivial, by first | omega | assumption | exact trivial, by first | omega | assumption | exact trivial, by first | omega | assumption | exact trivial, by first | omega | assumption | exact trivial, by first | omega | assumption | exact trivial, by first | omega | assumption | exact trivial, by first | omega | assumption | exact trivial, by first | omega | assumption | exact trivial⟩
              exact IH5 v5_3 (v5_4 + 1) L_5 T_5 N_5 I_5 R_5 zc5 zs5 _ _ ls hM hF (lv_sub hl [3, 4, 5, 6, 0] rfl) hv40.1 hv40.2.1 hv40.2.2.1 hv40.2.2.2.1 hv40.2.2.2.2.1 hv40.2.2.2.2.2.1 hv40.2.2.2.2.2.2.1 hv40.2.2.2.2.2.2.2.1 hv40.2.2.2.2.2.2.2.2.1 hv40.2.2.2.2.2.2.2.2.2.1 (by exact hfl) hv40.2.2.2.2.2.2.2.2.2.2 (by omega)
            · refine lv_aload_n B.1 B.2.1 dX0_countAgainst_89 rfl (lv_at hl 2 rfl) ?_
              refine lv_aload B.1 B.2.1 dX0_countAgainst_90 (lv_at hl 0 rfl) ?_
              refine lv_iload_n B.1 B.2.1 dX0_countAgainst_92 rfl (lv_at hl 4 rfl) ?_
              refine lv_aload B.1 B.2.1 dX0_countAgainst_93 (lv_at hl 1 rfl) ?_
              have hFt := hF
              have hMt := hM
              have e41 : R_5 a_this 1 = g_f + 1 := (hF.r t_this (by decide) nm0 rfl).trans p_2
              have t42 : T_5 g_ru = 15 := hF.tt p_1 (by decide) nm0
              have t43 : T_5 g_f = 16 := hF.tt p_3 (by decide) nm0
              obtain ⟨v44, e45⟩ : ∃ v, R g_ru 1 = v := ⟨_, rfl⟩
              have e46 : R_5 g_ru 1 = v44 := (hF.r p_1 (by decide) nm0 rfl).trans e45
              have hv47 : ((-2147483648 : Int) ≤ a_v ∧ (a_v : Int) ≤ 2147483647) ∧ (FLq I_5 R_5 g_ru g_f) ∧ (I_5 b33 5 = 1) := by first | omega | exact ⟨by first | omega | assumption | exact trivial, by first | omega | assumption | exact trivial, by first | omega | assumption | exact trivial⟩
              refine g_calli hM hA (c_runV (n := 3) (as := [.ref b33, .int (II a_v), .ref b22]) (rest := []) B hX hA hM hl.1 t27 kd6 rfl (k_X0_judge l D dA eA L_5 T_5 N_5 I_5 J R_5 a_this t27 b33 t34 a_v hv47.1 b22 tb22 g_ru g_f (x23 - (100 : Int)) (show R_5 a_this 0 = g_ru + 1 from e30) (show T_5 g_ru = 15 from t42) (show R_5 a_this 1 = g_f + 1 from e41) (show T_5 g_f = 16 from t43) hv47.2.1 (show 0 ≤ (x23 - (100 : Int)) from by exact hri.1) (show (x23 - (100 : Int)) < I_5 g_ru 2 from by exact hri.2.1) (show R_5 (R_5 g_ru 1 - 1) (x23 - (100 : Int)).toNat = b33 + 1 from by exact hri.2.2) hv47.2.2 _ _) ml_X0_127 nm_X0_judge ⟨rfl, rfl⟩ ⟨Nat.le_of_ble_eq_true rfl, Nat.le_of_ble_eq_true rfl⟩ dX0_countAgainst_95 rfl rfl (Nat.le_of_ble_eq_true rfl) ⟨by show zc5 + 1 ≤ ((16 - I g_f 2).toNat + 1); omega, by show zs5 + 24 ≤ (24 * (16 - I g_f 2).toNat + 24); omega⟩) (fun x49 ix49 L50 T51 N52 I53 J54 R55 dz56 dl57 H locs hp48 hMn => ?_)
              obtain ⟨yJ54, hFc58, hp48a⟩ := hp48
              obtain rfl := yJ54.symm
              replace hF : Fr mo_X0_countAgainst [] T N I J R T51 N52 I53 J R55 := hF.trans hFc58 (by decide) e20
              have hM := hMn
              clear hMn
              replace hp48a : (0 : Int) ≤ x49 ∧ x49 ≤ 1 ∧ (FLq I53 R55 g_ru g_f ∧ I_5 g_f 2 ≤ I53 g_f 2 ∧ (dz56 : Int) ≤ I53 g_f 2 - I_5 g_f 2 ∧ (dl57 : Int) ≤ 24 * (I53 g_f 2 - I_5 g_f 2)) := hp48a
              obtain ⟨hp48a_0, hp48a_1, hp48a_2⟩ := hp48a
              obtain ⟨hp48a_2_0, hp48a_2_1, hp48a_2_2, hp48a_2_3⟩ := hp48a_2
              obtain ⟨x59, e60⟩ : ∃ v, I53 g_f 2 = v := ⟨_, rfl⟩
              have t61 : T51 g_f = 16 := hF.tt p_3 (by decide) nm0
              have r62 : (0 : Int) ≤ x59 ∧ x59 ≤ 16 := by rw [← e60]; exact g16_2 hM.2.2.2.2.2.2.1 t61
              replace hfl : FLq I53 R55 g_ru g_f := by assumption
              clear hFt hMt
              refine q_ieq (tgt := 112) B dX0_countAgainst_98 (by decide) (by unfold inr; omega) (fun c63 => ?_) (fun c63 => ?_)
              · refine q_inc (lv' := [(4, .int (II (v5_4 + 1))), (6, .ref b33), (5, .ref b22), (0, .ref a_this), (1, .ref a_spot), (2, .int (II a_v)), (3, .int (II v5_3))]) B dX0_countAgainst_112 hl (k := 6) rfl (by decide) rfl (fun ls hl => ?_)
                refine lv_goto (tgt := 5) B.1 B.2.1 dX0_countAgainst_115 (by decide) ?_
                have hv64 : ((-2147483648 : Int) ≤ v5_3 ∧ (v5_3 : Int) ≤ 2147483647) ∧ ((-2147483648 : Int) ≤ v5_4 + 1 ∧ (v5_4 + 1 : Int) ≤ 2147483647) ∧ (0 ≤ (v5_4 + 1)) ∧ ((v5_4 + 1) ≤ 40) ∧ (0 ≤ v5_3) ∧ (v5_3 ≤ (v5_4 + 1)) ∧ (I g_f 2 ≤ I53 g_f 2) ∧ (I53 g_f 2 ≤ 16) ∧ ((zc5 + dz56 : Int) ≤ I53 g_f 2 - I g_f 2) ∧ ((zs5 + dl57 : Int) ≤ 24 * (I53 g_f 2 - I g_f 2)) ∧ (0 ≤ 41 - (v5_4 + 1)) := by first | omega | exact ⟨by first | omega | assumption | exact trivial, by first | omega | assumption | exact trivial, by first | omega | assumption | exact trivial, by first | omega | assumption | exact trivial, by first | omega | assumption | exact trivial, by first | omega | assumption | exact trivial, by first | omega | assumption | exact trivial, by first | omega | assumption | exact trivial, by first | omega | assumption | exact trivial, by first | omega | assumption | exact trivial, by first | omega | assumption | exact trivial⟩
                exact IH5 v5_3 (v5_4 + 1) L50 T51 N52 I53 R55 (zc5 + dz56) (zs5 + dl57) _ _ ls hM hF (lv_sub hl [3, 4, 5, 6, 0] rfl) hv64.1 hv64.2.1 hv64.2.2.1 hv64.2.2.2.1 hv64.2.2.2.2.1 hv64.2.2.2.2.2.1 hv64.2.2.2.2.2.2.1 hv64.2.2.2.2.2.2.2.1 hv64.2.2.2.2.2.2.2.2.1 hv64.2.2.2.2.2.2.2.2.2.1 (by exact hfl) hv64.2.2.2.2.2.2.2.2.2.2 (by omega)
              · refine lv_aload B.1 B.2.1 dX0_countAgainst_101 (lv_at hl 0 rfl) ?_
                have t65 : T51 b33 = 8 := hFc58.tt t34 (by decide) nm0
                obtain ⟨x66, e67⟩ : ∃ v, I53 b33 9 = v := ⟨_, rfl⟩
                have r68 : (-2147483648 : Int) ≤ x66 ∧ x66 ≤ 2147483647 := by rw [← e67]; exact g8_9 hM.2.2.2.2.2.2.1 t65
                refine c_geti (k := 9) pk_X7 B hM t65 kd8 rfl (by decide) fl_X0_89 dX0_countAgainst_103 e67 ?_
                refine q_ine (tgt := 112) B dX0_countAgainst_106 (by decide) (by unfold inr; omega) (fun c69 => ?_) (fun c69 => ?_)
                · refine q_inc (lv' := [(4, .int (II (v5_4 + 1))), (6, .ref b33), (5, .ref b22), (0, .ref a_this), (1, .ref a_spot), (2, .int (II a_v)), (3, .int (II v5_3))]) B dX0_countAgainst_112 hl (k := 6) rfl (by decide) rfl (fun ls hl => ?_)
                  refine lv_goto (tgt := 5) B.1 B.2.1 dX0_countAgainst_115 (by decide) ?_
                  have hv70 : ((-2147483648 : Int) ≤ v5_3 ∧ (v5_3 : Int) ≤ 2147483647) ∧ ((-2147483648 : Int) ≤ v5_4 + 1 ∧ (v5_4 + 1 : Int) ≤ 2147483647) ∧ (0 ≤ (v5_4 + 1)) ∧ ((v5_4 + 1) ≤ 40) ∧ (0 ≤ v5_3) ∧ (v5_3 ≤ (v5_4 + 1)) ∧ (I g_f 2 ≤ I53 g_f 2) ∧ (I53 g_f 2 ≤ 16) ∧ ((zc5 + dz56 : Int) ≤ I53 g_f 2 - I g_f 2) ∧ ((zs5 + dl57 : Int) ≤ 24 * (I53 g_f 2 - I g_f 2)) ∧ (0 ≤ 41 - (v5_4 + 1)) := by first | omega | exact ⟨by first | omega | assumption | exact trivial, by first | omega | assumption | exact trivial, by first | omega | assumption | exact trivial, by first | omega | assumption | exact trivial, by first | omega | assumption | exact trivial, by first | omega | assumption | exact trivial, by first | omega | assumption | exact trivial, by first | omega | assumption | exact trivial, by first | omega | assumption | exact trivial, by first | omega | assumption | exact trivial, by first | omega | assumption | exact trivial⟩
                  exact IH5 v5_3 (v5_4 + 1) L50 T51 N52 I53 R55 (zc5 + dz56) (zs5 + dl57) _ _ ls hM hF (lv_sub hl [3, 4, 5, 6, 0] rfl) hv70.1 hv70.2.1 hv70.2.2.1 hv70.2.2.2.1 hv70.2.2.2.2.1 hv70.2.2.2.2.2.1 hv70.2.2.2.2.2.2.1 hv70.2.2.2.2.2.2.2.1 hv70.2.2.2.2.2.2.2.2.1 hv70.2.2.2.2.2.2.2.2.2.1 (by exact hfl) hv70.2.2.2.2.2.2.2.2.2.2 (by omega)
                · refine q_inc (lv' := [(3, .int (II (v5_3 + 1))), (6, .ref b33), (5, .ref b22), (0, .ref a_this), (1, .ref a_spot), (2, .int (II a_v)), (4, .int (II v5_4))]) B dX0_countAgainst_109 hl (k := 5) rfl (by decide) rfl (fun ls hl => ?_)
                  refine q_inc (lv' := [(4, .int (II (v5_4 + 1))), (3, .int (II (v5_3 + 1))), (6, .ref b33), (5, .ref b22), (0, .ref a_this), (1, .ref a_spot), (2, .int (II a_v))]) B dX0_countAgainst_112 hl (k := 6) rfl (by decide) rfl (fun ls hl => ?_)
                  refine lv_goto (tgt := 5) B.1 B.2.1 dX0_countAgainst_115 (by decide) ?_
                  have hv71 : ((-2147483648 : Int) ≤ v5_3 + 1 ∧ (v5_3 + 1 : Int) ≤ 2147483647) ∧ ((-2147483648 : Int) ≤ v5_4 + 1 ∧ (v5_4 + 1 : Int) ≤ 2147483647) ∧ (0 ≤ (v5_4 + 1)) ∧ ((v5_4 + 1) ≤ 40) ∧ (0 ≤ (v5_3 + 1)) ∧ ((v5_3 + 1) ≤ (v5_4 + 1)) ∧ (I g_f 2 ≤ I53 g_f 2) ∧ (I53 g_f 2 ≤ 16) ∧ ((zc5 + dz56 : Int) ≤ I53 g_f 2 - I g_f 2) ∧ ((zs5 + dl57 : Int) ≤ 24 * (I53 g_f 2 - I g_f 2)) ∧ (0 ≤ 41 - (v5_4 + 1)) := by first | omega | exact ⟨by first | omega | assumption | exact trivial, by first | omega | assumption | exact trivial, by first | omega | assumption | exact trivial, by first | omega | assumption | exact trivial, by first | omega | assumption | exact trivial, by first | omega | assumption | exact trivial, by first | omega | assumption | exact trivial, by first | omega | assumption | exact trivial, by first | omega | assumption | exact trivial, by first | omega | assumption | exact trivial, by first | omega | assumption | exact trivial⟩
                  exact IH5 (v5_3 + 1) (v5_4 + 1) L50 T51 N52 I53 R55 (zc5 + dz56) (zs5 + dl57) _ _ ls hM hF (lv_sub hl [4, 5, 6, 1, 0] rfl) hv71.1 hv71.2.1 hv71.2.2.1 hv71.2.2.2.1 hv71.2.2.2.2.1 hv71.2.2.2.2.2.1 hv71.2.2.2.2.2.2.1 hv71.2.2.2.2.2.2.2.1 hv71.2.2.2.2.2.2.2.2.1 hv71.2.2.2.2.2.2.2.2.2.1 (by exact hfl) hv71.2.2.2.2.2.2.2.2.2.2 (by omega)
        · refine lv_iload_n B.1 B.2.1 dX0_countAgainst_41 rfl (lv_at hl 4 rfl) ?_
          refine lv_aload B.1 B.2.1 dX0_countAgainst_42 (lv_at hl 0 rfl) ?_
          refine lv_iload_n B.1 B.2.1 dX0_countAgainst_44 rfl (lv_at hl 3 rfl) ?_
          have hFt := hF
          have hMt := hM
          refine p_calli (c_runV (n := 1) (as := [.int (II a_v)]) (rest := [.int (II v5_3)]) B hX hA hM hl.1 tb22 kd9 rfl (k_X10_lets l D dA eA L_5 T_5 N_5 I_5 J R_5 b22 tb22 a_v (by first | omega | assumption | exact trivial) _ _) ml_X0_119 nm_X10_lets ⟨rfl, rfl⟩ ⟨Nat.le_of_ble_eq_true rfl, Nat.le_of_ble_eq_true rfl⟩ dX0_countAgainst_45 rfl rfl (Nat.le_of_ble_eq_true rfl) ⟨by show zc5 + 0 ≤ ((16 - I g_f 2).toNat + 1); omega, by show zs5 + 0 ≤ (24 * (16 - I g_f 2).toNat + 24); omega⟩) (fun x73 ix73 hp72 => ?_)
          have hp72a := hp72
          replace hp72a : (0 : Int) ≤ x73 ∧ x73 ≤ 1 ∧ (True) := hp72a
          obtain ⟨hp72a_0, hp72a_1, hp72a_2⟩ := hp72a
          clear hFt hMt
          have JJ56 : ∀ (s56_0 : Int) (H : Heap) (locs : List Loc) (ls : Array Slot), (CWd D dA eA (cF dA L T N I J R s.heap.size) s.heap L_5 T_5 N_5 I_5 J R_5 H locs) → lv_has ls 7 [(5, .ref b22), (0, .ref a_this), (1, .ref a_spot), (2, .int (II a_v)), (3, .int (II v5_3)), (4, .int (II v5_4))] → ((-2147483648 : Int) ≤ s56_0 ∧ s56_0 ≤ 2147483647) → (0 ≤ s56_0) → (s56_0 ≤ 1) → W p l e ({ frames := 9, cells := (16 - I g_f 2).toNat + 1, slots := 24 * (16 - I g_f 2).toNat + 24, locals := 287 }) s m args below meth c H locs zc5 zs5 (MQ below (gQ D dA eA (cF dA L T N I J R s.heap.size) s.heap.size (hs s.heap) PST) args s ((16 - I g_f 2).toNat + 1) (24 * (16 - I g_f 2).toNat + 24) (cF dA L T N I J R s.heap.size)) (F0 m 56 ls [.int (II s56_0), .int (II v5_3)]) := by
            intro s56_0 H locs ls hM hl hJJ56_0 hJJ56_1 hJJ56_2
            refine q_add B dX0_countAgainst_56 ?_
            refine lv_istore_n (lv' := [(3, .int (II (v5_3 + s56_0))), (5, .ref b22), (0, .ref a_this), (1, .ref a_spot), (2, .int (II a_v)), (4, .int (II v5_4))]) B.1 B.2.1 dX0_countAgainst_57 rfl hl (by decide) rfl (fun ls hl => ?_)
            refine lv_goto (tgt := 112) B.1 B.2.1 dX0_countAgainst_58 (by decide) ?_
            refine q_inc (lv' := [(4, .int (II (v5_4 + 1))), (3, .int (II (v5_3 + s56_0))), (5, .ref b22), (0, .ref a_this), (1, .ref a_spot), (2, .int (II a_v))]) B dX0_countAgainst_112 hl (k := 5) rfl (by decide) rfl (fun ls hl => ?_)
            refine lv_goto (tgt := 5) B.1 B.2.1 dX0_countAgainst_115 (by decide) ?_
            have hv74 : ((-2147483648 : Int) ≤ v5_3 + s56_0 ∧ (v5_3 + s56_0 : Int) ≤ 2147483647) ∧ ((-2147483648 : Int) ≤ v5_4 + 1 ∧ (v5_4 + 1 : Int) ≤ 2147483647) ∧ (0 ≤ (v5_4 + 1)) ∧ ((v5_4 + 1) ≤ 40) ∧ (0 ≤ (v5_3 + s56_0)) ∧ ((v5_3 + s56_0) ≤ (v5_4 + 1)) ∧ (I g_f 2 ≤ I_5 g_f 2) ∧ (I_5 g_f 2 ≤ 16) ∧ ((zc5 : Int) ≤ I_5 g_f 2 - I g_f 2) ∧ ((zs5 : Int) ≤ 24 * (I_5 g_f 2 - I g_f 2)) ∧ (0 ≤ 41 - (v5_4 + 1)) := by first | omega | exact ⟨by first | omega | assumption | exact trivial, by first | omega | assumption | exact trivial, by first | omega | assumption | exact trivial, by first | omega | assumption | exact trivial, by first | omega | assumption | exact trivial, by first | omega | assumption | exact trivial, by first | omega | assumption | exact trivial, by first | omega | assumption | exact trivial, by first | omega | assumption | exact trivial, by first | omega | assumption | exact trivial, by first | omega | assumption | exact trivial⟩
            exact IH5 (v5_3 + s56_0) (v5_4 + 1) L_5 T_5 N_5 I_5 R_5 zc5 zs5 _ _ ls hM hF (lv_sub hl [3, 4, 5, 1, 0] rfl) hv74.1 hv74.2.1 hv74.2.2.1 hv74.2.2.2.1 hv74.2.2.2.2.1 hv74.2.2.2.2.2.1 hv74.2.2.2.2.2.2.1 hv74.2.2.2.2.2.2.2.1 hv74.2.2.2.2.2.2.2.2.1 hv74.2.2.2.2.2.2.2.2.2.1 (by exact hfl) hv74.2.2.2.2.2.2.2.2.2.2 (by omega)
          refine q_ieq (tgt := 55) B dX0_countAgainst_48 (by decide) (by unfold inr; omega) (fun c75 => ?_) (fun c75 => ?_)
          · refine q_con B dX0_countAgainst_55 ?_
            have hv76 : ((-2147483648 : Int) ≤ 1 ∧ (1 : Int) ≤ 2147483647) ∧ (0 ≤ (1 : Int)) ∧ ((1 : Int) ≤ 1) := by first | omega | exact ⟨by first | omega | assumption | exact trivial, by first | omega | assumption | exact trivial, by first | omega | assumption | exact trivial⟩
            exact JJ56 1 _ _ ls hM (lv_sub hl [0, 1, 2, 3, 4, 5] rfl) hv76.1 hv76.2.1 hv76.2.2
          · refine q_con B dX0_countAgainst_51 ?_
            refine lv_goto (tgt := 56) B.1 B.2.1 dX0_countAgainst_52 (by decide) ?_
            have hv77 : ((-2147483648 : Int) ≤ 0 ∧ (0 : Int) ≤ 2147483647) ∧ (0 ≤ (0 : Int)) ∧ ((0 : Int) ≤ 1) := by first | omega | exact ⟨by first | omega | assumption | exact trivial, by first | omega | assumption | exact trivial, by first | omega | assumption | exact trivial⟩
            exact JJ56 0 _ _ ls hM (lv_sub hl [0, 1, 2, 3, 4, 5] rfl) hv77.1 hv77.2.1 hv77.2.2
  have hv78 : ((-2147483648 : Int) ≤ 0 ∧ (0 : Int) ≤ 2147483647) ∧ ((-2147483648 : Int) ≤ 0 ∧ (0 : Int) ≤ 2147483647) ∧ (0 ≤ (0 : Int)) ∧ ((0 : Int) ≤ 40) ∧ (0 ≤ (0 : Int)) ∧ ((0 : Int) ≤ (0 : Int)) ∧ (I g_f 2 ≤ I g_f 2) ∧ (I g_f 2 ≤ 16) ∧ (0 ≤ I g_f 2 - I g_f 2) ∧ (0 ≤ 24 * (I g_f 2 - I g_f 2)) ∧ (0 ≤ 41 - (0 : Int)) := by first | omega | exact ⟨by first | omega | assumption | exact trivial, by first | omega | assumption | exact trivial, by first | omega | assumption | exact trivial, by first | omega | assumption | exact trivial, by first | omega | assumption | exact trivial, by first | omega | assumption | exact trivial, by first | omega | assumption | exact trivial, by first | omega | assumption | exact trivial, by first | omega | assumption | exact trivial, by first | omega | assumption | exact trivial, by first | omega | assumption | exact trivial⟩
  exact LL5 (Int.toNat (41 - (0 : Int) + 1)) 0 0 L T N I R 0 0 _ _ ls hM hF (lv_sub hl [2, 3, 4, 1, 0] rfl) hv78.1 hv78.2.1 hv78.2.2.1 hv78.2.2.2.1 hv78.2.2.2.2.1 hv78.2.2.2.2.2.1 hv78.2.2.2.2.2.2.1 hv78.2.2.2.2.2.2.2.1 hv78.2.2.2.2.2.2.2.2.1 hv78.2.2.2.2.2.2.2.2.2.1 (by exact hfl) hv78.2.2.2.2.2.2.2.2.2.2 (by omega)

set_option maxHeartbeats 1000000 in
set_option maxRecDepth 20000 in
theorem k_X0_isRead (l : Launch) (D : va_G) (dA : Nat → ClassId) (eA : Nat) (L : List Nat) (T N : Nat → Nat) (I : Nat → Nat → Int) (J : Nat → Nat → Int64) (R : Nat → Nat → Nat) (a_this : Nat) (t_this : T a_this = 6) (a_kind : Nat) (t_kind : T a_kind = 11) (a_m : Int) (i_m : (-2147483648 : Int) ≤ a_m ∧ a_m ≤ 2147483647) : PC l yX0_isRead cX0_isRead 8 (some .boolean) ({ frames := 4, cells := 0, slots := 0, locals := 103 }) D dA eA L T N I J R [.ref a_this, .ref a_kind, .int (II a_m)] (rI (fun r => (0 : Int) ≤ r ∧ r ≤ 1 ∧ (True))) := by
  generalize hPST : (rI (fun r => (0 : Int) ≤ r ∧ r ≤ 1 ∧ (True))) = PST
  refine p_enter (own := RX0) (by decide) rfl (Nat.le_of_ble_eq_true rfl) (fun p e s m args below meth c ls B hX hM hl => ?_)
  have hA : ∀ q, s.heap.size ≤ q → cF dA L T N I J R s.heap.size q := fun q h => Or.inr h
  have hl : lv_has ls 8 [(0, .ref a_this), (1, .ref a_kind), (2, .int (II a_m))] := hl
  refine q_con B dX0_isRead_0 ?_
  refine lv_istore_n (lv' := [(3, .int (II 0)), (0, .ref a_this), (1, .ref a_kind), (2, .int (II a_m))]) B.1 B.2.1 dX0_isRead_1 rfl hl (by decide) rfl (fun ls hl => ?_)
  have LL2 : ∀ NN : Nat, ∀ (v2_3 : Int) (ls : Array Slot), lv_has ls 8 [(0, .ref a_this), (1, .ref a_kind), (2, .int (II a_m)), (3, .int (II v2_3))] → ((-2147483648 : Int) ≤ v2_3 ∧ v2_3 ≤ 2147483647) → (0 ≤ v2_3) → (v2_3 ≤ 16) → (0 ≤ 17 - v2_3) → (17 - v2_3 < (NN : Int)) → W p l e ({ frames := 4, cells := 0, slots := 0, locals := 103 }) s m args below meth c s.heap [] 0 0 (MQ below (pQ PST) args s 0 0 (fun _ => False)) (F0 m 2 ls []) := by
    intro NN
    induction NN with
    | zero => intro v2_3 ls hl hLL2_0 hLL2_1 hLL2_2 hLL2_3 hN; exfalso; omega
    | succ NN IH2 =>
      intro v2_3 ls hl hLL2_0 hLL2_1 hLL2_2 hLL2_3 hN
      refine lv_iload_n B.1 B.2.1 dX0_isRead_2 rfl (lv_at hl 3 rfl) ?_
      refine lv_aload_n B.1 B.2.1 dX0_isRead_3 rfl (lv_at hl 0 rfl) ?_
      obtain ⟨b1, e2, t3⟩ := g6_3 hM.2.2.2.2.2.2.1 t_this
      refine c_getn (k := 3) pk_X0 B hM t_this kd6 rfl (by decide) fl_X0_24 dX0_isRead_4 e2 ?_
      have hv4 : (15 ≤ 18) ∧ (18 ≤ 23) := by first | omega | exact ⟨by first | omega | assumption | exact trivial, by first | omega | assumption | exact trivial⟩
      refine p_calli (c_runV (n := 0) (as := []) (rest := [.int (II v2_3)]) B hX hA hM hl.1 t3 kd18 rfl (k_Jx4a65c_size_8abf5 l D dA eA L T N I J R b1 t3 hv4.1 hv4.2 _ _) ml_X0_70 nm_Jx4a65c_size_8abf5 ⟨rfl, rfl⟩ ⟨Nat.le_of_ble_eq_true rfl, Nat.le_of_ble_eq_true rfl⟩ dX0_isRead_7 rfl rfl (Nat.le_of_ble_eq_true rfl) ⟨Nat.zero_le _, Nat.zero_le _⟩) (fun x6 ix6 hp5 => ?_)
      have hp5a := hp5
      replace hp5a : I b1 2 = x6 ∧ 0 ≤ x6 ∧ x6 ≤ 16 := hp5a
      obtain ⟨hp5a_0, hp5a_1, hp5a_2⟩ := hp5a
      refine q_cge (tgt := 123) B dX0_isRead_10 (by decide) (by unfold inr; omega) (by unfold inr; omega) (fun c7 => ?_) (fun c7 => ?_)
      · refine q_con B dX0_isRead_123 ?_
        refine p_zret B dX0_isRead_124 (by omega) (by omega) ?_
        rw [← hPST]
        exact ⟨(0), rfl, by omega, by omega, by omega, by first | omega | assumption | exact trivial⟩
      · refine lv_aload_n B.1 B.2.1 dX0_isRead_13 rfl (lv_at hl 0 rfl) ?_
        refine c_getn (k := 3) pk_X0 B hM t_this kd6 rfl (by decide) fl_X0_24 dX0_isRead_14 e2 ?_
        refine lv_iload_n B.1 B.2.1 dX0_isRead_17 rfl (lv_at hl 3 rfl) ?_
        have hv8 : ((-2147483648 : Int) ≤ v2_3 ∧ (v2_3 : Int) ≤ 2147483647) ∧ (15 ≤ 18) ∧ (18 ≤ 23) ∧ (0 ≤ v2_3) ∧ (v2_3 < I b1 2) := by first | omega | exact ⟨by first | omega | assumption | exact trivial, by first | omega | assumption | exact trivial, by first | omega | assumption | exact trivial, by first | omega | assumption | exact trivial, by first | omega | assumption | exact trivial⟩
        refine p_callr (c_runV (n := 1) (as := [.int (II v2_3)]) (rest := []) B hX hA hM hl.1 t3 kd18 rfl (k_Jx4a65c_get_915e3 l D dA eA L T N I J R b1 t3 v2_3 hv8.1 hv8.2.1 hv8.2.2.1 hv8.2.2.2.1 hv8.2.2.2.2 _ _) ml_X0_74 nm_Jx4a65c_get_915e3 ⟨rfl, rfl⟩ ⟨Nat.le_of_ble_eq_true rfl, Nat.le_of_ble_eq_true rfl⟩ dX0_isRead_18 rfl rfl (Nat.le_of_ble_eq_true rfl) ⟨Nat.zero_le _, Nat.zero_le _⟩) (fun b10 hp9 => ?_)
        obtain ⟨tb10, hp9a⟩ := hp9
        replace hp9a : R (R b1 1 - 1) v2_3.toNat = b10 + 1 := hp9a
        refine c_cast B hM tb10 kd11 rfl cl_X0_78 dX0_isRead_21 ?_
        refine lv_astore (lv' := [(4, .ref b10), (0, .ref a_this), (1, .ref a_kind), (2, .int (II a_m)), (3, .int (II v2_3))]) B.1 B.2.1 dX0_isRead_24 hl (by decide) rfl (fun ls hl => ?_)
        refine lv_aload_n B.1 B.2.1 dX0_isRead_26 rfl (lv_at hl 2 rfl) ?_
        refine lv_iload_n B.1 B.2.1 dX0_isRead_27 rfl (lv_at hl 4 rfl) ?_
        refine p_calli (c_runV (n := 1) (as := [.int (II v2_3)]) (rest := []) B hX hA hM hl.1 t_kind kd11 rfl (k_X3_isOf l D dA eA L T N I J R a_kind t_kind v2_3 (by first | omega | assumption | exact trivial) _ _) ml_X0_131 nm_X3_isOf ⟨rfl, rfl⟩ ⟨Nat.le_of_ble_eq_true rfl, Nat.le_of_ble_eq_true rfl⟩ dX0_isRead_28 rfl rfl (Nat.le_of_ble_eq_true rfl) ⟨Nat.zero_le _, Nat.zero_le _⟩) (fun x12 ix12 hp11 => ?_)
        have hp11a := hp11
        replace hp11a : (0 : Int) ≤ x12 ∧ x12 ≤ 1 ∧ (True) := hp11a
        obtain ⟨hp11a_0, hp11a_1, hp11a_2⟩ := hp11a
        refine lv_istore (lv' := [(5, .int (II x12)), (4, .ref b10), (0, .ref a_this), (1, .ref a_kind), (2, .int (II a_m)), (3, .int (II v2_3))]) B.1 B.2.1 dX0_isRead_31 hl (by decide) rfl (fun ls hl => ?_)
        refine q_con B dX0_isRead_33 ?_
        refine lv_istore (lv' := [(6, .int (II 0)), (5, .int (II x12)), (4, .ref b10), (0, .ref a_this), (1, .ref a_kind), (2, .int (II a_m)), (3, .int (II v2_3))]) B.1 B.2.1 dX0_isRead_34 hl (by decide) rfl (fun ls hl => ?_)
        have LL36 : ∀ NN : Nat, ∀ (v36_6 : Int) (ls : Array Slot), lv_has ls 8 [(5, .int (II x12)), (4, .ref b10), (0, .ref a_this), (1, .ref a_kind), (2, .int (II a_m)), (3, .int (II v2_3)), (6, .int (II v36_6))] → ((-2147483648 : Int) ≤ v36_6 ∧ v36_6 ≤ 2147483647) → (0 ≤ v36_6) → (v36_6 ≤ 40) → (0 ≤ 41 - v36_6) → (41 - v36_6 < (NN : Int)) → W p l e ({ frames := 4, cells := 0, slots := 0, locals := 103 }) s m args below meth c s.heap [] 0 0 (MQ below (pQ PST) args s 0 0 (fun _ => False)) (F0 m 36 ls []) := by
          intro NN
          induction NN with
          | zero => intro v36_6 ls hl hLL36_0 hLL36_1 hLL36_2 hLL36_3 hN; exfalso; omega
          | succ NN IH36 =>
            intro v36_6 ls hl hLL36_0 hLL36_1 hLL36_2 hLL36_3 hN
            refine lv_iload B.1 B.2.1 dX0_isRead_36 (lv_at hl 6 rfl) ?_
            refine lv_aload B.1 B.2.1 dX0_isRead_38 (lv_at hl 1 rfl) ?_
            obtain ⟨b13, e14, t15⟩ := g11_5 hM.2.2.2.2.2.2.1 tb10
            refine c_getn (k := 5) pk_X3 B hM tb10 kd11 rfl (by decide) fl_X0_134 dX0_isRead_40 e14 ?_
            obtain ⟨b16, e17, t18⟩ := g10_4 hM.2.2.2.2.2.2.1 t15
            refine c_getn (k := 4) pk_X8 B hM t15 kd10 rfl (by decide) fl_X0_111 dX0_isRead_43 e17 ?_
            have hv19 : (15 ≤ 21) ∧ (21 ≤ 23) := by first | omega | exact ⟨by first | omega | assumption | exact trivial, by first | omega | assumption | exact trivial⟩
            refine p_calli (c_runV (n := 0) (as := []) (rest := [.int (II v36_6)]) B hX hA hM hl.1 t18 kd21 rfl (k_Jx4a65c_size_8abf5 l D dA eA L T N I J R b16 t18 hv19.1 hv19.2 _ _) ml_X0_70 nm_Jx4a65c_size_8abf5 ⟨rfl, rfl⟩ ⟨Nat.le_of_ble_eq_true rfl, Nat.le_of_ble_eq_true rfl⟩ dX0_isRead_46 rfl rfl (Nat.le_of_ble_eq_true rfl) ⟨Nat.zero_le _, Nat.zero_le _⟩) (fun x21 ix21 hp20 => ?_)
            have hp20a := hp20
            replace hp20a : I b16 2 = x21 ∧ 0 ≤ x21 ∧ x21 ≤ 40 := hp20a
            obtain ⟨hp20a_0, hp20a_1, hp20a_2⟩ := hp20a
            refine q_cge (tgt := 117) B dX0_isRead_49 (by decide) (by unfold inr; omega) (by unfold inr; omega) (fun c22 => ?_) (fun c22 => ?_)
            · refine q_inc (lv' := [(3, .int (II (v2_3 + 1))), (5, .int (II x12)), (4, .ref b10), (0, .ref a_this), (1, .ref a_kind), (2, .int (II a_m)), (6, .int (II v36_6))]) B dX0_isRead_117 hl (k := 5) rfl (by decide) rfl (fun ls hl => ?_)
              refine lv_goto (tgt := 2) B.1 B.2.1 dX0_isRead_120 (by decide) ?_
              have hv23 : ((-2147483648 : Int) ≤ v2_3 + 1 ∧ (v2_3 + 1 : Int) ≤ 2147483647) ∧ (0 ≤ (v2_3 + 1)) ∧ ((v2_3 + 1) ≤ 16) ∧ (0 ≤ 17 - (v2_3 + 1)) := by first | omega | exact ⟨by first | omega | assumption | exact trivial, by first | omega | assumption | exact trivial, by first | omega | assumption | exact trivial, by first | omega | assumption | exact trivial⟩
              exact IH2 (v2_3 + 1) ls (lv_sub hl [3, 4, 5, 0] rfl) hv23.1 hv23.2.1 hv23.2.2.1 hv23.2.2.2 (by omega)
            · refine lv_aload B.1 B.2.1 dX0_isRead_52 (lv_at hl 1 rfl) ?_
              refine c_getn (k := 5) pk_X3 B hM tb10 kd11 rfl (by decide) fl_X0_134 dX0_isRead_54 e14 ?_
              refine c_getn (k := 4) pk_X8 B hM t15 kd10 rfl (by decide) fl_X0_111 dX0_isRead_57 e17 ?_
              refine lv_iload B.1 B.2.1 dX0_isRead_60 (lv_at hl 6 rfl) ?_
              have hv24 : ((-2147483648 : Int) ≤ v36_6 ∧ (v36_6 : Int) ≤ 2147483647) ∧ (15 ≤ 21) ∧ (21 ≤ 23) ∧ (0 ≤ v36_6) ∧ (v36_6 < I b16 2) := by first | omega | exact ⟨by first | omega | assumption | exact trivial, by first | omega | assumption | exact trivial, by first | omega | assumption | exact trivial, by first | omega | assumption | exact trivial, by first | omega | assumption | exact trivial⟩
              refine p_callr (c_runV (n := 1) (as := [.int (II v36_6)]) (rest := []) B hX hA hM hl.1 t18 kd21 rfl (k_Jx4a65c_get_915e3 l D dA eA L T N I J R b16 t18 v36_6 hv24.1 hv24.2.1 hv24.2.2.1 hv24.2.2.2.1 hv24.2.2.2.2 _ _) ml_X0_74 nm_Jx4a65c_get_915e3 ⟨rfl, rfl⟩ ⟨Nat.le_of_ble_eq_true rfl, Nat.le_of_ble_eq_true rfl⟩ dX0_isRead_62 rfl rfl (Nat.le_of_ble_eq_true rfl) ⟨Nat.zero_le _, Nat.zero_le _⟩) (fun b26 hp25 => ?_)
              obtain ⟨tb26, hp25a⟩ := hp25
              replace hp25a : R (R b16 1 - 1) v36_6.toNat = b26 + 1 := hp25a
              refine c_cast B hM tb26 kd9 rfl cl_X0_97 dX0_isRead_65 ?_
              refine lv_astore (lv' := [(7, .ref b26), (5, .int (II x12)), (4, .ref b10), (0, .ref a_this), (1, .ref a_kind), (2, .int (II a_m)), (3, .int (II v2_3)), (6, .int (II v36_6))]) B.1 B.2.1 dX0_isRead_68 hl (by decide) rfl (fun ls hl => ?_)
              have JJ86 : ∀  (ls : Array Slot), lv_has ls 8 [(7, .ref b26), (5, .int (II x12)), (4, .ref b10), (0, .ref a_this), (1, .ref a_kind), (2, .int (II a_m)), (3, .int (II v2_3)), (6, .int (II v36_6))] → W p l e ({ frames := 4, cells := 0, slots := 0, locals := 103 }) s m args below meth c s.heap [] 0 0 (MQ below (pQ PST) args s 0 0 (fun _ => False)) (F0 m 86 ls []) := by
                intro  ls hl 
                refine lv_aload B.1 B.2.1 dX0_isRead_86 (lv_at hl 0 rfl) ?_
                refine lv_iload_n B.1 B.2.1 dX0_isRead_88 rfl (lv_at hl 5 rfl) ?_
                refine p_calli (c_runV (n := 1) (as := [.int (II a_m)]) (rest := []) B hX hA hM hl.1 tb26 kd9 rfl (k_X10_readsInList l D dA eA L T N I J R b26 tb26 a_m (by first | omega | assumption | exact trivial) _ _) ml_X0_141 nm_X10_readsInList ⟨rfl, rfl⟩ ⟨Nat.le_of_ble_eq_true rfl, Nat.le_of_ble_eq_true rfl⟩ dX0_isRead_89 rfl rfl (Nat.le_of_ble_eq_true rfl) ⟨Nat.zero_le _, Nat.zero_le _⟩) (fun x28 ix28 hp27 => ?_)
                have hp27a := hp27
                replace hp27a : (0 : Int) ≤ x28 ∧ x28 ≤ 1 ∧ (True) := hp27a
                obtain ⟨hp27a_0, hp27a_1, hp27a_2⟩ := hp27a
                refine q_ieq (tgt := 111) B dX0_isRead_92 (by decide) (by unfold inr; omega) (fun c29 => ?_) (fun c29 => ?_)
                · refine q_inc (lv' := [(6, .int (II (v36_6 + 1))), (7, .ref b26), (5, .int (II x12)), (4, .ref b10), (0, .ref a_this), (1, .ref a_kind), (2, .int (II a_m)), (3, .int (II v2_3))]) B dX0_isRead_111 hl (k := 7) rfl (by decide) rfl (fun ls hl => ?_)
                  refine lv_goto (tgt := 36) B.1 B.2.1 dX0_isRead_114 (by decide) ?_
                  have hv30 : ((-2147483648 : Int) ≤ v36_6 + 1 ∧ (v36_6 + 1 : Int) ≤ 2147483647) ∧ (0 ≤ (v36_6 + 1)) ∧ ((v36_6 + 1) ≤ 40) ∧ (0 ≤ 41 - (v36_6 + 1)) := by first | omega | exact ⟨by first | omega | assumption | exact trivial, by first | omega | assumption | exact trivial, by first | omega | assumption | exact trivial, by first | omega | assumption | exact trivial⟩
                  exact IH36 (v36_6 + 1) ls (lv_sub hl [2, 3, 4, 5, 6, 7, 0] rfl) hv30.1 hv30.2.1 hv30.2.2.1 hv30.2.2.2 (by omega)
                · refine lv_aload_n B.1 B.2.1 dX0_isRead_95 rfl (lv_at hl 4 rfl) ?_
                  refine lv_aload B.1 B.2.1 dX0_isRead_96 (lv_at hl 2 rfl) ?_
                  refine lv_aload B.1 B.2.1 dX0_isRead_98 (lv_at hl 0 rfl) ?_
                  refine p_calli (c_runV (n := 1) (as := [.ref b26]) (rest := [.ref a_kind]) B hX hA hM hl.1 tb10 kd11 rfl (k_X3_listKind l D dA eA L T N I J R b10 tb10 b26 tb26 _ _) ml_X0_144 nm_X3_listKind ⟨rfl, rfl⟩ ⟨Nat.le_of_ble_eq_true rfl, Nat.le_of_ble_eq_true rfl⟩ dX0_isRead_100 rfl rfl (Nat.le_of_ble_eq_true rfl) ⟨Nat.zero_le _, Nat.zero_le _⟩) (fun x32 ix32 hp31 => ?_)
                  have hp31a := hp31
                  clear hp31a
                  refine p_calli (c_runV (n := 1) (as := [.int (II x32)]) (rest := []) B hX hA hM hl.1 t_kind kd11 rfl (k_X3_isOf l D dA eA L T N I J R a_kind t_kind x32 (by first | omega | assumption | exact trivial) _ _) ml_X0_131 nm_X3_isOf ⟨rfl, rfl⟩ ⟨Nat.le_of_ble_eq_true rfl, Nat.le_of_ble_eq_true rfl⟩ dX0_isRead_103 rfl rfl (Nat.le_of_ble_eq_true rfl) ⟨Nat.zero_le _, Nat.zero_le _⟩) (fun x34 ix34 hp33 => ?_)
                  have hp33a := hp33
                  replace hp33a : (0 : Int) ≤ x34 ∧ x34 ≤ 1 ∧ (True) := hp33a
                  obtain ⟨hp33a_0, hp33a_1, hp33a_2⟩ := hp33a
                  refine q_ieq (tgt := 111) B dX0_isRead_106 (by decide) (by unfold inr; omega) (fun c35 => ?_) (fun c35 => ?_)
                  · refine q_inc (lv' := [(6, .int (II (v36_6 + 1))), (7, .ref b26), (5, .int (II x12)), (4, .ref b10), (0, .ref a_this), (1, .ref a_kind), (2, .int (II a_m)), (3, .int (II v2_3))]) B dX0_isRead_111 hl (k := 7) rfl (by decide) rfl (fun ls hl => ?_)
                    refine lv_goto (tgt := 36) B.1 B.2.1 dX0_isRead_114 (by decide) ?_
                    have hv36 : ((-2147483648 : Int) ≤ v36_6 + 1 ∧ (v36_6 + 1 : Int) ≤ 2147483647) ∧ (0 ≤ (v36_6 + 1)) ∧ ((v36_6 + 1) ≤ 40) ∧ (0 ≤ 41 - (v36_6 + 1)) := by first | omega | exact ⟨by first | omega | assumption | exact trivial, by first | omega | assumption | exact trivial, by first | omega | assumption | exact trivial, by first | omega | assumption | exact trivial⟩
                    exact IH36 (v36_6 + 1) ls (lv_sub hl [2, 3, 4, 5, 6, 7, 0] rfl) hv36.1 hv36.2.1 hv36.2.2.1 hv36.2.2.2 (by omega)
                  · refine q_con B dX0_isRead_109 ?_
                    refine p_zret B dX0_isRead_110 (by omega) (by omega) ?_
                    rw [← hPST]
                    exact ⟨(1), rfl, by omega, by omega, by omega, by first | omega | assumption | exact trivial⟩
              refine lv_iload B.1 B.2.1 dX0_isRead_70 (lv_at hl 1 rfl) ?_
              refine q_ieq (tgt := 86) B dX0_isRead_72 (by decide) (by unfold inr; omega) (fun c37 => ?_) (fun c37 => ?_)
              · exact JJ86  ls (lv_sub hl [0, 1, 2, 3, 4, 5, 6, 7] rfl)
              · refine lv_aload B.1 B.2.1 dX0_isRead_75 (lv_at hl 0 rfl) ?_
                refine lv_iload_n B.1 B.2.1 dX0_isRead_77 rfl (lv_at hl 5 rfl) ?_
                refine p_calli (c_runV (n := 1) (as := [.int (II a_m)]) (rest := []) B hX hA hM hl.1 tb26 kd9 rfl (k_X10_readsHere l D dA eA L T N I J R b26 tb26 a_m (by first | omega | assumption | exact trivial) _ _) ml_X0_138 nm_X10_readsHere ⟨rfl, rfl⟩ ⟨Nat.le_of_ble_eq_true rfl, Nat.le_of_ble_eq_true rfl⟩ dX0_isRead_78 rfl rfl (Nat.le_of_ble_eq_true rfl) ⟨Nat.zero_le _, Nat.zero_le _⟩) (fun x39 ix39 hp38 => ?_)
                have hp38a := hp38
                replace hp38a : (0 : Int) ≤ x39 ∧ x39 ≤ 1 ∧ (True) := hp38a
                obtain ⟨hp38a_0, hp38a_1, hp38a_2⟩ := hp38a
                refine q_ieq (tgt := 86) B dX0_isRead_81 (by decide) (by unfold inr; omega) (fun c40 => ?_) (fun c40 => ?_)
                · exact JJ86  ls (lv_sub hl [0, 1, 2, 3, 4, 5, 6, 7] rfl)
                · refine q_con B dX0_isRead_84 ?_
                  refine p_zret B dX0_isRead_85 (by omega) (by omega) ?_
                  rw [← hPST]
                  exact ⟨(1), rfl, by omega, by omega, by omega, by first | omega | assumption | exact trivial⟩
        have hv41 : ((-2147483648 : Int) ≤ 0 ∧ (0 : Int) ≤ 2147483647) ∧ (0 ≤ (0 : Int)) ∧ ((0 : Int) ≤ 40) ∧ (0 ≤ 41 - (0 : Int)) := by first | omega | exact ⟨by first | omega | assumption | exact trivial, by first | omega | assumption | exact trivial, by first | omega | assumption | exact trivial, by first | omega | assumption | exact trivial⟩
        exact LL36 (Int.toNat (41 - (0 : Int) + 1)) 0 ls (lv_sub hl [1, 2, 3, 4, 5, 6, 0] rfl) hv41.1 hv41.2.1 hv41.2.2.1 hv41.2.2.2 (by omega)
  have hv42 : ((-2147483648 : Int) ≤ 0 ∧ (0 : Int) ≤ 2147483647) ∧ (0 ≤ (0 : Int)) ∧ ((0 : Int) ≤ 16) ∧ (0 ≤ 17 - (0 : Int)) := by first | omega | exact ⟨by first | omega | assumption | exact trivial, by first | omega | assumption | exact trivial, by first | omega | assumption | exact trivial, by first | omega | assumption | exact trivial⟩
  exact LL2 (Int.toNat (17 - (0 : Int) + 1)) 0 ls (lv_sub hl [1, 2, 3, 0] rfl) hv42.1 hv42.2.1 hv42.2.2.1 hv42.2.2.2 (by omega)
