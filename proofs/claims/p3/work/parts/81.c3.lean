def mo_X5_put : List Nat := [2688, 2720]
set_option maxHeartbeats 1000000 in
set_option maxRecDepth 20000 in
theorem k_X5_put (l : Launch) (D : va_G) (dA : Nat → ClassId) (eA : Nat) (L : List Nat) (T N : Nat → Nat) (I : Nat → Nat → Int) (J : Nat → Nat → Int64) (R : Nat → Nat → Nat) (a_this : Nat) (t_this : T a_this = 12) (a_m : Int) (i_m : (-2147483648 : Int) ≤ a_m ∧ a_m ≤ 2147483647) (a_v : Int) (i_v : (-2147483648 : Int) ≤ a_v ∧ a_v ≤ 2147483647) (a_s : Int) (i_s : (0 : Int) ≤ a_s ∧ a_s ≤ 1) : GC l yX5_put cX5_put 4 none ({ frames := 0, cells := 0, slots := 0, locals := 0 }) D dA eA L T N I J R [.ref a_this, .int (II a_m), .int (II a_v), .int (II a_s)] 0 0 (gV (fun L' T' N' I' J' R' dz dl => L' = L ∧ T' = T ∧ N' = N ∧ J' = J ∧ R' = R ∧ Fr mo_X5_put [] T N I J R T' N' I' J' R' ∧ True)) := by
  generalize hPST : (gV (fun L' T' N' I' J' R' dz dl => L' = L ∧ T' = T ∧ N' = N ∧ J' = J ∧ R' = R ∧ Fr mo_X5_put [] T N I J R T' N' I' J' R' ∧ True)) = PST
  refine g_enter (own := RX5) (by decide) rfl (Nat.le_of_ble_eq_true rfl) (fun p e s m args below meth c ls hm B hX hM hl => ?_)
  have hC0 := hM.2.2.2.2.2.2.1
  have hW0 := hM.2.2.2
  have hF : Fr mo_X5_put [] T N I J R T N I J R := Fr.rf
  have hA : ∀ q, s.heap.size ≤ q → cF dA L T N I J R s.heap.size q := fun q h => Or.inr h
  have hl : lv_has ls 4 [(0, .ref a_this), (1, .int (II a_m)), (2, .int (II a_v)), (3, .int (II a_s))] := hl
  refine lv_iload_n B.1 B.2.1 dX5_put_0 rfl (lv_at hl 1 rfl) ?_
  refine q_ilt (tgt := 35) B dX5_put_1 (by decide) (by unfold inr; omega) (fun c1 => ?_) (fun c1 => ?_)
  · refine g_vret B hM dX5_put_35 ⟨Nat.le_refl _, Nat.le_refl _⟩ ?_
    rw [← hPST]
    exact ⟨rfl, rfl, rfl, rfl, rfl, rfl, hF, by first | omega | assumption | exact trivial⟩
  · refine lv_iload_n B.1 B.2.1 dX5_put_4 rfl (lv_at hl 1 rfl) ?_
    refine lv_aload_n B.1 B.2.1 dX5_put_5 rfl (lv_at hl 0 rfl) ?_
    obtain ⟨b2, e3, t4⟩ := g12_2 hC0 t_this
    refine c_getn (k := 2) pk_X5 B hM t_this kd12 rfl (by decide) fl_X5_27 dX5_put_6 e3 ?_
    have n5 : 0 ≤ N b2 ∧ N b2 ≤ 12 := gn84 hM.2.2.2.2.2.2.1 t4
    refine c_len B hM t4 kd84 (by decide) dX5_put_9 rfl ?_
    refine q_cge (tgt := 35) B dX5_put_10 (by decide) (by unfold inr; omega) (by unfold inr; omega) (fun c6 => ?_) (fun c6 => ?_)
    · refine g_vret B hM dX5_put_35 ⟨Nat.le_refl _, Nat.le_refl _⟩ ?_
      rw [← hPST]
      exact ⟨rfl, rfl, rfl, rfl, rfl, rfl, hF, by first | omega | assumption | exact trivial⟩
    · obtain ⟨b7, e8, t9⟩ := g12_0 hC0 t_this
      obtain ⟨b10, e11, t12⟩ := g11_3 hC0 t9
      obtain ⟨b13, e14, t15⟩ := g12_3 hC0 t_this
      obtain ⟨b16, e17, t18⟩ := g12_4 hC0 t_this
      obtain ⟨b19, e20, t21⟩ := g12_5 hC0 t_this
      obtain ⟨gp22a, gp22b, gp22c, gp22d⟩ := gp2 hM.2.2.2.2.2.2.2 t_this e8 e11 e3 e14 e17 e20
      refine lv_aload_n B.1 B.2.1 dX5_put_13 rfl (lv_at hl 0 rfl) ?_
      refine c_getn (k := 2) pk_X5 B hM t_this kd12 rfl (by decide) fl_X5_27 dX5_put_14 e3 ?_
      refine lv_iload_n B.1 B.2.1 dX5_put_17 rfl (lv_at hl 1 rfl) ?_
      refine lv_iload_n B.1 B.2.1 dX5_put_18 rfl (lv_at hl 3 rfl) ?_
      refine q_ieq (tgt := 26) B dX5_put_19 (by decide) (by unfold inr; omega) (fun c23 => ?_) (fun c23 => ?_)
      · refine q_con B dX5_put_26 ?_
        refine c_ist B hM t4 kd84 aq84 dX5_put_27 (by omega) (by omega) (show (-2147483648 : Int) ≤ 0 from by omega) (show 0 ≤ (2147483647 : Int) from by omega) (fun I25 H locs hu24 hM => ?_)
        have e26 : I25 b2 a_m.toNat = 0 := w2_at hu24
        replace hF : Fr mo_X5_put [] T N I J R T N I25 J R := hF.wi hu24 (fun _ _ => by rw [t4, cd_arr (j := 0) (by decide)]; rfl)
        obtain ⟨gp27a, gp27b, gp27c, gp27d⟩ := gp2 hM.2.2.2.2.2.2.2 t_this e8 e11 e3 e14 e17 e20
        refine lv_aload_n B.1 B.2.1 dX5_put_28 rfl (lv_at hl 0 rfl) ?_
        refine c_getn (k := 3) pk_X5 B hM t_this kd12 rfl (by decide) fl_X5_31 dX5_put_29 e14 ?_
        refine lv_iload_n B.1 B.2.1 dX5_put_32 rfl (lv_at hl 1 rfl) ?_
        refine lv_iload_n B.1 B.2.1 dX5_put_33 rfl (lv_at hl 3 rfl) ?_
        have n28 : 0 ≤ N b13 ∧ N b13 ≤ 12 := gn85 hM.2.2.2.2.2.2.1 t15
        refine c_zst B hM t15 kd85 aq85 dX5_put_34 (by omega) (by omega) (by omega) (by omega) (fun I30 H locs hu29 hM => ?_)
        have e31 : I30 b13 a_m.toNat = a_s := w2_at hu29
        replace hF : Fr mo_X5_put [] T N I J R T N I30 J R := hF.wi hu29 (fun _ _ => by rw [t15, cd_arr (j := 0) (by decide)]; rfl)
        refine g_vret B hM dX5_put_35 ⟨Nat.le_refl _, Nat.le_refl _⟩ ?_
        rw [← hPST]
        exact ⟨rfl, rfl, rfl, rfl, rfl, rfl, hF, by first | omega | assumption | exact trivial⟩
      · refine lv_iload_n B.1 B.2.1 dX5_put_22 rfl (lv_at hl 2 rfl) ?_
        refine lv_goto (tgt := 27) B.1 B.2.1 dX5_put_23 (by decide) ?_
        refine c_ist B hM t4 kd84 aq84 dX5_put_27 (by omega) (by omega) (show (-2147483648 : Int) ≤ a_v from by omega) (show a_v ≤ (2147483647 : Int) from by omega) (fun I33 H locs hu32 hM => ?_)
        have e34 : I33 b2 a_m.toNat = a_v := w2_at hu32
        replace hF : Fr mo_X5_put [] T N I J R T N I33 J R := hF.wi hu32 (fun _ _ => by rw [t4, cd_arr (j := 0) (by decide)]; rfl)
        obtain ⟨gp35a, gp35b, gp35c, gp35d⟩ := gp2 hM.2.2.2.2.2.2.2 t_this e8 e11 e3 e14 e17 e20
        refine lv_aload_n B.1 B.2.1 dX5_put_28 rfl (lv_at hl 0 rfl) ?_
        refine c_getn (k := 3) pk_X5 B hM t_this kd12 rfl (by decide) fl_X5_31 dX5_put_29 e14 ?_
        refine lv_iload_n B.1 B.2.1 dX5_put_32 rfl (lv_at hl 1 rfl) ?_
        refine lv_iload_n B.1 B.2.1 dX5_put_33 rfl (lv_at hl 3 rfl) ?_
        have n36 : 0 ≤ N b13 ∧ N b13 ≤ 12 := gn85 hM.2.2.2.2.2.2.1 t15
        refine c_zst B hM t15 kd85 aq85 dX5_put_34 (by omega) (by omega) (by omega) (by omega) (fun I38 H locs hu37 hM => ?_)
        have e39 : I38 b13 a_m.toNat = a_s := w2_at hu37
        replace hF : Fr mo_X5_put [] T N I J R T N I38 J R := hF.wi hu37 (fun _ _ => by rw [t15, cd_arr (j := 0) (by decide)]; rfl)
        refine g_vret B hM dX5_put_35 ⟨Nat.le_refl _, Nat.le_refl _⟩ ?_
        rw [← hPST]
        exact ⟨rfl, rfl, rfl, rfl, rfl, rfl, hF, by first | omega | assumption | exact trivial⟩

def mo_X5_isFirstProposal : List Nat := [2816]
set_option maxHeartbeats 1000000 in
set_option maxRecDepth 20000 in
theorem k_X5_isFirstProposal (l : Launch) (D : va_G) (dA : Nat → ClassId) (eA : Nat) (L : List Nat) (T N : Nat → Nat) (I : Nat → Nat → Int) (J : Nat → Nat → Int64) (R : Nat → Nat → Nat) (a_this : Nat) (t_this : T a_this = 12) (a_m : Int) (i_m : (-2147483648 : Int) ≤ a_m ∧ a_m ≤ 2147483647) (a_s : Int) (i_s : (-2147483648 : Int) ≤ a_s ∧ a_s ≤ 2147483647) : GC l yX5_isFirstProposal cX5_isFirstProposal 3 (some .boolean) ({ frames := 0, cells := 0, slots := 0, locals := 0 }) D dA eA L T N I J R [.ref a_this, .int (II a_m), .int (II a_s)] 0 0 (gI (fun r L' T' N' I' J' R' dz dl => L' = L ∧ T' = T ∧ N' = N ∧ J' = J ∧ R' = R ∧ Fr mo_X5_isFirstProposal [] T N I J R T' N' I' J' R' ∧ (0 : Int) ≤ r ∧ r ≤ 1 ∧ (True))) := by
  generalize hPST : (gI (fun r L' T' N' I' J' R' dz dl => L' = L ∧ T' = T ∧ N' = N ∧ J' = J ∧ R' = R ∧ Fr mo_X5_isFirstProposal [] T N I J R T' N' I' J' R' ∧ (0 : Int) ≤ r ∧ r ≤ 1 ∧ (True))) = PST
  refine g_enter (own := RX5) (by decide) rfl (Nat.le_of_ble_eq_true rfl) (fun p e s m args below meth c ls hm B hX hM hl => ?_)
  have hC0 := hM.2.2.2.2.2.2.1
  have hW0 := hM.2.2.2
  have hF : Fr mo_X5_isFirstProposal [] T N I J R T N I J R := Fr.rf
  have hA : ∀ q, s.heap.size ≤ q → cF dA L T N I J R s.heap.size q := fun q h => Or.inr h
  have hl : lv_has ls 3 [(0, .ref a_this), (1, .int (II a_m)), (2, .int (II a_s))] := hl
  refine lv_iload_n B.1 B.2.1 dX5_isFirstProposal_0 rfl (lv_at hl 1 rfl) ?_
  refine q_ilt (tgt := 23) B dX5_isFirstProposal_1 (by decide) (by unfold inr; omega) (fun c1 => ?_) (fun c1 => ?_)
  · refine q_con B dX5_isFirstProposal_23 ?_
    refine g_zret B hM dX5_isFirstProposal_24 ⟨Nat.le_refl _, Nat.le_refl _⟩ (by omega) (by omega) ?_
    rw [← hPST]
    exact ⟨(0), rfl, by omega, rfl, rfl, rfl, rfl, rfl, hF, by omega, by omega, by first | omega | assumption | exact trivial⟩
  · refine lv_iload_n B.1 B.2.1 dX5_isFirstProposal_4 rfl (lv_at hl 1 rfl) ?_
    refine lv_aload_n B.1 B.2.1 dX5_isFirstProposal_5 rfl (lv_at hl 0 rfl) ?_
    obtain ⟨b2, e3, t4⟩ := g12_2 hC0 t_this
    refine c_getn (k := 2) pk_X5 B hM t_this kd12 rfl (by decide) fl_X5_27 dX5_isFirstProposal_6 e3 ?_
    have n5 : 0 ≤ N b2 ∧ N b2 ≤ 12 := gn84 hM.2.2.2.2.2.2.1 t4
    refine c_len B hM t4 kd84 (by decide) dX5_isFirstProposal_9 rfl ?_
    refine q_cge (tgt := 23) B dX5_isFirstProposal_10 (by decide) (by unfold inr; omega) (by unfold inr; omega) (fun c6 => ?_) (fun c6 => ?_)
    · refine q_con B dX5_isFirstProposal_23 ?_
      refine g_zret B hM dX5_isFirstProposal_24 ⟨Nat.le_refl _, Nat.le_refl _⟩ (by omega) (by omega) ?_
      rw [← hPST]
      exact ⟨(0), rfl, by omega, rfl, rfl, rfl, rfl, rfl, hF, by omega, by omega, by first | omega | assumption | exact trivial⟩
    · obtain ⟨b7, e8, t9⟩ := g12_0 hC0 t_this
      obtain ⟨b10, e11, t12⟩ := g11_3 hC0 t9
      obtain ⟨b13, e14, t15⟩ := g12_3 hC0 t_this
      obtain ⟨b16, e17, t18⟩ := g12_4 hC0 t_this
      obtain ⟨b19, e20, t21⟩ := g12_5 hC0 t_this
      obtain ⟨gp22a, gp22b, gp22c, gp22d⟩ := gp2 hM.2.2.2.2.2.2.2 t_this e8 e11 e3 e14 e17 e20
      refine lv_aload_n B.1 B.2.1 dX5_isFirstProposal_13 rfl (lv_at hl 0 rfl) ?_
      refine c_getn (k := 5) pk_X5 B hM t_this kd12 rfl (by decide) fl_X5_40 dX5_isFirstProposal_14 e20 ?_
      refine lv_iload_n B.1 B.2.1 dX5_isFirstProposal_17 rfl (lv_at hl 1 rfl) ?_
      have n23 : 0 ≤ N b19 ∧ N b19 ≤ 12 := gn88 hM.2.2.2.2.2.2.1 t21
      obtain ⟨x24, e25⟩ : ∃ v, I b19 a_m.toNat = v := ⟨_, rfl⟩
      have r26 : (-2147483648 : Int) ≤ x24 ∧ x24 ≤ 2147483647 := by rw [← e25]; exact ga88 hM.2.2.2.2.2.2.1 t21 (by omega)
      refine c_ild B hM t21 kd88 an88 dX5_isFirstProposal_18 (by omega) (by omega) e25 ?_
      refine lv_iload_n B.1 B.2.1 dX5_isFirstProposal_19 rfl (lv_at hl 2 rfl) ?_
      refine q_cne (tgt := 25) B dX5_isFirstProposal_20 (by decide) (by unfold inr; omega) (by unfold inr; omega) (fun c27 => ?_) (fun c27 => ?_)
      · obtain ⟨gp28a, gp28b, gp28c, gp28d⟩ := gp2 hM.2.2.2.2.2.2.2 t_this e8 e11 e3 e14 e17 e20
        refine lv_aload_n B.1 B.2.1 dX5_isFirstProposal_25 rfl (lv_at hl 0 rfl) ?_
        refine c_getn (k := 5) pk_X5 B hM t_this kd12 rfl (by decide) fl_X5_40 dX5_isFirstProposal_26 e20 ?_
        refine lv_iload_n B.1 B.2.1 dX5_isFirstProposal_29 rfl (lv_at hl 1 rfl) ?_
        refine lv_iload_n B.1 B.2.1 dX5_isFirstProposal_30 rfl (lv_at hl 2 rfl) ?_
        refine c_ist B hM t21 kd88 aq88 dX5_isFirstProposal_31 (by omega) (by omega) (show (-2147483648 : Int) ≤ a_s from by omega) (show a_s ≤ (2147483647 : Int) from by omega) (fun I30 H locs hu29 hM => ?_)
        have e31 : I30 b19 a_m.toNat = a_s := w2_at hu29
        replace hF : Fr mo_X5_isFirstProposal [] T N I J R T N I30 J R := hF.wi hu29 (fun _ _ => by rw [t21, cd_arr (j := 0) (by decide)]; rfl)
        refine q_con B dX5_isFirstProposal_32 ?_
        refine g_zret B hM dX5_isFirstProposal_33 ⟨Nat.le_refl _, Nat.le_refl _⟩ (by omega) (by omega) ?_
        rw [← hPST]
        exact ⟨(1), rfl, by omega, rfl, rfl, rfl, rfl, rfl, hF, by omega, by omega, by first | omega | assumption | exact trivial⟩
      · refine q_con B dX5_isFirstProposal_23 ?_
        refine g_zret B hM dX5_isFirstProposal_24 ⟨Nat.le_refl _, Nat.le_refl _⟩ (by omega) (by omega) ?_
        rw [← hPST]
        exact ⟨(0), rfl, by omega, rfl, rfl, rfl, rfl, rfl, hF, by omega, by omega, by first | omega | assumption | exact trivial⟩

def mo_X0_tell : List Nat := [2272, 2304, 203]
set_option maxHeartbeats 1000000 in
set_option maxRecDepth 20000 in
theorem k_X0_tell (l : Launch) (D : va_G) (dA : Nat → ClassId) (eA : Nat) (L : List Nat) (T N : Nat → Nat) (I : Nat → Nat → Int) (J : Nat → Nat → Int64) (R : Nat → Nat → Nat) (a_this : Nat) (t_this : T a_this = 6) (a_name : Int64) (a_code : Int) (i_code : (-2147483648 : Int) ≤ a_code ∧ a_code ≤ 2147483647) : GC l yX0_tell cX0_tell 4 none ({ frames := 0, cells := 0, slots := 0, locals := 0 }) D dA eA L T N I J R [.ref a_this, .long a_name, .int (II a_code)] 0 0 (gV (fun L' T' N' I' J' R' dz dl => L' = L ∧ T' = T ∧ N' = N ∧ R' = R ∧ Fr mo_X0_tell [] T N I J R T' N' I' J' R' ∧ True)) := by
  generalize hPST : (gV (fun L' T' N' I' J' R' dz dl => L' = L ∧ T' = T ∧ N' = N ∧ R' = R ∧ Fr mo_X0_tell [] T N I J R T' N' I' J' R' ∧ True)) = PST
  refine g_enter (own := RX0) (by decide) rfl (Nat.le_of_ble_eq_true rfl) (fun p e s m args below meth c ls hm B hX hM hl => ?_)
  have hC0 := hM.2.2.2.2.2.2.1
  have hW0 := hM.2.2.2
  have hF : Fr mo_X0_tell [] T N I J R T N I J R := Fr.rf
  have hA : ∀ q, s.heap.size ≤ q → cF dA L T N I J R s.heap.size q := fun q h => Or.inr h
  have hl : lv_has ls 4 [(0, .ref a_this), (1, .long a_name), (3, .int (II a_code))] := hl
  refine lv_aload_n B.1 B.2.1 dX0_tell_0 rfl (lv_at hl 0 rfl) ?_
  obtain ⟨x1, e2⟩ : ∃ v, I a_this 11 = v := ⟨_, rfl⟩
  have r3 : (0 : Int) ≤ x1 ∧ x1 ≤ 62 := by rw [← e2]; exact g6_11 hM.2.2.2.2.2.2.1 t_this
  refine c_geti (k := 11) pk_X0 B hM t_this kd6 rfl (by decide) fl_X0_49 dX0_tell_1 e2 ?_
  refine q_bip B dX0_tell_4 (by decide) ?_
  refine q_cge (tgt := 39) B dX0_tell_6 (by decide) (by unfold inr; omega) (by unfold inr; omega) (fun c4 => ?_) (fun c4 => ?_)
  · refine g_vret B hM dX0_tell_39 ⟨Nat.le_refl _, Nat.le_refl _⟩ ?_
    rw [← hPST]
    exact ⟨rfl, rfl, rfl, rfl, rfl, hF, by first | omega | assumption | exact trivial⟩
  · refine lv_aload_n B.1 B.2.1 dX0_tell_9 rfl (lv_at hl 0 rfl) ?_
    obtain ⟨b5, e6, t7⟩ := g6_9 hC0 t_this
    refine c_getn (k := 9) pk_X0 B hM t_this kd6 rfl (by decide) fl_X0_36 dX0_tell_10 e6 ?_
    refine lv_aload_n B.1 B.2.1 dX0_tell_13 rfl (lv_at hl 0 rfl) ?_
    refine c_geti (k := 11) pk_X0 B hM t_this kd6 rfl (by decide) fl_X0_49 dX0_tell_14 e2 ?_
    refine lv_lload_n B.1 B.2.1 dX0_tell_17 rfl (lv_at hl 1 rfl) ?_
    have n8 : 62 ≤ N b5 ∧ N b5 ≤ 62 := gn71 hM.2.2.2.2.2.2.1 t7
    refine c_lst B hM t7 kd71 an71 dX0_tell_18 (by omega) (by omega) (fun J10 H locs hu9 hM => ?_)
    have e11 : J10 b5 x1.toNat = a_name := w2_at hu9
    replace hF : Fr mo_X0_tell [] T N I J R T N I J10 R := hF.wj hu9 (fun _ _ => by rw [t7, cd_arr (j := 0) (by decide)]; rfl)
    refine lv_aload_n B.1 B.2.1 dX0_tell_19 rfl (lv_at hl 0 rfl) ?_
    obtain ⟨b12, e13, t14⟩ := g6_10 hC0 t_this
    refine c_getn (k := 10) pk_X0 B hM t_this kd6 rfl (by decide) fl_X0_40 dX0_tell_20 e13 ?_
    refine lv_aload_n B.1 B.2.1 dX0_tell_23 rfl (lv_at hl 0 rfl) ?_
    refine c_geti (k := 11) pk_X0 B hM t_this kd6 rfl (by decide) fl_X0_49 dX0_tell_24 e2 ?_
    refine lv_iload_n B.1 B.2.1 dX0_tell_27 rfl (lv_at hl 2 rfl) ?_
    have n15 : 62 ≤ N b12 ∧ N b12 ≤ 62 := gn72 hM.2.2.2.2.2.2.1 t14
    refine c_ist B hM t14 kd72 aq72 dX0_tell_28 (by omega) (by omega) (show (-2147483648 : Int) ≤ a_code from by omega) (show a_code ≤ (2147483647 : Int) from by omega) (fun I17 H locs hu16 hM => ?_)
    have e18 : I17 b12 x1.toNat = a_code := w2_at hu16
    replace hF : Fr mo_X0_tell [] T N I J R T N I17 J10 R := hF.wi hu16 (fun _ _ => by rw [t14, cd_arr (j := 0) (by decide)]; rfl)
    refine lv_aload_n B.1 B.2.1 dX0_tell_29 rfl (lv_at hl 0 rfl) ?_
    refine lv_dup B.1 B.2.1 dX0_tell_30 rfl ?_
    have e19 : I17 a_this 11 = x1 := (w2_ne hu16 (Or.inl (tne t_this t14 (by decide)))).trans e2
    refine c_geti (k := 11) pk_X0 B hM t_this kd6 rfl (by decide) fl_X0_49 dX0_tell_31 e19 ?_
    refine q_con B dX0_tell_34 ?_
    refine q_add B dX0_tell_35 ?_
    refine c_puti (k := 11) pk_X0 B hM t_this kd6 rfl (by decide) fl_X0_49 (Or.inl rfl) dX0_tell_36 rfl rfl rfl (show (0 : Int) ≤ x1 + (1 : Int) from by omega) (show x1 + (1 : Int) ≤ (62 : Int) from by omega) (fun I20 H locs hu21 hM => ?_)
    have e22 : I20 a_this 11 = x1 + (1 : Int) := w2_at hu21
    replace hF : Fr mo_X0_tell [] T N I J R T N I20 J10 R := hF.wi hu21 (fun _ _ => by rw [t_this]; rfl)
    refine g_vret B hM dX0_tell_39 ⟨Nat.le_refl _, Nat.le_refl _⟩ ?_
    rw [← hPST]
    exact ⟨rfl, rfl, rfl, rfl, rfl, hF, by first | omega | assumption | exact trivial⟩

def mo_X0_addGroup : List Nat := [2240, 198]
set_option maxHeartbeats 1000000 in
set_option maxRecDepth 20000 in
theorem k_X0_addGroup (l : Launch) (D : va_G) (dA : Nat → ClassId) (eA : Nat) (L : List Nat) (T N : Nat → Nat) (I : Nat → Nat → Int) (J : Nat → Nat → Int64) (R : Nat → Nat → Nat) (a_this : Nat) (t_this : T a_this = 6) (a_row : Nat) (t_row : T a_row = 65) (a_n : Int) (i_n : (-2147483648 : Int) ≤ a_n ∧ a_n ≤ 2147483647) (p_0 : 0 ≤ a_n) (p_1 : a_n ≤ 8) : GC l yX0_addGroup cX0_addGroup 5 none ({ frames := 1, cells := 0, slots := 0, locals := 21 }) D dA eA L T N I J R [.ref a_this, .ref a_row, .int (II a_n)] 0 0 (gV (fun L' T' N' I' J' R' dz dl => L' = L ∧ T' = T ∧ N' = N ∧ J' = J ∧ R' = R ∧ Fr mo_X0_addGroup [] T N I J R T' N' I' J' R' ∧ True)) := by
  generalize hPST : (gV (fun L' T' N' I' J' R' dz dl => L' = L ∧ T' = T ∧ N' = N ∧ J' = J ∧ R' = R ∧ Fr mo_X0_addGroup [] T N I J R T' N' I' J' R' ∧ True)) = PST
  refine g_enter (own := RX0) (by decide) rfl (Nat.le_of_ble_eq_true rfl) (fun p e s m args below meth c ls hm B hX hM hl => ?_)
  have hC0 := hM.2.2.2.2.2.2.1
  have hW0 := hM.2.2.2
  have hF : Fr mo_X0_addGroup [] T N I J R T N I J R := Fr.rf
  have hA : ∀ q, s.heap.size ≤ q → cF dA L T N I J R s.heap.size q := fun q h => Or.inr h
  have hl : lv_has ls 5 [(0, .ref a_this), (1, .ref a_row), (2, .int (II a_n))] := hl
  refine lv_aload_n B.1 B.2.1 dX0_addGroup_0 rfl (lv_at hl 0 rfl) ?_
  obtain ⟨x1, e2⟩ : ∃ v, I a_this 6 = v := ⟨_, rfl⟩
  have r3 : (1 : Int) ≤ x1 ∧ x1 ≤ 8 := by rw [← e2]; exact g6_6 hM.2.2.2.2.2.2.1 t_this
  refine c_geti (k := 6) pk_X0 B hM t_this kd6 rfl (by decide) fl_X0_43 dX0_addGroup_1 e2 ?_
  refine q_bip B dX0_addGroup_4 (by decide) ?_
  refine q_cge (tgt := 62) B dX0_addGroup_6 (by decide) (by unfold inr; omega) (by unfold inr; omega) (fun c4 => ?_) (fun c4 => ?_)
  · refine g_vret B hM dX0_addGroup_62 ⟨Nat.le_refl _, Nat.le_refl _⟩ ?_
    rw [← hPST]
    exact ⟨rfl, rfl, rfl, rfl, rfl, rfl, hF, by first | omega | assumption | exact trivial⟩
  · refine q_con B dX0_addGroup_9 ?_
    refine lv_aload_n B.1 B.2.1 dX0_addGroup_10 rfl (lv_at hl 0 rfl) ?_
    refine c_geti (k := 6) pk_X0 B hM t_this kd6 rfl (by decide) fl_X0_43 dX0_addGroup_11 e2 ?_
    refine q_shl B dX0_addGroup_14 (fun x5 ix5 => ?_)
    unfold inr at ix5
    refine lv_istore_n (lv' := [(3, .int (II x5)), (0, .ref a_this), (1, .ref a_row), (2, .int (II a_n))]) B.1 B.2.1 dX0_addGroup_15 rfl hl (by decide) rfl (fun ls hl => ?_)
    refine q_con B dX0_addGroup_16 ?_
    refine lv_istore (lv' := [(4, .int (II 0)), (3, .int (II x5)), (0, .ref a_this), (1, .ref a_row), (2, .int (II a_n))]) B.1 B.2.1 dX0_addGroup_17 hl (by decide) rfl (fun ls hl => ?_)
    have LL19 : ∀ NN : Nat, ∀ (v19_3 : Int) (v19_4 : Int) (I_19 : Nat → Nat → Int) (H : Heap) (locs : List Loc) (ls : Array Slot), (CWd D dA eA (cF dA L T N I J R s.heap.size) s.heap L T N I_19 J R H locs) → (Fr mo_X0_addGroup [] T N I J R T N I_19 J R) → lv_has ls 5 [(0, .ref a_this), (1, .ref a_row), (2, .int (II a_n)), (3, .int (II v19_3)), (4, .int (II v19_4))] → ((-2147483648 : Int) ≤ v19_3 ∧ v19_3 ≤ 2147483647) → ((-2147483648 : Int) ≤ v19_4 ∧ v19_4 ≤ 2147483647) → (0 ≤ v19_4) → (v19_4 ≤ a_n) → (I_19 a_this 6 < 8) → (0 ≤ a_n - v19_4) → (a_n - v19_4 < (NN : Int)) → W p l e ({ frames := 1, cells := 0, slots := 0, locals := 21 }) s m args below meth c H locs 0 0 (MQ below (gQ D dA eA (cF dA L T N I J R s.heap.size) s.heap.size (hs s.heap) PST) args s 0 0 (cF dA L T N I J R s.heap.size)) (F0 m 19 ls []) := by
      intro NN
      induction NN with
      | zero => intro v19_3 v19_4 I_19 H locs ls hM hF hl hLL19_0 hLL19_1 hLL19_2 hLL19_3 hLL19_4 hLL19_5 hN; exfalso; omega
      | succ NN IH19 =>
        intro v19_3 v19_4 I_19 H locs ls hM hF hl hLL19_0 hLL19_1 hLL19_2 hLL19_3 hLL19_4 hLL19_5 hN
        refine lv_iload B.1 B.2.1 dX0_addGroup_19 (lv_at hl 4 rfl) ?_
        refine lv_iload_n B.1 B.2.1 dX0_addGroup_21 rfl (lv_at hl 2 rfl) ?_
        refine q_cge (tgt := 42) B dX0_addGroup_22 (by decide) (by unfold inr; omega) (by unfold inr; omega) (fun c6 => ?_) (fun c6 => ?_)
        · refine lv_aload_n B.1 B.2.1 dX0_addGroup_42 rfl (lv_at hl 0 rfl) ?_
          obtain ⟨b7, e8, t9⟩ := g6_8 hC0 t_this
          refine c_getn (k := 8) pk_X0 B hM t_this kd6 rfl (by decide) fl_X0_33 dX0_addGroup_43 e8 ?_
          refine lv_aload_n B.1 B.2.1 dX0_addGroup_46 rfl (lv_at hl 0 rfl) ?_
          obtain ⟨x10, e11⟩ : ∃ v, I_19 a_this 6 = v := ⟨_, rfl⟩
          have r12 : (1 : Int) ≤ x10 ∧ x10 ≤ 8 := by rw [← e11]; exact g6_6 hM.2.2.2.2.2.2.1 t_this
          refine c_geti (k := 6) pk_X0 B hM t_this kd6 rfl (by decide) fl_X0_43 dX0_addGroup_47 e11 ?_
          refine lv_iload_n B.1 B.2.1 dX0_addGroup_50 rfl (lv_at hl 3 rfl) ?_
          have n13 : 8 ≤ N b7 ∧ N b7 ≤ 8 := gn70 hM.2.2.2.2.2.2.1 t9
          refine c_ist B hM t9 kd70 aq70 dX0_addGroup_51 (by omega) (by omega) (show (-2147483648 : Int) ≤ v19_3 from by omega) (show v19_3 ≤ (2147483647 : Int) from by omega) (fun I15 H locs hu14 hM => ?_)
          have e16 : I15 b7 x10.toNat = v19_3 := w2_at hu14
          replace hF : Fr mo_X0_addGroup [] T N I J R T N I15 J R := hF.wi hu14 (fun _ _ => by rw [t9, cd_arr (j := 0) (by decide)]; rfl)
          refine lv_aload_n B.1 B.2.1 dX0_addGroup_52 rfl (lv_at hl 0 rfl) ?_
          refine lv_dup B.1 B.2.1 dX0_addGroup_53 rfl ?_
          have e17 : I15 a_this 6 = x10 := (w2_ne hu14 (Or.inl (tne t_this t9 (by decide)))).trans e11
          refine c_geti (k := 6) pk_X0 B hM t_this kd6 rfl (by decide) fl_X0_43 dX0_addGroup_54 e17 ?_
          refine q_con B dX0_addGroup_57 ?_
          refine q_add B dX0_addGroup_58 ?_
          refine c_puti (k := 6) pk_X0 B hM t_this kd6 rfl (by decide) fl_X0_43 (Or.inl rfl) dX0_addGroup_59 rfl rfl rfl (show (1 : Int) ≤ x10 + (1 : Int) from by omega) (show x10 + (1 : Int) ≤ (8 : Int) from by omega) (fun I18 H locs hu19 hM => ?_)
          have e20 : I18 a_this 6 = x10 + (1 : Int) := w2_at hu19
          replace hF : Fr mo_X0_addGroup [] T N I J R T N I18 J R := hF.wi hu19 (fun _ _ => by rw [t_this]; rfl)
          refine g_vret B hM dX0_addGroup_62 ⟨Nat.le_refl _, Nat.le_refl _⟩ ?_
          rw [← hPST]
          exact ⟨rfl, rfl, rfl, rfl, rfl, rfl, hF, by first | omega | assumption | exact trivial⟩
        · refine lv_iload_n B.1 B.2.1 dX0_addGroup_25 rfl (lv_at hl 3 rfl) ?_
          refine lv_aload_n B.1 B.2.1 dX0_addGroup_26 rfl (lv_at hl 0 rfl) ?_
          refine lv_aload_n B.1 B.2.1 dX0_addGroup_27 rfl (lv_at hl 1 rfl) ?_
          refine lv_iload B.1 B.2.1 dX0_addGroup_28 (lv_at hl 4 rfl) ?_
          have n21 : 8 ≤ N a_row ∧ N a_row ≤ 8 := gn65 hM.2.2.2.2.2.2.1 t_row
          obtain ⟨x22, e23⟩ : ∃ v, I a_row v19_4.toNat = v := ⟨_, rfl⟩
          have e24 : I_19 a_row v19_4.toNat = x22 := (hF.i t_row (by decide) nm0 (by rw [cd_arr (j := 0) (by decide)]; rfl)).trans e23
          have r25 : (-2147483648 : Int) ≤ x22 ∧ x22 ≤ 2147483647 := by rw [← e24]; exact ga65 hM.2.2.2.2.2.2.1 t_row (by omega)
          refine c_ild B hM t_row kd65 an65 dX0_addGroup_30 (by omega) (by omega) e24 ?_
          refine p_calli (c_runV (n := 1) (as := [.int (II x22)]) (rest := [.int (II v19_3)]) B hX hA hM hl.1 t_this kd6 rfl (k_X0_maskOf l D dA eA L T N I_19 J R a_this t_this x22 (by first | omega | assumption | exact trivial) _ _) ml_X0_57 nm_X0_maskOf ⟨rfl, rfl⟩ ⟨Nat.le_of_ble_eq_true rfl, Nat.le_of_ble_eq_true rfl⟩ dX0_addGroup_31 rfl rfl (Nat.le_of_ble_eq_true rfl) ⟨Nat.zero_le _, Nat.zero_le _⟩) (fun x27 ix27 hp26 => ?_)
          have hp26a := hp26
          clear hp26a
          refine q_or B dX0_addGroup_34 (fun x28 ix28 ex28 => ?_)
          unfold inr at ix28
          refine lv_istore_n (lv' := [(3, .int (II x28)), (0, .ref a_this), (1, .ref a_row), (2, .int (II a_n)), (4, .int (II v19_4))]) B.1 B.2.1 dX0_addGroup_35 rfl hl (by decide) rfl (fun ls hl => ?_)
          refine q_inc (lv' := [(4, .int (II (v19_4 + 1))), (3, .int (II x28)), (0, .ref a_this), (1, .ref a_row), (2, .int (II a_n))]) B dX0_addGroup_36 hl (k := 4) rfl (by decide) rfl (fun ls hl => ?_)
          refine lv_goto (tgt := 19) B.1 B.2.1 dX0_addGroup_39 (by decide) ?_
          obtain ⟨x29, e30⟩ : ∃ v, I_19 a_this 6 = v := ⟨_, rfl⟩
          have hv31 : ((-2147483648 : Int) ≤ x28 ∧ (x28 : Int) ≤ 2147483647) ∧ ((-2147483648 : Int) ≤ v19_4 + 1 ∧ (v19_4 + 1 : Int) ≤ 2147483647) ∧ (0 ≤ (v19_4 + 1)) ∧ ((v19_4 + 1) ≤ a_n) ∧ (I_19 a_this 6 < 8) ∧ (0 ≤ a_n - (v19_4 + 1)) := by first | omega | exact ⟨by first | omega | assumption | exact trivial, by first | omega | assumption | exact trivial, by first | omega | assumption | exact trivial, by first | omega | assumption | exact trivial, by first | omega | assumption | exact trivial, by first | omega | assumption | exact trivial⟩
          exact IH19 x28 (v19_4 + 1) I_19 _ _ ls hM hF (lv_sub hl [2, 3, 4, 1, 0] rfl) hv31.1 hv31.2.1 hv31.2.2.1 hv31.2.2.2.1 hv31.2.2.2.2.1 hv31.2.2.2.2.2 (by omega)
    have hv32 : ((-2147483648 : Int) ≤ x5 ∧ (x5 : Int) ≤ 2147483647) ∧ ((-2147483648 : Int) ≤ 0 ∧ (0 : Int) ≤ 2147483647) ∧ (0 ≤ (0 : Int)) ∧ ((0 : Int) ≤ a_n) ∧ (I a_this 6 < 8) ∧ (0 ≤ a_n - (0 : Int)) := by first | omega | exact ⟨by first | omega | assumption | exact trivial, by first | omega | assumption | exact trivial, by first | omega | assumption | exact trivial, by first | omega | assumption | exact trivial, by first | omega | assumption | exact trivial, by first | omega | assumption | exact trivial⟩
    exact LL19 (Int.toNat (a_n - (0 : Int) + 1)) x5 0 I _ _ ls hM hF (lv_sub hl [2, 3, 4, 1, 0] rfl) hv32.1 hv32.2.1 hv32.2.2.1 hv32.2.2.2.1 hv32.2.2.2.2.1 hv32.2.2.2.2.2 (by omega)

def mo_X1_clear : List Nat := [160, 163, 179, 169, 167, 168]
set_option maxHeartbeats 1000000 in
set_option maxRecDepth 20000 in
theorem k_X1_clear (l : Launch) (D : va_G) (dA : Nat → ClassId) (eA : Nat) (L : List Nat) (T N : Nat → Nat) (I : Nat → Nat → Int) (J : Nat → Nat → Int64) (R : Nat → Nat → Nat) (a_this : Nat) (t_this : T a_this = 5) : GC l yX1_clear cX1_clear 1 none ({ frames := 0, cells := 0, slots := 0, locals := 0 }) D dA eA L T N I J R [.ref a_this] 0 0 (gV (fun L' T' N' I' J' R' dz dl => L' = L ∧ T' = T ∧ N' = N ∧ J' = J ∧ R' = R ∧ Fr mo_X1_clear [] T N I J R T' N' I' J' R' ∧ I' a_this 0 = 0 ∧ I' a_this 19 = 0 ∧ I' a_this 9 = 0)) := by
  generalize hPST : (gV (fun L' T' N' I' J' R' dz dl => L' = L ∧ T' = T ∧ N' = N ∧ J' = J ∧ R' = R ∧ Fr mo_X1_clear [] T N I J R T' N' I' J' R' ∧ I' a_this 0 = 0 ∧ I' a_this 19 = 0 ∧ I' a_this 9 = 0)) = PST
  refine g_enter (own := RX1) (by decide) rfl (Nat.le_of_ble_eq_true rfl) (fun p e s m args below meth c ls hm B hX hM hl => ?_)
  have hC0 := hM.2.2.2.2.2.2.1
  have hW0 := hM.2.2.2
  have hF : Fr mo_X1_clear [] T N I J R T N I J R := Fr.rf
  have hA : ∀ q, s.heap.size ≤ q → cF dA L T N I J R s.heap.size q := fun q h => Or.inr h
  have hl : lv_has ls 1 [(0, .ref a_this)] := hl
  refine lv_aload_n B.1 B.2.1 dX1_clear_0 rfl (lv_at hl 0 rfl) ?_
  refine q_con B dX1_clear_1 ?_
  refine c_puti (k := 0) pk_X1 B hM t_this kd5 rfl (by decide) fl_X1_43 (Or.inl rfl) dX1_clear_2 rfl rfl rfl (show (0 : Int) ≤ 0 from by omega) (show 0 ≤ (5000 : Int) from by omega) (fun I1 H locs hu2 hM => ?_)
  have e3 : I1 a_this 0 = 0 := w2_at hu2
  replace hF : Fr mo_X1_clear [] T N I J R T N I1 J R := hF.wi hu2 (fun _ _ => by rw [t_this]; rfl)
  refine lv_aload_n B.1 B.2.1 dX1_clear_5 rfl (lv_at hl 0 rfl) ?_
  refine q_con B dX1_clear_6 ?_
  refine c_puti (k := 3) pk_X1 B hM t_this kd5 rfl (by decide) fl_X1_47 (Or.inl rfl) dX1_clear_7 rfl rfl rfl (show (0 : Int) ≤ 0 from by omega) (show 0 ≤ (60 : Int) from by omega) (fun I4 H locs hu5 hM => ?_)
  have e6 : I4 a_this 3 = 0 := w2_at hu5
  replace hF : Fr mo_X1_clear [] T N I J R T N I4 J R := hF.wi hu5 (fun _ _ => by rw [t_this]; rfl)
  refine lv_aload_n B.1 B.2.1 dX1_clear_10 rfl (lv_at hl 0 rfl) ?_
  refine q_con B dX1_clear_11 ?_
  refine c_puti (k := 19) pk_X1 B hM t_this kd5 rfl (by decide) fl_X1_50 (Or.inl rfl) dX1_clear_12 rfl rfl rfl (show (0 : Int) ≤ 0 from by omega) (show 0 ≤ (1600 : Int) from by omega) (fun I7 H locs hu8 hM => ?_)
  have e9 : I7 a_this 19 = 0 := w2_at hu8
  replace hF : Fr mo_X1_clear [] T N I J R T N I7 J R := hF.wi hu8 (fun _ _ => by rw [t_this]; rfl)
  refine lv_aload_n B.1 B.2.1 dX1_clear_15 rfl (lv_at hl 0 rfl) ?_
  refine q_con B dX1_clear_16 ?_
  refine c_puti (k := 9) pk_X1 B hM t_this kd5 rfl (by decide) fl_X1_53 (Or.inl rfl) dX1_clear_17 rfl rfl rfl (show (0 : Int) ≤ 0 from by omega) (show 0 ≤ (5000 : Int) from by omega) (fun I10 H locs hu11 hM => ?_)
  have e12 : I10 a_this 9 = 0 := w2_at hu11
  replace hF : Fr mo_X1_clear [] T N I J R T N I10 J R := hF.wi hu11 (fun _ _ => by rw [t_this]; rfl)
  refine lv_aload_n B.1 B.2.1 dX1_clear_20 rfl (lv_at hl 0 rfl) ?_
  refine q_con B dX1_clear_21 ?_
  refine c_puti (k := 7) pk_X1 B hM t_this kd5 rfl (by decide) fl_X1_56 (Or.inl rfl) dX1_clear_22 rfl (narZ (by omega)) rfl (show (0 : Int) ≤ 0 from by omega) (show 0 ≤ (1 : Int) from by omega) (fun I13 H locs hu14 hM => ?_)
  have e15 : I13 a_this 7 = 0 := w2_at hu14
  replace hF : Fr mo_X1_clear [] T N I J R T N I13 J R := hF.wi hu14 (fun _ _ => by rw [t_this]; rfl)
  refine lv_aload_n B.1 B.2.1 dX1_clear_25 rfl (lv_at hl 0 rfl) ?_
  refine q_con B dX1_clear_26 ?_
  refine c_puti (k := 8) pk_X1 B hM t_this kd5 rfl (by decide) fl_X1_60 (Or.inl rfl) dX1_clear_27 rfl (narZ (by omega)) rfl (show (0 : Int) ≤ 0 from by omega) (show 0 ≤ (1 : Int) from by omega) (fun I16 H locs hu17 hM => ?_)
  have e18 : I16 a_this 8 = 0 := w2_at hu17
  replace hF : Fr mo_X1_clear [] T N I J R T N I16 J R := hF.wi hu17 (fun _ _ => by rw [t_this]; rfl)
  have e19 : I4 a_this 0 = 0 := (w2_ne hu5 (Or.inr (by decide))).trans e3
  have e20 : I7 a_this 0 = 0 := (w2_ne hu8 (Or.inr (by decide))).trans e19
  have e21 : I10 a_this 0 = 0 := (w2_ne hu11 (Or.inr (by decide))).trans e20
  have e22 : I13 a_this 0 = 0 := (w2_ne hu14 (Or.inr (by decide))).trans e21
  have e23 : I16 a_this 0 = 0 := (w2_ne hu17 (Or.inr (by decide))).trans e22
  have e24 : I10 a_this 19 = 0 := (w2_ne hu11 (Or.inr (by decide))).trans e9
  have e25 : I13 a_this 19 = 0 := (w2_ne hu14 (Or.inr (by decide))).trans e24
  have e26 : I16 a_this 19 = 0 := (w2_ne hu17 (Or.inr (by decide))).trans e25
  have e27 : I13 a_this 9 = 0 := (w2_ne hu14 (Or.inr (by decide))).trans e12
  have e28 : I16 a_this 9 = 0 := (w2_ne hu17 (Or.inr (by decide))).trans e27
  refine g_vret B hM dX1_clear_30 ⟨Nat.le_refl _, Nat.le_refl _⟩ ?_
  rw [← hPST]
  exact ⟨rfl, rfl, rfl, rfl, rfl, rfl, hF, by first | omega | assumption | exact trivial, by first | omega | assumption | exact trivial, by first | omega | assumption | exact trivial⟩

def mo_X1_forget : List Nat := [160, 163, 179, 169, 167, 168, 164, 161]
set_option maxHeartbeats 1000000 in
set_option maxRecDepth 20000 in
theorem k_X1_forget (l : Launch) (D : va_G) (dA : Nat → ClassId) (eA : Nat) (L : List Nat) (T N : Nat → Nat) (I : Nat → Nat → Int) (J : Nat → Nat → Int64) (R : Nat → Nat → Nat) (a_this : Nat) (t_this : T a_this = 5) (a_b : Nat) (t_b : T a_b = 6) : GC l yX1_forget cX1_forget 2 none ({ frames := 1, cells := 0, slots := 0, locals := 20 }) D dA eA L T N I J R [.ref a_this, .ref a_b] 0 0 (gV (fun L' T' N' I' J' R' dz dl => L' = L ∧ T' = T ∧ N' = N ∧ J' = J ∧ Fr mo_X1_forget [] T N I J R T' N' I' J' R' ∧ I' a_this 0 = 0 ∧ I' a_this 19 = 0 ∧ I' a_this 9 = 0 ∧ R' a_this 4 = a_b + 1)) := by
  generalize hPST : (gV (fun L' T' N' I' J' R' dz dl => L' = L ∧ T' = T ∧ N' = N ∧ J' = J ∧ Fr mo_X1_forget [] T N I J R T' N' I' J' R' ∧ I' a_this 0 = 0 ∧ I' a_this 19 = 0 ∧ I' a_this 9 = 0 ∧ R' a_this 4 = a_b + 1)) = PST
  refine g_enter (own := RX1) (by decide) rfl (Nat.le_of_ble_eq_true rfl) (fun p e s m args below meth c ls hm B hX hM hl => ?_)
  have hC0 := hM.2.2.2.2.2.2.1
  have hW0 := hM.2.2.2
  have hF : Fr mo_X1_forget [] T N I J R T N I J R := Fr.rf
  have hA : ∀ q, s.heap.size ≤ q → cF dA L T N I J R s.heap.size q := fun q h => Or.inr h
  have hl : lv_has ls 2 [(0, .ref a_this), (1, .ref a_b)] := hl
  refine lv_aload_n B.1 B.2.1 dX1_forget_0 rfl (lv_at hl 0 rfl) ?_
  refine z_callv hM hA (c_runV (n := 0) (as := []) (rest := []) B hX hA hM hl.1 t_this kd5 rfl (k_X1_clear l D dA eA L T N I J R a_this t_this _ _) ml_X1_63 nm_X1_clear ⟨rfl, rfl⟩ ⟨Nat.le_of_ble_eq_true rfl, Nat.le_of_ble_eq_true rfl⟩ dX1_forget_1 rfl rfl (Nat.le_of_ble_eq_true rfl) ⟨Nat.zero_le _, Nat.zero_le _⟩) (fun L3 T4 N5 I6 J7 R8 dz9 dl10 H locs hp1 hMn => ?_)
  obtain ⟨yL3, yT4, yN5, yJ7, yR8, hFc11, hp1a⟩ := hp1
  obtain rfl := yL3.symm; obtain rfl := yT4.symm; obtain rfl := yN5.symm; obtain rfl := yJ7.symm; obtain rfl := yR8.symm
  replace hF : Fr mo_X1_forget [] T N I J R T N I6 J R := hF.trans hFc11 (by decide) e20
  have hM := hMn
  clear hMn
  replace hp1a : I6 a_this 0 = 0 ∧ I6 a_this 19 = 0 ∧ I6 a_this 9 = 0 := hp1a
  obtain ⟨hp1a_0, hp1a_1, hp1a_2⟩ := hp1a
  refine lv_aload_n B.1 B.2.1 dX1_forget_4 rfl (lv_at hl 0 rfl) ?_
  refine lv_aload_n B.1 B.2.1 dX1_forget_5 rfl (lv_at hl 1 rfl) ?_
  refine c_putr (k := 4) (v := a_b + 1) pk_X1 B hM t_this kd5 rfl (by decide) fl_X1_66 (Or.inl rfl) dX1_forget_6 rfl rfl ⟨rfl, fun _ => rfl, rfl, fun _ => rfl⟩ (rokR t_b rfl) (fun R12 H locs hu13 hM => ?_)
  have e14 : R12 a_this 4 = a_b + 1 := w2_at hu13
  replace hF : Fr mo_X1_forget [] T N I J R T N I6 J R12 := hF.wr hu13 (fun _ _ => by rw [t_this]; rfl)
  refine lv_aload_n B.1 B.2.1 dX1_forget_9 rfl (lv_at hl 0 rfl) ?_
  refine q_con B dX1_forget_10 ?_
  refine c_puti (k := 1) pk_X1 B hM t_this kd5 rfl (by decide) fl_X1_70 (Or.inl rfl) dX1_forget_11 rfl rfl rfl (show (-2147483648 : Int) ≤ -1 from by omega) (show -1 ≤ (2147483647 : Int) from by omega) (fun I15 H locs hu16 hM => ?_)
  have e17 : I15 a_this 1 = -1 := w2_at hu16
  replace hF : Fr mo_X1_forget [] T N I J R T N I15 J R12 := hF.wi hu16 (fun _ _ => by rw [t_this]; rfl)
  have e18 : I15 a_this 0 = 0 := (w2_ne hu16 (Or.inr (by decide))).trans hp1a_0
  have e19 : I15 a_this 19 = 0 := (w2_ne hu16 (Or.inr (by decide))).trans hp1a_1
  have e20 : I15 a_this 9 = 0 := (w2_ne hu16 (Or.inr (by decide))).trans hp1a_2
  refine g_vret B hM dX1_forget_14 ⟨Nat.le_refl _, Nat.le_refl _⟩ ?_
  rw [← hPST]
  exact ⟨rfl, rfl, rfl, rfl, rfl, hF, by first | omega | assumption | exact trivial, by first | omega | assumption | exact trivial, by first | omega | assumption | exact trivial, by first | omega | assumption | exact trivial⟩

def mo_X1_keepCut : List Nat := [2848, 163]
set_option maxHeartbeats 1000000 in
set_option maxRecDepth 20000 in
theorem k_X1_keepCut (l : Launch) (D : va_G) (dA : Nat → ClassId) (eA : Nat) (L : List Nat) (T N : Nat → Nat) (I : Nat → Nat → Int) (J : Nat → Nat → Int64) (R : Nat → Nat → Nat) (a_this : Nat) (t_this : T a_this = 5) (a_p : Int) (i_p : (-2147483648 : Int) ≤ a_p ∧ a_p ≤ 2147483647) : GC l yX1_keepCut cX1_keepCut 2 none ({ frames := 0, cells := 0, slots := 0, locals := 0 }) D dA eA L T N I J R [.ref a_this, .int (II a_p)] 0 0 (gV (fun L' T' N' I' J' R' dz dl => L' = L ∧ T' = T ∧ N' = N ∧ J' = J ∧ R' = R ∧ Fr mo_X1_keepCut [] T N I J R T' N' I' J' R' ∧ True)) := by
  generalize hPST : (gV (fun L' T' N' I' J' R' dz dl => L' = L ∧ T' = T ∧ N' = N ∧ J' = J ∧ R' = R ∧ Fr mo_X1_keepCut [] T N I J R T' N' I' J' R' ∧ True)) = PST
  refine g_enter (own := RX1) (by decide) rfl (Nat.le_of_ble_eq_true rfl) (fun p e s m args below meth c ls hm B hX hM hl => ?_)
  have hC0 := hM.2.2.2.2.2.2.1
  have hW0 := hM.2.2.2
  have hF : Fr mo_X1_keepCut [] T N I J R T N I J R := Fr.rf
  have hA : ∀ q, s.heap.size ≤ q → cF dA L T N I J R s.heap.size q := fun q h => Or.inr h
  have hl : lv_has ls 2 [(0, .ref a_this), (1, .int (II a_p))] := hl
  refine lv_aload_n B.1 B.2.1 dX1_keepCut_0 rfl (lv_at hl 0 rfl) ?_
  obtain ⟨x1, e2⟩ : ∃ v, I a_this 3 = v := ⟨_, rfl⟩
  have r3 : (0 : Int) ≤ x1 ∧ x1 ≤ 60 := by rw [← e2]; exact g5_3 hM.2.2.2.2.2.2.1 t_this
  refine c_geti (k := 3) pk_X1 B hM t_this kd5 rfl (by decide) fl_X1_47 dX1_keepCut_1 e2 ?_
  refine q_bip B dX1_keepCut_4 (by decide) ?_
  refine q_cge (tgt := 29) B dX1_keepCut_6 (by decide) (by unfold inr; omega) (by unfold inr; omega) (fun c4 => ?_) (fun c4 => ?_)
  · refine g_vret B hM dX1_keepCut_29 ⟨Nat.le_refl _, Nat.le_refl _⟩ ?_
    rw [← hPST]
    exact ⟨rfl, rfl, rfl, rfl, rfl, rfl, hF, by first | omega | assumption | exact trivial⟩
  · refine lv_aload_n B.1 B.2.1 dX1_keepCut_9 rfl (lv_at hl 0 rfl) ?_
    obtain ⟨b5, e6, t7⟩ := g5_2 hC0 t_this
    refine c_getn (k := 2) pk_X1 B hM t_this kd5 rfl (by decide) fl_X1_21 dX1_keepCut_10 e6 ?_
    refine lv_aload_n B.1 B.2.1 dX1_keepCut_13 rfl (lv_at hl 0 rfl) ?_
    refine c_geti (k := 3) pk_X1 B hM t_this kd5 rfl (by decide) fl_X1_47 dX1_keepCut_14 e2 ?_
    refine lv_iload_n B.1 B.2.1 dX1_keepCut_17 rfl (lv_at hl 1 rfl) ?_
    have n8 : 60 ≤ N b5 ∧ N b5 ≤ 60 := gn89 hM.2.2.2.2.2.2.1 t7
    refine c_ist B hM t7 kd89 aq89 dX1_keepCut_18 (by omega) (by omega) (show (-2147483648 : Int) ≤ a_p from by omega) (show a_p ≤ (2147483647 : Int) from by omega) (fun I10 H locs hu9 hM => ?_)
    have e11 : I10 b5 x1.toNat = a_p := w2_at hu9
    replace hF : Fr mo_X1_keepCut [] T N I J R T N I10 J R := hF.wi hu9 (fun _ _ => by rw [t7, cd_arr (j := 0) (by decide)]; rfl)
    refine lv_aload_n B.1 B.2.1 dX1_keepCut_19 rfl (lv_at hl 0 rfl) ?_
    refine lv_dup B.1 B.2.1 dX1_keepCut_20 rfl ?_
    have e12 : I10 a_this 3 = x1 := (w2_ne hu9 (Or.inl (tne t_this t7 (by decide)))).trans e2
    refine c_geti (k := 3) pk_X1 B hM t_this kd5 rfl (by decide) fl_X1_47 dX1_keepCut_21 e12 ?_
    refine q_con B dX1_keepCut_24 ?_
    refine q_add B dX1_keepCut_25 ?_
    refine c_puti (k := 3) pk_X1 B hM t_this kd5 rfl (by decide) fl_X1_47 (Or.inl rfl) dX1_keepCut_26 rfl rfl rfl (show (0 : Int) ≤ x1 + (1 : Int) from by omega) (show x1 + (1 : Int) ≤ (60 : Int) from by omega) (fun I13 H locs hu14 hM => ?_)
    have e15 : I13 a_this 3 = x1 + (1 : Int) := w2_at hu14
    replace hF : Fr mo_X1_keepCut [] T N I J R T N I13 J R := hF.wi hu14 (fun _ _ => by rw [t_this]; rfl)
    refine g_vret B hM dX1_keepCut_29 ⟨Nat.le_refl _, Nat.le_refl _⟩ ?_
    rw [← hPST]
    exact ⟨rfl, rfl, rfl, rfl, rfl, rfl, hF, by first | omega | assumption | exact trivial⟩

set_option maxHeartbeats 1000000 in
set_option maxRecDepth 20000 in
theorem k_X4_isRing (l : Launch) (D : va_G) (dA : Nat → ClassId) (eA : Nat) (L : List Nat) (T N : Nat → Nat) (I : Nat → Nat → Int) (J : Nat → Nat → Int64) (R : Nat → Nat → Nat) (a_this : Nat) (t_this : T a_this = 4) (a_m : Int) (i_m : (-2147483648 : Int) ≤ a_m ∧ a_m ≤ 2147483647) : PC l yX4_isRing cX4_isRing 2 (some .boolean) ({ frames := 0, cells := 0, slots := 0, locals := 0 }) D dA eA L T N I J R [.ref a_this, .int (II a_m)] (rI (fun r => (0 : Int) ≤ r ∧ r ≤ 1 ∧ (True))) := by
  generalize hPST : (rI (fun r => (0 : Int) ≤ r ∧ r ≤ 1 ∧ (True))) = PST
  refine p_enter (own := RX4) (by decide) rfl (Nat.le_of_ble_eq_true rfl) (fun p e s m args below meth c ls B hX hM hl => ?_)
  have hA : ∀ q, s.heap.size ≤ q → cF dA L T N I J R s.heap.size q := fun q h => Or.inr h
  have hl : lv_has ls 2 [(0, .ref a_this), (1, .int (II a_m))] := hl
  refine lv_iload_n B.1 B.2.1 dX4_isRing_0 rfl (lv_at hl 1 rfl) ?_
  refine q_ilt (tgt := 23) B dX4_isRing_1 (by decide) (by unfold inr; omega) (fun c1 => ?_) (fun c1 => ?_)
  · refine q_con B dX4_isRing_23 ?_
    refine lv_goto (tgt := 28) B.1 B.2.1 dX4_isRing_24 (by decide) ?_
    refine p_zret B dX4_isRing_28 (by omega) (by omega) ?_
    rw [← hPST]
    exact ⟨(1), rfl, by omega, by omega, by omega, by first | omega | assumption | exact trivial⟩
  · refine lv_iload_n B.1 B.2.1 dX4_isRing_4 rfl (lv_at hl 1 rfl) ?_
    refine q_bip B dX4_isRing_5 (by decide) ?_
    refine q_cge (tgt := 23) B dX4_isRing_7 (by decide) (by unfold inr; omega) (by unfold inr; omega) (fun c2 => ?_) (fun c2 => ?_)
    · refine q_con B dX4_isRing_23 ?_
      refine lv_goto (tgt := 28) B.1 B.2.1 dX4_isRing_24 (by decide) ?_
      refine p_zret B dX4_isRing_28 (by omega) (by omega) ?_
      rw [← hPST]
      exact ⟨(1), rfl, by omega, by omega, by omega, by first | omega | assumption | exact trivial⟩
    · refine lv_aload_n B.1 B.2.1 dX4_isRing_10 rfl (lv_at hl 0 rfl) ?_
      obtain ⟨b3, e4, t5⟩ := g4_7 hM.2.2.2.2.2.2.1 t_this
      refine c_getn (k := 7) pk_X4 B hM t_this kd4 rfl (by decide) fl_X4_16 dX4_isRing_11 e4 ?_
      refine lv_iload_n B.1 B.2.1 dX4_isRing_14 rfl (lv_at hl 1 rfl) ?_
      have n6 : 16 ≤ N b3 ∧ N b3 ≤ 16 := gn81 hM.2.2.2.2.2.2.1 t5
      obtain ⟨x7, e8⟩ : ∃ v, I b3 a_m.toNat = v := ⟨_, rfl⟩
      have r9 : (-2147483648 : Int) ≤ x7 ∧ x7 ≤ 2147483647 := by rw [← e8]; exact ga81 hM.2.2.2.2.2.2.1 t5 (by omega)
      refine c_ild B hM t5 kd81 an81 dX4_isRing_15 (by omega) (by omega) e8 ?_
      refine q_con B dX4_isRing_16 ?_
      refine lv_iload_n B.1 B.2.1 dX4_isRing_17 rfl (lv_at hl 1 rfl) ?_
      refine q_shl B dX4_isRing_18 (fun x10 ix10 => ?_)
      unfold inr at ix10
      refine q_and B dX4_isRing_19 (fun x11 ix11 ex11 => ?_)
      unfold inr at ix11
      refine q_ieq (tgt := 27) B dX4_isRing_20 (by decide) (by unfold inr; omega) (fun c12 => ?_) (fun c12 => ?_)
      · refine q_con B dX4_isRing_27 ?_
        refine p_zret B dX4_isRing_28 (by omega) (by omega) ?_
        rw [← hPST]
        exact ⟨(0), rfl, by omega, by omega, by omega, by first | omega | assumption | exact trivial⟩
      · refine q_con B dX4_isRing_23 ?_
        refine lv_goto (tgt := 28) B.1 B.2.1 dX4_isRing_24 (by decide) ?_
        refine p_zret B dX4_isRing_28 (by omega) (by omega) ?_
        rw [← hPST]
        exact ⟨(1), rfl, by omega, by omega, by omega, by first | omega | assumption | exact trivial⟩

def mo_X4_keepMisuse : List Nat := [2560, 129]
set_option maxHeartbeats 1000000 in
set_option maxRecDepth 20000 in
theorem k_X4_keepMisuse (l : Launch) (D : va_G) (dA : Nat → ClassId) (eA : Nat) (L : List Nat) (T N : Nat → Nat) (I : Nat → Nat → Int) (J : Nat → Nat → Int64) (R : Nat → Nat → Nat) (a_this : Nat) (t_this : T a_this = 4) (a_why : Int) (i_why : (-2147483648 : Int) ≤ a_why ∧ a_why ≤ 2147483647) (a_code : Int) (i_code : (-2147483648 : Int) ≤ a_code ∧ a_code ≤ 2147483647) (g_k : Nat) (p_0 : R a_this 3 = g_k + 1) (p_1 : T g_k = 11) : GC l yX4_keepMisuse cX4_keepMisuse 4 none ({ frames := 0, cells := 0, slots := 0, locals := 0 }) D dA eA L T N I J R [.ref a_this, .int (II a_why), .int (II a_code)] 0 0 (gV (fun L' T' N' I' J' R' dz dl => L' = L ∧ T' = T ∧ N' = N ∧ J' = J ∧ R' = R ∧ Fr mo_X4_keepMisuse [] T N I J R T' N' I' J' R' ∧ True)) := by
  generalize hPST : (gV (fun L' T' N' I' J' R' dz dl => L' = L ∧ T' = T ∧ N' = N ∧ J' = J ∧ R' = R ∧ Fr mo_X4_keepMisuse [] T N I J R T' N' I' J' R' ∧ True)) = PST
  refine g_enter (own := RX4) (by decide) rfl (Nat.le_of_ble_eq_true rfl) (fun p e s m args below meth c ls hm B hX hM hl => ?_)
  have hC0 := hM.2.2.2.2.2.2.1
  have hW0 := hM.2.2.2
  have hF : Fr mo_X4_keepMisuse [] T N I J R T N I J R := Fr.rf
  have hA : ∀ q, s.heap.size ≤ q → cF dA L T N I J R s.heap.size q := fun q h => Or.inr h
  have hl : lv_has ls 4 [(0, .ref a_this), (1, .int (II a_why)), (2, .int (II a_code))] := hl
  refine lv_aload_n B.1 B.2.1 dX4_keepMisuse_0 rfl (lv_at hl 0 rfl) ?_
  obtain ⟨x1, e2⟩ : ∃ v, I a_this 1 = v := ⟨_, rfl⟩
  have r3 : (0 : Int) ≤ x1 ∧ x1 ≤ 200 := by rw [← e2]; exact g4_1 hM.2.2.2.2.2.2.1 t_this
  refine c_geti (k := 1) pk_X4 B hM t_this kd4 rfl (by decide) fl_X4_27 dX4_keepMisuse_1 e2 ?_
  refine q_sip B dX4_keepMisuse_4 (by decide) ?_
  refine q_cge (tgt := 55) B dX4_keepMisuse_7 (by decide) (by unfold inr; omega) (by unfold inr; omega) (fun c4 => ?_) (fun c4 => ?_)
  · refine g_vret B hM dX4_keepMisuse_55 ⟨Nat.le_refl _, Nat.le_refl _⟩ ?_
    rw [← hPST]
    exact ⟨rfl, rfl, rfl, rfl, rfl, rfl, hF, by first | omega | assumption | exact trivial⟩
  · refine lv_aload_n B.1 B.2.1 dX4_keepMisuse_10 rfl (lv_at hl 0 rfl) ?_
    obtain ⟨b5, e6, t7⟩ := g4_0 hC0 t_this
    refine c_getn (k := 0) pk_X4 B hM t_this kd4 rfl (by decide) fl_X4_11 dX4_keepMisuse_11 e6 ?_
    refine lv_aload_n B.1 B.2.1 dX4_keepMisuse_14 rfl (lv_at hl 0 rfl) ?_
    refine c_geti (k := 1) pk_X4 B hM t_this kd4 rfl (by decide) fl_X4_27 dX4_keepMisuse_15 e2 ?_
    have n8 : 200 ≤ N b5 ∧ N b5 ≤ 200 := gn79 hM.2.2.2.2.2.2.1 t7
    obtain ⟨b9, e10, t11⟩ := ga79 hC0 t7 (k := x1.toNat) (by omega)
    refine c_aldn B hM t7 kd79 an79 dX4_keepMisuse_18 (by omega) (by omega) e10 ?_
    refine lv_astore_n (lv' := [(3, .ref b9), (0, .ref a_this), (1, .int (II a_why)), (2, .int (II a_code))]) B.1 B.2.1 dX4_keepMisuse_19 rfl hl (by decide) rfl (fun ls hl => ?_)
    refine lv_aload_n B.1 B.2.1 dX4_keepMisuse_20 rfl (lv_at hl 0 rfl) ?_
    refine q_con B dX4_keepMisuse_21 ?_
    refine lv_aload_n B.1 B.2.1 dX4_keepMisuse_22 rfl (lv_at hl 1 rfl) ?_
    refine c_getn (k := 3) pk_X4 B hM t_this kd4 rfl (by decide) fl_X4_52 dX4_keepMisuse_23 p_0 ?_
    obtain ⟨x12, e13⟩ : ∃ v, I g_k 0 = v := ⟨_, rfl⟩
    have r14 : (0 : Int) ≤ x12 ∧ x12 ≤ 15 := by rw [← e13]; exact g11_0 hM.2.2.2.2.2.2.1 p_1
    refine c_geti (k := 0) pk_X3 B hM p_1 kd11 rfl (by decide) fl_X4_199 dX4_keepMisuse_26 e13 ?_
    have n15 : 4 ≤ N b9 ∧ N b9 ≤ 4 := gn80 hM.2.2.2.2.2.2.1 t11
    refine c_ist B hM t11 kd80 aq80 dX4_keepMisuse_29 (by omega) (by omega) (show (-2147483648 : Int) ≤ x12 from by omega) (show x12 ≤ (2147483647 : Int) from by omega) (fun I17 H locs hu16 hM => ?_)
    have e18 : I17 b9 ((0 : Int).toNat) = x12 := w2_at hu16
    replace hF : Fr mo_X4_keepMisuse [] T N I J R T N I17 J R := hF.wi hu16 (fun _ _ => by rw [t11, cd_arr (j := 0) (by decide)]; rfl)
    refine lv_aload_n B.1 B.2.1 dX4_keepMisuse_30 rfl (lv_at hl 0 rfl) ?_
    refine q_con B dX4_keepMisuse_31 ?_
    refine lv_aload_n B.1 B.2.1 dX4_keepMisuse_32 rfl (lv_at hl 1 rfl) ?_
    obtain ⟨x19, e20⟩ : ∃ v, I a_this 5 = v := ⟨_, rfl⟩
    have e21 : I17 a_this 5 = x19 := (hF.i t_this (by decide) nm0 rfl).trans e20
    have r22 : (-2147483648 : Int) ≤ x19 ∧ x19 ≤ 2147483647 := by rw [← e21]; exact g4_5 hM.2.2.2.2.2.2.1 t_this
    refine c_geti (k := 5) pk_X4 B hM t_this kd4 rfl (by decide) fl_X4_100 dX4_keepMisuse_33 e21 ?_
    refine c_ist B hM t11 kd80 aq80 dX4_keepMisuse_36 (by omega) (by omega) (show (-2147483648 : Int) ≤ x19 from by omega) (show x19 ≤ (2147483647 : Int) from by omega) (fun I24 H locs hu23 hM => ?_)
    have e25 : I24 b9 ((1 : Int).toNat) = x19 := w2_at hu23
    replace hF : Fr mo_X4_keepMisuse [] T N I J R T N I24 J R := hF.wi hu23 (fun _ _ => by rw [t11, cd_arr (j := 0) (by decide)]; rfl)
    refine lv_aload_n B.1 B.2.1 dX4_keepMisuse_37 rfl (lv_at hl 0 rfl) ?_
    refine q_con B dX4_keepMisuse_38 ?_
    refine lv_iload_n B.1 B.2.1 dX4_keepMisuse_39 rfl (lv_at hl 2 rfl) ?_
    refine c_ist B hM t11 kd80 aq80 dX4_keepMisuse_40 (by omega) (by omega) (show (-2147483648 : Int) ≤ a_why from by omega) (show a_why ≤ (2147483647 : Int) from by omega) (fun I27 H locs hu26 hM => ?_)
    have e28 : I27 b9 ((2 : Int).toNat) = a_why := w2_at hu26
    replace hF : Fr mo_X4_keepMisuse [] T N I J R T N I27 J R := hF.wi hu26 (fun _ _ => by rw [t11, cd_arr (j := 0) (by decide)]; rfl)
    refine lv_aload_n B.1 B.2.1 dX4_keepMisuse_41 rfl (lv_at hl 0 rfl) ?_
    refine q_con B dX4_keepMisuse_42 ?_
    refine lv_iload_n B.1 B.2.1 dX4_keepMisuse_43 rfl (lv_at hl 3 rfl) ?_
    refine c_ist B hM t11 kd80 aq80 dX4_keepMisuse_44 (by omega) (by omega) (show (-2147483648 : Int) ≤ a_code from by omega) (show a_code ≤ (2147483647 : Int) from by omega) (fun I30 H locs hu29 hM => ?_)
    have e31 : I30 b9 ((3 : Int).toNat) = a_code := w2_at hu29
    replace hF : Fr mo_X4_keepMisuse [] T N I J R T N I30 J R := hF.wi hu29 (fun _ _ => by rw [t11, cd_arr (j := 0) (by decide)]; rfl)
    refine lv_aload_n B.1 B.2.1 dX4_keepMisuse_45 rfl (lv_at hl 1 rfl) ?_
    refine lv_dup B.1 B.2.1 dX4_keepMisuse_46 rfl ?_
    have e32 : I17 a_this 1 = x1 := (w2_ne hu16 (Or.inl (tne t_this t11 (by decide)))).trans e2
    have e33 : I24 a_this 1 = x1 := (w2_ne hu23 (Or.inl (tne t_this t11 (by decide)))).trans e32
    have e34 : I27 a_this 1 = x1 := (w2_ne hu26 (Or.inl (tne t_this t11 (by decide)))).trans e33
    have e35 : I30 a_this 1 = x1 := (w2_ne hu29 (Or.inl (tne t_this t11 (by decide)))).trans e34
    refine c_geti (k := 1) pk_X4 B hM t_this kd4 rfl (by decide) fl_X4_27 dX4_keepMisuse_47 e35 ?_
    refine q_con B dX4_keepMisuse_50 ?_
    refine q_add B dX4_keepMisuse_51 ?_
    refine c_puti (k := 1) pk_X4 B hM t_this kd4 rfl (by decide) fl_X4_27 (Or.inl rfl) dX4_keepMisuse_52 rfl rfl rfl (show (0 : Int) ≤ x1 + (1 : Int) from by omega) (show x1 + (1 : Int) ≤ (200 : Int) from by omega) (fun I36 H locs hu37 hM => ?_)
    have e38 : I36 a_this 1 = x1 + (1 : Int) := w2_at hu37
    replace hF : Fr mo_X4_keepMisuse [] T N I J R T N I36 J R := hF.wi hu37 (fun _ _ => by rw [t_this]; rfl)
    refine g_vret B hM dX4_keepMisuse_55 ⟨Nat.le_refl _, Nat.le_refl _⟩ ?_
    rw [← hPST]
    exact ⟨rfl, rfl, rfl, rfl, rfl, rfl, hF, by first | omega | assumption | exact trivial⟩
