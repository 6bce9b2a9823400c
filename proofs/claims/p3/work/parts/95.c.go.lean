def mo_X1_enter : List Nat := [385, 2880, 2912, 2944, 2976, 3008, 3040, 179]
set_option maxHeartbeats 1000000 in
set_option maxRecDepth 20000 in
theorem k_X1_enter (l : Launch) (D : va_G) (dA : Nat → ClassId) (eA : Nat) (L : List Nat) (T N : Nat → Nat) (I : Nat → Nat → Int) (J : Nat → Nat → Int64) (R : Nat → Nat → Nat) (a_this : Nat) (t_this : T a_this = 5) (a_p : Int) (i_p : (-2147483648 : Int) ≤ a_p ∧ a_p ≤ 2147483647) (a_from : Int) (i_from : (-2147483648 : Int) ≤ a_from ∧ a_from ≤ 2147483647) (a_step : Int) (i_step : (-2147483648 : Int) ≤ a_step ∧ a_step ≤ 2147483647) (g_vp : Nat) (g_vf : Nat) (g_pl : Nat) (p_0 : R a_this 13 = g_vp + 1) (p_1 : T g_vp = 90) (p_2 : R a_this 14 = g_vf + 1) (p_3 : T g_vf = 91) (p_4 : R a_this 5 = g_pl + 1) (p_5 : T g_pl = 22) (p_6 : VVg I a_this g_vp g_vf g_pl) (p_7 : -1 ≤ a_from) (p_8 : a_from < I a_this 19) : GC l yX1_enter cX1_enter 5 (some .int) ({ frames := 3, cells := 0, slots := 0, locals := 81 }) D dA eA L T N I J R [.ref a_this, .int (II a_p), .int (II a_from), .int (II a_step)] 0 0 (gI (fun r L' T' N' I' J' R' dz dl => L' = L ∧ T' = T ∧ N' = N ∧ J' = J ∧ R' = R ∧ Fr mo_X1_enter [] T N I J R T' N' I' J' R' ∧ VVg I' a_this g_vp g_vf g_pl ∧ -1 ≤ r ∧ r < I' a_this 19 ∧ I a_this 19 ≤ I' a_this 19)) := by
  generalize hPST : (gI (fun r L' T' N' I' J' R' dz dl => L' = L ∧ T' = T ∧ N' = N ∧ J' = J ∧ R' = R ∧ Fr mo_X1_enter [] T N I J R T' N' I' J' R' ∧ VVg I' a_this g_vp g_vf g_pl ∧ -1 ≤ r ∧ r < I' a_this 19 ∧ I a_this 19 ≤ I' a_this 19)) = PST
  refine g_enter (own := RX1) (by decide) rfl (Nat.le_of_ble_eq_true rfl) (fun p e s m args below meth c ls hm B hX hM hl => ?_)
  have hC0 := hM.2.2.2.2.2.2.1
  have hW0 := hM.2.2.2
  have hF : Fr mo_X1_enter [] T N I J R T N I J R := Fr.rf
  have hA : ∀ q, s.heap.size ≤ q → cF dA L T N I J R s.heap.size q := fun q h => Or.inr h
  have hl : lv_has ls 5 [(0, .ref a_this), (1, .int (II a_p)), (2, .int (II a_from)), (3, .int (II a_step))] := hl
  obtain ⟨x1, e2⟩ : ∃ v, I a_this 19 = v := ⟨_, rfl⟩
  have r3 : (0 : Int) ≤ x1 ∧ x1 ≤ 1600 := by rw [← e2]; exact g5_19 hM.2.2.2.2.2.2.1 t_this
  obtain ⟨x4, e5⟩ : ∃ v, I g_pl 2 = v := ⟨_, rfl⟩
  have r6 : (0 : Int) ≤ x4 ∧ x4 ≤ 200 := by rw [← e5]; exact g22_2 hM.2.2.2.2.2.2.1 p_5
  have hvv := p_6
  refine lv_aload_n B.1 B.2.1 dX1_enter_0 rfl (lv_at hl 0 rfl) ?_
  refine c_geti (k := 19) pk_X1 B hM t_this kd5 rfl (by decide) fl_X1_50 dX1_enter_1 e2 ?_
  refine q_sip B dX1_enter_4 (by decide) ?_
  have JJ25 : ∀  (H : Heap) (locs : List Loc) (ls : Array Slot), (CWd D dA eA (cF dA L T N I J R s.heap.size) s.heap L T N I J R H locs) → lv_has ls 5 [(0, .ref a_this), (1, .int (II a_p)), (2, .int (II a_from)), (3, .int (II a_step))] → W p l e ({ frames := 3, cells := 0, slots := 0, locals := 81 }) s m args below meth c H locs 0 0 (MQ below (gQ D dA eA (cF dA L T N I J R s.heap.size) s.heap.size (hs s.heap) PST) args s 0 0 (cF dA L T N I J R s.heap.size)) (F0 m 25 ls []) := by
    intro  H locs ls hM hl 
    refine q_con B dX1_enter_25 ?_
    refine g_iret B hM dX1_enter_26 ⟨Nat.le_refl _, Nat.le_refl _⟩ ?_
    rw [← hPST]
    exact ⟨(-1), rfl, by omega, rfl, rfl, rfl, rfl, rfl, hF, by exact hvv, by first | omega | assumption | exact trivial, by first | omega | assumption | exact trivial, by first | omega | assumption | exact trivial⟩
  refine q_cge (tgt := 25) B dX1_enter_7 (by decide) (by unfold inr; omega) (by unfold inr; omega) (fun c7 => ?_) (fun c7 => ?_)
  · exact JJ25  _ _ ls hM (lv_sub hl [0, 1, 2, 3] rfl)
  · refine lv_iload_n B.1 B.2.1 dX1_enter_10 rfl (lv_at hl 1 rfl) ?_
    refine q_ilt (tgt := 25) B dX1_enter_11 (by decide) (by unfold inr; omega) (fun c8 => ?_) (fun c8 => ?_)
    · exact JJ25  _ _ ls hM (lv_sub hl [0, 1, 2, 3] rfl)
    · refine lv_iload_n B.1 B.2.1 dX1_enter_14 rfl (lv_at hl 1 rfl) ?_
      refine lv_aload_n B.1 B.2.1 dX1_enter_15 rfl (lv_at hl 0 rfl) ?_
      refine c_getn (k := 5) pk_X1 B hM t_this kd5 rfl (by decide) fl_X1_9 dX1_enter_16 p_4 ?_
      have hFt := hF
      have hMt := hM
      have hv9 : (15 ≤ 22) ∧ (22 ≤ 23) := by first | omega | exact ⟨by first | omega | assumption | exact trivial, by first | omega | assumption | exact trivial⟩
      refine p_calli (c_runV (n := 0) (as := []) (rest := [.int (II a_p)]) B hX hA hM hl.1 p_5 kd22 rfl (k_Jx4a65c_size_8abf5 l D dA eA L T N I J R g_pl p_5 hv9.1 hv9.2 _ _) ml_X1_81 nm_Jx4a65c_size_8abf5 ⟨rfl, rfl⟩ ⟨Nat.le_of_ble_eq_true rfl, Nat.le_of_ble_eq_true rfl⟩ dX1_enter_19 rfl rfl (Nat.le_of_ble_eq_true rfl) ⟨Nat.zero_le _, Nat.zero_le _⟩) (fun x11 ix11 hp10 => ?_)
      have hp10a := hp10
      replace hp10a : I g_pl 2 = x11 ∧ 0 ≤ x11 ∧ x11 ≤ 200 := hp10a
      obtain ⟨hp10a_0, hp10a_1, hp10a_2⟩ := hp10a
      clear hFt hMt
      refine q_clt (tgt := 27) B dX1_enter_22 (by decide) (by unfold inr; omega) (by unfold inr; omega) (fun c12 => ?_) (fun c12 => ?_)
      · refine lv_aload_n B.1 B.2.1 dX1_enter_27 rfl (lv_at hl 0 rfl) ?_
        refine c_getn (k := 5) pk_X1 B hM t_this kd5 rfl (by decide) fl_X1_9 dX1_enter_28 p_4 ?_
        refine lv_iload_n B.1 B.2.1 dX1_enter_31 rfl (lv_at hl 1 rfl) ?_
        have hFt := hF
        have hMt := hM
        have hv13 : ((-2147483648 : Int) ≤ a_p ∧ (a_p : Int) ≤ 2147483647) ∧ (15 ≤ 22) ∧ (22 ≤ 23) ∧ (0 ≤ a_p) ∧ (a_p < I g_pl 2) := by first | omega | exact ⟨by first | omega | assumption | exact trivial, by first | omega | assumption | exact trivial, by first | omega | assumption | exact trivial, by first | omega | assumption | exact trivial, by first | omega | assumption | exact trivial⟩
        refine p_callr (c_runV (n := 1) (as := [.int (II a_p)]) (rest := []) B hX hA hM hl.1 p_5 kd22 rfl (k_Jx4a65c_get_915e3 l D dA eA L T N I J R g_pl p_5 a_p hv13.1 hv13.2.1 hv13.2.2.1 hv13.2.2.2.1 hv13.2.2.2.2 _ _) ml_X1_85 nm_Jx4a65c_get_915e3 ⟨rfl, rfl⟩ ⟨Nat.le_of_ble_eq_true rfl, Nat.le_of_ble_eq_true rfl⟩ dX1_enter_32 rfl rfl (Nat.le_of_ble_eq_true rfl) ⟨Nat.zero_le _, Nat.zero_le _⟩) (fun b15 hp14 => ?_)
        obtain ⟨tb15, hp14a⟩ := hp14
        replace hp14a : R (R g_pl 1 - 1) a_p.toNat = b15 + 1 := hp14a
        clear hFt hMt
        refine c_cast B hM tb15 kd12 rfl cl_X1_116 dX1_enter_35 ?_
        refine lv_aload_n B.1 B.2.1 dX1_enter_38 rfl (lv_at hl 0 rfl) ?_
        obtain ⟨x16, e17⟩ : ∃ v, I a_this 11 = v := ⟨_, rfl⟩
        have r18 : (-2147483648 : Int) ≤ x16 ∧ x16 ≤ 2147483647 := by rw [← e17]; exact g5_11 hM.2.2.2.2.2.2.1 t_this
        refine c_geti (k := 11) pk_X1 B hM t_this kd5 rfl (by decide) fl_X1_94 dX1_enter_39 e17 ?_
        have hMp := hM
        refine c_puti (k := 1) pk_X5 B hM tb15 kd12 rfl (by decide) fl_X1_118 (Or.inl rfl) dX1_enter_42 rfl rfl rfl (show (-2147483648 : Int) ≤ x16 from by omega) (show x16 ≤ (2147483647 : Int) from by omega) (fun I19 H locs hu20 hM => ?_)
        have hFt := hF
        have e21 : I19 b15 1 = x16 := w2_at hu20
        replace hF : Fr mo_X1_enter [] T N I J R T N I19 J R := hF.wi hu20 (fun _ _ => by rw [tb15]; rfl)
        replace hvv : VVg I19 a_this g_vp g_vf g_pl := VVg.w hvv hu20 (Or.inl (tne t_this tb15 (by decide))) (tne p_1 tb15 (by decide)) (tne p_3 tb15 (by decide)) (Or.inl (tne p_5 tb15 (by decide)))
        clear hFt hMp
        refine lv_aload_n B.1 B.2.1 dX1_enter_45 rfl (lv_at hl 0 rfl) ?_
        have e22 : I19 a_this 19 = x1 := (w2_ne hu20 (Or.inl (tne t_this tb15 (by decide)))).trans e2
        refine c_geti (k := 19) pk_X1 B hM t_this kd5 rfl (by decide) fl_X1_50 dX1_enter_46 e22 ?_
        refine lv_istore (lv' := [(4, .int (II x1)), (0, .ref a_this), (1, .int (II a_p)), (2, .int (II a_from)), (3, .int (II a_step))]) B.1 B.2.1 dX1_enter_49 hl (by decide) rfl (fun ls hl => ?_)
        refine lv_aload_n B.1 B.2.1 dX1_enter_51 rfl (lv_at hl 1 rfl) ?_
        refine c_getn (k := 13) pk_X1 B hM t_this kd5 rfl (by decide) fl_X1_25 dX1_enter_52 p_0 ?_
        refine lv_iload B.1 B.2.1 dX1_enter_55 (lv_at hl 0 rfl) ?_
        refine lv_iload_n B.1 B.2.1 dX1_enter_57 rfl (lv_at hl 2 rfl) ?_
        have hMp := hM
        have n23 : 1600 ≤ N g_vp ∧ N g_vp ≤ 1600 := gn90 hM.2.2.2.2.2.2.1 p_1
        refine c_ist B hM p_1 kd90 aq90 dX1_enter_58 (by omega) (by omega) (show (0 : Int) ≤ a_p from by omega) (show a_p ≤ (199 : Int) from by omega) (fun I25 H locs hu24 hM => ?_)
        have e26 : I19 g_pl 2 = x11 := (hF.i p_5 (by decide) nm0 rfl).trans hp10a_0
        have hFt := hF
        have e27 : I25 g_vp x1.toNat = a_p := w2_at hu24
        replace hF : Fr mo_X1_enter [] T N I J R T N I25 J R := hF.wi hu24 (fun _ _ => by rw [p_1, cd_arr (j := 0) (by decide)]; rfl)
        replace hvv : VVg I25 a_this g_vp g_vf g_pl := VVg.wp hvv hu24 (tne t_this p_1 (by decide)) (tne p_3 p_1 (by decide)) (tne p_5 p_1 (by decide)) (by omega)
        clear hFt hMp
        refine lv_aload_n B.1 B.2.1 dX1_enter_59 rfl (lv_at hl 1 rfl) ?_
        refine c_getn (k := 14) pk_X1 B hM t_this kd5 rfl (by decide) fl_X1_28 dX1_enter_60 p_2 ?_
        refine lv_iload B.1 B.2.1 dX1_enter_63 (lv_at hl 0 rfl) ?_
        refine lv_iload_n B.1 B.2.1 dX1_enter_65 rfl (lv_at hl 3 rfl) ?_
        have hMp := hM
        have n28 : 1600 ≤ N g_vf ∧ N g_vf ≤ 1600 := gn91 hM.2.2.2.2.2.2.1 p_3
        refine c_ist B hM p_3 kd91 aq91 dX1_enter_66 (by omega) (by omega) (show (-1 : Int) ≤ a_from from by omega) (show a_from ≤ (1599 : Int) from by omega) (fun I30 H locs hu29 hM => ?_)
        have e31 : I25 a_this 19 = x1 := (w2_ne hu24 (Or.inl (tne t_this p_1 (by decide)))).trans e22
        have e32 : I25 g_pl 2 = x11 := (hF.i p_5 (by decide) nm0 rfl).trans hp10a_0
        have hFt := hF
        have e33 : I30 g_vf x1.toNat = a_from := w2_at hu29
        replace hF : Fr mo_X1_enter [] T N I J R T N I30 J R := hF.wi hu29 (fun _ _ => by rw [p_3, cd_arr (j := 0) (by decide)]; rfl)
        replace hvv : VVg I30 a_this g_vp g_vf g_pl := VVg.wf hvv hu29 (tne t_this p_3 (by decide)) (tne p_1 p_3 (by decide)) (tne p_5 p_3 (by decide)) (by omega)
        clear hFt hMp
        refine lv_aload_n B.1 B.2.1 dX1_enter_67 rfl (lv_at hl 1 rfl) ?_
        obtain ⟨b34, e35, t36⟩ := g5_15 hC0 t_this
        refine c_getn (k := 15) pk_X1 B hM t_this kd5 rfl (by decide) fl_X1_31 dX1_enter_68 e35 ?_
        refine lv_iload B.1 B.2.1 dX1_enter_71 (lv_at hl 0 rfl) ?_
        refine lv_iload_n B.1 B.2.1 dX1_enter_73 rfl (lv_at hl 4 rfl) ?_
        have hMp := hM
        have n37 : 1600 ≤ N b34 ∧ N b34 ≤ 1600 := gn92 hM.2.2.2.2.2.2.1 t36
        refine c_ist B hM t36 kd92 aq92 dX1_enter_74 (by omega) (by omega) (show (-2147483648 : Int) ≤ a_step from by omega) (show a_step ≤ (2147483647 : Int) from by omega) (fun I39 H locs hu38 hM => ?_)
        have e40 : I30 a_this 19 = x1 := (w2_ne hu29 (Or.inl (tne t_this p_3 (by decide)))).trans e31
        have e41 : I30 g_pl 2 = x11 := (hF.i p_5 (by decide) nm0 rfl).trans hp10a_0
        have hFt := hF
        have e42 : I39 b34 x1.toNat = a_step := w2_at hu38
        replace hF : Fr mo_X1_enter [] T N I J R T N I39 J R := hF.wi hu38 (fun _ _ => by rw [t36, cd_arr (j := 0) (by decide)]; rfl)
        replace hvv : VVg I39 a_this g_vp g_vf g_pl := VVg.w hvv hu38 (Or.inl (tne t_this t36 (by decide))) (tne p_1 t36 (by decide)) (tne p_3 t36 (by decide)) (Or.inl (tne p_5 t36 (by decide)))
        clear hFt hMp
        refine lv_aload_n B.1 B.2.1 dX1_enter_75 rfl (lv_at hl 1 rfl) ?_
        obtain ⟨b43, e44, t45⟩ := g5_16 hC0 t_this
        refine c_getn (k := 16) pk_X1 B hM t_this kd5 rfl (by decide) fl_X1_34 dX1_enter_76 e44 ?_
        refine lv_iload B.1 B.2.1 dX1_enter_79 (lv_at hl 0 rfl) ?_
        refine lv_iload_n B.1 B.2.1 dX1_enter_81 rfl (lv_at hl 3 rfl) ?_
        refine q_con B dX1_enter_82 ?_
        have JJ98 : ∀ (s98_0 : Int) (H : Heap) (locs : List Loc) (ls : Array Slot), (CWd D dA eA (cF dA L T N I J R s.heap.size) s.heap L T N I39 J R H locs) → lv_has ls 5 [(4, .int (II x1)), (0, .ref a_this), (1, .int (II a_p)), (2, .int (II a_from)), (3, .int (II a_step))] → ((-2147483648 : Int) ≤ s98_0 ∧ s98_0 ≤ 2147483647) → W p l e ({ frames := 3, cells := 0, slots := 0, locals := 81 }) s m args below meth c H locs 0 0 (MQ below (gQ D dA eA (cF dA L T N I J R s.heap.size) s.heap.size (hs s.heap) PST) args s 0 0 (cF dA L T N I J R s.heap.size)) (F0 m 98 ls [.int (II s98_0), .int (II x1), .ref b43]) := by
          intro s98_0 H locs ls hM hl hJJ98_0
          have hMp := hM
          have n46 : 1600 ≤ N b43 ∧ N b43 ≤ 1600 := gn93 hM.2.2.2.2.2.2.1 t45
          refine c_ist B hM t45 kd93 aq93 dX1_enter_98 (by omega) (by omega) (show (-2147483648 : Int) ≤ s98_0 from by omega) (show s98_0 ≤ (2147483647 : Int) from by omega) (fun I48 H locs hu47 hM => ?_)
          have e49 : I39 a_this 19 = x1 := (w2_ne hu38 (Or.inl (tne t_this t36 (by decide)))).trans e40
          have e50 : I39 g_pl 2 = x11 := (hF.i p_5 (by decide) nm0 rfl).trans hp10a_0
          have hFt := hF
          have e51 : I48 b43 x1.toNat = s98_0 := w2_at hu47
          replace hF : Fr mo_X1_enter [] T N I J R T N I48 J R := hF.wi hu47 (fun _ _ => by rw [t45, cd_arr (j := 0) (by decide)]; rfl)
          replace hvv : VVg I48 a_this g_vp g_vf g_pl := VVg.w hvv hu47 (Or.inl (tne t_this t45 (by decide))) (tne p_1 t45 (by decide)) (tne p_3 t45 (by decide)) (Or.inl (tne p_5 t45 (by decide)))
          clear hFt hMp
          refine lv_aload_n B.1 B.2.1 dX1_enter_99 rfl (lv_at hl 1 rfl) ?_
          obtain ⟨b52, e53, t54⟩ := g5_17 hC0 t_this
          refine c_getn (k := 17) pk_X1 B hM t_this kd5 rfl (by decide) fl_X1_37 dX1_enter_100 e53 ?_
          refine lv_iload B.1 B.2.1 dX1_enter_103 (lv_at hl 0 rfl) ?_
          refine q_con B dX1_enter_105 ?_
          have hMp := hM
          have n55 : 1600 ≤ N b52 ∧ N b52 ≤ 1600 := gn94 hM.2.2.2.2.2.2.1 t54
          refine c_ist B hM t54 kd94 aq94 dX1_enter_106 (by omega) (by omega) (show (-1 : Int) ≤ -1 from by omega) (show -1 ≤ (2147483647 : Int) from by omega) (fun I57 H locs hu56 hM => ?_)
          have e58 : I48 a_this 19 = x1 := (w2_ne hu47 (Or.inl (tne t_this t45 (by decide)))).trans e49
          have e59 : I48 g_pl 2 = x11 := (hF.i p_5 (by decide) nm0 rfl).trans hp10a_0
          have hFt := hF
          have e60 : I57 b52 x1.toNat = -1 := w2_at hu56
          replace hF : Fr mo_X1_enter [] T N I J R T N I57 J R := hF.wi hu56 (fun _ _ => by rw [t54, cd_arr (j := 0) (by decide)]; rfl)
          replace hvv : VVg I57 a_this g_vp g_vf g_pl := VVg.w hvv hu56 (Or.inl (tne t_this t54 (by decide))) (tne p_1 t54 (by decide)) (tne p_3 t54 (by decide)) (Or.inl (tne p_5 t54 (by decide)))
          clear hFt hMp
          refine lv_aload_n B.1 B.2.1 dX1_enter_107 rfl (lv_at hl 1 rfl) ?_
          obtain ⟨b61, e62, t63⟩ := g5_18 hC0 t_this
          refine c_getn (k := 18) pk_X1 B hM t_this kd5 rfl (by decide) fl_X1_40 dX1_enter_108 e62 ?_
          refine lv_iload B.1 B.2.1 dX1_enter_111 (lv_at hl 0 rfl) ?_
          refine q_con B dX1_enter_113 ?_
          have hMp := hM
          have n64 : 1600 ≤ N b61 ∧ N b61 ≤ 1600 := gn95 hM.2.2.2.2.2.2.1 t63
          refine c_ist B hM t63 kd95 aq95 dX1_enter_114 (by omega) (by omega) (show (-2147483648 : Int) ≤ 0 from by omega) (show 0 ≤ (2147483647 : Int) from by omega) (fun I66 H locs hu65 hM => ?_)
          have e67 : I57 a_this 19 = x1 := (w2_ne hu56 (Or.inl (tne t_this t54 (by decide)))).trans e58
          have e68 : I57 g_pl 2 = x11 := (hF.i p_5 (by decide) nm0 rfl).trans hp10a_0
          have hFt := hF
          have e69 : I66 b61 x1.toNat = 0 := w2_at hu65
          replace hF : Fr mo_X1_enter [] T N I J R T N I66 J R := hF.wi hu65 (fun _ _ => by rw [t63, cd_arr (j := 0) (by decide)]; rfl)
          replace hvv : VVg I66 a_this g_vp g_vf g_pl := VVg.w hvv hu65 (Or.inl (tne t_this t63 (by decide))) (tne p_1 t63 (by decide)) (tne p_3 t63 (by decide)) (Or.inl (tne p_5 t63 (by decide)))
          clear hFt hMp
          refine lv_aload_n B.1 B.2.1 dX1_enter_115 rfl (lv_at hl 1 rfl) ?_
          refine lv_dup B.1 B.2.1 dX1_enter_116 rfl ?_
          have e70 : I66 a_this 19 = x1 := (w2_ne hu65 (Or.inl (tne t_this t63 (by decide)))).trans e67
          refine c_geti (k := 19) pk_X1 B hM t_this kd5 rfl (by decide) fl_X1_50 dX1_enter_117 e70 ?_
          refine q_con B dX1_enter_120 ?_
          refine q_add B dX1_enter_121 ?_
          have e71 : I30 g_vp x1.toNat = a_p := (w2_ne hu29 (Or.inl (tne p_1 p_3 (by decide)))).trans e27
          have e72 : I39 g_vp x1.toNat = a_p := (w2_ne hu38 (Or.inl (tne p_1 t36 (by decide)))).trans e71
          have e73 : I48 g_vp x1.toNat = a_p := (w2_ne hu47 (Or.inl (tne p_1 t45 (by decide)))).trans e72
          have e74 : I57 g_vp x1.toNat = a_p := (w2_ne hu56 (Or.inl (tne p_1 t54 (by decide)))).trans e73
          have e75 : I66 g_vp x1.toNat = a_p := (w2_ne hu65 (Or.inl (tne p_1 t63 (by decide)))).trans e74
          have e76 : I39 g_vf x1.toNat = a_from := (w2_ne hu38 (Or.inl (tne p_3 t36 (by decide)))).trans e33
          have e77 : I48 g_vf x1.toNat = a_from := (w2_ne hu47 (Or.inl (tne p_3 t45 (by decide)))).trans e76
          have e78 : I57 g_vf x1.toNat = a_from := (w2_ne hu56 (Or.inl (tne p_3 t54 (by decide)))).trans e77
          have e79 : I66 g_vf x1.toNat = a_from := (w2_ne hu65 (Or.inl (tne p_3 t63 (by decide)))).trans e78
          have e80 : I66 g_pl 2 = x11 := (hF.i p_5 (by decide) nm0 rfl).trans hp10a_0
          have hpx : I66 g_vp (I66 a_this 19).toNat < I66 g_pl 2 := by rw [e70, e75]; omega
          have hfx : I66 g_vf (I66 a_this 19).toNat < I66 a_this 19 + 1 := by rw [e70, e79]; omega
          have hMp := hM
          refine c_puti (k := 19) pk_X1 B hM t_this kd5 rfl (by decide) fl_X1_50 (Or.inl rfl) dX1_enter_122 rfl rfl rfl (show (0 : Int) ≤ x1 + (1 : Int) from by omega) (show x1 + (1 : Int) ≤ (1600 : Int) from by omega) (fun I81 H locs hu82 hM => ?_)
          have hFt := hF
          have e83 : I81 a_this 19 = x1 + (1 : Int) := w2_at hu82
          replace hF : Fr mo_X1_enter [] T N I J R T N I81 J R := hF.wi hu82 (fun _ _ => by rw [t_this]; rfl)
          replace hvv : VVg I81 a_this g_vp g_vf g_pl := VVg.inc hvv hu82 (by omega) (by omega) (tne p_1 t_this (by decide)) (tne p_3 t_this (by decide)) (tne p_5 t_this (by decide)) hpx hfx
          clear hFt hMp
          refine lv_iload B.1 B.2.1 dX1_enter_125 (lv_at hl 0 rfl) ?_
          refine g_iret B hM dX1_enter_127 ⟨Nat.le_refl _, Nat.le_refl _⟩ ?_
          rw [← hPST]
          exact ⟨x1, rfl, by omega, rfl, rfl, rfl, rfl, rfl, hF, by exact hvv, by first | omega | assumption | exact trivial, by first | omega | assumption | exact trivial, by first | omega | assumption | exact trivial⟩
        refine q_cne (tgt := 90) B dX1_enter_83 (by decide) (by unfold inr; omega) (by unfold inr; omega) (fun c84 => ?_) (fun c84 => ?_)
        · refine lv_aload_n B.1 B.2.1 dX1_enter_90 rfl (lv_at hl 1 rfl) ?_
          refine c_getn (k := 16) pk_X1 B hM t_this kd5 rfl (by decide) fl_X1_34 dX1_enter_91 e44 ?_
          refine lv_iload_n B.1 B.2.1 dX1_enter_94 rfl (lv_at hl 3 rfl) ?_
          have n85 : 1600 ≤ N b43 ∧ N b43 ≤ 1600 := gn93 hM.2.2.2.2.2.2.1 t45
          obtain ⟨x86, e87⟩ : ∃ v, I39 b43 a_from.toNat = v := ⟨_, rfl⟩
          have r88 : (-2147483648 : Int) ≤ x86 ∧ x86 ≤ 2147483647 := by rw [← e87]; exact ga93 hM.2.2.2.2.2.2.1 t45 (by omega)
          refine c_ild B hM t45 kd93 an93 dX1_enter_95 (by omega) (by omega) e87 ?_
          refine q_con B dX1_enter_96 ?_
          refine q_add B dX1_enter_97 ?_
          refine q_wrap (fun x89 ix89 => ?_)
          exact JJ98 x89 _ _ ls hM (lv_sub hl [0, 1, 2, 3, 4] rfl) (by first | omega | assumption | exact trivial)
        · refine q_con B dX1_enter_86 ?_
          refine lv_goto (tgt := 98) B.1 B.2.1 dX1_enter_87 (by decide) ?_
          exact JJ98 0 _ _ ls hM (lv_sub hl [0, 1, 2, 3, 4] rfl) (by first | omega | assumption | exact trivial)
      · exact JJ25  _ _ ls hM (lv_sub hl [0, 1, 2, 3] rfl)

def mo_X1_goOn : List Nat := [385, 2880, 2912, 2944, 2976, 3008, 3040, 179, 2848, 163]
set_option maxHeartbeats 1000000 in
set_option maxRecDepth 20000 in
theorem k_X1_goOn (l : Launch) (D : va_G) (dA : Nat → ClassId) (eA : Nat) (L : List Nat) (T N : Nat → Nat) (I : Nat → Nat → Int) (J : Nat → Nat → Int64) (R : Nat → Nat → Nat) (a_this : Nat) (t_this : T a_this = 5) (a_at : Int) (i_at : (-2147483648 : Int) ≤ a_at ∧ a_at ≤ 2147483647) (g_vp : Nat) (g_vf : Nat) (g_pl : Nat) (g_vm : Nat) (p_0 : R a_this 13 = g_vp + 1) (p_1 : T g_vp = 90) (p_2 : R a_this 14 = g_vf + 1) (p_3 : T g_vf = 91) (p_4 : R a_this 5 = g_pl + 1) (p_5 : T g_pl = 22) (p_6 : VVg I a_this g_vp g_vf g_pl) (p_7 : 0 ≤ a_at) (p_8 : a_at < I a_this 19) (p_9 : R a_this 17 = g_vm + 1) (p_10 : T g_vm = 94) (p_11 : 0 ≤ I g_vm a_at.toNat) : GC l yX1_goOn cX1_goOn 7 (some .int) ({ frames := 5, cells := 0, slots := 0, locals := 124 }) D dA eA L T N I J R [.ref a_this, .int (II a_at)] 0 0 (gI (fun r L' T' N' I' J' R' dz dl => L' = L ∧ T' = T ∧ N' = N ∧ J' = J ∧ R' = R ∧ Fr mo_X1_goOn [] T N I J R T' N' I' J' R' ∧ VVg I' a_this g_vp g_vf g_pl ∧ -1 ≤ r ∧ r < I' a_this 19 ∧ I a_this 19 ≤ I' a_this 19)) := by
  generalize hPST : (gI (fun r L' T' N' I' J' R' dz dl => L' = L ∧ T' = T ∧ N' = N ∧ J' = J ∧ R' = R ∧ Fr mo_X1_goOn [] T N I J R T' N' I' J' R' ∧ VVg I' a_this g_vp g_vf g_pl ∧ -1 ≤ r ∧ r < I' a_this 19 ∧ I a_this 19 ≤ I' a_this 19)) = PST
  refine g_enter (own := RX1) (by decide) rfl (Nat.le_of_ble_eq_true rfl) (fun p e s m args below meth c ls hm B hX hM hl => ?_)
  have hC0 := hM.2.2.2.2.2.2.1
  have hW0 := hM.2.2.2
  have hF : Fr mo_X1_goOn [] T N I J R T N I J R := Fr.rf
  have hA : ∀ q, s.heap.size ≤ q → cF dA L T N I J R s.heap.size q := fun q h => Or.inr h
  have hl : lv_has ls 7 [(0, .ref a_this), (1, .int (II a_at))] := hl
  obtain ⟨x1, e2⟩ : ∃ v, I a_this 19 = v := ⟨_, rfl⟩
  have r3 : (0 : Int) ≤ x1 ∧ x1 ≤ 1600 := by rw [← e2]; exact g5_19 hM.2.2.2.2.2.2.1 t_this
  obtain ⟨x4, e5⟩ : ∃ v, I g_pl 2 = v := ⟨_, rfl⟩
  have r6 : (0 : Int) ≤ x4 ∧ x4 ≤ 200 := by rw [← e5]; exact g22_2 hM.2.2.2.2.2.2.1 p_5
  have hvv := p_6
  refine lv_aload_n B.1 B.2.1 dX1_goOn_0 rfl (lv_at hl 0 rfl) ?_
  refine c_getn (k := 5) pk_X1 B hM t_this kd5 rfl (by decide) fl_X1_9 dX1_goOn_1 p_4 ?_
  refine lv_aload_n B.1 B.2.1 dX1_goOn_4 rfl (lv_at hl 0 rfl) ?_
  refine c_getn (k := 13) pk_X1 B hM t_this kd5 rfl (by decide) fl_X1_25 dX1_goOn_5 p_0 ?_
  refine lv_iload_n B.1 B.2.1 dX1_goOn_8 rfl (lv_at hl 1 rfl) ?_
  have hva := VVg.at hvv (i := a_at) (by omega) (by omega)
  have n7 : 1600 ≤ N g_vp ∧ N g_vp ≤ 1600 := gn90 hM.2.2.2.2.2.2.1 p_1
  obtain ⟨x8, e9⟩ : ∃ v, I g_vp a_at.toNat = v := ⟨_, rfl⟩
  have r10 : (0 : Int) ≤ x8 ∧ x8 ≤ 199 := by rw [← e9]; exact ga90 hM.2.2.2.2.2.2.1 p_1 (by omega)
  refine c_ild B hM p_1 kd90 an90 dX1_goOn_9 (by omega) (by omega) e9 ?_
  have hFt := hF
  have hMt := hM
  have hv11 : ((-2147483648 : Int) ≤ x8 ∧ (x8 : Int) ≤ 2147483647) ∧ (15 ≤ 22) ∧ (22 ≤ 23) ∧ (0 ≤ x8) ∧ (x8 < I g_pl 2) := by first | omega | exact ⟨by first | omega | assumption | exact trivial, by first | omega | assumption | exact trivial, by first | omega | assumption | exact trivial, by first | omega | assumption | exact trivial, by first | omega | assumption | exact trivial⟩
  refine p_callr (c_runV (n := 1) (as := [.int (II x8)]) (rest := []) B hX hA hM hl.1 p_5 kd22 rfl (k_Jx4a65c_get_915e3 l D dA eA L T N I J R g_pl p_5 x8 hv11.1 hv11.2.1 hv11.2.2.1 hv11.2.2.2.1 hv11.2.2.2.2 _ _) ml_X1_85 nm_Jx4a65c_get_915e3 ⟨rfl, rfl⟩ ⟨Nat.le_of_ble_eq_true rfl, Nat.le_of_ble_eq_true rfl⟩ dX1_goOn_10 rfl rfl (Nat.le_of_ble_eq_true rfl) ⟨Nat.zero_le _, Nat.zero_le _⟩) (fun b13 hp12 => ?_)
  obtain ⟨tb13, hp12a⟩ := hp12
  replace hp12a : R (R g_pl 1 - 1) x8.toNat = b13 + 1 := hp12a
  clear hFt hMt
  refine c_cast B hM tb13 kd12 rfl cl_X1_116 dX1_goOn_13 ?_
  refine lv_astore_n (lv' := [(2, .ref b13), (0, .ref a_this), (1, .int (II a_at))]) B.1 B.2.1 dX1_goOn_16 rfl hl (by decide) rfl (fun ls hl => ?_)
  refine lv_aload_n B.1 B.2.1 dX1_goOn_17 rfl (lv_at hl 1 rfl) ?_
  refine c_getn (k := 17) pk_X1 B hM t_this kd5 rfl (by decide) fl_X1_37 dX1_goOn_18 p_9 ?_
  refine lv_iload_n B.1 B.2.1 dX1_goOn_21 rfl (lv_at hl 2 rfl) ?_
  have n14 : 1600 ≤ N g_vm ∧ N g_vm ≤ 1600 := gn94 hM.2.2.2.2.2.2.1 p_10
  obtain ⟨x15, e16⟩ : ∃ v, I g_vm a_at.toNat = v := ⟨_, rfl⟩
  have r17 : (-1 : Int) ≤ x15 ∧ x15 ≤ 2147483647 := by rw [← e16]; exact ga94 hM.2.2.2.2.2.2.1 p_10 (by omega)
  refine c_ild B hM p_10 kd94 an94 dX1_goOn_22 (by omega) (by omega) e16 ?_
  refine lv_istore_n (lv' := [(3, .int (II x15)), (2, .ref b13), (0, .ref a_this), (1, .int (II a_at))]) B.1 B.2.1 dX1_goOn_23 rfl hl (by decide) rfl (fun ls hl => ?_)
  refine lv_iload_n B.1 B.2.1 dX1_goOn_24 rfl (lv_at hl 0 rfl) ?_
  refine lv_aload_n B.1 B.2.1 dX1_goOn_25 rfl (lv_at hl 1 rfl) ?_
  obtain ⟨b18, e19, t20⟩ := g12_0 hC0 tb13
  refine c_getn (k := 0) pk_X5 B hM tb13 kd12 rfl (by decide) fl_X1_121 dX1_goOn_26 e19 ?_
  obtain ⟨b21, e22, t23⟩ := g11_3 hC0 t20
  refine c_getn (k := 3) pk_X3 B hM t20 kd11 rfl (by decide) fl_X1_125 dX1_goOn_29 e22 ?_
  have hFt := hF
  have hMt := hM
  have hv24 : (15 ≤ 19) ∧ (19 ≤ 23) := by first | omega | exact ⟨by first | omega | assumption | exact trivial, by first | omega | assumption | exact trivial⟩
  refine p_calli (c_runV (n := 0) (as := []) (rest := [.int (II x15)]) B hX hA hM hl.1 t23 kd19 rfl (k_Jx4a65c_size_8abf5 l D dA eA L T N I J R b21 t23 hv24.1 hv24.2 _ _) ml_X1_81 nm_Jx4a65c_size_8abf5 ⟨rfl, rfl⟩ ⟨Nat.le_of_ble_eq_true rfl, Nat.le_of_ble_eq_true rfl⟩ dX1_goOn_32 rfl rfl (Nat.le_of_ble_eq_true rfl) ⟨Nat.zero_le _, Nat.zero_le _⟩) (fun x26 ix26 hp25 => ?_)
  have hp25a := hp25
  replace hp25a : I b21 2 = x26 ∧ 0 ≤ x26 ∧ x26 ≤ 12 := hp25a
  obtain ⟨hp25a_0, hp25a_1, hp25a_2⟩ := hp25a
  clear hFt hMt
  refine q_clt (tgt := 45) B dX1_goOn_35 (by decide) (by unfold inr; omega) (by unfold inr; omega) (fun c27 => ?_) (fun c27 => ?_)
  · refine lv_aload_n B.1 B.2.1 dX1_goOn_45 rfl (lv_at hl 2 rfl) ?_
    obtain ⟨b28, e29, t30⟩ := g5_18 hC0 t_this
    refine c_getn (k := 18) pk_X1 B hM t_this kd5 rfl (by decide) fl_X1_40 dX1_goOn_46 e29 ?_
    refine lv_iload_n B.1 B.2.1 dX1_goOn_49 rfl (lv_at hl 3 rfl) ?_
    have n31 : 1600 ≤ N b28 ∧ N b28 ≤ 1600 := gn95 hM.2.2.2.2.2.2.1 t30
    obtain ⟨x32, e33⟩ : ∃ v, I b28 a_at.toNat = v := ⟨_, rfl⟩
    have r34 : (-2147483648 : Int) ≤ x32 ∧ x32 ≤ 2147483647 := by rw [← e33]; exact ga95 hM.2.2.2.2.2.2.1 t30 (by omega)
    refine c_ild B hM t30 kd95 an95 dX1_goOn_50 (by omega) (by omega) e33 ?_
    refine lv_istore (lv' := [(4, .int (II x32)), (3, .int (II x15)), (2, .ref b13), (0, .ref a_this), (1, .int (II a_at))]) B.1 B.2.1 dX1_goOn_51 hl (by decide) rfl (fun ls hl => ?_)
    refine lv_aload_n B.1 B.2.1 dX1_goOn_53 rfl (lv_at hl 2 rfl) ?_
    refine c_getn (k := 0) pk_X5 B hM tb13 kd12 rfl (by decide) fl_X1_121 dX1_goOn_54 e19 ?_
    refine c_getn (k := 3) pk_X3 B hM t20 kd11 rfl (by decide) fl_X1_125 dX1_goOn_57 e22 ?_
    refine lv_iload_n B.1 B.2.1 dX1_goOn_60 rfl (lv_at hl 1 rfl) ?_
    have hFt := hF
    have hMt := hM
    have hv35 : ((-2147483648 : Int) ≤ x15 ∧ (x15 : Int) ≤ 2147483647) ∧ (15 ≤ 19) ∧ (19 ≤ 23) ∧ (0 ≤ x15) ∧ (x15 < I b21 2) := by first | omega | exact ⟨by first | omega | assumption | exact trivial, by first | omega | assumption | exact trivial, by first | omega | assumption | exact trivial, by first | omega | assumption | exact trivial, by first | omega | assumption | exact trivial⟩
    refine p_callr (c_runV (n := 1) (as := [.int (II x15)]) (rest := []) B hX hA hM hl.1 t23 kd19 rfl (k_Jx4a65c_get_915e3 l D dA eA L T N I J R b21 t23 x15 hv35.1 hv35.2.1 hv35.2.2.1 hv35.2.2.2.1 hv35.2.2.2.2 _ _) ml_X1_85 nm_Jx4a65c_get_915e3 ⟨rfl, rfl⟩ ⟨Nat.le_of_ble_eq_true rfl, Nat.le_of_ble_eq_true rfl⟩ dX1_goOn_61 rfl rfl (Nat.le_of_ble_eq_true rfl) ⟨Nat.zero_le _, Nat.zero_le _⟩) (fun b37 hp36 => ?_)
    obtain ⟨tb37, hp36a⟩ := hp36
    replace hp36a : R (R b21 1 - 1) x15.toNat = b37 + 1 := hp36a
    clear hFt hMt
    refine c_cast B hM tb37 kd10 rfl cl_X1_130 dX1_goOn_64 ?_
    obtain ⟨x38, e39⟩ : ∃ v, I b37 5 = v := ⟨_, rfl⟩
    have r40 : (0 : Int) ≤ x38 ∧ x38 ≤ 1 := by rw [← e39]; exact g10_5 hM.2.2.2.2.2.2.1 tb37
    refine c_geti (k := 5) pk_X8 B hM tb37 kd10 rfl (by decide) fl_X1_132 dX1_goOn_67 e39 ?_
    have JJ83 : ∀  (H : Heap) (locs : List Loc) (ls : Array Slot), (CWd D dA eA (cF dA L T N I J R s.heap.size) s.heap L T N I J R H locs) → lv_has ls 7 [(4, .int (II x32)), (3, .int (II x15)), (2, .ref b13), (0, .ref a_this), (1, .int (II a_at))] → W p l e ({ frames := 5, cells := 0, slots := 0, locals := 124 }) s m args below meth c H locs 0 0 (MQ below (gQ D dA eA (cF dA L T N I J R s.heap.size) s.heap.size (hs s.heap) PST) args s 0 0 (cF dA L T N I J R s.heap.size)) (F0 m 83 ls []) := by
      intro  H locs ls hM hl 
      refine lv_aload_n B.1 B.2.1 dX1_goOn_83 rfl (lv_at hl 3 rfl) ?_
      refine c_getn (k := 17) pk_X1 B hM t_this kd5 rfl (by decide) fl_X1_37 dX1_goOn_84 p_9 ?_
      refine lv_iload_n B.1 B.2.1 dX1_goOn_87 rfl (lv_at hl 4 rfl) ?_
      refine lv_iload_n B.1 B.2.1 dX1_goOn_88 rfl (lv_at hl 1 rfl) ?_
      refine q_con B dX1_goOn_89 ?_
      refine q_add B dX1_goOn_90 ?_
      have hMp := hM
      refine c_ist B hM p_10 kd94 aq94 dX1_goOn_91 (by omega) (by omega) (show (-1 : Int) ≤ x15 + (1 : Int) from by omega) (show x15 + (1 : Int) ≤ (2147483647 : Int) from by omega) (fun I42 H locs hu41 hM => ?_)
      have hFt := hF
      have e43 : I42 g_vm a_at.toNat = x15 + (1 : Int) := w2_at hu41
      replace hF : Fr mo_X1_goOn [] T N I J R T N I42 J R := hF.wi hu41 (fun _ _ => by rw [p_10, cd_arr (j := 0) (by decide)]; rfl)
      replace hvv : VVg I42 a_this g_vp g_vf g_pl := VVg.w hvv hu41 (Or.inl (tne t_this p_10 (by decide))) (tne p_1 p_10 (by decide)) (tne p_3 p_10 (by decide)) (Or.inl (tne p_5 p_10 (by decide)))
      clear hFt hMp
      refine lv_aload_n B.1 B.2.1 dX1_goOn_92 rfl (lv_at hl 3 rfl) ?_
      refine c_getn (k := 18) pk_X1 B hM t_this kd5 rfl (by decide) fl_X1_40 dX1_goOn_93 e29 ?_
      refine lv_iload_n B.1 B.2.1 dX1_goOn_96 rfl (lv_at hl 4 rfl) ?_
      refine q_con B dX1_goOn_97 ?_
      have hMp := hM
      refine c_ist B hM t30 kd95 aq95 dX1_goOn_98 (by omega) (by omega) (show (-2147483648 : Int) ≤ 0 from by omega) (show 0 ≤ (2147483647 : Int) from by omega) (fun I45 H locs hu44 hM => ?_)
      have e46 : I42 a_this 19 = x1 := (w2_ne hu41 (Or.inl (tne t_this p_10 (by decide)))).trans e2
      have e47 : I42 g_pl 2 = x4 := (hF.i p_5 (by decide) nm0 rfl).trans e5
      have hFt := hF
      have e48 : I45 b28 a_at.toNat = 0 := w2_at hu44
      replace hF : Fr mo_X1_goOn [] T N I J R T N I45 J R := hF.wi hu44 (fun _ _ => by rw [t30, cd_arr (j := 0) (by decide)]; rfl)
      replace hvv : VVg I45 a_this g_vp g_vf g_pl := VVg.w hvv hu44 (Or.inl (tne t_this t30 (by decide))) (tne p_1 t30 (by decide)) (tne p_3 t30 (by decide)) (Or.inl (tne p_5 t30 (by decide)))
      clear hFt hMp
      refine lv_iload_n B.1 B.2.1 dX1_goOn_99 rfl (lv_at hl 4 rfl) ?_
      have e49 : I45 a_this 19 = x1 := (w2_ne hu44 (Or.inl (tne t_this t30 (by decide)))).trans e46
      refine g_iret B hM dX1_goOn_100 ⟨Nat.le_refl _, Nat.le_refl _⟩ ?_
      rw [← hPST]
      exact ⟨a_at, rfl, by omega, rfl, rfl, rfl, rfl, rfl, hF, by exact hvv, by first | omega | assumption | exact trivial, by first | omega | assumption | exact trivial, by first | omega | assumption | exact trivial⟩
    refine q_ieq (tgt := 83) B dX1_goOn_70 (by decide) (by unfold inr; omega) (fun c50 => ?_) (fun c50 => ?_)
    · exact JJ83  _ _ ls hM (lv_sub hl [0, 1, 2, 3, 4] rfl)
    · refine lv_iload B.1 B.2.1 dX1_goOn_73 (lv_at hl 0 rfl) ?_
      refine lv_aload_n B.1 B.2.1 dX1_goOn_75 rfl (lv_at hl 2 rfl) ?_
      refine lv_iload_n B.1 B.2.1 dX1_goOn_76 rfl (lv_at hl 1 rfl) ?_
      have hFt := hF
      have hMt := hM
      refine p_calli (c_runV (n := 1) (as := [.int (II x15)]) (rest := [.int (II x32)]) B hX hA hM hl.1 tb13 kd12 rfl (k_X5_countTargets l D dA eA L T N I J R b13 tb13 x15 (by first | omega | assumption | exact trivial) _ _) ml_X1_135 nm_X5_countTargets ⟨rfl, rfl⟩ ⟨Nat.le_of_ble_eq_true rfl, Nat.le_of_ble_eq_true rfl⟩ dX1_goOn_77 rfl rfl (Nat.le_of_ble_eq_true rfl) ⟨Nat.zero_le _, Nat.zero_le _⟩) (fun x52 ix52 hp51 => ?_)
      have hp51a := hp51
      clear hp51a
      clear hFt hMt
      refine q_clt (tgt := 101) B dX1_goOn_80 (by decide) (by unfold inr; omega) (by unfold inr; omega) (fun c53 => ?_) (fun c53 => ?_)
      · refine lv_aload_n B.1 B.2.1 dX1_goOn_101 rfl (lv_at hl 3 rfl) ?_
        refine c_getn (k := 18) pk_X1 B hM t_this kd5 rfl (by decide) fl_X1_40 dX1_goOn_102 e29 ?_
        refine lv_iload_n B.1 B.2.1 dX1_goOn_105 rfl (lv_at hl 4 rfl) ?_
        refine lv_iload B.1 B.2.1 dX1_goOn_106 (lv_at hl 0 rfl) ?_
        refine q_con B dX1_goOn_108 ?_
        refine q_add B dX1_goOn_109 ?_
        refine q_wrap (fun x54 ix54 => ?_)
        have hMp := hM
        refine c_ist B hM t30 kd95 aq95 dX1_goOn_110 (by omega) (by omega) (show (-2147483648 : Int) ≤ x54 from by omega) (show x54 ≤ (2147483647 : Int) from by omega) (fun I56 H locs hu55 hM => ?_)
        have hFt := hF
        have e57 : I56 b28 a_at.toNat = x54 := w2_at hu55
        replace hF : Fr mo_X1_goOn [] T N I J R T N I56 J R := hF.wi hu55 (fun _ _ => by rw [t30, cd_arr (j := 0) (by decide)]; rfl)
        replace hvv : VVg I56 a_this g_vp g_vf g_pl := VVg.w hvv hu55 (Or.inl (tne t_this t30 (by decide))) (tne p_1 t30 (by decide)) (tne p_3 t30 (by decide)) (Or.inl (tne p_5 t30 (by decide)))
        clear hFt hMp
        refine lv_aload_n B.1 B.2.1 dX1_goOn_111 rfl (lv_at hl 2 rfl) ?_
        refine lv_iload_n B.1 B.2.1 dX1_goOn_112 rfl (lv_at hl 1 rfl) ?_
        refine lv_iload B.1 B.2.1 dX1_goOn_113 (lv_at hl 0 rfl) ?_
        have e58 : I56 a_this 19 = x1 := (w2_ne hu55 (Or.inl (tne t_this t30 (by decide)))).trans e2
        have e59 : I56 g_pl 2 = x4 := (hF.i p_5 (by decide) nm0 rfl).trans e5
        have hFt := hF
        have hMt := hM
        have hv60 : ((-2147483648 : Int) ≤ x15 ∧ (x15 : Int) ≤ 2147483647) ∧ ((-2147483648 : Int) ≤ x32 ∧ (x32 : Int) ≤ 2147483647) := by first | omega | exact ⟨by first | omega | assumption | exact trivial, by first | omega | assumption | exact trivial⟩
        refine p_calli (c_runV (n := 2) (as := [.int (II x15), .int (II x32)]) (rest := []) B hX hA hM hl.1 tb13 kd12 rfl (k_X5_target l D dA eA L T N I56 J R b13 tb13 x15 hv60.1 x32 hv60.2 _ _) ml_X1_138 nm_X5_target ⟨rfl, rfl⟩ ⟨Nat.le_of_ble_eq_true rfl, Nat.le_of_ble_eq_true rfl⟩ dX1_goOn_115 rfl rfl (Nat.le_of_ble_eq_true rfl) ⟨Nat.zero_le _, Nat.zero_le _⟩) (fun x62 ix62 hp61 => ?_)
        have hp61a := hp61
        clear hp61a
        clear hFt hMt
        refine lv_istore (lv' := [(5, .int (II x62)), (4, .int (II x32)), (3, .int (II x15)), (2, .ref b13), (0, .ref a_this), (1, .int (II a_at))]) B.1 B.2.1 dX1_goOn_118 hl (by decide) rfl (fun ls hl => ?_)
        refine lv_iload B.1 B.2.1 dX1_goOn_120 (lv_at hl 0 rfl) ?_
        have JJ137 : ∀  (H : Heap) (locs : List Loc) (ls : Array Slot), (CWd D dA eA (cF dA L T N I J R s.heap.size) s.heap L T N I56 J R H locs) → lv_has ls 7 [(5, .int (II x62)), (4, .int (II x32)), (3, .int (II x15)), (2, .ref b13), (0, .ref a_this), (1, .int (II a_at))] → W p l e ({ frames := 5, cells := 0, slots := 0, locals := 124 }) s m args below meth c H locs 0 0 (MQ below (gQ D dA eA (cF dA L T N I J R s.heap.size) s.heap.size (hs s.heap) PST) args s 0 0 (cF dA L T N I J R s.heap.size)) (F0 m 137 ls []) := by
          intro  H locs ls hM hl 
          refine lv_iload_n B.1 B.2.1 dX1_goOn_137 rfl (lv_at hl 5 rfl) ?_
          refine g_iret B hM dX1_goOn_138 ⟨Nat.le_refl _, Nat.le_refl _⟩ ?_
          rw [← hPST]
          exact ⟨a_at, rfl, by omega, rfl, rfl, rfl, rfl, rfl, hF, by exact hvv, by first | omega | assumption | exact trivial, by first | omega | assumption | exact trivial, by first | omega | assumption | exact trivial⟩
        refine q_ilt (tgt := 137) B dX1_goOn_122 (by decide) (by unfold inr; omega) (fun c63 => ?_) (fun c63 => ?_)
        · exact JJ137  _ _ ls hM (lv_sub hl [0, 1, 2, 3, 4, 5] rfl)
        · refine lv_iload B.1 B.2.1 dX1_goOn_125 (lv_at hl 0 rfl) ?_
          refine lv_aload_n B.1 B.2.1 dX1_goOn_127 rfl (lv_at hl 4 rfl) ?_
          refine c_getn (k := 5) pk_X1 B hM t_this kd5 rfl (by decide) fl_X1_9 dX1_goOn_128 p_4 ?_
          have hFt := hF
          have hMt := hM
          have hv64 : (15 ≤ 22) ∧ (22 ≤ 23) := by first | omega | exact ⟨by first | omega | assumption | exact trivial, by first | omega | assumption | exact trivial⟩
          refine p_calli (c_runV (n := 0) (as := []) (rest := [.int (II x62)]) B hX hA hM hl.1 p_5 kd22 rfl (k_Jx4a65c_size_8abf5 l D dA eA L T N I56 J R g_pl p_5 hv64.1 hv64.2 _ _) ml_X1_81 nm_Jx4a65c_size_8abf5 ⟨rfl, rfl⟩ ⟨Nat.le_of_ble_eq_true rfl, Nat.le_of_ble_eq_true rfl⟩ dX1_goOn_131 rfl rfl (Nat.le_of_ble_eq_true rfl) ⟨Nat.zero_le _, Nat.zero_le _⟩) (fun x66 ix66 hp65 => ?_)
          have hp65a := hp65
          replace hp65a : I56 g_pl 2 = x66 ∧ 0 ≤ x66 ∧ x66 ≤ 200 := hp65a
          obtain ⟨hp65a_0, hp65a_1, hp65a_2⟩ := hp65a
          clear hFt hMt
          refine q_clt (tgt := 139) B dX1_goOn_134 (by decide) (by unfold inr; omega) (by unfold inr; omega) (fun c67 => ?_) (fun c67 => ?_)
          · refine lv_aload_n B.1 B.2.1 dX1_goOn_139 rfl (lv_at hl 4 rfl) ?_
            refine c_getn (k := 5) pk_X1 B hM t_this kd5 rfl (by decide) fl_X1_9 dX1_goOn_140 p_4 ?_
            refine lv_iload B.1 B.2.1 dX1_goOn_143 (lv_at hl 0 rfl) ?_
            have hFt := hF
            have hMt := hM
            have hv68 : ((-2147483648 : Int) ≤ x62 ∧ (x62 : Int) ≤ 2147483647) ∧ (15 ≤ 22) ∧ (22 ≤ 23) ∧ (0 ≤ x62) ∧ (x62 < I56 g_pl 2) := by first | omega | exact ⟨by first | omega | assumption | exact trivial, by first | omega | assumption | exact trivial, by first | omega | assumption | exact trivial, by first | omega | assumption | exact trivial, by first | omega | assumption | exact trivial⟩
            refine p_callr (c_runV (n := 1) (as := [.int (II x62)]) (rest := []) B hX hA hM hl.1 p_5 kd22 rfl (k_Jx4a65c_get_915e3 l D dA eA L T N I56 J R g_pl p_5 x62 hv68.1 hv68.2.1 hv68.2.2.1 hv68.2.2.2.1 hv68.2.2.2.2 _ _) ml_X1_85 nm_Jx4a65c_get_915e3 ⟨rfl, rfl⟩ ⟨Nat.le_of_ble_eq_true rfl, Nat.le_of_ble_eq_true rfl⟩ dX1_goOn_145 rfl rfl (Nat.le_of_ble_eq_true rfl) ⟨Nat.zero_le _, Nat.zero_le _⟩) (fun b70 hp69 => ?_)
            obtain ⟨tb70, hp69a⟩ := hp69
            replace hp69a : R (R g_pl 1 - 1) x62.toNat = b70 + 1 := hp69a
            clear hFt hMt
            refine c_cast B hM tb70 kd12 rfl cl_X1_116 dX1_goOn_148 ?_
            obtain ⟨x71, e72⟩ : ∃ v, I56 b70 1 = v := ⟨_, rfl⟩
            have r73 : (-2147483648 : Int) ≤ x71 ∧ x71 ≤ 2147483647 := by rw [← e72]; exact g12_1 hM.2.2.2.2.2.2.1 tb70
            refine c_geti (k := 1) pk_X5 B hM tb70 kd12 rfl (by decide) fl_X1_118 dX1_goOn_151 e72 ?_
            refine lv_aload_n B.1 B.2.1 dX1_goOn_154 rfl (lv_at hl 4 rfl) ?_
            obtain ⟨x74, e75⟩ : ∃ v, I a_this 11 = v := ⟨_, rfl⟩
            have e76 : I56 a_this 11 = x74 := (hF.i t_this (by decide) nm0 rfl).trans e75
            have r77 : (-2147483648 : Int) ≤ x74 ∧ x74 ≤ 2147483647 := by rw [← e76]; exact g5_11 hM.2.2.2.2.2.2.1 t_this
            refine c_geti (k := 11) pk_X1 B hM t_this kd5 rfl (by decide) fl_X1_94 dX1_goOn_155 e76 ?_
            refine q_cne (tgt := 169) B dX1_goOn_158 (by decide) (by unfold inr; omega) (by unfold inr; omega) (fun c78 => ?_) (fun c78 => ?_)
            · refine lv_aload_n B.1 B.2.1 dX1_goOn_169 rfl (lv_at hl 4 rfl) ?_
              refine lv_iload B.1 B.2.1 dX1_goOn_170 (lv_at hl 0 rfl) ?_
              refine lv_iload_n B.1 B.2.1 dX1_goOn_172 rfl (lv_at hl 5 rfl) ?_
              refine lv_iload_n B.1 B.2.1 dX1_goOn_173 rfl (lv_at hl 2 rfl) ?_
              refine q_bip B dX1_goOn_174 (by decide) ?_
              refine q_mul B dX1_goOn_176 ?_
              refine q_wrap (fun x79 ix79 => ?_)
              refine lv_iload B.1 B.2.1 dX1_goOn_177 (lv_at hl 1 rfl) ?_
              refine q_add B dX1_goOn_179 ?_
              refine q_wrap (fun x80 ix80 => ?_)
              have hFt := hF
              have hMt := hM
              have hv81 : ((-2147483648 : Int) ≤ x62 ∧ (x62 : Int) ≤ 2147483647) ∧ ((-2147483648 : Int) ≤ a_at ∧ (a_at : Int) ≤ 2147483647) ∧ ((-2147483648 : Int) ≤ x80 ∧ (x80 : Int) ≤ 2147483647) ∧ (VVg I56 a_this g_vp g_vf g_pl) ∧ (-1 ≤ a_at) ∧ (a_at < I56 a_this 19) := by first | omega | exact ⟨by first | omega | assumption | exact trivial, by first | omega | assumption | exact trivial, by first | omega | assumption | exact trivial, by first | omega | assumption | exact trivial, by first | omega | assumption | exact trivial, by first | omega | assumption | exact trivial⟩
              refine z_calli hM hA (c_runV (n := 3) (as := [.int (II x62), .int (II a_at), .int (II x80)]) (rest := []) B hX hA hM hl.1 t_this kd5 rfl (k_X1_enter l D dA eA L T N I56 J R a_this t_this x62 hv81.1 a_at hv81.2.1 x80 hv81.2.2.1 g_vp g_vf g_pl (show R a_this 13 = g_vp + 1 from p_0) (show T g_vp = 90 from p_1) (show R a_this 14 = g_vf + 1 from p_2) (show T g_vf = 91 from p_3) (show R a_this 5 = g_pl + 1 from p_4) (show T g_pl = 22 from p_5) hv81.2.2.2.1 hv81.2.2.2.2.1 hv81.2.2.2.2.2 _ _) ml_X1_104 nm_X1_enter ⟨rfl, rfl⟩ ⟨Nat.le_of_ble_eq_true rfl, Nat.le_of_ble_eq_true rfl⟩ dX1_goOn_180 rfl rfl (Nat.le_of_ble_eq_true rfl) ⟨Nat.zero_le _, Nat.zero_le _⟩) (fun x83 ix83 L84 T85 N86 I87 J88 R89 dz90 dl91 H locs hp82 hMn => ?_)
              obtain ⟨yL84, yT85, yN86, yJ88, yR89, hFc92, hp82a⟩ := hp82
              obtain rfl := yL84.symm; obtain rfl := yT85.symm; obtain rfl := yN86.symm; obtain rfl := yJ88.symm; obtain rfl := yR89.symm
              replace hF : Fr mo_X1_goOn [] T N I J R T N I87 J R := hF.trans hFc92 (by decide) e20
              have hM := hMn
              clear hMn
              replace hp82a : VVg I87 a_this g_vp g_vf g_pl ∧ -1 ≤ x83 ∧ x83 < I87 a_this 19 ∧ I56 a_this 19 ≤ I87 a_this 19 := hp82a
              obtain ⟨hp82a_0, hp82a_1, hp82a_2, hp82a_3⟩ := hp82a
              replace hvv : VVg I87 a_this g_vp g_vf g_pl := by assumption
              clear hFt hMt
              refine lv_istore (lv' := [(6, .int (II x83)), (5, .int (II x62)), (4, .int (II x32)), (3, .int (II x15)), (2, .ref b13), (0, .ref a_this), (1, .int (II a_at))]) B.1 B.2.1 dX1_goOn_183 hl (by decide) rfl (fun ls hl => ?_)
              refine lv_iload B.1 B.2.1 dX1_goOn_185 (lv_at hl 0 rfl) ?_
              refine q_con B dX1_goOn_187 ?_
              refine q_cne (tgt := 195) B dX1_goOn_188 (by decide) (by unfold inr; omega) (by unfold inr; omega) (fun c93 => ?_) (fun c93 => ?_)
              · refine lv_iload B.1 B.2.1 dX1_goOn_195 (lv_at hl 0 rfl) ?_
                obtain ⟨x94, e95⟩ : ∃ v, I87 a_this 19 = v := ⟨_, rfl⟩
                refine g_iret B hM dX1_goOn_197 ⟨Nat.le_refl _, Nat.le_refl _⟩ ?_
                rw [← hPST]
                exact ⟨x83, rfl, by omega, rfl, rfl, rfl, rfl, rfl, hF, by exact hvv, by first | omega | assumption | exact trivial, by first | omega | assumption | exact trivial, by first | omega | assumption | exact trivial⟩
              · refine lv_iload_n B.1 B.2.1 dX1_goOn_191 rfl (lv_at hl 6 rfl) ?_
                refine lv_goto (tgt := 197) B.1 B.2.1 dX1_goOn_192 (by decide) ?_
                obtain ⟨x96, e97⟩ : ∃ v, I87 a_this 19 = v := ⟨_, rfl⟩
                refine g_iret B hM dX1_goOn_197 ⟨Nat.le_refl _, Nat.le_refl _⟩ ?_
                rw [← hPST]
                exact ⟨a_at, rfl, by omega, rfl, rfl, rfl, rfl, rfl, hF, by exact hvv, by first | omega | assumption | exact trivial, by first | omega | assumption | exact trivial, by first | omega | assumption | exact trivial⟩
            · refine lv_aload_n B.1 B.2.1 dX1_goOn_161 rfl (lv_at hl 4 rfl) ?_
              refine lv_iload B.1 B.2.1 dX1_goOn_162 (lv_at hl 0 rfl) ?_
              have hFt := hF
              have hMt := hM
              refine z_callv hM hA (c_runV (n := 1) (as := [.int (II x62)]) (rest := []) B hX hA hM hl.1 t_this kd5 rfl (k_X1_keepCut l D dA eA L T N I56 J R a_this t_this x62 (by first | omega | assumption | exact trivial) _ _) ml_X1_142 nm_X1_keepCut ⟨rfl, rfl⟩ ⟨Nat.le_of_ble_eq_true rfl, Nat.le_of_ble_eq_true rfl⟩ dX1_goOn_164 rfl rfl (Nat.le_of_ble_eq_true rfl) ⟨Nat.zero_le _, Nat.zero_le _⟩) (fun L100 T101 N102 I103 J104 R105 dz106 dl107 H locs hp98 hMn => ?_)
              obtain ⟨yL100, yT101, yN102, yJ104, yR105, hFc108, hp98a⟩ := hp98
              obtain rfl := yL100.symm; obtain rfl := yT101.symm; obtain rfl := yN102.symm; obtain rfl := yJ104.symm; obtain rfl := yR105.symm
              replace hF : Fr mo_X1_goOn [] T N I J R T N I103 J R := hF.trans hFc108 (by decide) e20
              have hM := hMn
              clear hMn
              clear hp98a
              replace hvv : VVg I103 a_this g_vp g_vf g_pl := VVg.fr hvv t_this p_1 p_3 p_5 hFc108 (fun _ _ => nm0) (by decide)
              clear hFt hMt
              refine lv_iload_n B.1 B.2.1 dX1_goOn_167 rfl (lv_at hl 5 rfl) ?_
              have e109 : I103 a_this 19 = x1 := (hFc108.i t_this (by decide) nm0 rfl).trans e58
              refine g_iret B hM dX1_goOn_168 ⟨Nat.le_refl _, Nat.le_refl _⟩ ?_
              rw [← hPST]
              exact ⟨a_at, rfl, by omega, rfl, rfl, rfl, rfl, rfl, hF, by exact hvv, by first | omega | assumption | exact trivial, by first | omega | assumption | exact trivial, by first | omega | assumption | exact trivial⟩
          · exact JJ137  _ _ ls hM (lv_sub hl [0, 1, 2, 3, 4, 5] rfl)
      · exact JJ83  _ _ ls hM (lv_sub hl [0, 1, 2, 3, 4] rfl)
  · refine lv_aload_n B.1 B.2.1 dX1_goOn_38 rfl (lv_at hl 2 rfl) ?_
    refine c_getn (k := 14) pk_X1 B hM t_this kd5 rfl (by decide) fl_X1_28 dX1_goOn_39 p_2 ?_
    refine lv_iload_n B.1 B.2.1 dX1_goOn_42 rfl (lv_at hl 3 rfl) ?_
    have n110 : 1600 ≤ N g_vf ∧ N g_vf ≤ 1600 := gn91 hM.2.2.2.2.2.2.1 p_3
    obtain ⟨x111, e112⟩ : ∃ v, I g_vf a_at.toNat = v := ⟨_, rfl⟩
    have r113 : (-1 : Int) ≤ x111 ∧ x111 ≤ 1599 := by rw [← e112]; exact ga91 hM.2.2.2.2.2.2.1 p_3 (by omega)
    refine c_ild B hM p_3 kd91 an91 dX1_goOn_43 (by omega) (by omega) e112 ?_
    refine g_iret B hM dX1_goOn_44 ⟨Nat.le_refl _, Nat.le_refl _⟩ ?_
    rw [← hPST]
    exact ⟨x111, rfl, by omega, rfl, rfl, rfl, rfl, rfl, hF, by exact hvv, by first | omega | assumption | exact trivial, by first | omega | assumption | exact trivial, by first | omega | assumption | exact trivial⟩
