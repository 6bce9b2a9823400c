def mo_X0_addChain : List Nat := [2176, 197]
set_option maxHeartbeats 1000000 in
set_option maxRecDepth 20000 in
theorem k_X0_addChain (l : Launch) (D : va_G) (dA : Nat → ClassId) (eA : Nat) (L : List Nat) (T N : Nat → Nat) (I : Nat → Nat → Int) (J : Nat → Nat → Int64) (R : Nat → Nat → Nat) (a_this : Nat) (t_this : T a_this = 6) (a_row : Nat) (t_row : T a_row = 65) (a_n : Int) (i_n : (-2147483648 : Int) ≤ a_n ∧ a_n ≤ 2147483647) (p_0 : 0 ≤ a_n) (p_1 : a_n ≤ 8) : GC l yX0_addChain cX0_addChain 3 none ({ frames := 2, cells := 1, slots := 8, locals := 82 }) D dA eA L T N I J R [.ref a_this, .ref a_row, .int (II a_n)] 1 8 (gV (fun L' T' N' I' J' R' dz dl => J' = J ∧ Fr mo_X0_addChain [] T N I J R T' N' I' J' R' ∧ dz ≤ 1 ∧ dl ≤ 8)) := by
  generalize hPST : (gV (fun L' T' N' I' J' R' dz dl => J' = J ∧ Fr mo_X0_addChain [] T N I J R T' N' I' J' R' ∧ dz ≤ 1 ∧ dl ≤ 8)) = PST
  refine g_enter (own := RX0) (by decide) rfl (Nat.le_of_ble_eq_true rfl) (fun p e s m args below meth c ls hm B hX hM hl => ?_)
  have hC0 := hM.2.2.2.2.2.2.1
  have hW0 := hM.2.2.2
  have hF : Fr mo_X0_addChain [] T N I J R T N I J R := Fr.rf
  have hA : ∀ q, s.heap.size ≤ q → cF dA L T N I J R s.heap.size q := fun q h => Or.inr h
  have hl : lv_has ls 3 [(0, .ref a_this), (1, .ref a_row), (2, .int (II a_n))] := hl
  refine lv_aload_n B.1 B.2.1 dX0_addChain_0 rfl (lv_at hl 0 rfl) ?_
  obtain ⟨x1, e2⟩ : ∃ v, I a_this 5 = v := ⟨_, rfl⟩
  have r3 : (0 : Int) ≤ x1 ∧ x1 ≤ 6 := by rw [← e2]; exact g6_5 hM.2.2.2.2.2.2.1 t_this
  refine c_geti (k := 5) pk_X0 B hM t_this kd6 rfl (by decide) fl_X0_61 dX0_addChain_1 e2 ?_
  refine q_bip B dX0_addChain_4 (by decide) ?_
  refine q_cge (tgt := 33) B dX0_addChain_6 (by decide) (by unfold inr; omega) (by unfold inr; omega) (fun c4 => ?_) (fun c4 => ?_)
  · refine g_vret B hM dX0_addChain_33 ⟨by show 0 ≤ 1; omega, by show 0 ≤ 8; omega⟩ ?_
    rw [← hPST]
    exact ⟨rfl, rfl, hF, by first | omega | assumption | exact trivial, by first | omega | assumption | exact trivial⟩
  · refine lv_aload_n B.1 B.2.1 dX0_addChain_9 rfl (lv_at hl 0 rfl) ?_
    obtain ⟨b5, e6, t7⟩ := g6_4 hC0 t_this
    refine c_getn (k := 4) pk_X0 B hM t_this kd6 rfl (by decide) fl_X0_29 dX0_addChain_10 e6 ?_
    refine lv_aload_n B.1 B.2.1 dX0_addChain_13 rfl (lv_at hl 0 rfl) ?_
    refine c_geti (k := 5) pk_X0 B hM t_this kd6 rfl (by decide) fl_X0_61 dX0_addChain_14 e2 ?_
    refine lv_aload_n B.1 B.2.1 dX0_addChain_17 rfl (lv_at hl 1 rfl) ?_
    refine lv_iload_n B.1 B.2.1 dX0_addChain_18 rfl (lv_at hl 2 rfl) ?_
    have hv8 : ((-2147483648 : Int) ≤ a_n ∧ (a_n : Int) ≤ 2147483647) ∧ (0 ≤ a_n) ∧ (0 ≤ a_n.toNat) ∧ (a_n.toNat ≤ 8) := by first | omega | exact ⟨by first | omega | assumption | exact trivial, by first | omega | assumption | exact trivial, by first | omega | assumption | exact trivial, by first | omega | assumption | exact trivial⟩
    refine g_callr hM hA (c_runS (n := 2) (as := [.ref a_row, .int (II a_n)]) (rest := [.int (II x1), .ref b5]) B hX hA hM hl.1 (k_J7_copyOf_59c91 l D dA eA L T N I J R a_row t_row a_n hv8.1 69 kd65 kd69 (by decide +kernel) hv8.2.1 hv8.2.2.1 hv8.2.2.2 _ _) ml_X0_64 nm_J7_copyOf_59c91 ⟨rfl, rfl⟩ ⟨Nat.le_of_ble_eq_true rfl, Nat.le_of_ble_eq_true rfl⟩ dX0_addChain_19 rfl rfl (Nat.le_of_ble_eq_true rfl) ⟨by show 0 + 1 ≤ 1; omega, by show 0 + a_n.toNat ≤ 8; omega⟩) (fun b10 L11 T12 N13 I14 J15 R16 dz17 dl18 H locs hp9 hMn => ?_)
    obtain ⟨yJ15, yR16, hFc19, tb10, hp9a⟩ := hp9
    obtain rfl := yJ15.symm; obtain rfl := yR16.symm
    replace hF : Fr mo_X0_addChain [] T N I J R T12 N13 I14 J R := hF.trans hFc19 (by decide) e20
    have hM := hMn
    clear hMn
    replace hp9a : N13 b10 = a_n.toNat ∧ T b10 = 0 ∧ dz17 ≤ 1 ∧ dl18 ≤ a_n.toNat := hp9a
    obtain ⟨hp9a_0, hp9a_1, hp9a_2, hp9a_3⟩ := hp9a
    have t20 : T12 b5 = 68 := hF.tt t7 (by decide) nm0
    have n21 : 6 ≤ N13 b5 ∧ N13 b5 ≤ 6 := gn68 hM.2.2.2.2.2.2.1 t20
    refine c_astA (t := 68) (tx := 69) B hX hM t20 kd68 (by decide) (by decide +kernel) tb10 kd69 (by decide) dX0_addChain_22 (by omega) (by omega) (fun R9 h9 => XI.chn hM.2.2.2.2.2.2.1 hM.2.2.2.2.2.2.2 t20 h9) (fun R23 H locs hu22 hM => ?_)
    have e24 : R23 b5 x1.toNat = b10 + 1 := w2_at hu22
    replace hF : Fr mo_X0_addChain [] T N I J R T12 N13 I14 J R23 := hF.wr hu22 (fun _ _ => by rw [t7, cd_arr (j := 0) (by decide)]; rfl)
    refine lv_aload_n B.1 B.2.1 dX0_addChain_23 rfl (lv_at hl 0 rfl) ?_
    refine lv_dup B.1 B.2.1 dX0_addChain_24 rfl ?_
    have t25 : T12 a_this = 6 := hF.tt t_this (by decide) nm0
    have e26 : I14 a_this 5 = x1 := (hFc19.i t_this (by decide) nm0 rfl).trans e2
    refine c_geti (k := 5) pk_X0 B hM t25 kd6 rfl (by decide) fl_X0_61 dX0_addChain_25 e26 ?_
    refine q_con B dX0_addChain_28 ?_
    refine q_add B dX0_addChain_29 ?_
    have e29 : R23 a_this 4 = b5 + 1 := (hF.r t_this (by decide) nm0 rfl).trans e6
    refine c_putiX (k := 5) pk_X0 B hM t25 kd6 rfl (by decide) fl_X0_61 (Or.inl rfl) dX0_addChain_30 rfl rfl (show (0 : Int) ≤ x1 + (1 : Int) from by omega) (show x1 + (1 : Int) ≤ (6 : Int) from by omega) (fun I9 h9 => XI.cnt hM.2.2.2.2.2.2.1 hM.2.2.2.2.2.2.2 t25 e29 (fun i hi => if e : i = x1.toNat then (by rw [e, e24]; exact Nat.succ_ne_zero _) else by have h8 := hM.2.2.2.2.2.2.2.2.2.2.2 a_this t25 i (by rw [e26]; omega); rw [e29, Nat.add_sub_cancel] at h8; exact h8) h9) (fun I27 H locs hu28 hM => ?_)
    have e30 : I27 a_this 5 = x1 + (1 : Int) := w2_at hu28
    replace hF : Fr mo_X0_addChain [] T N I J R T12 N13 I27 J R23 := hF.wi hu28 (fun _ _ => by rw [t_this]; rfl)
    refine g_vret B hM dX0_addChain_33 ⟨by show 0 + dz17 ≤ 1; omega, by show 0 + dl18 ≤ 8; omega⟩ ?_
    rw [← hPST]
    exact ⟨rfl, rfl, hF, by first | omega | assumption | exact trivial, by first | omega | assumption | exact trivial⟩

def mo_X5_append : List Nat := [2752, 2784, 2688]
set_option maxHeartbeats 1000000 in
set_option maxRecDepth 20000 in
theorem k_X5_append (l : Launch) (D : va_G) (dA : Nat → ClassId) (eA : Nat) (L : List Nat) (T N : Nat → Nat) (I : Nat → Nat → Int) (J : Nat → Nat → Int64) (R : Nat → Nat → Nat) (a_this : Nat) (t_this : T a_this = 12) (a_m : Int) (i_m : (-2147483648 : Int) ≤ a_m ∧ a_m ≤ 2147483647) (a_v : Int) (i_v : (-2147483648 : Int) ≤ a_v ∧ a_v ≤ 2147483647) : GC l yX5_append cX5_append 3 (some .int) ({ frames := 0, cells := 1, slots := 20, locals := 0 }) D dA eA L T N I J R [.ref a_this, .int (II a_m), .int (II a_v)] 1 20 (gI (fun r L' T' N' I' J' R' dz dl => J' = J ∧ Fr mo_X5_append [] T N I J R T' N' I' J' R' ∧ dz ≤ 1 ∧ dl ≤ 20)) := by
  generalize hPST : (gI (fun r L' T' N' I' J' R' dz dl => J' = J ∧ Fr mo_X5_append [] T N I J R T' N' I' J' R' ∧ dz ≤ 1 ∧ dl ≤ 20)) = PST
  refine g_enter (own := RX5) (by decide) rfl (Nat.le_of_ble_eq_true rfl) (fun p e s m args below meth c ls hm B hX hM hl => ?_)
  have hC0 := hM.2.2.2.2.2.2.1
  have hW0 := hM.2.2.2
  have hF : Fr mo_X5_append [] T N I J R T N I J R := Fr.rf
  have hA : ∀ q, s.heap.size ≤ q → cF dA L T N I J R s.heap.size q := fun q h => Or.inr h
  have hl : lv_has ls 3 [(0, .ref a_this), (1, .int (II a_m)), (2, .int (II a_v))] := hl
  refine lv_iload_n B.1 B.2.1 dX5_append_0 rfl (lv_at hl 1 rfl) ?_
  refine q_ilt (tgt := 33) B dX5_append_1 (by decide) (by unfold inr; omega) (fun c1 => ?_) (fun c1 => ?_)
  · refine q_con B dX5_append_33 ?_
    refine g_iret B hM dX5_append_34 ⟨by show 0 ≤ 1; omega, by show 0 ≤ 20; omega⟩ ?_
    rw [← hPST]
    exact ⟨(-1), rfl, by omega, rfl, hF, by first | omega | assumption | exact trivial, by first | omega | assumption | exact trivial⟩
  · refine lv_iload_n B.1 B.2.1 dX5_append_4 rfl (lv_at hl 1 rfl) ?_
    refine lv_aload_n B.1 B.2.1 dX5_append_5 rfl (lv_at hl 0 rfl) ?_
    obtain ⟨b2, e3, t4⟩ := g12_2 hC0 t_this
    refine c_getn (k := 2) pk_X5 B hM t_this kd12 rfl (by decide) fl_X5_27 dX5_append_6 e3 ?_
    have n5 : 0 ≤ N b2 ∧ N b2 ≤ 12 := gn84 hM.2.2.2.2.2.2.1 t4
    refine c_len B hM t4 kd84 (by decide) dX5_append_9 rfl ?_
    refine q_cge (tgt := 33) B dX5_append_10 (by decide) (by unfold inr; omega) (by unfold inr; omega) (fun c6 => ?_) (fun c6 => ?_)
    · refine q_con B dX5_append_33 ?_
      refine g_iret B hM dX5_append_34 ⟨by show 0 ≤ 1; omega, by show 0 ≤ 20; omega⟩ ?_
      rw [← hPST]
      exact ⟨(-1), rfl, by omega, rfl, hF, by first | omega | assumption | exact trivial, by first | omega | assumption | exact trivial⟩
    · obtain ⟨b7, e8, t9⟩ := g12_0 hC0 t_this
      obtain ⟨b10, e11, t12⟩ := g11_3 hC0 t9
      obtain ⟨b13, e14, t15⟩ := g12_3 hC0 t_this
      obtain ⟨b16, e17, t18⟩ := g12_4 hC0 t_this
      obtain ⟨b19, e20, t21⟩ := g12_5 hC0 t_this
      obtain ⟨gp22a, gp22b, gp22c, gp22d⟩ := gp2 hM.2.2.2.2.2.2.2 t_this e8 e11 e3 e14 e17 e20
      refine lv_aload_n B.1 B.2.1 dX5_append_13 rfl (lv_at hl 0 rfl) ?_
      refine c_getn (k := 2) pk_X5 B hM t_this kd12 rfl (by decide) fl_X5_27 dX5_append_14 e3 ?_
      refine lv_iload_n B.1 B.2.1 dX5_append_17 rfl (lv_at hl 1 rfl) ?_
      obtain ⟨x23, e24⟩ : ∃ v, I b2 a_m.toNat = v := ⟨_, rfl⟩
      have r25 : (-2147483648 : Int) ≤ x23 ∧ x23 ≤ 2147483647 := by rw [← e24]; exact ga84 hM.2.2.2.2.2.2.1 t4 (by omega)
      refine c_ild B hM t4 kd84 an84 dX5_append_18 (by omega) (by omega) e24 ?_
      refine q_ilt (tgt := 33) B dX5_append_19 (by decide) (by unfold inr; omega) (fun c26 => ?_) (fun c26 => ?_)
      · refine q_con B dX5_append_33 ?_
        refine g_iret B hM dX5_append_34 ⟨by show 0 ≤ 1; omega, by show 0 ≤ 20; omega⟩ ?_
        rw [← hPST]
        exact ⟨(-1), rfl, by omega, rfl, hF, by first | omega | assumption | exact trivial, by first | omega | assumption | exact trivial⟩
      · refine lv_aload_n B.1 B.2.1 dX5_append_22 rfl (lv_at hl 0 rfl) ?_
        refine c_getn (k := 2) pk_X5 B hM t_this kd12 rfl (by decide) fl_X5_27 dX5_append_23 e3 ?_
        refine lv_iload_n B.1 B.2.1 dX5_append_26 rfl (lv_at hl 1 rfl) ?_
        refine c_ild B hM t4 kd84 an84 dX5_append_27 (by omega) (by omega) e24 ?_
        refine q_bip B dX5_append_28 (by decide) ?_
        refine q_clt (tgt := 35) B dX5_append_30 (by decide) (by unfold inr; omega) (by unfold inr; omega) (fun c27 => ?_) (fun c27 => ?_)
        · obtain ⟨gp28a, gp28b, gp28c, gp28d⟩ := gp2 hM.2.2.2.2.2.2.2 t_this e8 e11 e3 e14 e17 e20
          refine lv_aload_n B.1 B.2.1 dX5_append_35 rfl (lv_at hl 0 rfl) ?_
          refine c_getn (k := 4) pk_X5 B hM t_this kd12 rfl (by decide) fl_X5_36 dX5_append_36 e17 ?_
          refine lv_iload_n B.1 B.2.1 dX5_append_39 rfl (lv_at hl 1 rfl) ?_
          have n29 : 0 ≤ N b16 ∧ N b16 ≤ 12 := gn86 hM.2.2.2.2.2.2.1 t18
          obtain ⟨v30, e31⟩ : ∃ v, R b16 a_m.toNat = v := ⟨_, rfl⟩
          have q32 : v30 = 0 ∨ ∃ b, v30 = b + 1 ∧ T b = 87 := by rw [← e31]; exact ga86 hM.2.2.2.2.2.2.1 t18 (k := a_m.toNat) (by omega)
          refine c_ald B hM t18 kd86 an86 dX5_append_40 (by omega) (by omega) e31 ?_
          rcases q32 with rfl | ⟨b33, rfl, t34⟩
          · have hl : lv_has ls 3 [(0, .ref a_this), (1, .int (II a_m)), (2, .int (II a_v))] := hl
            refine lv_ifnonnullN B.1 B.2.1 dX5_append_41 ?_
            refine lv_aload_n B.1 B.2.1 dX5_append_44 rfl (lv_at hl 0 rfl) ?_
            refine c_getn (k := 4) pk_X5 B hM t_this kd12 rfl (by decide) fl_X5_36 dX5_append_45 e17 ?_
            refine lv_iload_n B.1 B.2.1 dX5_append_48 rfl (lv_at hl 1 rfl) ?_
            refine q_bip B dX5_append_49 (by decide) ?_
            have hMo := hM
            refine c_newa (t := 87) (atype := .int) (n' := 20) B hX.out hA hM kd87 aw87 rfl rfl (fun _ => va_RA_i) acc_int hav_int (by decide) (by omega) (show 20 ≤ 20 ∧ 20 ≤ 20 from by omega) (by show 0 + 1 ≤ 1; omega) (by show 0 + 20 ≤ 20; omega) dX5_append_51 (fun b35 L36 T37 N38 H t39 hT40 hN41 hM => ?_)
            have t42 : T37 b35 = 87 := by rw [hT40, va_up_self]
            have n43 : N38 b35 = 20 := by rw [hN41, va_up_self]
            replace hF : Fr mo_X5_append [] T N I J R T37 N38 I J R := hF.new t39 hT40 hN41
            have zz44 := hMo.2.2.2.2.2.1 b35 t39
            clear hMo
            have t45 : T37 b16 = 86 := hF.tt t18 (by decide) nm0
            have n46 : 0 ≤ N38 b16 ∧ N38 b16 ≤ 12 := gn86 hM.2.2.2.2.2.2.1 t45
            have n47 : N38 b16 = N b16 := hF.n t18 (by decide) nm0
            refine c_astA (t := 86) (tx := 87) B hX hM t45 kd86 (by decide) (by decide +kernel) t42 kd87 (by decide) dX5_append_53 (by omega) (by omega) (fun R9 h9 => XI.wr hM.2.2.2.2.2.2.1 hM.2.2.2.2.2.2.2 h9 (by rw [t45, xR_arr (by decide)]; decide)) (fun R49 H locs hu48 hM => ?_)
            have e50 : R49 b16 a_m.toNat = b35 + 1 := w2_at hu48
            replace hF : Fr mo_X5_append [] T N I J R T37 N38 I J R49 := hF.wr hu48 (fun _ _ => by rw [t18, cd_arr (j := 0) (by decide)]; rfl)
            refine lv_aload_n B.1 B.2.1 dX5_append_54 rfl (lv_at hl 0 rfl) ?_
            have t51 : T37 a_this = 12 := hF.tt t_this (by decide) nm0
            have e52 : R49 a_this 4 = b16 + 1 := (hF.r t_this (by decide) nm0 rfl).trans e17
            refine c_getn (k := 4) pk_X5 B hM t51 kd12 rfl (by decide) fl_X5_36 dX5_append_55 e52 ?_
            refine lv_iload_n B.1 B.2.1 dX5_append_58 rfl (lv_at hl 1 rfl) ?_
            refine c_aldn B hM t45 kd86 an86 dX5_append_59 (by omega) (by omega) e50 ?_
            refine lv_aload_n B.1 B.2.1 dX5_append_60 rfl (lv_at hl 0 rfl) ?_
            have e53 : R49 a_this 2 = b2 + 1 := (hF.r t_this (by decide) nm0 rfl).trans e3
            refine c_getn (k := 2) pk_X5 B hM t51 kd12 rfl (by decide) fl_X5_27 dX5_append_61 e53 ?_
            refine lv_iload_n B.1 B.2.1 dX5_append_64 rfl (lv_at hl 1 rfl) ?_
            have t54 : T37 b2 = 84 := hF.tt t4 (by decide) nm0
            have n55 : 0 ≤ N38 b2 ∧ N38 b2 ≤ 12 := gn84 hM.2.2.2.2.2.2.1 t54
            have n56 : N38 b2 = N b2 := hF.n t4 (by decide) nm0
            refine c_ild B hM t54 kd84 an84 dX5_append_65 (by omega) (by omega) e24 ?_
            refine lv_iload_n B.1 B.2.1 dX5_append_66 rfl (lv_at hl 2 rfl) ?_
            refine c_ist B hM t42 kd87 aq87 dX5_append_67 (by omega) (by omega) (show (-2147483648 : Int) ≤ a_v from by omega) (show a_v ≤ (2147483647 : Int) from by omega) (fun I58 H locs hu57 hM => ?_)
            have e59 : I58 b35 x23.toNat = a_v := w2_at hu57
            replace hF : Fr mo_X5_append [] T N I J R T37 N38 I58 J R49 := hF.wi hu57 (fun h _ => absurd t39 h)
            refine lv_aload_n B.1 B.2.1 dX5_append_68 rfl (lv_at hl 0 rfl) ?_
            refine c_getn (k := 2) pk_X5 B hM t51 kd12 rfl (by decide) fl_X5_27 dX5_append_69 e53 ?_
            refine lv_iload_n B.1 B.2.1 dX5_append_72 rfl (lv_at hl 1 rfl) ?_
            refine lv_dup2_11 B.1 B.2.1 dX5_append_73 rfl rfl ?_
            have e60 : I58 b2 a_m.toNat = x23 := (w2_ne hu57 (Or.inl (tne t54 t42 (by decide)))).trans e24
            refine c_ild B hM t54 kd84 an84 dX5_append_74 (by omega) (by omega) e60 ?_
            refine q_con B dX5_append_75 ?_
            refine q_add B dX5_append_76 ?_
            refine c_ist B hM t54 kd84 aq84 dX5_append_77 (by omega) (by omega) (show (-2147483648 : Int) ≤ x23 + (1 : Int) from by omega) (show x23 + (1 : Int) ≤ (2147483647 : Int) from by omega) (fun I62 H locs hu61 hM => ?_)
            have e63 : I62 b2 a_m.toNat = x23 + (1 : Int) := w2_at hu61
            replace hF : Fr mo_X5_append [] T N I J R T37 N38 I62 J R49 := hF.wi hu61 (fun _ _ => by rw [t4, cd_arr (j := 0) (by decide)]; rfl)
            refine lv_aload_n B.1 B.2.1 dX5_append_78 rfl (lv_at hl 0 rfl) ?_
            refine c_getn (k := 2) pk_X5 B hM t51 kd12 rfl (by decide) fl_X5_27 dX5_append_79 e53 ?_
            refine lv_iload_n B.1 B.2.1 dX5_append_82 rfl (lv_at hl 1 rfl) ?_
            have r64 : (-2147483648 : Int) ≤ x23 + (1 : Int) ∧ x23 + (1 : Int) ≤ 2147483647 := by rw [← e63]; exact ga84 hM.2.2.2.2.2.2.1 t54 (by omega)
            refine c_ild B hM t54 kd84 an84 dX5_append_83 (by omega) (by omega) e63 ?_
            refine g_iret B hM dX5_append_84 ⟨by show 0 + 1 ≤ 1; omega, by show 0 + 20 ≤ 20; omega⟩ ?_
            rw [← hPST]
            exact ⟨(x23 + (1 : Int)), rfl, by omega, rfl, hF, by first | omega | assumption | exact trivial, by first | omega | assumption | exact trivial⟩
          · have hl : lv_has ls 3 [(0, .ref a_this), (1, .int (II a_m)), (2, .int (II a_v))] := hl
            refine lv_ifnonnull (tgt := 54) B.1 B.2.1 dX5_append_41 (by decide) ?_
            refine lv_aload_n B.1 B.2.1 dX5_append_54 rfl (lv_at hl 0 rfl) ?_
            refine c_getn (k := 4) pk_X5 B hM t_this kd12 rfl (by decide) fl_X5_36 dX5_append_55 e17 ?_
            refine lv_iload_n B.1 B.2.1 dX5_append_58 rfl (lv_at hl 1 rfl) ?_
            refine c_aldn B hM t18 kd86 an86 dX5_append_59 (by omega) (by omega) e31 ?_
            refine lv_aload_n B.1 B.2.1 dX5_append_60 rfl (lv_at hl 0 rfl) ?_
            refine c_getn (k := 2) pk_X5 B hM t_this kd12 rfl (by decide) fl_X5_27 dX5_append_61 e3 ?_
            refine lv_iload_n B.1 B.2.1 dX5_append_64 rfl (lv_at hl 1 rfl) ?_
            refine c_ild B hM t4 kd84 an84 dX5_append_65 (by omega) (by omega) e24 ?_
            refine lv_iload_n B.1 B.2.1 dX5_append_66 rfl (lv_at hl 2 rfl) ?_
            have n65 : 20 ≤ N b33 ∧ N b33 ≤ 20 := gn87 hM.2.2.2.2.2.2.1 t34
            refine c_ist B hM t34 kd87 aq87 dX5_append_67 (by omega) (by omega) (show (-2147483648 : Int) ≤ a_v from by omega) (show a_v ≤ (2147483647 : Int) from by omega) (fun I67 H locs hu66 hM => ?_)
            have e68 : I67 b33 x23.toNat = a_v := w2_at hu66
            replace hF : Fr mo_X5_append [] T N I J R T N I67 J R := hF.wi hu66 (fun _ _ => by rw [t34, cd_arr (j := 0) (by decide)]; rfl)
            refine lv_aload_n B.1 B.2.1 dX5_append_68 rfl (lv_at hl 0 rfl) ?_
            refine c_getn (k := 2) pk_X5 B hM t_this kd12 rfl (by decide) fl_X5_27 dX5_append_69 e3 ?_
            refine lv_iload_n B.1 B.2.1 dX5_append_72 rfl (lv_at hl 1 rfl) ?_
            refine lv_dup2_11 B.1 B.2.1 dX5_append_73 rfl rfl ?_
            have e69 : I67 b2 a_m.toNat = x23 := (w2_ne hu66 (Or.inl (tne t4 t34 (by decide)))).trans e24
            refine c_ild B hM t4 kd84 an84 dX5_append_74 (by omega) (by omega) e69 ?_
            refine q_con B dX5_append_75 ?_
            refine q_add B dX5_append_76 ?_
            refine c_ist B hM t4 kd84 aq84 dX5_append_77 (by omega) (by omega) (show (-2147483648 : Int) ≤ x23 + (1 : Int) from by omega) (show x23 + (1 : Int) ≤ (2147483647 : Int) from by omega) (fun I71 H locs hu70 hM => ?_)
            have e72 : I71 b2 a_m.toNat = x23 + (1 : Int) := w2_at hu70
            replace hF : Fr mo_X5_append [] T N I J R T N I71 J R := hF.wi hu70 (fun _ _ => by rw [t4, cd_arr (j := 0) (by decide)]; rfl)
            refine lv_aload_n B.1 B.2.1 dX5_append_78 rfl (lv_at hl 0 rfl) ?_
            refine c_getn (k := 2) pk_X5 B hM t_this kd12 rfl (by decide) fl_X5_27 dX5_append_79 e3 ?_
            refine lv_iload_n B.1 B.2.1 dX5_append_82 rfl (lv_at hl 1 rfl) ?_
            have r73 : (-2147483648 : Int) ≤ x23 + (1 : Int) ∧ x23 + (1 : Int) ≤ 2147483647 := by rw [← e72]; exact ga84 hM.2.2.2.2.2.2.1 t4 (by omega)
            refine c_ild B hM t4 kd84 an84 dX5_append_83 (by omega) (by omega) e72 ?_
            refine g_iret B hM dX5_append_84 ⟨by show 0 ≤ 1; omega, by show 0 ≤ 20; omega⟩ ?_
            rw [← hPST]
            exact ⟨(x23 + (1 : Int)), rfl, by omega, rfl, hF, by first | omega | assumption | exact trivial, by first | omega | assumption | exact trivial⟩
        · refine q_con B dX5_append_33 ?_
          refine g_iret B hM dX5_append_34 ⟨by show 0 ≤ 1; omega, by show 0 ≤ 20; omega⟩ ?_
          rw [← hPST]
          exact ⟨(-1), rfl, by omega, rfl, hF, by first | omega | assumption | exact trivial, by first | omega | assumption | exact trivial⟩
