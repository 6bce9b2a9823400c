def mo_X6_readUseName : List Nat := [225, 226]
set_option maxHeartbeats 1000000 in
set_option maxRecDepth 20000 in
theorem k_X6_readUseName (l : Launch) (D : va_G) (dA : Nat → ClassId) (eA : Nat) (L : List Nat) (T N : Nat → Nat) (I : Nat → Nat → Int) (J : Nat → Nat → Int64) (R : Nat → Nat → Nat) (a_this : Nat) (t_this : T a_this = 7) : GC l yX6_readUseName cX6_readUseName 3 (some .int) ({ frames := 1, cells := 0, slots := 0, locals := 23 }) D dA eA L T N I J R [.ref a_this] 0 0 (gI (fun r L' T' N' I' J' R' dz dl => L' = L ∧ T' = T ∧ N' = N ∧ J' = J ∧ R' = R ∧ Fr mo_X6_readUseName [] T N I J R T' N' I' J' R' ∧ (((r = -1 ∧ I' a_this 1 ≠ 0) ∨ (0 ≤ r ∧ r ≤ 299 ∧ I' a_this 1 = I a_this 1))))) := by
  generalize hPST : (gI (fun r L' T' N' I' J' R' dz dl => L' = L ∧ T' = T ∧ N' = N ∧ J' = J ∧ R' = R ∧ Fr mo_X6_readUseName [] T N I J R T' N' I' J' R' ∧ (((r = -1 ∧ I' a_this 1 ≠ 0) ∨ (0 ≤ r ∧ r ≤ 299 ∧ I' a_this 1 = I a_this 1))))) = PST
  refine g_enter (own := RX6) (by decide) rfl (Nat.le_of_ble_eq_true rfl) (fun p e s m args below meth c ls hm B hX hM hl => ?_)
  have hC0 := hM.2.2.2.2.2.2.1
  have hW0 := hM.2.2.2
  have hF : Fr mo_X6_readUseName [] T N I J R T N I J R := Fr.rf
  have hA : ∀ q, s.heap.size ≤ q → cF dA L T N I J R s.heap.size q := fun q h => Or.inr h
  have hl : lv_has ls 3 [(0, .ref a_this)] := hl
  obtain ⟨x1, e2⟩ : ∃ v, I a_this 1 = v := ⟨_, rfl⟩
  refine lv_aload_n B.1 B.2.1 dX6_readUseName_0 rfl (lv_at hl 0 rfl) ?_
  obtain ⟨w3, e4⟩ : ∃ v, J a_this 7 = v := ⟨_, rfl⟩
  refine c_getl (k := 7) pk_X6 B hM t_this kd7 rfl (by decide) fl_X6_54 dX6_readUseName_1 e4 ?_
  refine p_calli (c_runS (n := 1) (as := [.long w3]) (rest := []) B hX hA hM hl.1 (k_X0_builtIn l D dA eA L T N I J R w3 _ _) ml_X6_90 nm_X0_builtIn ⟨rfl, rfl⟩ ⟨Nat.le_of_ble_eq_true rfl, Nat.le_of_ble_eq_true rfl⟩ dX6_readUseName_4 rfl rfl (Nat.le_of_ble_eq_true rfl) ⟨Nat.zero_le _, Nat.zero_le _⟩) (fun x6 ix6 hp5 => ?_)
  have hp5a := hp5
  replace hp5a : 0 ≤ x6 ∧ x6 ≤ 8 := hp5a
  obtain ⟨hp5a_0, hp5a_1⟩ := hp5a
  refine lv_istore_n (lv' := [(1, .int (II x6)), (0, .ref a_this)]) B.1 B.2.1 dX6_readUseName_7 rfl hl (by decide) rfl (fun ls hl => ?_)
  refine lv_iload_n B.1 B.2.1 dX6_readUseName_8 rfl (lv_at hl 0 rfl) ?_
  refine q_ine (tgt := 19) B dX6_readUseName_9 (by decide) (by unfold inr; omega) (fun c7 => ?_) (fun c7 => ?_)
  · refine lv_iload_n B.1 B.2.1 dX6_readUseName_19 rfl (lv_at hl 0 rfl) ?_
    refine g_iret B hM dX6_readUseName_20 ⟨Nat.le_refl _, Nat.le_refl _⟩ ?_
    rw [← hPST]
    exact ⟨x6, rfl, by omega, rfl, rfl, rfl, rfl, rfl, hF, by first | omega | assumption | exact trivial⟩
  · refine lv_aload_n B.1 B.2.1 dX6_readUseName_12 rfl (lv_at hl 1 rfl) ?_
    obtain ⟨v8, e9⟩ : ∃ v, R a_this 4 = v := ⟨_, rfl⟩
    have q10 : v8 = 0 ∨ ∃ b, v8 = b + 1 ∧ T b = 6 := by rw [← e9]; exact g7_4 hC0 t_this
    refine c_getr (k := 4) pk_X6 B hM t_this kd7 rfl (by decide) fl_X6_15 dX6_readUseName_13 e9 ?_
    rcases q10 with rfl | ⟨b11, rfl, t12⟩
    · have hl : lv_has ls 3 [(1, .int (II x6)), (0, .ref a_this)] := hl
      refine lv_ifnonnullN B.1 B.2.1 dX6_readUseName_16 ?_
      refine lv_iload_n B.1 B.2.1 dX6_readUseName_19 rfl (lv_at hl 0 rfl) ?_
      refine g_iret B hM dX6_readUseName_20 ⟨Nat.le_refl _, Nat.le_refl _⟩ ?_
      rw [← hPST]
      exact ⟨x6, rfl, by omega, rfl, rfl, rfl, rfl, rfl, hF, by first | omega | assumption | exact trivial⟩
    · have hl : lv_has ls 3 [(1, .int (II x6)), (0, .ref a_this)] := hl
      refine lv_ifnonnull (tgt := 21) B.1 B.2.1 dX6_readUseName_16 (by decide) ?_
      refine lv_aload_n B.1 B.2.1 dX6_readUseName_21 rfl (lv_at hl 1 rfl) ?_
      refine c_getn (k := 4) pk_X6 B hM t_this kd7 rfl (by decide) fl_X6_15 dX6_readUseName_22 e9 ?_
      refine lv_aload_n B.1 B.2.1 dX6_readUseName_25 rfl (lv_at hl 1 rfl) ?_
      refine c_getl (k := 7) pk_X6 B hM t_this kd7 rfl (by decide) fl_X6_54 dX6_readUseName_26 e4 ?_
      refine p_calli (c_runV (n := 1) (as := [.long w3]) (rest := []) B hX hA hM hl.1 t12 kd6 rfl (k_X0_find l D dA eA L T N I J R b11 t12 w3 _ _) ml_X6_94 nm_X0_find ⟨rfl, rfl⟩ ⟨Nat.le_of_ble_eq_true rfl, Nat.le_of_ble_eq_true rfl⟩ dX6_readUseName_29 rfl rfl (Nat.le_of_ble_eq_true rfl) ⟨Nat.zero_le _, Nat.zero_le _⟩) (fun x14 ix14 hp13 => ?_)
      have hp13a := hp13
      clear hp13a
      refine lv_istore_n (lv' := [(2, .int (II x14)), (1, .int (II x6)), (0, .ref a_this)]) B.1 B.2.1 dX6_readUseName_32 rfl hl (by decide) rfl (fun ls hl => ?_)
      refine lv_iload_n B.1 B.2.1 dX6_readUseName_33 rfl (lv_at hl 0 rfl) ?_
      refine q_con B dX6_readUseName_34 ?_
      refine q_ceq (tgt := 54) B dX6_readUseName_35 (by decide) (by unfold inr; omega) (by unfold inr; omega) (fun c15 => ?_) (fun c15 => ?_)
      · refine lv_iload_n B.1 B.2.1 dX6_readUseName_54 rfl (lv_at hl 0 rfl) ?_
        refine q_con B dX6_readUseName_55 ?_
        refine q_ceq (tgt := 76) B dX6_readUseName_56 (by decide) (by unfold inr; omega) (by unfold inr; omega) (fun c16 => ?_) (fun c16 => ?_)
        · refine lv_aload_n B.1 B.2.1 dX6_readUseName_76 rfl (lv_at hl 2 rfl) ?_
          refine q_con B dX6_readUseName_77 ?_
          have hv17 : ((-2147483648 : Int) ≤ 5 ∧ (5 : Int) ≤ 2147483647) ∧ ((5 : Int) ≠ 0) := by first | omega | exact ⟨by first | omega | assumption | exact trivial, by first | omega | assumption | exact trivial⟩
          refine z_calli hM hA (c_runV (n := 1) (as := [.int (II 5)]) (rest := []) B hX hA hM hl.1 t_this kd7 rfl (k_X6_wrong l D dA eA L T N I J R a_this t_this (5) hv17.1 hv17.2 _ _) ml_X6_84 nm_X6_wrong ⟨rfl, rfl⟩ ⟨Nat.le_of_ble_eq_true rfl, Nat.le_of_ble_eq_true rfl⟩ dX6_readUseName_78 rfl rfl (Nat.le_of_ble_eq_true rfl) ⟨Nat.zero_le _, Nat.zero_le _⟩) (fun x19 ix19 L20 T21 N22 I23 J24 R25 dz26 dl27 H locs hp18 hMn => ?_)
          obtain ⟨yL20, yT21, yN22, yJ24, yR25, hFc28, hp18a⟩ := hp18
          obtain rfl := yL20.symm; obtain rfl := yT21.symm; obtain rfl := yN22.symm; obtain rfl := yJ24.symm; obtain rfl := yR25.symm
          replace hF : Fr mo_X6_readUseName [] T N I J R T N I23 J R := hF.trans hFc28 (by decide) e20
          have hM := hMn
          clear hMn
          replace hp18a : (0 : Int) ≤ x19 ∧ x19 ≤ 1 ∧ (x19 = 0 ∧ I23 a_this 1 ≠ 0) := hp18a
          obtain ⟨hp18a_0, hp18a_1, hp18a_2⟩ := hp18a
          obtain ⟨hp18a_2_0, hp18a_2_1⟩ := hp18a_2
          refine lv_pop B.1 B.2.1 dX6_readUseName_81 rfl ?_
          refine q_con B dX6_readUseName_82 ?_
          obtain ⟨x29, e30⟩ : ∃ v, I23 a_this 1 = v := ⟨_, rfl⟩
          refine g_iret B hM dX6_readUseName_83 ⟨Nat.le_refl _, Nat.le_refl _⟩ ?_
          rw [← hPST]
          exact ⟨(-1), rfl, by omega, rfl, rfl, rfl, rfl, rfl, hF, by first | omega | assumption | exact trivial⟩
        · refine lv_iload_n B.1 B.2.1 dX6_readUseName_59 rfl (lv_at hl 0 rfl) ?_
          refine q_bip B dX6_readUseName_60 (by decide) ?_
          refine q_divE B dX6_readUseName_62 (by unfold inr; omega) (by unfold inr; omega) (by omega) (fun x31 ix31 px31 nx31 => ?_)
          unfold inr at ix31
          refine q_con B dX6_readUseName_63 ?_
          refine q_cne (tgt := 76) B dX6_readUseName_64 (by decide) (by unfold inr; omega) (by unfold inr; omega) (fun c32 => ?_) (fun c32 => ?_)
          · refine lv_aload_n B.1 B.2.1 dX6_readUseName_76 rfl (lv_at hl 2 rfl) ?_
            refine q_con B dX6_readUseName_77 ?_
            have hv33 : ((-2147483648 : Int) ≤ 5 ∧ (5 : Int) ≤ 2147483647) ∧ ((5 : Int) ≠ 0) := by first | omega | exact ⟨by first | omega | assumption | exact trivial, by first | omega | assumption | exact trivial⟩
            refine z_calli hM hA (c_runV (n := 1) (as := [.int (II 5)]) (rest := []) B hX hA hM hl.1 t_this kd7 rfl (k_X6_wrong l D dA eA L T N I J R a_this t_this (5) hv33.1 hv33.2 _ _) ml_X6_84 nm_X6_wrong ⟨rfl, rfl⟩ ⟨Nat.le_of_ble_eq_true rfl, Nat.le_of_ble_eq_true rfl⟩ dX6_readUseName_78 rfl rfl (Nat.le_of_ble_eq_true rfl) ⟨Nat.zero_le _, Nat.zero_le _⟩) (fun x35 ix35 L36 T37 N38 I39 J40 R41 dz42 dl43 H locs hp34 hMn => ?_)
            obtain ⟨yL36, yT37, yN38, yJ40, yR41, hFc44, hp34a⟩ := hp34
            obtain rfl := yL36.symm; obtain rfl := yT37.symm; obtain rfl := yN38.symm; obtain rfl := yJ40.symm; obtain rfl := yR41.symm
            replace hF : Fr mo_X6_readUseName [] T N I J R T N I39 J R := hF.trans hFc44 (by decide) e20
            have hM := hMn
            clear hMn
            replace hp34a : (0 : Int) ≤ x35 ∧ x35 ≤ 1 ∧ (x35 = 0 ∧ I39 a_this 1 ≠ 0) := hp34a
            obtain ⟨hp34a_0, hp34a_1, hp34a_2⟩ := hp34a
            obtain ⟨hp34a_2_0, hp34a_2_1⟩ := hp34a_2
            refine lv_pop B.1 B.2.1 dX6_readUseName_81 rfl ?_
            refine q_con B dX6_readUseName_82 ?_
            obtain ⟨x45, e46⟩ : ∃ v, I39 a_this 1 = v := ⟨_, rfl⟩
            refine g_iret B hM dX6_readUseName_83 ⟨Nat.le_refl _, Nat.le_refl _⟩ ?_
            rw [← hPST]
            exact ⟨(-1), rfl, by omega, rfl, rfl, rfl, rfl, rfl, hF, by first | omega | assumption | exact trivial⟩
          · refine q_sip B dX6_readUseName_67 (by decide) ?_
            refine lv_iload_n B.1 B.2.1 dX6_readUseName_70 rfl (lv_at hl 0 rfl) ?_
            refine q_bip B dX6_readUseName_71 (by decide) ?_
            refine q_remE B dX6_readUseName_73 (by unfold inr; omega) (by unfold inr; omega) (by omega) (fun x47 ix47 px47 nx47 => ?_)
            unfold inr at ix47
            refine q_add B dX6_readUseName_74 ?_
            refine g_iret B hM dX6_readUseName_75 ⟨Nat.le_refl _, Nat.le_refl _⟩ ?_
            rw [← hPST]
            exact ⟨((200 : Int) + x47), rfl, by omega, rfl, rfl, rfl, rfl, rfl, hF, by first | omega | assumption | exact trivial⟩
      · refine lv_iload_n B.1 B.2.1 dX6_readUseName_38 rfl (lv_at hl 0 rfl) ?_
        refine q_bip B dX6_readUseName_39 (by decide) ?_
        refine q_divE B dX6_readUseName_41 (by unfold inr; omega) (by unfold inr; omega) (by omega) (fun x48 ix48 px48 nx48 => ?_)
        unfold inr at ix48
        refine q_con B dX6_readUseName_42 ?_
        refine q_cne (tgt := 54) B dX6_readUseName_43 (by decide) (by unfold inr; omega) (by unfold inr; omega) (fun c49 => ?_) (fun c49 => ?_)
        · refine lv_iload_n B.1 B.2.1 dX6_readUseName_54 rfl (lv_at hl 0 rfl) ?_
          refine q_con B dX6_readUseName_55 ?_
          refine q_ceq (tgt := 76) B dX6_readUseName_56 (by decide) (by unfold inr; omega) (by unfold inr; omega) (fun c50 => ?_) (fun c50 => ?_)
          · refine lv_aload_n B.1 B.2.1 dX6_readUseName_76 rfl (lv_at hl 2 rfl) ?_
            refine q_con B dX6_readUseName_77 ?_
            have hv51 : ((-2147483648 : Int) ≤ 5 ∧ (5 : Int) ≤ 2147483647) ∧ ((5 : Int) ≠ 0) := by first | omega | exact ⟨by first | omega | assumption | exact trivial, by first | omega | assumption | exact trivial⟩
            refine z_calli hM hA (c_runV (n := 1) (as := [.int (II 5)]) (rest := []) B hX hA hM hl.1 t_this kd7 rfl (k_X6_wrong l D dA eA L T N I J R a_this t_this (5) hv51.1 hv51.2 _ _) ml_X6_84 nm_X6_wrong ⟨rfl, rfl⟩ ⟨Nat.le_of_ble_eq_true rfl, Nat.le_of_ble_eq_true rfl⟩ dX6_readUseName_78 rfl rfl (Nat.le_of_ble_eq_true rfl) ⟨Nat.zero_le _, Nat.zero_le _⟩) (fun x53 ix53 L54 T55 N56 I57 J58 R59 dz60 dl61 H locs hp52 hMn => ?_)
            obtain ⟨yL54, yT55, yN56, yJ58, yR59, hFc62, hp52a⟩ := hp52
            obtain rfl := yL54.symm; obtain rfl := yT55.symm; obtain rfl := yN56.symm; obtain rfl := yJ58.symm; obtain rfl := yR59.symm
            replace hF : Fr mo_X6_readUseName [] T N I J R T N I57 J R := hF.trans hFc62 (by decide) e20
            have hM := hMn
            clear hMn
            replace hp52a : (0 : Int) ≤ x53 ∧ x53 ≤ 1 ∧ (x53 = 0 ∧ I57 a_this 1 ≠ 0) := hp52a
            obtain ⟨hp52a_0, hp52a_1, hp52a_2⟩ := hp52a
            obtain ⟨hp52a_2_0, hp52a_2_1⟩ := hp52a_2
            refine lv_pop B.1 B.2.1 dX6_readUseName_81 rfl ?_
            refine q_con B dX6_readUseName_82 ?_
            obtain ⟨x63, e64⟩ : ∃ v, I57 a_this 1 = v := ⟨_, rfl⟩
            refine g_iret B hM dX6_readUseName_83 ⟨Nat.le_refl _, Nat.le_refl _⟩ ?_
            rw [← hPST]
            exact ⟨(-1), rfl, by omega, rfl, rfl, rfl, rfl, rfl, hF, by first | omega | assumption | exact trivial⟩
          · refine lv_iload_n B.1 B.2.1 dX6_readUseName_59 rfl (lv_at hl 0 rfl) ?_
            refine q_bip B dX6_readUseName_60 (by decide) ?_
            refine q_divE B dX6_readUseName_62 (by unfold inr; omega) (by unfold inr; omega) (by omega) (fun x65 ix65 px65 nx65 => ?_)
            unfold inr at ix65
            refine q_con B dX6_readUseName_63 ?_
            refine q_cne (tgt := 76) B dX6_readUseName_64 (by decide) (by unfold inr; omega) (by unfold inr; omega) (fun c66 => ?_) (fun c66 => ?_)
            · refine lv_aload_n B.1 B.2.1 dX6_readUseName_76 rfl (lv_at hl 2 rfl) ?_
              refine q_con B dX6_readUseName_77 ?_
              have hv67 : ((-2147483648 : Int) ≤ 5 ∧ (5 : Int) ≤ 2147483647) ∧ ((5 : Int) ≠ 0) := by first | omega | exact ⟨by first | omega | assumption | exact trivial, by first | omega | assumption | exact trivial⟩
              refine z_calli hM hA (c_runV (n := 1) (as := [.int (II 5)]) (rest := []) B hX hA hM hl.1 t_this kd7 rfl (k_X6_wrong l D dA eA L T N I J R a_this t_this (5) hv67.1 hv67.2 _ _) ml_X6_84 nm_X6_wrong ⟨rfl, rfl⟩ ⟨Nat.le_of_ble_eq_true rfl, Nat.le_of_ble_eq_true rfl⟩ dX6_readUseName_78 rfl rfl (Nat.le_of_ble_eq_true rfl) ⟨Nat.zero_le _, Nat.zero_le _⟩) (fun x69 ix69 L70 T71 N72 I73 J74 R75 dz76 dl77 H locs hp68 hMn => ?_)
              obtain ⟨yL70, yT71, yN72, yJ74, yR75, hFc78, hp68a⟩ := hp68
              obtain rfl := yL70.symm; obtain rfl := yT71.symm; obtain rfl := yN72.symm; obtain rfl := yJ74.symm; obtain rfl := yR75.symm
              replace hF : Fr mo_X6_readUseName [] T N I J R T N I73 J R := hF.trans hFc78 (by decide) e20
              have hM := hMn
              clear hMn
              replace hp68a : (0 : Int) ≤ x69 ∧ x69 ≤ 1 ∧ (x69 = 0 ∧ I73 a_this 1 ≠ 0) := hp68a
              obtain ⟨hp68a_0, hp68a_1, hp68a_2⟩ := hp68a
              obtain ⟨hp68a_2_0, hp68a_2_1⟩ := hp68a_2
              refine lv_pop B.1 B.2.1 dX6_readUseName_81 rfl ?_
              refine q_con B dX6_readUseName_82 ?_
              obtain ⟨x79, e80⟩ : ∃ v, I73 a_this 1 = v := ⟨_, rfl⟩
              refine g_iret B hM dX6_readUseName_83 ⟨Nat.le_refl _, Nat.le_refl _⟩ ?_
              rw [← hPST]
              exact ⟨(-1), rfl, by omega, rfl, rfl, rfl, rfl, rfl, hF, by first | omega | assumption | exact trivial⟩
            · refine q_sip B dX6_readUseName_67 (by decide) ?_
              refine lv_iload_n B.1 B.2.1 dX6_readUseName_70 rfl (lv_at hl 0 rfl) ?_
              refine q_bip B dX6_readUseName_71 (by decide) ?_
              refine q_remE B dX6_readUseName_73 (by unfold inr; omega) (by unfold inr; omega) (by omega) (fun x81 ix81 px81 nx81 => ?_)
              unfold inr at ix81
              refine q_add B dX6_readUseName_74 ?_
              refine g_iret B hM dX6_readUseName_75 ⟨Nat.le_refl _, Nat.le_refl _⟩ ?_
              rw [← hPST]
              exact ⟨((200 : Int) + x81), rfl, by omega, rfl, rfl, rfl, rfl, rfl, hF, by first | omega | assumption | exact trivial⟩
        · refine q_bip B dX6_readUseName_46 (by decide) ?_
          refine lv_iload_n B.1 B.2.1 dX6_readUseName_48 rfl (lv_at hl 0 rfl) ?_
          refine q_bip B dX6_readUseName_49 (by decide) ?_
          refine q_remE B dX6_readUseName_51 (by unfold inr; omega) (by unfold inr; omega) (by omega) (fun x82 ix82 px82 nx82 => ?_)
          unfold inr at ix82
          refine q_add B dX6_readUseName_52 ?_
          refine g_iret B hM dX6_readUseName_53 ⟨Nat.le_refl _, Nat.le_refl _⟩ ?_
          rw [← hPST]
          exact ⟨((100 : Int) + x82), rfl, by omega, rfl, rfl, rfl, rfl, rfl, hF, by first | omega | assumption | exact trivial⟩

def mo_X6_readArgs : List Nat := [229, 230, 231, 225, 226, 290, 291, 289, 2400, 2432]
set_option maxHeartbeats 1000000 in
set_option maxRecDepth 20000 in
theorem k_X6_readArgs (l : Launch) (D : va_G) (dA : Nat → ClassId) (eA : Nat) (L : List Nat) (T N : Nat → Nat) (I : Nat → Nat → Int) (J : Nat → Nat → Int64) (R : Nat → Nat → Nat) (a_this : Nat) (t_this : T a_this = 7) (a_use : Nat) (t_use : T a_use = 9) (g_t : Nat) (g_s : Nat) (g_S : Nat → Int) (g_n : Int) (p_0 : R a_this 3 = g_t + 1) (p_1 : T g_t = 3) (p_2 : R g_t 0 = g_s + 1) (p_3 : T g_s = 62) (p_4 : I g_s = g_S) (p_5 : TKz g_S g_n) (p_6 : I a_this 5 ≤ g_n) (p_7 : g_S (I a_this 5).toNat = I a_this 6) : GC l yX6_readArgs cX6_readArgs 3 (some .boolean) ({ frames := 1, cells := 2, slots := 8, locals := 21 }) D dA eA L T N I J R [.ref a_this, .ref a_use] 2 8 (gI (fun r L' T' N' I' J' R' dz dl => Fr mo_X6_readArgs [] T N I J R T' N' I' J' R' ∧ (0 : Int) ≤ r ∧ r ≤ 1 ∧ (I' a_this 5 ≤ g_n ∧ g_S (I' a_this 5).toNat = I' a_this 6 ∧ I a_this 5 ≤ I' a_this 5 ∧ ((r = 0 ∧ I' a_this 1 ≠ 0) ∨ (r = 1 ∧ I' a_this 1 = I a_this 1 ∧ I a_this 5 + 0 ≤ I' a_this 5)) ∧ dz ≤ 2 ∧ dl ≤ 8))) := by
  generalize hPST : (gI (fun r L' T' N' I' J' R' dz dl => Fr mo_X6_readArgs [] T N I J R T' N' I' J' R' ∧ (0 : Int) ≤ r ∧ r ≤ 1 ∧ (I' a_this 5 ≤ g_n ∧ g_S (I' a_this 5).toNat = I' a_this 6 ∧ I a_this 5 ≤ I' a_this 5 ∧ ((r = 0 ∧ I' a_this 1 ≠ 0) ∨ (r = 1 ∧ I' a_this 1 = I a_this 1 ∧ I a_this 5 + 0 ≤ I' a_this 5)) ∧ dz ≤ 2 ∧ dl ≤ 8))) = PST
  refine g_enter (own := RX6) (by decide) rfl (Nat.le_of_ble_eq_true rfl) (fun p e s m args below meth c ls hm B hX hM hl => ?_)
  have hC0 := hM.2.2.2.2.2.2.1
  have hW0 := hM.2.2.2
  have hF : Fr mo_X6_readArgs [] T N I J R T N I J R := Fr.rf
  have hA : ∀ q, s.heap.size ≤ q → cF dA L T N I J R s.heap.size q := fun q h => Or.inr h
  have hl : lv_has ls 3 [(0, .ref a_this), (1, .ref a_use)] := hl
  obtain ⟨x1, e2⟩ : ∃ v, I a_this 5 = v := ⟨_, rfl⟩
  obtain ⟨x3, e4⟩ : ∃ v, I a_this 6 = v := ⟨_, rfl⟩
  have nz5 : g_S (x1).toNat = x3 := by have h9 := p_7; rw [e2, e4] at h9; exact h9
  obtain ⟨x6, e7⟩ : ∃ v, I a_this 1 = v := ⟨_, rfl⟩
  refine lv_aload_n B.1 B.2.1 dX6_readArgs_0 rfl (lv_at hl 1 rfl) ?_
  refine q_con B dX6_readArgs_1 ?_
  have hMo := hM
  refine c_newa (t := 75) (atype := .int) (n' := 4) B hX.out hA hM kd75 aw75 rfl rfl (fun _ => va_RA_i) acc_int hav_int (by decide) (by omega) (show 4 ≤ 4 ∧ 4 ≤ 4 from by omega) (by show 0 + 1 ≤ 2; omega) (by show 0 + 4 ≤ 8; omega) dX6_readArgs_2 (fun b8 L9 T10 N11 H t12 hT13 hN14 hM => ?_)
  have t15 : T10 b8 = 75 := by rw [hT13, va_up_self]
  have n16 : N11 b8 = 4 := by rw [hN14, va_up_self]
  replace hF : Fr mo_X6_readArgs [] T N I J R T10 N11 I J R := hF.new t12 hT13 hN14
  have zz17 := hMo.2.2.2.2.2.1 b8 t12
  clear hMo
  have t18 : T10 a_use = 9 := hF.tt t_use (by decide) nm0
  refine c_putr (k := 2) (v := b8 + 1) pk_X10 B hM t18 kd9 rfl (by decide) fl_X6_286 (Or.inl rfl) dX6_readArgs_4 rfl rfl ⟨rfl, fun _ => rfl, rfl, fun _ => rfl⟩ (rokR t15 rfl) (fun R19 H locs hu20 hM => ?_)
  have e21 : R19 a_use 2 = b8 + 1 := w2_at hu20
  replace hF : Fr mo_X6_readArgs [] T N I J R T10 N11 I J R19 := hF.wr hu20 (fun _ _ => by rw [t_use]; rfl)
  refine lv_aload_n B.1 B.2.1 dX6_readArgs_7 rfl (lv_at hl 1 rfl) ?_
  refine q_con B dX6_readArgs_8 ?_
  have hMo := hM
  refine c_newa (t := 76) (atype := .long) (n' := 4) B hX.out hA hM kd76 aw76 rfl rfl (fun _ => va_RA_l) acc_long hav_long (by decide) (by omega) (show 4 ≤ 4 ∧ 4 ≤ 4 from by omega) (by show 0 + 1 + 1 ≤ 2; omega) (by show 0 + 4 + 4 ≤ 8; omega) dX6_readArgs_9 (fun b22 L23 T24 N25 H t26 hT27 hN28 hM => ?_)
  have z29 : T b22 = 0 := T0_x hF t26 nm0
  have t30 : T24 b22 = 76 := by rw [hT27, va_up_self]
  have n31 : N25 b22 = 4 := by rw [hN28, va_up_self]
  replace hF : Fr mo_X6_readArgs [] T N I J R T24 N25 I J R19 := hF.new t26 hT27 hN28
  have zz32 := hMo.2.2.2.2.2.1 b22 t26
  clear hMo
  have t33 : T24 a_use = 9 := hF.tt t_use (by decide) nm0
  refine c_putr (k := 3) (v := b22 + 1) pk_X10 B hM t33 kd9 rfl (by decide) fl_X6_289 (Or.inl rfl) dX6_readArgs_11 rfl rfl ⟨rfl, fun _ => rfl, rfl, fun _ => rfl⟩ (rokR t30 rfl) (fun R34 H locs hu35 hM => ?_)
  have e36 : R34 a_use 3 = b22 + 1 := w2_at hu35
  replace hF : Fr mo_X6_readArgs [] T N I J R T24 N25 I J R34 := hF.wr hu35 (fun _ _ => by rw [t_use]; rfl)
  refine q_con B dX6_readArgs_14 ?_
  refine lv_istore_n (lv' := [(2, .int (II 0)), (0, .ref a_this), (1, .ref a_use)]) B.1 B.2.1 dX6_readArgs_15 rfl hl (by decide) rfl (fun ls hl => ?_)
  have e37 : R34 a_this 3 = g_t + 1 := (hF.r t_this (by decide) nm0 rfl).trans p_0
  have e38 : R34 g_t 0 = g_s + 1 := (hF.r p_1 (by decide) nm0 rfl).trans p_2
  have e39 : R34 a_use 2 = b8 + 1 := (w2_ne hu35 (Or.inr (by decide))).trans e21
  have LL16 : ∀ NN : Nat, ∀ (v16_2 : Int) (I_16 : Nat → Nat → Int) (J_16 : Nat → Nat → Int64) (H : Heap) (locs : List Loc) (ls : Array Slot), (CWd D dA eA (cF dA L T N I J R s.heap.size) s.heap L23 T24 N25 I_16 J_16 R34 H locs) → (Fr mo_X6_readArgs [] T N I J R T24 N25 I_16 J_16 R34) → lv_has ls 3 [(0, .ref a_this), (1, .ref a_use), (2, .int (II v16_2))] → ((-2147483648 : Int) ≤ v16_2 ∧ v16_2 ≤ 2147483647) → (0 ≤ v16_2) → (v16_2 ≤ 4) → (I a_this 5 ≤ I_16 a_this 5) → (I_16 a_this 5 ≤ g_n) → (g_S (I_16 a_this 5).toNat = I_16 a_this 6) → (I_16 a_this 1 = I a_this 1) → (0 ≤ 5 - v16_2) → (5 - v16_2 < (NN : Int)) → W p l e ({ frames := 1, cells := 2, slots := 8, locals := 21 }) s m args below meth c H locs (0 + 1 + 1) (0 + 4 + 4) (MQ below (gQ D dA eA (cF dA L T N I J R s.heap.size) s.heap.size (hs s.heap) PST) args s 2 8 (cF dA L T N I J R s.heap.size)) (F0 m 16 ls []) := by
    intro NN
    induction NN with
    | zero => intro v16_2 I_16 J_16 H locs ls hM hF hl hLL16_0 hLL16_1 hLL16_2 hLL16_3 hLL16_4 hLL16_5 hLL16_6 hLL16_7 hN; exfalso; omega
    | succ NN IH16 =>
      intro v16_2 I_16 J_16 H locs ls hM hF hl hLL16_0 hLL16_1 hLL16_2 hLL16_3 hLL16_4 hLL16_5 hLL16_6 hLL16_7 hN
      obtain ⟨x40, e41⟩ : ∃ v, I_16 a_this 5 = v := ⟨_, rfl⟩
      obtain ⟨x42, e43⟩ : ∃ v, I_16 a_this 6 = v := ⟨_, rfl⟩
      have nz44 : g_S (x40).toNat = x42 := by have h9 := hLL16_5; rw [e41, e43] at h9; exact h9
      refine lv_iload_n B.1 B.2.1 dX6_readArgs_16 rfl (lv_at hl 2 rfl) ?_
      refine q_con B dX6_readArgs_17 ?_
      refine q_cgt (tgt := 144) B dX6_readArgs_18 (by decide) (by unfold inr; omega) (by unfold inr; omega) (fun c45 => absurd c45 (by omega)) (fun c45 => ?_)
      refine lv_aload_n B.1 B.2.1 dX6_readArgs_21 rfl (lv_at hl 0 rfl) ?_
      have t46 : T24 a_this = 7 := hF.tt t_this (by decide) nm0
      have t47 : T24 g_t = 3 := hF.tt p_1 (by decide) nm0
      have t48 : T24 g_s = 62 := hF.tt p_3 (by decide) nm0
      have hv49 : (TKz g_S g_n) ∧ (I_16 a_this 5 ≤ g_n) := by first | omega | exact ⟨by first | omega | assumption | exact trivial, by first | omega | assumption | exact trivial⟩
      refine z_callv hM hA (c_runV (n := 0) (as := []) (rest := []) B hX hA hM hl.1 t46 kd7 rfl (k_X6_advance l D dA eA L23 T24 N25 I_16 J_16 R34 a_this t46 g_t g_s g_S g_n (show R34 a_this 3 = g_t + 1 from e37) (show T24 g_t = 3 from t47) (show R34 g_t 0 = g_s + 1 from e38) (show T24 g_s = 62 from t48) (show I_16 g_s = g_S from ((Fr.irow hF p_3 (by decide) nm0 (by decide)).trans p_4)) hv49.1 hv49.2 (show g_S (I_16 a_this 5).toNat = I_16 a_this 6 from by rw [e41, e43]; first | assumption | omega) _ _) ml_X6_87 nm_X6_advance ⟨rfl, rfl⟩ ⟨Nat.le_of_ble_eq_true rfl, Nat.le_of_ble_eq_true rfl⟩ dX6_readArgs_22 rfl rfl (Nat.le_of_ble_eq_true rfl) ⟨by show 0 + 1 + 1 + 0 ≤ 2; omega, by show 0 + 4 + 4 + 0 ≤ 8; omega⟩) (fun L52 T53 N54 I55 J56 R57 dz58 dl59 H locs hp50 hMn => ?_)
      obtain ⟨yL52, yT53, yN54, yR57, hFc60, hp50a⟩ := hp50
      obtain rfl := yL52.symm; obtain rfl := yT53.symm; obtain rfl := yN54.symm; obtain rfl := yR57.symm
      replace hF : Fr mo_X6_readArgs [] T N I J R T24 N25 I55 J56 R34 := hF.trans hFc60 (by decide) e20
      have hM := hMn
      clear hMn
      replace hp50a : I55 a_this 5 ≤ g_n ∧ g_S (I55 a_this 5).toNat = I55 a_this 6 ∧ (((I_16 a_this 6 = 0 ∨ I_16 a_this 6 = 1) ∧ I55 a_this 5 = I_16 a_this 5) ∨ (I55 a_this 5 = I_16 a_this 5 + 1)) := hp50a
      obtain ⟨hp50a_0, hp50a_1, hp50a_2⟩ := hp50a
      obtain ⟨x61, e62⟩ : ∃ v, I55 a_this 5 = v := ⟨_, rfl⟩
      obtain ⟨x63, e64⟩ : ∃ v, I55 a_this 6 = v := ⟨_, rfl⟩
      have nz65 : g_S (x61).toNat = x63 := by have h9 := hp50a_1; rw [e62, e64] at h9; exact h9
      refine lv_aload_n B.1 B.2.1 dX6_readArgs_25 rfl (lv_at hl 0 rfl) ?_
      have r66 : (-2147483648 : Int) ≤ x63 ∧ x63 ≤ 2147483647 := by rw [← e64]; exact g7_6 hM.2.2.2.2.2.2.1 t46
      refine c_geti (k := 6) pk_X6 B hM t46 kd7 rfl (by decide) fl_X6_47 dX6_readArgs_26 e64 ?_
      refine q_con B dX6_readArgs_29 ?_
      refine q_ceq (tgt := 41) B dX6_readArgs_30 (by decide) (by unfold inr; omega) (by unfold inr; omega) (fun c67 => ?_) (fun c67 => ?_)
      · refine lv_iload_n B.1 B.2.1 dX6_readArgs_41 rfl (lv_at hl 2 rfl) ?_
        refine q_con B dX6_readArgs_42 ?_
        refine q_clt (tgt := 52) B dX6_readArgs_43 (by decide) (by unfold inr; omega) (by unfold inr; omega) (fun c68 => ?_) (fun c68 => ?_)
        · refine lv_aload_n B.1 B.2.1 dX6_readArgs_52 rfl (lv_at hl 1 rfl) ?_
          refine c_getn (k := 2) pk_X10 B hM t33 kd9 rfl (by decide) fl_X6_286 dX6_readArgs_53 e39 ?_
          refine lv_iload_n B.1 B.2.1 dX6_readArgs_56 rfl (lv_at hl 2 rfl) ?_
          refine lv_aload_n B.1 B.2.1 dX6_readArgs_57 rfl (lv_at hl 0 rfl) ?_
          refine c_geti (k := 6) pk_X6 B hM t46 kd7 rfl (by decide) fl_X6_47 dX6_readArgs_58 e64 ?_
          refine q_con B dX6_readArgs_61 ?_
          refine q_cne (tgt := 73) B dX6_readArgs_62 (by decide) (by unfold inr; omega) (by unfold inr; omega) (fun c69 => ?_) (fun c69 => ?_)
          · refine q_con B dX6_readArgs_73 ?_
            have t70 : T24 b8 = 75 := upT hT27 t26 t15 (by decide)
            have n71 : 4 ≤ N25 b8 ∧ N25 b8 ≤ 4 := gn75 hM.2.2.2.2.2.2.1 t70
            refine c_ist B hM t70 kd75 aq75 dX6_readArgs_74 (by omega) (by omega) (show (-2147483648 : Int) ≤ 0 from by omega) (show 0 ≤ (2147483647 : Int) from by omega) (fun I73 H locs hu72 hM => ?_)
            have e74 : I73 b8 v16_2.toNat = 0 := w2_at hu72
            replace hF : Fr mo_X6_readArgs [] T N I J R T24 N25 I73 J56 R34 := hF.wi hu72 (fun h _ => absurd t12 h)
            refine lv_aload_n B.1 B.2.1 dX6_readArgs_75 rfl (lv_at hl 1 rfl) ?_
            refine c_getn (k := 3) pk_X10 B hM t33 kd9 rfl (by decide) fl_X6_289 dX6_readArgs_76 e36 ?_
            refine lv_iload_n B.1 B.2.1 dX6_readArgs_79 rfl (lv_at hl 2 rfl) ?_
            refine lv_aload_n B.1 B.2.1 dX6_readArgs_80 rfl (lv_at hl 0 rfl) ?_
            have e75 : I73 a_this 6 = x63 := (w2_ne hu72 (Or.inl (tne t46 t70 (by decide)))).trans e64
            refine c_geti (k := 6) pk_X6 B hM t46 kd7 rfl (by decide) fl_X6_47 dX6_readArgs_81 e75 ?_
            refine q_con B dX6_readArgs_84 ?_
            refine q_cne (tgt := 95) B dX6_readArgs_85 (by decide) (by unfold inr; omega) (by unfold inr; omega) (fun c76 => ?_) (fun c76 => ?_)
            · refine lv_lconst (v := 0) B.1 B.2.1 dX6_readArgs_95 (by decide) ?_
              refine c_lst B hM t30 kd76 an76 dX6_readArgs_96 (by omega) (by omega) (fun J78 H locs hu77 hM => ?_)
              have e79 : J78 b22 v16_2.toNat = (0 : Int64) := w2_at hu77
              replace hF : Fr mo_X6_readArgs [] T N I J R T24 N25 I73 J78 R34 := hF.wj hu77 (fun h _ => absurd z29 h)
              refine lv_aload_n B.1 B.2.1 dX6_readArgs_97 rfl (lv_at hl 1 rfl) ?_
              refine lv_iload_n B.1 B.2.1 dX6_readArgs_98 rfl (lv_at hl 2 rfl) ?_
              refine q_con B dX6_readArgs_99 ?_
              refine q_add B dX6_readArgs_100 ?_
              refine c_puti (k := 1) pk_X10 B hM t33 kd9 rfl (by decide) fl_X6_292 (Or.inl rfl) dX6_readArgs_101 rfl rfl rfl (show (-2147483648 : Int) ≤ v16_2 + (1 : Int) from by omega) (show v16_2 + (1 : Int) ≤ (2147483647 : Int) from by omega) (fun I80 H locs hu81 hM => ?_)
              have e82 : I80 a_use 1 = v16_2 + (1 : Int) := w2_at hu81
              replace hF : Fr mo_X6_readArgs [] T N I J R T24 N25 I80 J78 R34 := hF.wi hu81 (fun _ _ => by rw [t_use]; rfl)
              refine lv_aload_n B.1 B.2.1 dX6_readArgs_104 rfl (lv_at hl 0 rfl) ?_
              have e83 : I73 a_this 5 = x61 := (w2_ne hu72 (Or.inl (tne t46 t70 (by decide)))).trans e62
              have e84 : I80 a_this 5 = x61 := (w2_ne hu81 (Or.inl (tne t46 t33 (by decide)))).trans e83
              have e85 : I80 a_this 6 = x63 := (w2_ne hu81 (Or.inl (tne t46 t33 (by decide)))).trans e75
              have hv86 : (TKz g_S g_n) ∧ (I80 a_this 5 ≤ g_n) := by first | omega | exact ⟨by first | omega | assumption | exact trivial, by first | omega | assumption | exact trivial⟩
              refine z_callv hM hA (c_runV (n := 0) (as := []) (rest := []) B hX hA hM hl.1 t46 kd7 rfl (k_X6_advance l D dA eA L23 T24 N25 I80 J78 R34 a_this t46 g_t g_s g_S g_n (show R34 a_this 3 = g_t + 1 from e37) (show T24 g_t = 3 from t47) (show R34 g_t 0 = g_s + 1 from e38) (show T24 g_s = 62 from t48) (show I80 g_s = g_S from ((Fr.irow hF p_3 (by decide) nm0 (by decide)).trans p_4)) hv86.1 hv86.2 (show g_S (I80 a_this 5).toNat = I80 a_this 6 from by rw [e84, e85]; first | assumption | omega) _ _) ml_X6_87 nm_X6_advance ⟨rfl, rfl⟩ ⟨Nat.le_of_ble_eq_true rfl, Nat.le_of_ble_eq_true rfl⟩ dX6_readArgs_105 rfl rfl (Nat.le_of_ble_eq_true rfl) ⟨by show 0 + 1 + 1 + 0 ≤ 2; omega, by show 0 + 4 + 4 + 0 ≤ 8; omega⟩) (fun L89 T90 N91 I92 J93 R94 dz95 dl96 H locs hp87 hMn => ?_)
              obtain ⟨yL89, yT90, yN91, yR94, hFc97, hp87a⟩ := hp87
              obtain rfl := yL89.symm; obtain rfl := yT90.symm; obtain rfl := yN91.symm; obtain rfl := yR94.symm
              replace hF : Fr mo_X6_readArgs [] T N I J R T24 N25 I92 J93 R34 := hF.trans hFc97 (by decide) e20
              have hM := hMn
              clear hMn
              replace hp87a : I92 a_this 5 ≤ g_n ∧ g_S (I92 a_this 5).toNat = I92 a_this 6 ∧ (((I80 a_this 6 = 0 ∨ I80 a_this 6 = 1) ∧ I92 a_this 5 = I80 a_this 5) ∨ (I92 a_this 5 = I80 a_this 5 + 1)) := hp87a
              obtain ⟨hp87a_0, hp87a_1, hp87a_2⟩ := hp87a
              obtain ⟨x98, e99⟩ : ∃ v, I92 a_this 5 = v := ⟨_, rfl⟩
              obtain ⟨x100, e101⟩ : ∃ v, I92 a_this 6 = v := ⟨_, rfl⟩
              have nz102 : g_S (x98).toNat = x100 := by have h9 := hp87a_1; rw [e99, e101] at h9; exact h9
              refine lv_aload_n B.1 B.2.1 dX6_readArgs_108 rfl (lv_at hl 0 rfl) ?_
              have r103 : (-2147483648 : Int) ≤ x100 ∧ x100 ≤ 2147483647 := by rw [← e101]; exact g7_6 hM.2.2.2.2.2.2.1 t46
              refine c_geti (k := 6) pk_X6 B hM t46 kd7 rfl (by decide) fl_X6_47 dX6_readArgs_109 e101 ?_
              refine q_bip B dX6_readArgs_112 (by decide) ?_
              refine q_cne (tgt := 123) B dX6_readArgs_114 (by decide) (by unfold inr; omega) (by unfold inr; omega) (fun c104 => ?_) (fun c104 => ?_)
              · refine lv_aload_n B.1 B.2.1 dX6_readArgs_123 rfl (lv_at hl 0 rfl) ?_
                refine c_geti (k := 6) pk_X6 B hM t46 kd7 rfl (by decide) fl_X6_47 dX6_readArgs_124 e101 ?_
                refine q_bip B dX6_readArgs_127 (by decide) ?_
                refine q_ceq (tgt := 138) B dX6_readArgs_129 (by decide) (by unfold inr; omega) (by unfold inr; omega) (fun c105 => ?_) (fun c105 => ?_)
                · refine q_inc (lv' := [(2, .int (II (v16_2 + 1))), (0, .ref a_this), (1, .ref a_use)]) B dX6_readArgs_138 hl (k := 2) rfl (by decide) rfl (fun ls hl => ?_)
                  refine lv_goto (tgt := 16) B.1 B.2.1 dX6_readArgs_141 (by decide) ?_
                  have e106 : I55 a_this 1 = I a_this 1 := (hFc60.i t46 (by decide) nm0 rfl).trans hLL16_6
                  have e107 : I73 a_this 1 = I a_this 1 := (w2_ne hu72 (Or.inl (tne t46 t70 (by decide)))).trans e106
                  have e108 : I80 a_this 1 = I a_this 1 := (w2_ne hu81 (Or.inl (tne t46 t33 (by decide)))).trans e107
                  have e109 : I92 a_this 1 = I a_this 1 := (hFc97.i t46 (by decide) nm0 rfl).trans e108
                  have hv110 : ((-2147483648 : Int) ≤ v16_2 + 1 ∧ (v16_2 + 1 : Int) ≤ 2147483647) ∧ (0 ≤ (v16_2 + 1)) ∧ ((v16_2 + 1) ≤ 4) ∧ (I a_this 5 ≤ I92 a_this 5) ∧ (I92 a_this 5 ≤ g_n) ∧ (I92 a_this 1 = I a_this 1) ∧ (0 ≤ 5 - (v16_2 + 1)) := by first | omega | exact ⟨by first | omega | assumption | exact trivial, by first | omega | assumption | exact trivial, by first | omega | assumption | exact trivial, by first | omega | assumption | exact trivial, by first | omega | assumption | exact trivial, by first | omega | assumption | exact trivial, by first | omega | assumption | exact trivial⟩
                  exact IH16 (v16_2 + 1) I92 J93 _ _ ls hM hF (lv_sub hl [1, 2, 0] rfl) hv110.1 hv110.2.1 hv110.2.2.1 hv110.2.2.2.1 hv110.2.2.2.2.1 (by rw [e99, e101]; first | assumption | omega) hv110.2.2.2.2.2.1 hv110.2.2.2.2.2.2 (by omega)
                · refine lv_aload_n B.1 B.2.1 dX6_readArgs_132 rfl (lv_at hl 0 rfl) ?_
                  refine q_con B dX6_readArgs_133 ?_
                  have hv111 : ((-2147483648 : Int) ≤ 2 ∧ (2 : Int) ≤ 2147483647) ∧ ((2 : Int) ≠ 0) := by first | omega | exact ⟨by first | omega | assumption | exact trivial, by first | omega | assumption | exact trivial⟩
                  refine z_calli hM hA (c_runV (n := 1) (as := [.int (II 2)]) (rest := []) B hX hA hM hl.1 t46 kd7 rfl (k_X6_wrong l D dA eA L23 T24 N25 I92 J93 R34 a_this t46 (2) hv111.1 hv111.2 _ _) ml_X6_84 nm_X6_wrong ⟨rfl, rfl⟩ ⟨Nat.le_of_ble_eq_true rfl, Nat.le_of_ble_eq_true rfl⟩ dX6_readArgs_134 rfl rfl (Nat.le_of_ble_eq_true rfl) ⟨by show 0 + 1 + 1 + 0 ≤ 2; omega, by show 0 + 4 + 4 + 0 ≤ 8; omega⟩) (fun x113 ix113 L114 T115 N116 I117 J118 R119 dz120 dl121 H locs hp112 hMn => ?_)
                  obtain ⟨yL114, yT115, yN116, yJ118, yR119, hFc122, hp112a⟩ := hp112
                  obtain rfl := yL114.symm; obtain rfl := yT115.symm; obtain rfl := yN116.symm; obtain rfl := yJ118.symm; obtain rfl := yR119.symm
                  replace hF : Fr mo_X6_readArgs [] T N I J R T24 N25 I117 J93 R34 := hF.trans hFc122 (by decide) e20
                  have hM := hMn
                  clear hMn
                  replace hp112a : (0 : Int) ≤ x113 ∧ x113 ≤ 1 ∧ (x113 = 0 ∧ I117 a_this 1 ≠ 0) := hp112a
                  obtain ⟨hp112a_0, hp112a_1, hp112a_2⟩ := hp112a
                  obtain ⟨hp112a_2_0, hp112a_2_1⟩ := hp112a_2
                  have e123 : I55 a_this 1 = I a_this 1 := (hFc60.i t46 (by decide) nm0 rfl).trans hLL16_6
                  have e124 : I73 a_this 1 = I a_this 1 := (w2_ne hu72 (Or.inl (tne t46 t70 (by decide)))).trans e123
                  have e125 : I80 a_this 1 = I a_this 1 := (w2_ne hu81 (Or.inl (tne t46 t33 (by decide)))).trans e124
                  have e126 : I92 a_this 1 = I a_this 1 := (hFc97.i t46 (by decide) nm0 rfl).trans e125
                  obtain ⟨x127, e128⟩ : ∃ v, I117 a_this 1 = v := ⟨_, rfl⟩
                  have e129 : I117 a_this 5 = x98 := (hFc122.i t46 (by decide) nm0 rfl).trans e99
                  have e130 : I117 a_this 6 = x100 := (hFc122.i t46 (by decide) nm0 rfl).trans e101
                  refine g_zret B hM dX6_readArgs_137 ⟨by show 0 + 1 + 1 ≤ 2; omega, by show 0 + 4 + 4 ≤ 8; omega⟩ (by omega) (by omega) ?_
                  rw [← hPST]
                  exact ⟨x113, rfl, by omega, hF, by omega, by omega, by first | omega | assumption | exact trivial, by show g_S (I117 a_this 5).toNat = I117 a_this 6; rw [e129, e130]; first | assumption | omega, by first | omega | assumption | exact trivial, by first | omega | assumption | exact trivial, by first | omega | assumption | exact trivial, by first | omega | assumption | exact trivial⟩
              · refine lv_aload_n B.1 B.2.1 dX6_readArgs_117 rfl (lv_at hl 0 rfl) ?_
                have hv131 : (TKz g_S g_n) ∧ (I92 a_this 5 ≤ g_n) := by first | omega | exact ⟨by first | omega | assumption | exact trivial, by first | omega | assumption | exact trivial⟩
                refine z_callv hM hA (c_runV (n := 0) (as := []) (rest := []) B hX hA hM hl.1 t46 kd7 rfl (k_X6_advance l D dA eA L23 T24 N25 I92 J93 R34 a_this t46 g_t g_s g_S g_n (show R34 a_this 3 = g_t + 1 from e37) (show T24 g_t = 3 from t47) (show R34 g_t 0 = g_s + 1 from e38) (show T24 g_s = 62 from t48) (show I92 g_s = g_S from ((Fr.irow hF p_3 (by decide) nm0 (by decide)).trans p_4)) hv131.1 hv131.2 (show g_S (I92 a_this 5).toNat = I92 a_this 6 from by rw [e99, e101]; first | assumption | omega) _ _) ml_X6_87 nm_X6_advance ⟨rfl, rfl⟩ ⟨Nat.le_of_ble_eq_true rfl, Nat.le_of_ble_eq_true rfl⟩ dX6_readArgs_118 rfl rfl (Nat.le_of_ble_eq_true rfl) ⟨by show 0 + 1 + 1 + 0 ≤ 2; omega, by show 0 + 4 + 4 + 0 ≤ 8; omega⟩) (fun L134 T135 N136 I137 J138 R139 dz140 dl141 H locs hp132 hMn => ?_)
                obtain ⟨yL134, yT135, yN136, yR139, hFc142, hp132a⟩ := hp132
                obtain rfl := yL134.symm; obtain rfl := yT135.symm; obtain rfl := yN136.symm; obtain rfl := yR139.symm
                replace hF : Fr mo_X6_readArgs [] T N I J R T24 N25 I137 J138 R34 := hF.trans hFc142 (by decide) e20
                have hM := hMn
                clear hMn
                replace hp132a : I137 a_this 5 ≤ g_n ∧ g_S (I137 a_this 5).toNat = I137 a_this 6 ∧ (((I92 a_this 6 = 0 ∨ I92 a_this 6 = 1) ∧ I137 a_this 5 = I92 a_this 5) ∨ (I137 a_this 5 = I92 a_this 5 + 1)) := hp132a
                obtain ⟨hp132a_0, hp132a_1, hp132a_2⟩ := hp132a
                obtain ⟨x143, e144⟩ : ∃ v, I137 a_this 5 = v := ⟨_, rfl⟩
                obtain ⟨x145, e146⟩ : ∃ v, I137 a_this 6 = v := ⟨_, rfl⟩
                have nz147 : g_S (x143).toNat = x145 := by have h9 := hp132a_1; rw [e144, e146] at h9; exact h9
                refine q_con B dX6_readArgs_121 ?_
                have e148 : I55 a_this 1 = I a_this 1 := (hFc60.i t46 (by decide) nm0 rfl).trans hLL16_6
                have e149 : I73 a_this 1 = I a_this 1 := (w2_ne hu72 (Or.inl (tne t46 t70 (by decide)))).trans e148
                have e150 : I80 a_this 1 = I a_this 1 := (w2_ne hu81 (Or.inl (tne t46 t33 (by decide)))).trans e149
                have e151 : I92 a_this 1 = I a_this 1 := (hFc97.i t46 (by decide) nm0 rfl).trans e150
                have e152 : I137 a_this 1 = I a_this 1 := (hFc142.i t46 (by decide) nm0 rfl).trans e151
                refine g_zret B hM dX6_readArgs_122 ⟨by show 0 + 1 + 1 ≤ 2; omega, by show 0 + 4 + 4 ≤ 8; omega⟩ (by omega) (by omega) ?_
                rw [← hPST]
                exact ⟨(1), rfl, by omega, hF, by omega, by omega, by first | omega | assumption | exact trivial, by show g_S (I137 a_this 5).toNat = I137 a_this 6; rw [e144, e146]; first | assumption | omega, by first | omega | assumption | exact trivial, by first | omega | assumption | exact trivial, by first | omega | assumption | exact trivial, by first | omega | assumption | exact trivial⟩
            · refine lv_aload_n B.1 B.2.1 dX6_readArgs_88 rfl (lv_at hl 0 rfl) ?_
              obtain ⟨w153, e154⟩ : ∃ v, J56 a_this 7 = v := ⟨_, rfl⟩
              refine c_getl (k := 7) pk_X6 B hM t46 kd7 rfl (by decide) fl_X6_54 dX6_readArgs_89 e154 ?_
              refine lv_goto (tgt := 96) B.1 B.2.1 dX6_readArgs_92 (by decide) ?_
              refine c_lst B hM t30 kd76 an76 dX6_readArgs_96 (by omega) (by omega) (fun J156 H locs hu155 hM => ?_)
              have e157 : J156 b22 v16_2.toNat = w153 := w2_at hu155
              replace hF : Fr mo_X6_readArgs [] T N I J R T24 N25 I73 J156 R34 := hF.wj hu155 (fun h _ => absurd z29 h)
              refine lv_aload_n B.1 B.2.1 dX6_readArgs_97 rfl (lv_at hl 1 rfl) ?_
              refine lv_iload_n B.1 B.2.1 dX6_readArgs_98 rfl (lv_at hl 2 rfl) ?_
              refine q_con B dX6_readArgs_99 ?_
              refine q_add B dX6_readArgs_100 ?_
              refine c_puti (k := 1) pk_X10 B hM t33 kd9 rfl (by decide) fl_X6_292 (Or.inl rfl) dX6_readArgs_101 rfl rfl rfl (show (-2147483648 : Int) ≤ v16_2 + (1 : Int) from by omega) (show v16_2 + (1 : Int) ≤ (2147483647 : Int) from by omega) (fun I158 H locs hu159 hM => ?_)
              have e160 : I158 a_use 1 = v16_2 + (1 : Int) := w2_at hu159
              replace hF : Fr mo_X6_readArgs [] T N I J R T24 N25 I158 J156 R34 := hF.wi hu159 (fun _ _ => by rw [t_use]; rfl)
              refine lv_aload_n B.1 B.2.1 dX6_readArgs_104 rfl (lv_at hl 0 rfl) ?_
              have e161 : I73 a_this 5 = x61 := (w2_ne hu72 (Or.inl (tne t46 t70 (by decide)))).trans e62
              have e162 : I158 a_this 5 = x61 := (w2_ne hu159 (Or.inl (tne t46 t33 (by decide)))).trans e161
              have e163 : I158 a_this 6 = x63 := (w2_ne hu159 (Or.inl (tne t46 t33 (by decide)))).trans e75
              have hv164 : (TKz g_S g_n) ∧ (I158 a_this 5 ≤ g_n) := by first | omega | exact ⟨by first | omega | assumption | exact trivial, by first | omega | assumption | exact trivial⟩
              refine z_callv hM hA (c_runV (n := 0) (as := []) (rest := []) B hX hA hM hl.1 t46 kd7 rfl (k_X6_advance l D dA eA L23 T24 N25 I158 J156 R34 a_this t46 g_t g_s g_S g_n (show R34 a_this 3 = g_t + 1 from e37) (show T24 g_t = 3 from t47) (show R34 g_t 0 = g_s + 1 from e38) (show T24 g_s = 62 from t48) (show I158 g_s = g_S from ((Fr.irow hF p_3 (by decide) nm0 (by decide)).trans p_4)) hv164.1 hv164.2 (show g_S (I158 a_this 5).toNat = I158 a_this 6 from by rw [e162, e163]; first | assumption | omega) _ _) ml_X6_87 nm_X6_advance ⟨rfl, rfl⟩ ⟨Nat.le_of_ble_eq_true rfl, Nat.le_of_ble_eq_true rfl⟩ dX6_readArgs_105 rfl rfl (Nat.le_of_ble_eq_true rfl) ⟨by show 0 + 1 + 1 + 0 ≤ 2; omega, by show 0 + 4 + 4 + 0 ≤ 8; omega⟩) (fun L167 T168 N169 I170 J171 R172 dz173 dl174 H locs hp165 hMn => ?_)
              obtain ⟨yL167, yT168, yN169, yR172, hFc175, hp165a⟩ := hp165
              obtain rfl := yL167.symm; obtain rfl := yT168.symm; obtain rfl := yN169.symm; obtain rfl := yR172.symm
              replace hF : Fr mo_X6_readArgs [] T N I J R T24 N25 I170 J171 R34 := hF.trans hFc175 (by decide) e20
              have hM := hMn
              clear hMn
              replace hp165a : I170 a_this 5 ≤ g_n ∧ g_S (I170 a_this 5).toNat = I170 a_this 6 ∧ (((I158 a_this 6 = 0 ∨ I158 a_this 6 = 1) ∧ I170 a_this 5 = I158 a_this 5) ∨ (I170 a_this 5 = I158 a_this 5 + 1)) := hp165a
              obtain ⟨hp165a_0, hp165a_1, hp165a_2⟩ := hp165a
              obtain ⟨x176, e177⟩ : ∃ v, I170 a_this 5 = v := ⟨_, rfl⟩
              obtain ⟨x178, e179⟩ : ∃ v, I170 a_this 6 = v := ⟨_, rfl⟩
              have nz180 : g_S (x176).toNat = x178 := by have h9 := hp165a_1; rw [e177, e179] at h9; exact h9
              refine lv_aload_n B.1 B.2.1 dX6_readArgs_108 rfl (lv_at hl 0 rfl) ?_
              have r181 : (-2147483648 : Int) ≤ x178 ∧ x178 ≤ 2147483647 := by rw [← e179]; exact g7_6 hM.2.2.2.2.2.2.1 t46
              refine c_geti (k := 6) pk_X6 B hM t46 kd7 rfl (by decide) fl_X6_47 dX6_readArgs_109 e179 ?_
              refine q_bip B dX6_readArgs_112 (by decide) ?_
              refine q_cne (tgt := 123) B dX6_readArgs_114 (by decide) (by unfold inr; omega) (by unfold inr; omega) (fun c182 => ?_) (fun c182 => ?_)
              · refine lv_aload_n B.1 B.2.1 dX6_readArgs_123 rfl (lv_at hl 0 rfl) ?_
                refine c_geti (k := 6) pk_X6 B hM t46 kd7 rfl (by decide) fl_X6_47 dX6_readArgs_124 e179 ?_
                refine q_bip B dX6_readArgs_127 (by decide) ?_
                refine q_ceq (tgt := 138) B dX6_readArgs_129 (by decide) (by unfold inr; omega) (by unfold inr; omega) (fun c183 => ?_) (fun c183 => ?_)
                · refine q_inc (lv' := [(2, .int (II (v16_2 + 1))), (0, .ref a_this), (1, .ref a_use)]) B dX6_readArgs_138 hl (k := 2) rfl (by decide) rfl (fun ls hl => ?_)
                  refine lv_goto (tgt := 16) B.1 B.2.1 dX6_readArgs_141 (by decide) ?_
                  have e184 : I55 a_this 1 = I a_this 1 := (hFc60.i t46 (by decide) nm0 rfl).trans hLL16_6
                  have e185 : I73 a_this 1 = I a_this 1 := (w2_ne hu72 (Or.inl (tne t46 t70 (by decide)))).trans e184
                  have e186 : I158 a_this 1 = I a_this 1 := (w2_ne hu159 (Or.inl (tne t46 t33 (by decide)))).trans e185
                  have e187 : I170 a_this 1 = I a_this 1 := (hFc175.i t46 (by decide) nm0 rfl).trans e186
                  have hv188 : ((-2147483648 : Int) ≤ v16_2 + 1 ∧ (v16_2 + 1 : Int) ≤ 2147483647) ∧ (0 ≤ (v16_2 + 1)) ∧ ((v16_2 + 1) ≤ 4) ∧ (I a_this 5 ≤ I170 a_this 5) ∧ (I170 a_this 5 ≤ g_n) ∧ (I170 a_this 1 = I a_this 1) ∧ (0 ≤ 5 - (v16_2 + 1)) := by first | omega | exact ⟨by first | omega | assumption | exact trivial, by first | omega | assumption | exact trivial, by first | omega | assumption | exact trivial, by first | omega | assumption | exact trivial, by first | omega | assumption | exact trivial, by first | omega | assumption | exact trivial, by first | omega | assumption | exact trivial⟩
                  exact IH16 (v16_2 + 1) I170 J171 _ _ ls hM hF (lv_sub hl [1, 2, 0] rfl) hv188.1 hv188.2.1 hv188.2.2.1 hv188.2.2.2.1 hv188.2.2.2.2.1 (by rw [e177, e179]; first | assumption | omega) hv188.2.2.2.2.2.1 hv188.2.2.2.2.2.2 (by omega)
                · refine lv_aload_n B.1 B.2.1 dX6_readArgs_132 rfl (lv_at hl 0 rfl) ?_
                  refine q_con B dX6_readArgs_133 ?_
                  have hv189 : ((-2147483648 : Int) ≤ 2 ∧ (2 : Int) ≤ 2147483647) ∧ ((2 : Int) ≠ 0) := by first | omega | exact ⟨by first | omega | assumption | exact trivial, by first | omega | assumption | exact trivial⟩
                  refine z_calli hM hA (c_runV (n := 1) (as := [.int (II 2)]) (rest := []) B hX hA hM hl.1 t46 kd7 rfl (k_X6_wrong l D dA eA L23 T24 N25 I170 J171 R34 a_this t46 (2) hv189.1 hv189.2 _ _) ml_X6_84 nm_X6_wrong ⟨rfl, rfl⟩ ⟨Nat.le_of_ble_eq_true rfl, Nat.le_of_ble_eq_true rfl⟩ dX6_readArgs_134 rfl rfl (Nat.le_of_ble_eq_true rfl) ⟨by show 0 + 1 + 1 + 0 ≤ 2; omega, by show 0 + 4 + 4 + 0 ≤ 8; omega⟩) (fun x191 ix191 L192 T193 N194 I195 J196 R197 dz198 dl199 H locs hp190 hMn => ?_)
                  obtain ⟨yL192, yT193, yN194, yJ196, yR197, hFc200, hp190a⟩ := hp190
                  obtain rfl := yL192.symm; obtain rfl := yT193.symm; obtain rfl := yN194.symm; obtain rfl := yJ196.symm; obtain rfl := yR197.symm
                  replace hF : Fr mo_X6_readArgs [] T N I J R T24 N25 I195 J171 R34 := hF.trans hFc200 (by decide) e20
                  have hM := hMn
                  clear hMn
                  replace hp190a : (0 : Int) ≤ x191 ∧ x191 ≤ 1 ∧ (x191 = 0 ∧ I195 a_this 1 ≠ 0) := hp190a
                  obtain ⟨hp190a_0, hp190a_1, hp190a_2⟩ := hp190a
                  obtain ⟨hp190a_2_0, hp190a_2_1⟩ := hp190a_2
                  have e201 : I55 a_this 1 = I a_this 1 := (hFc60.i t46 (by decide) nm0 rfl).trans hLL16_6
                  have e202 : I73 a_this 1 = I a_this 1 := (w2_ne hu72 (Or.inl (tne t46 t70 (by decide)))).trans e201
                  have e203 : I158 a_this 1 = I a_this 1 := (w2_ne hu159 (Or.inl (tne t46 t33 (by decide)))).trans e202
                  have e204 : I170 a_this 1 = I a_this 1 := (hFc175.i t46 (by decide) nm0 rfl).trans e203
                  obtain ⟨x205, e206⟩ : ∃ v, I195 a_this 1 = v := ⟨_, rfl⟩
                  have e207 : I195 a_this 5 = x176 := (hFc200.i t46 (by decide) nm0 rfl).trans e177
                  have e208 : I195 a_this 6 = x178 := (hFc200.i t46 (by decide) nm0 rfl).trans e179
                  refine g_zret B hM dX6_readArgs_137 ⟨by show 0 + 1 + 1 ≤ 2; omega, by show 0 + 4 + 4 ≤ 8; omega⟩ (by omega) (by omega) ?_
                  rw [← hPST]
                  exact ⟨x191, rfl, by omega, hF, by omega, by omega, by first | omega | assumption | exact trivial, by show g_S (I195 a_this 5).toNat = I195 a_this 6; rw [e207, e208]; first | assumption | omega, by first | omega | assumption | exact trivial, by first | omega | assumption | exact trivial, by first | omega | assumption | exact trivial, by first | omega | assumption | exact trivial⟩
              · refine lv_aload_n B.1 B.2.1 dX6_readArgs_117 rfl (lv_at hl 0 rfl) ?_
                have hv209 : (TKz g_S g_n) ∧ (I170 a_this 5 ≤ g_n) := by first | omega | exact ⟨by first | omega | assumption | exact trivial, by first | omega | assumption | exact trivial⟩
                refine z_callv hM hA (c_runV (n := 0) (as := []) (rest := []) B hX hA hM hl.1 t46 kd7 rfl (k_X6_advance l D dA eA L23 T24 N25 I170 J171 R34 a_this t46 g_t g_s g_S g_n (show R34 a_this 3 = g_t + 1 from e37) (show T24 g_t = 3 from t47) (show R34 g_t 0 = g_s + 1 from e38) (show T24 g_s = 62 from t48) (show I170 g_s = g_S from ((Fr.irow hF p_3 (by decide) nm0 (by decide)).trans p_4)) hv209.1 hv209.2 (show g_S (I170 a_this 5).toNat = I170 a_this 6 from by rw [e177, e179]; first | assumption | omega) _ _) ml_X6_87 nm_X6_advance ⟨rfl, rfl⟩ ⟨Nat.le_of_ble_eq_true rfl, Nat.le_of_ble_eq_true rfl⟩ dX6_readArgs_118 rfl rfl (Nat.le_of_ble_eq_true rfl) ⟨by show 0 + 1 + 1 + 0 ≤ 2; omega, by show 0 + 4 + 4 + 0 ≤ 8; omega⟩) (fun L212 T213 N214 I215 J216 R217 dz218 dl219 H locs hp210 hMn => ?_)
                obtain ⟨yL212, yT213, yN214, yR217, hFc220, hp210a⟩ := hp210
                obtain rfl := yL212.symm; obtain rfl := yT213.symm; obtain rfl := yN214.symm; obtain rfl := yR217.symm
                replace hF : Fr mo_X6_readArgs [] T N I J R T24 N25 I215 J216 R34 := hF.trans hFc220 (by decide) e20
                have hM := hMn
                clear hMn
                replace hp210a : I215 a_this 5 ≤ g_n ∧ g_S (I215 a_this 5).toNat = I215 a_this 6 ∧ (((I170 a_this 6 = 0 ∨ I170 a_this 6 = 1) ∧ I215 a_this 5 = I170 a_this 5) ∨ (I215 a_this 5 = I170 a_this 5 + 1)) := hp210a
                obtain ⟨hp210a_0, hp210a_1, hp210a_2⟩ := hp210a
                obtain ⟨x221, e222⟩ : ∃ v, I215 a_this 5 = v := ⟨_, rfl⟩
                obtain ⟨x223, e224⟩ : ∃ v, I215 a_this 6 = v := ⟨_, rfl⟩
                have nz225 : g_S (x221).toNat = x223 := by have h9 := hp210a_1; rw [e222, e224] at h9; exact h9
                refine q_con B dX6_readArgs_121 ?_
                have e226 : I55 a_this 1 = I a_this 1 := (hFc60.i t46 (by decide) nm0 rfl).trans hLL16_6
                have e227 : I73 a_this 1 = I a_this 1 := (w2_ne hu72 (Or.inl (tne t46 t70 (by decide)))).trans e226
                have e228 : I158 a_this 1 = I a_this 1 := (w2_ne hu159 (Or.inl (tne t46 t33 (by decide)))).trans e227
                have e229 : I170 a_this 1 = I a_this 1 := (hFc175.i t46 (by decide) nm0 rfl).trans e228
                have e230 : I215 a_this 1 = I a_this 1 := (hFc220.i t46 (by decide) nm0 rfl).trans e229
                refine g_zret B hM dX6_readArgs_122 ⟨by show 0 + 1 + 1 ≤ 2; omega, by show 0 + 4 + 4 ≤ 8; omega⟩ (by omega) (by omega) ?_
                rw [← hPST]
                exact ⟨(1), rfl, by omega, hF, by omega, by omega, by first | omega | assumption | exact trivial, by show g_S (I215 a_this 5).toNat = I215 a_this 6; rw [e222, e224]; first | assumption | omega, by first | omega | assumption | exact trivial, by first | omega | assumption | exact trivial, by first | omega | assumption | exact trivial, by first | omega | assumption | exact trivial⟩
          · refine lv_aload_n B.1 B.2.1 dX6_readArgs_65 rfl (lv_at hl 0 rfl) ?_
            obtain ⟨w231, e232⟩ : ∃ v, J56 a_this 7 = v := ⟨_, rfl⟩
            refine c_getl (k := 7) pk_X6 B hM t46 kd7 rfl (by decide) fl_X6_54 dX6_readArgs_66 e232 ?_
            refine q_l2i B dX6_readArgs_69 (fun x233 ix233 => ?_)
            unfold inr at ix233
            refine lv_goto (tgt := 74) B.1 B.2.1 dX6_readArgs_70 (by decide) ?_
            have t234 : T24 b8 = 75 := upT hT27 t26 t15 (by decide)
            have n235 : 4 ≤ N25 b8 ∧ N25 b8 ≤ 4 := gn75 hM.2.2.2.2.2.2.1 t234
            refine c_ist B hM t234 kd75 aq75 dX6_readArgs_74 (by omega) (by omega) (show (-2147483648 : Int) ≤ x233 from by omega) (show x233 ≤ (2147483647 : Int) from by omega) (fun I237 H locs hu236 hM => ?_)
            have e238 : I237 b8 v16_2.toNat = x233 := w2_at hu236
            replace hF : Fr mo_X6_readArgs [] T N I J R T24 N25 I237 J56 R34 := hF.wi hu236 (fun h _ => absurd t12 h)
            refine lv_aload_n B.1 B.2.1 dX6_readArgs_75 rfl (lv_at hl 1 rfl) ?_
            refine c_getn (k := 3) pk_X10 B hM t33 kd9 rfl (by decide) fl_X6_289 dX6_readArgs_76 e36 ?_
            refine lv_iload_n B.1 B.2.1 dX6_readArgs_79 rfl (lv_at hl 2 rfl) ?_
            refine lv_aload_n B.1 B.2.1 dX6_readArgs_80 rfl (lv_at hl 0 rfl) ?_
            have e239 : I237 a_this 6 = x63 := (w2_ne hu236 (Or.inl (tne t46 t234 (by decide)))).trans e64
            refine c_geti (k := 6) pk_X6 B hM t46 kd7 rfl (by decide) fl_X6_47 dX6_readArgs_81 e239 ?_
            refine q_con B dX6_readArgs_84 ?_
            refine q_cne (tgt := 95) B dX6_readArgs_85 (by decide) (by unfold inr; omega) (by unfold inr; omega) (fun c240 => ?_) (fun c240 => ?_)
            · refine lv_lconst (v := 0) B.1 B.2.1 dX6_readArgs_95 (by decide) ?_
              refine c_lst B hM t30 kd76 an76 dX6_readArgs_96 (by omega) (by omega) (fun J242 H locs hu241 hM => ?_)
              have e243 : J242 b22 v16_2.toNat = (0 : Int64) := w2_at hu241
              replace hF : Fr mo_X6_readArgs [] T N I J R T24 N25 I237 J242 R34 := hF.wj hu241 (fun h _ => absurd z29 h)
              refine lv_aload_n B.1 B.2.1 dX6_readArgs_97 rfl (lv_at hl 1 rfl) ?_
              refine lv_iload_n B.1 B.2.1 dX6_readArgs_98 rfl (lv_at hl 2 rfl) ?_
              refine q_con B dX6_readArgs_99 ?_
              refine q_add B dX6_readArgs_100 ?_
              refine c_puti (k := 1) pk_X10 B hM t33 kd9 rfl (by decide) fl_X6_292 (Or.inl rfl) dX6_readArgs_101 rfl rfl rfl (show (-2147483648 : Int) ≤ v16_2 + (1 : Int) from by omega) (show v16_2 + (1 : Int) ≤ (2147483647 : Int) from by omega) (fun I244 H locs hu245 hM => ?_)
              have e246 : I244 a_use 1 = v16_2 + (1 : Int) := w2_at hu245
              replace hF : Fr mo_X6_readArgs [] T N I J R T24 N25 I244 J242 R34 := hF.wi hu245 (fun _ _ => by rw [t_use]; rfl)
              refine lv_aload_n B.1 B.2.1 dX6_readArgs_104 rfl (lv_at hl 0 rfl) ?_
              have e247 : I237 a_this 5 = x61 := (w2_ne hu236 (Or.inl (tne t46 t234 (by decide)))).trans e62
              have e248 : I244 a_this 5 = x61 := (w2_ne hu245 (Or.inl (tne t46 t33 (by decide)))).trans e247
              have e249 : I244 a_this 6 = x63 := (w2_ne hu245 (Or.inl (tne t46 t33 (by decide)))).trans e239
              have hv250 : (TKz g_S g_n) ∧ (I244 a_this 5 ≤ g_n) := by first | omega | exact ⟨by first | omega | assumption | exact trivial, by first | omega | assumption | exact trivial⟩
              refine z_callv hM hA (c_runV (n := 0) (as := []) (rest := []) B hX hA hM hl.1 t46 kd7 rfl (k_X6_advance l D dA eA L23 T24 N25 I244 J242 R34 a_this t46 g_t g_s g_S g_n (show R34 a_this 3 = g_t + 1 from e37) (show T24 g_t = 3 from t47) (show R34 g_t 0 = g_s + 1 from e38) (show T24 g_s = 62 from t48) (show I244 g_s = g_S from ((Fr.irow hF p_3 (by decide) nm0 (by decide)).trans p_4)) hv250.1 hv250.2 (show g_S (I244 a_this 5).toNat = I244 a_this 6 from by rw [e248, e249]; first | assumption | omega) _ _) ml_X6_87 nm_X6_advance ⟨rfl, rfl⟩ ⟨Nat.le_of_ble_eq_true rfl, Nat.le_of_ble_eq_true rfl⟩ dX6_readArgs_105 rfl rfl (Nat.le_of_ble_eq_true rfl) ⟨by show 0 + 1 + 1 + 0 ≤ 2; omega, by show 0 + 4 + 4 + 0 ≤ 8; omega⟩) (fun L253 T254 N255 I256 J257 R258 dz259 dl260 H locs hp251 hMn => ?_)
              obtain ⟨yL253, yT254, yN255, yR258, hFc261, hp251a⟩ := hp251
              obtain rfl := yL253.symm; obtain rfl := yT254.symm; obtain rfl := yN255.symm; obtain rfl := yR258.symm
              replace hF : Fr mo_X6_readArgs [] T N I J R T24 N25 I256 J257 R34 := hF.trans hFc261 (by decide) e20
              have hM := hMn
              clear hMn
              replace hp251a : I256 a_this 5 ≤ g_n ∧ g_S (I256 a_this 5).toNat = I256 a_this 6 ∧ (((I244 a_this 6 = 0 ∨ I244 a_this 6 = 1) ∧ I256 a_this 5 = I244 a_this 5) ∨ (I256 a_this 5 = I244 a_this 5 + 1)) := hp251a
              obtain ⟨hp251a_0, hp251a_1, hp251a_2⟩ := hp251a
              obtain ⟨x262, e263⟩ : ∃ v, I256 a_this 5 = v := ⟨_, rfl⟩
              obtain ⟨x264, e265⟩ : ∃ v, I256 a_this 6 = v := ⟨_, rfl⟩
              have nz266 : g_S (x262).toNat = x264 := by have h9 := hp251a_1; rw [e263, e265] at h9; exact h9
              refine lv_aload_n B.1 B.2.1 dX6_readArgs_108 rfl (lv_at hl 0 rfl) ?_
              have r267 : (-2147483648 : Int) ≤ x264 ∧ x264 ≤ 2147483647 := by rw [← e265]; exact g7_6 hM.2.2.2.2.2.2.1 t46
              refine c_geti (k := 6) pk_X6 B hM t46 kd7 rfl (by decide) fl_X6_47 dX6_readArgs_109 e265 ?_
              refine q_bip B dX6_readArgs_112 (by decide) ?_
              refine q_cne (tgt := 123) B dX6_readArgs_114 (by decide) (by unfold inr; omega) (by unfold inr; omega) (fun c268 => ?_) (fun c268 => ?_)
              · refine lv_aload_n B.1 B.2.1 dX6_readArgs_123 rfl (lv_at hl 0 rfl) ?_
                refine c_geti (k := 6) pk_X6 B hM t46 kd7 rfl (by decide) fl_X6_47 dX6_readArgs_124 e265 ?_
                refine q_bip B dX6_readArgs_127 (by decide) ?_
                refine q_ceq (tgt := 138) B dX6_readArgs_129 (by decide) (by unfold inr; omega) (by unfold inr; omega) (fun c269 => ?_) (fun c269 => ?_)
                · refine q_inc (lv' := [(2, .int (II (v16_2 + 1))), (0, .ref a_this), (1, .ref a_use)]) B dX6_readArgs_138 hl (k := 2) rfl (by decide) rfl (fun ls hl => ?_)
                  refine lv_goto (tgt := 16) B.1 B.2.1 dX6_readArgs_141 (by decide) ?_
                  have e270 : I55 a_this 1 = I a_this 1 := (hFc60.i t46 (by decide) nm0 rfl).trans hLL16_6
                  have e271 : I237 a_this 1 = I a_this 1 := (w2_ne hu236 (Or.inl (tne t46 t234 (by decide)))).trans e270
                  have e272 : I244 a_this 1 = I a_this 1 := (w2_ne hu245 (Or.inl (tne t46 t33 (by decide)))).trans e271
                  have e273 : I256 a_this 1 = I a_this 1 := (hFc261.i t46 (by decide) nm0 rfl).trans e272
                  have hv274 : ((-2147483648 : Int) ≤ v16_2 + 1 ∧ (v16_2 + 1 : Int) ≤ 2147483647) ∧ (0 ≤ (v16_2 + 1)) ∧ ((v16_2 + 1) ≤ 4) ∧ (I a_this 5 ≤ I256 a_this 5) ∧ (I256 a_this 5 ≤ g_n) ∧ (I256 a_this 1 = I a_this 1) ∧ (0 ≤ 5 - (v16_2 + 1)) := by first | omega | exact ⟨by first | omega | assumption | exact trivial, by first | omega | assumption | exact trivial, by first | omega | assumption | exact trivial, by first | omega | assumption | exact trivial, by first | omega | assumption | exact trivial, by first | omega | assumption | exact trivial, by first | omega | assumption | exact trivial⟩
                  exact IH16 (v16_2 + 1) I256 J257 _ _ ls hM hF (lv_sub hl [1, 2, 0] rfl) hv274.1 hv274.2.1 hv274.2.2.1 hv274.2.2.2.1 hv274.2.2.2.2.1 (by rw [e263, e265]; first | assumption | omega) hv274.2.2.2.2.2.1 hv274.2.2.2.2.2.2 (by omega)
                · refine lv_aload_n B.1 B.2.1 dX6_readArgs_132 rfl (lv_at hl 0 rfl) ?_
                  refine q_con B dX6_readArgs_133 ?_
                  have hv275 : ((-2147483648 : Int) ≤ 2 ∧ (2 : Int) ≤ 2147483647) ∧ ((2 : Int) ≠ 0) := by first | omega | exact ⟨by first | omega | assumption | exact trivial, by first | omega | assumption | exact trivial⟩
                  refine z_calli hM hA (c_runV (n := 1) (as := [.int (II 2)]) (rest := []) B hX hA hM hl.1 t46 kd7 rfl (k_X6_wrong l D dA eA L23 T24 N25 I256 J257 R34 a_this t46 (2) hv275.1 hv275.2 _ _) ml_X6_84 nm_X6_wrong ⟨rfl, rfl⟩ ⟨Nat.le_of_ble_eq_true rfl, Nat.le_of_ble_eq_true rfl⟩ dX6_readArgs_134 rfl rfl (Nat.le_of_ble_eq_true rfl) ⟨by show 0 + 1 + 1 + 0 ≤ 2; omega, by show 0 + 4 + 4 + 0 ≤ 8; omega⟩) (fun x277 ix277 L278 T279 N280 I281 J282 R283 dz284 dl285 H locs hp276 hMn => ?_)
                  obtain ⟨yL278, yT279, yN280, yJ282, yR283, hFc286, hp276a⟩ := hp276
                  obtain rfl := yL278.symm; obtain rfl := yT279.symm; obtain rfl := yN280.symm; obtain rfl := yJ282.symm; obtain rfl := yR283.symm
                  replace hF : Fr mo_X6_readArgs [] T N I J R T24 N25 I281 J257 R34 := hF.trans hFc286 (by decide) e20
                  have hM := hMn
                  clear hMn
                  replace hp276a : (0 : Int) ≤ x277 ∧ x277 ≤ 1 ∧ (x277 = 0 ∧ I281 a_this 1 ≠ 0) := hp276a
                  obtain ⟨hp276a_0, hp276a_1, hp276a_2⟩ := hp276a
                  obtain ⟨hp276a_2_0, hp276a_2_1⟩ := hp276a_2
                  have e287 : I55 a_this 1 = I a_this 1 := (hFc60.i t46 (by decide) nm0 rfl).trans hLL16_6
                  have e288 : I237 a_this 1 = I a_this 1 := (w2_ne hu236 (Or.inl (tne t46 t234 (by decide)))).trans e287
                  have e289 : I244 a_this 1 = I a_this 1 := (w2_ne hu245 (Or.inl (tne t46 t33 (by decide)))).trans e288
                  have e290 : I256 a_this 1 = I a_this 1 := (hFc261.i t46 (by decide) nm0 rfl).trans e289
                  obtain ⟨x291, e292⟩ : ∃ v, I281 a_this 1 = v := ⟨_, rfl⟩
                  have e293 : I281 a_this 5 = x262 := (hFc286.i t46 (by decide) nm0 rfl).trans e263
                  have e294 : I281 a_this 6 = x264 := (hFc286.i t46 (by decide) nm0 rfl).trans e265
                  refine g_zret B hM dX6_readArgs_137 ⟨by show 0 + 1 + 1 ≤ 2; omega, by show 0 + 4 + 4 ≤ 8; omega⟩ (by omega) (by omega) ?_
                  rw [← hPST]
                  exact ⟨x277, rfl, by omega, hF, by omega, by omega, by first | omega | assumption | exact trivial, by show g_S (I281 a_this 5).toNat = I281 a_this 6; rw [e293, e294]; first | assumption | omega, by first | omega | assumption | exact trivial, by first | omega | assumption | exact trivial, by first | omega | assumption | exact trivial, by first | omega | assumption | exact trivial⟩
              · refine lv_aload_n B.1 B.2.1 dX6_readArgs_117 rfl (lv_at hl 0 rfl) ?_
                have hv295 : (TKz g_S g_n) ∧ (I256 a_this 5 ≤ g_n) := by first | omega | exact ⟨by first | omega | assumption | exact trivial, by first | omega | assumption | exact trivial⟩
                refine z_callv hM hA (c_runV (n := 0) (as := []) (rest := []) B hX hA hM hl.1 t46 kd7 rfl (k_X6_advance l D dA eA L23 T24 N25 I256 J257 R34 a_this t46 g_t g_s g_S g_n (show R34 a_this 3 = g_t + 1 from e37) (show T24 g_t = 3 from t47) (show R34 g_t 0 = g_s + 1 from e38) (show T24 g_s = 62 from t48) (show I256 g_s = g_S from ((Fr.irow hF p_3 (by decide) nm0 (by decide)).trans p_4)) hv295.1 hv295.2 (show g_S (I256 a_this 5).toNat = I256 a_this 6 from by rw [e263, e265]; first | assumption | omega) _ _) ml_X6_87 nm_X6_advance ⟨rfl, rfl⟩ ⟨Nat.le_of_ble_eq_true rfl, Nat.le_of_ble_eq_true rfl⟩ dX6_readArgs_118 rfl rfl (Nat.le_of_ble_eq_true rfl) ⟨by show 0 + 1 + 1 + 0 ≤ 2; omega, by show 0 + 4 + 4 + 0 ≤ 8; omega⟩) (fun L298 T299 N300 I301 J302 R303 dz304 dl305 H locs hp296 hMn => ?_)
                obtain ⟨yL298, yT299, yN300, yR303, hFc306, hp296a⟩ := hp296
                obtain rfl := yL298.symm; obtain rfl := yT299.symm; obtain rfl := yN300.symm; obtain rfl := yR303.symm
                replace hF : Fr mo_X6_readArgs [] T N I J R T24 N25 I301 J302 R34 := hF.trans hFc306 (by decide) e20
                have hM := hMn
                clear hMn
                replace hp296a : I301 a_this 5 ≤ g_n ∧ g_S (I301 a_this 5).toNat = I301 a_this 6 ∧ (((I256 a_this 6 = 0 ∨ I256 a_this 6 = 1) ∧ I301 a_this 5 = I256 a_this 5) ∨ (I301 a_this 5 = I256 a_this 5 + 1)) := hp296a
                obtain ⟨hp296a_0, hp296a_1, hp296a_2⟩ := hp296a
                obtain ⟨x307, e308⟩ : ∃ v, I301 a_this 5 = v := ⟨_, rfl⟩
                obtain ⟨x309, e310⟩ : ∃ v, I301 a_this 6 = v := ⟨_, rfl⟩
                have nz311 : g_S (x307).toNat = x309 := by have h9 := hp296a_1; rw [e308, e310] at h9; exact h9
                refine q_con B dX6_readArgs_121 ?_
                have e312 : I55 a_this 1 = I a_this 1 := (hFc60.i t46 (by decide) nm0 rfl).trans hLL16_6
                have e313 : I237 a_this 1 = I a_this 1 := (w2_ne hu236 (Or.inl (tne t46 t234 (by decide)))).trans e312
                have e314 : I244 a_this 1 = I a_this 1 := (w2_ne hu245 (Or.inl (tne t46 t33 (by decide)))).trans e313
                have e315 : I256 a_this 1 = I a_this 1 := (hFc261.i t46 (by decide) nm0 rfl).trans e314
                have e316 : I301 a_this 1 = I a_this 1 := (hFc306.i t46 (by decide) nm0 rfl).trans e315
                refine g_zret B hM dX6_readArgs_122 ⟨by show 0 + 1 + 1 ≤ 2; omega, by show 0 + 4 + 4 ≤ 8; omega⟩ (by omega) (by omega) ?_
                rw [← hPST]
                exact ⟨(1), rfl, by omega, hF, by omega, by omega, by first | omega | assumption | exact trivial, by show g_S (I301 a_this 5).toNat = I301 a_this 6; rw [e308, e310]; first | assumption | omega, by first | omega | assumption | exact trivial, by first | omega | assumption | exact trivial, by first | omega | assumption | exact trivial, by first | omega | assumption | exact trivial⟩
            · refine lv_aload_n B.1 B.2.1 dX6_readArgs_88 rfl (lv_at hl 0 rfl) ?_
              refine c_getl (k := 7) pk_X6 B hM t46 kd7 rfl (by decide) fl_X6_54 dX6_readArgs_89 e232 ?_
              refine lv_goto (tgt := 96) B.1 B.2.1 dX6_readArgs_92 (by decide) ?_
              refine c_lst B hM t30 kd76 an76 dX6_readArgs_96 (by omega) (by omega) (fun J318 H locs hu317 hM => ?_)
              have e319 : J318 b22 v16_2.toNat = w231 := w2_at hu317
              replace hF : Fr mo_X6_readArgs [] T N I J R T24 N25 I237 J318 R34 := hF.wj hu317 (fun h _ => absurd z29 h)
              refine lv_aload_n B.1 B.2.1 dX6_readArgs_97 rfl (lv_at hl 1 rfl) ?_
              refine lv_iload_n B.1 B.2.1 dX6_readArgs_98 rfl (lv_at hl 2 rfl) ?_
              refine q_con B dX6_readArgs_99 ?_
              refine q_add B dX6_readArgs_100 ?_
              refine c_puti (k := 1) pk_X10 B hM t33 kd9 rfl (by decide) fl_X6_292 (Or.inl rfl) dX6_readArgs_101 rfl rfl rfl (show (-2147483648 : Int) ≤ v16_2 + (1 : Int) from by omega) (show v16_2 + (1 : Int) ≤ (2147483647 : Int) from by omega) (fun I320 H locs hu321 hM => ?_)
              have e322 : I320 a_use 1 = v16_2 + (1 : Int) := w2_at hu321
              replace hF : Fr mo_X6_readArgs [] T N I J R T24 N25 I320 J318 R34 := hF.wi hu321 (fun _ _ => by rw [t_use]; rfl)
              refine lv_aload_n B.1 B.2.1 dX6_readArgs_104 rfl (lv_at hl 0 rfl) ?_
              have e323 : I237 a_this 5 = x61 := (w2_ne hu236 (Or.inl (tne t46 t234 (by decide)))).trans e62
              have e324 : I320 a_this 5 = x61 := (w2_ne hu321 (Or.inl (tne t46 t33 (by decide)))).trans e323
              have e325 : I320 a_this 6 = x63 := (w2_ne hu321 (Or.inl (tne t46 t33 (by decide)))).trans e239
              have hv326 : (TKz g_S g_n) ∧ (I320 a_this 5 ≤ g_n) := by first | omega | exact ⟨by first | omega | assumption | exact trivial, by first | omega | assumption | exact trivial⟩
              refine z_callv hM hA (c_runV (n := 0) (as := []) (rest := []) B hX hA hM hl.1 t46 kd7 rfl (k_X6_advance l D dA eA L23 T24 N25 I320 J318 R34 a_this t46 g_t g_s g_S g_n (show R34 a_this 3 = g_t + 1 from e37) (show T24 g_t = 3 from t47) (show R34 g_t 0 = g_s + 1 from e38) (show T24 g_s = 62 from t48) (show I320 g_s = g_S from ((Fr.irow hF p_3 (by decide) nm0 (by decide)).trans p_4)) hv326.1 hv326.2 (show g_S (I320 a_this 5).toNat = I320 a_this 6 from by rw [e324, e325]; first | assumption | omega) _ _) ml_X6_87 nm_X6_advance ⟨rfl, rfl⟩ ⟨Nat.le_of_ble_eq_true rfl, Nat.le_of_ble_eq_true rfl⟩ dX6_readArgs_105 rfl rfl (Nat.le_of_ble_eq_true rfl) ⟨by show 0 + 1 + 1 + 0 ≤ 2; omega, by show 0 + 4 + 4 + 0 ≤ 8; omega⟩) (fun L329 T330 N331 I332 J333 R334 dz335 dl336 H locs hp327 hMn => ?_)
              obtain ⟨yL329, yT330, yN331, yR334, hFc337, hp327a⟩ := hp327
              obtain rfl := yL329.symm; obtain rfl := yT330.symm; obtain rfl := yN331.symm; obtain rfl := yR334.symm
              replace hF : Fr mo_X6_readArgs [] T N I J R T24 N25 I332 J333 R34 := hF.trans hFc337 (by decide) e20
              have hM := hMn
              clear hMn
              replace hp327a : I332 a_this 5 ≤ g_n ∧ g_S (I332 a_this 5).toNat = I332 a_this 6 ∧ (((I320 a_this 6 = 0 ∨ I320 a_this 6 = 1) ∧ I332 a_this 5 = I320 a_this 5) ∨ (I332 a_this 5 = I320 a_this 5 + 1)) := hp327a
              obtain ⟨hp327a_0, hp327a_1, hp327a_2⟩ := hp327a
              obtain ⟨x338, e339⟩ : ∃ v, I332 a_this 5 = v := ⟨_, rfl⟩
              obtain ⟨x340, e341⟩ : ∃ v, I332 a_this 6 = v := ⟨_, rfl⟩
              have nz342 : g_S (x338).toNat = x340 := by have h9 := hp327a_1; rw [e339, e341] at h9; exact h9
              refine lv_aload_n B.1 B.2.1 dX6_readArgs_108 rfl (lv_at hl 0 rfl) ?_
              have r343 : (-2147483648 : Int) ≤ x340 ∧ x340 ≤ 2147483647 := by rw [← e341]; exact g7_6 hM.2.2.2.2.2.2.1 t46
              refine c_geti (k := 6) pk_X6 B hM t46 kd7 rfl (by decide) fl_X6_47 dX6_readArgs_109 e341 ?_
              refine q_bip B dX6_readArgs_112 (by decide) ?_
              refine q_cne (tgt := 123) B dX6_readArgs_114 (by decide) (by unfold inr; omega) (by unfold inr; omega) (fun c344 => ?_) (fun c344 => ?_)
              · refine lv_aload_n B.1 B.2.1 dX6_readArgs_123 rfl (lv_at hl 0 rfl) ?_
                refine c_geti (k := 6) pk_X6 B hM t46 kd7 rfl (by decide) fl_X6_47 dX6_readArgs_124 e341 ?_
                refine q_bip B dX6_readArgs_127 (by decide) ?_
                refine q_ceq (tgt := 138) B dX6_readArgs_129 (by decide) (by unfold inr; omega) (by unfold inr; omega) (fun c345 => ?_) (fun c345 => ?_)
                · refine q_inc (lv' := [(2, .int (II (v16_2 + 1))), (0, .ref a_this), (1, .ref a_use)]) B dX6_readArgs_138 hl (k := 2) rfl (by decide) rfl (fun ls hl => ?_)
                  refine lv_goto (tgt := 16) B.1 B.2.1 dX6_readArgs_141 (by decide) ?_
                  have e346 : I55 a_this 1 = I a_this 1 := (hFc60.i t46 (by decide) nm0 rfl).trans hLL16_6
                  have e347 : I237 a_this 1 = I a_this 1 := (w2_ne hu236 (Or.inl (tne t46 t234 (by decide)))).trans e346
                  have e348 : I320 a_this 1 = I a_this 1 := (w2_ne hu321 (Or.inl (tne t46 t33 (by decide)))).trans e347
                  have e349 : I332 a_this 1 = I a_this 1 := (hFc337.i t46 (by decide) nm0 rfl).trans e348
                  have hv350 : ((-2147483648 : Int) ≤ v16_2 + 1 ∧ (v16_2 + 1 : Int) ≤ 2147483647) ∧ (0 ≤ (v16_2 + 1)) ∧ ((v16_2 + 1) ≤ 4) ∧ (I a_this 5 ≤ I332 a_this 5) ∧ (I332 a_this 5 ≤ g_n) ∧ (I332 a_this 1 = I a_this 1) ∧ (0 ≤ 5 - (v16_2 + 1)) := by first | omega | exact ⟨by first | omega | assumption | exact trivial, by first | omega | assumption | exact trivial, by first | omega | assumption | exact trivial, by first | omega | assumption | exact trivial, by first | omega | assumption | exact trivial, by first | omega | assumption | exact trivial, by first | omega | assumption | exact trivial⟩
                  exact IH16 (v16_2 + 1) I332 J333 _ _ ls hM hF (lv_sub hl [1, 2, 0] rfl) hv350.1 hv350.2.1 hv350.2.2.1 hv350.2.2.2.1 hv350.2.2.2.2.1 (by rw [e339, e341]; first | assumption | omega) hv350.2.2.2.2.2.1 hv350.2.2.2.2.2.2 (by omega)
                · refine lv_aload_n B.1 B.2.1 dX6_readArgs_132 rfl (lv_at hl 0 rfl) ?_
                  refine q_con B dX6_readArgs_133 ?_
                  have hv351 : ((-2147483648 : Int) ≤ 2 ∧ (2 : Int) ≤ 2147483647) ∧ ((2 : Int) ≠ 0) := by first | omega | exact ⟨by first | omega | assumption | exact trivial, by first | omega | assumption | exact trivial⟩
                  refine z_calli hM hA (c_runV (n := 1) (as := [.int (II 2)]) (rest := []) B hX hA hM hl.1 t46 kd7 rfl (k_X6_wrong l D dA eA L23 T24 N25 I332 J333 R34 a_this t46 (2) hv351.1 hv351.2 _ _) ml_X6_84 nm_X6_wrong ⟨rfl, rfl⟩ ⟨Nat.le_of_ble_eq_true rfl, Nat.le_of_ble_eq_true rfl⟩ dX6_readArgs_134 rfl rfl (Nat.le_of_ble_eq_true rfl) ⟨by show 0 + 1 + 1 + 0 ≤ 2; omega, by show 0 + 4 + 4 + 0 ≤ 8; omega⟩) (fun x353 ix353 L354 T355 N356 I357 J358 R359 dz360 dl361 H locs hp352 hMn => ?_)
                  obtain ⟨yL354, yT355, yN356, yJ358, yR359, hFc362, hp352a⟩ := hp352
                  obtain rfl := yL354.symm; obtain rfl := yT355.symm; obtain rfl := yN356.symm; obtain rfl := yJ358.symm; obtain rfl := yR359.symm
                  replace hF : Fr mo_X6_readArgs [] T N I J R T24 N25 I357 J333 R34 := hF.trans hFc362 (by decide) e20
                  have hM := hMn
                  clear hMn
                  replace hp352a : (0 : Int) ≤ x353 ∧ x353 ≤ 1 ∧ (x353 = 0 ∧ I357 a_this 1 ≠ 0) := hp352a
                  obtain ⟨hp352a_0, hp352a_1, hp352a_2⟩ := hp352a
                  obtain ⟨hp352a_2_0, hp352a_2_1⟩ := hp352a_2
                  have e363 : I55 a_this 1 = I a_this 1 := (hFc60.i t46 (by decide) nm0 rfl).trans hLL16_6
                  have e364 : I237 a_this 1 = I a_this 1 := (w2_ne hu236 (Or.inl (tne t46 t234 (by decide)))).trans e363
                  have e365 : I320 a_this 1 = I a_this 1 := (w2_ne hu321 (Or.inl (tne t46 t33 (by decide)))).trans e364
                  have e366 : I332 a_this 1 = I a_this 1 := (hFc337.i t46 (by decide) nm0 rfl).trans e365
                  obtain ⟨x367, e368⟩ : ∃ v, I357 a_this 1 = v := ⟨_, rfl⟩
                  have e369 : I357 a_this 5 = x338 := (hFc362.i t46 (by decide) nm0 rfl).trans e339
                  have e370 : I357 a_this 6 = x340 := (hFc362.i t46 (by decide) nm0 rfl).trans e341
                  refine g_zret B hM dX6_readArgs_137 ⟨by show 0 + 1 + 1 ≤ 2; omega, by show 0 + 4 + 4 ≤ 8; omega⟩ (by omega) (by omega) ?_
                  rw [← hPST]
                  exact ⟨x353, rfl, by omega, hF, by omega, by omega, by first | omega | assumption | exact trivial, by show g_S (I357 a_this 5).toNat = I357 a_this 6; rw [e369, e370]; first | assumption | omega, by first | omega | assumption | exact trivial, by first | omega | assumption | exact trivial, by first | omega | assumption | exact trivial, by first | omega | assumption | exact trivial⟩
              · refine lv_aload_n B.1 B.2.1 dX6_readArgs_117 rfl (lv_at hl 0 rfl) ?_
                have hv371 : (TKz g_S g_n) ∧ (I332 a_this 5 ≤ g_n) := by first | omega | exact ⟨by first | omega | assumption | exact trivial, by first | omega | assumption | exact trivial⟩
                refine z_callv hM hA (c_runV (n := 0) (as := []) (rest := []) B hX hA hM hl.1 t46 kd7 rfl (k_X6_advance l D dA eA L23 T24 N25 I332 J333 R34 a_this t46 g_t g_s g_S g_n (show R34 a_this 3 = g_t + 1 from e37) (show T24 g_t = 3 from t47) (show R34 g_t 0 = g_s + 1 from e38) (show T24 g_s = 62 from t48) (show I332 g_s = g_S from ((Fr.irow hF p_3 (by decide) nm0 (by decide)).trans p_4)) hv371.1 hv371.2 (show g_S (I332 a_this 5).toNat = I332 a_this 6 from by rw [e339, e341]; first | assumption | omega) _ _) ml_X6_87 nm_X6_advance ⟨rfl, rfl⟩ ⟨Nat.le_of_ble_eq_true rfl, Nat.le_of_ble_eq_true rfl⟩ dX6_readArgs_118 rfl rfl (Nat.le_of_ble_eq_true rfl) ⟨by show 0 + 1 + 1 + 0 ≤ 2; omega, by show 0 + 4 + 4 + 0 ≤ 8; omega⟩) (fun L374 T375 N376 I377 J378 R379 dz380 dl381 H locs hp372 hMn => ?_)
                obtain ⟨yL374, yT375, yN376, yR379, hFc382, hp372a⟩ := hp372
                obtain rfl := yL374.symm; obtain rfl := yT375.symm; obtain rfl := yN376.symm; obtain rfl := yR379.symm
                replace hF : Fr mo_X6_readArgs [] T N I J R T24 N25 I377 J378 R34 := hF.trans hFc382 (by decide) e20
                have hM := hMn
                clear hMn
                replace hp372a : I377 a_this 5 ≤ g_n ∧ g_S (I377 a_this 5).toNat = I377 a_this 6 ∧ (((I332 a_this 6 = 0 ∨ I332 a_this 6 = 1) ∧ I377 a_this 5 = I332 a_this 5) ∨ (I377 a_this 5 = I332 a_this 5 + 1)) := hp372a
                obtain ⟨hp372a_0, hp372a_1, hp372a_2⟩ := hp372a
                obtain ⟨x383, e384⟩ : ∃ v, I377 a_this 5 = v := ⟨_, rfl⟩
                obtain ⟨x385, e386⟩ : ∃ v, I377 a_this 6 = v := ⟨_, rfl⟩
                have nz387 : g_S (x383).toNat = x385 := by have h9 := hp372a_1; rw [e384, e386] at h9; exact h9
                refine q_con B dX6_readArgs_121 ?_
                have e388 : I55 a_this 1 = I a_this 1 := (hFc60.i t46 (by decide) nm0 rfl).trans hLL16_6
                have e389 : I237 a_this 1 = I a_this 1 := (w2_ne hu236 (Or.inl (tne t46 t234 (by decide)))).trans e388
                have e390 : I320 a_this 1 = I a_this 1 := (w2_ne hu321 (Or.inl (tne t46 t33 (by decide)))).trans e389
                have e391 : I332 a_this 1 = I a_this 1 := (hFc337.i t46 (by decide) nm0 rfl).trans e390
                have e392 : I377 a_this 1 = I a_this 1 := (hFc382.i t46 (by decide) nm0 rfl).trans e391
                refine g_zret B hM dX6_readArgs_122 ⟨by show 0 + 1 + 1 ≤ 2; omega, by show 0 + 4 + 4 ≤ 8; omega⟩ (by omega) (by omega) ?_
                rw [← hPST]
                exact ⟨(1), rfl, by omega, hF, by omega, by omega, by first | omega | assumption | exact trivial, by show g_S (I377 a_this 5).toNat = I377 a_this 6; rw [e384, e386]; first | assumption | omega, by first | omega | assumption | exact trivial, by first | omega | assumption | exact trivial, by first | omega | assumption | exact trivial, by first | omega | assumption | exact trivial⟩
        · refine lv_aload_n B.1 B.2.1 dX6_readArgs_46 rfl (lv_at hl 0 rfl) ?_
          refine q_con B dX6_readArgs_47 ?_
          have hv393 : ((-2147483648 : Int) ≤ 2 ∧ (2 : Int) ≤ 2147483647) ∧ ((2 : Int) ≠ 0) := by first | omega | exact ⟨by first | omega | assumption | exact trivial, by first | omega | assumption | exact trivial⟩
          refine z_calli hM hA (c_runV (n := 1) (as := [.int (II 2)]) (rest := []) B hX hA hM hl.1 t46 kd7 rfl (k_X6_wrong l D dA eA L23 T24 N25 I55 J56 R34 a_this t46 (2) hv393.1 hv393.2 _ _) ml_X6_84 nm_X6_wrong ⟨rfl, rfl⟩ ⟨Nat.le_of_ble_eq_true rfl, Nat.le_of_ble_eq_true rfl⟩ dX6_readArgs_48 rfl rfl (Nat.le_of_ble_eq_true rfl) ⟨by show 0 + 1 + 1 + 0 ≤ 2; omega, by show 0 + 4 + 4 + 0 ≤ 8; omega⟩) (fun x395 ix395 L396 T397 N398 I399 J400 R401 dz402 dl403 H locs hp394 hMn => ?_)
          obtain ⟨yL396, yT397, yN398, yJ400, yR401, hFc404, hp394a⟩ := hp394
          obtain rfl := yL396.symm; obtain rfl := yT397.symm; obtain rfl := yN398.symm; obtain rfl := yJ400.symm; obtain rfl := yR401.symm
          replace hF : Fr mo_X6_readArgs [] T N I J R T24 N25 I399 J56 R34 := hF.trans hFc404 (by decide) e20
          have hM := hMn
          clear hMn
          replace hp394a : (0 : Int) ≤ x395 ∧ x395 ≤ 1 ∧ (x395 = 0 ∧ I399 a_this 1 ≠ 0) := hp394a
          obtain ⟨hp394a_0, hp394a_1, hp394a_2⟩ := hp394a
          obtain ⟨hp394a_2_0, hp394a_2_1⟩ := hp394a_2
          have e405 : I55 a_this 1 = I a_this 1 := (hFc60.i t46 (by decide) nm0 rfl).trans hLL16_6
          obtain ⟨x406, e407⟩ : ∃ v, I399 a_this 1 = v := ⟨_, rfl⟩
          have e408 : I399 a_this 5 = x61 := (hFc404.i t46 (by decide) nm0 rfl).trans e62
          have e409 : I399 a_this 6 = x63 := (hFc404.i t46 (by decide) nm0 rfl).trans e64
          refine g_zret B hM dX6_readArgs_51 ⟨by show 0 + 1 + 1 ≤ 2; omega, by show 0 + 4 + 4 ≤ 8; omega⟩ (by omega) (by omega) ?_
          rw [← hPST]
          exact ⟨x395, rfl, by omega, hF, by omega, by omega, by first | omega | assumption | exact trivial, by show g_S (I399 a_this 5).toNat = I399 a_this 6; rw [e408, e409]; first | assumption | omega, by first | omega | assumption | exact trivial, by first | omega | assumption | exact trivial, by first | omega | assumption | exact trivial, by first | omega | assumption | exact trivial⟩
      · refine lv_aload_n B.1 B.2.1 dX6_readArgs_33 rfl (lv_at hl 0 rfl) ?_
        refine c_geti (k := 6) pk_X6 B hM t46 kd7 rfl (by decide) fl_X6_47 dX6_readArgs_34 e64 ?_
        refine q_con B dX6_readArgs_37 ?_
        refine q_cne (tgt := 46) B dX6_readArgs_38 (by decide) (by unfold inr; omega) (by unfold inr; omega) (fun c410 => ?_) (fun c410 => ?_)
        · refine lv_aload_n B.1 B.2.1 dX6_readArgs_46 rfl (lv_at hl 0 rfl) ?_
          refine q_con B dX6_readArgs_47 ?_
          have hv411 : ((-2147483648 : Int) ≤ 2 ∧ (2 : Int) ≤ 2147483647) ∧ ((2 : Int) ≠ 0) := by first | omega | exact ⟨by first | omega | assumption | exact trivial, by first | omega | assumption | exact trivial⟩
          refine z_calli hM hA (c_runV (n := 1) (as := [.int (II 2)]) (rest := []) B hX hA hM hl.1 t46 kd7 rfl (k_X6_wrong l D dA eA L23 T24 N25 I55 J56 R34 a_this t46 (2) hv411.1 hv411.2 _ _) ml_X6_84 nm_X6_wrong ⟨rfl, rfl⟩ ⟨Nat.le_of_ble_eq_true rfl, Nat.le_of_ble_eq_true rfl⟩ dX6_readArgs_48 rfl rfl (Nat.le_of_ble_eq_true rfl) ⟨by show 0 + 1 + 1 + 0 ≤ 2; omega, by show 0 + 4 + 4 + 0 ≤ 8; omega⟩) (fun x413 ix413 L414 T415 N416 I417 J418 R419 dz420 dl421 H locs hp412 hMn => ?_)
          obtain ⟨yL414, yT415, yN416, yJ418, yR419, hFc422, hp412a⟩ := hp412
          obtain rfl := yL414.symm; obtain rfl := yT415.symm; obtain rfl := yN416.symm; obtain rfl := yJ418.symm; obtain rfl := yR419.symm
          replace hF : Fr mo_X6_readArgs [] T N I J R T24 N25 I417 J56 R34 := hF.trans hFc422 (by decide) e20
          have hM := hMn
          clear hMn
          replace hp412a : (0 : Int) ≤ x413 ∧ x413 ≤ 1 ∧ (x413 = 0 ∧ I417 a_this 1 ≠ 0) := hp412a
          obtain ⟨hp412a_0, hp412a_1, hp412a_2⟩ := hp412a
          obtain ⟨hp412a_2_0, hp412a_2_1⟩ := hp412a_2
          have e423 : I55 a_this 1 = I a_this 1 := (hFc60.i t46 (by decide) nm0 rfl).trans hLL16_6
          obtain ⟨x424, e425⟩ : ∃ v, I417 a_this 1 = v := ⟨_, rfl⟩
          have e426 : I417 a_this 5 = x61 := (hFc422.i t46 (by decide) nm0 rfl).trans e62
          have e427 : I417 a_this 6 = x63 := (hFc422.i t46 (by decide) nm0 rfl).trans e64
          refine g_zret B hM dX6_readArgs_51 ⟨by show 0 + 1 + 1 ≤ 2; omega, by show 0 + 4 + 4 ≤ 8; omega⟩ (by omega) (by omega) ?_
          rw [← hPST]
          exact ⟨x413, rfl, by omega, hF, by omega, by omega, by first | omega | assumption | exact trivial, by show g_S (I417 a_this 5).toNat = I417 a_this 6; rw [e426, e427]; first | assumption | omega, by first | omega | assumption | exact trivial, by first | omega | assumption | exact trivial, by first | omega | assumption | exact trivial, by first | omega | assumption | exact trivial⟩
        · refine lv_iload_n B.1 B.2.1 dX6_readArgs_41 rfl (lv_at hl 2 rfl) ?_
          refine q_con B dX6_readArgs_42 ?_
          refine q_clt (tgt := 52) B dX6_readArgs_43 (by decide) (by unfold inr; omega) (by unfold inr; omega) (fun c428 => ?_) (fun c428 => ?_)
          · refine lv_aload_n B.1 B.2.1 dX6_readArgs_52 rfl (lv_at hl 1 rfl) ?_
            refine c_getn (k := 2) pk_X10 B hM t33 kd9 rfl (by decide) fl_X6_286 dX6_readArgs_53 e39 ?_
            refine lv_iload_n B.1 B.2.1 dX6_readArgs_56 rfl (lv_at hl 2 rfl) ?_
            refine lv_aload_n B.1 B.2.1 dX6_readArgs_57 rfl (lv_at hl 0 rfl) ?_
            refine c_geti (k := 6) pk_X6 B hM t46 kd7 rfl (by decide) fl_X6_47 dX6_readArgs_58 e64 ?_
            refine q_con B dX6_readArgs_61 ?_
            refine q_cne (tgt := 73) B dX6_readArgs_62 (by decide) (by unfold inr; omega) (by unfold inr; omega) (fun c429 => ?_) (fun c429 => ?_)
            · refine q_con B dX6_readArgs_73 ?_
              have t430 : T24 b8 = 75 := upT hT27 t26 t15 (by decide)
              have n431 : 4 ≤ N25 b8 ∧ N25 b8 ≤ 4 := gn75 hM.2.2.2.2.2.2.1 t430
              refine c_ist B hM t430 kd75 aq75 dX6_readArgs_74 (by omega) (by omega) (show (-2147483648 : Int) ≤ 0 from by omega) (show 0 ≤ (2147483647 : Int) from by omega) (fun I433 H locs hu432 hM => ?_)
              have e434 : I433 b8 v16_2.toNat = 0 := w2_at hu432
              replace hF : Fr mo_X6_readArgs [] T N I J R T24 N25 I433 J56 R34 := hF.wi hu432 (fun h _ => absurd t12 h)
              refine lv_aload_n B.1 B.2.1 dX6_readArgs_75 rfl (lv_at hl 1 rfl) ?_
              refine c_getn (k := 3) pk_X10 B hM t33 kd9 rfl (by decide) fl_X6_289 dX6_readArgs_76 e36 ?_
              refine lv_iload_n B.1 B.2.1 dX6_readArgs_79 rfl (lv_at hl 2 rfl) ?_
              refine lv_aload_n B.1 B.2.1 dX6_readArgs_80 rfl (lv_at hl 0 rfl) ?_
              have e435 : I433 a_this 6 = x63 := (w2_ne hu432 (Or.inl (tne t46 t430 (by decide)))).trans e64
              refine c_geti (k := 6) pk_X6 B hM t46 kd7 rfl (by decide) fl_X6_47 dX6_readArgs_81 e435 ?_
              refine q_con B dX6_readArgs_84 ?_
              refine q_cne (tgt := 95) B dX6_readArgs_85 (by decide) (by unfold inr; omega) (by unfold inr; omega) (fun c436 => ?_) (fun c436 => ?_)
              · refine lv_lconst (v := 0) B.1 B.2.1 dX6_readArgs_95 (by decide) ?_
                refine c_lst B hM t30 kd76 an76 dX6_readArgs_96 (by omega) (by omega) (fun J438 H locs hu437 hM => ?_)
                have e439 : J438 b22 v16_2.toNat = (0 : Int64) := w2_at hu437
                replace hF : Fr mo_X6_readArgs [] T N I J R T24 N25 I433 J438 R34 := hF.wj hu437 (fun h _ => absurd z29 h)
                refine lv_aload_n B.1 B.2.1 dX6_readArgs_97 rfl (lv_at hl 1 rfl) ?_
                refine lv_iload_n B.1 B.2.1 dX6_readArgs_98 rfl (lv_at hl 2 rfl) ?_
                refine q_con B dX6_readArgs_99 ?_
                refine q_add B dX6_readArgs_100 ?_
                refine c_puti (k := 1) pk_X10 B hM t33 kd9 rfl (by decide) fl_X6_292 (Or.inl rfl) dX6_readArgs_101 rfl rfl rfl (show (-2147483648 : Int) ≤ v16_2 + (1 : Int) from by omega) (show v16_2 + (1 : Int) ≤ (2147483647 : Int) from by omega) (fun I440 H locs hu441 hM => ?_)
                have e442 : I440 a_use 1 = v16_2 + (1 : Int) := w2_at hu441
                replace hF : Fr mo_X6_readArgs [] T N I J R T24 N25 I440 J438 R34 := hF.wi hu441 (fun _ _ => by rw [t_use]; rfl)
                refine lv_aload_n B.1 B.2.1 dX6_readArgs_104 rfl (lv_at hl 0 rfl) ?_
                have e443 : I433 a_this 5 = x61 := (w2_ne hu432 (Or.inl (tne t46 t430 (by decide)))).trans e62
                have e444 : I440 a_this 5 = x61 := (w2_ne hu441 (Or.inl (tne t46 t33 (by decide)))).trans e443
                have e445 : I440 a_this 6 = x63 := (w2_ne hu441 (Or.inl (tne t46 t33 (by decide)))).trans e435
                have hv446 : (TKz g_S g_n) ∧ (I440 a_this 5 ≤ g_n) := by first | omega | exact ⟨by first | omega | assumption | exact trivial, by first | omega | assumption | exact trivial⟩
                refine z_callv hM hA (c_runV (n := 0) (as := []) (rest := []) B hX hA hM hl.1 t46 kd7 rfl (k_X6_advance l D dA eA L23 T24 N25 I440 J438 R34 a_this t46 g_t g_s g_S g_n (show R34 a_this 3 = g_t + 1 from e37) (show T24 g_t = 3 from t47) (show R34 g_t 0 = g_s + 1 from e38) (show T24 g_s = 62 from t48) (show I440 g_s = g_S from ((Fr.irow hF p_3 (by decide) nm0 (by decide)).trans p_4)) hv446.1 hv446.2 (show g_S (I440 a_this 5).toNat = I440 a_this 6 from by rw [e444, e445]; first | assumption | omega) _ _) ml_X6_87 nm_X6_advance ⟨rfl, rfl⟩ ⟨Nat.le_of_ble_eq_true rfl, Nat.le_of_ble_eq_true rfl⟩ dX6_readArgs_105 rfl rfl (Nat.le_of_ble_eq_true rfl) ⟨by show 0 + 1 + 1 + 0 ≤ 2; omega, by show 0 + 4 + 4 + 0 ≤ 8; omega⟩) (fun L449 T450 N451 I452 J453 R454 dz455 dl456 H locs hp447 hMn => ?_)
                obtain ⟨yL449, yT450, yN451, yR454, hFc457, hp447a⟩ := hp447
                obtain rfl := yL449.symm; obtain rfl := yT450.symm; obtain rfl := yN451.symm; obtain rfl := yR454.symm
                replace hF : Fr mo_X6_readArgs [] T N I J R T24 N25 I452 J453 R34 := hF.trans hFc457 (by decide) e20
                have hM := hMn
                clear hMn
                replace hp447a : I452 a_this 5 ≤ g_n ∧ g_S (I452 a_this 5).toNat = I452 a_this 6 ∧ (((I440 a_this 6 = 0 ∨ I440 a_this 6 = 1) ∧ I452 a_this 5 = I440 a_this 5) ∨ (I452 a_this 5 = I440 a_this 5 + 1)) := hp447a
                obtain ⟨hp447a_0, hp447a_1, hp447a_2⟩ := hp447a
                obtain ⟨x458, e459⟩ : ∃ v, I452 a_this 5 = v := ⟨_, rfl⟩
                obtain ⟨x460, e461⟩ : ∃ v, I452 a_this 6 = v := ⟨_, rfl⟩
                have nz462 : g_S (x458).toNat = x460 := by have h9 := hp447a_1; rw [e459, e461] at h9; exact h9
                refine lv_aload_n B.1 B.2.1 dX6_readArgs_108 rfl (lv_at hl 0 rfl) ?_
                have r463 : (-2147483648 : Int) ≤ x460 ∧ x460 ≤ 2147483647 := by rw [← e461]; exact g7_6 hM.2.2.2.2.2.2.1 t46
                refine c_geti (k := 6) pk_X6 B hM t46 kd7 rfl (by decide) fl_X6_47 dX6_readArgs_109 e461 ?_
                refine q_bip B dX6_readArgs_112 (by decide) ?_
                refine q_cne (tgt := 123) B dX6_readArgs_114 (by decide) (by unfold inr; omega) (by unfold inr; omega) (fun c464 => ?_) (fun c464 => ?_)
                · refine lv_aload_n B.1 B.2.1 dX6_readArgs_123 rfl (lv_at hl 0 rfl) ?_
                  refine c_geti (k := 6) pk_X6 B hM t46 kd7 rfl (by decide) fl_X6_47 dX6_readArgs_124 e461 ?_
                  refine q_bip B dX6_readArgs_127 (by decide) ?_
                  refine q_ceq (tgt := 138) B dX6_readArgs_129 (by decide) (by unfold inr; omega) (by unfold inr; omega) (fun c465 => ?_) (fun c465 => ?_)
                  · refine q_inc (lv' := [(2, .int (II (v16_2 + 1))), (0, .ref a_this), (1, .ref a_use)]) B dX6_readArgs_138 hl (k := 2) rfl (by decide) rfl (fun ls hl => ?_)
                    refine lv_goto (tgt := 16) B.1 B.2.1 dX6_readArgs_141 (by decide) ?_
                    have e466 : I55 a_this 1 = I a_this 1 := (hFc60.i t46 (by decide) nm0 rfl).trans hLL16_6
                    have e467 : I433 a_this 1 = I a_this 1 := (w2_ne hu432 (Or.inl (tne t46 t430 (by decide)))).trans e466
                    have e468 : I440 a_this 1 = I a_this 1 := (w2_ne hu441 (Or.inl (tne t46 t33 (by decide)))).trans e467
                    have e469 : I452 a_this 1 = I a_this 1 := (hFc457.i t46 (by decide) nm0 rfl).trans e468
                    have hv470 : ((-2147483648 : Int) ≤ v16_2 + 1 ∧ (v16_2 + 1 : Int) ≤ 2147483647) ∧ (0 ≤ (v16_2 + 1)) ∧ ((v16_2 + 1) ≤ 4) ∧ (I a_this 5 ≤ I452 a_this 5) ∧ (I452 a_this 5 ≤ g_n) ∧ (I452 a_this 1 = I a_this 1) ∧ (0 ≤ 5 - (v16_2 + 1)) := by first | omega | exact ⟨by first | omega | assumption | exact trivial, by first | omega | assumption | exact trivial, by first | omega | assumption | exact trivial, by first | omega | assumption | exact trivial, by first | omega | assumption | exact trivial, by first | omega | assumption | exact trivial, by first | omega | assumption | exact trivial⟩
                    exact IH16 (v16_2 + 1) I452 J453 _ _ ls hM hF (lv_sub hl [1, 2, 0] rfl) hv470.1 hv470.2.1 hv470.2.2.1 hv470.2.2.2.1 hv470.2.2.2.2.1 (by rw [e459, e461]; first | assumption | omega) hv470.2.2.2.2.2.1 hv470.2.2.2.2.2.2 (by omega)
                  · refine lv_aload_n B.1 B.2.1 dX6_readArgs_132 rfl (lv_at hl 0 rfl) ?_
                    refine q_con B dX6_readArgs_133 ?_
                    have hv471 : ((-2147483648 : Int) ≤ 2 ∧ (2 : Int) ≤ 2147483647) ∧ ((2 : Int) ≠ 0) := by first | omega | exact ⟨by first | omega | assumption | exact trivial, by first | omega | assumption | exact trivial⟩
                    refine z_calli hM hA (c_runV (n := 1) (as := [.int (II 2)]) (rest := []) B hX hA hM hl.1 t46 kd7 rfl (k_X6_wrong l D dA eA L23 T24 N25 I452 J453 R34 a_this t46 (2) hv471.1 hv471.2 _ _) ml_X6_84 nm_X6_wrong ⟨rfl, rfl⟩ ⟨Nat.le_of_ble_eq_true rfl, Nat.le_of_ble_eq_true rfl⟩ dX6_readArgs_134 rfl rfl (Nat.le_of_ble_eq_true rfl) ⟨by show 0 + 1 + 1 + 0 ≤ 2; omega, by show 0 + 4 + 4 + 0 ≤ 8; omega⟩) (fun x473 ix473 L474 T475 N476 I477 J478 R479 dz480 dl481 H locs hp472 hMn => ?_)
                    obtain ⟨yL474, yT475, yN476, yJ478, yR479, hFc482, hp472a⟩ := hp472
                    obtain rfl := yL474.symm; obtain rfl := yT475.symm; obtain rfl := yN476.symm; obtain rfl := yJ478.symm; obtain rfl := yR479.symm
                    replace hF : Fr mo_X6_readArgs [] T N I J R T24 N25 I477 J453 R34 := hF.trans hFc482 (by decide) e20
                    have hM := hMn
                    clear hMn
                    replace hp472a : (0 : Int) ≤ x473 ∧ x473 ≤ 1 ∧ (x473 = 0 ∧ I477 a_this 1 ≠ 0) := hp472a
                    obtain ⟨hp472a_0, hp472a_1, hp472a_2⟩ := hp472a
                    obtain ⟨hp472a_2_0, hp472a_2_1⟩ := hp472a_2
                    have e483 : I55 a_this 1 = I a_this 1 := (hFc60.i t46 (by decide) nm0 rfl).trans hLL16_6
                    have e484 : I433 a_this 1 = I a_this 1 := (w2_ne hu432 (Or.inl (tne t46 t430 (by decide)))).trans e483
                    have e485 : I440 a_this 1 = I a_this 1 := (w2_ne hu441 (Or.inl (tne t46 t33 (by decide)))).trans e484
                    have e486 : I452 a_this 1 = I a_this 1 := (hFc457.i t46 (by decide) nm0 rfl).trans e485
                    obtain ⟨x487, e488⟩ : ∃ v, I477 a_this 1 = v := ⟨_, rfl⟩
                    have e489 : I477 a_this 5 = x458 := (hFc482.i t46 (by decide) nm0 rfl).trans e459
                    have e490 : I477 a_this 6 = x460 := (hFc482.i t46 (by decide) nm0 rfl).trans e461
                    refine g_zret B hM dX6_readArgs_137 ⟨by show 0 + 1 + 1 ≤ 2; omega, by show 0 + 4 + 4 ≤ 8; omega⟩ (by omega) (by omega) ?_
                    rw [← hPST]
                    exact ⟨x473, rfl, by omega, hF, by omega, by omega, by first | omega | assumption | exact trivial, by show g_S (I477 a_this 5).toNat = I477 a_this 6; rw [e489, e490]; first | assumption | omega, by first | omega | assumption | exact trivial, by first | omega | assumption | exact trivial, by first | omega | assumption | exact trivial, by first | omega | assumption | exact trivial⟩
                · refine lv_aload_n B.1 B.2.1 dX6_readArgs_117 rfl (lv_at hl 0 rfl) ?_
                  have hv491 : (TKz g_S g_n) ∧ (I452 a_this 5 ≤ g_n) := by first | omega | exact ⟨by first | omega | assumption | exact trivial, by first | omega | assumption | exact trivial⟩
                  refine z_callv hM hA (c_runV (n := 0) (as := []) (rest := []) B hX hA hM hl.1 t46 kd7 rfl (k_X6_advance l D dA eA L23 T24 N25 I452 J453 R34 a_this t46 g_t g_s g_S g_n (show R34 a_this 3 = g_t + 1 from e37) (show T24 g_t = 3 from t47) (show R34 g_t 0 = g_s + 1 from e38) (show T24 g_s = 62 from t48) (show I452 g_s = g_S from ((Fr.irow hF p_3 (by decide) nm0 (by decide)).trans p_4)) hv491.1 hv491.2 (show g_S (I452 a_this 5).toNat = I452 a_this 6 from by rw [e459, e461]; first | assumption | omega) _ _) ml_X6_87 nm_X6_advance ⟨rfl, rfl⟩ ⟨Nat.le_of_ble_eq_true rfl, Nat.le_of_ble_eq_true rfl⟩ dX6_readArgs_118 rfl rfl (Nat.le_of_ble_eq_true rfl) ⟨by show 0 + 1 + 1 + 0 ≤ 2; omega, by show 0 + 4 + 4 + 0 ≤ 8; omega⟩) (fun L494 T495 N496 I497 J498 R499 dz500 dl501 H locs hp492 hMn => ?_)
                  obtain ⟨yL494, yT495, yN496, yR499, hFc502, hp492a⟩ := hp492
                  obtain rfl := yL494.symm; obtain rfl := yT495.symm; obtain rfl := yN496.symm; obtain rfl := yR499.symm
                  replace hF : Fr mo_X6_readArgs [] T N I J R T24 N25 I497 J498 R34 := hF.trans hFc502 (by decide) e20
                  have hM := hMn
                  clear hMn
                  replace hp492a : I497 a_this 5 ≤ g_n ∧ g_S (I497 a_this 5).toNat = I497 a_this 6 ∧ (((I452 a_this 6 = 0 ∨ I452 a_this 6 = 1) ∧ I497 a_this 5 = I452 a_this 5) ∨ (I497 a_this 5 = I452 a_this 5 + 1)) := hp492a
                  obtain ⟨hp492a_0, hp492a_1, hp492a_2⟩ := hp492a
                  obtain ⟨x503, e504⟩ : ∃ v, I497 a_this 5 = v := ⟨_, rfl⟩
                  obtain ⟨x505, e506⟩ : ∃ v, I497 a_this 6 = v := ⟨_, rfl⟩
                  have nz507 : g_S (x503).toNat = x505 := by have h9 := hp492a_1; rw [e504, e506] at h9; exact h9
                  refine q_con B dX6_readArgs_121 ?_
                  have e508 : I55 a_this 1 = I a_this 1 := (hFc60.i t46 (by decide) nm0 rfl).trans hLL16_6
                  have e509 : I433 a_this 1 = I a_this 1 := (w2_ne hu432 (Or.inl (tne t46 t430 (by decide)))).trans e508
                  have e510 : I440 a_this 1 = I a_this 1 := (w2_ne hu441 (Or.inl (tne t46 t33 (by decide)))).trans e509
                  have e511 : I452 a_this 1 = I a_this 1 := (hFc457.i t46 (by decide) nm0 rfl).trans e510
                  have e512 : I497 a_this 1 = I a_this 1 := (hFc502.i t46 (by decide) nm0 rfl).trans e511
                  refine g_zret B hM dX6_readArgs_122 ⟨by show 0 + 1 + 1 ≤ 2; omega, by show 0 + 4 + 4 ≤ 8; omega⟩ (by omega) (by omega) ?_
                  rw [← hPST]
                  exact ⟨(1), rfl, by omega, hF, by omega, by omega, by first | omega | assumption | exact trivial, by show g_S (I497 a_this 5).toNat = I497 a_this 6; rw [e504, e506]; first | assumption | omega, by first | omega | assumption | exact trivial, by first | omega | assumption | exact trivial, by first | omega | assumption | exact trivial, by first | omega | assumption | exact trivial⟩
              · refine lv_aload_n B.1 B.2.1 dX6_readArgs_88 rfl (lv_at hl 0 rfl) ?_
                obtain ⟨w513, e514⟩ : ∃ v, J56 a_this 7 = v := ⟨_, rfl⟩
                refine c_getl (k := 7) pk_X6 B hM t46 kd7 rfl (by decide) fl_X6_54 dX6_readArgs_89 e514 ?_
                refine lv_goto (tgt := 96) B.1 B.2.1 dX6_readArgs_92 (by decide) ?_
                refine c_lst B hM t30 kd76 an76 dX6_readArgs_96 (by omega) (by omega) (fun J516 H locs hu515 hM => ?_)
                have e517 : J516 b22 v16_2.toNat = w513 := w2_at hu515
                replace hF : Fr mo_X6_readArgs [] T N I J R T24 N25 I433 J516 R34 := hF.wj hu515 (fun h _ => absurd z29 h)
                refine lv_aload_n B.1 B.2.1 dX6_readArgs_97 rfl (lv_at hl 1 rfl) ?_
                refine lv_iload_n B.1 B.2.1 dX6_readArgs_98 rfl (lv_at hl 2 rfl) ?_
                refine q_con B dX6_readArgs_99 ?_
                refine q_add B dX6_readArgs_100 ?_
                refine c_puti (k := 1) pk_X10 B hM t33 kd9 rfl (by decide) fl_X6_292 (Or.inl rfl) dX6_readArgs_101 rfl rfl rfl (show (-2147483648 : Int) ≤ v16_2 + (1 : Int) from by omega) (show v16_2 + (1 : Int) ≤ (2147483647 : Int) from by omega) (fun I518 H locs hu519 hM => ?_)
                have e520 : I518 a_use 1 = v16_2 + (1 : Int) := w2_at hu519
                replace hF : Fr mo_X6_readArgs [] T N I J R T24 N25 I518 J516 R34 := hF.wi hu519 (fun _ _ => by rw [t_use]; rfl)
                refine lv_aload_n B.1 B.2.1 dX6_readArgs_104 rfl (lv_at hl 0 rfl) ?_
                have e521 : I433 a_this 5 = x61 := (w2_ne hu432 (Or.inl (tne t46 t430 (by decide)))).trans e62
                have e522 : I518 a_this 5 = x61 := (w2_ne hu519 (Or.inl (tne t46 t33 (by decide)))).trans e521
                have e523 : I518 a_this 6 = x63 := (w2_ne hu519 (Or.inl (tne t46 t33 (by decide)))).trans e435
                have hv524 : (TKz g_S g_n) ∧ (I518 a_this 5 ≤ g_n) := by first | omega | exact ⟨by first | omega | assumption | exact trivial, by first | omega | assumption | exact trivial⟩
                refine z_callv hM hA (c_runV (n := 0) (as := []) (rest := []) B hX hA hM hl.1 t46 kd7 rfl (k_X6_advance l D dA eA L23 T24 N25 I518 J516 R34 a_this t46 g_t g_s g_S g_n (show R34 a_this 3 = g_t + 1 from e37) (show T24 g_t = 3 from t47) (show R34 g_t 0 = g_s + 1 from e38) (show T24 g_s = 62 from t48) (show I518 g_s = g_S from ((Fr.irow hF p_3 (by decide) nm0 (by decide)).trans p_4)) hv524.1 hv524.2 (show g_S (I518 a_this 5).toNat = I518 a_this 6 from by rw [e522, e523]; first | assumption | omega) _ _) ml_X6_87 nm_X6_advance ⟨rfl, rfl⟩ ⟨Nat.le_of_ble_eq_true rfl, Nat.le_of_ble_eq_true rfl⟩ dX6_readArgs_105 rfl rfl (Nat.le_of_ble_eq_true rfl) ⟨by show 0 + 1 + 1 + 0 ≤ 2; omega, by show 0 + 4 + 4 + 0 ≤ 8; omega⟩) (fun L527 T528 N529 I530 J531 R532 dz533 dl534 H locs hp525 hMn => ?_)
                obtain ⟨yL527, yT528, yN529, yR532, hFc535, hp525a⟩ := hp525
                obtain rfl := yL527.symm; obtain rfl := yT528.symm; obtain rfl := yN529.symm; obtain rfl := yR532.symm
                replace hF : Fr mo_X6_readArgs [] T N I J R T24 N25 I530 J531 R34 := hF.trans hFc535 (by decide) e20
                have hM := hMn
                clear hMn
                replace hp525a : I530 a_this 5 ≤ g_n ∧ g_S (I530 a_this 5).toNat = I530 a_this 6 ∧ (((I518 a_this 6 = 0 ∨ I518 a_this 6 = 1) ∧ I530 a_this 5 = I518 a_this 5) ∨ (I530 a_this 5 = I518 a_this 5 + 1)) := hp525a
                obtain ⟨hp525a_0, hp525a_1, hp525a_2⟩ := hp525a
                obtain ⟨x536, e537⟩ : ∃ v, I530 a_this 5 = v := ⟨_, rfl⟩
                obtain ⟨x538, e539⟩ : ∃ v, I530 a_this 6 = v := ⟨_, rfl⟩
                have nz540 : g_S (x536).toNat = x538 := by have h9 := hp525a_1; rw [e537, e539] at h9; exact h9
                refine lv_aload_n B.1 B.2.1 dX6_readArgs_108 rfl (lv_at hl 0 rfl) ?_
                have r541 : (-2147483648 : Int) ≤ x538 ∧ x538 ≤ 2147483647 := by rw [← e539]; exact g7_6 hM.2.2.2.2.2.2.1 t46
                refine c_geti (k := 6) pk_X6 B hM t46 kd7 rfl (by decide) fl_X6_47 dX6_readArgs_109 e539 ?_
                refine q_bip B dX6_readArgs_112 (by decide) ?_
                refine q_cne (tgt := 123) B dX6_readArgs_114 (by decide) (by unfold inr; omega) (by unfold inr; omega) (fun c542 => ?_) (fun c542 => ?_)
                · refine lv_aload_n B.1 B.2.1 dX6_readArgs_123 rfl (lv_at hl 0 rfl) ?_
                  refine c_geti (k := 6) pk_X6 B hM t46 kd7 rfl (by decide) fl_X6_47 dX6_readArgs_124 e539 ?_
                  refine q_bip B dX6_readArgs_127 (by decide) ?_
                  refine q_ceq (tgt := 138) B dX6_readArgs_129 (by decide) (by unfold inr; omega) (by unfold inr; omega) (fun c543 => ?_) (fun c543 => ?_)
                  · refine q_inc (lv' := [(2, .int (II (v16_2 + 1))), (0, .ref a_this), (1, .ref a_use)]) B dX6_readArgs_138 hl (k := 2) rfl (by decide) rfl (fun ls hl => ?_)
                    refine lv_goto (tgt := 16) B.1 B.2.1 dX6_readArgs_141 (by decide) ?_
                    have e544 : I55 a_this 1 = I a_this 1 := (hFc60.i t46 (by decide) nm0 rfl).trans hLL16_6
                    have e545 : I433 a_this 1 = I a_this 1 := (w2_ne hu432 (Or.inl (tne t46 t430 (by decide)))).trans e544
                    have e546 : I518 a_this 1 = I a_this 1 := (w2_ne hu519 (Or.inl (tne t46 t33 (by decide)))).trans e545
                    have e547 : I530 a_this 1 = I a_this 1 := (hFc535.i t46 (by decide) nm0 rfl).trans e546
                    have hv548 : ((-2147483648 : Int) ≤ v16_2 + 1 ∧ (v16_2 + 1 : Int) ≤ 2147483647) ∧ (0 ≤ (v16_2 + 1)) ∧ ((v16_2 + 1) ≤ 4) ∧ (I a_this 5 ≤ I530 a_this 5) ∧ (I530 a_this 5 ≤ g_n) ∧ (I530 a_this 1 = I a_this 1) ∧ (0 ≤ 5 - (v16_2 + 1)) := by first | omega | exact ⟨by first | omega | assumption | exact trivial, by first | omega | assumption | exact trivial, by first | omega | assumption | exact trivial, by first | omega | assumption | exact trivial, by first | omega | assumption | exact trivial, by first | omega | assumption | exact trivial, by first | omega | assumption | exact trivial⟩
                    exact IH16 (v16_2 + 1) I530 J531 _ _ ls hM hF (lv_sub hl [1, 2, 0] rfl) hv548.1 hv548.2.1 hv548.2.2.1 hv548.2.2.2.1 hv548.2.2.2.2.1 (by rw [e537, e539]; first | assumption | omega) hv548.2.2.2.2.2.1 hv548.2.2.2.2.2.2 (by omega)
                  · refine lv_aload_n B.1 B.2.1 dX6_readArgs_132 rfl (lv_at hl 0 rfl) ?_
                    refine q_con B dX6_readArgs_133 ?_
                    have hv549 : ((-2147483648 : Int) ≤ 2 ∧ (2 : Int) ≤ 2147483647) ∧ ((2 : Int) ≠ 0) := by first | omega | exact ⟨by first | omega | assumption | exact trivial, by first | omega | assumption | exact trivial⟩
                    refine z_calli hM hA (c_runV (n := 1) (as := [.int (II 2)]) (rest := []) B hX hA hM hl.1 t46 kd7 rfl (k_X6_wrong l D dA eA L23 T24 N25 I530 J531 R34 a_this t46 (2) hv549.1 hv549.2 _ _) ml_X6_84 nm_X6_wrong ⟨rfl, rfl⟩ ⟨Nat.le_of_ble_eq_true rfl, Nat.le_of_ble_eq_true rfl⟩ dX6_readArgs_134 rfl rfl (Nat.le_of_ble_eq_true rfl) ⟨by show 0 + 1 + 1 + 0 ≤ 2; omega, by show 0 + 4 + 4 + 0 ≤ 8; omega⟩) (fun x551 ix551 L552 T553 N554 I555 J556 R557 dz558 dl559 H locs hp550 hMn => ?_)
                    obtain ⟨yL552, yT553, yN554, yJ556, yR557, hFc560, hp550a⟩ := hp550
                    obtain rfl := yL552.symm; obtain rfl := yT553.symm; obtain rfl := yN554.symm; obtain rfl := yJ556.symm; obtain rfl := yR557.symm
                    replace hF : Fr mo_X6_readArgs [] T N I J R T24 N25 I555 J531 R34 := hF.trans hFc560 (by decide) e20
                    have hM := hMn
                    clear hMn
                    replace hp550a : (0 : Int) ≤ x551 ∧ x551 ≤ 1 ∧ (x551 = 0 ∧ I555 a_this 1 ≠ 0) := hp550a
                    obtain ⟨hp550a_0, hp550a_1, hp550a_2⟩ := hp550a
                    obtain ⟨hp550a_2_0, hp550a_2_1⟩ := hp550a_2
                    have e561 : I55 a_this 1 = I a_this 1 := (hFc60.i t46 (by decide) nm0 rfl).trans hLL16_6
                    have e562 : I433 a_this 1 = I a_this 1 := (w2_ne hu432 (Or.inl (tne t46 t430 (by decide)))).trans e561
                    have e563 : I518 a_this 1 = I a_this 1 := (w2_ne hu519 (Or.inl (tne t46 t33 (by decide)))).trans e562
                    have e564 : I530 a_this 1 = I a_this 1 := (hFc535.i t46 (by decide) nm0 rfl).trans e563
                    obtain ⟨x565, e566⟩ : ∃ v, I555 a_this 1 = v := ⟨_, rfl⟩
                    have e567 : I555 a_this 5 = x536 := (hFc560.i t46 (by decide) nm0 rfl).trans e537
                    have e568 : I555 a_this 6 = x538 := (hFc560.i t46 (by decide) nm0 rfl).trans e539
                    refine g_zret B hM dX6_readArgs_137 ⟨by show 0 + 1 + 1 ≤ 2; omega, by show 0 + 4 + 4 ≤ 8; omega⟩ (by omega) (by omega) ?_
                    rw [← hPST]
                    exact ⟨x551, rfl, by omega, hF, by omega, by omega, by first | omega | assumption | exact trivial, by show g_S (I555 a_this 5).toNat = I555 a_this 6; rw [e567, e568]; first | assumption | omega, by first | omega | assumption | exact trivial, by first | omega | assumption | exact trivial, by first | omega | assumption | exact trivial, by first | omega | assumption | exact trivial⟩
                · refine lv_aload_n B.1 B.2.1 dX6_readArgs_117 rfl (lv_at hl 0 rfl) ?_
                  have hv569 : (TKz g_S g_n) ∧ (I530 a_this 5 ≤ g_n) := by first | omega | exact ⟨by first | omega | assumption | exact trivial, by first | omega | assumption | exact trivial⟩
                  refine z_callv hM hA (c_runV (n := 0) (as := []) (rest := []) B hX hA hM hl.1 t46 kd7 rfl (k_X6_advance l D dA eA L23 T24 N25 I530 J531 R34 a_this t46 g_t g_s g_S g_n (show R34 a_this 3 = g_t + 1 from e37) (show T24 g_t = 3 from t47) (show R34 g_t 0 = g_s + 1 from e38) (show T24 g_s = 62 from t48) (show I530 g_s = g_S from ((Fr.irow hF p_3 (by decide) nm0 (by decide)).trans p_4)) hv569.1 hv569.2 (show g_S (I530 a_this 5).toNat = I530 a_this 6 from by rw [e537, e539]; first | assumption | omega) _ _) ml_X6_87 nm_X6_advance ⟨rfl, rfl⟩ ⟨Nat.le_of_ble_eq_true rfl, Nat.le_of_ble_eq_true rfl⟩ dX6_readArgs_118 rfl rfl (Nat.le_of_ble_eq_true rfl) ⟨by show 0 + 1 + 1 + 0 ≤ 2; omega, by show 0 + 4 + 4 + 0 ≤ 8; omega⟩) (fun L572 T573 N574 I575 J576 R577 dz578 dl579 H locs hp570 hMn => ?_)
                  obtain ⟨yL572, yT573, yN574, yR577, hFc580, hp570a⟩ := hp570
                  obtain rfl := yL572.symm; obtain rfl := yT573.symm; obtain rfl := yN574.symm; obtain rfl := yR577.symm
                  replace hF : Fr mo_X6_readArgs [] T N I J R T24 N25 I575 J576 R34 := hF.trans hFc580 (by decide) e20
                  have hM := hMn
                  clear hMn
                  replace hp570a : I575 a_this 5 ≤ g_n ∧ g_S (I575 a_this 5).toNat = I575 a_this 6 ∧ (((I530 a_this 6 = 0 ∨ I530 a_this 6 = 1) ∧ I575 a_this 5 = I530 a_this 5) ∨ (I575 a_this 5 = I530 a_this 5 + 1)) := hp570a
                  obtain ⟨hp570a_0, hp570a_1, hp570a_2⟩ := hp570a
                  obtain ⟨x581, e582⟩ : ∃ v, I575 a_this 5 = v := ⟨_, rfl⟩
                  obtain ⟨x583, e584⟩ : ∃ v, I575 a_this 6 = v := ⟨_, rfl⟩
                  have nz585 : g_S (x581).toNat = x583 := by have h9 := hp570a_1; rw [e582, e584] at h9; exact h9
                  refine q_con B dX6_readArgs_121 ?_
                  have e586 : I55 a_this 1 = I a_this 1 := (hFc60.i t46 (by decide) nm0 rfl).trans hLL16_6
                  have e587 : I433 a_this 1 = I a_this 1 := (w2_ne hu432 (Or.inl (tne t46 t430 (by decide)))).trans e586
                  have e588 : I518 a_this 1 = I a_this 1 := (w2_ne hu519 (Or.inl (tne t46 t33 (by decide)))).trans e587
                  have e589 : I530 a_this 1 = I a_this 1 := (hFc535.i t46 (by decide) nm0 rfl).trans e588
                  have e590 : I575 a_this 1 = I a_this 1 := (hFc580.i t46 (by decide) nm0 rfl).trans e589
                  refine g_zret B hM dX6_readArgs_122 ⟨by show 0 + 1 + 1 ≤ 2; omega, by show 0 + 4 + 4 ≤ 8; omega⟩ (by omega) (by omega) ?_
                  rw [← hPST]
                  exact ⟨(1), rfl, by omega, hF, by omega, by omega, by first | omega | assumption | exact trivial, by show g_S (I575 a_this 5).toNat = I575 a_this 6; rw [e582, e584]; first | assumption | omega, by first | omega | assumption | exact trivial, by first | omega | assumption | exact trivial, by first | omega | assumption | exact trivial, by first | omega | assumption | exact trivial⟩
            · refine lv_aload_n B.1 B.2.1 dX6_readArgs_65 rfl (lv_at hl 0 rfl) ?_
              obtain ⟨w591, e592⟩ : ∃ v, J56 a_this 7 = v := ⟨_, rfl⟩
              refine c_getl (k := 7) pk_X6 B hM t46 kd7 rfl (by decide) fl_X6_54 dX6_readArgs_66 e592 ?_
              refine q_l2i B dX6_readArgs_69 (fun x593 ix593 => ?_)
              unfold inr at ix593
              refine lv_goto (tgt := 74) B.1 B.2.1 dX6_readArgs_70 (by decide) ?_
              have t594 : T24 b8 = 75 := upT hT27 t26 t15 (by decide)
              have n595 : 4 ≤ N25 b8 ∧ N25 b8 ≤ 4 := gn75 hM.2.2.2.2.2.2.1 t594
              refine c_ist B hM t594 kd75 aq75 dX6_readArgs_74 (by omega) (by omega) (show (-2147483648 : Int) ≤ x593 from by omega) (show x593 ≤ (2147483647 : Int) from by omega) (fun I597 H locs hu596 hM => ?_)
              have e598 : I597 b8 v16_2.toNat = x593 := w2_at hu596
              replace hF : Fr mo_X6_readArgs [] T N I J R T24 N25 I597 J56 R34 := hF.wi hu596 (fun h _ => absurd t12 h)
              refine lv_aload_n B.1 B.2.1 dX6_readArgs_75 rfl (lv_at hl 1 rfl) ?_
              refine c_getn (k := 3) pk_X10 B hM t33 kd9 rfl (by decide) fl_X6_289 dX6_readArgs_76 e36 ?_
              refine lv_iload_n B.1 B.2.1 dX6_readArgs_79 rfl (lv_at hl 2 rfl) ?_
              refine lv_aload_n B.1 B.2.1 dX6_readArgs_80 rfl (lv_at hl 0 rfl) ?_
              have e599 : I597 a_this 6 = x63 := (w2_ne hu596 (Or.inl (tne t46 t594 (by decide)))).trans e64
              refine c_geti (k := 6) pk_X6 B hM t46 kd7 rfl (by decide) fl_X6_47 dX6_readArgs_81 e599 ?_
              refine q_con B dX6_readArgs_84 ?_
              refine q_cne (tgt := 95) B dX6_readArgs_85 (by decide) (by unfold inr; omega) (by unfold inr; omega) (fun c600 => ?_) (fun c600 => ?_)
              · refine lv_lconst (v := 0) B.1 B.2.1 dX6_readArgs_95 (by decide) ?_
                refine c_lst B hM t30 kd76 an76 dX6_readArgs_96 (by omega) (by omega) (fun J602 H locs hu601 hM => ?_)
                have e603 : J602 b22 v16_2.toNat = (0 : Int64) := w2_at hu601
                replace hF : Fr mo_X6_readArgs [] T N I J R T24 N25 I597 J602 R34 := hF.wj hu601 (fun h _ => absurd z29 h)
                refine lv_aload_n B.1 B.2.1 dX6_readArgs_97 rfl (lv_at hl 1 rfl) ?_
                refine lv_iload_n B.1 B.2.1 dX6_readArgs_98 rfl (lv_at hl 2 rfl) ?_
                refine q_con B dX6_readArgs_99 ?_
                refine q_add B dX6_readArgs_100 ?_
                refine c_puti (k := 1) pk_X10 B hM t33 kd9 rfl (by decide) fl_X6_292 (Or.inl rfl) dX6_readArgs_101 rfl rfl rfl (show (-2147483648 : Int) ≤ v16_2 + (1 : Int) from by omega) (show v16_2 + (1 : Int) ≤ (2147483647 : Int) from by omega) (fun I604 H locs hu605 hM => ?_)
                have e606 : I604 a_use 1 = v16_2 + (1 : Int) := w2_at hu605
                replace hF : Fr mo_X6_readArgs [] T N I J R T24 N25 I604 J602 R34 := hF.wi hu605 (fun _ _ => by rw [t_use]; rfl)
                refine lv_aload_n B.1 B.2.1 dX6_readArgs_104 rfl (lv_at hl 0 rfl) ?_
                have e607 : I597 a_this 5 = x61 := (w2_ne hu596 (Or.inl (tne t46 t594 (by decide)))).trans e62
                have e608 : I604 a_this 5 = x61 := (w2_ne hu605 (Or.inl (tne t46 t33 (by decide)))).trans e607
                have e609 : I604 a_this 6 = x63 := (w2_ne hu605 (Or.inl (tne t46 t33 (by decide)))).trans e599
                have hv610 : (TKz g_S g_n) ∧ (I604 a_this 5 ≤ g_n) := by first | omega | exact ⟨by first | omega | assumption | exact trivial, by first | omega | assumption | exact trivial⟩
                refine z_callv hM hA (c_runV (n := 0) (as := []) (rest := []) B hX hA hM hl.1 t46 kd7 rfl (k_X6_advance l D dA eA L23 T24 N25 I604 J602 R34 a_this t46 g_t g_s g_S g_n (show R34 a_this 3 = g_t + 1 from e37) (show T24 g_t = 3 from t47) (show R34 g_t 0 = g_s + 1 from e38) (show T24 g_s = 62 from t48) (show I604 g_s = g_S from ((Fr.irow hF p_3 (by decide) nm0 (by decide)).trans p_4)) hv610.1 hv610.2 (show g_S (I604 a_this 5).toNat = I604 a_this 6 from by rw [e608, e609]; first | assumption | omega) _ _) ml_X6_87 nm_X6_advance ⟨rfl, rfl⟩ ⟨Nat.le_of_ble_eq_true rfl, Nat.le_of_ble_eq_true rfl⟩ dX6_readArgs_105 rfl rfl (Nat.le_of_ble_eq_true rfl) ⟨by show 0 + 1 + 1 + 0 ≤ 2; omega, by show 0 + 4 + 4 + 0 ≤ 8; omega⟩) (fun L613 T614 N615 I616 J617 R618 dz619 dl620 H locs hp611 hMn => ?_)
                obtain ⟨yL613, yT614, yN615, yR618, hFc621, hp611a⟩ := hp611
                obtain rfl := yL613.symm; obtain rfl := yT614.symm; obtain rfl := yN615.symm; obtain rfl := yR618.symm
                replace hF : Fr mo_X6_readArgs [] T N I J R T24 N25 I616 J617 R34 := hF.trans hFc621 (by decide) e20
                have hM := hMn
                clear hMn
                replace hp611a : I616 a_this 5 ≤ g_n ∧ g_S (I616 a_this 5).toNat = I616 a_this 6 ∧ (((I604 a_this 6 = 0 ∨ I604 a_this 6 = 1) ∧ I616 a_this 5 = I604 a_this 5) ∨ (I616 a_this 5 = I604 a_this 5 + 1)) := hp611a
                obtain ⟨hp611a_0, hp611a_1, hp611a_2⟩ := hp611a
                obtain ⟨x622, e623⟩ : ∃ v, I616 a_this 5 = v := ⟨_, rfl⟩
                obtain ⟨x624, e625⟩ : ∃ v, I616 a_this 6 = v := ⟨_, rfl⟩
                have nz626 : g_S (x622).toNat = x624 := by have h9 := hp611a_1; rw [e623, e625] at h9; exact h9
                refine lv_aload_n B.1 B.2.1 dX6_readArgs_108 rfl (lv_at hl 0 rfl) ?_
                have r627 : (-2147483648 : Int) ≤ x624 ∧ x624 ≤ 2147483647 := by rw [← e625]; exact g7_6 hM.2.2.2.2.2.2.1 t46
                refine c_geti (k := 6) pk_X6 B hM t46 kd7 rfl (by decide) fl_X6_47 dX6_readArgs_109 e625 ?_
                refine q_bip B dX6_readArgs_112 (by decide) ?_
                refine q_cne (tgt := 123) B dX6_readArgs_114 (by decide) (by unfold inr; omega) (by unfold inr; omega) (fun c628 => ?_) (fun c628 => ?_)
                · refine lv_aload_n B.1 B.2.1 dX6_readArgs_123 rfl (lv_at hl 0 rfl) ?_
                  refine c_geti (k := 6) pk_X6 B hM t46 kd7 rfl (by decide) fl_X6_47 dX6_readArgs_124 e625 ?_
                  refine q_bip B dX6_readArgs_127 (by decide) ?_
                  refine q_ceq (tgt := 138) B dX6_readArgs_129 (by decide) (by unfold inr; omega) (by unfold inr; omega) (fun c629 => ?_) (fun c629 => ?_)
                  · refine q_inc (lv' := [(2, .int (II (v16_2 + 1))), (0, .ref a_this), (1, .ref a_use)]) B dX6_readArgs_138 hl (k := 2) rfl (by decide) rfl (fun ls hl => ?_)
                    refine lv_goto (tgt := 16) B.1 B.2.1 dX6_readArgs_141 (by decide) ?_
                    have e630 : I55 a_this 1 = I a_this 1 := (hFc60.i t46 (by decide) nm0 rfl).trans hLL16_6
                    have e631 : I597 a_this 1 = I a_this 1 := (w2_ne hu596 (Or.inl (tne t46 t594 (by decide)))).trans e630
                    have e632 : I604 a_this 1 = I a_this 1 := (w2_ne hu605 (Or.inl (tne t46 t33 (by decide)))).trans e631
                    have e633 : I616 a_this 1 = I a_this 1 := (hFc621.i t46 (by decide) nm0 rfl).trans e632
                    have hv634 : ((-2147483648 : Int) ≤ v16_2 + 1 ∧ (v16_2 + 1 : Int) ≤ 2147483647) ∧ (0 ≤ (v16_2 + 1)) ∧ ((v16_2 + 1) ≤ 4) ∧ (I a_this 5 ≤ I616 a_this 5) ∧ (I616 a_this 5 ≤ g_n) ∧ (I616 a_this 1 = I a_this 1) ∧ (0 ≤ 5 - (v16_2 + 1)) := by first | omega | exact ⟨by first | omega | assumption | exact trivial, by first | omega | assumption | exact trivial, by first | omega | assumption | exact trivial, by first | omega | assumption | exact trivial, by first | omega | assumption | exact trivial, by first | omega | assumption | exact trivial, by first | omega | assumption | exact trivial⟩
                    exact IH16 (v16_2 + 1) I616 J617 _ _ ls hM hF (lv_sub hl [1, 2, 0] rfl) hv634.1 hv634.2.1 hv634.2.2.1 hv634.2.2.2.1 hv634.2.2.2.2.1 (by rw [e623, e625]; first | assumption | omega) hv634.2.2.2.2.2.1 hv634.2.2.2.2.2.2 (by omega)
                  · refine lv_aload_n B.1 B.2.1 dX6_readArgs_132 rfl (lv_at hl 0 rfl) ?_
                    refine q_con B dX6_readArgs_133 ?_
                    have hv635 : ((-2147483648 : Int) ≤ 2 ∧ (2 : Int) ≤ 2147483647) ∧ ((2 : Int) ≠ 0) := by first | omega | exact ⟨by first | omega | assumption | exact trivial, by first | omega | assumption | exact trivial⟩
                    refine z_calli hM hA (c_runV (n := 1) (as := [.int (II 2)]) (rest := []) B hX hA hM hl.1 t46 kd7 rfl (k_X6_wrong l D dA eA L23 T24 N25 I616 J617 R34 a_this t46 (2) hv635.1 hv635.2 _ _) ml_X6_84 nm_X6_wrong ⟨rfl, rfl⟩ ⟨Nat.le_of_ble_eq_true rfl, Nat.le_of_ble_eq_true rfl⟩ dX6_readArgs_134 rfl rfl (Nat.le_of_ble_eq_true rfl) ⟨by show 0 + 1 + 1 + 0 ≤ 2; omega, by show 0 + 4 + 4 + 0 ≤ 8; omega⟩) (fun x637 ix637 L638 T639 N640 I641 J642 R643 dz644 dl645 H locs hp636 hMn => ?_)
                    obtain ⟨yL638, yT639, yN640, yJ642, yR643, hFc646, hp636a⟩ := hp636
                    obtain rfl := yL638.symm; obtain rfl := yT639.symm; obtain rfl := yN640.symm; obtain rfl := yJ642.symm; obtain rfl := yR643.symm
                    replace hF : Fr mo_X6_readArgs [] T N I J R T24 N25 I641 J617 R34 := hF.trans hFc646 (by decide) e20
                    have hM := hMn
                    clear hMn
                    replace hp636a : (0 : Int) ≤ x637 ∧ x637 ≤ 1 ∧ (x637 = 0 ∧ I641 a_this 1 ≠ 0) := hp636a
                    obtain ⟨hp636a_0, hp636a_1, hp636a_2⟩ := hp636a
                    obtain ⟨hp636a_2_0, hp636a_2_1⟩ := hp636a_2
                    have e647 : I55 a_this 1 = I a_this 1 := (hFc60.i t46 (by decide) nm0 rfl).trans hLL16_6
                    have e648 : I597 a_this 1 = I a_this 1 := (w2_ne hu596 (Or.inl (tne t46 t594 (by decide)))).trans e647
                    have e649 : I604 a_this 1 = I a_this 1 := (w2_ne hu605 (Or.inl (tne t46 t33 (by decide)))).trans e648
                    have e650 : I616 a_this 1 = I a_this 1 := (hFc621.i t46 (by decide) nm0 rfl).trans e649
                    obtain ⟨x651, e652⟩ : ∃ v, I641 a_this 1 = v := ⟨_, rfl⟩
                    have e653 : I641 a_this 5 = x622 := (hFc646.i t46 (by decide) nm0 rfl).trans e623
                    have e654 : I641 a_this 6 = x624 := (hFc646.i t46 (by decide) nm0 rfl).trans e625
                    refine g_zret B hM dX6_readArgs_137 ⟨by show 0 + 1 + 1 ≤ 2; omega, by show 0 + 4 + 4 ≤ 8; omega⟩ (by omega) (by omega) ?_
                    rw [← hPST]
                    exact ⟨x637, rfl, by omega, hF, by omega, by omega, by first | omega | assumption | exact trivial, by show g_S (I641 a_this 5).toNat = I641 a_this 6; rw [e653, e654]; first | assumption | omega, by first | omega | assumption | exact trivial, by first | omega | assumption | exact trivial, by first | omega | assumption | exact trivial, by first | omega | assumption | exact trivial⟩
                · refine lv_aload_n B.1 B.2.1 dX6_readArgs_117 rfl (lv_at hl 0 rfl) ?_
                  have hv655 : (TKz g_S g_n) ∧ (I616 a_this 5 ≤ g_n) := by first | omega | exact ⟨by first | omega | assumption | exact trivial, by first | omega | assumption | exact trivial⟩
                  refine z_callv hM hA (c_runV (n := 0) (as := []) (rest := []) B hX hA hM hl.1 t46 kd7 rfl (k_X6_advance l D dA eA L23 T24 N25 I616 J617 R34 a_this t46 g_t g_s g_S g_n (show R34 a_this 3 = g_t + 1 from e37) (show T24 g_t = 3 from t47) (show R34 g_t 0 = g_s + 1 from e38) (show T24 g_s = 62 from t48) (show I616 g_s = g_S from ((Fr.irow hF p_3 (by decide) nm0 (by decide)).trans p_4)) hv655.1 hv655.2 (show g_S (I616 a_this 5).toNat = I616 a_this 6 from by rw [e623, e625]; first | assumption | omega) _ _) ml_X6_87 nm_X6_advance ⟨rfl, rfl⟩ ⟨Nat.le_of_ble_eq_true rfl, Nat.le_of_ble_eq_true rfl⟩ dX6_readArgs_118 rfl rfl (Nat.le_of_ble_eq_true rfl) ⟨by show 0 + 1 + 1 + 0 ≤ 2; omega, by show 0 + 4 + 4 + 0 ≤ 8; omega⟩) (fun L658 T659 N660 I661 J662 R663 dz664 dl665 H locs hp656 hMn => ?_)
                  obtain ⟨yL658, yT659, yN660, yR663, hFc666, hp656a⟩ := hp656
                  obtain rfl := yL658.symm; obtain rfl := yT659.symm; obtain rfl := yN660.symm; obtain rfl := yR663.symm
                  replace hF : Fr mo_X6_readArgs [] T N I J R T24 N25 I661 J662 R34 := hF.trans hFc666 (by decide) e20
                  have hM := hMn
                  clear hMn
                  replace hp656a : I661 a_this 5 ≤ g_n ∧ g_S (I661 a_this 5).toNat = I661 a_this 6 ∧ (((I616 a_this 6 = 0 ∨ I616 a_this 6 = 1) ∧ I661 a_this 5 = I616 a_this 5) ∨ (I661 a_this 5 = I616 a_this 5 + 1)) := hp656a
                  obtain ⟨hp656a_0, hp656a_1, hp656a_2⟩ := hp656a
                  obtain ⟨x667, e668⟩ : ∃ v, I661 a_this 5 = v := ⟨_, rfl⟩
                  obtain ⟨x669, e670⟩ : ∃ v, I661 a_this 6 = v := ⟨_, rfl⟩
                  have nz671 : g_S (x667).toNat = x669 := by have h9 := hp656a_1; rw [e668, e670] at h9; exact h9
                  refine q_con B dX6_readArgs_121 ?_
                  have e672 : I55 a_this 1 = I a_this 1 := (hFc60.i t46 (by decide) nm0 rfl).trans hLL16_6
                  have e673 : I597 a_this 1 = I a_this 1 := (w2_ne hu596 (Or.inl (tne t46 t594 (by decide)))).trans e672
                  have e674 : I604 a_this 1 = I a_this 1 := (w2_ne hu605 (Or.inl (tne t46 t33 (by decide)))).trans e673
                  have e675 : I616 a_this 1 = I a_this 1 := (hFc621.i t46 (by decide) nm0 rfl).trans e674
                  have e676 : I661 a_this 1 = I a_this 1 := (hFc666.i t46 (by decide) nm0 rfl).trans e675
                  refine g_zret B hM dX6_readArgs_122 ⟨by show 0 + 1 + 1 ≤ 2; omega, by show 0 + 4 + 4 ≤ 8; omega⟩ (by omega) (by omega) ?_
                  rw [← hPST]
                  exact ⟨(1), rfl, by omega, hF, by omega, by omega, by first | omega | assumption | exact trivial, by show g_S (I661 a_this 5).toNat = I661 a_this 6; rw [e668, e670]; first | assumption | omega, by first | omega | assumption | exact trivial, by first | omega | assumption | exact trivial, by first | omega | assumption | exact trivial, by first | omega | assumption | exact trivial⟩
              · refine lv_aload_n B.1 B.2.1 dX6_readArgs_88 rfl (lv_at hl 0 rfl) ?_
                refine c_getl (k := 7) pk_X6 B hM t46 kd7 rfl (by decide) fl_X6_54 dX6_readArgs_89 e592 ?_
                refine lv_goto (tgt := 96) B.1 B.2.1 dX6_readArgs_92 (by decide) ?_
                refine c_lst B hM t30 kd76 an76 dX6_readArgs_96 (by omega) (by omega) (fun J678 H locs hu677 hM => ?_)
                have e679 : J678 b22 v16_2.toNat = w591 := w2_at hu677
                replace hF : Fr mo_X6_readArgs [] T N I J R T24 N25 I597 J678 R34 := hF.wj hu677 (fun h _ => absurd z29 h)
                refine lv_aload_n B.1 B.2.1 dX6_readArgs_97 rfl (lv_at hl 1 rfl) ?_
                refine lv_iload_n B.1 B.2.1 dX6_readArgs_98 rfl (lv_at hl 2 rfl) ?_
                refine q_con B dX6_readArgs_99 ?_
                refine q_add B dX6_readArgs_100 ?_
                refine c_puti (k := 1) pk_X10 B hM t33 kd9 rfl (by decide) fl_X6_292 (Or.inl rfl) dX6_readArgs_101 rfl rfl rfl (show (-2147483648 : Int) ≤ v16_2 + (1 : Int) from by omega) (show v16_2 + (1 : Int) ≤ (2147483647 : Int) from by omega) (fun I680 H locs hu681 hM => ?_)
                have e682 : I680 a_use 1 = v16_2 + (1 : Int) := w2_at hu681
                replace hF : Fr mo_X6_readArgs [] T N I J R T24 N25 I680 J678 R34 := hF.wi hu681 (fun _ _ => by rw [t_use]; rfl)
                refine lv_aload_n B.1 B.2.1 dX6_readArgs_104 rfl (lv_at hl 0 rfl) ?_
                have e683 : I597 a_this 5 = x61 := (w2_ne hu596 (Or.inl (tne t46 t594 (by decide)))).trans e62
                have e684 : I680 a_this 5 = x61 := (w2_ne hu681 (Or.inl (tne t46 t33 (by decide)))).trans e683
                have e685 : I680 a_this 6 = x63 := (w2_ne hu681 (Or.inl (tne t46 t33 (by decide)))).trans e599
                have hv686 : (TKz g_S g_n) ∧ (I680 a_this 5 ≤ g_n) := by first | omega | exact ⟨by first | omega | assumption | exact trivial, by first | omega | assumption | exact trivial⟩
                refine z_callv hM hA (c_runV (n := 0) (as := []) (rest := []) B hX hA hM hl.1 t46 kd7 rfl (k_X6_advance l D dA eA L23 T24 N25 I680 J678 R34 a_this t46 g_t g_s g_S g_n (show R34 a_this 3 = g_t + 1 from e37) (show T24 g_t = 3 from t47) (show R34 g_t 0 = g_s + 1 from e38) (show T24 g_s = 62 from t48) (show I680 g_s = g_S from ((Fr.irow hF p_3 (by decide) nm0 (by decide)).trans p_4)) hv686.1 hv686.2 (show g_S (I680 a_this 5).toNat = I680 a_this 6 from by rw [e684, e685]; first | assumption | omega) _ _) ml_X6_87 nm_X6_advance ⟨rfl, rfl⟩ ⟨Nat.le_of_ble_eq_true rfl, Nat.le_of_ble_eq_true rfl⟩ dX6_readArgs_105 rfl rfl (Nat.le_of_ble_eq_true rfl) ⟨by show 0 + 1 + 1 + 0 ≤ 2; omega, by show 0 + 4 + 4 + 0 ≤ 8; omega⟩) (fun L689 T690 N691 I692 J693 R694 dz695 dl696 H locs hp687 hMn => ?_)
                obtain ⟨yL689, yT690, yN691, yR694, hFc697, hp687a⟩ := hp687
                obtain rfl := yL689.symm; obtain rfl := yT690.symm; obtain rfl := yN691.symm; obtain rfl := yR694.symm
                replace hF : Fr mo_X6_readArgs [] T N I J R T24 N25 I692 J693 R34 := hF.trans hFc697 (by decide) e20
                have hM := hMn
                clear hMn
                replace hp687a : I692 a_this 5 ≤ g_n ∧ g_S (I692 a_this 5).toNat = I692 a_this 6 ∧ (((I680 a_this 6 = 0 ∨ I680 a_this 6 = 1) ∧ I692 a_this 5 = I680 a_this 5) ∨ (I692 a_this 5 = I680 a_this 5 + 1)) := hp687a
                obtain ⟨hp687a_0, hp687a_1, hp687a_2⟩ := hp687a
                obtain ⟨x698, e699⟩ : ∃ v, I692 a_this 5 = v := ⟨_, rfl⟩
                obtain ⟨x700, e701⟩ : ∃ v, I692 a_this 6 = v := ⟨_, rfl⟩
                have nz702 : g_S (x698).toNat = x700 := by have h9 := hp687a_1; rw [e699, e701] at h9; exact h9
                refine lv_aload_n B.1 B.2.1 dX6_readArgs_108 rfl (lv_at hl 0 rfl) ?_
                have r703 : (-2147483648 : Int) ≤ x700 ∧ x700 ≤ 2147483647 := by rw [← e701]; exact g7_6 hM.2.2.2.2.2.2.1 t46
                refine c_geti (k := 6) pk_X6 B hM t46 kd7 rfl (by decide) fl_X6_47 dX6_readArgs_109 e701 ?_
                refine q_bip B dX6_readArgs_112 (by decide) ?_
                refine q_cne (tgt := 123) B dX6_readArgs_114 (by decide) (by unfold inr; omega) (by unfold inr; omega) (fun c704 => ?_) (fun c704 => ?_)
                · refine lv_aload_n B.1 B.2.1 dX6_readArgs_123 rfl (lv_at hl 0 rfl) ?_
                  refine c_geti (k := 6) pk_X6 B hM t46 kd7 rfl (by decide) fl_X6_47 dX6_readArgs_124 e701 ?_
                  refine q_bip B dX6_readArgs_127 (by decide) ?_
                  refine q_ceq (tgt := 138) B dX6_readArgs_129 (by decide) (by unfold inr; omega) (by unfold inr; omega) (fun c705 => ?_) (fun c705 => ?_)
                  · refine q_inc (lv' := [(2, .int (II (v16_2 + 1))), (0, .ref a_this), (1, .ref a_use)]) B dX6_readArgs_138 hl (k := 2) rfl (by decide) rfl (fun ls hl => ?_)
                    refine lv_goto (tgt := 16) B.1 B.2.1 dX6_readArgs_141 (by decide) ?_
                    have e706 : I55 a_this 1 = I a_this 1 := (hFc60.i t46 (by decide) nm0 rfl).trans hLL16_6
                    have e707 : I597 a_this 1 = I a_this 1 := (w2_ne hu596 (Or.inl (tne t46 t594 (by decide)))).trans e706
                    have e708 : I680 a_this 1 = I a_this 1 := (w2_ne hu681 (Or.inl (tne t46 t33 (by decide)))).trans e707
                    have e709 : I692 a_this 1 = I a_this 1 := (hFc697.i t46 (by decide) nm0 rfl).trans e708
                    have hv710 : ((-2147483648 : Int) ≤ v16_2 + 1 ∧ (v16_2 + 1 : Int) ≤ 2147483647) ∧ (0 ≤ (v16_2 + 1)) ∧ ((v16_2 + 1) ≤ 4) ∧ (I a_this 5 ≤ I692 a_this 5) ∧ (I692 a_this 5 ≤ g_n) ∧ (I692 a_this 1 = I a_this 1) ∧ (0 ≤ 5 - (v16_2 + 1)) := by first | omega | exact ⟨by first | omega | assumption | exact trivial, by first | omega | assumption | exact trivial, by first | omega | assumption | exact trivial, by first | omega | assumption | exact trivial, by first | omega | assumption | exact trivial, by first | omega | assumption | exact trivial, by first | omega | assumption | exact trivial⟩
                    exact IH16 (v16_2 + 1) I692 J693 _ _ ls hM hF (lv_sub hl [1, 2, 0] rfl) hv710.1 hv710.2.1 hv710.2.2.1 hv710.2.2.2.1 hv710.2.2.2.2.1 (by rw [e699, e701]; first | assumption | omega) hv710.2.2.2.2.2.1 hv710.2.2.2.2.2.2 (by omega)
                  · refine lv_aload_n B.1 B.2.1 dX6_readArgs_132 rfl (lv_at hl 0 rfl) ?_
                    refine q_con B dX6_readArgs_133 ?_
                    have hv711 : ((-2147483648 : Int) ≤ 2 ∧ (2 : Int) ≤ 2147483647) ∧ ((2 : Int) ≠ 0) := by first | omega | exact ⟨by first | omega | assumption | exact trivial, by first | omega | assumption | exact trivial⟩
                    refine z_calli hM hA (c_runV (n := 1) (as := [.int (II 2)]) (rest := []) B hX hA hM hl.1 t46 kd7 rfl (k_X6_wrong l D dA eA L23 T24 N25 I692 J693 R34 a_this t46 (2) hv711.1 hv711.2 _ _) ml_X6_84 nm_X6_wrong ⟨rfl, rfl⟩ ⟨Nat.le_of_ble_eq_true rfl, Nat.le_of_ble_eq_true rfl⟩ dX6_readArgs_134 rfl rfl (Nat.le_of_ble_eq_true rfl) ⟨by show 0 + 1 + 1 + 0 ≤ 2; omega, by show 0 + 4 + 4 + 0 ≤ 8; omega⟩) (fun x713 ix713 L714 T715 N716 I717 J718 R719 dz720 dl721 H locs hp712 hMn => ?_)
                    obtain ⟨yL714, yT715, yN716, yJ718, yR719, hFc722, hp712a⟩ := hp712
                    obtain rfl := yL714.symm; obtain rfl := yT715.symm; obtain rfl := yN716.symm; obtain rfl := yJ718.symm; obtain rfl := yR719.symm
                    replace hF : Fr mo_X6_readArgs [] T N I J R T24 N25 I717 J693 R34 := hF.trans hFc722 (by decide) e20
                    have hM := hMn
                    clear hMn
                    replace hp712a : (0 : Int) ≤ x713 ∧ x713 ≤ 1 ∧ (x713 = 0 ∧ I717 a_this 1 ≠ 0) := hp712a
                    obtain ⟨hp712a_0, hp712a_1, hp712a_2⟩ := hp712a
                    obtain ⟨hp712a_2_0, hp712a_2_1⟩ := hp712a_2
                    have e723 : I55 a_this 1 = I a_this 1 := (hFc60.i t46 (by decide) nm0 rfl).trans hLL16_6
                    have e724 : I597 a_this 1 = I a_this 1 := (w2_ne hu596 (Or.inl (tne t46 t594 (by decide)))).trans e723
                    have e725 : I680 a_this 1 = I a_this 1 := (w2_ne hu681 (Or.inl (tne t46 t33 (by decide)))).trans e724
                    have e726 : I692 a_this 1 = I a_this 1 := (hFc697.i t46 (by decide) nm0 rfl).trans e725
                    obtain ⟨x727, e728⟩ : ∃ v, I717 a_this 1 = v := ⟨_, rfl⟩
                    have e729 : I717 a_this 5 = x698 := (hFc722.i t46 (by decide) nm0 rfl).trans e699
                    have e730 : I717 a_this 6 = x700 := (hFc722.i t46 (by decide) nm0 rfl).trans e701
                    refine g_zret B hM dX6_readArgs_137 ⟨by show 0 + 1 + 1 ≤ 2; omega, by show 0 + 4 + 4 ≤ 8; omega⟩ (by omega) (by omega) ?_
                    rw [← hPST]
                    exact ⟨x713, rfl, by omega, hF, by omega, by omega, by first | omega | assumption | exact trivial, by show g_S (I717 a_this 5).toNat = I717 a_this 6; rw [e729, e730]; first | assumption | omega, by first | omega | assumption | exact trivial, by first | omega | assumption | exact trivial, by first | omega | assumption | exact trivial, by first | omega | assumption | exact trivial⟩
                · refine lv_aload_n B.1 B.2.1 dX6_readArgs_117 rfl (lv_at hl 0 rfl) ?_
                  have hv731 : (TKz g_S g_n) ∧ (I692 a_this 5 ≤ g_n) := by first | omega | exact ⟨by first | omega | assumption | exact trivial, by first | omega | assumption | exact trivial⟩
                  refine z_callv hM hA (c_runV (n := 0) (as := []) (rest := []) B hX hA hM hl.1 t46 kd7 rfl (k_X6_advance l D dA eA L23 T24 N25 I692 J693 R34 a_this t46 g_t g_s g_S g_n (show R34 a_this 3 = g_t + 1 from e37) (show T24 g_t = 3 from t47) (show R34 g_t 0 = g_s + 1 from e38) (show T24 g_s = 62 from t48) (show I692 g_s = g_S from ((Fr.irow hF p_3 (by decide) nm0 (by decide)).trans p_4)) hv731.1 hv731.2 (show g_S (I692 a_this 5).toNat = I692 a_this 6 from by rw [e699, e701]; first | assumption | omega) _ _) ml_X6_87 nm_X6_advance ⟨rfl, rfl⟩ ⟨Nat.le_of_ble_eq_true rfl, Nat.le_of_ble_eq_true rfl⟩ dX6_readArgs_118 rfl rfl (Nat.le_of_ble_eq_true rfl) ⟨by show 0 + 1 + 1 + 0 ≤ 2; omega, by show 0 + 4 + 4 + 0 ≤ 8; omega⟩) (fun L734 T735 N736 I737 J738 R739 dz740 dl741 H locs hp732 hMn => ?_)
                  obtain ⟨yL734, yT735, yN736, yR739, hFc742, hp732a⟩ := hp732
                  obtain rfl := yL734.symm; obtain rfl := yT735.symm; obtain rfl := yN736.symm; obtain rfl := yR739.symm
                  replace hF : Fr mo_X6_readArgs [] T N I J R T24 N25 I737 J738 R34 := hF.trans hFc742 (by decide) e20
                  have hM := hMn
                  clear hMn
                  replace hp732a : I737 a_this 5 ≤ g_n ∧ g_S (I737 a_this 5).toNat = I737 a_this 6 ∧ (((I692 a_this 6 = 0 ∨ I692 a_this 6 = 1) ∧ I737 a_this 5 = I692 a_this 5) ∨ (I737 a_this 5 = I692 a_this 5 + 1)) := hp732a
                  obtain ⟨hp732a_0, hp732a_1, hp732a_2⟩ := hp732a
                  obtain ⟨x743, e744⟩ : ∃ v, I737 a_this 5 = v := ⟨_, rfl⟩
                  obtain ⟨x745, e746⟩ : ∃ v, I737 a_this 6 = v := ⟨_, rfl⟩
                  have nz747 : g_S (x743).toNat = x745 := by have h9 := hp732a_1; rw [e744, e746] at h9; exact h9
                  refine q_con B dX6_readArgs_121 ?_
                  have e748 : I55 a_this 1 = I a_this 1 := (hFc60.i t46 (by decide) nm0 rfl).trans hLL16_6
                  have e749 : I597 a_this 1 = I a_this 1 := (w2_ne hu596 (Or.inl (tne t46 t594 (by decide)))).trans e748
                  have e750 : I680 a_this 1 = I a_this 1 := (w2_ne hu681 (Or.inl (tne t46 t33 (by decide)))).trans e749
                  have e751 : I692 a_this 1 = I a_this 1 := (hFc697.i t46 (by decide) nm0 rfl).trans e750
                  have e752 : I737 a_this 1 = I a_this 1 := (hFc742.i t46 (by decide) nm0 rfl).trans e751
                  refine g_zret B hM dX6_readArgs_122 ⟨by show 0 + 1 + 1 ≤ 2; omega, by show 0 + 4 + 4 ≤ 8; omega⟩ (by omega) (by omega) ?_
                  rw [← hPST]
                  exact ⟨(1), rfl, by omega, hF, by omega, by omega, by first | omega | assumption | exact trivial, by show g_S (I737 a_this 5).toNat = I737 a_this 6; rw [e744, e746]; first | assumption | omega, by first | omega | assumption | exact trivial, by first | omega | assumption | exact trivial, by first | omega | assumption | exact trivial, by first | omega | assumption | exact trivial⟩
          · refine lv_aload_n B.1 B.2.1 dX6_readArgs_46 rfl (lv_at hl 0 rfl) ?_
            refine q_con B dX6_readArgs_47 ?_
            have hv753 : ((-2147483648 : Int) ≤ 2 ∧ (2 : Int) ≤ 2147483647) ∧ ((2 : Int) ≠ 0) := by first | omega | exact ⟨by first | omega | assumption | exact trivial, by first | omega | assumption | exact trivial⟩
            refine z_calli hM hA (c_runV (n := 1) (as := [.int (II 2)]) (rest := []) B hX hA hM hl.1 t46 kd7 rfl (k_X6_wrong l D dA eA L23 T24 N25 I55 J56 R34 a_this t46 (2) hv753.1 hv753.2 _ _) ml_X6_84 nm_X6_wrong ⟨rfl, rfl⟩ ⟨Nat.le_of_ble_eq_true rfl, Nat.le_of_ble_eq_true rfl⟩ dX6_readArgs_48 rfl rfl (Nat.le_of_ble_eq_true rfl) ⟨by show 0 + 1 + 1 + 0 ≤ 2; omega, by show 0 + 4 + 4 + 0 ≤ 8; omega⟩) (fun x755 ix755 L756 T757 N758 I759 J760 R761 dz762 dl763 H locs hp754 hMn => ?_)
            obtain ⟨yL756, yT757, yN758, yJ760, yR761, hFc764, hp754a⟩ := hp754
            obtain rfl := yL756.symm; obtain rfl := yT757.symm; obtain rfl := yN758.symm; obtain rfl := yJ760.symm; obtain rfl := yR761.symm
            replace hF : Fr mo_X6_readArgs [] T N I J R T24 N25 I759 J56 R34 := hF.trans hFc764 (by decide) e20
            have hM := hMn
            clear hMn
            replace hp754a : (0 : Int) ≤ x755 ∧ x755 ≤ 1 ∧ (x755 = 0 ∧ I759 a_this 1 ≠ 0) := hp754a
            obtain ⟨hp754a_0, hp754a_1, hp754a_2⟩ := hp754a
            obtain ⟨hp754a_2_0, hp754a_2_1⟩ := hp754a_2
            have e765 : I55 a_this 1 = I a_this 1 := (hFc60.i t46 (by decide) nm0 rfl).trans hLL16_6
            obtain ⟨x766, e767⟩ : ∃ v, I759 a_this 1 = v := ⟨_, rfl⟩
            have e768 : I759 a_this 5 = x61 := (hFc764.i t46 (by decide) nm0 rfl).trans e62
            have e769 : I759 a_this 6 = x63 := (hFc764.i t46 (by decide) nm0 rfl).trans e64
            refine g_zret B hM dX6_readArgs_51 ⟨by show 0 + 1 + 1 ≤ 2; omega, by show 0 + 4 + 4 ≤ 8; omega⟩ (by omega) (by omega) ?_
            rw [← hPST]
            exact ⟨x755, rfl, by omega, hF, by omega, by omega, by first | omega | assumption | exact trivial, by show g_S (I759 a_this 5).toNat = I759 a_this 6; rw [e768, e769]; first | assumption | omega, by first | omega | assumption | exact trivial, by first | omega | assumption | exact trivial, by first | omega | assumption | exact trivial, by first | omega | assumption | exact trivial⟩
  have hv770 : ((-2147483648 : Int) ≤ 0 ∧ (0 : Int) ≤ 2147483647) ∧ (0 ≤ (0 : Int)) ∧ ((0 : Int) ≤ 4) ∧ (I a_this 5 ≤ I a_this 5) ∧ (I a_this 5 ≤ g_n) ∧ (I a_this 1 = I a_this 1) ∧ (0 ≤ 5 - (0 : Int)) := by first | omega | exact ⟨by first | omega | assumption | exact trivial, by first | omega | assumption | exact trivial, by first | omega | assumption | exact trivial, by first | omega | assumption | exact trivial, by first | omega | assumption | exact trivial, by first | omega | assumption | exact trivial, by first | omega | assumption | exact trivial⟩
  exact LL16 (Int.toNat (5 - (0 : Int) + 1)) 0 I J _ _ ls hM hF (lv_sub hl [1, 2, 0] rfl) hv770.1 hv770.2.1 hv770.2.2.1 hv770.2.2.2.1 hv770.2.2.2.2.1 (by rw [e2, e4]; first | assumption | omega) hv770.2.2.2.2.2.1 hv770.2.2.2.2.2.2 (by omega)

def mo_X6_readUse : List Nat := [229, 230, 231, 225, 226, 290, 291, 289, 2400, 2432, 640, 641, 642, 1760, 293, 294, 295, 296, 297, 298]
set_option maxHeartbeats 1000000 in
set_option maxRecDepth 20000 in
theorem k_X6_readUse (l : Launch) (D : va_G) (dA : Nat → ClassId) (eA : Nat) (L : List Nat) (T N : Nat → Nat) (I : Nat → Nat → Int) (J : Nat → Nat → Int64) (R : Nat → Nat → Nat) (a_this : Nat) (t_this : T a_this = 7) (a_spot : Nat) (t_spot : T a_spot = 10) (g_t : Nat) (g_s : Nat) (g_S : Nat → Int) (g_n : Int) (p_0 : R a_this 3 = g_t + 1) (p_1 : T g_t = 3) (p_2 : R g_t 0 = g_s + 1) (p_3 : T g_s = 62) (p_4 : I g_s = g_S) (p_5 : TKz g_S g_n) (p_6 : I a_this 5 ≤ g_n) (p_7 : g_S (I a_this 5).toNat = I a_this 6) (p_8 : I a_this 6 = 2) (p_9 : I (R a_spot 3 - 1) 2 < 8) : GC l yX6_readUse cX6_readUse 4 (some .boolean) ({ frames := 7, cells := 4, slots := 31, locals := 241 }) D dA eA L T N I J R [.ref a_this, .ref a_spot] 4 31 (gI (fun r L' T' N' I' J' R' dz dl => Fr mo_X6_readUse [] T N I J R T' N' I' J' R' ∧ (0 : Int) ≤ r ∧ r ≤ 1 ∧ (I' a_this 5 ≤ g_n ∧ g_S (I' a_this 5).toNat = I' a_this 6 ∧ I a_this 5 ≤ I' a_this 5 ∧ ((r = 0 ∧ I' a_this 1 ≠ 0) ∨ (r = 1 ∧ I' a_this 1 = I a_this 1 ∧ I a_this 5 + 1 ≤ I' a_this 5)) ∧ (dz : Int) ≤ 4 * (I' a_this 5 - I a_this 5) ∧ (dl : Int) ≤ 31 * (I' a_this 5 - I a_this 5)))) := by
  generalize hPST : (gI (fun r L' T' N' I' J' R' dz dl => Fr mo_X6_readUse [] T N I J R T' N' I' J' R' ∧ (0 : Int) ≤ r ∧ r ≤ 1 ∧ (I' a_this 5 ≤ g_n ∧ g_S (I' a_this 5).toNat = I' a_this 6 ∧ I a_this 5 ≤ I' a_this 5 ∧ ((r = 0 ∧ I' a_this 1 ≠ 0) ∨ (r = 1 ∧ I' a_this 1 = I a_this 1 ∧ I a_this 5 + 1 ≤ I' a_this 5)) ∧ (dz : Int) ≤ 4 * (I' a_this 5 - I a_this 5) ∧ (dl : Int) ≤ 31 * (I' a_this 5 - I a_this 5)))) = PST
  refine g_enter (own := RX6) (by decide) rfl (Nat.le_of_ble_eq_true rfl) (fun p e s m args below meth c ls hm B hX hM hl => ?_)
  have hC0 := hM.2.2.2.2.2.2.1
  have hW0 := hM.2.2.2
  have hF : Fr mo_X6_readUse [] T N I J R T N I J R := Fr.rf
  have hA : ∀ q, s.heap.size ≤ q → cF dA L T N I J R s.heap.size q := fun q h => Or.inr h
  have hl : lv_has ls 4 [(0, .ref a_this), (1, .ref a_spot)] := hl
  obtain ⟨x1, e2⟩ : ∃ v, I a_this 5 = v := ⟨_, rfl⟩
  obtain ⟨x3, e4⟩ : ∃ v, I a_this 6 = v := ⟨_, rfl⟩
  have nz5 : g_S (x1).toNat = x3 := by have h9 := p_7; rw [e2, e4] at h9; exact h9
  obtain ⟨x6, e7⟩ : ∃ v, I a_this 1 = v := ⟨_, rfl⟩
  obtain ⟨b8, e9, t10⟩ := g10_3 hC0 t_spot
  have pq11 : I (R a_spot 3 - 1) 2 = I b8 2 := by rw [e9, Nat.add_sub_cancel]
  obtain ⟨x12, e13⟩ : ∃ v, I b8 2 = v := ⟨_, rfl⟩
  refine lv_aload_n B.1 B.2.1 dX6_readUse_0 rfl (lv_at hl 0 rfl) ?_
  refine z_calli hM hA (c_runV (n := 0) (as := []) (rest := []) B hX hA hM hl.1 t_this kd7 rfl (k_X6_readUseName l D dA eA L T N I J R a_this t_this _ _) ml_X6_257 nm_X6_readUseName ⟨rfl, rfl⟩ ⟨Nat.le_of_ble_eq_true rfl, Nat.le_of_ble_eq_true rfl⟩ dX6_readUse_1 rfl rfl (Nat.le_of_ble_eq_true rfl) ⟨by show 0 + 0 ≤ 4; omega, by show 0 + 0 ≤ 31; omega⟩) (fun x15 ix15 L16 T17 N18 I19 J20 R21 dz22 dl23 H locs hp14 hMn => ?_)
  obtain ⟨yL16, yT17, yN18, yJ20, yR21, hFc24, hp14a⟩ := hp14
  obtain rfl := yL16.symm; obtain rfl := yT17.symm; obtain rfl := yN18.symm; obtain rfl := yJ20.symm; obtain rfl := yR21.symm
  replace hF : Fr mo_X6_readUse [] T N I J R T N I19 J R := hF.trans hFc24 (by decide) e20
  have hM := hMn
  clear hMn
  replace hp14a : ((x15 = -1 ∧ I19 a_this 1 ≠ 0) ∨ (0 ≤ x15 ∧ x15 ≤ 299 ∧ I19 a_this 1 = I a_this 1)) := hp14a
  obtain ⟨x25, e26⟩ : ∃ v, I19 a_this 1 = v := ⟨_, rfl⟩
  refine lv_istore_n (lv' := [(2, .int (II x15)), (0, .ref a_this), (1, .ref a_spot)]) B.1 B.2.1 dX6_readUse_4 rfl hl (by decide) rfl (fun ls hl => ?_)
  refine lv_iload_n B.1 B.2.1 dX6_readUse_5 rfl (lv_at hl 0 rfl) ?_
  refine q_con B dX6_readUse_6 ?_
  refine q_cne (tgt := 12) B dX6_readUse_7 (by decide) (by unfold inr; omega) (by unfold inr; omega) (fun c27 => ?_) (fun c27 => ?_)
  · have hMo := hM
    refine c_new (t := 37) pk_X10 B hX.out hA hM kd37 df_X10 rfl rfl (by decide) cl_X6_260 in_X10 ini_X10 (by show 0 + 1 ≤ 4; omega) (by show 0 + 11 ≤ 31; omega) dX6_readUse_12 (fun b28 L29 T30 N31 H t32 hT33 hN34 hM => ?_)
    have t35 : T30 b28 = 37 := by rw [hT33, va_up_self]
    have n36 : N31 b28 = 11 := by rw [hN34, va_up_self]
    replace hF : Fr mo_X6_readUse [] T N I J R T30 N31 I19 J R := hF.new t32 hT33 hN34
    have zz37 := hMo.2.2.2.2.2.1 b28 t32
    clear hMo
    refine lv_dup B.1 B.2.1 dX6_readUse_15 rfl ?_
    refine lv_iload_n B.1 B.2.1 dX6_readUse_16 rfl (lv_at hl 0 rfl) ?_
    refine z_callv hM hA (c_runI (n := 1) (as := [.int (II x15)]) (rest := [.ref b28]) B hX hA hM hl.1 (k_X10_init l D dA eA L29 T30 N31 I19 J R b28 t35 x15 (by first | omega | assumption | exact trivial) zz37 _ _) ml_X6_262 nm_X10_init ⟨rfl, rfl⟩ ⟨Nat.le_of_ble_eq_true rfl, Nat.le_of_ble_eq_true rfl⟩ dX6_readUse_17 rfl rfl (Nat.le_of_ble_eq_true rfl) ⟨by show 0 + 1 + 0 ≤ 4; omega, by show 0 + 11 + 0 ≤ 31; omega⟩) (fun L40 T41 N42 I43 J44 R45 dz46 dl47 H locs hp38 hMn => ?_)
    obtain ⟨yJ44, hFc48, hp38a⟩ := hp38
    obtain rfl := yJ44.symm
    have t49 : T30 a_this = 7 := hF.tt t_this (by decide) nm0
    have t50 : T30 a_spot = 10 := hF.tt t_spot (by decide) nm0
    have t51 : T30 g_t = 3 := hF.tt p_1 (by decide) nm0
    have t52 : T30 g_s = 62 := hF.tt p_3 (by decide) nm0
    have t53 : T30 b8 = 20 := hF.tt t10 (by decide) nm0
    replace hF : Fr mo_X6_readUse [] T N I J R T41 N42 I43 J R45 := hF.trans hFc48 (by decide) (e2x (fun h => absurd t32 h))
    have hM := hMn
    clear hMn
    obtain ⟨t54, hp38a⟩ := hp38a
    replace hp38a : I43 b28 5 = -1 ∧ I43 b28 6 = -1 := hp38a
    obtain ⟨hp38a_0, hp38a_1⟩ := hp38a
    refine lv_astore_n (lv' := [(3, .ref b28), (2, .int (II x15)), (0, .ref a_this), (1, .ref a_spot)]) B.1 B.2.1 dX6_readUse_20 rfl hl (by decide) rfl (fun ls hl => ?_)
    refine lv_aload_n B.1 B.2.1 dX6_readUse_21 rfl (lv_at hl 3 rfl) ?_
    have t55 : T41 a_spot = 10 := hF.tt t_spot (by decide) nm0
    have e56 : R45 a_spot 3 = b8 + 1 := (hF.r t_spot (by decide) nm0 rfl).trans e9
    refine c_getn (k := 3) pk_X8 B hM t55 kd10 rfl (by decide) fl_X6_251 dX6_readUse_22 e56 ?_
    refine lv_aload_n B.1 B.2.1 dX6_readUse_25 rfl (lv_at hl 0 rfl) ?_
    have t57 : T41 b8 = 20 := hF.tt t10 (by decide) nm0
    have e58 : I19 b8 2 = x12 := (hFc24.i t10 (by decide) nm0 rfl).trans e13
    have e59 : I43 b8 2 = x12 := (hFc48.i t53 (by decide) (nm1 (tne t53 t35 (by decide))) rfl).trans e58
    obtain ⟨x60, e61⟩ : ∃ v, I43 b28 0 = v := ⟨_, rfl⟩
    have hv62 : (15 ≤ 20) ∧ (20 ≤ 23) ∧ (I43 b8 2 < 8) ∧ (20 = 18 → I43 b28 0 ≤ I43 b8 2) := by first | omega | exact ⟨by first | omega | assumption | exact trivial, by first | omega | assumption | exact trivial, by first | omega | assumption | exact trivial, by first | omega | assumption | exact trivial⟩
    refine g_calli hM hA (c_runV (n := 1) (as := [.ref b28]) (rest := []) B hX hA hM hl.1 t57 kd20 rfl (k_Jx4a65c_add_9ea2d l D dA eA L40 T41 N42 I43 J R45 b8 t57 b28 t54 hv62.1 hv62.2.1 hv62.2.2.1 hv62.2.2.2 _ _) ml_X6_146 nm_Jx4a65c_add_9ea2d ⟨rfl, rfl⟩ ⟨Nat.le_of_ble_eq_true rfl, Nat.le_of_ble_eq_true rfl⟩ dX6_readUse_26 rfl rfl (Nat.le_of_ble_eq_true rfl) ⟨by show 0 + 1 + 1 ≤ 4; omega, by show 0 + 11 + 12 ≤ 31; omega⟩) (fun x64 ix64 L65 T66 N67 I68 J69 R70 dz71 dl72 H locs hp63 hMn => ?_)
    obtain ⟨yJ69, hFc73, hp63a⟩ := hp63
    obtain rfl := yJ69.symm
    have t74 : T41 a_this = 7 := hF.tt t_this (by decide) nm0
    have t75 : T41 g_t = 3 := hF.tt p_1 (by decide) nm0
    have t76 : T41 g_s = 62 := hF.tt p_3 (by decide) nm0
    replace hF : Fr mo_X6_readUse [] T N I J R T66 N67 I68 J R70 := hF.trans hFc73 (by decide) e20
    have hM := hMn
    clear hMn
    replace hp63a : (0 : Int) ≤ x64 ∧ x64 ≤ 1 ∧ (I68 b8 2 = I43 b8 2 + 1 ∧ R70 (R70 b8 1 - 1) (I43 b8 2).toNat = b28 + 1 ∧ (∀ i : Nat, (i : Int) < I43 b8 2 → R70 (R70 b8 1 - 1) i = R45 (R45 b8 1 - 1) i) ∧ (∀ b, T41 b = 20 → b ≠ b8 → I68 b 2 = I43 b 2) ∧ dz71 ≤ 1 ∧ dl72 ≤ 12 ∧ dl72 + 3 * N42 (R45 b8 1 - 1) ≤ 3 * N67 (R70 b8 1 - 1) + 2) := hp63a
    obtain ⟨hp63a_0, hp63a_1, hp63a_2⟩ := hp63a
    obtain ⟨hp63a_2_0, hp63a_2_1, hp63a_2_2, hp63a_2_3, hp63a_2_4, hp63a_2_5, hp63a_2_6⟩ := hp63a_2
    obtain ⟨v77, e78⟩ : ∃ v, R70 b8 1 = v := ⟨_, rfl⟩
    refine lv_pop B.1 B.2.1 dX6_readUse_29 rfl ?_
    refine lv_aload_n B.1 B.2.1 dX6_readUse_30 rfl (lv_at hl 2 rfl) ?_
    have t79 : T66 a_this = 7 := hF.tt t_this (by decide) nm0
    have e80 : R70 a_this 3 = g_t + 1 := (hF.r t_this (by decide) nm0 rfl).trans p_0
    have e81 : R70 g_t 0 = g_s + 1 := (hF.r p_1 (by decide) nm0 rfl).trans p_2
    have t82 : T66 g_t = 3 := hF.tt p_1 (by decide) nm0
    have t83 : T66 g_s = 62 := hF.tt p_3 (by decide) nm0
    have e84 : I19 a_this 5 = x1 := (hFc24.i t_this (by decide) nm0 rfl).trans e2
    have e85 : I43 a_this 5 = x1 := (hFc48.i t49 (by decide) (nm1 (tne t49 t35 (by decide))) rfl).trans e84
    have e86 : I68 a_this 5 = x1 := (hFc73.i t74 (by decide) nm0 rfl).trans e85
    have e87 : I19 a_this 6 = 2 := (hFc24.i t_this (by decide) nm0 rfl).trans p_8
    have e88 : I43 a_this 6 = 2 := (hFc48.i t49 (by decide) (nm1 (tne t49 t35 (by decide))) rfl).trans e87
    have e89 : I68 a_this 6 = 2 := (hFc73.i t74 (by decide) nm0 rfl).trans e88
    have hv90 : (TKz g_S g_n) ∧ (I68 a_this 5 ≤ g_n) := by first | omega | exact ⟨by first | omega | assumption | exact trivial, by first | omega | assumption | exact trivial⟩
    refine z_callv hM hA (c_runV (n := 0) (as := []) (rest := []) B hX hA hM hl.1 t79 kd7 rfl (k_X6_advance l D dA eA L65 T66 N67 I68 J R70 a_this t79 g_t g_s g_S g_n (show R70 a_this 3 = g_t + 1 from e80) (show T66 g_t = 3 from t82) (show R70 g_t 0 = g_s + 1 from e81) (show T66 g_s = 62 from t83) (show I68 g_s = g_S from ((Fr.irow hF p_3 (by decide) nm0 (by decide)).trans p_4)) hv90.1 hv90.2 (show g_S (I68 a_this 5).toNat = I68 a_this 6 from by rw [e86, e89]; first | assumption | omega) _ _) ml_X6_87 nm_X6_advance ⟨rfl, rfl⟩ ⟨Nat.le_of_ble_eq_true rfl, Nat.le_of_ble_eq_true rfl⟩ dX6_readUse_31 rfl rfl (Nat.le_of_ble_eq_true rfl) ⟨by show 0 + 1 + dz71 + 0 ≤ 4; omega, by show 0 + 11 + dl72 + 0 ≤ 31; omega⟩) (fun L93 T94 N95 I96 J97 R98 dz99 dl100 H locs hp91 hMn => ?_)
    obtain ⟨yL93, yT94, yN95, yR98, hFc101, hp91a⟩ := hp91
    obtain rfl := yL93.symm; obtain rfl := yT94.symm; obtain rfl := yN95.symm; obtain rfl := yR98.symm
    replace hF : Fr mo_X6_readUse [] T N I J R T66 N67 I96 J97 R70 := hF.trans hFc101 (by decide) e20
    have hM := hMn
    clear hMn
    replace hp91a : I96 a_this 5 ≤ g_n ∧ g_S (I96 a_this 5).toNat = I96 a_this 6 ∧ (((I68 a_this 6 = 0 ∨ I68 a_this 6 = 1) ∧ I96 a_this 5 = I68 a_this 5) ∨ (I96 a_this 5 = I68 a_this 5 + 1)) := hp91a
    obtain ⟨hp91a_0, hp91a_1, hp91a_2⟩ := hp91a
    obtain ⟨x102, e103⟩ : ∃ v, I96 a_this 5 = v := ⟨_, rfl⟩
    obtain ⟨x104, e105⟩ : ∃ v, I96 a_this 6 = v := ⟨_, rfl⟩
    have nz106 : g_S (x102).toNat = x104 := by have h9 := hp91a_1; rw [e103, e105] at h9; exact h9
    refine lv_aload_n B.1 B.2.1 dX6_readUse_34 rfl (lv_at hl 2 rfl) ?_
    have r107 : (-2147483648 : Int) ≤ x104 ∧ x104 ≤ 2147483647 := by rw [← e105]; exact g7_6 hM.2.2.2.2.2.2.1 t79
    refine c_geti (k := 6) pk_X6 B hM t79 kd7 rfl (by decide) fl_X6_47 dX6_readUse_35 e105 ?_
    refine q_bip B dX6_readUse_38 (by decide) ?_
    have JJ53 : ∀ (v53_3 : Nat) (L_53 : List Nat) (T_53 : Nat → Nat) (N_53 : Nat → Nat) (I_53 : Nat → Nat → Int) (J_53 : Nat → Nat → Int64) (R_53 : Nat → Nat → Nat) (zc53 zs53 : Nat) (H : Heap) (locs : List Loc) (ls : Array Slot), (CWd D dA eA (cF dA L T N I J R s.heap.size) s.heap L_53 T_53 N_53 I_53 J_53 R_53 H locs) → (Fr mo_X6_readUse [] T N I J R T_53 N_53 I_53 J_53 R_53) → lv_has ls 4 [(2, .int (II x15)), (0, .ref a_this), (1, .ref a_spot), (3, .ref v53_3)] → (T_53 v53_3 = 9) → (I a_this 5 + 1 ≤ I_53 a_this 5) → ((zc53 : Int) ≤ 4) → ((zs53 : Int) ≤ 31) → (I_53 a_this 5 ≤ g_n) → (g_S (I_53 a_this 5).toNat = I_53 a_this 6) → (I_53 a_this 1 = I a_this 1) → W p l e ({ frames := 7, cells := 4, slots := 31, locals := 241 }) s m args below meth c H locs zc53 zs53 (MQ below (gQ D dA eA (cF dA L T N I J R s.heap.size) s.heap.size (hs s.heap) PST) args s 4 31 (cF dA L T N I J R s.heap.size)) (F0 m 53 ls []) := by
      intro v53_3 L_53 T_53 N_53 I_53 J_53 R_53 zc53 zs53 H locs ls hM hF hl hJJ53_0 hJJ53_1 hJJ53_2 hJJ53_3 hJJ53_4 hJJ53_5 hJJ53_6
      obtain ⟨x108, e109⟩ : ∃ v, I_53 a_this 5 = v := ⟨_, rfl⟩
      obtain ⟨x110, e111⟩ : ∃ v, I_53 a_this 6 = v := ⟨_, rfl⟩
      have nz112 : g_S (x108).toNat = x110 := by have h9 := hJJ53_5; rw [e109, e111] at h9; exact h9
      refine lv_aload_n B.1 B.2.1 dX6_readUse_53 rfl (lv_at hl 1 rfl) ?_
      have t113 : T_53 a_this = 7 := hF.tt t_this (by decide) nm0
      have r114 : (-2147483648 : Int) ≤ x110 ∧ x110 ≤ 2147483647 := by rw [← e111]; exact g7_6 hM.2.2.2.2.2.2.1 t113
      refine c_geti (k := 6) pk_X6 B hM t113 kd7 rfl (by decide) fl_X6_47 dX6_readUse_54 e111 ?_
      refine q_bip B dX6_readUse_57 (by decide) ?_
      have e115 : R_53 a_this 3 = g_t + 1 := (hF.r t_this (by decide) nm0 rfl).trans p_0
      have e116 : R_53 g_t 0 = g_s + 1 := (hF.r p_1 (by decide) nm0 rfl).trans p_2
      have e117 : R_53 a_spot 3 = b8 + 1 := (hF.r t_spot (by decide) nm0 rfl).trans e9
      have JJ93 : ∀ (I_93 : Nat → Nat → Int) (J_93 : Nat → Nat → Int64) (H : Heap) (locs : List Loc) (ls : Array Slot), (CWd D dA eA (cF dA L T N I J R s.heap.size) s.heap L_53 T_53 N_53 I_93 J_93 R_53 H locs) → (Fr mo_X6_readUse [] T N I J R T_53 N_53 I_93 J_93 R_53) → lv_has ls 4 [(2, .int (II x15)), (0, .ref a_this), (1, .ref a_spot), (3, .ref v53_3)] → (I a_this 5 + 1 ≤ I_93 a_this 5) → (I_93 a_this 5 ≤ g_n) → (g_S (I_93 a_this 5).toNat = I_93 a_this 6) → (I_93 a_this 1 = I a_this 1) → W p l e ({ frames := 7, cells := 4, slots := 31, locals := 241 }) s m args below meth c H locs zc53 zs53 (MQ below (gQ D dA eA (cF dA L T N I J R s.heap.size) s.heap.size (hs s.heap) PST) args s 4 31 (cF dA L T N I J R s.heap.size)) (F0 m 93 ls []) := by
        intro I_93 J_93 H locs ls hM hF hl hJJ93_0 hJJ93_1 hJJ93_2 hJJ93_3
        obtain ⟨x118, e119⟩ : ∃ v, I_93 a_this 5 = v := ⟨_, rfl⟩
        obtain ⟨x120, e121⟩ : ∃ v, I_93 a_this 6 = v := ⟨_, rfl⟩
        have nz122 : g_S (x118).toNat = x120 := by have h9 := hJJ93_2; rw [e119, e121] at h9; exact h9
        refine lv_aload_n B.1 B.2.1 dX6_readUse_93 rfl (lv_at hl 1 rfl) ?_
        have r123 : (-2147483648 : Int) ≤ x120 ∧ x120 ≤ 2147483647 := by rw [← e121]; exact g7_6 hM.2.2.2.2.2.2.1 t113
        refine c_geti (k := 6) pk_X6 B hM t113 kd7 rfl (by decide) fl_X6_47 dX6_readUse_94 e121 ?_
        refine q_bip B dX6_readUse_97 (by decide) ?_
        have JJ143 : ∀ (I_143 : Nat → Nat → Int) (J_143 : Nat → Nat → Int64) (H : Heap) (locs : List Loc) (ls : Array Slot), (CWd D dA eA (cF dA L T N I J R s.heap.size) s.heap L_53 T_53 N_53 I_143 J_143 R_53 H locs) → (Fr mo_X6_readUse [] T N I J R T_53 N_53 I_143 J_143 R_53) → lv_has ls 4 [(2, .int (II x15)), (0, .ref a_this), (1, .ref a_spot), (3, .ref v53_3)] → (I a_this 5 + 1 ≤ I_143 a_this 5) → (I_143 a_this 5 ≤ g_n) → (g_S (I_143 a_this 5).toNat = I_143 a_this 6) → (I_143 a_this 1 = I a_this 1) → W p l e ({ frames := 7, cells := 4, slots := 31, locals := 241 }) s m args below meth c H locs zc53 zs53 (MQ below (gQ D dA eA (cF dA L T N I J R s.heap.size) s.heap.size (hs s.heap) PST) args s 4 31 (cF dA L T N I J R s.heap.size)) (F0 m 143 ls []) := by
          intro I_143 J_143 H locs ls hM hF hl hJJ143_0 hJJ143_1 hJJ143_2 hJJ143_3
          obtain ⟨x124, e125⟩ : ∃ v, I_143 a_this 5 = v := ⟨_, rfl⟩
          obtain ⟨x126, e127⟩ : ∃ v, I_143 a_this 6 = v := ⟨_, rfl⟩
          have nz128 : g_S (x124).toNat = x126 := by have h9 := hJJ143_2; rw [e125, e127] at h9; exact h9
          refine lv_aload_n B.1 B.2.1 dX6_readUse_143 rfl (lv_at hl 1 rfl) ?_
          have r129 : (-2147483648 : Int) ≤ x126 ∧ x126 ≤ 2147483647 := by rw [← e127]; exact g7_6 hM.2.2.2.2.2.2.1 t113
          refine c_geti (k := 6) pk_X6 B hM t113 kd7 rfl (by decide) fl_X6_47 dX6_readUse_144 e127 ?_
          refine q_bip B dX6_readUse_147 (by decide) ?_
          have JJ188 : ∀ (I_188 : Nat → Nat → Int) (J_188 : Nat → Nat → Int64) (H : Heap) (locs : List Loc) (ls : Array Slot), (CWd D dA eA (cF dA L T N I J R s.heap.size) s.heap L_53 T_53 N_53 I_188 J_188 R_53 H locs) → (Fr mo_X6_readUse [] T N I J R T_53 N_53 I_188 J_188 R_53) → lv_has ls 4 [(2, .int (II x15)), (0, .ref a_this), (1, .ref a_spot), (3, .ref v53_3)] → (I a_this 5 + 1 ≤ I_188 a_this 5) → (I_188 a_this 5 ≤ g_n) → (g_S (I_188 a_this 5).toNat = I_188 a_this 6) → (I_188 a_this 1 = I a_this 1) → W p l e ({ frames := 7, cells := 4, slots := 31, locals := 241 }) s m args below meth c H locs zc53 zs53 (MQ below (gQ D dA eA (cF dA L T N I J R s.heap.size) s.heap.size (hs s.heap) PST) args s 4 31 (cF dA L T N I J R s.heap.size)) (F0 m 188 ls []) := by
            intro I_188 J_188 H locs ls hM hF hl hJJ188_0 hJJ188_1 hJJ188_2 hJJ188_3
            obtain ⟨x130, e131⟩ : ∃ v, I_188 a_this 5 = v := ⟨_, rfl⟩
            obtain ⟨x132, e133⟩ : ∃ v, I_188 a_this 6 = v := ⟨_, rfl⟩
            have nz134 : g_S (x130).toNat = x132 := by have h9 := hJJ188_2; rw [e131, e133] at h9; exact h9
            refine lv_aload_n B.1 B.2.1 dX6_readUse_188 rfl (lv_at hl 1 rfl) ?_
            have r135 : (-2147483648 : Int) ≤ x132 ∧ x132 ≤ 2147483647 := by rw [← e133]; exact g7_6 hM.2.2.2.2.2.2.1 t113
            refine c_geti (k := 6) pk_X6 B hM t113 kd7 rfl (by decide) fl_X6_47 dX6_readUse_189 e133 ?_
            refine q_con B dX6_readUse_192 ?_
            refine q_cne (tgt := 227) B dX6_readUse_193 (by decide) (by unfold inr; omega) (by unfold inr; omega) (fun c136 => ?_) (fun c136 => ?_)
            · refine q_con B dX6_readUse_227 ?_
              refine g_zret B hM dX6_readUse_228 ⟨by show zc53 ≤ 4; omega, by show zs53 ≤ 31; omega⟩ (by omega) (by omega) ?_
              rw [← hPST]
              exact ⟨(1), rfl, by omega, hF, by omega, by omega, by first | omega | assumption | exact trivial, by show g_S (I_188 a_this 5).toNat = I_188 a_this 6; rw [e131, e133]; first | assumption | omega, by first | omega | assumption | exact trivial, by first | omega | assumption | exact trivial, by first | omega | assumption | exact trivial, by first | omega | assumption | exact trivial⟩
            · refine lv_aload_n B.1 B.2.1 dX6_readUse_196 rfl (lv_at hl 3 rfl) ?_
              refine lv_aload_n B.1 B.2.1 dX6_readUse_197 rfl (lv_at hl 1 rfl) ?_
              refine c_getn (k := 3) pk_X6 B hM t113 kd7 rfl (by decide) fl_X6_9 dX6_readUse_198 e115 ?_
              have t137 : T_53 g_t = 3 := hF.tt p_1 (by decide) nm0
              obtain ⟨b138, e139, t140⟩ := g3_1 hC0 p_1
              have e141 : R_53 g_t 1 = b138 + 1 := (hF.r p_1 (by decide) nm0 rfl).trans e139
              refine c_getn (k := 1) pk_X9 B hM t137 kd3 rfl (by decide) fl_X6_61 dX6_readUse_201 e141 ?_
              refine lv_aload_n B.1 B.2.1 dX6_readUse_204 rfl (lv_at hl 1 rfl) ?_
              have r142 : (0 : Int) ≤ x130 ∧ x130 ≤ 3000 := by rw [← e131]; exact g7_5 hM.2.2.2.2.2.2.1 t113
              refine c_geti (k := 5) pk_X6 B hM t113 kd7 rfl (by decide) fl_X6_39 dX6_readUse_205 e131 ?_
              have t143 : T_53 b138 = 63 := hF.tt t140 (by decide) nm0
              have n144 : 3001 ≤ N_53 b138 ∧ N_53 b138 ≤ 3001 := gn63 hM.2.2.2.2.2.2.1 t143
              obtain ⟨x145, e146⟩ : ∃ v, I b138 x130.toNat = v := ⟨_, rfl⟩
              have e147 : I_188 b138 x130.toNat = x145 := (hF.i t140 (by decide) nm0 (by rw [cd_arr (j := 0) (by decide)]; rfl)).trans e146
              have r148 : (-2147483648 : Int) ≤ x145 ∧ x145 ≤ 2147483647 := by rw [← e147]; exact ga63 hM.2.2.2.2.2.2.1 t143 (by omega)
              refine c_ild B hM t143 kd63 an63 dX6_readUse_208 (by omega) (by omega) e147 ?_
              refine q_con B dX6_readUse_209 ?_
              refine q_add B dX6_readUse_210 ?_
              refine q_wrap (fun x149 ix149 => ?_)
              refine c_puti (k := 9) pk_X10 B hM hJJ53_0 kd9 rfl (by decide) fl_X6_280 (Or.inl rfl) dX6_readUse_211 rfl rfl rfl (show (-2147483648 : Int) ≤ x149 from by omega) (show x149 ≤ (2147483647 : Int) from by omega) (fun I150 H locs hu151 hM => ?_)
              have e152 : I150 v53_3 9 = x149 := w2_at hu151
              replace hF : Fr mo_X6_readUse [] T N I J R T_53 N_53 I150 J_188 R_53 := hF.wi hu151 (Fr_c hF hJJ53_0 rfl)
              refine lv_aload_n B.1 B.2.1 dX6_readUse_214 rfl (lv_at hl 3 rfl) ?_
              refine lv_aload_n B.1 B.2.1 dX6_readUse_215 rfl (lv_at hl 1 rfl) ?_
              obtain ⟨w153, e154⟩ : ∃ v, J_188 a_this 7 = v := ⟨_, rfl⟩
              refine c_getl (k := 7) pk_X6 B hM t113 kd7 rfl (by decide) fl_X6_54 dX6_readUse_216 e154 ?_
              refine q_l2i B dX6_readUse_219 (fun x155 ix155 => ?_)
              unfold inr at ix155
              refine c_puti (k := 10) pk_X10 B hM hJJ53_0 kd9 rfl (by decide) fl_X6_283 (Or.inl rfl) dX6_readUse_220 rfl rfl rfl (show (-2147483648 : Int) ≤ x155 from by omega) (show x155 ≤ (2147483647 : Int) from by omega) (fun I156 H locs hu157 hM => ?_)
              have e158 : I156 v53_3 10 = x155 := w2_at hu157
              replace hF : Fr mo_X6_readUse [] T N I J R T_53 N_53 I156 J_188 R_53 := hF.wi hu157 (Fr_c hF hJJ53_0 rfl)
              refine lv_aload_n B.1 B.2.1 dX6_readUse_223 rfl (lv_at hl 1 rfl) ?_
              have t159 : T_53 g_s = 62 := hF.tt p_3 (by decide) nm0
              have e160 : I150 a_this 5 = x130 := (w2_ne hu151 (Or.inl (tne t113 hJJ53_0 (by decide)))).trans e131
              have e161 : I156 a_this 5 = x130 := (w2_ne hu157 (Or.inl (tne t113 hJJ53_0 (by decide)))).trans e160
              have e162 : I150 a_this 6 = x132 := (w2_ne hu151 (Or.inl (tne t113 hJJ53_0 (by decide)))).trans e133
              have e163 : I156 a_this 6 = x132 := (w2_ne hu157 (Or.inl (tne t113 hJJ53_0 (by decide)))).trans e162
              have hv164 : (TKz g_S g_n) ∧ (I156 a_this 5 ≤ g_n) := by first | omega | exact ⟨by first | omega | assumption | exact trivial, by first | omega | assumption | exact trivial⟩
              refine z_callv hM hA (c_runV (n := 0) (as := []) (rest := []) B hX hA hM hl.1 t113 kd7 rfl (k_X6_advance l D dA eA L_53 T_53 N_53 I156 J_188 R_53 a_this t113 g_t g_s g_S g_n (show R_53 a_this 3 = g_t + 1 from e115) (show T_53 g_t = 3 from t137) (show R_53 g_t 0 = g_s + 1 from e116) (show T_53 g_s = 62 from t159) (show I156 g_s = g_S from ((Fr.irow hF p_3 (by decide) nm0 (by decide)).trans p_4)) hv164.1 hv164.2 (show g_S (I156 a_this 5).toNat = I156 a_this 6 from by rw [e161, e163]; first | assumption | omega) _ _) ml_X6_87 nm_X6_advance ⟨rfl, rfl⟩ ⟨Nat.le_of_ble_eq_true rfl, Nat.le_of_ble_eq_true rfl⟩ dX6_readUse_224 rfl rfl (Nat.le_of_ble_eq_true rfl) ⟨by show zc53 + 0 ≤ 4; omega, by show zs53 + 0 ≤ 31; omega⟩) (fun L167 T168 N169 I170 J171 R172 dz173 dl174 H locs hp165 hMn => ?_)
              obtain ⟨yL167, yT168, yN169, yR172, hFc175, hp165a⟩ := hp165
              obtain rfl := yL167.symm; obtain rfl := yT168.symm; obtain rfl := yN169.symm; obtain rfl := yR172.symm
              replace hF : Fr mo_X6_readUse [] T N I J R T_53 N_53 I170 J171 R_53 := hF.trans hFc175 (by decide) e20
              have hM := hMn
              clear hMn
              replace hp165a : I170 a_this 5 ≤ g_n ∧ g_S (I170 a_this 5).toNat = I170 a_this 6 ∧ (((I156 a_this 6 = 0 ∨ I156 a_this 6 = 1) ∧ I170 a_this 5 = I156 a_this 5) ∨ (I170 a_this 5 = I156 a_this 5 + 1)) := hp165a
              obtain ⟨hp165a_0, hp165a_1, hp165a_2⟩ := hp165a
              obtain ⟨x176, e177⟩ : ∃ v, I170 a_this 5 = v := ⟨_, rfl⟩
              obtain ⟨x178, e179⟩ : ∃ v, I170 a_this 6 = v := ⟨_, rfl⟩
              have nz180 : g_S (x176).toNat = x178 := by have h9 := hp165a_1; rw [e177, e179] at h9; exact h9
              refine q_con B dX6_readUse_227 ?_
              have e181 : I150 a_this 1 = I a_this 1 := (w2_ne hu151 (Or.inl (tne t113 hJJ53_0 (by decide)))).trans hJJ188_3
              have e182 : I156 a_this 1 = I a_this 1 := (w2_ne hu157 (Or.inl (tne t113 hJJ53_0 (by decide)))).trans e181
              have e183 : I170 a_this 1 = I a_this 1 := (hFc175.i t113 (by decide) nm0 rfl).trans e182
              refine g_zret B hM dX6_readUse_228 ⟨by show zc53 ≤ 4; omega, by show zs53 ≤ 31; omega⟩ (by omega) (by omega) ?_
              rw [← hPST]
              exact ⟨(1), rfl, by omega, hF, by omega, by omega, by first | omega | assumption | exact trivial, by show g_S (I170 a_this 5).toNat = I170 a_this 6; rw [e177, e179]; first | assumption | omega, by first | omega | assumption | exact trivial, by first | omega | assumption | exact trivial, by first | omega | assumption | exact trivial, by first | omega | assumption | exact trivial⟩
          refine q_cne (tgt := 188) B dX6_readUse_149 (by decide) (by unfold inr; omega) (by unfold inr; omega) (fun c184 => ?_) (fun c184 => ?_)
          · have hv185 : (I a_this 5 + 1 ≤ I_143 a_this 5) ∧ (I_143 a_this 5 ≤ g_n) ∧ (I_143 a_this 1 = I a_this 1) := by first | omega | exact ⟨by first | omega | assumption | exact trivial, by first | omega | assumption | exact trivial, by first | omega | assumption | exact trivial⟩
            exact JJ188 I_143 J_143 _ _ ls hM hF (lv_sub hl [0, 1, 2, 3] rfl) hv185.1 hv185.2.1 (by rw [e125, e127]; first | assumption | omega) hv185.2.2
          · refine lv_aload_n B.1 B.2.1 dX6_readUse_152 rfl (lv_at hl 1 rfl) ?_
            have t186 : T_53 g_t = 3 := hF.tt p_1 (by decide) nm0
            have t187 : T_53 g_s = 62 := hF.tt p_3 (by decide) nm0
            have hv188 : (TKz g_S g_n) ∧ (I_143 a_this 5 ≤ g_n) := by first | omega | exact ⟨by first | omega | assumption | exact trivial, by first | omega | assumption | exact trivial⟩
            refine z_callv hM hA (c_runV (n := 0) (as := []) (rest := []) B hX hA hM hl.1 t113 kd7 rfl (k_X6_advance l D dA eA L_53 T_53 N_53 I_143 J_143 R_53 a_this t113 g_t g_s g_S g_n (show R_53 a_this 3 = g_t + 1 from e115) (show T_53 g_t = 3 from t186) (show R_53 g_t 0 = g_s + 1 from e116) (show T_53 g_s = 62 from t187) (show I_143 g_s = g_S from ((Fr.irow hF p_3 (by decide) nm0 (by decide)).trans p_4)) hv188.1 hv188.2 (show g_S (I_143 a_this 5).toNat = I_143 a_this 6 from by rw [e125, e127]; first | assumption | omega) _ _) ml_X6_87 nm_X6_advance ⟨rfl, rfl⟩ ⟨Nat.le_of_ble_eq_true rfl, Nat.le_of_ble_eq_true rfl⟩ dX6_readUse_153 rfl rfl (Nat.le_of_ble_eq_true rfl) ⟨by show zc53 + 0 ≤ 4; omega, by show zs53 + 0 ≤ 31; omega⟩) (fun L191 T192 N193 I194 J195 R196 dz197 dl198 H locs hp189 hMn => ?_)
            obtain ⟨yL191, yT192, yN193, yR196, hFc199, hp189a⟩ := hp189
            obtain rfl := yL191.symm; obtain rfl := yT192.symm; obtain rfl := yN193.symm; obtain rfl := yR196.symm
            replace hF : Fr mo_X6_readUse [] T N I J R T_53 N_53 I194 J195 R_53 := hF.trans hFc199 (by decide) e20
            have hM := hMn
            clear hMn
            replace hp189a : I194 a_this 5 ≤ g_n ∧ g_S (I194 a_this 5).toNat = I194 a_this 6 ∧ (((I_143 a_this 6 = 0 ∨ I_143 a_this 6 = 1) ∧ I194 a_this 5 = I_143 a_this 5) ∨ (I194 a_this 5 = I_143 a_this 5 + 1)) := hp189a
            obtain ⟨hp189a_0, hp189a_1, hp189a_2⟩ := hp189a
            obtain ⟨x200, e201⟩ : ∃ v, I194 a_this 5 = v := ⟨_, rfl⟩
            obtain ⟨x202, e203⟩ : ∃ v, I194 a_this 6 = v := ⟨_, rfl⟩
            have nz204 : g_S (x200).toNat = x202 := by have h9 := hp189a_1; rw [e201, e203] at h9; exact h9
            refine lv_aload_n B.1 B.2.1 dX6_readUse_156 rfl (lv_at hl 1 rfl) ?_
            have r205 : (-2147483648 : Int) ≤ x202 ∧ x202 ≤ 2147483647 := by rw [← e203]; exact g7_6 hM.2.2.2.2.2.2.1 t113
            refine c_geti (k := 6) pk_X6 B hM t113 kd7 rfl (by decide) fl_X6_47 dX6_readUse_157 e203 ?_
            refine q_con B dX6_readUse_160 ?_
            refine q_ceq (tgt := 170) B dX6_readUse_161 (by decide) (by unfold inr; omega) (by unfold inr; omega) (fun c206 => ?_) (fun c206 => ?_)
            · refine lv_aload_n B.1 B.2.1 dX6_readUse_170 rfl (lv_at hl 3 rfl) ?_
              refine q_con B dX6_readUse_171 ?_
              refine c_puti (k := 7) pk_X10 B hM hJJ53_0 kd9 rfl (by decide) fl_X6_273 (Or.inl rfl) dX6_readUse_172 rfl (narZ (by omega)) rfl (show (0 : Int) ≤ 1 from by omega) (show 1 ≤ (1 : Int) from by omega) (fun I207 H locs hu208 hM => ?_)
              have e209 : I207 v53_3 7 = 1 := w2_at hu208
              replace hF : Fr mo_X6_readUse [] T N I J R T_53 N_53 I207 J195 R_53 := hF.wi hu208 (Fr_c hF hJJ53_0 rfl)
              refine lv_aload_n B.1 B.2.1 dX6_readUse_175 rfl (lv_at hl 3 rfl) ?_
              refine lv_aload_n B.1 B.2.1 dX6_readUse_176 rfl (lv_at hl 1 rfl) ?_
              obtain ⟨w210, e211⟩ : ∃ v, J195 a_this 7 = v := ⟨_, rfl⟩
              refine c_getl (k := 7) pk_X6 B hM t113 kd7 rfl (by decide) fl_X6_54 dX6_readUse_177 e211 ?_
              refine q_l2i B dX6_readUse_180 (fun x212 ix212 => ?_)
              unfold inr at ix212
              refine c_puti (k := 8) pk_X10 B hM hJJ53_0 kd9 rfl (by decide) fl_X6_277 (Or.inl rfl) dX6_readUse_181 rfl rfl rfl (show (-2147483648 : Int) ≤ x212 from by omega) (show x212 ≤ (2147483647 : Int) from by omega) (fun I213 H locs hu214 hM => ?_)
              have e215 : I213 v53_3 8 = x212 := w2_at hu214
              replace hF : Fr mo_X6_readUse [] T N I J R T_53 N_53 I213 J195 R_53 := hF.wi hu214 (Fr_c hF hJJ53_0 rfl)
              refine lv_aload_n B.1 B.2.1 dX6_readUse_184 rfl (lv_at hl 1 rfl) ?_
              have e216 : I207 a_this 5 = x200 := (w2_ne hu208 (Or.inl (tne t113 hJJ53_0 (by decide)))).trans e201
              have e217 : I213 a_this 5 = x200 := (w2_ne hu214 (Or.inl (tne t113 hJJ53_0 (by decide)))).trans e216
              have e218 : I207 a_this 6 = x202 := (w2_ne hu208 (Or.inl (tne t113 hJJ53_0 (by decide)))).trans e203
              have e219 : I213 a_this 6 = x202 := (w2_ne hu214 (Or.inl (tne t113 hJJ53_0 (by decide)))).trans e218
              have hv220 : (TKz g_S g_n) ∧ (I213 a_this 5 ≤ g_n) := by first | omega | exact ⟨by first | omega | assumption | exact trivial, by first | omega | assumption | exact trivial⟩
              refine z_callv hM hA (c_runV (n := 0) (as := []) (rest := []) B hX hA hM hl.1 t113 kd7 rfl (k_X6_advance l D dA eA L_53 T_53 N_53 I213 J195 R_53 a_this t113 g_t g_s g_S g_n (show R_53 a_this 3 = g_t + 1 from e115) (show T_53 g_t = 3 from t186) (show R_53 g_t 0 = g_s + 1 from e116) (show T_53 g_s = 62 from t187) (show I213 g_s = g_S from ((Fr.irow hF p_3 (by decide) nm0 (by decide)).trans p_4)) hv220.1 hv220.2 (show g_S (I213 a_this 5).toNat = I213 a_this 6 from by rw [e217, e219]; first | assumption | omega) _ _) ml_X6_87 nm_X6_advance ⟨rfl, rfl⟩ ⟨Nat.le_of_ble_eq_true rfl, Nat.le_of_ble_eq_true rfl⟩ dX6_readUse_185 rfl rfl (Nat.le_of_ble_eq_true rfl) ⟨by show zc53 + 0 ≤ 4; omega, by show zs53 + 0 ≤ 31; omega⟩) (fun L223 T224 N225 I226 J227 R228 dz229 dl230 H locs hp221 hMn => ?_)
              obtain ⟨yL223, yT224, yN225, yR228, hFc231, hp221a⟩ := hp221
              obtain rfl := yL223.symm; obtain rfl := yT224.symm; obtain rfl := yN225.symm; obtain rfl := yR228.symm
              replace hF : Fr mo_X6_readUse [] T N I J R T_53 N_53 I226 J227 R_53 := hF.trans hFc231 (by decide) e20
              have hM := hMn
              clear hMn
              replace hp221a : I226 a_this 5 ≤ g_n ∧ g_S (I226 a_this 5).toNat = I226 a_this 6 ∧ (((I213 a_this 6 = 0 ∨ I213 a_this 6 = 1) ∧ I226 a_this 5 = I213 a_this 5) ∨ (I226 a_this 5 = I213 a_this 5 + 1)) := hp221a
              obtain ⟨hp221a_0, hp221a_1, hp221a_2⟩ := hp221a
              obtain ⟨x232, e233⟩ : ∃ v, I226 a_this 5 = v := ⟨_, rfl⟩
              obtain ⟨x234, e235⟩ : ∃ v, I226 a_this 6 = v := ⟨_, rfl⟩
              have nz236 : g_S (x232).toNat = x234 := by have h9 := hp221a_1; rw [e233, e235] at h9; exact h9
              have e237 : I194 a_this 1 = I a_this 1 := (hFc199.i t113 (by decide) nm0 rfl).trans hJJ143_3
              have e238 : I207 a_this 1 = I a_this 1 := (w2_ne hu208 (Or.inl (tne t113 hJJ53_0 (by decide)))).trans e237
              have e239 : I213 a_this 1 = I a_this 1 := (w2_ne hu214 (Or.inl (tne t113 hJJ53_0 (by decide)))).trans e238
              have e240 : I226 a_this 1 = I a_this 1 := (hFc231.i t113 (by decide) nm0 rfl).trans e239
              have hv241 : (I a_this 5 + 1 ≤ I226 a_this 5) ∧ (I226 a_this 5 ≤ g_n) ∧ (I226 a_this 1 = I a_this 1) := by first | omega | exact ⟨by first | omega | assumption | exact trivial, by first | omega | assumption | exact trivial, by first | omega | assumption | exact trivial⟩
              exact JJ188 I226 J227 _ _ ls hM hF (lv_sub hl [0, 1, 2, 3] rfl) hv241.1 hv241.2.1 (by rw [e233, e235]; first | assumption | omega) hv241.2.2
            · refine lv_aload_n B.1 B.2.1 dX6_readUse_164 rfl (lv_at hl 1 rfl) ?_
              refine q_con B dX6_readUse_165 ?_
              have hv242 : ((-2147483648 : Int) ≤ 2 ∧ (2 : Int) ≤ 2147483647) ∧ ((2 : Int) ≠ 0) := by first | omega | exact ⟨by first | omega | assumption | exact trivial, by first | omega | assumption | exact trivial⟩
              refine z_calli hM hA (c_runV (n := 1) (as := [.int (II 2)]) (rest := []) B hX hA hM hl.1 t113 kd7 rfl (k_X6_wrong l D dA eA L_53 T_53 N_53 I194 J195 R_53 a_this t113 (2) hv242.1 hv242.2 _ _) ml_X6_84 nm_X6_wrong ⟨rfl, rfl⟩ ⟨Nat.le_of_ble_eq_true rfl, Nat.le_of_ble_eq_true rfl⟩ dX6_readUse_166 rfl rfl (Nat.le_of_ble_eq_true rfl) ⟨by show zc53 + 0 ≤ 4; omega, by show zs53 + 0 ≤ 31; omega⟩) (fun x244 ix244 L245 T246 N247 I248 J249 R250 dz251 dl252 H locs hp243 hMn => ?_)
              obtain ⟨yL245, yT246, yN247, yJ249, yR250, hFc253, hp243a⟩ := hp243
              obtain rfl := yL245.symm; obtain rfl := yT246.symm; obtain rfl := yN247.symm; obtain rfl := yJ249.symm; obtain rfl := yR250.symm
              replace hF : Fr mo_X6_readUse [] T N I J R T_53 N_53 I248 J195 R_53 := hF.trans hFc253 (by decide) e20
              have hM := hMn
              clear hMn
              replace hp243a : (0 : Int) ≤ x244 ∧ x244 ≤ 1 ∧ (x244 = 0 ∧ I248 a_this 1 ≠ 0) := hp243a
              obtain ⟨hp243a_0, hp243a_1, hp243a_2⟩ := hp243a
              obtain ⟨hp243a_2_0, hp243a_2_1⟩ := hp243a_2
              have e254 : I194 a_this 1 = I a_this 1 := (hFc199.i t113 (by decide) nm0 rfl).trans hJJ143_3
              obtain ⟨x255, e256⟩ : ∃ v, I248 a_this 1 = v := ⟨_, rfl⟩
              have e257 : I248 a_this 5 = x200 := (hFc253.i t113 (by decide) nm0 rfl).trans e201
              have e258 : I248 a_this 6 = x202 := (hFc253.i t113 (by decide) nm0 rfl).trans e203
              refine g_zret B hM dX6_readUse_169 ⟨by show zc53 ≤ 4; omega, by show zs53 ≤ 31; omega⟩ (by omega) (by omega) ?_
              rw [← hPST]
              exact ⟨x244, rfl, by omega, hF, by omega, by omega, by first | omega | assumption | exact trivial, by show g_S (I248 a_this 5).toNat = I248 a_this 6; rw [e257, e258]; first | assumption | omega, by first | omega | assumption | exact trivial, by first | omega | assumption | exact trivial, by first | omega | assumption | exact trivial, by first | omega | assumption | exact trivial⟩
        refine q_cne (tgt := 143) B dX6_readUse_99 (by decide) (by unfold inr; omega) (by unfold inr; omega) (fun c259 => ?_) (fun c259 => ?_)
        · have hv260 : (I a_this 5 + 1 ≤ I_93 a_this 5) ∧ (I_93 a_this 5 ≤ g_n) ∧ (I_93 a_this 1 = I a_this 1) := by first | omega | exact ⟨by first | omega | assumption | exact trivial, by first | omega | assumption | exact trivial, by first | omega | assumption | exact trivial⟩
          exact JJ143 I_93 J_93 _ _ ls hM hF (lv_sub hl [0, 1, 2, 3] rfl) hv260.1 hv260.2.1 (by rw [e119, e121]; first | assumption | omega) hv260.2.2
        · refine lv_aload_n B.1 B.2.1 dX6_readUse_102 rfl (lv_at hl 1 rfl) ?_
          have t261 : T_53 g_t = 3 := hF.tt p_1 (by decide) nm0
          have t262 : T_53 g_s = 62 := hF.tt p_3 (by decide) nm0
          have hv263 : (TKz g_S g_n) ∧ (I_93 a_this 5 ≤ g_n) := by first | omega | exact ⟨by first | omega | assumption | exact trivial, by first | omega | assumption | exact trivial⟩
          refine z_callv hM hA (c_runV (n := 0) (as := []) (rest := []) B hX hA hM hl.1 t113 kd7 rfl (k_X6_advance l D dA eA L_53 T_53 N_53 I_93 J_93 R_53 a_this t113 g_t g_s g_S g_n (show R_53 a_this 3 = g_t + 1 from e115) (show T_53 g_t = 3 from t261) (show R_53 g_t 0 = g_s + 1 from e116) (show T_53 g_s = 62 from t262) (show I_93 g_s = g_S from ((Fr.irow hF p_3 (by decide) nm0 (by decide)).trans p_4)) hv263.1 hv263.2 (show g_S (I_93 a_this 5).toNat = I_93 a_this 6 from by rw [e119, e121]; first | assumption | omega) _ _) ml_X6_87 nm_X6_advance ⟨rfl, rfl⟩ ⟨Nat.le_of_ble_eq_true rfl, Nat.le_of_ble_eq_true rfl⟩ dX6_readUse_103 rfl rfl (Nat.le_of_ble_eq_true rfl) ⟨by show zc53 + 0 ≤ 4; omega, by show zs53 + 0 ≤ 31; omega⟩) (fun L266 T267 N268 I269 J270 R271 dz272 dl273 H locs hp264 hMn => ?_)
          obtain ⟨yL266, yT267, yN268, yR271, hFc274, hp264a⟩ := hp264
          obtain rfl := yL266.symm; obtain rfl := yT267.symm; obtain rfl := yN268.symm; obtain rfl := yR271.symm
          replace hF : Fr mo_X6_readUse [] T N I J R T_53 N_53 I269 J270 R_53 := hF.trans hFc274 (by decide) e20
          have hM := hMn
          clear hMn
          replace hp264a : I269 a_this 5 ≤ g_n ∧ g_S (I269 a_this 5).toNat = I269 a_this 6 ∧ (((I_93 a_this 6 = 0 ∨ I_93 a_this 6 = 1) ∧ I269 a_this 5 = I_93 a_this 5) ∨ (I269 a_this 5 = I_93 a_this 5 + 1)) := hp264a
          obtain ⟨hp264a_0, hp264a_1, hp264a_2⟩ := hp264a
          obtain ⟨x275, e276⟩ : ∃ v, I269 a_this 5 = v := ⟨_, rfl⟩
          obtain ⟨x277, e278⟩ : ∃ v, I269 a_this 6 = v := ⟨_, rfl⟩
          have nz279 : g_S (x275).toNat = x277 := by have h9 := hp264a_1; rw [e276, e278] at h9; exact h9
          refine lv_aload_n B.1 B.2.1 dX6_readUse_106 rfl (lv_at hl 1 rfl) ?_
          have r280 : (-2147483648 : Int) ≤ x277 ∧ x277 ≤ 2147483647 := by rw [← e278]; exact g7_6 hM.2.2.2.2.2.2.1 t113
          refine c_geti (k := 6) pk_X6 B hM t113 kd7 rfl (by decide) fl_X6_47 dX6_readUse_107 e278 ?_
          refine q_con B dX6_readUse_110 ?_
          refine q_ceq (tgt := 120) B dX6_readUse_111 (by decide) (by unfold inr; omega) (by unfold inr; omega) (fun c281 => ?_) (fun c281 => ?_)
          · refine lv_aload_n B.1 B.2.1 dX6_readUse_120 rfl (lv_at hl 3 rfl) ?_
            refine lv_aload_n B.1 B.2.1 dX6_readUse_121 rfl (lv_at hl 1 rfl) ?_
            refine q_con B dX6_readUse_122 ?_
            have hv282 : ((-2147483648 : Int) ≤ 1 ∧ (1 : Int) ≤ 2147483647) ∧ (1 ≤ (1 : Int)) := by first | omega | exact ⟨by first | omega | assumption | exact trivial, by first | omega | assumption | exact trivial⟩
            refine z_calli hM hA (c_runV (n := 1) (as := [.int (II 1)]) (rest := [.ref v53_3]) B hX hA hM hl.1 t113 kd7 rfl (k_X6_readReference l D dA eA L_53 T_53 N_53 I269 J270 R_53 a_this t113 (1) hv282.1 hv282.2 _ _) ml_X6_104 nm_X6_readReference ⟨rfl, rfl⟩ ⟨Nat.le_of_ble_eq_true rfl, Nat.le_of_ble_eq_true rfl⟩ dX6_readUse_123 rfl rfl (Nat.le_of_ble_eq_true rfl) ⟨by show zc53 + 0 ≤ 4; omega, by show zs53 + 0 ≤ 31; omega⟩) (fun x284 ix284 L285 T286 N287 I288 J289 R290 dz291 dl292 H locs hp283 hMn => ?_)
            obtain ⟨yL285, yT286, yN287, yJ289, yR290, hFc293, hp283a⟩ := hp283
            obtain rfl := yL285.symm; obtain rfl := yT286.symm; obtain rfl := yN287.symm; obtain rfl := yJ289.symm; obtain rfl := yR290.symm
            replace hF : Fr mo_X6_readUse [] T N I J R T_53 N_53 I288 J270 R_53 := hF.trans hFc293 (by decide) e20
            have hM := hMn
            clear hMn
            replace hp283a : ((x284 = -1 ∧ I288 a_this 1 ≠ 0) ∨ (0 ≤ x284 ∧ x284 ≤ 99 ∧ I288 a_this 1 = I269 a_this 1)) := hp283a
            have e294 : I269 a_this 1 = I a_this 1 := (hFc274.i t113 (by decide) nm0 rfl).trans hJJ93_3
            obtain ⟨x295, e296⟩ : ∃ v, I288 a_this 1 = v := ⟨_, rfl⟩
            refine c_puti (k := 6) pk_X10 B hM hJJ53_0 kd9 rfl (by decide) fl_X6_270 (Or.inl rfl) dX6_readUse_126 rfl rfl rfl (show (-2147483648 : Int) ≤ x284 from by omega) (show x284 ≤ (2147483647 : Int) from by omega) (fun I297 H locs hu298 hM => ?_)
            have e299 : I297 v53_3 6 = x284 := w2_at hu298
            replace hF : Fr mo_X6_readUse [] T N I J R T_53 N_53 I297 J270 R_53 := hF.wi hu298 (Fr_c hF hJJ53_0 rfl)
            refine lv_aload_n B.1 B.2.1 dX6_readUse_129 rfl (lv_at hl 3 rfl) ?_
            refine c_geti (k := 6) pk_X10 B hM hJJ53_0 kd9 rfl (by decide) fl_X6_270 dX6_readUse_130 e299 ?_
            refine q_con B dX6_readUse_133 ?_
            refine q_cne (tgt := 139) B dX6_readUse_134 (by decide) (by unfold inr; omega) (by unfold inr; omega) (fun c300 => ?_) (fun c300 => ?_)
            · refine lv_aload_n B.1 B.2.1 dX6_readUse_139 rfl (lv_at hl 1 rfl) ?_
              have e301 : I288 a_this 5 = x275 := (hFc293.i t113 (by decide) nm0 rfl).trans e276
              have e302 : I297 a_this 5 = x275 := (w2_ne hu298 (Or.inl (tne t113 hJJ53_0 (by decide)))).trans e301
              have e303 : I288 a_this 6 = x277 := (hFc293.i t113 (by decide) nm0 rfl).trans e278
              have e304 : I297 a_this 6 = x277 := (w2_ne hu298 (Or.inl (tne t113 hJJ53_0 (by decide)))).trans e303
              have hv305 : (TKz g_S g_n) ∧ (I297 a_this 5 ≤ g_n) := by first | omega | exact ⟨by first | omega | assumption | exact trivial, by first | omega | assumption | exact trivial⟩
              refine z_callv hM hA (c_runV (n := 0) (as := []) (rest := []) B hX hA hM hl.1 t113 kd7 rfl (k_X6_advance l D dA eA L_53 T_53 N_53 I297 J270 R_53 a_this t113 g_t g_s g_S g_n (show R_53 a_this 3 = g_t + 1 from e115) (show T_53 g_t = 3 from t261) (show R_53 g_t 0 = g_s + 1 from e116) (show T_53 g_s = 62 from t262) (show I297 g_s = g_S from ((Fr.irow hF p_3 (by decide) nm0 (by decide)).trans p_4)) hv305.1 hv305.2 (show g_S (I297 a_this 5).toNat = I297 a_this 6 from by rw [e302, e304]; first | assumption | omega) _ _) ml_X6_87 nm_X6_advance ⟨rfl, rfl⟩ ⟨Nat.le_of_ble_eq_true rfl, Nat.le_of_ble_eq_true rfl⟩ dX6_readUse_140 rfl rfl (Nat.le_of_ble_eq_true rfl) ⟨by show zc53 + 0 ≤ 4; omega, by show zs53 + 0 ≤ 31; omega⟩) (fun L308 T309 N310 I311 J312 R313 dz314 dl315 H locs hp306 hMn => ?_)
              obtain ⟨yL308, yT309, yN310, yR313, hFc316, hp306a⟩ := hp306
              obtain rfl := yL308.symm; obtain rfl := yT309.symm; obtain rfl := yN310.symm; obtain rfl := yR313.symm
              replace hF : Fr mo_X6_readUse [] T N I J R T_53 N_53 I311 J312 R_53 := hF.trans hFc316 (by decide) e20
              have hM := hMn
              clear hMn
              replace hp306a : I311 a_this 5 ≤ g_n ∧ g_S (I311 a_this 5).toNat = I311 a_this 6 ∧ (((I297 a_this 6 = 0 ∨ I297 a_this 6 = 1) ∧ I311 a_this 5 = I297 a_this 5) ∨ (I311 a_this 5 = I297 a_this 5 + 1)) := hp306a
              obtain ⟨hp306a_0, hp306a_1, hp306a_2⟩ := hp306a
              obtain ⟨x317, e318⟩ : ∃ v, I311 a_this 5 = v := ⟨_, rfl⟩
              obtain ⟨x319, e320⟩ : ∃ v, I311 a_this 6 = v := ⟨_, rfl⟩
              have nz321 : g_S (x317).toNat = x319 := by have h9 := hp306a_1; rw [e318, e320] at h9; exact h9
              have e322 : I297 a_this 1 = x295 := (w2_ne hu298 (Or.inl (tne t113 hJJ53_0 (by decide)))).trans e296
              have e323 : I311 a_this 1 = x295 := (hFc316.i t113 (by decide) nm0 rfl).trans e322
              have hv324 : (I a_this 5 + 1 ≤ I311 a_this 5) ∧ (I311 a_this 5 ≤ g_n) ∧ (I311 a_this 1 = I a_this 1) := by first | omega | exact ⟨by first | omega | assumption | exact trivial, by first | omega | assumption | exact trivial, by first | omega | assumption | exact trivial⟩
              exact JJ143 I311 J312 _ _ ls hM hF (lv_sub hl [0, 1, 2, 3] rfl) hv324.1 hv324.2.1 (by rw [e318, e320]; first | assumption | omega) hv324.2.2
            · refine q_con B dX6_readUse_137 ?_
              have e325 : I288 a_this 5 = x275 := (hFc293.i t113 (by decide) nm0 rfl).trans e276
              have e326 : I297 a_this 5 = x275 := (w2_ne hu298 (Or.inl (tne t113 hJJ53_0 (by decide)))).trans e325
              have e327 : I288 a_this 6 = x277 := (hFc293.i t113 (by decide) nm0 rfl).trans e278
              have e328 : I297 a_this 6 = x277 := (w2_ne hu298 (Or.inl (tne t113 hJJ53_0 (by decide)))).trans e327
              have e329 : I297 a_this 1 = x295 := (w2_ne hu298 (Or.inl (tne t113 hJJ53_0 (by decide)))).trans e296
              refine g_zret B hM dX6_readUse_138 ⟨by show zc53 ≤ 4; omega, by show zs53 ≤ 31; omega⟩ (by omega) (by omega) ?_
              rw [← hPST]
              exact ⟨(0), rfl, by omega, hF, by omega, by omega, by first | omega | assumption | exact trivial, by show g_S (I297 a_this 5).toNat = I297 a_this 6; rw [e326, e328]; first | assumption | omega, by first | omega | assumption | exact trivial, by first | omega | assumption | exact trivial, by first | omega | assumption | exact trivial, by first | omega | assumption | exact trivial⟩
          · refine lv_aload_n B.1 B.2.1 dX6_readUse_114 rfl (lv_at hl 1 rfl) ?_
            refine q_con B dX6_readUse_115 ?_
            have hv330 : ((-2147483648 : Int) ≤ 2 ∧ (2 : Int) ≤ 2147483647) ∧ ((2 : Int) ≠ 0) := by first | omega | exact ⟨by first | omega | assumption | exact trivial, by first | omega | assumption | exact trivial⟩
            refine z_calli hM hA (c_runV (n := 1) (as := [.int (II 2)]) (rest := []) B hX hA hM hl.1 t113 kd7 rfl (k_X6_wrong l D dA eA L_53 T_53 N_53 I269 J270 R_53 a_this t113 (2) hv330.1 hv330.2 _ _) ml_X6_84 nm_X6_wrong ⟨rfl, rfl⟩ ⟨Nat.le_of_ble_eq_true rfl, Nat.le_of_ble_eq_true rfl⟩ dX6_readUse_116 rfl rfl (Nat.le_of_ble_eq_true rfl) ⟨by show zc53 + 0 ≤ 4; omega, by show zs53 + 0 ≤ 31; omega⟩) (fun x332 ix332 L333 T334 N335 I336 J337 R338 dz339 dl340 H locs hp331 hMn => ?_)
            obtain ⟨yL333, yT334, yN335, yJ337, yR338, hFc341, hp331a⟩ := hp331
            obtain rfl := yL333.symm; obtain rfl := yT334.symm; obtain rfl := yN335.symm; obtain rfl := yJ337.symm; obtain rfl := yR338.symm
            replace hF : Fr mo_X6_readUse [] T N I J R T_53 N_53 I336 J270 R_53 := hF.trans hFc341 (by decide) e20
            have hM := hMn
            clear hMn
            replace hp331a : (0 : Int) ≤ x332 ∧ x332 ≤ 1 ∧ (x332 = 0 ∧ I336 a_this 1 ≠ 0) := hp331a
            obtain ⟨hp331a_0, hp331a_1, hp331a_2⟩ := hp331a
            obtain ⟨hp331a_2_0, hp331a_2_1⟩ := hp331a_2
            have e342 : I269 a_this 1 = I a_this 1 := (hFc274.i t113 (by decide) nm0 rfl).trans hJJ93_3
            obtain ⟨x343, e344⟩ : ∃ v, I336 a_this 1 = v := ⟨_, rfl⟩
            have e345 : I336 a_this 5 = x275 := (hFc341.i t113 (by decide) nm0 rfl).trans e276
            have e346 : I336 a_this 6 = x277 := (hFc341.i t113 (by decide) nm0 rfl).trans e278
            refine g_zret B hM dX6_readUse_119 ⟨by show zc53 ≤ 4; omega, by show zs53 ≤ 31; omega⟩ (by omega) (by omega) ?_
            rw [← hPST]
            exact ⟨x332, rfl, by omega, hF, by omega, by omega, by first | omega | assumption | exact trivial, by show g_S (I336 a_this 5).toNat = I336 a_this 6; rw [e345, e346]; first | assumption | omega, by first | omega | assumption | exact trivial, by first | omega | assumption | exact trivial, by first | omega | assumption | exact trivial, by first | omega | assumption | exact trivial⟩
      refine q_ceq (tgt := 71) B dX6_readUse_59 (by decide) (by unfold inr; omega) (by unfold inr; omega) (fun c347 => ?_) (fun c347 => ?_)
      · refine lv_aload_n B.1 B.2.1 dX6_readUse_71 rfl (lv_at hl 3 rfl) ?_
        refine lv_aload_n B.1 B.2.1 dX6_readUse_72 rfl (lv_at hl 1 rfl) ?_
        refine c_geti (k := 6) pk_X6 B hM t113 kd7 rfl (by decide) fl_X6_47 dX6_readUse_73 e111 ?_
        refine q_bip B dX6_readUse_76 (by decide) ?_
        refine q_cne (tgt := 85) B dX6_readUse_78 (by decide) (by unfold inr; omega) (by unfold inr; omega) (fun c348 => ?_) (fun c348 => ?_)
        · refine q_con B dX6_readUse_85 ?_
          refine c_puti (k := 5) pk_X10 B hM hJJ53_0 kd9 rfl (by decide) fl_X6_267 (Or.inl rfl) dX6_readUse_86 rfl rfl rfl (show (-2147483648 : Int) ≤ 1 from by omega) (show 1 ≤ (2147483647 : Int) from by omega) (fun I349 H locs hu350 hM => ?_)
          have e351 : I349 v53_3 5 = 1 := w2_at hu350
          replace hF : Fr mo_X6_readUse [] T N I J R T_53 N_53 I349 J_53 R_53 := hF.wi hu350 (Fr_c hF hJJ53_0 rfl)
          refine lv_aload_n B.1 B.2.1 dX6_readUse_89 rfl (lv_at hl 1 rfl) ?_
          have e352 : R_53 a_this 3 = g_t + 1 := (hF.r t_this (by decide) nm0 rfl).trans p_0
          have e353 : R_53 g_t 0 = g_s + 1 := (hF.r p_1 (by decide) nm0 rfl).trans p_2
          have t354 : T_53 g_t = 3 := hF.tt p_1 (by decide) nm0
          have t355 : T_53 g_s = 62 := hF.tt p_3 (by decide) nm0
          have e356 : I349 a_this 5 = x108 := (w2_ne hu350 (Or.inl (tne t113 hJJ53_0 (by decide)))).trans e109
          have e357 : I349 a_this 6 = x110 := (w2_ne hu350 (Or.inl (tne t113 hJJ53_0 (by decide)))).trans e111
          have hv358 : (TKz g_S g_n) ∧ (I349 a_this 5 ≤ g_n) := by first | omega | exact ⟨by first | omega | assumption | exact trivial, by first | omega | assumption | exact trivial⟩
          refine z_callv hM hA (c_runV (n := 0) (as := []) (rest := []) B hX hA hM hl.1 t113 kd7 rfl (k_X6_advance l D dA eA L_53 T_53 N_53 I349 J_53 R_53 a_this t113 g_t g_s g_S g_n (show R_53 a_this 3 = g_t + 1 from e352) (show T_53 g_t = 3 from t354) (show R_53 g_t 0 = g_s + 1 from e353) (show T_53 g_s = 62 from t355) (show I349 g_s = g_S from ((Fr.irow hF p_3 (by decide) nm0 (by decide)).trans p_4)) hv358.1 hv358.2 (show g_S (I349 a_this 5).toNat = I349 a_this 6 from by rw [e356, e357]; first | assumption | omega) _ _) ml_X6_87 nm_X6_advance ⟨rfl, rfl⟩ ⟨Nat.le_of_ble_eq_true rfl, Nat.le_of_ble_eq_true rfl⟩ dX6_readUse_90 rfl rfl (Nat.le_of_ble_eq_true rfl) ⟨by show zc53 + 0 ≤ 4; omega, by show zs53 + 0 ≤ 31; omega⟩) (fun L361 T362 N363 I364 J365 R366 dz367 dl368 H locs hp359 hMn => ?_)
          obtain ⟨yL361, yT362, yN363, yR366, hFc369, hp359a⟩ := hp359
          obtain rfl := yL361.symm; obtain rfl := yT362.symm; obtain rfl := yN363.symm; obtain rfl := yR366.symm
          replace hF : Fr mo_X6_readUse [] T N I J R T_53 N_53 I364 J365 R_53 := hF.trans hFc369 (by decide) e20
          have hM := hMn
          clear hMn
          replace hp359a : I364 a_this 5 ≤ g_n ∧ g_S (I364 a_this 5).toNat = I364 a_this 6 ∧ (((I349 a_this 6 = 0 ∨ I349 a_this 6 = 1) ∧ I364 a_this 5 = I349 a_this 5) ∨ (I364 a_this 5 = I349 a_this 5 + 1)) := hp359a
          obtain ⟨hp359a_0, hp359a_1, hp359a_2⟩ := hp359a
          obtain ⟨x370, e371⟩ : ∃ v, I364 a_this 5 = v := ⟨_, rfl⟩
          obtain ⟨x372, e373⟩ : ∃ v, I364 a_this 6 = v := ⟨_, rfl⟩
          have nz374 : g_S (x370).toNat = x372 := by have h9 := hp359a_1; rw [e371, e373] at h9; exact h9
          have e375 : I349 a_this 1 = I a_this 1 := (w2_ne hu350 (Or.inl (tne t113 hJJ53_0 (by decide)))).trans hJJ53_6
          have e376 : I364 a_this 1 = I a_this 1 := (hFc369.i t113 (by decide) nm0 rfl).trans e375
          have hv377 : (I a_this 5 + 1 ≤ I364 a_this 5) ∧ (I364 a_this 5 ≤ g_n) ∧ (I364 a_this 1 = I a_this 1) := by first | omega | exact ⟨by first | omega | assumption | exact trivial, by first | omega | assumption | exact trivial, by first | omega | assumption | exact trivial⟩
          exact JJ93 I364 J365 _ _ ls hM hF (lv_sub hl [0, 1, 2, 3] rfl) hv377.1 hv377.2.1 (by rw [e371, e373]; first | assumption | omega) hv377.2.2
        · refine q_con B dX6_readUse_81 ?_
          refine lv_goto (tgt := 86) B.1 B.2.1 dX6_readUse_82 (by decide) ?_
          refine c_puti (k := 5) pk_X10 B hM hJJ53_0 kd9 rfl (by decide) fl_X6_267 (Or.inl rfl) dX6_readUse_86 rfl rfl rfl (show (-2147483648 : Int) ≤ 0 from by omega) (show 0 ≤ (2147483647 : Int) from by omega) (fun I378 H locs hu379 hM => ?_)
          have e380 : I378 v53_3 5 = 0 := w2_at hu379
          replace hF : Fr mo_X6_readUse [] T N I J R T_53 N_53 I378 J_53 R_53 := hF.wi hu379 (Fr_c hF hJJ53_0 rfl)
          refine lv_aload_n B.1 B.2.1 dX6_readUse_89 rfl (lv_at hl 1 rfl) ?_
          have e381 : R_53 a_this 3 = g_t + 1 := (hF.r t_this (by decide) nm0 rfl).trans p_0
          have e382 : R_53 g_t 0 = g_s + 1 := (hF.r p_1 (by decide) nm0 rfl).trans p_2
          have t383 : T_53 g_t = 3 := hF.tt p_1 (by decide) nm0
          have t384 : T_53 g_s = 62 := hF.tt p_3 (by decide) nm0
          have e385 : I378 a_this 5 = x108 := (w2_ne hu379 (Or.inl (tne t113 hJJ53_0 (by decide)))).trans e109
          have e386 : I378 a_this 6 = x110 := (w2_ne hu379 (Or.inl (tne t113 hJJ53_0 (by decide)))).trans e111
          have hv387 : (TKz g_S g_n) ∧ (I378 a_this 5 ≤ g_n) := by first | omega | exact ⟨by first | omega | assumption | exact trivial, by first | omega | assumption | exact trivial⟩
          refine z_callv hM hA (c_runV (n := 0) (as := []) (rest := []) B hX hA hM hl.1 t113 kd7 rfl (k_X6_advance l D dA eA L_53 T_53 N_53 I378 J_53 R_53 a_this t113 g_t g_s g_S g_n (show R_53 a_this 3 = g_t + 1 from e381) (show T_53 g_t = 3 from t383) (show R_53 g_t 0 = g_s + 1 from e382) (show T_53 g_s = 62 from t384) (show I378 g_s = g_S from ((Fr.irow hF p_3 (by decide) nm0 (by decide)).trans p_4)) hv387.1 hv387.2 (show g_S (I378 a_this 5).toNat = I378 a_this 6 from by rw [e385, e386]; first | assumption | omega) _ _) ml_X6_87 nm_X6_advance ⟨rfl, rfl⟩ ⟨Nat.le_of_ble_eq_true rfl, Nat.le_of_ble_eq_true rfl⟩ dX6_readUse_90 rfl rfl (Nat.le_of_ble_eq_true rfl) ⟨by show zc53 + 0 ≤ 4; omega, by show zs53 + 0 ≤ 31; omega⟩) (fun L390 T391 N392 I393 J394 R395 dz396 dl397 H locs hp388 hMn => ?_)
          obtain ⟨yL390, yT391, yN392, yR395, hFc398, hp388a⟩ := hp388
          obtain rfl := yL390.symm; obtain rfl := yT391.symm; obtain rfl := yN392.symm; obtain rfl := yR395.symm
          replace hF : Fr mo_X6_readUse [] T N I J R T_53 N_53 I393 J394 R_53 := hF.trans hFc398 (by decide) e20
          have hM := hMn
          clear hMn
          replace hp388a : I393 a_this 5 ≤ g_n ∧ g_S (I393 a_this 5).toNat = I393 a_this 6 ∧ (((I378 a_this 6 = 0 ∨ I378 a_this 6 = 1) ∧ I393 a_this 5 = I378 a_this 5) ∨ (I393 a_this 5 = I378 a_this 5 + 1)) := hp388a
          obtain ⟨hp388a_0, hp388a_1, hp388a_2⟩ := hp388a
          obtain ⟨x399, e400⟩ : ∃ v, I393 a_this 5 = v := ⟨_, rfl⟩
          obtain ⟨x401, e402⟩ : ∃ v, I393 a_this 6 = v := ⟨_, rfl⟩
          have nz403 : g_S (x399).toNat = x401 := by have h9 := hp388a_1; rw [e400, e402] at h9; exact h9
          have e404 : I378 a_this 1 = I a_this 1 := (w2_ne hu379 (Or.inl (tne t113 hJJ53_0 (by decide)))).trans hJJ53_6
          have e405 : I393 a_this 1 = I a_this 1 := (hFc398.i t113 (by decide) nm0 rfl).trans e404
          have hv406 : (I a_this 5 + 1 ≤ I393 a_this 5) ∧ (I393 a_this 5 ≤ g_n) ∧ (I393 a_this 1 = I a_this 1) := by first | omega | exact ⟨by first | omega | assumption | exact trivial, by first | omega | assumption | exact trivial, by first | omega | assumption | exact trivial⟩
          exact JJ93 I393 J394 _ _ ls hM hF (lv_sub hl [0, 1, 2, 3] rfl) hv406.1 hv406.2.1 (by rw [e400, e402]; first | assumption | omega) hv406.2.2
      · refine lv_aload_n B.1 B.2.1 dX6_readUse_62 rfl (lv_at hl 1 rfl) ?_
        refine c_geti (k := 6) pk_X6 B hM t113 kd7 rfl (by decide) fl_X6_47 dX6_readUse_63 e111 ?_
        refine q_bip B dX6_readUse_66 (by decide) ?_
        refine q_cne (tgt := 93) B dX6_readUse_68 (by decide) (by unfold inr; omega) (by unfold inr; omega) (fun c407 => ?_) (fun c407 => ?_)
        · have hv408 : (I a_this 5 + 1 ≤ I_53 a_this 5) ∧ (I_53 a_this 5 ≤ g_n) ∧ (I_53 a_this 1 = I a_this 1) := by first | omega | exact ⟨by first | omega | assumption | exact trivial, by first | omega | assumption | exact trivial, by first | omega | assumption | exact trivial⟩
          exact JJ93 I_53 J_53 _ _ ls hM hF (lv_sub hl [0, 1, 2, 3] rfl) hv408.1 hv408.2.1 (by rw [e109, e111]; first | assumption | omega) hv408.2.2
        · refine lv_aload_n B.1 B.2.1 dX6_readUse_71 rfl (lv_at hl 3 rfl) ?_
          refine lv_aload_n B.1 B.2.1 dX6_readUse_72 rfl (lv_at hl 1 rfl) ?_
          refine c_geti (k := 6) pk_X6 B hM t113 kd7 rfl (by decide) fl_X6_47 dX6_readUse_73 e111 ?_
          refine q_bip B dX6_readUse_76 (by decide) ?_
          refine q_cne (tgt := 85) B dX6_readUse_78 (by decide) (by unfold inr; omega) (by unfold inr; omega) (fun c409 => ?_) (fun c409 => ?_)
          · refine q_con B dX6_readUse_85 ?_
            refine c_puti (k := 5) pk_X10 B hM hJJ53_0 kd9 rfl (by decide) fl_X6_267 (Or.inl rfl) dX6_readUse_86 rfl rfl rfl (show (-2147483648 : Int) ≤ 1 from by omega) (show 1 ≤ (2147483647 : Int) from by omega) (fun I410 H locs hu411 hM => ?_)
            have e412 : I410 v53_3 5 = 1 := w2_at hu411
            replace hF : Fr mo_X6_readUse [] T N I J R T_53 N_53 I410 J_53 R_53 := hF.wi hu411 (Fr_c hF hJJ53_0 rfl)
            refine lv_aload_n B.1 B.2.1 dX6_readUse_89 rfl (lv_at hl 1 rfl) ?_
            have e413 : R_53 a_this 3 = g_t + 1 := (hF.r t_this (by decide) nm0 rfl).trans p_0
            have e414 : R_53 g_t 0 = g_s + 1 := (hF.r p_1 (by decide) nm0 rfl).trans p_2
            have t415 : T_53 g_t = 3 := hF.tt p_1 (by decide) nm0
            have t416 : T_53 g_s = 62 := hF.tt p_3 (by decide) nm0
            have e417 : I410 a_this 5 = x108 := (w2_ne hu411 (Or.inl (tne t113 hJJ53_0 (by decide)))).trans e109
            have e418 : I410 a_this 6 = x110 := (w2_ne hu411 (Or.inl (tne t113 hJJ53_0 (by decide)))).trans e111
            have hv419 : (TKz g_S g_n) ∧ (I410 a_this 5 ≤ g_n) := by first | omega | exact ⟨by first | omega | assumption | exact trivial, by first | omega | assumption | exact trivial⟩
            refine z_callv hM hA (c_runV (n := 0) (as := []) (rest := []) B hX hA hM hl.1 t113 kd7 rfl (k_X6_advance l D dA eA L_53 T_53 N_53 I410 J_53 R_53 a_this t113 g_t g_s g_S g_n (show R_53 a_this 3 = g_t + 1 from e413) (show T_53 g_t = 3 from t415) (show R_53 g_t 0 = g_s + 1 from e414) (show T_53 g_s = 62 from t416) (show I410 g_s = g_S from ((Fr.irow hF p_3 (by decide) nm0 (by decide)).trans p_4)) hv419.1 hv419.2 (show g_S (I410 a_this 5).toNat = I410 a_this 6 from by rw [e417, e418]; first | assumption | omega) _ _) ml_X6_87 nm_X6_advance ⟨rfl, rfl⟩ ⟨Nat.le_of_ble_eq_true rfl, Nat.le_of_ble_eq_true rfl⟩ dX6_readUse_90 rfl rfl (Nat.le_of_ble_eq_true rfl) ⟨by show zc53 + 0 ≤ 4; omega, by show zs53 + 0 ≤ 31; omega⟩) (fun L422 T423 N424 I425 J426 R427 dz428 dl429 H locs hp420 hMn => ?_)
            obtain ⟨yL422, yT423, yN424, yR427, hFc430, hp420a⟩ := hp420
            obtain rfl := yL422.symm; obtain rfl := yT423.symm; obtain rfl := yN424.symm; obtain rfl := yR427.symm
            replace hF : Fr mo_X6_readUse [] T N I J R T_53 N_53 I425 J426 R_53 := hF.trans hFc430 (by decide) e20
            have hM := hMn
            clear hMn
            replace hp420a : I425 a_this 5 ≤ g_n ∧ g_S (I425 a_this 5).toNat = I425 a_this 6 ∧ (((I410 a_this 6 = 0 ∨ I410 a_this 6 = 1) ∧ I425 a_this 5 = I410 a_this 5) ∨ (I425 a_this 5 = I410 a_this 5 + 1)) := hp420a
            obtain ⟨hp420a_0, hp420a_1, hp420a_2⟩ := hp420a
            obtain ⟨x431, e432⟩ : ∃ v, I425 a_this 5 = v := ⟨_, rfl⟩
            obtain ⟨x433, e434⟩ : ∃ v, I425 a_this 6 = v := ⟨_, rfl⟩
            have nz435 : g_S (x431).toNat = x433 := by have h9 := hp420a_1; rw [e432, e434] at h9; exact h9
            have e436 : I410 a_this 1 = I a_this 1 := (w2_ne hu411 (Or.inl (tne t113 hJJ53_0 (by decide)))).trans hJJ53_6
            have e437 : I425 a_this 1 = I a_this 1 := (hFc430.i t113 (by decide) nm0 rfl).trans e436
            have hv438 : (I a_this 5 + 1 ≤ I425 a_this 5) ∧ (I425 a_this 5 ≤ g_n) ∧ (I425 a_this 1 = I a_this 1) := by first | omega | exact ⟨by first | omega | assumption | exact trivial, by first | omega | assumption | exact trivial, by first | omega | assumption | exact trivial⟩
            exact JJ93 I425 J426 _ _ ls hM hF (lv_sub hl [0, 1, 2, 3] rfl) hv438.1 hv438.2.1 (by rw [e432, e434]; first | assumption | omega) hv438.2.2
          · refine q_con B dX6_readUse_81 ?_
            refine lv_goto (tgt := 86) B.1 B.2.1 dX6_readUse_82 (by decide) ?_
            refine c_puti (k := 5) pk_X10 B hM hJJ53_0 kd9 rfl (by decide) fl_X6_267 (Or.inl rfl) dX6_readUse_86 rfl rfl rfl (show (-2147483648 : Int) ≤ 0 from by omega) (show 0 ≤ (2147483647 : Int) from by omega) (fun I439 H locs hu440 hM => ?_)
            have e441 : I439 v53_3 5 = 0 := w2_at hu440
            replace hF : Fr mo_X6_readUse [] T N I J R T_53 N_53 I439 J_53 R_53 := hF.wi hu440 (Fr_c hF hJJ53_0 rfl)
            refine lv_aload_n B.1 B.2.1 dX6_readUse_89 rfl (lv_at hl 1 rfl) ?_
            have e442 : R_53 a_this 3 = g_t + 1 := (hF.r t_this (by decide) nm0 rfl).trans p_0
            have e443 : R_53 g_t 0 = g_s + 1 := (hF.r p_1 (by decide) nm0 rfl).trans p_2
            have t444 : T_53 g_t = 3 := hF.tt p_1 (by decide) nm0
            have t445 : T_53 g_s = 62 := hF.tt p_3 (by decide) nm0
            have e446 : I439 a_this 5 = x108 := (w2_ne hu440 (Or.inl (tne t113 hJJ53_0 (by decide)))).trans e109
            have e447 : I439 a_this 6 = x110 := (w2_ne hu440 (Or.inl (tne t113 hJJ53_0 (by decide)))).trans e111
            have hv448 : (TKz g_S g_n) ∧ (I439 a_this 5 ≤ g_n) := by first | omega | exact ⟨by first | omega | assumption | exact trivial, by first | omega | assumption | exact trivial⟩
            refine z_callv hM hA (c_runV (n := 0) (as := []) (rest := []) B hX hA hM hl.1 t113 kd7 rfl (k_X6_advance l D dA eA L_53 T_53 N_53 I439 J_53 R_53 a_this t113 g_t g_s g_S g_n (show R_53 a_this 3 = g_t + 1 from e442) (show T_53 g_t = 3 from t444) (show R_53 g_t 0 = g_s + 1 from e443) (show T_53 g_s = 62 from t445) (show I439 g_s = g_S from ((Fr.irow hF p_3 (by decide) nm0 (by decide)).trans p_4)) hv448.1 hv448.2 (show g_S (I439 a_this 5).toNat = I439 a_this 6 from by rw [e446, e447]; first | assumption | omega) _ _) ml_X6_87 nm_X6_advance ⟨rfl, rfl⟩ ⟨Nat.le_of_ble_eq_true rfl, Nat.le_of_ble_eq_true rfl⟩ dX6_readUse_90 rfl rfl (Nat.le_of_ble_eq_true rfl) ⟨by show zc53 + 0 ≤ 4; omega, by show zs53 + 0 ≤ 31; omega⟩) (fun L451 T452 N453 I454 J455 R456 dz457 dl458 H locs hp449 hMn => ?_)
            obtain ⟨yL451, yT452, yN453, yR456, hFc459, hp449a⟩ := hp449
            obtain rfl := yL451.symm; obtain rfl := yT452.symm; obtain rfl := yN453.symm; obtain rfl := yR456.symm
            replace hF : Fr mo_X6_readUse [] T N I J R T_53 N_53 I454 J455 R_53 := hF.trans hFc459 (by decide) e20
            have hM := hMn
            clear hMn
            replace hp449a : I454 a_this 5 ≤ g_n ∧ g_S (I454 a_this 5).toNat = I454 a_this 6 ∧ (((I439 a_this 6 = 0 ∨ I439 a_this 6 = 1) ∧ I454 a_this 5 = I439 a_this 5) ∨ (I454 a_this 5 = I439 a_this 5 + 1)) := hp449a
            obtain ⟨hp449a_0, hp449a_1, hp449a_2⟩ := hp449a
            obtain ⟨x460, e461⟩ : ∃ v, I454 a_this 5 = v := ⟨_, rfl⟩
            obtain ⟨x462, e463⟩ : ∃ v, I454 a_this 6 = v := ⟨_, rfl⟩
            have nz464 : g_S (x460).toNat = x462 := by have h9 := hp449a_1; rw [e461, e463] at h9; exact h9
            have e465 : I439 a_this 1 = I a_this 1 := (w2_ne hu440 (Or.inl (tne t113 hJJ53_0 (by decide)))).trans hJJ53_6
            have e466 : I454 a_this 1 = I a_this 1 := (hFc459.i t113 (by decide) nm0 rfl).trans e465
            have hv467 : (I a_this 5 + 1 ≤ I454 a_this 5) ∧ (I454 a_this 5 ≤ g_n) ∧ (I454 a_this 1 = I a_this 1) := by first | omega | exact ⟨by first | omega | assumption | exact trivial, by first | omega | assumption | exact trivial, by first | omega | assumption | exact trivial⟩
            exact JJ93 I454 J455 _ _ ls hM hF (lv_sub hl [0, 1, 2, 3] rfl) hv467.1 hv467.2.1 (by rw [e461, e463]; first | assumption | omega) hv467.2.2
    refine q_cne (tgt := 53) B dX6_readUse_40 (by decide) (by unfold inr; omega) (by unfold inr; omega) (fun c468 => ?_) (fun c468 => ?_)
    · have t469 : T66 b28 = 9 := hFc73.tt t54 (by decide) nm0
      have e470 : I43 a_this 1 = x25 := (hFc48.i t49 (by decide) (nm1 (tne t49 t35 (by decide))) rfl).trans e26
      have e471 : I68 a_this 1 = x25 := (hFc73.i t74 (by decide) nm0 rfl).trans e470
      have e472 : I96 a_this 1 = x25 := (hFc101.i t79 (by decide) nm0 rfl).trans e471
      have hv473 : (I a_this 5 + 1 ≤ I96 a_this 5) ∧ ((0 + 1 + dz71 : Int) ≤ 4) ∧ ((0 + 11 + dl72 : Int) ≤ 31) ∧ (I96 a_this 5 ≤ g_n) ∧ (I96 a_this 1 = I a_this 1) := by first | omega | exact ⟨by first | omega | assumption | exact trivial, by first | omega | assumption | exact trivial, by first | omega | assumption | exact trivial, by first | omega | assumption | exact trivial, by first | omega | assumption | exact trivial⟩
      exact JJ53 b28 L65 T66 N67 I96 J97 R70 (0 + 1 + dz71) (0 + 11 + dl72) _ _ ls hM hF (lv_sub hl [1, 2, 3, 0] rfl) t469 hv473.1 hv473.2.1 hv473.2.2.1 hv473.2.2.2.1 (by rw [e103, e105]; first | assumption | omega) hv473.2.2.2.2
    · refine lv_aload_n B.1 B.2.1 dX6_readUse_43 rfl (lv_at hl 2 rfl) ?_
      refine lv_aload_n B.1 B.2.1 dX6_readUse_44 rfl (lv_at hl 0 rfl) ?_
      have t474 : T66 b28 = 9 := hFc73.tt t54 (by decide) nm0
      have hv475 : (TKz g_S g_n) ∧ (I96 a_this 5 ≤ g_n) := by first | omega | exact ⟨by first | omega | assumption | exact trivial, by first | omega | assumption | exact trivial⟩
      refine g_calli hM hA (c_runV (n := 1) (as := [.ref b28]) (rest := []) B hX hA hM hl.1 t79 kd7 rfl (k_X6_readArgs l D dA eA L65 T66 N67 I96 J97 R70 a_this t79 b28 t474 g_t g_s g_S g_n (show R70 a_this 3 = g_t + 1 from e80) (show T66 g_t = 3 from t82) (show R70 g_t 0 = g_s + 1 from e81) (show T66 g_s = 62 from t83) (show I96 g_s = g_S from ((Fr.irow hF p_3 (by decide) nm0 (by decide)).trans p_4)) hv475.1 hv475.2 (show g_S (I96 a_this 5).toNat = I96 a_this 6 from by rw [e103, e105]; first | assumption | omega) _ _) ml_X6_263 nm_X6_readArgs ⟨rfl, rfl⟩ ⟨Nat.le_of_ble_eq_true rfl, Nat.le_of_ble_eq_true rfl⟩ dX6_readUse_45 rfl rfl (Nat.le_of_ble_eq_true rfl) ⟨by show 0 + 1 + dz71 + 2 ≤ 4; omega, by show 0 + 11 + dl72 + 8 ≤ 31; omega⟩) (fun x477 ix477 L478 T479 N480 I481 J482 R483 dz484 dl485 H locs hp476 hMn => ?_)
      obtain ⟨hFc486, hp476a⟩ := hp476
      have t487 : T66 a_spot = 10 := hF.tt t_spot (by decide) nm0
      have t488 : T66 b8 = 20 := hF.tt t10 (by decide) nm0
      replace hF : Fr mo_X6_readUse [] T N I J R T479 N480 I481 J482 R483 := hF.trans hFc486 (by decide) e20
      have hM := hMn
      clear hMn
      replace hp476a : (0 : Int) ≤ x477 ∧ x477 ≤ 1 ∧ (I481 a_this 5 ≤ g_n ∧ g_S (I481 a_this 5).toNat = I481 a_this 6 ∧ I96 a_this 5 ≤ I481 a_this 5 ∧ ((x477 = 0 ∧ I481 a_this 1 ≠ 0) ∨ (x477 = 1 ∧ I481 a_this 1 = I96 a_this 1 ∧ I96 a_this 5 + 0 ≤ I481 a_this 5)) ∧ dz484 ≤ 2 ∧ dl485 ≤ 8) := hp476a
      obtain ⟨hp476a_0, hp476a_1, hp476a_2⟩ := hp476a
      obtain ⟨hp476a_2_0, hp476a_2_1, hp476a_2_2, hp476a_2_3, hp476a_2_4, hp476a_2_5⟩ := hp476a_2
      obtain ⟨x489, e490⟩ : ∃ v, I481 a_this 5 = v := ⟨_, rfl⟩
      obtain ⟨x491, e492⟩ : ∃ v, I481 a_this 6 = v := ⟨_, rfl⟩
      have nz493 : g_S (x489).toNat = x491 := by have h9 := hp476a_2_1; rw [e490, e492] at h9; exact h9
      have e494 : I43 a_this 1 = x25 := (hFc48.i t49 (by decide) (nm1 (tne t49 t35 (by decide))) rfl).trans e26
      have e495 : I68 a_this 1 = x25 := (hFc73.i t74 (by decide) nm0 rfl).trans e494
      have e496 : I96 a_this 1 = x25 := (hFc101.i t79 (by decide) nm0 rfl).trans e495
      obtain ⟨x497, e498⟩ : ∃ v, I481 a_this 1 = v := ⟨_, rfl⟩
      refine q_ine (tgt := 53) B dX6_readUse_48 (by decide) (by unfold inr; omega) (fun c499 => ?_) (fun c499 => ?_)
      · have t500 : T479 b28 = 9 := hFc486.tt t474 (by decide) nm0
        have hv501 : (I a_this 5 + 1 ≤ I481 a_this 5) ∧ ((0 + 1 + dz71 + dz484 : Int) ≤ 4) ∧ ((0 + 11 + dl72 + dl485 : Int) ≤ 31) ∧ (I481 a_this 5 ≤ g_n) ∧ (I481 a_this 1 = I a_this 1) := by first | omega | exact ⟨by first | omega | assumption | exact trivial, by first | omega | assumption | exact trivial, by first | omega | assumption | exact trivial, by first | omega | assumption | exact trivial, by first | omega | assumption | exact trivial⟩
        exact JJ53 b28 L478 T479 N480 I481 J482 R483 (0 + 1 + dz71 + dz484) (0 + 11 + dl72 + dl485) _ _ ls hM hF (lv_sub hl [1, 2, 3, 0] rfl) t500 hv501.1 hv501.2.1 hv501.2.2.1 hv501.2.2.2.1 (by rw [e490, e492]; first | assumption | omega) hv501.2.2.2.2
      · refine q_con B dX6_readUse_51 ?_
        refine g_zret B hM dX6_readUse_52 ⟨by show 0 + 1 + dz71 + dz484 ≤ 4; omega, by show 0 + 11 + dl72 + dl485 ≤ 31; omega⟩ (by omega) (by omega) ?_
        rw [← hPST]
        exact ⟨(0), rfl, by omega, hF, by omega, by omega, by first | omega | assumption | exact trivial, by show g_S (I481 a_this 5).toNat = I481 a_this 6; rw [e490, e492]; first | assumption | omega, by first | omega | assumption | exact trivial, by first | omega | assumption | exact trivial, by first | omega | assumption | exact trivial, by first | omega | assumption | exact trivial⟩
  · refine q_con B dX6_readUse_10 ?_
    have e502 : I19 a_this 5 = x1 := (hFc24.i t_this (by decide) nm0 rfl).trans e2
    have e503 : I19 a_this 6 = 2 := (hFc24.i t_this (by decide) nm0 rfl).trans p_8
    refine g_zret B hM dX6_readUse_11 ⟨by show 0 ≤ 4; omega, by show 0 ≤ 31; omega⟩ (by omega) (by omega) ?_
    rw [← hPST]
    exact ⟨(0), rfl, by omega, hF, by omega, by omega, by first | omega | assumption | exact trivial, by show g_S (I19 a_this 5).toNat = I19 a_this 6; rw [e502, e503]; first | assumption | omega, by first | omega | assumption | exact trivial, by first | omega | assumption | exact trivial, by first | omega | assumption | exact trivial, by first | omega | assumption | exact trivial⟩
