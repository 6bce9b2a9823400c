def mo_X6_readUseName : List Nat := [225, 226]
set_option maxHeartbeats 1000000 in
set_option maxRecDepth 20000 in
theorem k_X6_readUseName (l : Launch) (D : va_G) (dA : Nat → ClassId) (eA : Nat) (L : List Nat) (T N : Nat → Nat) (I : Nat → Nat → Int) (J : Nat → Nat → Int64) (R : Nat → Nat → Nat) (a_this : Nat) (t_this : T a_this = 7) : GC l yX6_readUseName cX6_readUseName 3 (some .int) ({ frames := 1, cells := 0, slots := 0, locals := 23 }) D dA eA L T N I J R [.ref a_this] 0 0 (gI (fun r L' T' N' I' J' R' dz dl => L' = L ∧ T' = T ∧ N' = N ∧ J' = J ∧ R' = R ∧ Fr mo_X6_readUseName [] T N I J R T' N' I' J' R' ∧ (((r = -1 ∧ I' a_this 1 ≠ 0) ∨ (0 ≤ r ∧ r ≤ 299 ∧ I' a_this 1 = I a_this 1))))) := by
  generalize hPST : (gI (fun r L' T' N' I' J' R' dz dl => L' = L ∧ T' = T ∧ N' = N ∧ J' = J ∧ R' = R ∧ Fr mo_X6_readUseName [] T N I J R T' N' I' J' R' ∧ (((r = -1 ∧ I' a_this 1 ≠ 0) ∨ (0 ≤ r ∧ r ≤ 299 ∧ I' a_this 1 = I a_this 1))))) = PST
  refine g_enter (own := RX6) (by decide) rfl (Nat.le_of_ble_eq_true rfl) (fun p e s m args below meth c ls hm B hX hM hl => ?_)
  have hC0 := hM.2.2.2.2.2.2.1
  have hW0 := hM.2.2.2
  have hF : Fr mo_X6_readUseName [] T N I J R T N I J R := Fr.rf
  have hA : ∀ q, s.heap.size ≤ q → cF dA L T N I J R s.heap.size q := fun q h => Or.inr h
  have hl : lv_has ls 3 [(0, .ref a_this)] := hl
  obtain ⟨x1, e2⟩ : ∃ v, I a_this 1 = v := ⟨_, rfl⟩
  refine lv_aload_n B.1 B.2.1 dX6_readUseName_0 rfl (lv_at hl 0 rfl) ?_
  obtain ⟨w3, e4⟩ : ∃ v, J a_this 7 = v := ⟨_, rfl⟩
  refine c_getl (k := 7) pk_X6 B hM t_this kd7 rfl (by decide) fl_X6_54 dX6_readUseName_1 e4 ?_
  refine p_calli (c_runS (n := 1) (as := [.long w3]) (rest := []) B hX hA hM hl.1 (k_X0_builtIn l D dA eA L T N I J R w3 _ _) ml_X6_90 nm_X0_builtIn ⟨rfl, rfl⟩ ⟨Nat.le_of_ble_eq_true rfl, Nat.le_of_ble_eq_true rfl⟩ dX6_readUseName_4 rfl rfl (Nat.le_of_ble_eq_true rfl) ⟨Nat.zero_le _, Nat.zero_le _⟩) (fun x6 ix6 hp5 => ?_)
  have hp5a := hp5
  replace hp5a : 0 ≤ x6 ∧ x6 ≤ 8 := hp5a
  obtain ⟨hp5a_0, hp5a_1⟩ := hp5a
  refine lv_istore_n (lv' := [(1, .int (II x6)), (0, .ref a_this)]) B.1 B.2.1 dX6_readUseName_7 rfl hl (by decide) rfl (fun ls hl => ?_)
  refine lv_iload_n B.1 B.2.1 dX6_readUseName_8 rfl (lv_at hl 0 rfl) ?_
  refine q_ine (tgt := 19) B dX6_readUseName_9 (by decide) (by unfold inr; omega) (fun c7 => ?_) (fun c7 => ?_)
  · refine lv_iload_n B.1 B.2.1 dX6_readUseName_19 rfl (lv_at hl 0 rfl) ?_
    refine g_iret B hM dX6_readUseName_20 ⟨Nat.le_refl _, Nat.le_refl _⟩ ?_
    rw [← hPST]
    exact ⟨x6, rfl, by omega, rfl, rfl, rfl, rfl, rfl, hF, by first | omega | assumption | exact trivial⟩
  · refine lv_aload_n B.1 B.2.1 dX6_readUseName_12 rfl (lv_at hl 1 rfl) ?_
    obtain ⟨v8, e9⟩ : ∃ v, R a_this 4 = v := ⟨_, rfl⟩
    have q10 : v8 = 0 ∨ ∃ b, v8 = b + 1 ∧ T b = 6 := by rw [← e9]; exact g7_4 hC0 t_this
    refine c_getr (k := 4) pk_X6 B hM t_this kd7 rfl (by decide) fl_X6_15 dX6_readUseName_13 e9 ?_
    rcases q10 with rfl | ⟨b11, rfl, t12⟩
    · have hl : lv_has ls 3 [(1, .int (II x6)), (0, .ref a_this)] := hl
      refine lv_ifnonnullN B.1 B.2.1 dX6_readUseName_16 ?_
      refine lv_iload_n B.1 B.2.1 dX6_readUseName_19 rfl (lv_at hl 0 rfl) ?_
      refine g_iret B hM dX6_readUseName_20 ⟨Nat.le_refl _, Nat.le_refl _⟩ ?_
      rw [← hPST]
      exact ⟨x6, rfl, by omega, rfl, rfl, rfl, rfl, rfl, hF, by first | omega | assumption | exact trivial⟩
    · have hl : lv_has ls 3 [(1, .int (II x6)), (0, .ref a_this)] := hl
      refine lv_ifnonnull (tgt := 21) B.1 B.2.1 dX6_readUseName_16 (by decide) ?_
      refine lv_aload_n B.1 B.2.1 dX6_readUseName_21 rfl (lv_at hl 1 rfl) ?_
      refine c_getn (k := 4) pk_X6 B hM t_this kd7 rfl (by decide) fl_X6_15 dX6_readUseName_22 e9 ?_
      refine lv_aload_n B.1 B.2.1 dX6_readUseName_25 rfl (lv_at hl 1 rfl) ?_
      refine c_getl (k := 7) pk_X6 B hM t_this kd7 rfl (by decide) fl_X6_54 dX6_readUseName_26 e4 ?_
      refine p_calli (c_runV (n := 1) (as := [.long w3]) (rest := []) B hX hA hM hl.1 t12 kd6 rfl (k_X0_find l D dA eA L T N I J R b11 t12 w3 _ _) ml_X6_94 nm_X0_find ⟨rfl, rfl⟩ ⟨Nat.le_of_ble_eq_true rfl, Nat.le_of_ble_eq_true rfl⟩ dX6_readUseName_29 rfl rfl (Nat.le_of_ble_eq_true rfl) ⟨Nat.zero_le _, Nat.zero_le _⟩) (fun x14 ix14 hp13 => ?_)
      have hp13a := hp13
      clear hp13a
      refine lv_istore_n (lv' := [(2, .int (II x14)), (1, .int (II x6)), (0, .ref a_this)]) B.1 B.2.1 dX6_readUseName_32 rfl hl (by decide) rfl (fun ls hl => ?_)
      refine lv_iload_n B.1 B.2.1 dX6_readUseName_33 rfl (lv_at hl 0 rfl) ?_
      refine q_con B dX6_readUseName_34 ?_
      refine q_ceq (tgt := 54) B dX6_readUseName_35 (by decide) (by unfold inr; omega) (by unfold inr; omega) (fun c15 => ?_) (fun c15 => ?_)
      · refine lv_iload_n B.1 B.2.1 dX6_readUseName_54 rfl (lv_at hl 0 rfl) ?_
        refine q_con B dX6_readUseName_55 ?_
        refine q_ceq (tgt := 76) B dX6_readUseName_56 (by decide) (by unfold inr; omega) (by unfold inr; omega) (fun c16 => ?_) (fun c16 => ?_)
        · refine lv_aload_n B.1 B.2.1 dX6_readUseName_76 rfl (lv_at hl 2 rfl) ?_
          refine q_con B dX6_readUseName_77 ?_
          have hv17 : ((-2147483648 : Int) ≤ 5 ∧ (5 : Int) ≤ 2147483647) ∧ ((5 : Int) ≠ 0) := by first | omega | exact ⟨by first | omega | assumption | exact trivial, by first | omega | assumption | exact trivial⟩
          refine z_calli hM hA (c_runV (n := 1) (as := [.int (II 5)]) (rest := []) B hX hA hM hl.1 t_this kd7 rfl (k_X6_wrong l D dA eA L T N I J R a_this t_this (5) hv17.1 hv17.2 _ _) ml_X6_84 nm_X6_wrong ⟨rfl, rfl⟩ ⟨Nat.le_of_ble_eq_true rfl, Nat.le_of_ble_eq_true rfl⟩ dX6_readUseName_78 rfl rfl (Nat.le_of_ble_eq_true rfl) ⟨Nat.zero_le _, Nat.zero_le _⟩) (fun x19 ix19 L20 T21 N22 I23 J24 R25 dz26 dl27 H locs hp18 hMn => ?_)
          obtain ⟨yL20, yT21, yN22, yJ24, yR25, hFc28, hp18a⟩ := hp18
          obtain rfl := yL20.symm; obtain rfl := yT21.symm; obtain rfl := yN22.symm; obtain rfl := yJ24.symm; obtain rfl := yR25.symm
          replace hF : Fr mo_X6_readUseName [] T N I J R T N I23 J R := hF.trans hFc28 (by decide) e20
          have hM := hMn
          clear hMn
          replace hp18a : (0 : Int) ≤ x19 ∧ x19 ≤ 1 ∧ (x19 = 0 ∧ I23 a_this 1 ≠ 0) := hp18a
          obtain ⟨hp18a_0, hp18a_1, hp18a_2⟩ := hp18a
          obtain ⟨hp18a_2_0, hp18a_2_1⟩ := hp18a_2
          refine lv_pop B.1 B.2.1 dX6_readUseName_81 rfl ?_
          refine q_con B dX6_readUseName_82 ?_
          obtain ⟨x29, e30⟩ : ∃ v, I23 a_this 1 = v := ⟨_, rfl⟩
          refine g_iret B hM dX6_readUseName_83 ⟨Nat.le_refl _, Nat.le_refl _⟩ ?_
          rw [← hPST]
          exact ⟨(-1), rfl, by omega, rfl, rfl, rfl, rfl, rfl, hF, by first | omega | assumption | exact trivial⟩
        · refine lv_iload_n B.1 B.2.1 dX6_readUseName_59 rfl (lv_at hl 0 rfl) ?_
          refine q_bip B dX6_readUseName_60 (by decide) ?_
          refine q_divE B dX6_readUseName_62 (by unfold inr; omega) (by unfold inr; omega) (by omega) (fun x31 ix31 px31 nx31 => ?_)
          unfold inr at ix31
          refine q_con B dX6_readUseName_63 ?_
          refine q_cne (tgt := 76) B dX6_readUseName_64 (by decide) (by unfold inr; omega) (by unfold inr; omega) (fun c32 => ?_) (fun c32 => ?_)
          · refine lv_aload_n B.1 B.2.1 dX6_readUseName_76 rfl (lv_at hl 2 rfl) ?_
            refine q_con B dX6_readUseName_77 ?_
            have hv33 : ((-2147483648 : Int) ≤ 5 ∧ (5 : Int) ≤ 2147483647) ∧ ((5 : Int) ≠ 0) := by first | omega | exact ⟨by first | omega | assumption | exact trivial, by first | omega | assumption | exact trivial⟩
            refine z_calli hM hA (c_runV (n := 1) (as := [.int (II 5)]) (rest := []) B hX hA hM hl.1 t_this kd7 rfl (k_X6_wrong l D dA eA L T N I J R a_this t_this (5) hv33.1 hv33.2 _ _) ml_X6_84 nm_X6_wrong ⟨rfl, rfl⟩ ⟨Nat.le_of_ble_eq_true rfl, Nat.le_of_ble_eq_true rfl⟩ dX6_readUseName_78 rfl rfl (Nat.le_of_ble_eq_true rfl) ⟨Nat.zero_le _, Nat.zero_le _⟩) (fun x35 ix35 L36 T37 N38 I39 J40 R41 dz42 dl43 H locs hp34 hMn => ?_)
            obtain ⟨yL36, yT37, yN38, yJ40, yR41, hFc44, hp34a⟩ := hp34
            obtain rfl := yL36.symm; obtain rfl := yT37.symm; obtain rfl := yN38.symm; obtain rfl := yJ40.symm; obtain rfl := yR41.symm
            replace hF : Fr mo_X6_readUseName [] T N I J R T N I39 J R := hF.trans hFc44 (by decide) e20
            have hM := hMn
            clear hMn
            replace hp34a : (0 : Int) ≤ x35 ∧ x35 ≤ 1 ∧ (x35 = 0 ∧ I39 a_this 1 ≠ 0) := hp34a
            obtain ⟨hp34a_0, hp34a_1, hp34a_2⟩ := hp34a
            obtain ⟨hp34a_2_0, hp34a_2_1⟩ := hp34a_2
            refine lv_pop B.1 B.2.1 dX6_readUseName_81 rfl ?_
            refine q_con B dX6_readUseName_82 ?_
            obtain ⟨x45, e46⟩ : ∃ v, I39 a_this 1 = v := ⟨_, rfl⟩
            refine g_iret B hM dX6_readUseName_83 ⟨Nat.le_refl _, Nat.le_refl _⟩ ?_
            rw [← hPST]
            exact ⟨(-1), rfl, by omega, rfl, rfl, rfl, rfl, rfl, hF, by first | omega | assumption | exact trivial⟩
          · refine q_sip B dX6_readUseName_67 (by decide) ?_
            refine lv_iload_n B.1 B.2.1 dX6_readUseName_70 rfl (lv_at hl 0 rfl) ?_
            refine q_bip B dX6_readUseName_71 (by decide) ?_
            refine q_remE B dX6_readUseName_73 (by unfold inr; omega) (by unfold inr; omega) (by omega) (fun x47 ix47 px47 nx47 => ?_)
            unfold inr at ix47
            refine q_add B dX6_readUseName_74 ?_
            refine g_iret B hM dX6_readUseName_75 ⟨Nat.le_refl _, Nat.le_refl _⟩ ?_
            rw [← hPST]
            exact ⟨((200 : Int) + x47), rfl, by omega, rfl, rfl, rfl, rfl, rfl, hF, by first | omega | assumption | exact trivial⟩
      · refine lv_iload_n B.1 B.2.1 dX6_readUseName_38 rfl (lv_at hl 0 rfl) ?_
        refine q_bip B dX6_readUseName_39 (by decide) ?_
        refine q_divE B dX6_readUseName_41 (by unfold inr; omega) (by unfold inr; omega) (by omega) (fun x48 ix48 px48 nx48 => ?_)
        unfold inr at ix48
        refine q_con B dX6_readUseName_42 ?_
        refine q_cne (tgt := 54) B dX6_readUseName_43 (by decide) (by unfold inr; omega) (by unfold inr; omega) (fun c49 => ?_) (fun c49 => ?_)
        · refine lv_iload_n B.1 B.2.1 dX6_readUseName_54 rfl (lv_at hl 0 rfl) ?_
          refine q_con B dX6_readUseName_55 ?_
          refine q_ceq (tgt := 76) B dX6_readUseName_56 (by decide) (by unfold inr; omega) (by unfold inr; omega) (fun c50 => ?_) (fun c50 => ?_)
          · refine lv_aload_n B.1 B.2.1 dX6_readUseName_76 rfl (lv_at hl 2 rfl) ?_
            refine q_con B dX6_readUseName_77 ?_
            have hv51 : ((-2147483648 : Int) ≤ 5 ∧ (5 : Int) ≤ 2147483647) ∧ ((5 : Int) ≠ 0) := by first | omega | exact ⟨by first | omega | assumption | exact trivial, by first | omega | assumption | exact trivial⟩
            refine z_calli hM hA (c_runV (n := 1) (as := [.int (II 5)]) (rest := []) B hX hA hM hl.1 t_this kd7 rfl (k_X6_wrong l D dA eA L T N I J R a_this t_this (5) hv51.1 hv51.2 _ _) ml_X6_84 nm_X6_wrong ⟨rfl, rfl⟩ ⟨Nat.le_of_ble_eq_true rfl, Nat.le_of_ble_eq_true rfl⟩ dX6_readUseName_78 rfl rfl (Nat.le_of_ble_eq_true rfl) ⟨Nat.zero_le _, Nat.zero_le _⟩) (fun x53 ix53 L54 T55 N56 I57 J58 R59 dz60 dl61 H locs hp52 hMn => ?_)
            obtain ⟨yL54, yT55, yN56, yJ58, yR59, hFc62, hp52a⟩ := hp52
            obtain rfl := yL54.symm; obtain rfl := yT55.symm; obtain rfl := yN56.symm; obtain rfl := yJ58.symm; obtain rfl := yR59.symm
            replace hF : Fr mo_X6_readUseName [] T N I J R T N I57 J R := hF.trans hFc62 (by decide) e20
            have hM := hMn
            clear hMn
            replace hp52a : (0 : Int) ≤ x53 ∧ x53 ≤ 1 ∧ (x53 = 0 ∧ I57 a_this 1 ≠ 0) := hp52a
            obtain ⟨hp52a_0, hp52a_1, hp52a_2⟩ := hp52a
            obtain ⟨hp52a_2_0, hp52a_2_1⟩ := hp52a_2
            refine lv_pop B.1 B.2.1 dX6_readUseName_81 rfl ?_
            refine q_con B dX6_readUseName_82 ?_
            obtain ⟨x63, e64⟩ : ∃ v, I57 a_this 1 = v := ⟨_, rfl⟩
            refine g_iret B hM dX6_readUseName_83 ⟨Nat.le_refl _, Nat.le_refl _⟩ ?_
            rw [← hPST]
            exact ⟨(-1), rfl, by omega, rfl, rfl, rfl, rfl, rfl, hF, by first | omega | assumption | exact trivial⟩
          · refine lv_iload_n B.1 B.2.1 dX6_readUseName_59 rfl (lv_at hl 0 rfl) ?_
            refine q_bip B dX6_readUseName_60 (by decide) ?_
            refine q_divE B dX6_readUseName_62 (by unfold inr; omega) (by unfold inr; omega) (by omega) (fun x65 ix65 px65 nx65 => ?_)
            unfold inr at ix65
            refine q_con B dX6_readUseName_63 ?_
            refine q_cne (tgt := 76) B dX6_readUseName_64 (by decide) (by unfold inr; omega) (by unfold inr; omega) (fun c66 => ?_) (fun c66 => ?_)
            · refine lv_aload_n B.1 B.2.1 dX6_readUseName_76 rfl (lv_at hl 2 rfl) ?_
              refine q_con B dX6_readUseName_77 ?_
              have hv67 : ((-2147483648 : Int) ≤ 5 ∧ (5 : Int) ≤ 2147483647) ∧ ((5 : Int) ≠ 0) := by first | omega | exact ⟨by first | omega | assumption | exact trivial, by first | omega | assumption | exact trivial⟩
              refine z_calli hM hA (c_runV (n := 1) (as := [.int (II 5)]) (rest := []) B hX hA hM hl.1 t_this kd7 rfl (k_X6_wrong l D dA eA L T N I J R a_this t_this (5) hv67.1 hv67.2 _ _) ml_X6_84 nm_X6_wrong ⟨rfl, rfl⟩ ⟨Nat.le_of_ble_eq_true rfl, Nat.le_of_ble_eq_true rfl⟩ dX6_readUseName_78 rfl rfl (Nat.le_of_ble_eq_true rfl) ⟨Nat.zero_le _, Nat.zero_le _⟩) (fun x69 ix69 L70 T71 N72 I73 J74 R75 dz76 dl77 H locs hp68 hMn => ?_)
              obtain ⟨yL70, yT71, yN72, yJ74, yR75, hFc78, hp68a⟩ := hp68
              obtain rfl := yL70.symm; obtain rfl := yT71.symm; obtain rfl := yN72.symm; obtain rfl := yJ74.symm; obtain rfl := yR75.symm
              replace hF : Fr mo_X6_readUseName [] T N I J R T N I73 J R := hF.trans hFc78 (by decide) e20
              have hM := hMn
              clear hMn
              replace hp68a : (0 : Int) ≤ x69 ∧ x69 ≤ 1 ∧ (x69 = 0 ∧ I73 a_this 1 ≠ 0) := hp68a
              obtain ⟨hp68a_0, hp68a_1, hp68a_2⟩ := hp68a
              obtain ⟨hp68a_2_0, hp68a_2_1⟩ := hp68a_2
              refine lv_pop B.1 B.2.1 dX6_readUseName_81 rfl ?_
              refine q_con B dX6_readUseName_82 ?_
              obtain ⟨x79, e80⟩ : ∃ v, I73 a_this 1 = v := ⟨_, rfl⟩
              refine g_iret B hM dX6_readUseName_83 ⟨Nat.le_refl _, Nat.le_refl _⟩ ?_
              rw [← hPST]
              exact ⟨(-1), rfl, by omega, rfl, rfl, rfl, rfl, rfl, hF, by first | omega | assumption | exact trivial⟩
            · refine q_sip B dX6_readUseName_67 (by decide) ?_
              refine lv_iload_n B.1 B.2.1 dX6_readUseName_70 rfl (lv_at hl 0 rfl) ?_
              refine q_bip B dX6_readUseName_71 (by decide) ?_
              refine q_remE B dX6_readUseName_73 (by unfold inr; omega) (by unfold inr; omega) (by omega) (fun x81 ix81 px81 nx81 => ?_)
              unfold inr at ix81
              refine q_add B dX6_readUseName_74 ?_
              refine g_iret B hM dX6_readUseName_75 ⟨Nat.le_refl _, Nat.le_refl _⟩ ?_
              rw [← hPST]
              exact ⟨((200 : Int) + x81), rfl, by omega, rfl, rfl, rfl, rfl, rfl, hF, by first | omega | assumption | exact trivial⟩
        · refine q_bip B dX6_readUseName_46 (by decide) ?_
          refine lv_iload_n B.1 B.2.1 dX6_readUseName_48 rfl (lv_at hl 0 rfl) ?_
          refine q_bip B dX6_readUseName_49 (by decide) ?_
          refine q_remE B dX6_readUseName_51 (by unfold inr; omega) (by unfold inr; omega) (by omega) (fun x82 ix82 px82 nx82 => ?_)
          unfold inr at ix82
          refine q_add B dX6_readUseName_52 ?_
          refine g_iret B hM dX6_readUseName_53 ⟨Nat.le_refl _, Nat.le_refl _⟩ ?_
          rw [← hPST]
          exact ⟨((100 : Int) + x82), rfl, by omega, rfl, rfl, rfl, rfl, rfl, hF, by first | omega | assumption | exact trivial⟩

def mo_X6_readArgs : List Nat := [229, 230, 231, 225, 226, 290, 291, 289, 2400, 2432]
set_option maxHeartbeats 1000000 in
set_option maxRecDepth 20000 in
theorem k_X6_readArgs (l : Launch) (D : va_G) (dA : Nat → ClassId) (eA : Nat) (L : List Nat) (T N : Nat → Nat) (I : Nat → Nat → Int) (J : Nat → Nat → Int64) (R : Nat → Nat → Nat) (a_this : Nat) (t_this : T a_this = 7) (a_use : Nat) (t_use : T a_use = 9) (g_t : Nat) (g_s : Nat) (g_S : Nat → Int) (g_n : Int) (p_0 : R a_this 3 = g_t + 1) (p_1 : T g_t = 3) (p_2 : R g_t 0 = g_s + 1) (p_3 : T g_s = 62) (p_4 : I g_s = g_S) (p_5 : TKz g_S g_n) (p_6 : I a_this 5 ≤ g_n) (p_7 : g_S (I a_this 5).toNat = I a_this 6) : GC l yX6_readArgs cX6_readArgs 3 (some .boolean) ({ frames := 1, cells := 2, slots := 8, locals := 21 }) D dA eA L T N I J R [.ref a_this, .ref a_use] 2 8 (gI (fun r L' T' N' I' J' R' dz dl => Fr mo_X6_readArgs [] T N I J R T' N' I' J' R' ∧ (0 : Int) ≤ r ∧ r ≤ 1 ∧ (I' a_this 5 ≤ g_n ∧ g_S (I' a_this 5).toNat = I' a_this 6 ∧ I a_this 5 ≤ I' a_this 5 ∧ ((r = 0 ∧ I' a_this 1 ≠ 0) ∨ (r = 1 ∧ I' a_this 1 = I a_this 1 ∧ I a_this 5 + 0 ≤ I' a_this 5)) ∧ dz ≤ 2 ∧ dl ≤ 8))) := by
  generalize hPST : (gI (fun r L' T' N' I' J' R' dz dl => Fr mo_X6_readArgs [] T N I J R T' N' I' J' R' ∧ (0 : Int) ≤ r ∧ r ≤ 1 ∧ (I' a_this 5 ≤ g_n ∧ g_S (I' a_this 5).toNat = I' a_this 6 ∧ I a_this 5 ≤ I' a_this 5 ∧ ((r = 0 ∧ I' a_this 1 ≠ 0) ∨ (r = 1 ∧ I' a_this 1 = I a_this 1 ∧ I a_this 5 + 0 ≤ I' a_this 5)) ∧ dz ≤ 2 ∧ dl ≤ 8))) = PST
  refine g_enter (own := RX6) (by decide) rfl (Nat.le_of_ble_eq_true rfl) (fun p e s m args below meth c ls hm B hX hM hl => ?_)
  have hC0 := hM.2.2.2.2.2.2.1
  have hW0 := hM.2.2.2
  have hF : Fr mo_X6_readArgs [] T N I J R T N I J R := Fr.rf
  have hA : ∀ q, s.heap.size ≤ q → cF dA L T N I J R s.heap.size q := fun q h => Or.inr h
  have hl : lv_has ls 3 [(0, .ref a_this), (1, .ref a_use)] := hl
  obtain ⟨x1, e2⟩ : ∃ v, I a_this 5 = v := ⟨_, rfl⟩
  obtain ⟨x3, e4⟩ : ∃ v, I a_this 6 = v := ⟨_, rfl⟩
  have nz5 : g_S (x1).toNat = x3 := by have h9 := p_7; rw [e2, e4] at h9; exact h9
  obtain ⟨x6, e7⟩ : ∃ v, I a_this 1 = v := ⟨_, rfl⟩
  refine lv_aload_n B.1 B.2.1 dX6_readArgs_0 rfl (lv_at hl 1 rfl) ?_
  refine q_con B dX6_readArgs_1 ?_
  have hMo := hM
  refine c_newa (t := 75) (atype := .int) (n' := 4) B hX.out hA hM kd75 aw75 rfl rfl (fun _ => va_RA_i) acc_int hav_int (by decide) (by omega) (show 4 ≤ 4 ∧ 4 ≤ 4 from by omega) (by show 0 + 1 ≤ 2; omega) (by show 0 + 4 ≤ 8; omega) dX6_readArgs_2 (fun b8 L9 T10 N11 H t12 hT13 hN14 hM => ?_)
  have t15 : T10 b8 = 75 := by rw [hT13, va_up_self]
  have n16 : N11 b8 = 4 := by rw [hN14, va_up_self]
  replace hF : Fr mo_X6_readArgs [] T N I J R T10 N11 I J R := hF.new t12 hT13 hN14
  have zz17 := hMo.2.2.2.2.2.1 b8 t12
  clear hMo
  have t18 : T10 a_use = 9 := hF.tt t_use (by decide) nm0
  refine c_putr (k := 2) (v := b8 + 1) pk_X10 B hM t18 kd9 rfl (by decide) fl_X6_286 (Or.inl rfl) dX6_readArgs_4 rfl rfl ⟨rfl, fun _ => rfl, rfl, fun _ => rfl⟩ (rokR t15 rfl) (fun R19 H locs hu20 hM => ?_)
  have e21 : R19 a_use 2 = b8 + 1 := w2_at hu20
  replace hF : Fr mo_X6_readArgs [] T N I J R T10 N11 I J R19 := hF.wr hu20 (fun _ _ => by rw [t_use]; rfl)
  refine lv_aload_n B.1 B.2.1 dX6_readArgs_7 rfl (lv_at hl 1 rfl) ?_
  refine q_con B dX6_readArgs_8 ?_
  have hMo := hM
  refine c_newa (t := 76) (atype := .long) (n' := 4) B hX.out hA hM kd76 aw76 rfl rfl (fun _ => va_RA_l) acc_long hav_long (by decide) (by omega) (show 4 ≤ 4 ∧ 4 ≤ 4 from by omega) (by show 0 + 1 + 1 ≤ 2; omega) (by show 0 + 4 + 4 ≤ 8; omega) dX6_readArgs_9 (fun b22 L23 T24 N25 H t26 hT27 hN28 hM => ?_)
  have z29 : T b22 = 0 := T0_x hF t26 nm0
  have t30 : T24 b22 = 76 := by rw [hT27, va_up_self]
  have n31 : N25 b22 = 4 := by rw [hN28, va_up_self]
  replace hF : Fr mo_X6_readArgs [] T N I J R T24 N25 I J R19 := hF.new t26 hT27 hN28
  have zz32 := hMo.2.2.2.2.2.1 b22 t26
  clear hMo
  have t33 : T24 a_use = 9 := hF.tt t_use (by decide) nm0
  refine c_putr (k := 3) (v := b22 + 1) pk_X10 B hM t33 kd9 rfl (by decide) fl_X6_289 (Or.inl rfl) dX6_readArgs_11 rfl rfl ⟨rfl, fun _ => rfl, rfl, fun _ => rfl⟩ (rokR t30 rfl) (fun R34 H locs hu35 hM => ?_)
  have e36 : R34 a_use 3 = b22 + 1 := w2_at hu35
  replace hF : Fr mo_X6_readArgs [] T N I J R T24 N25 I J R34 := hF.wr hu35 (fun _ _ => by rw [t_use]; rfl)
  refine q_con B dX6_readArgs_14 ?_
  refine lv_istore_n (lv' := [(2, .int (II 0)), (0, .ref a_this), (1, .ref a_use)]) B.1 B.2.1 dX6_readArgs_15 rfl hl (by decide) rfl (fun ls hl => ?_)
  have e37 : R34 a_this 3 = g_t + 1 := (hF.r t_this (by decide) nm0 rfl).trans p_0
  have e38 : R34 g_t 0 = g_s + 1 := (hF.r p_1 (by decide) nm0 rfl).trans p_2
  have e39 : R34 a_use 2 = b8 + 1 := (w2_ne hu35 (Or.inr (by decide))).trans e21
  have LL16 : ∀ NN : Nat, ∀ (v16_2 : Int) (I_16 : Nat → Nat → Int) (J_16 : Nat → Nat → Int64) (H : Heap) (locs : List Loc) (ls : Array Slot), (CWd D dA eA (cF dA L T N I J R s.heap.size) s.heap L23 T24 N25 I_16 J_16 R34 H locs) → (Fr mo_X6_readArgs [] T N I J R T24 N25 I_16 J_16 R34) → lv_has ls 3 [(0, .ref a_this), (1, .ref a_use), (2, .int (II v16_2))] → ((-2147483648 : Int) ≤ v16_2 ∧ v16_2 ≤ 2147483647) → (0 ≤ v16_2) → (v16_2 ≤ 4) → (I a_this 5 ≤ I_16 a_this 5) → (I_16 a_this 5 ≤ g_n) → (g_S (I_16 a_this 5).toNat = I_16 a_this 6) → (I_16 a_this 1 = I a_this 1) → (0 ≤ 5 - v16_2) → (5 - v16_2 < (NN : Int)) → W p l e ({ frames := 1, cells := 2, slots := 8, locals := 21 }) s m args below meth c H locs (0 + 1 + 1) (0 + 4 + 4) (MQ below (gQ D dA eA (cF dA L T N I J R s.heap.size) s.heap.size (hs s.heap) PST) args s 2 8 (cF dA L T N I J R s.heap.size)) (F0 m 16 ls []) := by
    intro NN
    induction NN with
    | zero => intro v16_2 I_16 J_16 H locs ls hM hF hl hLL16_0 hLL16_1 hLL16_2 hLL16_3 hLL16_4 hLL16_5 hLL16_6 hLL16_7 hN; exfalso; omega
    | succ NN IH16 =>
      intro v16_2 I_16 J_16 H locs ls hM hF hl hLL16_0 hLL16_1 hLL16_2 hLL16_3 hLL16_4 hLL16_5 hLL16_6 hLL16_7 hN
      obtain ⟨x40, e41⟩ : ∃ v, I_16 a_this 5 = v := ⟨_, rfl⟩
      obtain ⟨x42, e43⟩ : ∃ v, I_16 a_this 6 = v := ⟨_, rfl⟩
      have nz44 : g_S (x40).toNat = x42 := by have h9 := hLL16_5; rw [e41, e43] at h9; exact h9
      refine lv_iload_n B.1 B.2.1 dX6_readArgs_16 rfl (lv_at hl 2 rfl) ?_
      refine q_con B dX6_readArgs_17 ?_
      refine q_cgt (tgt := 144) B dX6_readArgs_18 (by decide) (by unfold inr; omega) (by unfold inr; omega) (fun c45 => absurd c45 (by omega)) (fun c45 => ?_)
      refine lv_aload_n B.1 B.2.1 dX6_readArgs_21 rfl (lv_at hl 0 rfl) ?_
      have t46 : T24 a_this = 7 := hF.tt t_this (by decide) nm0
      have t47 : T24 g_t = 3 := hF.tt p_1 (by decide) nm0
      have t48 : T24 g_s = 62 := hF.tt p_3 (by decide) nm0
      have hv49 : (TKz g_S g_n) ∧ (I_16 a_this 5 ≤ g_n) := by first | omega | exact ⟨by first | omega | assumption | exact trivial, by first | omega | assumption | exact trivial⟩
      refine z_callv hM hA (c_runV (n := 0) (as := []) (rest := []) B hX hA hM hl.1 t46 kd7 rfl (k_X6_advance l D dA eA L23 T24 N25 I_16 J_16 R34 a_this t46 g_t g_s g_S g_n (show R34 a_this 3 = g_t + 1 from e37) (show T24 g_t = 3 from t47) (show R34 g_t 0 = g_s + 1 from e38) (show T24 g_s = 62 from t48) (show I_16 g_s = g_S from ((Fr.irow hF p_3 (by decide) nm0 (by decide)).trans p_4)) hv49.1 hv49.2 (show g_S (I_16 a_this 5).toNat = I_16 a_this 6 from by rw [e41, e43]; first | assumption | omega) _ _) ml_X6_87 nm_X6_advance ⟨rfl, rfl⟩ ⟨Nat.le_of_ble_eq_true rfl, Nat.le_of_ble_eq_true rfl⟩ dX6_readArgs_22 rfl rfl (Nat.le_of_ble_eq_true rfl) ⟨by show 0 + 1 + 1 + 0 ≤ 2; omega, by show 0 + 4 + 4 + 0 ≤ 8; omega⟩) (fun L52 T53 N54 I55 J56 R57 dz58 dl59 H locs hp50 hMn => ?_)
      obtain ⟨yL52, yT53, yN54, yR57, hFc60, hp50a⟩ := hp50
      obtain rfl := yL52.symm; obtain rfl := yT53.symm; obtain rfl := yN54.symm; obtain rfl := yR57.symm
      replace hF : Fr mo_X6_readArgs [] T N I J R T24 N25 I55 J56 R34 := hF.trans hFc60 (by decide) e20
      have hM := hMn
      clear hMn
      replace hp50a : I55 a_this 5 ≤ g_n ∧ g_S (I55 a_this 5).toNat = I55 a_this 6 ∧ (((I_16 a_this 6 = 0 ∨ I_16 a_this 6 = 1) ∧ I55 a_this 5 = I_16 a_this 5) ∨ (I55 a_this 5 = I_16 a_this 5 + 1)) := hp50a
      obtain ⟨hp50a_0, hp50a_1, hp50a_2⟩ := hp50a
      obtain ⟨x61, e62⟩ : ∃ v, I55 a_this 5 = v := ⟨_, rfl⟩
      obtain ⟨x63, e64⟩ : ∃ v, I55 a_this 6 = v := ⟨_, rfl⟩
      have nz65 : g_S (x61).toNat = x63 := by have h9 := hp50a_1; rw [e62, e64] at h9; exact h9
      refine lv_aload_n B.1 B.2.1 dX6_readArgs_25 rfl (lv_at hl 0 rfl) ?_
      have r66 : (-2147483648 : Int) ≤ x63 ∧ x63 ≤ 2147483647 := by rw [← e64]; exact g7_6 hM.2.2.2.2.2.2.1 t46
      refine c_geti (k := 6) pk_X6 B hM t46 kd7 rfl (by decide) fl_X6_47 dX6_readArgs_26 e64 ?_
      refine q_con B dX6_readArgs_29 ?_
      refine q_ceq (tgt := 41) B dX6_readArgs_30 (by decide) (by unfold inr; omega) (by unfold inr; omega) (fun c67 => ?_) (fun c67 => ?_)
      · refine lv_iload_n B.1 B.2.1 dX6_readArgs_41 rfl (lv_at hl 2 rfl) ?_
        refine q_con B dX6_readArgs_42 ?_
        refine q_clt (tgt := 52) B dX6_readArgs_43 (by decide) (by unfold inr; omega) (by unfold inr; omega) (fun c68 => ?_) (fun c68 => ?_)
        · refine lv_aload_n B.1 B.2.1 dX6_readArgs_52 rfl (lv_at hl 1 rfl) ?_
          refine c_getn (k := 2) pk_X10 B hM t33 kd9 rfl (by decide) fl_X6_286 dX6_readArgs_53 e39 ?_
          refine lv_iload_n B.1 B.2.1 dX6_readArgs_56 rfl (lv_at hl 2 rfl) ?_
          refine lv_aload_n B.1 B.2.1 dX6_readArgs_57 rfl (lv_at hl 0 rfl) ?_
          refine c_geti (k := 6) pk_X6 B hM t46 kd7 rfl (by decide) fl_X6_47 dX6_readArgs_58 e64 ?_
          refine q_con B dX6_readArgs_61 ?_
          refine q_cne (tgt := 73) B dX6_readArgs_62 (by decide) (by unfold inr; omega) (by unfold inr; omega) (fun c69 => ?_) (fun c69 => ?_)
          · refine q_con B dX6_readArgs_73 ?_
            have t70 : T24 b8 = 75 := upT hT27 t26 t15 (by decide)
            have n71 : 4 ≤ N25 b8 ∧ N25 b8 ≤ 4 := gn75 hM.2.2.2.2.2.2.1 t70
            refine c_ist B hM t70 kd75 aq75 dX6_readArgs_74 (by omega) (by omega) (show (-2147483648 : Int) ≤ 0 from by omega) (show 0 ≤ (2147483647 : Int) from by omega) (fun I73 H locs hu72 hM => ?_)
            have e74 : I73 b8 v16_2.toNat = 0 := w2_at hu72
            replace hF : Fr mo_X6_readArgs [] T N I J R T24 N25 I73 J56 R34 := hF.wi hu72 (fun h _ => absurd t12 h)
            refine lv_aload_n B.1 B.2.1 dX6_readArgs_75 rfl (lv_at hl 1 rfl) ?_
            refine c_getn (k := 3) pk_X10 B hM t33 kd9 rfl (by decide) fl_X6_289 dX6_readArgs_76 e36 ?_
            refine lv_iload_n B.1 B.2.1 dX6_readArgs_79 rfl (lv_at hl 2 rfl) ?_
            refine lv_aload_n B.1 B.2.1 dX6_readArgs_80 rfl (lv_at hl 0 rfl) ?_
            have e75 : I73 a_this 6 = x63 := (w2_ne hu72 (Or.inl (tne t46 t70 (by decide)))).trans e64
            refine c_geti (k := 6) pk_X6 B hM t46 kd7 rfl (by decide) fl_X6_47 dX6_readArgs_81 e75 ?_
            refine q_con B dX6_readArgs_84 ?_
            refine q_cne (tgt := 95) B dX6_readArgs_85 (by decide) (by unfold inr; omega) (by unfold inr; omega) (fun c76 => ?_) (fun c76 => ?_)
            · refine lv_lconst (v := 0) B.1 B.2.1 dX6_readArgs_95 (by decide) ?_
              refine c_lst B hM t30 kd76 an76 dX6_readArgs_96 (by omega) (by omega) (fun J78 H locs hu77 hM => ?_)
              have e79 : J78 b22 v16_2.toNat = (0 : Int64) := w2_at hu77
              replace hF : Fr mo_X6_readArgs [] T N I J R T24 N25 I73 J78 R34 := hF.wj hu77 (fun h _ => absurd z29 h)
              refine lv_aload_n B.1 B.2.1 dX6_readArgs_97 rfl (lv_at hl 1 rfl) ?_
              refine lv_iload_n B.1 B.2.1 dX6_readArgs_98 rfl (lv_at hl 2 rfl) ?_
              refine q_con B dX6_readArgs_99 ?_
              refine q_add B dX6_readArgs_100 ?_
              refine c_puti (k := 1) pk_X10 B hM t33 kd9 rfl (by decide) fl_X6_292 (Or.inl rfl) dX6_readArgs_101 rfl rfl rfl (show (-2147483648 : Int) ≤ v16_2 + (1 : Int) from by omega) (show v16_2 + (1 : Int) ≤ (2147483647 : Int) from by omega) (fun I80 H locs hu81 hM => ?_)
              have e82 : I80 a_use 1 = v16_2 + (1 : Int) := w2_at hu81
              replace hF : Fr mo_X6_readArgs [] T N I J R T24 N25 I80 J78 R34 := hF.wi hu81 (fun _ _ => by rw [t_use]; rfl)
              refine lv_aload_n B.1 B.2.1 dX6_readArgs_104 rfl (lv_at hl 0 rfl) ?_
              have e83 : I73 a_this 5 = x61 := (w2_ne hu72 (Or.inl (tne t46 t70 (by decide)))).trans e62
              have e84 : I80 a_this 5 = x61 := (w2_ne hu81 (Or.inl (tne t46 t33 (by decide)))).trans e83
              have e85 : I80 a_this 6 = x63 := (w2_ne hu81 (Or.inl (tne t46 t33 (by decide)))).trans e75
              have hv86 : (TKz g_S g_n) ∧ (I80 a_this 5 ≤ g_n) := by first | omega | exact ⟨by first | omega | assumption | exact trivial, by first | omega | assumption | exact trivial⟩
              refine z_callv hM hA (c_runV (n := 0) (as := []) (rest := []) B hX hA hM hl.1 t46 kd7 rfl (k_X6_advance l D dA eA L23 T24 N25 I80 J78 R34 a_this t46 g_t g_s g_S g_n (show R34 a_this 3 = g_t + 1 from e37) (show T24 g_t = 3 from t47) (show R34 g_t 0 = g_s + 1 from e38) (show T24 g_s = 62 from t48) (show I80 g_s = g_S from ((Fr.irow hF p_3 (by decide) nm0 (by decide)).trans p_4)) hv86.1 hv86.2 (show g_S (I80 a_this 5).toNat = I80 a_this 6 from by rw [e84, e85]; first | assumption | omega) _ _) ml_X6_87 nm_X6_advance ⟨rfl, rfl⟩ ⟨Nat.le_of_ble_eq_true rfl, Nat.le_of_ble_eq_true rfl⟩ dX6_readArgs_105 rfl rfl (Nat.le_of_ble_eq_true rfl) ⟨by show 0 + 1 + 1 + 0 ≤ 2; omega, by show 0 + 4 + 4 + 0 ≤ 8; omega⟩) (fun L89 T90 N91 I92 J93 R94 dz95 dl96 H locs hp87 hMn => ?_)
              obtain ⟨yL89, yT90, yN91, yR94, hFc97, hp87a⟩ := hp87
              obtain rfl := yL89.symm; obtain rfl := yT90.symm; obtain rfl := yN91.symm; obtain rfl := yR94.symm
              replace hF : Fr mo_X6_readArgs [] T N I J R T24 N25 I92 J93 R34 := hF.trans hFc97 (by decide) e20
              have hM := hMn
              clear hMn
              replace hp87a : I92 a_this 5 ≤ g_n ∧ g_S (I92 a_this 5).toNat = I92 a_this 6 ∧ (((I80 a_this 6 = 0 ∨ I80 a_this 6 = 1) ∧ I92 a_this 5 = I80 a_this 5) ∨ (I92 a_this 5 = I80 a_this 5 + 1)) := hp87a
              obtain ⟨hp87a_0, hp87a_1, hp87a_2⟩ := hp87a
              obtain ⟨x98, e99⟩ : ∃ v, I92 a_this 5 = v := ⟨_, rfl⟩
              obtain ⟨x100, e101⟩ : ∃ v, I92 a_this 6 = v := ⟨_, rfl⟩
              have nz102 : g_S (x98).toNat = x100 := by have h9 := hp87a_1; rw [e99, e101] at h9; exact h9
              refine lv_aload_n B.1 B.2.1 dX6_readArgs_108 rfl (lv_at hl 0 rfl) ?_
              have r103 : (-2147483648 : Int) ≤ x100 ∧ x100 ≤ 2147483647 := by rw [← e101]; exact g7_6 hM.2.2.2.2.2.2.1 t46
              refine c_geti (k := 6) pk_X6 B hM t46 kd7 rfl (by decide) fl_X6_47 dX6_readArgs_109 e101 ?_
              refine q_bip B dX6_readArgs_112 (by decide) ?_
              refine q_cne (tgt := 123) B dX6_readArgs_114 (by decide) (by unfold inr; omega) (by unfold inr; omega) (fun c104 => ?_) (fun c104 => ?_)
              · refine lv_aload_n B.1 B.2.1 dX6_readArgs_123 rfl (lv_at hl 0 rfl) ?_
                refine c_geti (k := 6) pk_X6 B hM t46 kd7 rfl (by decide) fl_X6_47 dX6_readArgs_124 e101 ?_
                refine q_bip B dX6_readArgs_127 (by decide) ?_
                refine q_ceq (tgt := 138) B dX6_readArgs_129 (by decide) (by unfold inr; omega) (by unfold inr; omega) (fun c105 => ?_) (fun c105 => ?_)
                · refine q_inc (lv' := [(2, .int (II (v16_2 + 1))), (0, .ref a_this), (1, .ref a_use)]) B dX6_readArgs_138 hl (k := 2) rfl (by decide) rfl (fun ls hl => ?_)
                  refine lv_goto (tgt := 16) B.1 B.2.1 dX6_readArgs_141 (by decide) ?_
                  have e106 : I55 a_this 1 = I a_this 1 := (hFc60.i t46 (by decide) nm0 rfl).trans hLL16_6
                  have e107 : I73 a_this 1 = I a_this 1 := (w2_ne hu72 (Or.inl (tne t46 t70 (by decide)))).trans e106
                  have e108 : I80 a_this 1 = I a_this 1 := (w2_ne hu81 (Or.inl (tne t46 t33 (by decide)))).trans e107
                  have e109 : I92 a_this 1 = I a_this 1 := (hFc97.i t46 (by decide) nm0 rfl).trans e108
                  have hv110 : ((-2147483648 : Int) ≤ v16_2 + 1 ∧ (v16_2 + 1 : Int) ≤ 2147483647) ∧ (0 ≤ (v16_2 + 1)) ∧ ((v16_2 + 1) ≤ 4) ∧ (I a_this 5 ≤ I92 a_this 5) ∧ (I92 a_this 5 ≤ g_n) ∧ (I92 a_this 1 = I a_this 1) ∧ (0 ≤ 5 - (v16_2 + 1)) := by first | omega | exact ⟨by first | omega | assumption | exact trivial, by first | omega | assumption | exact trivial, by first | omega | assumption | exact trivial, by first | omega | assumption | exact trivial, by first | omega | assumption | exact trivial, by first | omega | assumption | exact trivial, by first | omega | assumption | exact trivial⟩
                  exact IH16 (v16_2 + 1) I92 J93 _ _ ls hM hF (lv_sub hl [1, 2, 0] rfl) hv110.1 hv110.2.1 hv110.2.2.1 hv110.2.2.2.1 hv110.2.2.2.2.1 (by rw [e99, e101]; first | assumption | omega) hv110.2.2.2.2.2.1 hv110.2.2.2.2.2.2 (by omega)
                · refine lv_aload_n B.1 B.2.1 dX6_readArgs_132 rfl (lv_at hl 0 rfl) ?_
                  refine q_con B dX6_readArgs_133 ?_
                  have hv111 : ((-2147483648 : Int) ≤ 2 ∧ (2 : Int) ≤ 2147483647) ∧ ((2 : Int) ≠ 0) := by first | omega | exact ⟨by first | omega | assumption | exact trivial, by first | omega | assumption | exact trivial⟩
                  refine z_calli hM hA (c_runV (n := 1) (as := [.int (II 2)]) (rest := []) B hX hA hM hl.1 t46 kd7 rfl (k_X6_wrong l D dA eA L23 T24 N25 I92 J93 R34 a_this t46 (2) hv111.1 hv111.2 _ _) ml_X6_84 nm_X6_wrong ⟨rfl, rfl⟩ ⟨Nat.le_of_ble_eq_true rfl, Nat.le_of_ble_eq_true rfl⟩ dX6_readArgs_134 rfl rfl (Nat.le_of_ble_eq_true rfl) ⟨by show 0 + 1 + 1 + 0 ≤ 2; omega, by show 0 + 4 + 4 + 0 ≤ 8; omega⟩) (fun x113 ix113 L114 T115 N116 I117 J118 R119 dz120 dl121 H locs hp112 hMn => ?_)
                  obtain ⟨yL114, yT115, yN116, yJ118, yR119, hFc122, hp112a⟩ := hp112
                  obtain rfl := yL114.symm; obtain rfl := yT115.symm; obtain rfl := yN116.symm; obtain rfl := yJ118.symm; obtain rfl := yR119.symm
                  replace hF : Fr mo_X6_readArgs [] T N I J R T24 N25 I117 J93 R34 := hF.trans hFc122 (by decide) e20
                  have hM := hMn
                  clear hMn
                  replace hp112a : (0 : Int) ≤ x113 ∧ x113 ≤ 1 ∧ (x113 = 0 ∧ I117 a_this 1 ≠ 0) := hp112a
                  obtain ⟨hp112a_0, hp112a_1, hp112a_2⟩ := hp112a
                  obtain ⟨hp112a_2_0, hp112a_2_1⟩ := hp112a_2
                  have e123 : I55 a_this 1 = I a_this 1 := (hFc60.i t46 (by decide) nm0 rfl).trans hLL16_6
                  have e124 : I73 a_this 1 = I a_this 1 := (w2_ne hu72 (Or.inl (tne t46 t70 (by decide)))).trans e123
                  have e125 : I80 a_this 1 = I a_this 1 := (w2_ne hu81 (Or.inl (tne t46 t33 (by decide)))).trans e124
                  have e126 : I92 a_this 1 = I a_this 1 := (hFc97.i t46 (by decide) nm0 rfl).trans e125
                  obtain ⟨x127, e128⟩ : ∃ v, I117 a_this 1 = v := ⟨_, rfl⟩
                  have e129 : I117 a_this 5 = x98 := (hFc122.i t46 (by decide) nm0 rfl).trans e99
                  have e130 : I117 a_this 6 = x100 := (hFc122.i t46 (by decide) nm0 rfl).trans e101
                  refine g_zret B hM dX6_readArgs_137 ⟨by show 0 + 1 + 1 ≤ 2; omega, by show 0 + 4 + 4 ≤ 8; omega⟩ (by omega) (by omega) ?_
                  rw [← hPST]
                  exact ⟨x113, rfl, by omega, hF, by omega, by omega, by first | omega | assumption | exact trivial, by show g_S (I117 a_this 5).toNat = I117 a_this 6; rw [e129, e130]; first | assumption | omega, by first | omega | assumption | exact trivial, by first | omega | assumption | exact trivial, by first | omega | assumption | exact trivial, by first | omega | assumption | exact trivial⟩
              · refine lv_aload_n B.1 B.2.1 dX6_readArgs_117 rfl (lv_at hl 0 rfl) ?_
                have hv131 : (TKz g_S g_n) ∧ (I92 a_this 5 ≤ g_n) := by first | omega | exact ⟨by first | omega | assumption | exact trivial, by first | omega | assumption | exact trivial⟩
                refine z_callv hM hA (c_runV (n := 0) (as := []) (rest := []) B hX hA hM hl.1 t46 kd7 rfl (k_X6_advance l D dA eA L23 T24 N25 I92 J93 R34 a_this t46 g_t g_s g_S g_n (show R34 a_this 3 = g_t + 1 from e37) (show T24 g_t = 3 from t47) (show R34 g_t 0 = g_s + 1 from e38) (show T24 g_s = 62 from t48) (show I92 g_s = g_S from ((Fr.irow hF p_3 (by decide) nm0 (by decide)).trans p_4)) hv131.1 hv131.2 (show g_S (I92 a_this 5).toNat = I92 a_this 6 from by rw [e99, e101]; first | assumption | omega) _ _) ml_X6_87 nm_X6_advance ⟨rfl, rfl⟩ ⟨Nat.le_of_ble_eq_true rfl, Nat.le_of_ble_eq_true rfl⟩ dX6_readArgs_118 rfl rfl (Nat.le_of_ble_eq_true rfl) ⟨by show 0 + 1 + 1 + 0 ≤ 2; omega, by show 0 + 4 + 4 + 0 ≤ 8; omega⟩) (fun L134 T135 N136 I137 J138 R139 dz140 dl141 H locs hp132 hMn => ?_)
                obtain ⟨yL134, yT135, yN136, yR139, hFc142, hp132a⟩ := hp132
                obtain rfl := yL134.symm; obtain rfl := yT135.symm; obtain rfl := yN136.symm; obtain rfl := yR139.symm
                replace hF : Fr mo_X6_readArgs [] T N I J R T24 N25 I137 J138 R34 := hF.trans hFc142 (by decide) e20
                have hM := hMn
                clear hMn
                replace hp132a : I137 a_this 5 ≤ g_n ∧ g_S (I137 a_this 5).toNat = I137 a_this 6 ∧ (((I92 a_this 6 = 0 ∨ I92 a_this 6 = 1) ∧ I137 a_this 5 = I92 a_this 5) ∨ (I137 a_this 5 = I92 a_this 5 + 1)) := hp132a
                obtain ⟨hp132a_0, hp132a_1, hp132a_2⟩ := hp132a
                obtain ⟨x143, e144⟩ : ∃ v, I137 a_this 5 = v := ⟨_, rfl⟩
                obtain ⟨x145, e146⟩ : ∃ v, I137 a_this 6 = v := ⟨_, rfl⟩
                have nz147 : g_S (x143).toNat = x145 := by have h9 := hp132a_1; rw [e144, e146] at h9; exact h9
                refine q_con B dX6_readArgs_121 ?_
                have e148 : I55 a_this 1 = I a_this 1 := (hFc60.i t46 (by decide) nm0 rfl).trans hLL16_6
                have e149 : I73 a_this 1 = I a_this 1 := (w2_ne hu72 (Or.inl (tne t46 t70 (by decide)))).trans e148
                have e150 : I80 a_this 1 = I a_this 1 := (w2_ne hu81 (Or.inl (tne t46 t33 (by decide)))).trans e149
                have e151 : I92 a_this 1 = I a_this 1 := (hFc97.i t46 (by decide) nm0 rfl).trans e150
                have e152 : I137 a_this 1 = I a_this 1 := (hFc142.i t46 (by decide) nm0 rfl).trans e151
                refine g_zret B hM dX6_readArgs_122 ⟨by show 0 + 1 + 1 ≤ 2; omega, by show 0 + 4 + 4 ≤ 8; omega⟩ (by omega) (by omega) ?_
                rw [← hPST]
                exact ⟨(1), rfl, by omega, hF, by omega, by omega, by first | omega | assumption | exact trivial, by show g_S (I137 a_this 5).toNat = I137 a_this 6; rw [e144, e146]; first | assumption | omega, by first | omega | assumption | exact trivial, by first | omega | assumption | exact trivial, by first | omega | assumption | exact trivial, by first | omega | assumption | exact trivial⟩
            · refine lv_aload_n B.1 B.2.1 dX6_readArgs_88 rfl (lv_at hl 0 rfl) ?_
              obtain ⟨w153, e154⟩ : ∃ v, J56 a_this 7 = v := ⟨_, rfl⟩
              refine c_getl (k := 7) pk_X6 B hM t46 kd7 rfl (by decide) fl_X6_54 dX6_readArgs_89 e154 ?_
              refine lv_goto (tgt := 96) B.1 B.2.1 dX6_readArgs_92 (by decide) ?_
              refine c_lst B hM t30 kd76 an76 dX6_readArgs_96 (by omega) (by omega) (fun J156 H locs hu155 hM => ?_)
              have e157 : J156 b22 v16_2.toNat = w153 := w2_at hu155
              replace hF : Fr mo_X6_readArgs [] T N I J R T24 N25 I73 J156 R34 := hF.wj hu155 (fun h _ => absurd z29 h)
              refine lv_aload_n B.1 B.2.1 dX6_readArgs_97 rfl (lv_at hl 1 rfl) ?_
              refine lv_iload_n B.1 B.2.1 dX6_readArgs_98 rfl (lv_at hl 2 rfl) ?_
              refine q_con B dX6_readArgs_99 ?_
              refine q_add B dX6_readArgs_100 ?_
              refine c_puti (k := 1) pk_X10 B hM t33 kd9 rfl (by decide) fl_X6_292 (Or.inl rfl) dX6_readArgs_101 rfl rfl rfl (show (-2147483648 : Int) ≤ v16_2 + (1 : Int) from by omega) (show v16_2 + (1 : Int) ≤ (2147483647 : Int) from by omega) (fun I158 H locs hu159 hM => ?_)
              have e160 : I158 a_use 1 = v16_2 + (1 : Int) := w2_at hu159
              replace hF : Fr mo_X6_readArgs [] T N I J R T24 N25 I158 J156 R34 := hF.wi hu159 (fun _ _ => by rw [t_use]; rfl)
              refine lv_aload_n B.1 B.2.1 dX6_readArgs_104 rfl (lv_at hl 0 rfl) ?_
              have e161 : I73 a_this 5 = x61 := (w2_ne hu72 (Or.inl (tne t46 t70 (by decide)))).trans e62
              have e162 : I158 a_this 5 = x61 := (w2_ne hu159 (Or.inl (tne t46 t33 (by decide)))).trans e161
              have e163 : I158 a_this 6 = x63 := (w2_ne hu159 (Or.inl (tne t46 t33 (by decide)))).trans e75
              have hv164 : (TKz g_S g_n) ∧ (I158 a_this 5 ≤ g_n) := by first | omega | exact ⟨by first | omega | assumption | exact trivial, by first | omega | assumption | exact trivial⟩
              refine z_callv hM hA (c_runV (n := 0) (as := []) (rest := []) B hX hA hM hl.1 t46 kd7 rfl (k_X6_advance l D dA eA L23 T24 N25 I158 J156 R34 a_this t46 g_t g_s g_S g_n (show R34 a_this 3 = g_t + 1 from e37) (show T24 g_t = 3 from t47) (show R34 g_t 0 = g_s + 1 from e38) (show T24 g_s = 62 from t48) (show I158 g_s = g_S from ((Fr.irow hF p_3 (by decide) nm0 (by decide)).trans p_4)) hv164.1 hv164.2 (show g_S (I158 a_this 5).toNat = I158 a_this 6 from by rw [e162, e163]; first | assumption | omega) _ _) ml_X6_87 nm_X6_advance ⟨rfl, rfl⟩ ⟨Nat.le_of_ble_eq_true rfl, Nat.le_of_ble_eq_true rfl⟩ dX6_readArgs_105 rfl rfl (Nat.le_of_ble_eq_true rfl) ⟨by show 0 + 1 + 1 + 0 ≤ 2; omega, by show 0 + 4 + 4 + 0 ≤ 8; omega⟩) (fun L167 T168 N169 I170 J171 R172 dz173 dl174 H locs hp165 hMn => ?_)
              obtain ⟨yL167, yT168, yN169, yR172, hFc175, hp165a⟩ := hp165
              obtain rfl := yL167.symm; obtain rfl := yT168.symm; obtain rfl := yN169.symm; obtain rfl := yR172.symm
              replace hF : Fr mo_X6_readArgs [] T N I J R T24 N25 I170 J171 R34 := hF.trans hFc175 (by decide) e20
              have hM := hMn
              clear hMn
              replace hp165a : I170 a_this 5 ≤ g_n ∧ g_S (I170 a_this 5).toNat = I170 a_this 6 ∧ (((I158 a_this 6 = 0 ∨ I158 a_this 6 = 1) ∧ I170 a_this 5 = I158 a_this 5) ∨ (I170 a_this 5 = I158 a_this 5 + 1)) := hp165a
              obtain ⟨hp165a_0, hp165a_1, hp165a_2⟩ := hp165a
              obtain ⟨x176, e177⟩ : ∃ v, I170 a_this 5 = v := ⟨_, rfl⟩
              obtain ⟨x178, e179⟩ : ∃ v, I170 a_this 6 = v := ⟨_, rfl⟩
              have nz180 : g_S (x176).toNat = x178 := by have h9 := hp165a_1; rw [e177, e179] at h9; exact h9
              refine lv_aload_n B.1 B.2.1 dX6_readArgs_108 rfl (lv_at hl 0 rfl) ?_
              have r181 : (-2147483648 : Int) ≤ x178 ∧ x178 ≤ 2147483647 := by rw [← e179]; exact g7_6 hM.2.2.2.2.2.2.1 t46
              refine c_geti (k := 6) pk_X6 B hM t46 kd7 rfl (by decide) fl_X6_47 dX6_readArgs_109 e179 ?_
              refine q_bip B dX6_readArgs_112 (by decide) ?_
              refine q_cne (tgt := 123) B dX6_readArgs_114 (by decide) (by unfold inr; omega) (by unfold inr; omega) (fun c182 => ?_) (fun c182 => ?_)
              · refine lv_aload_n B.1 B.2.1 dX6_readArgs_123 rfl (lv_at hl 0 rfl) ?_
                refine c_geti (k := 6) pk_X6 B hM t46 kd7 rfl (by decide) fl_X6_47 dX6_readArgs_124 e179 ?_
                refine q_bip B dX6_readArgs_127 (by decide) ?_
                refine q_ceq (tgt := 138) B dX6_readArgs_129 (by decide) (by unfold inr; omega) (by unfold inr; omega) (fun c183 => ?_) (fun c183 => ?_)
                · refine q_inc (lv' := [(2, .int (II (v16_2 + 1))), (0, .ref a_this), (1, .ref a_use)]) B dX6_readArgs_138 hl (k := 2) rfl (by decide) rfl (fun ls hl => ?_)
                  refine lv_goto (tgt := 16) B.1 B.2.1 dX6_readArgs_141 (by decide) ?_
                  have e184 : I55 a_this 1 = I a_this 1 := (hFc60.i t46 (by decide) nm0 rfl).trans hLL16_6
                  have e185 : I73 a_this 1 = I a_this 1 := (w2_ne hu72 (Or.inl (tne t46 t70 (by decide)))).trans e184
                  have e186 : I158 a_this 1 = I a_this 1 := (w2_ne hu159 (Or.inl (tne t46 t33 (by decide)))).trans e185
                  have e187 : I170 a_this 1 = I a_this 1 := (hFc175.i t46 (by decide) nm0 rfl).trans e186
                  have hv188 : ((-2147483648 : Int) ≤ v16_2 + 1 ∧ (v16_2 + 1 : Int) ≤ 2147483647) ∧ (0 ≤ (v16_2 + 1)) ∧ ((v16_2 + 1) ≤ 4) ∧ (I a_this 5 ≤ I170 a_this 5) ∧ (I170 a_this 5 ≤ g_n) ∧ (I170 a_this 1 = I a_this 1) ∧ (0 ≤ 5 - (v16_2 + 1)) := by first | omega | exact ⟨by first | omega | assumption | exact trivial, by first | omega | assumption | exact trivial, by first | omega | assumption | exact trivial, by first | omega | assumption | exact trivial, by first | omega | assumption | exact trivial, by first | omega | assumption | exact trivial, by first | omega | assumption | exact trivial⟩
                  exact IH16 (v16_2 + 1) I170 J171 _ _ ls hM hF (lv_sub hl [1, 2, 0] rfl) hv188.1 hv188.2.1 hv188.2.2.1 hv188.2.2.2.1 hv188.2.2.2.2.1 (by rw [e177, e179]; first | assumption | omega) hv188.2.2.2.2.2.1 hv188.2.2.2.2.2.2 (by omega)
                · refine lv_aload_n B.1 B.2.1 dX6_readArgs_132 rfl (lv_at hl 0 rfl) ?_
                  refine q_con B dX6_readArgs_133 ?_
                  have hv189 : ((-2147483648 : Int) ≤ 2 ∧ (2 : Int) ≤ 2147483647) ∧ ((2 : Int) ≠ 0) := by first | omega | exact ⟨by first | omega | assumption | exact trivial, by first | omega | assumption | exact trivial⟩
                  refine z_calli hM hA (c_runV (n := 1) (as := [.int (II 2)]) (rest := []) B hX hA hM hl.1 t46 kd7 rfl (k_X6_wrong l D dA eA L23 T24 N25 I170 J171 R34 a_this t46 (2) hv189.1 hv189.2 _ _) ml_X6_84 nm_X6_wrong ⟨rfl, rfl⟩ ⟨Nat.le_of_ble_eq_true rfl, Nat.le_of_ble_eq_true rfl⟩ dX6_readArgs_134 rfl rfl (Nat.le_of_ble_eq_true rfl) ⟨by show 0 + 1 + 1 + 0 ≤ 2; omega, by show 0 + 4 + 4 + 0 ≤ 8; omega⟩) (fun x191 ix191 L192 T193 N194 I195 J196 R197 dz198 dl199 H locs hp190 hMn => ?_)
                  obtain ⟨yL192, yT193, yN194, yJ196, yR197, hFc200, hp190a⟩ := hp190
                  obtain rfl := yL192.symm; obtain rfl := yT193.symm; obtain rfl := yN194.symm; obtain rfl := yJ196.symm; obtain rfl := yR197.symm
                  replace hF : Fr mo_X6_readArgs [] T N I J R T24 N25 I195 J171 R34 := hF.trans hFc200 (by decide) e20
                  have hM := hMn
                  clear hMn
                  replace hp190a : (0 : Int) ≤ x191 ∧ x191 ≤ 1 ∧ (x191 = 0 ∧ I195 a_this 1 ≠ 0) := hp190a
                  obtain ⟨hp190a_0, hp190a_1, hp190a_2⟩ := hp190a
                  obtain ⟨hp190a_2_0, hp190a_2_1⟩ := hp190a_2
                  have e201 : I55 a_this 1 = I a_this 1 := (hFc60.i t46 (by decide) nm0 rfl).trans hLL16_6
                  have e202 : I73 a_this 1 = I a_this 1 := (w2_ne hu72 (Or.inl (tne t46 t70 (by decide)))).trans e201
                  have e203 : I158 a_this 1 = I a_this 1 := (w2_ne hu159 (Or.inl (tne t46 t33 (by decide)))).trans e202
                  have e204 : I170 a_this 1 = I a_this 1 := (hFc175.i t46 (by decide) nm0 rfl).trans e203
                  obtain ⟨x205, e206⟩ : ∃ v, I195 a_this 1 = v := ⟨_, rfl⟩
                  have e207 : I195 a_this 5 = x176 := (hFc200.i t46 (by decide) nm0 rfl).trans e177
                  have e208 : I195 a_this 6 = x178 := (hFc200.i t46 (by decide) nm0 rfl).trans e179
                  refine g_zret B hM dX6_readArgs_137 ⟨by show 0 + 1 + 1 ≤ 2; omega, by show 0 + 4 + 4 ≤ 8; omega⟩ (by omega) (by omega) ?_
                  rw [← hPST]
                  exact ⟨x191, rfl, by omega, hF, by omega, by omega, by first | omega | assumption | exact trivial, by show g_S (I195 a_this 5).toNat = I195 a_this 6; rw [e207, e208]; first | assumption | omega, by first | omega | assumption | exact trivial, by first | omega | assumption | exact trivial, by first | omega | assumption | exact trivial, by first | omega | assumption | exact trivial⟩
              · refine lv_aload_n B.1 B.2.1 dX6_readArgs_117 rfl (lv_at hl 0 rfl) ?_
                have hv209 : (TKz g_S g_n) ∧ (I170 a_this 5 ≤ g_n) := by first | omega | exact ⟨by first | omega | assumption | exact trivial, by first | omega | assumption | exact trivial⟩
                refine z_callv hM hA (c_runV (n := 0) (as := []) (rest := []) B hX hA hM hl.1 t46 kd7 rfl (k_X6_advance l D dA eA L23 T24 N25 I170 J171 R34 a_this t46 g_t g_s g_S g_n (show R34 a_this 3 = g_t + 1 from e37) (show T24 g_t = 3 from t47) (show R34 g_t 0 = g_s + 1 from e38) (show T24 g_s = 62 from t48) (show I170 g_s = g_S from ((Fr.irow hF p_3 (by decide) nm0 (by decide)).trans p_4)) hv209.1 hv209.2 (show g_S (I170 a_this 5).toNat = I170 a_this 6 from by rw [e177, e179]; first | assumption | omega) _ _) ml_X6_87 nm_X6_advance ⟨rfl, rfl⟩ ⟨Nat.le_of_ble_eq_true rfl, Nat.le_of_ble_eq_true rfl⟩ dX6_readArgs_118 rfl rfl (Nat.le_of_ble_eq_true rfl) ⟨by show 0 + 1 + 1 + 0 ≤ 2; omega, by show 0 + 4 + 4 + 0 ≤ 8; omega⟩) (fun L212 T213 N214 I215 J216 R217 dz218 dl219 H locs hp210 hMn => ?_)
                obtain ⟨yL212, yT213, yN214, yR217, hFc220, hp210a⟩ := hp210
                obtain rfl := yL212.symm; obtain rfl := yT213.symm; obtain rfl := yN214.symm; obtain rfl := yR217.symm
                replace hF : Fr mo_X6_readArgs [] T N I J R T24 N25 I215 J216 R34 := hF.trans hFc220 (by decide) e20
                have hM := hMn
                clear hMn
                replace hp210a : I215 a_this 5 ≤ g_n ∧ g_S (I215 a_this 5).toNat = I215 a_this 6 ∧ (((I170 a_this 6 = 0 ∨ I170 a_this 6 = 1) ∧ I215 a_this 5 = I170 a_this 5) ∨ (I215 a_this 5 = I170 a_this 5 + 1)) := hp210a
                obtain ⟨hp210a_0, hp210a_1, hp210a_2⟩ := hp210a
                obtain ⟨x221, e222⟩ : ∃ v, I215 a_this 5 = v := ⟨_, rfl⟩
                obtain ⟨x223, e224⟩ : ∃ v, I215 a_this 6 = v := ⟨_, rfl⟩
                have nz225 : g_S (x221).toNat = x223 := by have h9 := hp210a_1; rw [e222, e224] at h9; exact h9
                refine q_con B dX6_readArgs_121 ?_
                have e226 : I55 a_this 1 = I a_this 1 := (hFc60.i t46 (by decide) nm0 rfl).trans hLL16_6
                have e227 : I73 a_this 1 = I a_this 1 := (w2_ne hu72 (Or.inl (tne t46 t70 (by decide)))).trans e226
                have e228 : I158 a_this 1 = I a_this 1 := (w2_ne hu159 (Or.inl (tne t46 t33 (by decide)))).trans e227
                have e229 : I170 a_this 1 = I a_this 1 := (hFc175.i t46 (by decide) nm0 rfl).trans e228
                have e230 : I215 a_this 1 = I a_this 1 := (hFc220.i t46 (by decide) nm0 rfl).trans e229
                refine g_zret B hM dX6_readArgs_122 ⟨by show 0 + 1 + 1 ≤ 2; omega, by show 0 + 4 + 4 ≤ 8; omega⟩ (by omega) (by omega) ?_
                rw [← hPST]
                exact ⟨(1), rfl, by omega, hF, by omega, by omega, by first | omega | assumption | exact trivial, by show g_S (I215 a_this 5).toNat = I215 a_this 6; rw [e222, e224]; first | assumption | omega, by first | omega | assumption | exact trivial, by first | omega | assumption | exact trivial, by first | omega | assumption | exact trivial, by first | omega | assumption | exact trivial⟩
          · refine lv_aload_n B.1 B.2.1 dX6_readArgs_65 rfl (lv_at hl 0 rfl) ?_
            obtain ⟨w231, e232⟩ : ∃ v, J56 a_this 7 = v := ⟨_, rfl⟩
            refine c_getl (k := 7) pk_X6 B hM t46 kd7 rfl (by decide) fl_X6_54 dX6_readArgs_66 e232 ?_
            refine q_l2i B dX6_readArgs_69 (fun x233 ix233 => ?_)
            unfold inr at ix233
            refine lv_goto (tgt := 74) B.1 B.2.1 dX6_readArgs_70 (by decide) ?_
            have t234 : T24 b8 = 75 := upT hT27 t26 t15 (by decide)
            have n235 : 4 ≤ N25 b8 ∧ N25 b8 ≤ 4 := gn75 hM.2.2.2.2.2.2.1 t234
            refine c_ist B hM t234 kd75 aq75 dX6_readArgs_74 (by omega) (by omega) (show (-2147483648 : Int) ≤ x233 from by omega) (show x233 ≤ (2147483647 : Int) from by omega) (fun I237 H locs hu236 hM => ?_)
            have e238 : I237 b8 v16_2.toNat = x233 := w2_at hu236
            replace hF : Fr mo_X6_readArgs [] T N I J R T24 N25 I237 J56 R34 := hF.wi hu236 (fun h _ => absurd t12 h)
            refine lv_aload_n B.1 B.2.1 dX6_readArgs_75 rfl (lv_at hl 1 rfl) ?_
            refine c_getn (k := 3) pk_X10 B hM t33 kd9 rfl (by decide) fl_X6_289 dX6_readArgs_76 e36 ?_
            refine lv_iload_n B.1 B.2.1 dX6_readArgs_79 rfl (lv_at hl 2 rfl) ?_
            refine lv_aload_n B.1 B.2.1 dX6_readArgs_80 rfl (lv_at hl 0 rfl) ?_
            have e239 : I237 a_this 6 = x63 := (w2_ne hu236 (Or.inl (tne t46 t234 (by decide)))).trans e64
            refine c_geti (k := 6) pk_X6 B hM t46 kd7 rfl (by decide) fl_X6_47 dX6_readArgs_81 e239 ?_
            refine q_con B dX6_readArgs_84 ?_
            refine q_cne (tgt := 95) B dX6_readArgs_85 (by decide) (by unfold inr; omega) (by unfold inr; omega) (fun c240 => ?_) (fun c240 => ?_)
            · refine lv_lconst (v := 0) B.1 B.2.1 dX6_readArgs_95 (by decide) ?_
              refine c_lst B hM t30 kd76 an76 dX6_readArgs_96 (by omega) (by omega) (fun J242 H locs hu241 hM => ?_)
              have e243 : J242 b22 v16_2.toNat = (0 : Int64) := w2_at hu241
              replace hF : Fr mo_X6_readArgs [] T N I J R T24 N25 I237 J242 R34 := hF.wj hu241 (fun h _ => absurd z29 h)
              refine lv_aload_n B.1 B.2.1 dX6_readArgs_97 rfl (lv_at hl 1 rfl) ?_
              refine lv_iload_n B.1 B.2.1 dX6_readArgs_98 rfl (lv_at hl 2 rfl) ?_
              refine q_con B dX6_readArgs_99 ?_
              refine q_add B dX6_readArgs_100 ?_
              refine c_puti (k := 1) pk_X10 B hM t33 kd9 rfl (by decide) fl_X6_292 (Or.inl rfl) dX6_readArgs_101 rfl rfl rfl (show (-2147483648 : Int) ≤ v16_2 + (1 : Int) from by omega) (show v16_2 + (1 : Int) ≤ (2147483647 : Int) from by omega) (fun I244 H locs hu245 hM => ?_)
              have e246 : I244 a_use 1 = v16_2 + (1 : Int) := w2_at hu245
              replace hF : Fr mo_X6_readArgs [] T N I J R T24 N25 I244 J242 R34 := hF.wi hu245 (fun _ _ => by rw [t_use]; rfl)
              refine lv_aload_n B.1 B.2.1 dX6_readArgs_104 rfl (lv_at hl 0 rfl) ?_
              have e247 : I237 a_this 5 = x61 := (w2_ne hu236 (Or.inl (tne t46 t234 (by decide)))).trans e62
              have e248 : I244 a_this 5 = x61 := (w2_ne hu245 (Or.inl (tne t46 t33 (by decide)))).trans e247
              have e249 : I244 a_this 6 = x63 := (w2_ne hu245 (Or.inl (tne t46 t33 (by decide)))).trans e239
              have hv250 : (TKz g_S g_n) ∧ (I244 a_this 5 ≤ g_n) := by first | omega | exact ⟨by first | omega | assumption | exact trivial, by first | omega | assumption | exact trivial⟩
              refine z_callv hM hA (c_runV (n := 0) (as := []) (rest := []) B hX hA hM hl.1 t46 kd7 rfl (k_X6_advance l D dA eA L23 T24 N25 I244 J242 R34 a_this t46 g_t g_s g_S g_n (show R34 a_this 3 = g_t + 1 from e37) (show T24 g_t = 3 from t47) (show R34 g_t 0 = g_s + 1 from e38) (show T24 g_s = 62 from t48) (show I244 g_s = g_S from ((Fr.irow hF p_3 (by decide) nm0 (by decide)).trans p_4)) hv250.1 hv250.2 (show g_S (I244 a_this 5).toNat = I244 a_this 6 from by rw [e248, e249]; first | assumption | omega) _ _) ml_X6_87 nm_X6_advance ⟨rfl, rfl⟩ ⟨Nat.le_of_ble_eq_true rfl, Nat.le_of_ble_eq_true rfl⟩ dX6_readArgs_105 rfl rfl (Nat.le_of_ble_eq_true rfl) ⟨by show 0 + 1 + 1 + 0 ≤ 2; omega, by show 0 + 4 + 4 + 0 ≤ 8; omega⟩) (fun L253 T254 N255 I256 J257 R258 dz259 dl260 H locs hp251 hMn => ?_)
              obtain ⟨yL253, yT254, yN255, yR258, hFc261, hp251a⟩ := hp251
              obtain rfl := yL253.symm; obtain rfl := yT254.symm; obtain rfl := yN255.symm; obtain rfl := yR258.symm
              replace hF : Fr mo_X6_readArgs [] T N I J R T24 N25 I256 J257 R34 := hF.trans hFc261 (by decide) e20
              have hM := hMn
              clear hMn
              replace hp251a : I256 a_this 5 ≤ g_n ∧ g_S (I256 a_this 5).toNat = I256 a_this 6 ∧ (((I244 a_this 6 = 0 ∨ I244 a_this 6 = 1) ∧ I256 a_this 5 = I244 a_this 5) ∨ (I256 a_this 5 = I244 a_this 5 + 1)) := hp251a
              obtain ⟨hp251a_0, hp251a_1, hp251a_2⟩ := hp251a
              obtain ⟨x262, e263⟩ : ∃ v, I256 a_this 5 = v := ⟨_, rfl⟩
              obtain ⟨x264, e265⟩ : ∃ v, I256 a_this 6 = v := ⟨_, rfl⟩
              have nz266 : g_S (x262).toNat = x264 := by have h9 := hp251a_1; rw [e263, e265] at h9; exact h9
              refine lv_aload_n B.1 B.2.1 dX6_readArgs_108 rfl (lv_at hl 0 rfl) ?_
              have r267 : (-2147483648 : Int) ≤ x264 ∧ x264 ≤ 2147483647 := by rw [← e265]; exact g7_6 hM.2.2.2.2.2.2.1 t46
              refine c_geti (k := 6) pk_X6 B hM t46 kd7 rfl (by decide) fl_X6_47 dX6_readArgs_109 e265 ?_
              refine q_bip B dX6_readArgs_112 (by decide) ?_
              refine q_cne (tgt := 123) B dX6_readArgs_114 (by decide) (by unfold inr; omega) (by unfold inr; omega) (fun c268 => ?_) (fun c268 => ?_)
              · refine lv_aload_n B.1 B.2.1 dX6_readArgs_123 rfl (lv_at hl 0 rfl) ?_
                refine c_geti (k := 6) pk_X6 B hM t46 kd7 rfl (by decide) fl_X6_47 dX6_readArgs_124 e265 ?_
                refine q_bip B dX6_readArgs_127 (by decide) ?_
                refine q_ceq (tgt := 138) B dX6_readArgs_129 (by decide) (by unfold inr; omega) (by unfold inr; omega) (fun c269 => ?_) (fun c269 => ?_)
                · refine q_inc (lv' := [(2, .int (II (v16_2 + 1))), (0, .ref a_this), (1, .ref a_use)]) B dX6_readArgs_138 hl (k := 2) rfl (by decide) rfl (fun ls hl => ?_)
                  refine lv_goto (tgt := 16) B.1 B.2.1 dX6_readArgs_141 (by decide) ?_
                  have e270 : I55 a_this 1 = I a_this 1 := (hFc60.i t46 (by decide) nm0 rfl).trans hLL16_6
                  have e271 : I237 a_this 1 = I a_this 1 := (w2_ne hu236 (Or.inl (tne t46 t234 (by decide)))).trans e270
                  have e272 : I244 a_this 1 = I a_this 1 := (w2_ne hu245 (Or.inl (tne t46 t33 (by decide)))).trans e271
                  have e273 : I256 a_this 1 = I a_this 1 := (hFc261.i t46 (by decide) nm0 rfl).trans e272
                  have hv274 : ((-2147483648 : Int) ≤ v16_2 + 1 ∧ (v16_2 + 1 : Int) ≤ 2147483647) ∧ (0 ≤ (v16_2 + 1)) ∧ ((v16_2 + 1) ≤ 4) ∧ (I a_this 5 ≤ I256 a_this 5) ∧ (I256 a_this 5 ≤ g_n) ∧ (I256 a_this 1 = I a_this 1) ∧ (0 ≤ 5 - (v16_2 + 1)) := by first | omega | exact ⟨by first | omega | assumption | exact trivial, by first | omega | assumption | exact trivial, by first | omega | assumption | exact trivial, by first | omega | assumption | exact trivial, by first | omega | assumption | exact trivial, by first | omega | assumption | exact trivial, by first | omega | assumption | exact trivial⟩
                  exact IH16 (v16_2 + 1) I256 J257 _ _ ls hM hF (lv_sub hl [1, 2, 0] rfl) hv274.1 hv274.2.1 hv274.2.2.1 hv274.2.2.2.1 hv274.2.2.2.2.1 (by rw [e263, e265]; first | assumption | omega) hv274.2.2.2.2.2.1 hv274.2.2.2.2.2.2 (by omega)
                · refine lv_aload_n B.1 B.2.1 dX6_readArgs_132 rfl (lv_at hl 0 rfl) ?_
                  refine q_con B dX6_readArgs_133 ?_
                  have hv275 : ((-2147483648 : Int) ≤ 2 ∧ (2 : Int) ≤ 2147483647) ∧ ((2 : Int) ≠ 0) := by first | omega | exact ⟨by first | omega | assumption | exact trivial, by first | omega | assumption | exact trivial⟩
                  refine z_calli hM hA (c_runV (n := 1) (as := [.int (II 2)]) (rest := []) B hX hA hM hl.1 t46 kd7 rfl (k_X6_wrong l D dA eA L23 T24 N25 I256 J257 R34 a_this t46 (2) hv275.1 hv275.2 _ _) ml_X6_84 nm_X6_wrong ⟨rfl, rfl⟩ ⟨Nat.le_of_ble_eq_true rfl, Nat.le_of_ble_eq_true rfl⟩ dX6_readArgs_134 rfl rfl (Nat.le_of_ble_eq_true rfl) ⟨by show 0 + 1 + 1 + 0 ≤ 2; omega, by show 0 + 4 + 4 + 0 ≤ 8; omega⟩) (fun x277 ix277 L278 T279 N280 I281 J282 R283 dz284 dl285 H locs hp276 hMn => ?_)
                  obtain ⟨yL278, yT279, yN280, yJ282, yR283, hFc286, hp276a⟩ := hp276
                  obtain rfl := yL278.symm; obtain rfl := yT279.symm; obtain rfl := yN280.symm; obtain rfl := yJ282.symm; obtain rfl := yR283.symm
                  replace hF : Fr mo_X6_readArgs [] T N I J R T24 N25 I281 J257 R34 := hF.trans hFc286 (by decide) e20
                  have hM := hMn
                  clear hMn
                  replace hp276a : (0 : Int) ≤ x277 ∧ x277 ≤ 1 ∧ (x277 = 0 ∧ I281 a_this 1 ≠ 0) := hp276a
                  obtain ⟨hp276a_0, hp276a_1, hp276a_2⟩ := hp276a
                  obtain ⟨hp276a_2_0, hp276a_2_1⟩ := hp276a_2
                  have e287 : I55 a_this 1 = I a_this 1 := (hFc60.i t46 (by decide) nm0 rfl).trans hLL16_6
                  have e288 : I237 a_this 1 = I a_this 1 := (w2_ne hu236 (Or.inl (tne t46 t234 (by decide)))).trans e287
                  have e289 : I244 a_this 1 = I a_this 1 := (w2_ne hu245 (Or.inl (tne t46 t33 (by decide)))).trans e288
                  have e290 : I256 a_this 1 = I a_this 1 := (hFc261.i t46 (by decide) nm0 rfl).trans e289
                  obtain ⟨x291, e292⟩ : ∃ v, I281 a_this 1 = v := ⟨_, rfl⟩
                  have e293 : I281 a_this 5 = x262 := (hFc286.i t46 (by decide) nm0 rfl).trans e263
                  have e294 : I281 a_this 6 = x264 := (hFc286.i t46 (by decide) nm0 rfl).trans e265
                  refine g_zret B hM dX6_readArgs_137 ⟨by show 0 + 1 + 1 ≤ 2; omega, by show 0 + 4 + 4 ≤ 8; omega⟩ (by omega) (by omega) ?_
                  rw [← hPST]
                  exact ⟨x277, rfl, by omega, hF, by omega, by omega, by first | omega | assumption | exact trivial, by show g_S (I281 a_this 5).toNat = I281 a_this 6; rw [e293, e294]; first | assumption | omega, by first | omega | assumption | exact trivial, by first | omega | assumption | exact trivial, by first | omega | assumption | exact trivial, by first | omega | assumption | exact trivial⟩
              · refine lv_aload_n B.1 B.2.1 dX6_readArgs_117 rfl (lv_at hl 0 rfl) ?_
                have hv295 : (TKz g_S g_n) ∧ (I256 a_this 5 ≤ g_n) := by first | omega | exact ⟨by first | omega | assumption | exact trivial, by first | omega | assumption | exact trivial⟩
                refine z_callv hM hA (c_runV (n := 0) (as := []) (rest := []) B hX hA hM hl.1 t46 kd7 rfl (k_X6_advance l D dA eA L23 T24 N25 I256 J257 R34 a_this t46 g_t g_s g_S g_n (show R34 a_this 3 = g_t + 1 from e37) (show T24 g_t = 3 from t47) (show R34 g_t 0 = g_s + 1 from e38) (show T24 g_s = 62 from t48) (show I256 g_s = g_S from ((Fr.irow hF p_3 (by decide) nm0 (by decide)).trans p_4)) hv295.1 hv295.2 (show g_S (I256 a_this 5).toNat = I256 a_this 6 from by rw [e263, e265]; first | assumption | omega) _ _) ml_X6_87 nm_X6_advance ⟨rfl, rfl⟩ ⟨Nat.le_of_ble_eq_true rfl, Nat.le_of_ble_eq_true rfl⟩ dX6_readArgs_118 rfl rfl (Nat.le_of_ble_eq_true rfl) ⟨by show 0 + 1 + 1 + 0 ≤ 2; omega, by show 0 + 4 + 4 + 0 ≤ 8; omega⟩) (fun L298 T299 N300 I301 J302 R303 dz304 dl305 H locs hp296 hMn => ?_)
                obtain ⟨yL298, yT299, yN300, yR303, hFc306, hp296a⟩ := hp296
                obtain rfl := yL298.symm; obtain rfl := yT299.symm; obtain rfl := yN300.symm; obtain rfl := yR303.symm
                replace hF : Fr mo_X6_readArgs [] T N I J R T24 N25 I301 J302 R34 := hF.trans hFc306 (by decide) e20
                have hM := hMn
                clear hMn
                replace hp296a : I301 a_this 5 ≤ g_n ∧ g_S (I301 a_this 5).toNat = I301 a_this 6 ∧ (((I256 a_this 6 = 0 ∨ I256 a_this 6 = 1) ∧ I301 a_this 5 = I256 a_this 5) ∨ (I301 a_this 5 = I256 a_this 5 + 1)) := hp296a
                obtain ⟨hp296a_0, hp296a_1, hp296a_2⟩ := hp296a
                obtain ⟨x307, e308⟩ : ∃ v, I301 a_this 5 = v := ⟨_, rfl⟩
                obtain ⟨x309, e310⟩ : ∃ v, I301 a_this 6 = v := ⟨_, rfl⟩
                have nz311 : g_S (x307).toNat = x309 := by have h9 := hp296a_1; rw [e308, e310] at h9; exact h9
                refine q_con B dX6_readArgs_121 ?_
                have e312 : I55 a_this 1 = I a_this 1 := (hFc60.i t46 (by decide) nm0 rfl).trans hLL16_6
                have e313 : I237 a_this 1 = I a_this 1 := (w2_ne hu236 (Or.inl (tne t46 t234 (by decide)))).trans e312
                have e314 : I244 a_this 1 = I a_this 1 := (w2_ne hu245 (Or.inl (tne t46 t33 (by decide)))).trans e313
                have e315 : I256 a_this 1 = I a_this 1 := (hFc261.i t46 (by decide) nm0 rfl).trans e314
                have e316 : I301 a_this 1 = I a_this 1 := (hFc306.i t46 (by decide) nm0 rfl).trans e315
                refine g_zret B hM dX6_readArgs_122 ⟨by show 0 + 1 + 1 ≤ 2; omega, by show 0 + 4 + 4 ≤ 8; omega⟩ (by omega) (by omega) ?_
                rw [← hPST]
                exact ⟨(1), rfl, by omega, hF, by omega, by omega, by first | omega | assumption | exact trivial, by show g_S (I301 a_this 5).toNat = I301 a_this 6; rw [e308, e310]; first | assumption | omega, by first | omega | assumption | exact trivial, by first | omega | assumption | exact trivial, by first | omega | assumption | exact trivial, by first | omega | assumption | exact trivial⟩
            · refine lv_aload_n B.1 B.2.1 dX6_readArgs_88 rfl (lv_at hl 0 rfl) ?_
              refine c_getl (k := 7) pk_X6 B hM t46 kd7 rfl (by decide) fl_X6_54 dX6_readArgs_89 e232 ?_
              refine lv_goto (tgt := 96) B.1 B.2.1 dX6_readArgs_92 (by decide) ?_
              refine c_lst B hM t30 kd76 an76 dX6_readArgs_96 (by omega) (by omega) (fun J318 H locs hu317 hM => ?_)
              have e319 : J318 b22 v16_2.toNat = w231 := w2_at hu317
              replace hF : Fr mo_X6_readArgs [] T N I J R T24 N25 I237 J318 R34 := hF.wj hu317 (fun h _ => absurd z29 h)
              refine lv_aload_n B.1 B.2.1 dX6_readArgs_97 rfl (lv_at hl 1 rfl) ?_
              refine lv_iload_n B.1 B.2.1 dX6_readArgs_98 rfl (lv_at hl 2 rfl) ?_
              refine q_con B dX6_readArgs_99 ?_
              refine q_add B dX6_readArgs_100 ?_
              refine c_puti (k := 1) pk_X10 B hM t33 kd9 rfl (by decide) fl_X6_292 (Or.inl rfl) dX6_readArgs_101 rfl rfl rfl (show (-2147483648 : Int) ≤ v16_2 + (1 : Int) from by omega) (show v16_2 + (1 : Int) ≤ (2147483647 : Int) from by omega) (fun I320 H locs hu321 hM => ?_)
              have e322 : I320 a_use 1 = v16_2 + (1 : Int) := w2_at hu321
              replace hF : Fr mo_X6_readArgs [] T N I J R T24 N25 I320 J318 R34 := hF.wi hu321 (fun _ _ => by rw [t_use]; rfl)
              refine lv_aload_n B.1 B.2.1 dX6_readArgs_104 rfl (lv_at hl 0 rfl) ?_
              have e323 : I237 a_this 5 = x61 := (w2_ne hu236 (Or.inl (tne t46 t234 (by decide)))).trans e62
              have e324 : I320 a_this 5 = x61 := (w2_ne hu321 (Or.inl (tne t46 t33 (by decide)))).trans e323
              have e325 : I320 a_this 6 = x63 := (w2_ne hu321 (Or.inl (tne t46 t33 (by decide)))).trans e239
              have hv326 : (TKz g_S g_n) ∧ (I320 a_this 5 ≤ g_n) := by first | omega | exact ⟨by first | omega | assumption | exact trivial, by first | omega | assumption | exact trivial⟩
              refine z_callv hM hA (c_runV (n := 0) (as := []) (rest := []) B hX hA hM hl.1 t46 kd7 rfl (k_X6_advance l D dA eA L23 T24 N25 I320 J318 R34 a_this t46 g_t g_s g_S g_n (show R34 a_this 3 = g_t + 1 from e37) (show T24 g_t = 3 from t47) (show R34 g_t 0 = g_s + 1 from e38) (show T24 g_s = 62 from t48) (show I320 g_s = g_S from ((Fr.irow hF p_3 (by decide) nm0 (by decide)).trans p_4)) hv326.1 hv326.2 (show g_S (I320 a_this 5).toNat = I320 a_this 6 from by rw [e324, e325]; first | assumption | omega) _ _) ml_X6_87 nm_X6_advance ⟨rfl, rfl⟩ ⟨Nat.le_of_ble_eq_true rfl, Nat.le_of_ble_eq_true rfl⟩ dX6_readArgs_105 rfl rfl (Nat.le_of_ble_eq_true rfl) ⟨by show 0 + 1 + 1 + 0 ≤ 2; omega, by show 0 + 4 + 4 + 0 ≤ 8; omega⟩) (fun L329 T330 N331 I332 J333 R334 dz335 dl336 H locs hp327 hMn => ?_)
              obtain ⟨yL329, yT330, yN331, yR334, hFc337, hp327a⟩ := hp327
              obtain rfl := yL329.symm; obtain rfl := yT330.symm; obtain rfl := yN331.symm; obtain rfl := yR334.symm
              replace hF : Fr mo_X6_readArgs [] T N I J R T24 N25 I332 J333 R34 := hF.trans hFc337 (by decide) e20
              have hM := hMn
              clear hMn
              replace hp327a : I332 a_this 5 ≤ g_n ∧ g_S (I332 a_this 5).toNat = I332 a_this 6 ∧ (((I320 a_this 6 = 0 ∨ I320 a_this 6 = 1) ∧ I332 a_this 5 = I320 a_this 5) ∨ (I332 a_this 5 = I320 a_this 5 + 1)) := hp327a
              obtain ⟨hp327a_0, hp327a_1, hp327a_2⟩ := hp327a
              obtain ⟨x338, e339⟩ : ∃ v, I332 a_this 5 = v := ⟨_, rfl⟩
              obtain ⟨x340, e341⟩ : ∃ v, I332 a_this 6 = v := ⟨_, rfl⟩
              have nz342 : g_S (x338).toNat = x340 := by have h9 := hp327a_1; rw [e339, e341] at h9; exact h9
              refine lv_aload_n B.1 B.2.1 dX6_readArgs_108 rfl (lv_at hl 0 rfl) ?_
              have r343 : (-2147483648 : Int) ≤ x340 ∧ x340 ≤ 2147483647 := by rw [← e341]; exact g7_6 hM.2.2.2.2.2.2.1 t46
              refine c_geti (k := 6) pk_X6 B hM t46 kd7 rfl (by decide) fl_X6_47 dX6_readArgs_109 e341 ?_
              refine q_bip B dX6_readArgs_112 (by decide) ?_
              refine q_cne (tgt := 123) B dX6_readArgs_114 (by decide) (by unfold inr; omega) (by unfold inr; omega) (fun c344 => ?_) (fun c344 => ?_)
              · refine lv_aload_n B.1 B.2.1 dX6_readArgs_123 rfl (lv_at hl 0 rfl) ?_
                refine c_geti (k := 6) pk_X6 B hM t46 kd7 rfl (by decide) fl_X6_47 dX6_readArgs_124 e341 ?_
                refine q_bip B dX6_readArgs_127 (by decide) ?_
                refine q_ceq (tgt := 138) B dX6_readArgs_129 (by decide) (by unfold inr; omega) (by unfold inr; omega) (fun c345 => ?_) (fun c345 => ?_)
                · refine q_inc (lv' := [(2, .int (II (v16_2 + 1))), (0, .ref a_this), (1, .ref a_use)]) B dX6_readArgs_138 hl (k := 2) rfl (by decide) rfl (fun ls hl => ?_)
                  refine lv_goto (tgt := 16) B.1 B.2.1 dX6_readArgs_141 (by decide) ?_
                  have e346 : I55 a_this 1 = I a_this 1 := (hFc60.i t46 (by decide) nm0 rfl).trans hLL16_6
                  have e347 : I237 a_this 1 = I a_this 1 := (w2_ne hu236 (Or.inl (tne t46 t234 (by decide)))).trans e346
                  have e348 : I320 a_this 1 = I a_this 1 := (w2_ne hu321 (Or.inl (tne t46 t33 (by decide)))).trans e347
                  have e349 : I332 a_this 1 = I a_this 1 := (hFc337.i t46 (by decide) nm0 rfl).trans e348
                  have hv350 : ((-2147483648 : Int) ≤ v16_2 + 1 ∧ (v16_2 + 1 : Int) ≤ 2147483647) ∧ (0 ≤ (v16_2 + 1)) ∧ ((v16_2 + 1) ≤ 4) ∧ (I a_this 5 ≤ I332 a_this 5) ∧ (I332 a_this 5 ≤ g_n) ∧ (I332 a_this 1 = I a_this 1) ∧ (0 ≤ 5 - (v16_2 + 1)) := by first | omega | exact ⟨by first | omega | assumption | exact trivial, by first | omega | assumption | exact trivial, by first | omega | assumption | exact trivial, by first | omega | assumption | exact trivial, by first | omega | assumption | exact trivial, by first | omega | assumption | exact trivial, by first | omega | assumption | exact trivial⟩
                  exact IH16 (v16_2 + 1) I332 J333 _ _ ls hM hF (lv_sub hl [1, 2, 0] rfl) hv350.1 hv350.2.1 hv350.2.2.1 hv350.2.2.2.1 hv350.2.2.2.2.1 (by rw [e339, e341]; first | assumption | omega) hv350.2.2.2.2.2.1 hv350.2.2.2.2.2.2 (by omega)
                · refine lv_aload_n B.1 B.2.1 dX6_readArgs_132 rfl (lv_at hl 0 rfl) ?_
                  refine q_con B dX6_readArgs_133 ?_
                  have hv351 : ((-2147483648 : Int) ≤ 2 ∧ (2 : Int) ≤ 2147483647) ∧ ((2 : Int) ≠ 0) := by first | omega | exact ⟨by first | omega | assumption | exact trivial, by first | omega | assumption | exact trivial⟩
                  refine z_calli hM hA (c_runV (n := 1) (as := [.int (II 2)]) (rest := []) B hX hA hM hl.1 t46 kd7 rfl (k_X6_wrong l D dA eA L23 T24 N25 I332 J333 R34 a_this t46 (2) hv351.1 hv351.2 _ _) ml_X6_84 nm_X6_wrong ⟨rfl, rfl⟩ ⟨Nat.le_of_ble_eq_true rfl, Nat.le_of_ble_eq_true rfl⟩ dX6_readArgs_134 rfl rfl (Nat.le_of_ble_eq_true rfl) ⟨by show 0 + 1 + 1 + 0 ≤ 2; omega, by show 0 + 4 + 4 + 0 ≤ 8; omega⟩) (fun x353 ix353 L354 T355 N356 I357 J358 R359 dz360 dl361 H locs hp352 hMn => ?_)
                  obtain ⟨yL354, yT355, yN356, yJ358, yR359, hFc362, hp352a⟩ := hp352
                  obtain rfl := yL354.symm; obtain rfl := yT355.symm; obtain rfl := yN356.symm; obtain rfl := yJ358.symm; obtain rfl := yR359.symm
                  replace hF : Fr mo_X6_readArgs [] T N I J R T24 N25 I357 J333 R34 := hF.trans hFc362 (by decide) e20
                  have hM := hMn
                  clear hMn
                  replace hp352a : (0 : Int) ≤ x353 ∧ x353 ≤ 1 ∧ (x353 = 0 ∧ I357 a_this 1 ≠ 0) := hp352a
                  obtain ⟨hp352a_0, hp352a_1, hp352a_2⟩ := hp352a
                  obtain ⟨hp352a_2_0, hp352a_2_1⟩ := hp352a_2
                  have e363 : I55 a_this 1 = I a_this 1 := (hFc60.i t46 (by decide) nm0 rfl).trans hLL16_6
                  have e364 : I237 a_this 1 = I a_this 1 := (w2_ne hu236 (Or.inl (tne t46 t234 (by decide)))).trans e363
                  have e365 : I320 a_this 1 = I a_this 1 := (w2_ne hu321 (Or.inl (tne t46 t33 (by decide)))).trans e364
                  have e366 : I332 a_this 1 = I a_this 1 := (hFc337.i t46 (by decide) nm0 rfl).trans e365
                  obtain ⟨x367, e368⟩ : ∃ v, I357 a_this 1 = v := ⟨_, rfl⟩
                  have e369 : I357 a_this 5 = x338 := (hFc362.i t46 (by decide) nm0 rfl).trans e339
                  have e370 : I357 a_this 6 = x340 := (hFc362.i t46 (by decide) nm0 rfl).trans e341
                  refine g_zret B hM dX6_readArgs_137 ⟨by show 0 + 1 + 1 ≤ 2; omega, by show 0 + 4 + 4 ≤ 8; omega⟩ (by omega) (by omega) ?_
                  rw [← hPST]
                  exact ⟨x353, rfl, by omega, hF, by omega, by omega, by first | omega | assumption | exact trivial, by show g_S (I357 a_this 5).toNat = I357 a_this 6; rw [e369, e370]; first | assumption | omega, by first | omega | assumption | exact trivial, by first | omega | assumption | exact trivial, by first | omega | assumption | exact trivial, by first | omega | assumption | exact trivial⟩
              · refine lv_aload_n B.1 B.2.1 dX6_readArgs_117 rfl (lv_at hl 0 rfl) ?_
                have hv371 : (TKz g_S g_n) ∧ (I332 a_this 5 ≤ g_n) := by first | omega | exact ⟨by first | omega | assumption | exact trivial, by first | omega | assumption | exact trivial⟩
                refine z_callv hM hA (c_runV (n := 0) (as := []) (rest := []) B hX hA hM hl.1 t46 kd7 rfl (k_X6_advance l D dA eA L23 T24 N25 I332 J333 R34 a_this t46 g_t g_s g_S g_n (show R34 a_this 3 = g_t + 1 from e37) (show T24 g_t = 3 from t47) (show R34 g_t 0 = g_s + 1 from e38) (show T24 g_s = 62 from t48) (show I332 g_s = g_S from ((Fr.irow hF p_3 (by decide) nm0 (by decide)).trans p_4)) hv371.1 hv371.2 (show g_S (I332 a_this 5).toNat = I332 a_this 6 from by rw [e339, e341]; first | assumption | omega) _ _) ml_X6_87 nm_X6_advance ⟨rfl, rfl⟩ ⟨Nat.le_of_ble_eq_true rfl, Nat.le_of_ble_eq_true rfl⟩ dX6_readArgs_118 rfl rfl (Nat.le_of_ble_eq_true rfl) ⟨by show 0 + 1 + 1 + 0 ≤ 2; omega, by show 0 + 4 + 4 + 0 ≤ 8; omega⟩) (fun L374 T375 N376 I377 J378 R379 dz380 dl381 H locs hp372 hMn => ?_)
                obtain ⟨yL374, yT375, yN376, yR379, hFc382, hp372a⟩ := hp372
                obtain rfl := yL374.symm; obtain rfl := yT375.symm; obtain rfl := yN376.symm; obtain rfl := yR379.symm
                replace hF : Fr mo_X6_readArgs [] T N I J R T24 N25 I377 J378 R34 := hF.trans hFc382 (by decide) e20
                have hM := hMn
                clear hMn
                replace hp372a : I377 a_this 5 ≤ g_n ∧ g_S (I377 a_this 5).toNat = I377 a_this 6 ∧ (((I332 a_this 6 = 0 ∨ I332 a_this 6 = 1) ∧ I377 a_this 5 = I332 a_this 5) ∨ (I377 a_this 5 = I332 a_this 5 + 1)) := hp372a
                obtain ⟨hp372a_0, hp372a_1, hp372a_2⟩ := hp372a
                obtain ⟨x383, e384⟩ : ∃ v, I377 a_this 5 = v := ⟨_, rfl⟩
                obtain ⟨x385, e386⟩ : ∃ v, I377 a_this 6 = v := ⟨_, rfl⟩
                have nz387 : g_S (x383).toNat = x385 := by have h9 := hp372a_1; rw [e384, e386] at h9; exact h9
                refine q_con B dX6_readArgs_121 ?_
                have e388 : I55 a_this 1 = I a_this 1 := (hFc60.i t46 (by decide) nm0 rfl).trans hLL16_6
                have e389 : I237 a_this 1 = I a_this 1 := (w2_ne hu236 (Or.inl (tne t46 t234 (by decide)))).trans e388
                have e390 : I320 a_this 1 = I a_this 1 := (w2_ne hu321 (Or.inl (tne t46 t33 (by decide)))).trans e389
                have e391 : I332 a_this 1 = I a_this 1 := (hFc337.i t46 (by decide) nm0 rfl).trans e390
                have e392 : I377 a_this 1 = I a_this 1 := (hFc382.i t46 (by decide) nm0 rfl).trans e391
                refine g_zret B hM dX6_readArgs_122 ⟨by show 0 + 1 + 1 ≤ 2; omega, by show 0 + 4 + 4 ≤ 8; omega⟩ (by omega) (by omega) ?_
                rw [← hPST]
                exact ⟨(1), rfl, by omega, hF, by omega, by omega, by first | omega | assumption | exact trivial, by show g_S (I377 a_this 5).toNat = I377 a_this 6; rw [e384, e386]; first | assumption | omega, by first | omega | assumption | exact trivial, by first | omega | assumption | exact trivial, by first | omega | assumption | exact trivial, by first | omega | assumption | exact trivial⟩
        · refine lv_aload_n B.1 B.2.1 dX6_readArgs_46 rfl (lv_at hl 0 rfl) ?_
          refine q_con B dX6_readArgs_47 ?_
          have hv393 : ((-2147483648 : Int) ≤ 2 ∧ (2 : Int) ≤ 2147483647) ∧ ((2 : Int) ≠ 0) := by first | omega | exact ⟨by first | omega | assumption | exact trivial, by first | omega | assumption | exact trivial⟩
          refine z_calli hM hA (c_runV (n := 1) (as := [.int (II 2)]) (rest := []) B hX hA hM hl.1 t46 kd7 rfl (k_X6_wrong l D dA eA L23 T24 N25 I55 J56 R34 a_this t46 (2) hv393.1 hv393.2 _ _) ml_X6_84 nm_X6_wrong ⟨rfl, rfl⟩ ⟨Nat.le_of_ble_eq_true rfl, Nat.le_of_ble_eq_true rfl⟩ dX6_readArgs_48 rfl rfl (Nat.le_of_ble_eq_true rfl) ⟨by show 0 + 1 + 1 + 0 ≤ 2; omega, by show 0 + 4 + 4 + 0 ≤ 8; omega⟩) (fun x395 ix395 L396 T397 N398 I399 J400 R401 dz402 dl403 H locs hp394 hMn => ?_)
          obtain ⟨yL396, yT397, yN398, yJ400, yR401, hFc404, hp394a⟩ := hp394
          obtain rfl := yL396.symm; obtain rfl := yT397.symm; obtain rfl := yN398.symm; obtain rfl := yJ400.symm; obtain rfl := yR401.symm
          replace hF : Fr mo_X6_readArgs [] T N I J R T24 N25 I399 J56 R34 := hF.trans hFc404 (by decide) e20
          have hM := hMn
          clear hMn
          replace hp394a : (0 : Int) ≤ x395 ∧ x395 ≤ 1 ∧ (x395 = 0 ∧ I399 a_this 1 ≠ 0) := hp394a
          obtain ⟨hp394a_0, hp394a_1, hp394a_2⟩ := hp394a
          obtain ⟨hp394a_2_0, hp394a_2_1⟩ := hp394a_2
          have e405 : I55 a_this 1 = I a_this 1 := (hFc60.i t46 (by decide) nm0 rfl).trans hLL16_6
          obtain ⟨x406, e407⟩ : ∃ v, I399 a_this 1 = v := ⟨_, rfl⟩
          have e408 : I399 a_this 5 = x61 := (hFc404.i t46 (by decide) nm0 rfl).trans e62
          have e409 : I399 a_this 6 = x63 := (hFc404.i t46 (by decide) nm0 rfl).trans e64
          refine g_zret B hM dX6_readArgs_51 ⟨by show 0 + 1 + 1 ≤ 2; omega, by show 0 + 4 + 4 ≤ 8; omega⟩ (by omega) (by omega) ?_
          rw [← hPST]
          exact ⟨x395, rfl, by omega, hF, by omega, by omega, by first | omega | assumption | exact trivial, by show g_S (I399 a_this 5).toNat = I399 a_this 6; rw [e408, e409]; first | assumption | omega, by first | omega | assumption | exact trivial, by first | omega | assumption | exact trivial, by first | omega | assumption | exact trivial, by first | omega | assumption | exact trivial⟩
      · refine lv_aload_n B.1 B.2.1 dX6_readArgs_33 rfl (lv_at hl 0 rfl) ?_
        refine c_geti (k := 6) pk_X6 B hM t46 kd7 rfl (by decide) fl_X6_47 dX6_readArgs_34 e64 ?_
        refine q_con B dX6_readArgs_37 ?_
        refine q_cne (tgt := 46) B dX6_readArgs_38 (by decide) (by unfold inr; omega) (by unfold inr; omega) (fun c410 => ?_) (fun c410 => ?_)
        · refine lv_aload_n B.1 B.2.1 dX6_readArgs_46 rfl (lv_at hl 0 rfl) ?_
          refine q_con B dX6_readArgs_47 ?_
          have hv411 : ((-2147483648 : Int) ≤ 2 ∧ (2 : Int) ≤ 2147483647) ∧ ((2 : Int) ≠ 0) := by first | omega | exact ⟨by first | omega | assumption | exact trivial, by first | omega | assumption | exact trivial⟩
          refine z_calli hM hA (c_runV (n := 1) (as := [.int (II 2)]) (rest := []) B hX hA hM hl.1 t46 kd7 rfl (k_X6_wrong l D dA eA L23 T24 N25 I55 J56 R34 a_this t46 (2) hv411.1 hv411.2 _ _) ml_X6_84 nm_X6_wrong ⟨rfl, rfl⟩ ⟨Nat.le_of_ble_eq_true rfl, Nat.le_of_ble_eq_true rfl⟩ dX6_readArgs_48 rfl rfl (Nat.le_of_ble_eq_true rfl) ⟨by show 0 + 1 + 1 + 0 ≤ 2; omega, by show 0 + 4 + 4 + 0 ≤ 8; omega⟩) (fun x413 ix413 L414 T415 N416 I417 J418 R419 dz420 dl421 H locs hp412 hMn => ?_)
          obtain ⟨yL414, yT415, yN416, yJ418, yR419, hFc422, hp412a⟩ := hp412
          obtain rfl := yL414.symm; obtain rfl := yT415.symm; obtain rfl := yN416.symm; obtain rfl := yJ418.symm; obtain rfl := yR419.symm
          replace hF : Fr mo_X6_readArgs [] T N I J R T24 N25 I417 J56 R34 := hF.trans hFc422 (by decide) e20
          have hM := hMn
          clear hMn
          replace hp412a : (0 : Int) ≤ x413 ∧ x413 ≤ 1 ∧ (x413 = 0 ∧ I417 a_this 1 ≠ 0) := hp412a
          obtain ⟨hp412a_0, hp412a_1, hp412a_2⟩ := hp412a
          obtain ⟨hp412a_2_0, hp412a_2_1⟩ := hp412a_2
          have e423 : I55 a_this 1 = I a_this 1 := (hFc60.i t46 (by decide) nm0 rfl).trans hLL16_6
          obtain ⟨x424, e425⟩ : ∃ v, I417 a_this 1 = v := ⟨_, rfl⟩
          have e426 : I417 a_this 5 = x61 := (hFc422.i t46 (by decide) nm0 rfl).trans e62
          have e427 : I417 a_this 6 = x63 := (hFc422.i t46 (by decide) nm0 rfl).trans e64
          refine g_zret B hM dX6_readArgs_51 ⟨by show 0 + 1 + 1 ≤ 2; omega, by show 0 + 4 + 4 ≤ 8; omega⟩ (by omega) (by omega) ?_
          rw [← hPST]
          exact ⟨x413, rfl, by omega, hF, by omega, by omega, by first | omega | assumption | exact trivial, by show g_S (I417 a_this 5).toNat = I417 a_this 6; rw [e426, e427]; first | assumption | omega, by first | omega | assumption | exact trivial, by first | omega | assumption | exact trivial, by first | omega | assumption | exact trivial, by first | omega | assumption | exact trivial⟩
        · refine lv_iload_n B.1 B.2.1 dX6_readArgs_41 rfl (lv_at hl 2 rfl) ?_
          refine q_con B dX6_readArgs_42 ?_
          refine q_clt (tgt := 52) B dX6_readArgs_43 (by decide) (by unfold inr; omega) (by unfold inr; omega) (fun c428 => ?_) (fun c428 => ?_)
          · refine lv_aload_n B.1 B.2.1 dX6_readArgs_52 rfl (lv_at hl 1 rfl) ?_
            refine c_getn (k := 2) pk_X10 B hM t33 kd9 rfl (by decide) fl_X6_286 dX6_readArgs_53 e39 ?_
            refine lv_iload_n B.1 B.2.1 dX6_readArgs_56 rfl (lv_at hl 2 rfl) ?_
            refine lv_aload_n B.1 B.2.1 dX6_readArgs_57 rfl (lv_at hl 0 rfl) ?_
            refine c_geti (k := 6) pk_X6 B hM t46 kd7 rfl (by decide) fl_X6_47 dX6_readArgs_58 e64 ?_
            refine q_con B dX6_readArgs_61 ?_
            refine q_cne (tgt := 73) B dX6_readArgs_62 (by decide) (by unfold inr; omega) (by unfold inr; omega) (fun c429 => ?_) (fun c429 => ?_)
            · refine q_con B dX6_readArgs_73 ?_
              have t430 : T24 b8 = 75 := upT hT27 t26 t15 (by decide)
              have n431 : 4 ≤ N25 b8 ∧ N25 b8 ≤ 4 := gn75 hM.2.2.2.2.2.2.1 t430
              refine c_ist B hM t430 kd75 aq75 dX6_readArgs_74 (by omega) (by omega) (show (-2147483648 : Int) ≤ 0 from by omega) (show 0 ≤ (2147483647 : Int) from by omega) (fun I433 H locs hu432 hM => ?_)
              have e434 : I433 b8 v16_2.toNat = 0 := w2_at hu432
              replace hF : Fr mo_X6_readArgs [] T N I J R T24 N25 I433 J56 R34 := hF.wi hu432 (fun h _ => absurd t12 h)
              refine lv_aload_n B.1 B.2.1 dX6_readArgs_75 rfl (lv_at hl 1 rfl) ?_
              refine c_getn (k := 3) pk_X10 B hM t33 kd9 rfl (by decide) fl_X6_289 dX6_readArgs_76 e36 ?_
              refine lv_iload_n B.1 B.2.1 dX6_readArgs_79 rfl (lv_at hl 2 rfl) ?_
              refine lv_aload_n B.1 B.2.1 dX6_readArgs_80 rfl (lv_at hl 0 rfl) ?_
              have e435 : I433 a_this 6 = x63 := (w2_ne hu432 (Or.inl (tne t46 t430 (by decide)))).trans e64
              refine c_geti (k := 6) pk_X6 B hM t46 kd7 rfl (by decide) fl_X6_47 dX6_readArgs_81 e435 ?_
              refine q_con B dX6_readArgs_84 ?_
              refine q_cne (tgt := 95) B dX6_readArgs_85 (by decide) (by unfold inr; omega) (by unfold inr; omega) (fun c436 => ?_) (fun c436 => ?_)
              · refine lv_lconst (v := 0) B.1 B.2.1 dX6_readArgs_95 (by decide) ?_
                refine c_lst B hM t30 kd76 an76 dX6_readArgs_96 (by omega) (by omega) (fun J438 H locs hu437 hM => ?_)
                have e439 : J438 b22 v16_2.toNat = (0 : Int64) := w2_at hu437
                replace hF : Fr mo_X6_readArgs [] T N I J R T24 N25 I433 J438 R34 := hF.wj hu437 (fun h _ => absurd z29 h)
                refine lv_aload_n B.1 B.2.1 dX6_readArgs_97 rfl (lv_at hl 1 rfl) ?_
                refine lv_iload_n B.1 B.2.1 dX6_readArgs_98 rfl (lv_at hl 2 rfl) ?_
                refine q_con B dX6_readArgs_99 ?_
                refine q_add B dX6_readArgs_100 ?_
                refine c_puti (k := 1) pk_X10 B hM t33 kd9 rfl (by decide) fl_X6_292 (Or.inl rfl) dX6_readArgs_101 rfl rfl rfl (show (-2147483648 : Int) ≤ v16_2 + (1 : Int) from by omega) (show v16_2 + (1 : Int) ≤ (2147483647 : Int) from by omega) (fun I440 H locs hu441 hM => ?_)
                have e442 : I440 a_use 1 = v16_2 + (1 : Int) := w2_at hu441
                replace hF : Fr mo_X6_readArgs [] T N I J R T24 N25 I440 J438 R34 := hF.wi hu441 (fun _ _ => by rw [t_use]; rfl)
                refine lv_aload_n B.1 B.2.1 dX6_readArgs_104 rfl (lv_at hl 0 rfl) ?_
                have e443 : I433 a_this 5 = x61 := (w2_ne hu432 (Or.inl (tne t46 t430 (by decide)))).trans e62
                have e444 : I440 a_this 5 = x61 := (w2_ne hu441 (Or.inl (tne t46 t33 (by decide)))).trans e443
                have e445 : I440 a_this 6 = x63 := (w2_ne hu441 (Or.inl (tne t46 t33 (by decide)))).trans e435
                have hv446 : (TKz g_S g_n) ∧ (I440 a_this 5 ≤ g_n) := by first | omega | exact ⟨by first | omega | assumption | exact trivial, by first | omega | assumption | exact trivial⟩
                refine z_callv hM hA (c_runV (n := 0) (as := []) (rest := []) B hX hA hM hl.1 t46 kd7 rfl (k_X6_advance l D dA eA L23 T24 N25 I440 J438 R34 a_this t46 g_t g_s g_S g_n (show R34 a_this 3 = g_t + 1 from e37) (show T24 g_t = 3 from t47) (show R34 g_t 0 = g_s + 1 from e38) (show T24 g_s = 62 from t48) (show I440 g_s = g_S from ((Fr.irow hF p_3 (by decide) nm0 (by decide)).trans p_4)) hv446.1 hv446.2 (show g_S (I440 a_this 5).toNat = I440 a_this 6 from by rw [e444, e445]; first | assumption | omega) _ _) ml_X6_87 nm_X6_advance ⟨rfl, rfl⟩ ⟨Nat.le_of_ble_eq_true rfl, Nat.le_of_ble_eq_true rfl⟩ dX6_readArgs_105 rfl rfl (Nat.le_of_ble_eq_true rfl) ⟨by show 0 + 1 + 1 + 0 ≤ 2; omega, by show 0 + 4 + 4 + 0 ≤ 8; omega⟩) (fun L449 T450 N451 I452 J453 R454 dz455 dl456 H locs hp447 hMn => ?_)
                obtain ⟨yL449, yT450, yN451, yR454, hFc457, hp447a⟩ := hp447
                obtain rfl := yL449.symm; obtain rfl := yT450.symm; obtain rfl := yN451.symm; obtain rfl := yR454.symm
                replace hF : Fr mo_X6_readArgs [] T N I J R T24 N25 I452 J453 R34 := hF.trans hFc457 (by decide) e20
                have hM := hMn
                clear hMn
                replace hp447a : I452 a_this 5 ≤ g_n ∧ g_S (I452 a_this 5).toNat = I452 a_this 6 ∧ (((I440 a_this 6 = 0 ∨ I440 a_this 6 = 1) ∧ I452 a_this 5 = I440 a_this 5) ∨ (I452 a_this 5 = I440 a_this 5 + 1)) := hp447a
                obtain ⟨hp447a_0, hp447a_1, hp447a_2⟩ := hp447a
                obtain ⟨x458, e459⟩ : ∃ v, I452 a_this 5 = v := ⟨_, rfl⟩
                obtain ⟨x460, e461⟩ : ∃ v, I452 a_this 6 = v := ⟨_, rfl⟩
                have nz462 : g_S (x458).toNat = x460 := by have h9 := hp447a_1; rw [e459, e461] at h9; exact h9
                refine lv_aload_n B.1 B.2.1 dX6_readArgs_108 rfl (lv_at hl 0 rfl) ?_
                have r463 : (-2147483648 : Int) ≤ x460 ∧ x460 ≤ 2147483647 := by rw [← e461]; exact g7_6 hM.2.2.2.2.2.2.1 t46
                refine c_geti (k := 6) pk_X6 B hM t46 kd7 rfl (by decide) fl_X6_47 dX6_readArgs_109 e461 ?_
                refine q_bip B dX6_readArgs_112 (by decide) ?_
                refine q_cne (tgt := 123) B dX6_readArgs_114 (by decide) (by unfold inr; omega) (by unfold inr; omega) (fun c464 => ?_) (fun c464 => ?_)
                · refine lv_aload_n B.1 B.2.1 dX6_readArgs_123 rfl (lv_at hl 0 rfl) ?_
                  refine c_geti (k := 6) pk_X6 B hM t46 kd7 rfl (by decide) fl_X6_47 dX6_readArgs_124 e461 ?_
                  refine q_bip B dX6_readArgs_127 (by decide) ?_
                  refine q_ceq (tgt := 138) B dX6_readArgs_129 (by decide) (by unfold inr; omega) (by unfold inr; omega) (fun c465 => ?_) (fun c465 => ?_)
                  · refine q_inc (lv' := [(2, .int (II (v16_2 + 1))), (0, .ref a_this), (1, .ref a_use)]) B dX6_readArgs_138 hl (k := 2) rfl (by decide) rfl (fun ls hl => ?_)
                    refine lv_goto (tgt := 16) B.1 B.2.1 dX6_readArgs_141 (by decide) ?_
                    have e466 : I55 a_this 1 = I a_this 1 := (hFc60.i t46 (by decide) nm0 rfl).trans hLL16_6
                    have e467 : I433 a_this 1 = I a_this 1 := (w2_ne hu432 (Or.inl (tne t46 t430 (by decide)))).trans e466
                    have e468 : I440 a_this 1 = I a_this 1 := (w2_ne hu441 (Or.inl (tne t46 t33 (by decide)))).trans e467
                    have e469 : I452 a_this 1 = I a_this 1 := (hFc457.i t46 (by decide) nm0 rfl).trans e468
                    have hv470 : ((-2147483648 : Int) ≤ v16_2 + 1 ∧ (v16_2 + 1 : Int) ≤ 2147483647) ∧ (0 ≤ (v16_2 + 1)) ∧ ((v16_2 + 1) ≤ 4) ∧ (I a_this 5 ≤ I452 a_this 5) ∧ (I452 a_this 5 ≤ g_n) ∧ (I452 a_this 1 = I a_this 1) ∧ (0 ≤ 5 - (v16_2 + 1)) := by first | omega | exact ⟨by first | omega | assumption | exact trivial, by first | omega | assumption | exact trivial, by first | omega | assumption | exact trivial, by first | omega | assumption | exact trivial, by first | omega | assumption | exact trivial, by first | omega | assumption | exact trivial, by first | omega | assumption | exact trivial⟩
                    exact IH16 (v16_2 + 1) I452 J453 _ _ ls hM hF (lv_sub hl [1, 2, 0] rfl) hv470.1 hv470.2.1 hv470.2.2.1 hv470.2.2.2.1 hv470.2.2.2.2.1 (by rw [e459, e461]; first | assumption | omega) hv470.2.2.2.2.2.1 hv470.2.2.2.2.2.2 (by omega)
                  · refine lv_aload_n B.1 B.2.1 dX6_readArgs_132 rfl (lv_at hl 0 rfl) ?_
                    refine q_con B dX6_readArgs_133 ?_
                    have hv471 : ((-2147483648 : Int) ≤ 2 ∧ (2 : Int) ≤ 2147483647) ∧ ((2 : Int) ≠ 0) := by first | omega | exact ⟨by first | omega | assumption | exact trivial, by first | omega | assumption | exact trivial⟩
                    refine z_calli hM hA (c_runV (n := 1) (as := [.int (II 2)]) (rest := []) B hX hA hM hl.1 t46 kd7 rfl (k_X6_wrong l D dA eA L23 T24 N25 I452 J453 R34 a_this t46 (2) hv471.1 hv471.2 _ _) ml_X6_84 nm_X6_wrong ⟨rfl, rfl⟩ ⟨Nat.le_of_ble_eq_true rfl, Nat.le_of_ble_eq_true rfl⟩ dX6_readArgs_134 rfl rfl (Nat.le_of_ble_eq_true rfl) ⟨by show 0 + 1 + 1 + 0 ≤ 2; omega, by show 0 + 4 + 4 + 0 ≤ 8; omega⟩) (fun x473 ix473 L474 T475 N476 I477 J478 R479 dz480 dl481 H locs hp472 hMn => ?_)
                    obtain ⟨yL474, yT475, yN476, yJ478, yR479, hFc482, hp472a⟩ := hp472
                    obtain rfl := yL474.symm; obtain rfl := yT475.symm; obtain rfl := yN476.symm; obtain rfl := yJ478.symm; obtain rfl := yR479.symm
                    replace hF : Fr mo_X6_readArgs [] T N I J R T24 N25 I477 J453 R34 := hF.trans hFc482 (by decide) e20
                    have hM := hMn
                    clear hMn
                    replace hp472a : (0 : Int) ≤ x473 ∧ x473 ≤ 1 ∧ (x473 = 0 ∧ I477 a_this 1 ≠ 0) := hp472a
                    obtain ⟨hp472a_0, hp472a_1, hp472a_2⟩ := hp472a
                    obtain ⟨hp472a_2_0, hp472a_2_1⟩ := hp472a_2
                    have e483 : I55 a_this 1 = I a_this 1 := (hFc60.i t46 (by decide) nm0 rfl).trans hLL16_6
                    have e484 : I433 a_this 1 = I a_this 1 := (w2_ne hu432 (Or.inl (tne t46 t430 (by decide)))).trans e483
                    have e485 : I440 a_this 1 = I a_this 1 := (w2_ne hu441 (Or.inl (tne t46 t33 (by decide)))).trans e484
                    have e486 : I452 a_this 1 = I a_this 1 := (hFc457.i t46 (by decide) nm0 rfl).trans e485
                    obtain ⟨x487, e488⟩ : ∃ v, I477 a_this 1 = v := ⟨_, rfl⟩
                    have e489 : I477 a_this 5 = x458 := (hFc482.i t46 (by decide) nm0 rfl).trans e459
                    have e490 : I477 a_this 6 = x460 := (hFc482.i t46 (by decide) nm0 rfl).trans e461
                    refine g_zret B hM dX6_readArgs_137 ⟨by show 0 + 1 + 1 ≤ 2; omega, by show 0 + 4 + 4 ≤ 8; omega⟩ (by omega) (by omega) ?_
                    rw [← hPST]
                    exact ⟨x473, rfl, by omega, hF, by omega, by omega, by first | omega | assumption | exact trivial, by show g_S (I477 a_this 5).toNat = I477 a_this 6; rw [e489, e490]; first | assumption | omega, by first | omega | assumption | exact trivial, by first | omega | assumption | exact trivial, by first | omega | assumption | exact trivial, by first | omega | assumption | exact trivial⟩
                · refine lv_aload_n B.1 B.2.1 dX6_readArgs_117 rfl (lv_at hl 0 rfl) ?_
                  have hv491 : (TKz g_S g_n) ∧ (I452 a_this 5 ≤ g_n) := by first | omega | exact ⟨by first | omega | assumption | exact trivial, by first | omega | assumption | exact trivial⟩
                  refine z_callv hM hA (c_runV (n := 0) (as := []) (rest := []) B hX hA hM hl.1 t46 kd7 rfl (k_X6_advance l D dA eA L23 T24 N25 I452 J453 R34 a_this t46 g_t g_s g_S g_n (show R34 a_this 3 = g_t + 1 from e37) (show T24 g_t = 3 from t47) (show R34 g_t 0 = g_s + 1 from e38) (show T24 g_s = 62 from t48) (show I452 g_s = g_S from ((Fr.irow hF p_3 (by decide) nm0 (by decide)).trans p_4)) hv491.1 hv491.2 (show g_S (I452 a_this 5).toNat = I452 a_this 6 from by rw [e459, e461]; first | assumption | omega) _ _) ml_X6_87 nm_X6_advance ⟨rfl, rfl⟩ ⟨Nat.le_of_ble_eq_true rfl, Nat.le_of_ble_eq_true rfl⟩ dX6_readArgs_118 rfl rfl (Nat.le_of_ble_eq_true rfl) ⟨by show 0 + 1 + 1 + 0 ≤ 2; omega, by show 0 + 4 + 4 + 0 ≤ 8; omega⟩) (fun L494 T495 N496 I497 J498 R499 dz500 dl501 H locs hp492 hMn => ?_)
                  obtain ⟨yL494, yT495, yN496, yR499, hFc502, hp492a⟩ := hp492
                  obtain rfl := yL494.symm; obtain rfl := yT495.symm; obtain rfl := yN496.symm; obtain rfl := yR499.symm
                  replace hF : Fr mo_X6_readArgs [] T N I J R T24 N25 I497 J498 R34 := hF.trans hFc502 (by decide) e20
                  have hM := hMn
                  clear hMn
                  replace hp492a : I497 a_this 5 ≤ g_n ∧ g_S (I497 a_this 5).toNat = I497 a_this 6 ∧ (((I452 a_this 6 = 0 ∨ I452 a_this 6 = 1) ∧ I497 a_this 5 = I452 a_this 5) ∨ (I497 a_this 5 = I452 a_this 5 + 1)) := hp492a
                  obtain ⟨hp492a_0, hp492a_1, hp492a_2⟩ := hp492a
                  obtain ⟨x503, e504⟩ : ∃ v, I497 a_this 5 = v := ⟨_, rfl⟩
                  obtain ⟨x505, e506⟩ : ∃ v, I497 a_this 6 = v := ⟨_, rfl⟩
                  have nz507 : g_S (x503).toNat = x505 := by have h9 := hp492a_1; rw [e504, e506] at h9; exact h9
                  refine q_con B dX6_readArgs_121 ?_
                  have e508 : I55 a_this 1 = I a_this 1 := (hFc60.i t46 (by decide) nm0 rfl).trans hLL16_6
                  have e509 : I433 a_this 1 = I a_this 1 := (w2_ne hu432 (Or.inl (tne t46 t430 (by decide)))).trans e508
                  have e510 : I440 a_this 1 = I a_this 1 := (w2_ne hu441 (Or.inl (tne t46 t33 (by decide)))).trans e509
                  have e511 : I452 a_this 1 = I a_this 1 := (hFc457.i t46 (by decide) nm0 rfl).trans e510
                  have e512 : I497 a_this 1 = I a_this 1 := (hFc502.i t46 (by decide) nm0 rfl).trans e511
                  refine g_zret B hM dX6_readArgs_122 ⟨by show 0 + 1 + 1 ≤ 2; omega, by show 0 + 4 + 4 ≤ 8; omega⟩ (by omega) (by omega) ?_
                  rw [← hPST]
                  exact ⟨(1), rfl, by omega, hF, by omega, by omega, by first | omega | assumption | exact trivial, by show g_S (I497 a_this 5).toNat = I497 a_this 6; rw [e504, e506]; first | assumption | omega, by first | omega | assumption | exact trivial, by first | omega | assumption | exact trivial, by first | omega | assumption | exact trivial, by first | omega | assumption | exact trivial⟩
              · refine lv_aload_n B.1 B.2.1 dX6_readArgs_88 rfl (lv_at hl 0 rfl) ?_
                obtain ⟨w513, e514⟩ : ∃ v, J56 a_this 7 = v := ⟨_, rfl⟩
                refine c_getl (k := 7) pk_X6 B hM t46 kd7 rfl (by decide) fl_X6_54 dX6_readArgs_89 e514 ?_
                refine lv_goto (tgt := 96) B.1 B.2.1 dX6_readArgs_92 (by decide) ?_
                refine c_lst B hM t30 kd76 an76 dX6_readArgs_96 (by omega) (by omega) (fun J516 H locs hu515 hM => ?_)
                have e517 : J516 b22 v16_2.toNat = w513 := w2_at hu515
                replace hF : Fr mo_X6_readArgs [] T N I J R T24 N25 I433 J516 R34 := hF.wj hu515 (fun h _ => absurd z29 h)
                refine lv_aload_n B.1 B.2.1 dX6_readArgs_97 rfl (lv_at hl 1 rfl) ?_
                refine lv_iload_n B.1 B.2.1 dX6_readArgs_98 rfl (lv_at hl 2 rfl) ?_
                refine q_con B dX6_readArgs_99 ?_
                refine q_add B dX6_readArgs_100 ?_
                refine c_puti (k := 1) pk_X10 B hM t33 kd9 rfl (by decide) fl_X6_292 (Or.inl rfl) dX6_readArgs_101 rfl rfl rfl (show (-2147483648 : Int) ≤ v16_2 + (1 : Int) from by omega) (show v16_2 + (1 : Int) ≤ (2147483647 : Int) from by omega) (fun I518 H locs hu519 hM => ?_)
                have e520 : I518 a_use 1 = v16_2 + (1 : Int) := w2_at hu519
                replace hF : Fr mo_X6_readArgs [] T N I J R T24 N25 I518 J516 R34 := hF.wi hu519 (fun _ _ => by rw [t_use]; rfl)
                refine lv_aload_n B.1 B.2.1 dX6_readArgs_104 rfl (lv_at hl 0 rfl) ?_
                have e521 : I433 a_this 5 = x61 := (w2_ne hu432 (Or.inl (tne t46 t430 (by decide)))).trans e62
                have e522 : I518 a_this 5 = x61 := (w2_ne hu519 (Or.inl (tne t46 t33 (by decide)))).trans e521
                have e523 : I518 a_this 6 = x63 := (w2_ne hu519 (Or.inl (tne t46 t33 (by decide)))).trans e435
                have hv524 : (TKz g_S g_n) ∧ (I518 a_this 5 ≤ g_n) := by first | omega | exact ⟨by first | omega | assumption | exact trivial, by first | omega | assumption | exact trivial⟩
                refine z_callv hM hA (c_runV (n := 0) (as := []) (rest := []) B hX hA hM hl.1 t46 kd7 rfl (k_X6_advance l D dA eA L23 T24 N25 I518 J516 R34 a_this t46 g_t g_s g_S g_n (show R34 a_this 3 = g_t + 1 from e37) (show T24 g_t = 3 from t47) (show R34 g_t 0 = g_s + 1 from e38) (show T24 g_s = 62 from t48) (show I518 g_s = g_S from ((Fr.irow hF p_3 (by decide) nm0 (by decide)).trans p_4)) hv524.1 hv524.2 (show g_S (I518 a_this 5).toNat = I518 a_this 6 from by rw [e522, e523]; first | assumption | omega) _ _) ml_X6_87 nm_X6_advance ⟨rfl, rfl⟩ ⟨Nat.le_of_ble_eq_true rfl, Nat.le_of_ble_eq_true rfl⟩ dX6_readArgs_105 rfl rfl (Nat.le_of_ble_eq_true rfl) ⟨by show 0 + 1 + 1 + 0 ≤ 2; omega, by show 0 + 4 + 4 + 0 ≤ 8; omega⟩) (fun L527 T528 N529 I530 J531 R532 dz533 dl534 H locs hp525 hMn => ?_)
                obtain ⟨yL527, yT528, yN529, yR532, hFc535, hp525a⟩ := hp525
                obtain rfl := yL527.symm; obtain rfl := yT528.symm; obtain rfl := yN529.symm; obtain rfl := yR532.symm
                replace hF : Fr mo_X6_readArgs [] T N I J R T24 N25 I530 J531 R34 := hF.trans hFc535 (by decide) e20
                have hM := hMn
                clear hMn
                replace hp525a : I530 a_this 5 ≤ g_n ∧ g_S (I530 a_this 5).toNat = I530 a_this 6 ∧ (((I518 a_this 6 = 0 ∨ I518 a_this 6 = 1) ∧ I530 a_this 5 = I518 a_this 5) ∨ (I530 a_this 5 = I518 a_this 5 + 1)) := hp525a
                obtain ⟨hp525a_0, hp525a_1, hp525a_2⟩ := hp525a
                obtain ⟨x536, e537⟩ : ∃ v, I530 a_this 5 = v := ⟨_, rfl⟩
                obtain ⟨x538, e539⟩ : ∃ v, I530 a_this 6 = v := ⟨_, rfl⟩
                have nz540 : g_S (x536).toNat = x538 := by have h9 := hp525a_1; rw [e537, e539] at h9; exact h9
                refine lv_aload_n B.1 B.2.1 dX6_readArgs_108 rfl (lv_at hl 0 rfl) ?_
                have r541 : (-2147483648 : Int) ≤ x538 ∧ x538 ≤ 2147483647 := by rw [← e539]; exact g7_6 hM.2.2.2.2.2.2.1 t46
                refine c_geti (k := 6) pk_X6 B hM t46 kd7 rfl (by decide) fl_X6_47 dX6_readArgs_109 e539 ?_
                refine q_bip B dX6_readArgs_112 (by decide) ?_
                refine q_cne (tgt := 123) B dX6_readArgs_114 (by decide) (by unfold inr; omega) (by unfold inr; omega) (fun c542 => ?_) (fun c542 => ?_)
                · refine lv_aload_n B.1 B.2.1 dX6_readArgs_123 rfl (lv_at hl 0 rfl) ?_
                  refine c_geti (k := 6) pk_X6 B hM t46 kd7 rfl (by decide) fl_X6_47 dX6_readArgs_124 e539 ?_
                  refine q_bip B dX6_readArgs_127 (by decide) ?_
                  refine q_ceq (tgt := 138) B dX6_readArgs_129 (by decide) (by unfold inr; omega) (by unfold inr; omega) (fun c543 => ?_) (fun c543 => ?_)
                  · refine q_inc (lv' := [(2, .int (II (v16_2 + 1))), (0, .ref a_this), (1, .ref a_use)]) B dX6_readArgs_138 hl (k := 2) rfl (by decide) rfl (fun ls hl => ?_)
                    refine lv_goto (tgt := 16) B.1 B.2.1 dX6_readArgs_141 (by decide) ?_
                    have e544 : I55 a_this 1 = I a_this 1 := (hFc60.i t46 (by decide) nm0 rfl).trans hLL16_6
                    have e545 : I433 a_this 1 = I a_this 1 := (w2_ne hu432 (Or.inl (tne t46 t430 (by decide)))).trans e544
                    have e546 : I518 a_this 1 = I a_this 1 := (w2_ne hu519 (Or.inl (tne t46 t33 (by decide)))).trans e545
                    have e547 : I530 a_this 1 = I a_this 1 := (hFc535.i t46 (by decide) nm0 rfl).trans e546
                    have hv548 : ((-2147483648 : Int) ≤ v16_2 + 1 ∧ (v16_2 + 1 : Int) ≤ 2147483647) ∧ (0 ≤ (v16_2 + 1)) ∧ ((v16_2 + 1) ≤ 4) ∧ (I a_this 5 ≤ I530 a_this 5) ∧ (I530 a_this 5 ≤ g_n) ∧ (I530 a_this 1 = I a_this 1) ∧ (0 ≤ 5 - (v16_2 + 1)) := by first | omega | exact ⟨by first | omega | assumption | exact trivial, by first | omega | assumption | exact trivial, by first | omega | assumption | exact trivial, by first | omega | assumption | exact trivial, by first | omega | assumption | exact trivial, by first | omega | assumption | exact trivial, by first | omega | assumption | exact trivial⟩
                    exact IH16 (v16_2 + 1) I530 J531 _ _ ls hM hF (lv_sub hl [1, 2, 0] rfl) hv548.1 hv548.2.1 hv548.2.2.1 hv548.2.2.2.1 hv548.2.2.2.2.1 (by rw [e537, e539]; first | assumption | omega) hv548.2.2.2.2.2.1 hv548.2.2.2.2.2.2 (by omega)
                  · refine lv_aload_n B.1 B.2.1 dX6_readArgs_132 rfl (lv_at hl 0 rfl) ?_
                    refine q_con B dX6_readArgs_133 ?_
                    have hv549 : ((-2147483648 : Int) ≤ 2 ∧ (2 : Int) ≤ 2147483647) ∧ ((2 : Int) ≠ 0) := by first | omega | exact ⟨by first | omega | assumption | exact trivial, by first | omega | assumption | exact trivial⟩
                    refine z_calli hM hA (c_runV (n := 1) (as := [.int (II 2)]) (rest := []) B hX hA hM hl.1 t46 kd7 rfl (k_X6_wrong l D dA eA L23 T24 N25 I530 J531 R34 a_this t46 (2) hv549.1 hv549.2 _ _) ml_X6_84 nm_X6_wrong ⟨rfl, rfl⟩ ⟨Nat.le_of_ble_eq_true rfl, Nat.le_of_ble_eq_true rfl⟩ dX6_readArgs_134 rfl rfl (Nat.le_of_ble_eq_true rfl) ⟨by show 0 + 1 + 1 + 0 ≤ 2; omega, by show 0 + 4 + 4 + 0 ≤ 8; omega⟩) (fun x551 ix551 L552 T553 N554 I555 J556 R557 dz558 dl559 H locs hp550 hMn => ?_)
                    obtain ⟨yL552, yT553, yN554, yJ556, yR557, hFc560, hp550a⟩ := hp550
                    obtain rfl := yL552.symm; obtain rfl := yT553.symm; obtain rfl := yN554.symm; obtain rfl := yJ556.symm; obtain rfl := yR557.symm
                    replace hF : Fr mo_X6_readArgs [] T N I J R T24 N25 I555 J531 R34 := hF.trans hFc560 (by decide) e20
                    have hM := hMn
                    clear hMn
                    replace hp550a : (0 : Int) ≤ x551 ∧ x551 ≤ 1 ∧ (x551 = 0 ∧ I555 a_this 1 ≠ 0) := hp550a
                    obtain ⟨hp550a_0, hp550a_1, hp550a_2⟩ := hp550a
                    obtain ⟨hp550a_2_0, hp550a_2_1⟩ := hp550a_2
                    have e561 : I55 a_this 1 = I a_this 1 := (hFc60.i t46 (by decide) nm0 rfl).trans hLL16_6
                    have e562 : I433 a_this 1 = I a_this 1 := (w2_ne hu432 (Or.inl (tne t46 t430 (by decide)))).trans e561
                    have e563 : I518 a_this 1 = I a_this 1 := (w2_ne hu519 (Or.inl (tne t46 t33 (by decide)))).trans e562
                    have e564 : I530 a_this 1 = I a_this 1 := (hFc535.i t46 (by decide) nm0 rfl).trans e563
                    obtain ⟨x565, e566⟩ : ∃ v, I555 a_this 1 = v := ⟨_, rfl⟩
                    have e567 : I555 a_this 5 = x536 := (hFc560.i t46 (by decide) nm0 rfl).trans e537
                    have e568 : I555 a_this 6 = x538 := (hFc560.i t46 (by decide) nm0 rfl).trans e539
                    refine g_zret B hM dX6_readArgs_137 ⟨by show 0 + 1 + 1 ≤ 2; omega, by show 0 + 4 + 4 ≤ 8; omega⟩ (by omega) (by omega) ?_
                    rw [← hPST]
                    exact ⟨x551, rfl, by omega, hF, by omega, by omega, by first | omega | assumption | exact trivial, by show g_S (I555 a_this 5).toNat = I555 a_this 6; rw [e567, e568]; first | assumption | omega, by first | omega | assumption | exact trivial, by first | omega | assumption | exact trivial, by first | omega | assumption | exact trivial, by first | omega | assumption | exact trivial⟩
                · refine lv_aload_n B.1 B.2.1 dX6_readArgs_117 rfl (lv_at hl 0 rfl) ?_
                  have hv569 : (TKz g_S g_n) ∧ (I530 a_this 5 ≤ g_n) := by first | omega | exact ⟨by first | omega | assumption | exact trivial, by first | omega | assumption | exact trivial⟩
                  refine z_callv hM hA (c_runV (n := 0) (as := []) (rest := []) B hX hA hM hl.1 t46 kd7 rfl (k_X6_advance l D dA eA L23 T24 N25 I530 J531 R34 a_this t46 g_t g_s g_S g_n (show R34 a_this 3 = g_t + 1 from e37) (show T24 g_t = 3 from t47) (show R34 g_t 0 = g_s + 1 from e38) (show T24 g_s = 62 from t48) (show I530 g_s = g_S from ((Fr.irow hF p_3 (by decide) nm0 (by decide)).trans p_4)) hv569.1 hv569.2 (show g_S (I530 a_this 5).toNat = I530 a_this 6 from by rw [e537, e539]; first | assumption | omega) _ _) ml_X6_87 nm_X6_advance ⟨rfl, rfl⟩ ⟨Nat.le_of_ble_eq_true rfl, Nat.le_of_ble_eq_true rfl⟩ dX6_readArgs_118 rfl rfl (Nat.le_of_ble_eq_true rfl) ⟨by show 0 + 1 + 1 + 0 ≤ 2; omega, by show 0 + 4 + 4 + 0 ≤ 8; omega⟩) (fun L572 T573 N574 I575 J576 R577 dz578 dl579 H locs hp570 hMn => ?_)
                  obtain ⟨yL572, yT573, yN574, yR577, hFc580, hp570a⟩ := hp570
                  obtain rfl := yL572.symm; obtain rfl := yT573.symm; obtain rfl := yN574.symm; obtain rfl := yR577.symm
                  replace hF : Fr mo_X6_readArgs [] T N I J R T24 N25 I575 J576 R34 := hF.trans hFc580 (by decide) e20
                  have hM := hMn
                  clear hMn
                  replace hp570a : I575 a_this 5 ≤ g_n ∧ g_S (I575 a_this 5).toNat = I575 a_this 6 ∧ (((I530 a_this 6 = 0 ∨ I530 a_this 6 = 1) ∧ I575 a_this 5 = I530 a_this 5) ∨ (I575 a_this 5 = I530 a_this 5 + 1)) := hp570a
                  obtain ⟨hp570a_0, hp570a_1, hp570a_2⟩ := hp570a
                  obtain ⟨x581, e582⟩ : ∃ v, I575 a_this 5 = v := ⟨_, rfl⟩
                  obtain ⟨x583, e584⟩ : ∃ v, I575 a_this 6 = v := ⟨_, rfl⟩
                  have nz585 : g_S (x581).toNat = x583 := by have h9 := hp570a_1; rw [e582, e584] at h9; exact h9
                  refine q_con B dX6_readArgs_121 ?_
                  have e586 : I55 a_this 1 = I a_this 1 := (hFc60.i t46 (by decide) nm0 rfl).trans hLL16_6
                  have e587 : I433 a_this 1 = I a_this 1 := (w2_ne hu432 (Or.inl (tne t46 t430 (by decide)))).trans e586
                  have e588 : I518 a_this 1 = I a_this 1 := (w2_ne hu519 (Or.inl (tne t46 t33 (by decide)))).trans e587
                  have e589 : I530 a_this 1 = I a_this 1 := (hFc535.i t46 (by decide) nm0 rfl).trans e588
                  have e590 : I575 a_this 1 = I a_this 1 := (hFc580.i t46 (by decide) nm0 rfl).trans e589
                  refine g_zret B hM dX6_readArgs_122 ⟨by show 0 + 1 + 1 ≤ 2; omega, by show 0 + 4 + 4 ≤ 8; omega⟩ (by omega) (by omega) ?_
                  rw [← hPST]
                  exact ⟨(1), rfl, by omega, hF, by omega, by omega, by first | omega | assumption | exact trivial, by show g_S (I575 a_this 5).toNat = I575 a_this 6; rw [e582, e584]; first | assumption | omega, by first | omega | assumption | exact trivial, by first | omega | assumption | exact trivial, by first | omega | assumption | exact trivial, by first | omega | assumption | exact trivial⟩
            · refine lv_aload_n B.1 B.2.1 dX6_readArgs_65 rfl (lv_at hl 0 rfl) ?_
              obtain ⟨w591, e592⟩ : ∃ v, J56 a_this 7 = v := ⟨_, rfl⟩
              refine c_getl (k := 7) pk_X6 B hM t46 kd7 rfl (by decide) fl_X6_54 dX6_readArgs_66 e592 ?_
              refine q_l2i B dX6_readArgs_69 (fun x593 ix593 => ?_)
              unfold inr at ix593
              refine lv_goto (tgt := 74) B.1 B.2.1 dX6_readArgs_70 (by decide) ?_
              have t594 : T24 b8 = 75 := upT hT27 t26 t15 (by decide)
              have n595 : 4 ≤ N25 b8 ∧ N25 b8 ≤ 4 := gn75 hM.2.2.2.2.2.2.1 t594
              refine c_ist B hM t594 kd75 aq75 dX6_readArgs_74 (by omega) (by omega) (show (-2147483648 : Int) ≤ x593 from by omega) (show x593 ≤ (2147483647 : Int) from by omega) (fun I597 H locs hu596 hM => ?_)
              have e598 : I597 b8 v16_2.toNat = x593 := w2_at hu596
              replace hF : Fr mo_X6_readArgs [] T N I J R T24 N25 I597 J56 R34 := hF.wi hu596 (fun h _ => absurd t12 h)
              refine lv_aload_n B.1 B.2.1 dX6_readArgs_75 rfl (lv_at hl 1 rfl) ?_
              refine c_getn (k := 3) pk_X10 B hM t33 kd9 rfl (by decide) fl_X6_289 dX6_readArgs_76 e36 ?_
              refine lv_iload_n B.1 B.2.1 dX6_readArgs_79 rfl (lv_at hl 2 rfl) ?_
              refine lv_aload_n B.1 B.2.1 dX6_readArgs_80 rfl (lv_at hl 0 rfl) ?_
              have e599 : I597 a_this 6 = x63 := (w2_ne hu596 (Or.inl (tne t46 t594 (by decide)))).trans e64
              refine c_geti (k := 6) pk_X6 B hM t46 kd7 rfl (by decide) fl_X6_47 dX6_readArgs_81 e599 ?_
              refine q_con B dX6_readArgs_84 ?_
              refine q_cne (tgt := 95) B dX6_readArgs_85 (by decide) (by unfold inr; omega) (by unfold inr; omega) (fun c600 => ?_) (fun c600 => ?_)
              · refine lv_lconst (v := 0) B.1 B.2.1 dX6_readArgs_95 (by decide) ?_
                refine c_lst B hM t30 kd76 an76 dX6_readArgs_96 (by omega) (by omega) (fun J602 H locs hu601 hM => ?_)
                have e603 : J602 b22 v16_2.toNat = (0 : Int64) := w2_at hu601
                replace hF : Fr mo_X6_readArgs [] T N I J R T24 N25 I597 J602 R34 := hF.wj hu601 (fun h _ => absurd z29 h)
                refine lv_aload_n B.1 B.2.1 dX6_readArgs_97 rfl (lv_at hl 1 rfl) ?_
                refine lv_iload_n B.1 B.2.1 dX6_readArgs_98 rfl (lv_at hl 2 rfl) ?_
                refine q_con B dX6_readArgs_99 ?_
                refine q_add B dX6_readArgs_100 ?_
                refine c_puti (k := 1) pk_X10 B hM t33 kd9 rfl (by decide) fl_X6_292 (Or.inl rfl) dX6_readArgs_101 rfl rfl rfl (show (-2147483648 : Int) ≤ v16_2 + (1 : Int) from by omega) (show v16_2 + (1 : Int) ≤ (2147483647 : Int) from by omega) (fun I604 H locs hu605 hM => ?_)
                have e606 : I604 a_use 1 = v16_2 + (1 : Int) := w2_at hu605
                replace hF : Fr mo_X6_readArgs [] T N I J R T24 N25 I604 J602 R34 := hF.wi hu605 (fun _ _ => by rw [t_use]; rfl)
                refine lv_aload_n B.1 B.2.1 dX6_readArgs_104 rfl (lv_at hl 0 rfl) ?_
                have e607 : I597 a_this 5 = x61 := (w2_ne hu596 (Or.inl (tne t46 t594 (by decide)))).trans e62
                have e608 : I604 a_this 5 = x61 := (w2_ne hu605 (Or.inl (tne t46 t33 (by decide)))).trans e607
                have e609 : I604 a_this 6 = x63 := (w2_ne hu605 (Or.inl (tne t46 t33 (by decide)))).trans e599
                have hv610 : (TKz g_S g_n) ∧ (I604 a_this 5 ≤ g_n) := by first | omega | exact ⟨by first | omega | assumption | exact trivial, by first | omega | assumption | exact trivial⟩
                refine z_callv hM hA (c_runV (n := 0) (as := []) (rest := []) B hX hA hM hl.1 t46 kd7 rfl (k_X6_advance l D dA eA L23 T24 N25 I604 J602 R34 a_this t46 g_t g_s g_S g_n (show R34 a_this 3 = g_t + 1 from e37) (show T24 g_t = 3 from t47) (show R34 g_t 0 = g_s + 1 from e38) (show T24 g_s = 62 from t48) (show I604 g_s = g_S from ((Fr.irow hF p_3 (by decide) nm0 (by decide)).trans p_4)) hv610.1 hv610.2 (show g_S (I604 a_this 5).toNat = I604 a_this 6 from by rw [e608, e609]; first | assumption | omega) _ _) ml_X6_87 nm_X6_advance ⟨rfl, rfl⟩ ⟨Nat.le_of_ble_eq_true rfl, Nat.le_of_ble_eq_true rfl⟩ dX6_readArgs_105 rfl rfl (Nat.le_of_ble_eq_true rfl) ⟨by show 0 + 1 + 1 + 0 ≤ 2; omega, by show 0 + 4 + 4 + 0 ≤ 8; omega⟩) (fun L613 T614 N615 I616 J617 R618 dz619 dl620 H locs hp611 hMn => ?_)
                obtain ⟨yL613, yT614, yN615, yR618, hFc621, hp611a⟩ := hp611
                obtain rfl := yL613.symm; obtain rfl := yT614.symm; obtain rfl := yN615.symm; obtain rfl := yR618.symm
                replace hF : Fr mo_X6_readArgs [] T N I J R T24 N25 I616 J617 R34 := hF.trans hFc621 (by decide) e20
                have hM := hMn
                clear hMn
                replace hp611a : I616 a_this 5 ≤ g_n ∧ g_S (I616 a_this 5).toNat = I616 a_this 6 ∧ (((I604 a_this 6 = 0 ∨ I604 a_this 6 = 1) ∧ I616 a_this 5 = I604 a_this 5) ∨ (I616 a_this 5 = I604 a_this 5 + 1)) := hp611a
                obtain ⟨hp611a_0, hp611a_1, hp611a_2⟩ := hp611a
                obtain ⟨x622, e623⟩ : ∃ v, I616 a_this 5 = v := ⟨_, rfl⟩
                obtain ⟨x624, e625⟩ : ∃ v, I616 a_this 6 = v := ⟨_, rfl⟩
                have nz626 : g_S (x622).toNat = x624 := by have h9 := hp611a_1; rw [e623, e625] at h9; exact h9
                refine lv_aload_n B.1 B.2.1 dX6_readArgs_108 rfl (lv_at hl 0 rfl) ?_
                have r627 : (-2147483648 : Int) ≤ x624 ∧ x624 ≤ 2147483647 := by rw [← e625]; exact g7_6 hM.2.2.2.2.2.2.1 t46
                refine c_geti (k := 6) pk_X6 B hM t46 kd7 rfl (by decide) fl_X6_47 dX6_readArgs_109 e625 ?_
                refine q_bip B dX6_readArgs_112 (by decide) ?_
                refine q_cne (tgt := 123) B dX6_readArgs_114 (by decide) (by unfold inr; omega) (by unfold inr; omega) (fun c628 => ?_) (fun c628 => ?_)
                · refine lv_aload_n B.1 B.2.1 dX6_readArgs_123 rfl (lv_at hl 0 rfl) ?_
                  refine c_geti (k := 6) pk_X6 B hM t46 kd7 rfl (by decide) fl_X6_47 dX6_readArgs_124 e625 ?_
                  refine q_bip B dX6_readArgs_127 (by decide) ?_
                  refine q_ceq (tgt := 138) B dX6_readArgs_129 (by decide) (by unfold inr; omega) (by unfold inr; omega) (fun c629 => ?_) (fun c629 => ?_)
                  · refine q_inc (lv' := [(2, .int (II (v16_2 + 1))), (0, .ref a_this), (1, .ref a_use)]) B dX6_readArgs_138 hl (k := 2) rfl (by decide) rfl (fun ls hl => ?_)
                    refine lv_goto (tgt := 16) B.1 B.2.1 dX6_readArgs_141 (by decide) ?_
                    have e630 : I55 a_this 1 = I a_this 1 := (hFc60.i t46 (by decide) nm0 rfl).trans hLL16_6
                    have e631 : I597 a_this 1 = I a_this 1 := (w2_ne hu596 (Or.inl (tne t46 t594 (by decide)))).trans e630
                    have e632 : I604 a_this 1 = I a_this 1 := (w2_ne hu605 (Or.inl (tne t46 t33 (by decide)))).trans e631
                    have e633 : I616 a_this 1 = I a_this 1 := (hFc621.i t46 (by decide) nm0 rfl).trans e632
                    have hv634 : ((-2147483648 : Int) ≤ v16_2 + 1 ∧ (v16_2 + 1 : Int) ≤ 2147483647) ∧ (0 ≤ (v16_2 + 1)) ∧ ((v16_2 + 1) ≤ 4) ∧ (I a_this 5 ≤ I616 a_this 5) ∧ (I616 a_this 5 ≤ g_n) ∧ (I616 a_this 1 = I a_this 1) ∧ (0 ≤ 5 - (v16_2 + 1)) := by first | omega | exact ⟨by first | omega | assumption | exact trivial, by first | omega | assumption | exact trivial, by first | omega | assumption | exact trivial, by first | omega | assumption | exact trivial, by first | omega | assumption | exact trivial, by first | omega | assumption | exact trivial, by first | omega | assumption | exact trivial⟩
                    exact IH16 (v16_2 + 1) I616 J617 _ _ ls hM hF (lv_sub hl [1, 2, 0] rfl) hv634.1 hv634.2.1 hv634.2.2.1 hv634.2.2.2.1 hv634.2.2.2.2.1 (by rw [e623, e625]; first | assumption | omega) hv634.2.2.2.2.2.1 hv634.2.2.2.2.2.2 (by omega)
                  · refine lv_aload_n B.1 B.2.1 dX6_readArgs_132 rfl (lv_at hl 0 rfl) ?_
                    refine q_con B dX6_readArgs_133 ?_
                    have hv635 : ((-2147483648 : Int) ≤ 2 ∧ (2 : Int) ≤ 2147483647) ∧ ((2 : Int) ≠ 0) := by first | omega | exact ⟨by first | omega | assumption | exact trivial, by first | omega | assumption | exact trivial⟩
                    refine z_calli hM hA (c_runV (n := 1) (as := [.int (II 2)]) (rest := []) B hX hA hM hl.1 t46 kd7 rfl (k_X6_wrong l D dA eA L23 T24 N25 I616 J617 R34 a_this t46 (2) hv635.1 hv635.2 _ _) ml_X6_84 nm_X6_wrong ⟨rfl, rfl⟩ ⟨Nat.le_of_ble_eq_true rfl, Nat.le_of_ble_eq_true rfl⟩ dX6_readArgs_134 rfl rfl (Nat.le_of_ble_eq_true rfl) ⟨by show 0 + 1 + 1 + 0 ≤ 2; omega, by show 0 + 4 + 4 + 0 ≤ 8; omega⟩) (fun x637 ix637 L638 T639 N640 I641 J642 R643 dz644 dl645 H locs hp636 hMn => ?_)
                    obtain ⟨yL638, yT639, yN640, yJ642, yR643, hFc646, hp636a⟩ := hp636
                    obtain rfl := yL638.symm; obtain rfl := yT639.symm; obtain rfl := yN640.symm; obtain rfl := yJ642.symm; obtain rfl := yR643.symm
                    replace hF : Fr mo_X6_readArgs [] T N I J R T24 N25 I641 J617 R34 := hF.trans hFc646 (by decide) e20
                    have hM := hMn
                    clear hMn
                    replace hp636a : (0 : Int) ≤ x637 ∧ x637 ≤ 1 ∧ (x637 = 0 ∧ I641 a_this 1 ≠ 0) := hp636a
                    obtain ⟨hp636a_0, hp636a_1, hp636a_2⟩ := hp636a
                    obtain ⟨hp636a_2_0, hp636a_2_1⟩ := hp636a_2
                    have e647 : I55 a_this 1 = I a_this 1 := (hFc60.i t46 (by decide) nm0 rfl).trans hLL16_6
                    have e648 : I597 a_this 1 = I a_this 1 := (w2_ne hu596 (Or.inl (tne t46 t594 (by decide)))).trans e647
                    have e649 : I604 a_this 1 = I a_this 1 := (w2_ne hu605 (Or.inl (tne t46 t33 (by decide)))).trans e648
                    have e650 : I616 a_this 1 = I a_this 1 := (hFc621.i t46 (by decide) nm0 rfl).trans e649
                    obtain ⟨x651, e652⟩ : ∃ v, I641 a_this 1 = v := ⟨_, rfl⟩
                    have e653 : I641 a_this 5 = x622 := (hFc646.i t46 (by decide) nm0 rfl).trans e623
                    have e654 : I641 a_this 6 = x624 := (hFc646.i t46 (by decide) nm0 rfl).trans e625
                    refine g_zret B hM dX6_readArgs_137 ⟨by show 0 + 1 + 1 ≤ 2; omega, by show 0 + 4 + 4 ≤ 8; omega⟩ (by omega) (by omega) ?_
                    rw [← hPST]
                    exact ⟨x637, rfl, by omega, hF, by omega, by omega, by first | omega | assumption | exact trivial, by show g_S (I641 a_this 5).toNat = I641 a_this 6; rw [e653, e654]; first | assumption | omega, by first | omega | assumption | exact trivial, by first | omega | assumption | exact trivial, by first | omega | assumption | exact trivial, by first | omega | assumption | exact trivial⟩
                · refine lv_aload_n B.1 B.2.1 dX6_readArgs_117 rfl (lv_at hl 0 rfl) ?_
                  have hv655 : (TKz g_S g_n) ∧ (I616 a_this 5 ≤ g_n) := by first | omega | exact ⟨by first | omega | assumption | exact trivial, by first | omega | assumption | exact trivial⟩
                  refine z_callv hM hA (c_runV (n := 0) (as := []) (rest := []) B hX hA hM hl.1 t46 kd7 rfl (k_X6_advance l D dA eA L23 T24 N25 I616 J617 R34 a_this t46 g_t g_s g_S g_n (show R34 a_this 3 = g_t + 1 from e37) (show T24 g_t = 3 from t47) (show R34 g_t 0 = g_s + 1 from e38) (show T24 g_s = 62 from t48) (show I616 g_s = g_S from ((Fr.irow hF p_3 (by decide) nm0 (by decide)).trans p_4)) hv655.1 hv655.2 (show g_S (I616 a_this 5).toNat = I616 a_this 6 from by rw [e623, e625]; first | assumption | omega) _ _) ml_X6_87 nm_X6_advance ⟨rfl, rfl⟩ ⟨Nat.le_of_ble_eq_true rfl, Nat.le_of_ble_eq_true rfl⟩ dX6_readArgs_118 rfl rfl (Nat.le_of_ble_eq_true rfl) ⟨by show 0 + 1 + 1 + 0 ≤ 2; omega, by show 0 + 4 + 4 + 0 ≤ 8; omega⟩) (fun L658 T659 N660 I661 J662 R663 dz664 dl665 H locs hp656 hMn => ?_)
                  obtain ⟨yL658, yT659, yN660, yR663, hFc666, hp656a⟩ := hp656
                  obtain rfl := yL658.symm; obtain rfl := yT659.symm; obtain rfl := yN660.symm; obtain rfl := yR663.symm
                  replace hF : Fr mo_X6_readArgs [] T N I J R T24 N25 I661 J662 R34 := hF.trans hFc666 (by decide) e20
                  have hM := hMn
                  clear hMn
                  replace hp656a : I661 a_this 5 ≤ g_n ∧ g_S (I661 a_this 5).toNat = I661 a_this 6 ∧ (((I616 a_this 6 = 0 ∨ I616 a_this 6 = 1) ∧ I661 a_this 5 = I616 a_this 5) ∨ (I661 a_this 5 = I616 a_this 5 + 1)) := hp656a
                  obtain ⟨hp656a_0, hp656a_1, hp656a_2⟩ := hp656a
                  obtain ⟨x667, e668⟩ : ∃ v, I661 a_this 5 = v := ⟨_, rfl⟩
                  obtain ⟨x669, e670⟩ : ∃ v, I661 a_this 6 = v := ⟨_, rfl⟩
                  have nz671 : g_S (x667).toNat = x669 := by have h9 := hp656a_1; rw [e668, e670] at h9; exact h9
                  refine q_con B dX6_readArgs_121 ?_
                  have e672 : I55 a_this 1 = I a_this 1 := (hFc60.i t46 (by decide) nm0 rfl).trans hLL16_6
                  have e673 : I597 a_this 1 = I a_this 1 := (w2_ne hu596 (Or.inl (tne t46 t594 (by decide)))).trans e672
                  have e674 : I604 a_this 1 = I a_this 1 := (w2_ne hu605 (Or.inl (tne t46 t33 (by decide)))).trans e673
                  have e675 : I616 a_this 1 = I a_this 1 := (hFc621.i t46 (by decide) nm0 rfl).trans e674
                  have e676 : I661 a_this 1 = I a_this 1 := (hFc666.i t46 (by decide) nm0 rfl).trans e675
                  refine g_zret B hM dX6_readArgs_122 ⟨by show 0 + 1 + 1 ≤ 2; omega, by show 0 + 4 + 4 ≤ 8; omega⟩ (by omega) (by omega) ?_
                  rw [← hPST]
                  exact ⟨(1), rfl, by omega, hF, by omega, by omega, by first | omega | assumption | exact trivial, by show g_S (I661 a_this 5).toNat = I661 a_this 6; rw [e668, e670]; first | assumption | omega, by first | omega | assumption | exact trivial, by first | omega | assumption | exact trivial, by first | omega | assumption | exact trivial, by first | omega | assumption | exact trivial⟩
              · refine lv_aload_n B.1 B.2.1 dX6_readArgs_88 rfl (lv_at hl 0 rfl) ?_
                refine c_getl (k := 7) pk_X6 B hM t46 kd7 rfl (by decide) fl_X6_54 dX6_readArgs_89 e592 ?_
                refine lv_goto (tgt := 96) B.1 B.2.1 dX6_readArgs_92 (by decide) ?_
                refine c_lst B hM t30 kd76 an76 dX6_readArgs_96 (by omega) (by omega) (fun J678 H locs hu677 hM => ?_)
                have e679 : J678 b22 v16_2.toNat = w591 := w2_at hu677
                replace hF : Fr mo_X6_readArgs [] T N I J R T24 N25 I597 J678 R34 := hF.wj hu677 (fun h _ => absurd z29 h)
                refine lv_aload_n B.1 B.2.1 dX6_readArgs_97 rfl (lv_at hl 1 rfl) ?_
                refine lv_iload_n B.1 B.2.1 dX6_readArgs_98 rfl (lv_at hl 2 rfl) ?_
                refine q_con B dX6_readArgs_99 ?_
                refine q_add B dX6_readArgs_100 ?_
                refine c_puti (k := 1) pk_X10 B hM t33 kd9 rfl (by decide) fl_X6_292 (Or.inl rfl) dX6_readArgs_101 rfl rfl rfl (show (-2147483648 : Int) ≤ v16_2 + (1 : Int) from by omega) (show v16_2 + (1 : Int) ≤ (2147483647 : Int) from by omega) (fun I680 H locs hu681 hM => ?_)
                have e682 : I680 a_use 1 = v16_2 + (1 : Int) := w2_at hu681
                replace hF : Fr mo_X6_readArgs [] T N I J R T24 N25 I680 J678 R34 := hF.wi hu681 (fun _ _ => by rw [t_use]; rfl)
                refine lv_aload_n B.1 B.2.1 dX6_readArgs_104 rfl (lv_at hl 0 rfl) ?_
                have e683 : I597 a_this 5 = x61 := (w2_ne hu596 (Or.inl (tne t46 t594 (by decide)))).trans e62
                have e684 : I680 a_this 5 = x61 := (w2_ne hu681 (Or.inl (tne t46 t33 (by decide)))).trans e683
                have e685 : I680 a_this 6 = x63 := (w2_ne hu681 (Or.inl (tne t46 t33 (by decide)))).trans e599
                have hv686 : (TKz g_S g_n) ∧ (I680 a_this 5 ≤ g_n) := by first | omega | exact ⟨by first | omega | assumption | exact trivial, by first | omega | assumption | exact trivial⟩
                refine z_callv hM hA (c_runV (n := 0) (as := []) (rest := []) B hX hA hM hl.1 t46 kd7 rfl (k_X6_advance l D dA eA L23 T24 N25 I680 J678 R34 a_this t46 g_t g_s g_S g_n (show R34 a_this 3 = g_t + 1 from e37) (show T24 g_t = 3 from t47) (show R34 g_t 0 = g_s + 1 from e38) (show T24 g_s = 62 from t48) (show I680 g_s = g_S from ((Fr.irow hF p_3 (by decide) nm0 (by decide)).trans p_4)) hv686.1 hv686.2 (show g_S (I680 a_this 5).toNat = I680 a_this 6 from by rw [e684, e685]; first | assumption | omega) _ _) ml_X6_87 nm_X6_advance ⟨rfl, rfl⟩ ⟨Nat.le_of_ble_eq_true rfl, Nat.le_of_ble_eq_true rfl⟩ dX6_readArgs_105 rfl rfl (Nat.le_of_ble_eq_true rfl) ⟨by show 0 + 1 + 1 + 0 ≤ 2; omega, by show 0 + 4 + 4 + 0 ≤ 8; omega⟩) (fun L689 T690 N691 I692 J693 R694 dz695 dl696 H locs hp687 hMn => ?_)
                obtain ⟨yL689, yT690, yN691, yR694, hFc697, hp687a⟩ := hp687
                obtain rfl := yL689.symm; obtain rfl := yT690.symm; obtain rfl := yN691.symm; obtain rfl := yR694.symm
                replace hF : Fr mo_X6_readArgs [] T N I J R T24 N25 I692 J693 R34 := hF.trans hFc697 (by decide) e20
                have hM := hMn
                clear hMn
                replace hp687a : I692 a_this 5 ≤ g_n ∧ g_S (I692 a_this 5).toNat = I692 a_this 6 ∧ (((I680 a_this 6 = 0 ∨ I680 a_this 6 = 1) ∧ I692 a_this 5 = I680 a_this 5) ∨ (I692 a_this 5 = I680 a_this 5 + 1)) := hp687a
                obtain ⟨hp687a_0, hp687a_1, hp687a_2⟩ := hp687a
                obtain ⟨x698, e699⟩ : ∃ v, I692 a_this 5 = v := ⟨_, rfl⟩
                obtain ⟨x700, e701⟩ : ∃ v, I692 a_this 6 = v := ⟨_, rfl⟩
                have nz702 : g_S (x698).toNat = x700 := by have h9 := hp687a_1; rw [e699, e701] at h9; exact h9
                refine lv_aload_n B.1 B.2.1 dX6_readArgs_108 rfl (lv_at hl 0 rfl) ?_
                have r703 : (-2147483648 : Int) ≤ x700 ∧ x700 ≤ 2147483647 := by rw [← e701]; exact g7_6 hM.2.2.2.2.2.2.1 t46
                refine c_geti (k := 6) pk_X6 B hM t46 kd7 rfl (by decide) fl_X6_47 dX6_readArgs_109 e701 ?_
                refine q_bip B dX6_readArgs_112 (by decide) ?_
                refine q_cne (tgt := 123) B dX6_readArgs_114 (by decide) (by unfold inr; omega) (by unfold inr; omega) (fun c704 => ?_) (fun c704 => ?_)
                · refine lv_aload_n B.1 B.2.1 dX6_readArgs_123 rfl (lv_at hl 0 rfl) ?_
                  refine c_geti (k := 6) pk_X6 B hM t46 kd7 rfl (by decide) fl_X6_47 dX6_readArgs_124 e701 ?_
                  refine q_bip B dX6_readArgs_127 (by decide) ?_
                  refine q_ceq (tgt := 138) B dX6_readArgs_129 (by decide) (by unfold inr; omega) (by unfold inr; omega) (fun c705 => ?_) (fun c705 => ?_)
                  · refine q_inc (lv' := [(2, .int (II (v16_2 + 1))), (0, .ref a_this), (1, .ref a_use)]) B dX6_readArgs_138 hl (k := 2) rfl (by decide) rfl (fun ls hl => ?_)
                    refine lv_goto (tgt := 16) B.1 B.2.1 dX6_readArgs_141 (by decide) ?_
                    have e706 : I55 a_this 1 = I a_this 1 := (hFc60.i t46 (by decide) nm0 rfl).trans hLL16_6
                    have e707 : I597 a_this 1 = I a_this 1 := (w2_ne hu596 (Or.inl (tne t46 t594 (by decide)))).trans e706
                    have e708 : I680 a_this 1 = I a_this 1 := (w2_ne hu681 (Or.inl (tne t46 t33 (by decide)))).trans e707
                    have e709 : I692 a_this 1 = I a_this 1 := (hFc697.i t46 (by decide) nm0 rfl).trans e708
                    have hv710 : ((-2147483648 : Int) ≤ v16_2 + 1 ∧ (v16_2 + 1 : Int) ≤ 2147483647) ∧ (0 ≤ (v16_2 + 1)) ∧ ((v16_2 + 1) ≤ 4) ∧ (I a_this 5 ≤ I692 a_this 5) ∧ (I692 a_this 5 ≤ g_n) ∧ (I692 a_this 1 = I a_this 1) ∧ (0 ≤ 5 - (v16_2 + 1)) := by first | omega | exact ⟨by first | omega | assumption | exact trivial, by first | omega | assumption | exact trivial, by first | omega | assumption | exact trivial, by first | omega | assumption | exact trivial, by first | omega | assumption | exact trivial, by first | omega | assumption | exact trivial, by first | omega | assumption | exact trivial⟩
                    exact IH16 (v16_2 + 1) I692 J693 _ _ ls hM hF (lv_sub hl [1, 2, 0] rfl) hv710.1 hv710.2.1 hv710.2.2.1 hv710.2.2.2.1 hv710.2.2.2.2.1 (by rw [e699, e701]; first | assumption | omega) hv710.2.2.2.2.2.1 hv710.2.2.2.2.2.2 (by omega)
                  · refine lv_aload_n B.1 B.2.1 dX6_readArgs_132 rfl (lv_at hl 0 rfl) ?_
                    refine q_con B dX6_readArgs_133 ?_
                    have hv711 : ((-2147483648 : Int) ≤ 2 ∧ (2 : Int) ≤ 2147483647) ∧ ((2 : Int) ≠ 0) := by first | omega | exact ⟨by first | omega | assumption | exact trivial, by first | omega | assumption | exact trivial⟩
                    refine z_calli hM hA (c_runV (n := 1) (as := [.int (II 2)]) (rest := []) B hX hA hM hl.1 t46 kd7 rfl (k_X6_wrong l D dA eA L23 T24 N25 I692 J693 R34 a_this t46 (2) hv711.1 hv711.2 _ _) ml_X6_84 nm_X6_wrong ⟨rfl, rfl⟩ ⟨Nat.le_of_ble_eq_true rfl, Nat.le_of_ble_eq_true rfl⟩ dX6_readArgs_134 rfl rfl (Nat.le_of_ble_eq_true rfl) ⟨by show 0 + 1 + 1 + 0 ≤ 2; omega, by show 0 + 4 + 4 + 0 ≤ 8; omega⟩) (fun x713 ix713 L714 T715 N716 I717 J718 R719 dz720 dl721 H locs hp712 hMn => ?_)
                    obtain ⟨yL714, yT715, yN716, yJ718, yR719, hFc722, hp712a⟩ := hp712
                    obtain rfl := yL714.symm; obtain rfl := yT715.symm; obtain rfl := yN716.symm; obtain rfl := yJ718.symm; obtain rfl := yR719.symm
                    replace hF : Fr mo_X6_readArgs [] T N I J R T24 N25 I717 J693 R34 := hF.trans hFc722 (by decide) e20
                    have hM := hMn
                    clear hMn
                    replace hp712a : (0 : Int) ≤ x713 ∧ x713 ≤ 1 ∧ (x713 = 0 ∧ I717 a_this 1 ≠ 0) := hp712a
                    obtain ⟨hp712a_0, hp712a_1, hp712a_2⟩ := hp712a
                    obtain ⟨hp712a_2_0, hp712a_2_1⟩ := hp712a_2
                    have e723 : I55 a_this 1 = I a_this 1 := (hFc60.i t46 (by decide) nm0 rfl).trans hLL16_6
                    have e724 : I597 a_this 1 = I a_this 1 := (w2_ne hu596 (Or.inl (tne t46 t594 (by decide)))).trans e723
                    have e725 : I680 a_this 1 = I a_this 1 := (w2_ne hu681 (Or.inl (tne t46 t33 (by decide)))).trans e724
                    have e726 : I692 a_this 1 = I a_this 1 := (hFc697.i t46 (by decide) nm0 rfl).trans e725
                    obtain ⟨x727, e728⟩ : ∃ v, I717 a_this 1 = v := ⟨_, rfl⟩
                    have e729 : I717 a_this 5 = x698 := (hFc722.i t46 (by decide) nm0 rfl).trans e699
                    have e730 : I717 a_this 6 = x700 := (hFc722.i t46 (by decide) nm0 rfl).trans e701
                    refine g_zret B hM dX6_readArgs_137 ⟨by show 0 + 1 + 1 ≤ 2; omega, by show 0 + 4 + 4 ≤ 8; omega⟩ (by omega) (by omega) ?_
                    rw [← hPST]
                    exact ⟨x713, rfl, by omega, hF, by omega, by omega, by first | omega | assumption | exact trivial, by show g_S (I717 a_this 5).toNat = I717 a_this 6; rw [e729, e730]; first | assumption | omega, by first | omega | assumption | exact trivial, by first | omega | assumption | exact trivial, by first | omega | assumption | exact trivial, by first | omega | assumption | exact trivial⟩
                · refine lv_aload_n B.1 B.2.1 dX6_readArgs_117 rfl (lv_at hl 0 rfl) ?_
                  have hv731 : (TKz g_S g_n) ∧ (I692 a_this 5 ≤ g_n) := by first | omega | exact ⟨by first | omega | assumption | exact trivial, by first | omega | assumption | exact trivial⟩
                  refine z_callv hM hA (c_runV (n := 0) (as := []) (rest := []) B hX hA hM hl.1 t46 kd7 rfl (k_X6_advance l D dA eA L23 T24 N25 I692 J693 R34 a_this t46 g_t g_s g_S g_n (show R34 a_this 3 = g_t + 1 from e37) (show T24 g_t = 3 from t47) (show R34 g_t 0 = g_s + 1 from e38) (show T24 g_s = 62 from t48) (show I692 g_s = g_S from ((Fr.irow hF p_3 (by decide) nm0 (by decide)).trans p_4)) hv731.1 hv731.2 (show g_S (I692 a_this 5).toNat = I692 a_this 6 from by rw [e699, e701]; first | assumption | omega) _ _) ml_X6_87 nm_X6_advance ⟨rfl, rfl⟩ ⟨Nat.le_of_ble_eq_true rfl, Nat.le_of_ble_eq_true rfl⟩ dX6_readArgs_118 rfl rfl (Nat.le_of_ble_eq_true rfl) ⟨by show 0 + 1 + 1 + 0 ≤ 2; omega, by show 0 + 4 + 4 + 0 ≤ 8; omega⟩) (fun L734 T735 N736 I737 J738 R739 dz740 dl741 H locs hp732 hMn => ?_)
                  obtain ⟨yL734, yT735, yN736, yR739, hFc742, hp732a⟩ := hp732
                  obtain rfl := yL734.symm; obtain rfl := yT735.symm; obtain rfl := yN736.symm; obtain rfl := yR739.symm
                  replace hF : Fr mo_X6_readArgs [] T N I J R T24 N25 I737 J738 R34 := hF.trans hFc742 (by decide) e20
                  have hM := hMn
                  clear hMn
                  replace hp732a : I737 a_this 5 ≤ g_n ∧ g_S (I737 a_this 5).toNat = I737 a_this 6 ∧ (((I692 a_this 6 = 0 ∨ I692 a_this 6 = 1) ∧ I737 a_this 5 = I692 a_this 5) ∨ (I737 a_this 5 = I692 a_this 5 + 1)) := hp732a
                  obtain ⟨hp732a_0, hp732a_1, hp732a_2⟩ := hp732a
                  obtain ⟨x743, e744⟩ : ∃ v, I737 a_this 5 = v := ⟨_, rfl⟩
                  obtain ⟨x745, e746⟩ : ∃ v, I737 a_this 6 = v := ⟨_, rfl⟩
                  have nz747 : g_S (x743).toNat = x745 := by have h9 := hp732a_1; rw [e744, e746] at h9; exact h9
                  refine q_con B dX6_readArgs_121 ?_
                  have e748 : I55 a_this 1 = I a_this 1 := (hFc60.i t46 (by decide) nm0 rfl).trans hLL16_6
                  have e749 : I597 a_this 1 = I a_this 1 := (w2_ne hu596 (Or.inl (tne t46 t594 (by decide)))).trans e748
                  have e750 : I680 a_this 1 = I a_this 1 := (w2_ne hu681 (Or.inl (tne t46 t33 (by decide)))).trans e749
                  have e751 : I692 a_this 1 = I a_this 1 := (hFc697.i t46 (by decide) nm0 rfl).trans e750
                  have e752 : I737 a_this 1 = I a_this 1 := (hFc742.i t46 (by decide) nm0 rfl).trans e751
                  refine g_zret B hM dX6_readArgs_122 ⟨by show 0 + 1 + 1 ≤ 2; omega, by show 0 + 4 + 4 ≤ 8; omega⟩ (by omega) (by omega) ?_
                  rw [← hPST]
                  exact ⟨(1), rfl, by omega, hF, by omega, by omega, by first | omega | assumption | exact trivial, by show g_S (I737 a_this 5).toNat = I737 a_this 6; rw [e744, e746]; first | assumption | omega, by first | omega | assumption | exact trivial, by first | omega | assumption | exact trivial, by first | omega | assumption | exact trivial, by first | omega | assumption | exact trivial⟩
          · refine lv_aload_n B.1 B.2.1 dX6_readArgs_46 rfl (lv_at hl 0 rfl) ?_
            refine q_con B dX6_readArgs_47 ?_
            have hv753 : ((-2147483648 : Int) ≤ 2 ∧ (2 : Int) ≤ 2147483647) ∧ ((2 : Int) ≠ 0) := by first | omega | exact ⟨by first | omega | assumption | exact trivial, by first | omega | assumption | exact trivial⟩
            refine z_calli hM hA (c_runV (n := 1) (as := [.int (II 2)]) (rest := []) B hX hA hM hl.1 t46 kd7 rfl (k_X6_wrong l D dA eA L23 T24 N25 I55 J56 R34 a_this t46 (2) hv753.1 hv753.2 _ _) ml_X6_84 nm_X6_wrong ⟨rfl, rfl⟩ ⟨Nat.le_of_ble_eq_true rfl, Nat.le_of_ble_eq_true rfl⟩ dX6_readArgs_48 rfl rfl (Nat.le_of_ble_eq_true rfl) ⟨by show 0 + 1 + 1 + 0 ≤ 2; omega, by show 0 + 4 + 4 + 0 ≤ 8; omega⟩) (fun x755 ix755 L756 T757 N758 I759 J760 R761 dz762 dl763 H locs hp754 hMn => ?_)
            obtain ⟨yL756, yT757, yN758, yJ760, yR761, hFc764, hp754a⟩ := hp754
            obtain rfl := yL756.symm; obtain rfl := yT757.symm; obtain rfl := yN758.symm; obtain rfl := yJ760.symm; obtain rfl := yR761.symm
            replace hF : Fr mo_X6_readArgs [] T N I J R T24 N25 I759 J56 R34 := hF.trans hFc764 (by decide) e20
            have hM := hMn
            clear hMn
            replace hp754a : (0 : Int) ≤ x755 ∧ x755 ≤ 1 ∧ (x755 = 0 ∧ I759 a_this 1 ≠ 0) := hp754a
            obtain ⟨hp754a_0, hp754a_1, hp754a_2⟩ := hp754a
            obtain ⟨hp754a_2_0, hp754a_2_1⟩ := hp754a_2
            have e765 : I55 a_this 1 = I a_this 1 := (hFc60.i t46 (by decide) nm0 rfl).trans hLL16_6
            obtain ⟨x766, e767⟩ : ∃ v, I759 a_this 1 = v := ⟨_, rfl⟩
            have e768 : I759 a_this 5 = x61 := (hFc764.i t46 (by decide) nm0 rfl).trans e62
            have e769 : I759 a_this 6 = x63 := (hFc764.i t46 (by decide) nm0 rfl).trans e64
            refine g_zret B hM dX6_readArgs_51 ⟨by show 0 + 1 + 1 ≤ 2; omega, by show 0 + 4 + 4 ≤ 8; omega⟩ (by omega) (by omega) ?_
            rw [← hPST]
            exact ⟨x755, rfl, by omega, hF, by omega, by omega, by first | omega | assumption | exact trivial, by show g_S (I759 a_this 5).toNat = I759 a_this 6; rw [e768, e769]; first | assumption | omega, by first | omega | assumption | exact trivial, by first | omega | assumption | exact trivial, by first | omega | assumption | exact trivial, by first | omega | assumption | exact trivial⟩
  have hv770 : ((-2147483648 : Int) ≤ 0 ∧ (0 : Int) ≤ 2147483647) ∧ (0 ≤ (0 : Int)) ∧ ((0 : Int) ≤ 4) ∧ (I a_this 5 ≤ I a_this 5) ∧ (I a_this 5 ≤ g_n) ∧ (I a_this 1 = I a_this 1) ∧ (0 ≤ 5 - (0 : Int)) := by first | omega | exact ⟨by first | omega | assumption | exact trivial, by first | omega | assumption | exact trivial, by first | omega | assumption | exact trivial, by first | omega | assumption | exact trivial, by first | omega | assumption | exact trivial, by first | omega | assumption | exact trivial, by first | omega | assumption | exact trivial⟩
  exact LL16 (Int.toNat (5 - (0 : Int) + 1)) 0 I J _ _ ls hM hF (lv_sub hl [1, 2, 0] rfl) hv770.1 hv770.2.1 hv770.2.2.1 hv770.2.2.2.1 hv770.2.2.2.2.1 (by rw [e2, e4]; first | assumption | omega) hv770.2.2.2.2.2.1 hv770.2.2.2.2.2.2 (by omega)

def mo_X6_readUse : List Nat := [229, 230, 231, 225, 226, 290, 291, 289, 2400, 2432, 640, 641, 642, 1760, 293, 294, 295, 296, 297, 298]
set_option maxHeartbeats 1000000 in
set_option maxRecDepth 20000 in
theorem k_X6_readUse (l : Launch) (D : va_G) (dA : Nat → ClassId) (eA : Nat) (L : List Nat) (T N : Nat → Nat) (I : Nat → Nat → Int) (J : Nat → Nat → Int64) (R : Nat → Nat → Nat) (a_this : Nat) (t_this : T a_this = 7) (a_spot : Nat) (t_spot : T a_spot = 10) (g_t : Nat) (g_s : Nat) (g_S : Nat → Int) (g_n : Int) (g_u : Nat) (p_0 : R a_this 3 = g_t + 1) (p_1 : T g_t = 3) (p_2 : R g_t 0 = g_s + 1) (p_3 : T g_s = 62) (p_4 : I g_s = g_S) (p_5 : TKz g_S g_n) (p_6 : I a_this 5 ≤ g_n) (p_7 : g_S (I a_this 5).toNat = I a_this 6) (p_8 : R a_spot 3 = g_u + 1) (p_9 : T g_u = 20) (p_10 : I a_this 6 = 2) (p_11 : I g_u 2 < 8) : GC l yX6_readUse cX6_readUse 4 (some .boolean) ({ frames := 7, cells := 4, slots := 31, locals := 241 }) D dA eA L T N I J R [.ref a_this, .ref a_spot] 4 31 (gI (fun r L' T' N' I' J' R' dz dl => Fr mo_X6_readUse [] T N I J R T' N' I' J' R' ∧ (0 : Int) ≤ r ∧ r ≤ 1 ∧ (I' a_this 5 ≤ g_n ∧ g_S (I' a_this 5).toNat = I' a_this 6 ∧ I a_this 5 ≤ I' a_this 5 ∧ ((r = 0 ∧ I' a_this 1 ≠ 0) ∨ (r = 1 ∧ I' a_this 1 = I a_this 1 ∧ I a_this 5 + 1 ≤ I' a_this 5)) ∧ (dz : Int) ≤ 4 * (I' a_this 5 - I a_this 5) ∧ (dl : Int) ≤ 31 * (I' a_this 5 - I a_this 5) ∧ dz ≤ 4 ∧ dl ≤ 31 ∧ (r = 1 → I' g_u 2 = I g_u 2 + 1)))) := by
  generalize hPST : (gI (fun r L' T' N' I' J' R' dz dl => Fr mo_X6_readUse [] T N I J R T' N' I' J' R' ∧ (0 : Int) ≤ r ∧ r ≤ 1 ∧ (I' a_this 5 ≤ g_n ∧ g_S (I' a_this 5).toNat = I' a_this 6 ∧ I a_this 5 ≤ I' a_this 5 ∧ ((r = 0 ∧ I' a_this 1 ≠ 0) ∨ (r = 1 ∧ I' a_this 1 = I a_this 1 ∧ I a_this 5 + 1 ≤ I' a_this 5)) ∧ (dz : Int) ≤ 4 * (I' a_this 5 - I a_this 5) ∧ (dl : Int) ≤ 31 * (I' a_this 5 - I a_this 5) ∧ dz ≤ 4 ∧ dl ≤ 31 ∧ (r = 1 → I' g_u 2 = I g_u 2 + 1)))) = PST
  refine g_enter (own := RX6) (by decide) rfl (Nat.le_of_ble_eq_true rfl) (fun p e s m args below meth c ls hm B hX hM hl => ?_)
  have hC0 := hM.2.2.2.2.2.2.1
  have hW0 := hM.2.2.2
  have hF : Fr mo_X6_readUse [] T N I J R T N I J R := Fr.rf
  have hA : ∀ q, s.heap.size ≤ q → cF dA L T N I J R s.heap.size q := fun q h => Or.inr h
  have hl : lv_has ls 4 [(0, .ref a_this), (1, .ref a_spot)] := hl
  obtain ⟨x1, e2⟩ : ∃ v, I a_this 5 = v := ⟨_, rfl⟩
  obtain ⟨x3, e4⟩ : ∃ v, I a_this 6 = v := ⟨_, rfl⟩
  have nz5 : g_S (x1).toNat = x3 := by have h9 := p_7; rw [e2, e4] at h9; exact h9
  obtain ⟨x6, e7⟩ : ∃ v, I g_u 2 = v := ⟨_, rfl⟩
  have r8 : (0 : Int) ≤ x6 ∧ x6 ≤ 8 := by rw [← e7]; exact g20_2 hM.2.2.2.2.2.2.1 p_9
  obtain ⟨x9, e10⟩ : ∃ v, I a_this 1 = v := ⟨_, rfl⟩
  refine lv_aload_n B.1 B.2.1 dX6_readUse_0 rfl (lv_at hl 0 rfl) ?_
  refine z_calli hM hA (c_runV (n := 0) (as := []) (rest := []) B hX hA hM hl.1 t_this kd7 rfl (k_X6_readUseName l D dA eA L T N I J R a_this t_this _ _) ml_X6_257 nm_X6_readUseName ⟨rfl, rfl⟩ ⟨Nat.le_of_ble_eq_true rfl, Nat.le_of_ble_eq_true rfl⟩ dX6_readUse_1 rfl rfl (Nat.le_of_ble_eq_true rfl) ⟨by show 0 + 0 ≤ 4; omega, by show 0 + 0 ≤ 31; omega⟩) (fun x12 ix12 L13 T14 N15 I16 J17 R18 dz19 dl20 H locs hp11 hMn => ?_)
  obtain ⟨yL13, yT14, yN15, yJ17, yR18, hFc21, hp11a⟩ := hp11
  obtain rfl := yL13.symm; obtain rfl := yT14.symm; obtain rfl := yN15.symm; obtain rfl := yJ17.symm; obtain rfl := yR18.symm
  replace hF : Fr mo_X6_readUse [] T N I J R T N I16 J R := hF.trans hFc21 (by decide) e20
  have hM := hMn
  clear hMn
  replace hp11a : ((x12 = -1 ∧ I16 a_this 1 ≠ 0) ∨ (0 ≤ x12 ∧ x12 ≤ 299 ∧ I16 a_this 1 = I a_this 1)) := hp11a
  obtain ⟨x22, e23⟩ : ∃ v, I16 a_this 1 = v := ⟨_, rfl⟩
  refine lv_istore_n (lv' := [(2, .int (II x12)), (0, .ref a_this), (1, .ref a_spot)]) B.1 B.2.1 dX6_readUse_4 rfl hl (by decide) rfl (fun ls hl => ?_)
  refine lv_iload_n B.1 B.2.1 dX6_readUse_5 rfl (lv_at hl 0 rfl) ?_
  refine q_con B dX6_readUse_6 ?_
  refine q_cne (tgt := 12) B dX6_readUse_7 (by decide) (by unfold inr; omega) (by unfold inr; omega) (fun c24 => ?_) (fun c24 => ?_)
  · have hMo := hM
    refine c_new (t := 37) pk_X10 B hX.out hA hM kd37 df_X10 rfl rfl (by decide) cl_X6_260 in_X10 ini_X10 (by show 0 + 1 ≤ 4; omega) (by show 0 + 11 ≤ 31; omega) dX6_readUse_12 (fun b25 L26 T27 N28 H t29 hT30 hN31 hM => ?_)
    have t32 : T27 b25 = 37 := by rw [hT30, va_up_self]
    have n33 : N28 b25 = 11 := by rw [hN31, va_up_self]
    replace hF : Fr mo_X6_readUse [] T N I J R T27 N28 I16 J R := hF.new t29 hT30 hN31
    have zz34 := hMo.2.2.2.2.2.1 b25 t29
    clear hMo
    refine lv_dup B.1 B.2.1 dX6_readUse_15 rfl ?_
    refine lv_iload_n B.1 B.2.1 dX6_readUse_16 rfl (lv_at hl 0 rfl) ?_
    refine z_callv hM hA (c_runI (n := 1) (as := [.int (II x12)]) (rest := [.ref b25]) B hX hA hM hl.1 (k_X10_init l D dA eA L26 T27 N28 I16 J R b25 t32 x12 (by first | omega | assumption | exact trivial) zz34 _ _) ml_X6_262 nm_X10_init ⟨rfl, rfl⟩ ⟨Nat.le_of_ble_eq_true rfl, Nat.le_of_ble_eq_true rfl⟩ dX6_readUse_17 rfl rfl (Nat.le_of_ble_eq_true rfl) ⟨by show 0 + 1 + 0 ≤ 4; omega, by show 0 + 11 + 0 ≤ 31; omega⟩) (fun L37 T38 N39 I40 J41 R42 dz43 dl44 H locs hp35 hMn => ?_)
    obtain ⟨yJ41, hFc45, hp35a⟩ := hp35
    obtain rfl := yJ41.symm
    have t46 : T27 a_this = 7 := hF.tt t_this (by decide) nm0
    have t47 : T27 a_spot = 10 := hF.tt t_spot (by decide) nm0
    have t48 : T27 g_t = 3 := hF.tt p_1 (by decide) nm0
    have t49 : T27 g_s = 62 := hF.tt p_3 (by decide) nm0
    have t50 : T27 g_u = 20 := hF.tt p_9 (by decide) nm0
    replace hF : Fr mo_X6_readUse [] T N I J R T38 N39 I40 J R42 := hF.trans hFc45 (by decide) (e2x (fun h => absurd t29 h))
    have hM := hMn
    clear hMn
    obtain ⟨t51, hp35a⟩ := hp35a
    replace hp35a : I40 b25 5 = -1 ∧ I40 b25 6 = -1 := hp35a
    obtain ⟨hp35a_0, hp35a_1⟩ := hp35a
    refine lv_astore_n (lv' := [(3, .ref b25), (2, .int (II x12)), (0, .ref a_this), (1, .ref a_spot)]) B.1 B.2.1 dX6_readUse_20 rfl hl (by decide) rfl (fun ls hl => ?_)
    refine lv_aload_n B.1 B.2.1 dX6_readUse_21 rfl (lv_at hl 3 rfl) ?_
    have t52 : T38 a_spot = 10 := hF.tt t_spot (by decide) nm0
    have e53 : R42 a_spot 3 = g_u + 1 := (hF.r t_spot (by decide) nm0 rfl).trans p_8
    refine c_getn (k := 3) pk_X8 B hM t52 kd10 rfl (by decide) fl_X6_251 dX6_readUse_22 e53 ?_
    refine lv_aload_n B.1 B.2.1 dX6_readUse_25 rfl (lv_at hl 0 rfl) ?_
    have t54 : T38 g_u = 20 := hF.tt p_9 (by decide) nm0
    have e55 : I16 g_u 2 = x6 := (hFc21.i p_9 (by decide) nm0 rfl).trans e7
    have e56 : I40 g_u 2 = x6 := (hFc45.i t50 (by decide) (nm1 (tne t50 t32 (by decide))) rfl).trans e55
    obtain ⟨x57, e58⟩ : ∃ v, I40 b25 0 = v := ⟨_, rfl⟩
    have hv59 : (15 ≤ 20) ∧ (20 ≤ 23) ∧ (I40 g_u 2 < 8) ∧ (20 = 18 → I40 b25 0 ≤ I40 g_u 2) := by first | omega | exact ⟨by first | omega | assumption | exact trivial, by first | omega | assumption | exact trivial, by first | omega | assumption | exact trivial, by first | omega | assumption | exact trivial⟩
    refine g_calli hM hA (c_runV (n := 1) (as := [.ref b25]) (rest := []) B hX hA hM hl.1 t54 kd20 rfl (k_Jx4a65c_add_9ea2d l D dA eA L37 T38 N39 I40 J R42 g_u t54 b25 t51 hv59.1 hv59.2.1 hv59.2.2.1 hv59.2.2.2 _ _) ml_X6_146 nm_Jx4a65c_add_9ea2d ⟨rfl, rfl⟩ ⟨Nat.le_of_ble_eq_true rfl, Nat.le_of_ble_eq_true rfl⟩ dX6_readUse_26 rfl rfl (Nat.le_of_ble_eq_true rfl) ⟨by show 0 + 1 + 1 ≤ 4; omega, by show 0 + 11 + 12 ≤ 31; omega⟩) (fun x61 ix61 L62 T63 N64 I65 J66 R67 dz68 dl69 H locs hp60 hMn => ?_)
    obtain ⟨yJ66, hFc70, hp60a⟩ := hp60
    obtain rfl := yJ66.symm
    have t71 : T38 a_this = 7 := hF.tt t_this (by decide) nm0
    have t72 : T38 g_t = 3 := hF.tt p_1 (by decide) nm0
    have t73 : T38 g_s = 62 := hF.tt p_3 (by decide) nm0
    replace hF : Fr mo_X6_readUse [] T N I J R T63 N64 I65 J R67 := hF.trans hFc70 (by decide) e20
    have hM := hMn
    clear hMn
    replace hp60a : (0 : Int) ≤ x61 ∧ x61 ≤ 1 ∧ (I65 g_u 2 = I40 g_u 2 + 1 ∧ R67 (R67 g_u 1 - 1) (I40 g_u 2).toNat = b25 + 1 ∧ (∀ i : Nat, (i : Int) < I40 g_u 2 → R67 (R67 g_u 1 - 1) i = R42 (R42 g_u 1 - 1) i) ∧ (∀ b, T38 b = 20 → b ≠ g_u → I65 b 2 = I40 b 2) ∧ dz68 ≤ 1 ∧ dl69 ≤ 12 ∧ dl69 + 3 * N39 (R42 g_u 1 - 1) ≤ 3 * N64 (R67 g_u 1 - 1) + 2) := hp60a
    obtain ⟨hp60a_0, hp60a_1, hp60a_2⟩ := hp60a
    obtain ⟨hp60a_2_0, hp60a_2_1, hp60a_2_2, hp60a_2_3, hp60a_2_4, hp60a_2_5, hp60a_2_6⟩ := hp60a_2
    obtain ⟨v74, e75⟩ : ∃ v, R67 g_u 1 = v := ⟨_, rfl⟩
    refine lv_pop B.1 B.2.1 dX6_readUse_29 rfl ?_
    refine lv_aload_n B.1 B.2.1 dX6_readUse_30 rfl (lv_at hl 2 rfl) ?_
    have t76 : T63 a_this = 7 := hF.tt t_this (by decide) nm0
    have e77 : R67 a_this 3 = g_t + 1 := (hF.r t_this (by decide) nm0 rfl).trans p_0
    have e78 : R67 g_t 0 = g_s + 1 := (hF.r p_1 (by decide) nm0 rfl).trans p_2
    have t79 : T63 g_t = 3 := hF.tt p_1 (by decide) nm0
    have t80 : T63 g_s = 62 := hF.tt p_3 (by decide) nm0
    have e81 : I16 a_this 5 = x1 := (hFc21.i t_this (by decide) nm0 rfl).trans e2
    have e82 : I40 a_this 5 = x1 := (hFc45.i t46 (by decide) (nm1 (tne t46 t32 (by decide))) rfl).trans e81
    have e83 : I65 a_this 5 = x1 := (hFc70.i t71 (by decide) nm0 rfl).trans e82
    have e84 : I16 a_this 6 = 2 := (hFc21.i t_this (by decide) nm0 rfl).trans p_10
    have e85 : I40 a_this 6 = 2 := (hFc45.i t46 (by decide) (nm1 (tne t46 t32 (by decide))) rfl).trans e84
    have e86 : I65 a_this 6 = 2 := (hFc70.i t71 (by decide) nm0 rfl).trans e85
    have hv87 : (TKz g_S g_n) ∧ (I65 a_this 5 ≤ g_n) := by first | omega | exact ⟨by first | omega | assumption | exact trivial, by first | omega | assumption | exact trivial⟩
    refine z_callv hM hA (c_runV (n := 0) (as := []) (rest := []) B hX hA hM hl.1 t76 kd7 rfl (k_X6_advance l D dA eA L62 T63 N64 I65 J R67 a_this t76 g_t g_s g_S g_n (show R67 a_this 3 = g_t + 1 from e77) (show T63 g_t = 3 from t79) (show R67 g_t 0 = g_s + 1 from e78) (show T63 g_s = 62 from t80) (show I65 g_s = g_S from ((Fr.irow hF p_3 (by decide) nm0 (by decide)).trans p_4)) hv87.1 hv87.2 (show g_S (I65 a_this 5).toNat = I65 a_this 6 from by rw [e83, e86]; first | assumption | omega) _ _) ml_X6_87 nm_X6_advance ⟨rfl, rfl⟩ ⟨Nat.le_of_ble_eq_true rfl, Nat.le_of_ble_eq_true rfl⟩ dX6_readUse_31 rfl rfl (Nat.le_of_ble_eq_true rfl) ⟨by show 0 + 1 + dz68 + 0 ≤ 4; omega, by show 0 + 11 + dl69 + 0 ≤ 31; omega⟩) (fun L90 T91 N92 I93 J94 R95 dz96 dl97 H locs hp88 hMn => ?_)
    obtain ⟨yL90, yT91, yN92, yR95, hFc98, hp88a⟩ := hp88
    obtain rfl := yL90.symm; obtain rfl := yT91.symm; obtain rfl := yN92.symm; obtain rfl := yR95.symm
    replace hF : Fr mo_X6_readUse [] T N I J R T63 N64 I93 J94 R67 := hF.trans hFc98 (by decide) e20
    have hM := hMn
    clear hMn
    replace hp88a : I93 a_this 5 ≤ g_n ∧ g_S (I93 a_this 5).toNat = I93 a_this 6 ∧ (((I65 a_this 6 = 0 ∨ I65 a_this 6 = 1) ∧ I93 a_this 5 = I65 a_this 5) ∨ (I93 a_this 5 = I65 a_this 5 + 1)) := hp88a
    obtain ⟨hp88a_0, hp88a_1, hp88a_2⟩ := hp88a
    obtain ⟨x99, e100⟩ : ∃ v, I93 a_this 5 = v := ⟨_, rfl⟩
    obtain ⟨x101, e102⟩ : ∃ v, I93 a_this 6 = v := ⟨_, rfl⟩
    have nz103 : g_S (x99).toNat = x101 := by have h9 := hp88a_1; rw [e100, e102] at h9; exact h9
    refine lv_aload_n B.1 B.2.1 dX6_readUse_34 rfl (lv_at hl 2 rfl) ?_
    have r104 : (-2147483648 : Int) ≤ x101 ∧ x101 ≤ 2147483647 := by rw [← e102]; exact g7_6 hM.2.2.2.2.2.2.1 t76
    refine c_geti (k := 6) pk_X6 B hM t76 kd7 rfl (by decide) fl_X6_47 dX6_readUse_35 e102 ?_
    refine q_bip B dX6_readUse_38 (by decide) ?_
    have JJ53 : ∀ (v53_3 : Nat) (L_53 : List Nat) (T_53 : Nat → Nat) (N_53 : Nat → Nat) (I_53 : Nat → Nat → Int) (J_53 : Nat → Nat → Int64) (R_53 : Nat → Nat → Nat) (zc53 zs53 : Nat) (H : Heap) (locs : List Loc) (ls : Array Slot), (CWd D dA eA (cF dA L T N I J R s.heap.size) s.heap L_53 T_53 N_53 I_53 J_53 R_53 H locs) → (Fr mo_X6_readUse [] T N I J R T_53 N_53 I_53 J_53 R_53) → lv_has ls 4 [(2, .int (II x12)), (0, .ref a_this), (1, .ref a_spot), (3, .ref v53_3)] → (T_53 v53_3 = 9) → (I a_this 5 + 1 ≤ I_53 a_this 5) → ((zc53 : Int) ≤ 4) → ((zs53 : Int) ≤ 31) → (I_53 g_u 2 = I g_u 2 + 1) → (I_53 a_this 5 ≤ g_n) → (g_S (I_53 a_this 5).toNat = I_53 a_this 6) → (I_53 a_this 1 = I a_this 1) → W p l e ({ frames := 7, cells := 4, slots := 31, locals := 241 }) s m args below meth c H locs zc53 zs53 (MQ below (gQ D dA eA (cF dA L T N I J R s.heap.size) s.heap.size (hs s.heap) PST) args s 4 31 (cF dA L T N I J R s.heap.size)) (F0 m 53 ls []) := by
      intro v53_3 L_53 T_53 N_53 I_53 J_53 R_53 zc53 zs53 H locs ls hM hF hl hJJ53_0 hJJ53_1 hJJ53_2 hJJ53_3 hJJ53_4 hJJ53_5 hJJ53_6 hJJ53_7
      obtain ⟨x105, e106⟩ : ∃ v, I_53 a_this 5 = v := ⟨_, rfl⟩
      obtain ⟨x107, e108⟩ : ∃ v, I_53 a_this 6 = v := ⟨_, rfl⟩
      have nz109 : g_S (x105).toNat = x107 := by have h9 := hJJ53_6; rw [e106, e108] at h9; exact h9
      refine lv_aload_n B.1 B.2.1 dX6_readUse_53 rfl (lv_at hl 1 rfl) ?_
      have t110 : T_53 a_this = 7 := hF.tt t_this (by decide) nm0
      have r111 : (-2147483648 : Int) ≤ x107 ∧ x107 ≤ 2147483647 := by rw [← e108]; exact g7_6 hM.2.2.2.2.2.2.1 t110
      refine c_geti (k := 6) pk_X6 B hM t110 kd7 rfl (by decide) fl_X6_47 dX6_readUse_54 e108 ?_
      refine q_bip B dX6_readUse_57 (by decide) ?_
      have e112 : R_53 a_this 3 = g_t + 1 := (hF.r t_this (by decide) nm0 rfl).trans p_0
      have e113 : R_53 g_t 0 = g_s + 1 := (hF.r p_1 (by decide) nm0 rfl).trans p_2
      have e114 : R_53 a_spot 3 = g_u + 1 := (hF.r t_spot (by decide) nm0 rfl).trans p_8
      have JJ93 : ∀ (I_93 : Nat → Nat → Int) (J_93 : Nat → Nat → Int64) (H : Heap) (locs : List Loc) (ls : Array Slot), (CWd D dA eA (cF dA L T N I J R s.heap.size) s.heap L_53 T_53 N_53 I_93 J_93 R_53 H locs) → (Fr mo_X6_readUse [] T N I J R T_53 N_53 I_93 J_93 R_53) → lv_has ls 4 [(2, .int (II x12)), (0, .ref a_this), (1, .ref a_spot), (3, .ref v53_3)] → (I a_this 5 + 1 ≤ I_93 a_this 5) → (I_93 g_u 2 = I g_u 2 + 1) → (I_93 a_this 5 ≤ g_n) → (g_S (I_93 a_this 5).toNat = I_93 a_this 6) → (I_93 a_this 1 = I a_this 1) → W p l e ({ frames := 7, cells := 4, slots := 31, locals := 241 }) s m args below meth c H locs zc53 zs53 (MQ below (gQ D dA eA (cF dA L T N I J R s.heap.size) s.heap.size (hs s.heap) PST) args s 4 31 (cF dA L T N I J R s.heap.size)) (F0 m 93 ls []) := by
        intro I_93 J_93 H locs ls hM hF hl hJJ93_0 hJJ93_1 hJJ93_2 hJJ93_3 hJJ93_4
        obtain ⟨x115, e116⟩ : ∃ v, I_93 a_this 5 = v := ⟨_, rfl⟩
        obtain ⟨x117, e118⟩ : ∃ v, I_93 a_this 6 = v := ⟨_, rfl⟩
        have nz119 : g_S (x115).toNat = x117 := by have h9 := hJJ93_3; rw [e116, e118] at h9; exact h9
        refine lv_aload_n B.1 B.2.1 dX6_readUse_93 rfl (lv_at hl 1 rfl) ?_
        have r120 : (-2147483648 : Int) ≤ x117 ∧ x117 ≤ 2147483647 := by rw [← e118]; exact g7_6 hM.2.2.2.2.2.2.1 t110
        refine c_geti (k := 6) pk_X6 B hM t110 kd7 rfl (by decide) fl_X6_47 dX6_readUse_94 e118 ?_
        refine q_bip B dX6_readUse_97 (by decide) ?_
        have JJ143 : ∀ (I_143 : Nat → Nat → Int) (J_143 : Nat → Nat → Int64) (H : Heap) (locs : List Loc) (ls : Array Slot), (CWd D dA eA (cF dA L T N I J R s.heap.size) s.heap L_53 T_53 N_53 I_143 J_143 R_53 H locs) → (Fr mo_X6_readUse [] T N I J R T_53 N_53 I_143 J_143 R_53) → lv_has ls 4 [(2, .int (II x12)), (0, .ref a_this), (1, .ref a_spot), (3, .ref v53_3)] → (I a_this 5 + 1 ≤ I_143 a_this 5) → (I_143 g_u 2 = I g_u 2 + 1) → (I_143 a_this 5 ≤ g_n) → (g_S (I_143 a_this 5).toNat = I_143 a_this 6) → (I_143 a_this 1 = I a_this 1) → W p l e ({ frames := 7, cells := 4, slots := 31, locals := 241 }) s m args below meth c H locs zc53 zs53 (MQ below (gQ D dA eA (cF dA L T N I J R s.heap.size) s.heap.size (hs s.heap) PST) args s 4 31 (cF dA L T N I J R s.heap.size)) (F0 m 143 ls []) := by
          intro I_143 J_143 H locs ls hM hF hl hJJ143_0 hJJ143_1 hJJ143_2 hJJ143_3 hJJ143_4
          obtain ⟨x121, e122⟩ : ∃ v, I_143 a_this 5 = v := ⟨_, rfl⟩
          obtain ⟨x123, e124⟩ : ∃ v, I_143 a_this 6 = v := ⟨_, rfl⟩
          have nz125 : g_S (x121).toNat = x123 := by have h9 := hJJ143_3; rw [e122, e124] at h9; exact h9
          refine lv_aload_n B.1 B.2.1 dX6_readUse_143 rfl (lv_at hl 1 rfl) ?_
          have r126 : (-2147483648 : Int) ≤ x123 ∧ x123 ≤ 2147483647 := by rw [← e124]; exact g7_6 hM.2.2.2.2.2.2.1 t110
          refine c_geti (k := 6) pk_X6 B hM t110 kd7 rfl (by decide) fl_X6_47 dX6_readUse_144 e124 ?_
          refine q_bip B dX6_readUse_147 (by decide) ?_
          have JJ188 : ∀ (I_188 : Nat → Nat → Int) (J_188 : Nat → Nat → Int64) (H : Heap) (locs : List Loc) (ls : Array Slot), (CWd D dA eA (cF dA L T N I J R s.heap.size) s.heap L_53 T_53 N_53 I_188 J_188 R_53 H locs) → (Fr mo_X6_readUse [] T N I J R T_53 N_53 I_188 J_188 R_53) → lv_has ls 4 [(2, .int (II x12)), (0, .ref a_this), (1, .ref a_spot), (3, .ref v53_3)] → (I a_this 5 + 1 ≤ I_188 a_this 5) → (I_188 g_u 2 = I g_u 2 + 1) → (I_188 a_this 5 ≤ g_n) → (g_S (I_188 a_this 5).toNat = I_188 a_this 6) → (I_188 a_this 1 = I a_this 1) → W p l e ({ frames := 7, cells := 4, slots := 31, locals := 241 }) s m args below meth c H locs zc53 zs53 (MQ below (gQ D dA eA (cF dA L T N I J R s.heap.size) s.heap.size (hs s.heap) PST) args s 4 31 (cF dA L T N I J R s.heap.size)) (F0 m 188 ls []) := by
            intro I_188 J_188 H locs ls hM hF hl hJJ188_0 hJJ188_1 hJJ188_2 hJJ188_3 hJJ188_4
            obtain ⟨x127, e128⟩ : ∃ v, I_188 a_this 5 = v := ⟨_, rfl⟩
            obtain ⟨x129, e130⟩ : ∃ v, I_188 a_this 6 = v := ⟨_, rfl⟩
            have nz131 : g_S (x127).toNat = x129 := by have h9 := hJJ188_3; rw [e128, e130] at h9; exact h9
            refine lv_aload_n B.1 B.2.1 dX6_readUse_188 rfl (lv_at hl 1 rfl) ?_
            have r132 : (-2147483648 : Int) ≤ x129 ∧ x129 ≤ 2147483647 := by rw [← e130]; exact g7_6 hM.2.2.2.2.2.2.1 t110
            refine c_geti (k := 6) pk_X6 B hM t110 kd7 rfl (by decide) fl_X6_47 dX6_readUse_189 e130 ?_
            refine q_con B dX6_readUse_192 ?_
            refine q_cne (tgt := 227) B dX6_readUse_193 (by decide) (by unfold inr; omega) (by unfold inr; omega) (fun c133 => ?_) (fun c133 => ?_)
            · refine q_con B dX6_readUse_227 ?_
              refine g_zret B hM dX6_readUse_228 ⟨by show zc53 ≤ 4; omega, by show zs53 ≤ 31; omega⟩ (by omega) (by omega) ?_
              rw [← hPST]
              exact ⟨(1), rfl, by omega, hF, by omega, by omega, by first | omega | assumption | exact trivial, by show g_S (I_188 a_this 5).toNat = I_188 a_this 6; rw [e128, e130]; first | assumption | omega, by first | omega | assumption | exact trivial, by first | omega | assumption | exact trivial, by first | omega | assumption | exact trivial, by first | omega | assumption | exact trivial, by first | omega | assumption | exact trivial, by first | omega | assumption | exact trivial, by first | omega | assumption | exact trivial⟩
            · refine lv_aload_n B.1 B.2.1 dX6_readUse_196 rfl (lv_at hl 3 rfl) ?_
              refine lv_aload_n B.1 B.2.1 dX6_readUse_197 rfl (lv_at hl 1 rfl) ?_
              refine c_getn (k := 3) pk_X6 B hM t110 kd7 rfl (by decide) fl_X6_9 dX6_readUse_198 e112 ?_
              have t134 : T_53 g_t = 3 := hF.tt p_1 (by decide) nm0
              obtain ⟨b135, e136, t137⟩ := g3_1 hC0 p_1
              have e138 : R_53 g_t 1 = b135 + 1 := (hF.r p_1 (by decide) nm0 rfl).trans e136
              refine c_getn (k := 1) pk_X9 B hM t134 kd3 rfl (by decide) fl_X6_61 dX6_readUse_201 e138 ?_
              refine lv_aload_n B.1 B.2.1 dX6_readUse_204 rfl (lv_at hl 1 rfl) ?_
              have r139 : (0 : Int) ≤ x127 ∧ x127 ≤ 3000 := by rw [← e128]; exact g7_5 hM.2.2.2.2.2.2.1 t110
              refine c_geti (k := 5) pk_X6 B hM t110 kd7 rfl (by decide) fl_X6_39 dX6_readUse_205 e128 ?_
              have t140 : T_53 b135 = 63 := hF.tt t137 (by decide) nm0
              have n141 : 3001 ≤ N_53 b135 ∧ N_53 b135 ≤ 3001 := gn63 hM.2.2.2.2.2.2.1 t140
              obtain ⟨x142, e143⟩ : ∃ v, I b135 x127.toNat = v := ⟨_, rfl⟩
              have e144 : I_188 b135 x127.toNat = x142 := (hF.i t137 (by decide) nm0 (by rw [cd_arr (j := 0) (by decide)]; rfl)).trans e143
              have r145 : (-2147483648 : Int) ≤ x142 ∧ x142 ≤ 2147483647 := by rw [← e144]; exact ga63 hM.2.2.2.2.2.2.1 t140 (by omega)
              refine c_ild B hM t140 kd63 an63 dX6_readUse_208 (by omega) (by omega) e144 ?_
              refine q_con B dX6_readUse_209 ?_
              refine q_add B dX6_readUse_210 ?_
              refine q_wrap (fun x146 ix146 => ?_)
              refine c_puti (k := 9) pk_X10 B hM hJJ53_0 kd9 rfl (by decide) fl_X6_280 (Or.inl rfl) dX6_readUse_211 rfl rfl rfl (show (-2147483648 : Int) ≤ x146 from by omega) (show x146 ≤ (2147483647 : Int) from by omega) (fun I147 H locs hu148 hM => ?_)
              have e149 : I147 v53_3 9 = x146 := w2_at hu148
              replace hF : Fr mo_X6_readUse [] T N I J R T_53 N_53 I147 J_188 R_53 := hF.wi hu148 (Fr_c hF hJJ53_0 rfl)
              refine lv_aload_n B.1 B.2.1 dX6_readUse_214 rfl (lv_at hl 3 rfl) ?_
              refine lv_aload_n B.1 B.2.1 dX6_readUse_215 rfl (lv_at hl 1 rfl) ?_
              obtain ⟨w150, e151⟩ : ∃ v, J_188 a_this 7 = v := ⟨_, rfl⟩
              refine c_getl (k := 7) pk_X6 B hM t110 kd7 rfl (by decide) fl_X6_54 dX6_readUse_216 e151 ?_
              refine q_l2i B dX6_readUse_219 (fun x152 ix152 => ?_)
              unfold inr at ix152
              refine c_puti (k := 10) pk_X10 B hM hJJ53_0 kd9 rfl (by decide) fl_X6_283 (Or.inl rfl) dX6_readUse_220 rfl rfl rfl (show (-2147483648 : Int) ≤ x152 from by omega) (show x152 ≤ (2147483647 : Int) from by omega) (fun I153 H locs hu154 hM => ?_)
              have e155 : I153 v53_3 10 = x152 := w2_at hu154
              replace hF : Fr mo_X6_readUse [] T N I J R T_53 N_53 I153 J_188 R_53 := hF.wi hu154 (Fr_c hF hJJ53_0 rfl)
              refine lv_aload_n B.1 B.2.1 dX6_readUse_223 rfl (lv_at hl 1 rfl) ?_
              have t156 : T_53 g_s = 62 := hF.tt p_3 (by decide) nm0
              have e157 : I147 a_this 5 = x127 := (w2_ne hu148 (Or.inl (tne t110 hJJ53_0 (by decide)))).trans e128
              have e158 : I153 a_this 5 = x127 := (w2_ne hu154 (Or.inl (tne t110 hJJ53_0 (by decide)))).trans e157
              have e159 : I147 a_this 6 = x129 := (w2_ne hu148 (Or.inl (tne t110 hJJ53_0 (by decide)))).trans e130
              have e160 : I153 a_this 6 = x129 := (w2_ne hu154 (Or.inl (tne t110 hJJ53_0 (by decide)))).trans e159
              have hv161 : (TKz g_S g_n) ∧ (I153 a_this 5 ≤ g_n) := by first | omega | exact ⟨by first | omega | assumption | exact trivial, by first | omega | assumption | exact trivial⟩
              refine z_callv hM hA (c_runV (n := 0) (as := []) (rest := []) B hX hA hM hl.1 t110 kd7 rfl (k_X6_advance l D dA eA L_53 T_53 N_53 I153 J_188 R_53 a_this t110 g_t g_s g_S g_n (show R_53 a_this 3 = g_t + 1 from e112) (show T_53 g_t = 3 from t134) (show R_53 g_t 0 = g_s + 1 from e113) (show T_53 g_s = 62 from t156) (show I153 g_s = g_S from ((Fr.irow hF p_3 (by decide) nm0 (by decide)).trans p_4)) hv161.1 hv161.2 (show g_S (I153 a_this 5).toNat = I153 a_this 6 from by rw [e158, e160]; first | assumption | omega) _ _) ml_X6_87 nm_X6_advance ⟨rfl, rfl⟩ ⟨Nat.le_of_ble_eq_true rfl, Nat.le_of_ble_eq_true rfl⟩ dX6_readUse_224 rfl rfl (Nat.le_of_ble_eq_true rfl) ⟨by show zc53 + 0 ≤ 4; omega, by show zs53 + 0 ≤ 31; omega⟩) (fun L164 T165 N166 I167 J168 R169 dz170 dl171 H locs hp162 hMn => ?_)
              obtain ⟨yL164, yT165, yN166, yR169, hFc172, hp162a⟩ := hp162
              obtain rfl := yL164.symm; obtain rfl := yT165.symm; obtain rfl := yN166.symm; obtain rfl := yR169.symm
              replace hF : Fr mo_X6_readUse [] T N I J R T_53 N_53 I167 J168 R_53 := hF.trans hFc172 (by decide) e20
              have hM := hMn
              clear hMn
              replace hp162a : I167 a_this 5 ≤ g_n ∧ g_S (I167 a_this 5).toNat = I167 a_this 6 ∧ (((I153 a_this 6 = 0 ∨ I153 a_this 6 = 1) ∧ I167 a_this 5 = I153 a_this 5) ∨ (I167 a_this 5 = I153 a_this 5 + 1)) := hp162a
              obtain ⟨hp162a_0, hp162a_1, hp162a_2⟩ := hp162a
              obtain ⟨x173, e174⟩ : ∃ v, I167 a_this 5 = v := ⟨_, rfl⟩
              obtain ⟨x175, e176⟩ : ∃ v, I167 a_this 6 = v := ⟨_, rfl⟩
              have nz177 : g_S (x173).toNat = x175 := by have h9 := hp162a_1; rw [e174, e176] at h9; exact h9
              refine q_con B dX6_readUse_227 ?_
              have e178 : I147 a_this 1 = I a_this 1 := (w2_ne hu148 (Or.inl (tne t110 hJJ53_0 (by decide)))).trans hJJ188_4
              have e179 : I153 a_this 1 = I a_this 1 := (w2_ne hu154 (Or.inl (tne t110 hJJ53_0 (by decide)))).trans e178
              have e180 : I167 a_this 1 = I a_this 1 := (hFc172.i t110 (by decide) nm0 rfl).trans e179
              have t181 : T_53 g_u = 20 := hF.tt p_9 (by decide) nm0
              have e182 : I147 g_u 2 = I g_u 2 + 1 := (w2_ne hu148 (Or.inl (tne t181 hJJ53_0 (by decide)))).trans hJJ188_1
              have e183 : I153 g_u 2 = I g_u 2 + 1 := (w2_ne hu154 (Or.inl (tne t181 hJJ53_0 (by decide)))).trans e182
              have e184 : I167 g_u 2 = I g_u 2 + 1 := (hFc172.i t181 (by decide) nm0 rfl).trans e183
              refine g_zret B hM dX6_readUse_228 ⟨by show zc53 ≤ 4; omega, by show zs53 ≤ 31; omega⟩ (by omega) (by omega) ?_
              rw [← hPST]
              exact ⟨(1), rfl, by omega, hF, by omega, by omega, by first | omega | assumption | exact trivial, by show g_S (I167 a_this 5).toNat = I167 a_this 6; rw [e174, e176]; first | assumption | omega, by first | omega | assumption | exact trivial, by first | omega | assumption | exact trivial, by first | omega | assumption | exact trivial, by first | omega | assumption | exact trivial, by first | omega | assumption | exact trivial, by first | omega | assumption | exact trivial, by first | omega | assumption | exact trivial⟩
          refine q_cne (tgt := 188) B dX6_readUse_149 (by decide) (by unfold inr; omega) (by unfold inr; omega) (fun c185 => ?_) (fun c185 => ?_)
          · have hv186 : (I a_this 5 + 1 ≤ I_143 a_this 5) ∧ (I_143 g_u 2 = I g_u 2 + 1) ∧ (I_143 a_this 5 ≤ g_n) ∧ (I_143 a_this 1 = I a_this 1) := by first | omega | exact ⟨by first | omega | assumption | exact trivial, by first | omega | assumption | exact trivial, by first | omega | assumption | exact trivial, by first | omega | assumption | exact trivial⟩
            exact JJ188 I_143 J_143 _ _ ls hM hF (lv_sub hl [0, 1, 2, 3] rfl) hv186.1 hv186.2.1 hv186.2.2.1 (by rw [e122, e124]; first | assumption | omega) hv186.2.2.2
          · refine lv_aload_n B.1 B.2.1 dX6_readUse_152 rfl (lv_at hl 1 rfl) ?_
            have t187 : T_53 g_t = 3 := hF.tt p_1 (by decide) nm0
            have t188 : T_53 g_s = 62 := hF.tt p_3 (by decide) nm0
            have hv189 : (TKz g_S g_n) ∧ (I_143 a_this 5 ≤ g_n) := by first | omega | exact ⟨by first | omega | assumption | exact trivial, by first | omega | assumption | exact trivial⟩
            refine z_callv hM hA (c_runV (n := 0) (as := []) (rest := []) B hX hA hM hl.1 t110 kd7 rfl (k_X6_advance l D dA eA L_53 T_53 N_53 I_143 J_143 R_53 a_this t110 g_t g_s g_S g_n (show R_53 a_this 3 = g_t + 1 from e112) (show T_53 g_t = 3 from t187) (show R_53 g_t 0 = g_s + 1 from e113) (show T_53 g_s = 62 from t188) (show I_143 g_s = g_S from ((Fr.irow hF p_3 (by decide) nm0 (by decide)).trans p_4)) hv189.1 hv189.2 (show g_S (I_143 a_this 5).toNat = I_143 a_this 6 from by rw [e122, e124]; first | assumption | omega) _ _) ml_X6_87 nm_X6_advance ⟨rfl, rfl⟩ ⟨Nat.le_of_ble_eq_true rfl, Nat.le_of_ble_eq_true rfl⟩ dX6_readUse_153 rfl rfl (Nat.le_of_ble_eq_true rfl) ⟨by show zc53 + 0 ≤ 4; omega, by show zs53 + 0 ≤ 31; omega⟩) (fun L192 T193 N194 I195 J196 R197 dz198 dl199 H locs hp190 hMn => ?_)
            obtain ⟨yL192, yT193, yN194, yR197, hFc200, hp190a⟩ := hp190
            obtain rfl := yL192.symm; obtain rfl := yT193.symm; obtain rfl := yN194.symm; obtain rfl := yR197.symm
            replace hF : Fr mo_X6_readUse [] T N I J R T_53 N_53 I195 J196 R_53 := hF.trans hFc200 (by decide) e20
            have hM := hMn
            clear hMn
            replace hp190a : I195 a_this 5 ≤ g_n ∧ g_S (I195 a_this 5).toNat = I195 a_this 6 ∧ (((I_143 a_this 6 = 0 ∨ I_143 a_this 6 = 1) ∧ I195 a_this 5 = I_143 a_this 5) ∨ (I195 a_this 5 = I_143 a_this 5 + 1)) := hp190a
            obtain ⟨hp190a_0, hp190a_1, hp190a_2⟩ := hp190a
            obtain ⟨x201, e202⟩ : ∃ v, I195 a_this 5 = v := ⟨_, rfl⟩
            obtain ⟨x203, e204⟩ : ∃ v, I195 a_this 6 = v := ⟨_, rfl⟩
            have nz205 : g_S (x201).toNat = x203 := by have h9 := hp190a_1; rw [e202, e204] at h9; exact h9
            refine lv_aload_n B.1 B.2.1 dX6_readUse_156 rfl (lv_at hl 1 rfl) ?_
            have r206 : (-2147483648 : Int) ≤ x203 ∧ x203 ≤ 2147483647 := by rw [← e204]; exact g7_6 hM.2.2.2.2.2.2.1 t110
            refine c_geti (k := 6) pk_X6 B hM t110 kd7 rfl (by decide) fl_X6_47 dX6_readUse_157 e204 ?_
            refine q_con B dX6_readUse_160 ?_
            refine q_ceq (tgt := 170) B dX6_readUse_161 (by decide) (by unfold inr; omega) (by unfold inr; omega) (fun c207 => ?_) (fun c207 => ?_)
            · refine lv_aload_n B.1 B.2.1 dX6_readUse_170 rfl (lv_at hl 3 rfl) ?_
              refine q_con B dX6_readUse_171 ?_
              refine c_puti (k := 7) pk_X10 B hM hJJ53_0 kd9 rfl (by decide) fl_X6_273 (Or.inl rfl) dX6_readUse_172 rfl (narZ (by omega)) rfl (show (0 : Int) ≤ 1 from by omega) (show 1 ≤ (1 : Int) from by omega) (fun I208 H locs hu209 hM => ?_)
              have e210 : I208 v53_3 7 = 1 := w2_at hu209
              replace hF : Fr mo_X6_readUse [] T N I J R T_53 N_53 I208 J196 R_53 := hF.wi hu209 (Fr_c hF hJJ53_0 rfl)
              refine lv_aload_n B.1 B.2.1 dX6_readUse_175 rfl (lv_at hl 3 rfl) ?_
              refine lv_aload_n B.1 B.2.1 dX6_readUse_176 rfl (lv_at hl 1 rfl) ?_
              obtain ⟨w211, e212⟩ : ∃ v, J196 a_this 7 = v := ⟨_, rfl⟩
              refine c_getl (k := 7) pk_X6 B hM t110 kd7 rfl (by decide) fl_X6_54 dX6_readUse_177 e212 ?_
              refine q_l2i B dX6_readUse_180 (fun x213 ix213 => ?_)
              unfold inr at ix213
              refine c_puti (k := 8) pk_X10 B hM hJJ53_0 kd9 rfl (by decide) fl_X6_277 (Or.inl rfl) dX6_readUse_181 rfl rfl rfl (show (-2147483648 : Int) ≤ x213 from by omega) (show x213 ≤ (2147483647 : Int) from by omega) (fun I214 H locs hu215 hM => ?_)
              have e216 : I214 v53_3 8 = x213 := w2_at hu215
              replace hF : Fr mo_X6_readUse [] T N I J R T_53 N_53 I214 J196 R_53 := hF.wi hu215 (Fr_c hF hJJ53_0 rfl)
              refine lv_aload_n B.1 B.2.1 dX6_readUse_184 rfl (lv_at hl 1 rfl) ?_
              have e217 : I208 a_this 5 = x201 := (w2_ne hu209 (Or.inl (tne t110 hJJ53_0 (by decide)))).trans e202
              have e218 : I214 a_this 5 = x201 := (w2_ne hu215 (Or.inl (tne t110 hJJ53_0 (by decide)))).trans e217
              have e219 : I208 a_this 6 = x203 := (w2_ne hu209 (Or.inl (tne t110 hJJ53_0 (by decide)))).trans e204
              have e220 : I214 a_this 6 = x203 := (w2_ne hu215 (Or.inl (tne t110 hJJ53_0 (by decide)))).trans e219
              have hv221 : (TKz g_S g_n) ∧ (I214 a_this 5 ≤ g_n) := by first | omega | exact ⟨by first | omega | assumption | exact trivial, by first | omega | assumption | exact trivial⟩
              refine z_callv hM hA (c_runV (n := 0) (as := []) (rest := []) B hX hA hM hl.1 t110 kd7 rfl (k_X6_advance l D dA eA L_53 T_53 N_53 I214 J196 R_53 a_this t110 g_t g_s g_S g_n (show R_53 a_this 3 = g_t + 1 from e112) (show T_53 g_t = 3 from t187) (show R_53 g_t 0 = g_s + 1 from e113) (show T_53 g_s = 62 from t188) (show I214 g_s = g_S from ((Fr.irow hF p_3 (by decide) nm0 (by decide)).trans p_4)) hv221.1 hv221.2 (show g_S (I214 a_this 5).toNat = I214 a_this 6 from by rw [e218, e220]; first | assumption | omega) _ _) ml_X6_87 nm_X6_advance ⟨rfl, rfl⟩ ⟨Nat.le_of_ble_eq_true rfl, Nat.le_of_ble_eq_true rfl⟩ dX6_readUse_185 rfl rfl (Nat.le_of_ble_eq_true rfl) ⟨by show zc53 + 0 ≤ 4; omega, by show zs53 + 0 ≤ 31; omega⟩) (fun L224 T225 N226 I227 J228 R229 dz230 dl231 H locs hp222 hMn => ?_)
              obtain ⟨yL224, yT225, yN226, yR229, hFc232, hp222a⟩ := hp222
              obtain rfl := yL224.symm; obtain rfl := yT225.symm; obtain rfl := yN226.symm; obtain rfl := yR229.symm
              replace hF : Fr mo_X6_readUse [] T N I J R T_53 N_53 I227 J228 R_53 := hF.trans hFc232 (by decide) e20
              have hM := hMn
              clear hMn
              replace hp222a : I227 a_this 5 ≤ g_n ∧ g_S (I227 a_this 5).toNat = I227 a_this 6 ∧ (((I214 a_this 6 = 0 ∨ I214 a_this 6 = 1) ∧ I227 a_this 5 = I214 a_this 5) ∨ (I227 a_this 5 = I214 a_this 5 + 1)) := hp222a
              obtain ⟨hp222a_0, hp222a_1, hp222a_2⟩ := hp222a
              obtain ⟨x233, e234⟩ : ∃ v, I227 a_this 5 = v := ⟨_, rfl⟩
              obtain ⟨x235, e236⟩ : ∃ v, I227 a_this 6 = v := ⟨_, rfl⟩
              have nz237 : g_S (x233).toNat = x235 := by have h9 := hp222a_1; rw [e234, e236] at h9; exact h9
              have t238 : T_53 g_u = 20 := hF.tt p_9 (by decide) nm0
              have e239 : I195 g_u 2 = I g_u 2 + 1 := (hFc200.i t238 (by decide) nm0 rfl).trans hJJ143_1
              have e240 : I208 g_u 2 = I g_u 2 + 1 := (w2_ne hu209 (Or.inl (tne t238 hJJ53_0 (by decide)))).trans e239
              have e241 : I214 g_u 2 = I g_u 2 + 1 := (w2_ne hu215 (Or.inl (tne t238 hJJ53_0 (by decide)))).trans e240
              have e242 : I227 g_u 2 = I g_u 2 + 1 := (hFc232.i t238 (by decide) nm0 rfl).trans e241
              have e243 : I195 a_this 1 = I a_this 1 := (hFc200.i t110 (by decide) nm0 rfl).trans hJJ143_4
              have e244 : I208 a_this 1 = I a_this 1 := (w2_ne hu209 (Or.inl (tne t110 hJJ53_0 (by decide)))).trans e243
              have e245 : I214 a_this 1 = I a_this 1 := (w2_ne hu215 (Or.inl (tne t110 hJJ53_0 (by decide)))).trans e244
              have e246 : I227 a_this 1 = I a_this 1 := (hFc232.i t110 (by decide) nm0 rfl).trans e245
              have hv247 : (I a_this 5 + 1 ≤ I227 a_this 5) ∧ (I227 g_u 2 = I g_u 2 + 1) ∧ (I227 a_this 5 ≤ g_n) ∧ (I227 a_this 1 = I a_this 1) := by first | omega | exact ⟨by first | omega | assumption | exact trivial, by first | omega | assumption | exact trivial, by first | omega | assumption | exact trivial, by first | omega | assumption | exact trivial⟩
              exact JJ188 I227 J228 _ _ ls hM hF (lv_sub hl [0, 1, 2, 3] rfl) hv247.1 hv247.2.1 hv247.2.2.1 (by rw [e234, e236]; first | assumption | omega) hv247.2.2.2
            · refine lv_aload_n B.1 B.2.1 dX6_readUse_164 rfl (lv_at hl 1 rfl) ?_
              refine q_con B dX6_readUse_165 ?_
              have hv248 : ((-2147483648 : Int) ≤ 2 ∧ (2 : Int) ≤ 2147483647) ∧ ((2 : Int) ≠ 0) := by first | omega | exact ⟨by first | omega | assumption | exact trivial, by first | omega | assumption | exact trivial⟩
              refine z_calli hM hA (c_runV (n := 1) (as := [.int (II 2)]) (rest := []) B hX hA hM hl.1 t110 kd7 rfl (k_X6_wrong l D dA eA L_53 T_53 N_53 I195 J196 R_53 a_this t110 (2) hv248.1 hv248.2 _ _) ml_X6_84 nm_X6_wrong ⟨rfl, rfl⟩ ⟨Nat.le_of_ble_eq_true rfl, Nat.le_of_ble_eq_true rfl⟩ dX6_readUse_166 rfl rfl (Nat.le_of_ble_eq_true rfl) ⟨by show zc53 + 0 ≤ 4; omega, by show zs53 + 0 ≤ 31; omega⟩) (fun x250 ix250 L251 T252 N253 I254 J255 R256 dz257 dl258 H locs hp249 hMn => ?_)
              obtain ⟨yL251, yT252, yN253, yJ255, yR256, hFc259, hp249a⟩ := hp249
              obtain rfl := yL251.symm; obtain rfl := yT252.symm; obtain rfl := yN253.symm; obtain rfl := yJ255.symm; obtain rfl := yR256.symm
              replace hF : Fr mo_X6_readUse [] T N I J R T_53 N_53 I254 J196 R_53 := hF.trans hFc259 (by decide) e20
              have hM := hMn
              clear hMn
              replace hp249a : (0 : Int) ≤ x250 ∧ x250 ≤ 1 ∧ (x250 = 0 ∧ I254 a_this 1 ≠ 0) := hp249a
              obtain ⟨hp249a_0, hp249a_1, hp249a_2⟩ := hp249a
              obtain ⟨hp249a_2_0, hp249a_2_1⟩ := hp249a_2
              have e260 : I195 a_this 1 = I a_this 1 := (hFc200.i t110 (by decide) nm0 rfl).trans hJJ143_4
              obtain ⟨x261, e262⟩ : ∃ v, I254 a_this 1 = v := ⟨_, rfl⟩
              have e263 : I254 a_this 5 = x201 := (hFc259.i t110 (by decide) nm0 rfl).trans e202
              have e264 : I254 a_this 6 = x203 := (hFc259.i t110 (by decide) nm0 rfl).trans e204
              have t265 : T_53 g_u = 20 := hF.tt p_9 (by decide) nm0
              have e266 : I195 g_u 2 = I g_u 2 + 1 := (hFc200.i t265 (by decide) nm0 rfl).trans hJJ143_1
              have e267 : I254 g_u 2 = I g_u 2 + 1 := (hFc259.i t265 (by decide) nm0 rfl).trans e266
              refine g_zret B hM dX6_readUse_169 ⟨by show zc53 ≤ 4; omega, by show zs53 ≤ 31; omega⟩ (by omega) (by omega) ?_
              rw [← hPST]
              exact ⟨x250, rfl, by omega, hF, by omega, by omega, by first | omega | assumption | exact trivial, by show g_S (I254 a_this 5).toNat = I254 a_this 6; rw [e263, e264]; first | assumption | omega, by first | omega | assumption | exact trivial, by first | omega | assumption | exact trivial, by first | omega | assumption | exact trivial, by first | omega | assumption | exact trivial, by first | omega | assumption | exact trivial, by first | omega | assumption | exact trivial, by first | omega | assumption | exact trivial⟩
        refine q_cne (tgt := 143) B dX6_readUse_99 (by decide) (by unfold inr; omega) (by unfold inr; omega) (fun c268 => ?_) (fun c268 => ?_)
        · have hv269 : (I a_this 5 + 1 ≤ I_93 a_this 5) ∧ (I_93 g_u 2 = I g_u 2 + 1) ∧ (I_93 a_this 5 ≤ g_n) ∧ (I_93 a_this 1 = I a_this 1) := by first | omega | exact ⟨by first | omega | assumption | exact trivial, by first | omega | assumption | exact trivial, by first | omega | assumption | exact trivial, by first | omega | assumption | exact trivial⟩
          exact JJ143 I_93 J_93 _ _ ls hM hF (lv_sub hl [0, 1, 2, 3] rfl) hv269.1 hv269.2.1 hv269.2.2.1 (by rw [e116, e118]; first | assumption | omega) hv269.2.2.2
        · refine lv_aload_n B.1 B.2.1 dX6_readUse_102 rfl (lv_at hl 1 rfl) ?_
          have t270 : T_53 g_t = 3 := hF.tt p_1 (by decide) nm0
          have t271 : T_53 g_s = 62 := hF.tt p_3 (by decide) nm0
          have hv272 : (TKz g_S g_n) ∧ (I_93 a_this 5 ≤ g_n) := by first | omega | exact ⟨by first | omega | assumption | exact trivial, by first | omega | assumption | exact trivial⟩
          refine z_callv hM hA (c_runV (n := 0) (as := []) (rest := []) B hX hA hM hl.1 t110 kd7 rfl (k_X6_advance l D dA eA L_53 T_53 N_53 I_93 J_93 R_53 a_this t110 g_t g_s g_S g_n (show R_53 a_this 3 = g_t + 1 from e112) (show T_53 g_t = 3 from t270) (show R_53 g_t 0 = g_s + 1 from e113) (show T_53 g_s = 62 from t271) (show I_93 g_s = g_S from ((Fr.irow hF p_3 (by decide) nm0 (by decide)).trans p_4)) hv272.1 hv272.2 (show g_S (I_93 a_this 5).toNat = I_93 a_this 6 from by rw [e116, e118]; first | assumption | omega) _ _) ml_X6_87 nm_X6_advance ⟨rfl, rfl⟩ ⟨Nat.le_of_ble_eq_true rfl, Nat.le_of_ble_eq_true rfl⟩ dX6_readUse_103 rfl rfl (Nat.le_of_ble_eq_true rfl) ⟨by show zc53 + 0 ≤ 4; omega, by show zs53 + 0 ≤ 31; omega⟩) (fun L275 T276 N277 I278 J279 R280 dz281 dl282 H locs hp273 hMn => ?_)
          obtain ⟨yL275, yT276, yN277, yR280, hFc283, hp273a⟩ := hp273
          obtain rfl := yL275.symm; obtain rfl := yT276.symm; obtain rfl := yN277.symm; obtain rfl := yR280.symm
          replace hF : Fr mo_X6_readUse [] T N I J R T_53 N_53 I278 J279 R_53 := hF.trans hFc283 (by decide) e20
          have hM := hMn
          clear hMn
          replace hp273a : I278 a_this 5 ≤ g_n ∧ g_S (I278 a_this 5).toNat = I278 a_this 6 ∧ (((I_93 a_this 6 = 0 ∨ I_93 a_this 6 = 1) ∧ I278 a_this 5 = I_93 a_this 5) ∨ (I278 a_this 5 = I_93 a_this 5 + 1)) := hp273a
          obtain ⟨hp273a_0, hp273a_1, hp273a_2⟩ := hp273a
          obtain ⟨x284, e285⟩ : ∃ v, I278 a_this 5 = v := ⟨_, rfl⟩
          obtain ⟨x286, e287⟩ : ∃ v, I278 a_this 6 = v := ⟨_, rfl⟩
          have nz288 : g_S (x284).toNat = x286 := by have h9 := hp273a_1; rw [e285, e287] at h9; exact h9
          refine lv_aload_n B.1 B.2.1 dX6_readUse_106 rfl (lv_at hl 1 rfl) ?_
          have r289 : (-2147483648 : Int) ≤ x286 ∧ x286 ≤ 2147483647 := by rw [← e287]; exact g7_6 hM.2.2.2.2.2.2.1 t110
          refine c_geti (k := 6) pk_X6 B hM t110 kd7 rfl (by decide) fl_X6_47 dX6_readUse_107 e287 ?_
          refine q_con B dX6_readUse_110 ?_
          refine q_ceq (tgt := 120) B dX6_readUse_111 (by decide) (by unfold inr; omega) (by unfold inr; omega) (fun c290 => ?_) (fun c290 => ?_)
          · refine lv_aload_n B.1 B.2.1 dX6_readUse_120 rfl (lv_at hl 3 rfl) ?_
            refine lv_aload_n B.1 B.2.1 dX6_readUse_121 rfl (lv_at hl 1 rfl) ?_
            refine q_con B dX6_readUse_122 ?_
            have hv291 : ((-2147483648 : Int) ≤ 1 ∧ (1 : Int) ≤ 2147483647) ∧ (1 ≤ (1 : Int)) := by first | omega | exact ⟨by first | omega | assumption | exact trivial, by first | omega | assumption | exact trivial⟩
            refine z_calli hM hA (c_runV (n := 1) (as := [.int (II 1)]) (rest := [.ref v53_3]) B hX hA hM hl.1 t110 kd7 rfl (k_X6_readReference l D dA eA L_53 T_53 N_53 I278 J279 R_53 a_this t110 (1) hv291.1 hv291.2 _ _) ml_X6_104 nm_X6_readReference ⟨rfl, rfl⟩ ⟨Nat.le_of_ble_eq_true rfl, Nat.le_of_ble_eq_true rfl⟩ dX6_readUse_123 rfl rfl (Nat.le_of_ble_eq_true rfl) ⟨by show zc53 + 0 ≤ 4; omega, by show zs53 + 0 ≤ 31; omega⟩) (fun x293 ix293 L294 T295 N296 I297 J298 R299 dz300 dl301 H locs hp292 hMn => ?_)
            obtain ⟨yL294, yT295, yN296, yJ298, yR299, hFc302, hp292a⟩ := hp292
            obtain rfl := yL294.symm; obtain rfl := yT295.symm; obtain rfl := yN296.symm; obtain rfl := yJ298.symm; obtain rfl := yR299.symm
            replace hF : Fr mo_X6_readUse [] T N I J R T_53 N_53 I297 J279 R_53 := hF.trans hFc302 (by decide) e20
            have hM := hMn
            clear hMn
            replace hp292a : ((x293 = -1 ∧ I297 a_this 1 ≠ 0) ∨ (0 ≤ x293 ∧ x293 ≤ 99 ∧ I297 a_this 1 = I278 a_this 1)) := hp292a
            have e303 : I278 a_this 1 = I a_this 1 := (hFc283.i t110 (by decide) nm0 rfl).trans hJJ93_4
            obtain ⟨x304, e305⟩ : ∃ v, I297 a_this 1 = v := ⟨_, rfl⟩
            refine c_puti (k := 6) pk_X10 B hM hJJ53_0 kd9 rfl (by decide) fl_X6_270 (Or.inl rfl) dX6_readUse_126 rfl rfl rfl (show (-2147483648 : Int) ≤ x293 from by omega) (show x293 ≤ (2147483647 : Int) from by omega) (fun I306 H locs hu307 hM => ?_)
            have e308 : I306 v53_3 6 = x293 := w2_at hu307
            replace hF : Fr mo_X6_readUse [] T N I J R T_53 N_53 I306 J279 R_53 := hF.wi hu307 (Fr_c hF hJJ53_0 rfl)
            refine lv_aload_n B.1 B.2.1 dX6_readUse_129 rfl (lv_at hl 3 rfl) ?_
            refine c_geti (k := 6) pk_X10 B hM hJJ53_0 kd9 rfl (by decide) fl_X6_270 dX6_readUse_130 e308 ?_
            refine q_con B dX6_readUse_133 ?_
            refine q_cne (tgt := 139) B dX6_readUse_134 (by decide) (by unfold inr; omega) (by unfold inr; omega) (fun c309 => ?_) (fun c309 => ?_)
            · refine lv_aload_n B.1 B.2.1 dX6_readUse_139 rfl (lv_at hl 1 rfl) ?_
              have e310 : I297 a_this 5 = x284 := (hFc302.i t110 (by decide) nm0 rfl).trans e285
              have e311 : I306 a_this 5 = x284 := (w2_ne hu307 (Or.inl (tne t110 hJJ53_0 (by decide)))).trans e310
              have e312 : I297 a_this 6 = x286 := (hFc302.i t110 (by decide) nm0 rfl).trans e287
              have e313 : I306 a_this 6 = x286 := (w2_ne hu307 (Or.inl (tne t110 hJJ53_0 (by decide)))).trans e312
              have hv314 : (TKz g_S g_n) ∧ (I306 a_this 5 ≤ g_n) := by first | omega | exact ⟨by first | omega | assumption | exact trivial, by first | omega | assumption | exact trivial⟩
              refine z_callv hM hA (c_runV (n := 0) (as := []) (rest := []) B hX hA hM hl.1 t110 kd7 rfl (k_X6_advance l D dA eA L_53 T_53 N_53 I306 J279 R_53 a_this t110 g_t g_s g_S g_n (show R_53 a_this 3 = g_t + 1 from e112) (show T_53 g_t = 3 from t270) (show R_53 g_t 0 = g_s + 1 from e113) (show T_53 g_s = 62 from t271) (show I306 g_s = g_S from ((Fr.irow hF p_3 (by decide) nm0 (by decide)).trans p_4)) hv314.1 hv314.2 (show g_S (I306 a_this 5).toNat = I306 a_this 6 from by rw [e311, e313]; first | assumption | omega) _ _) ml_X6_87 nm_X6_advance ⟨rfl, rfl⟩ ⟨Nat.le_of_ble_eq_true rfl, Nat.le_of_ble_eq_true rfl⟩ dX6_readUse_140 rfl rfl (Nat.le_of_ble_eq_true rfl) ⟨by show zc53 + 0 ≤ 4; omega, by show zs53 + 0 ≤ 31; omega⟩) (fun L317 T318 N319 I320 J321 R322 dz323 dl324 H locs hp315 hMn => ?_)
              obtain ⟨yL317, yT318, yN319, yR322, hFc325, hp315a⟩ := hp315
              obtain rfl := yL317.symm; obtain rfl := yT318.symm; obtain rfl := yN319.symm; obtain rfl := yR322.symm
              replace hF : Fr mo_X6_readUse [] T N I J R T_53 N_53 I320 J321 R_53 := hF.trans hFc325 (by decide) e20
              have hM := hMn
              clear hMn
              replace hp315a : I320 a_this 5 ≤ g_n ∧ g_S (I320 a_this 5).toNat = I320 a_this 6 ∧ (((I306 a_this 6 = 0 ∨ I306 a_this 6 = 1) ∧ I320 a_this 5 = I306 a_this 5) ∨ (I320 a_this 5 = I306 a_this 5 + 1)) := hp315a
              obtain ⟨hp315a_0, hp315a_1, hp315a_2⟩ := hp315a
              obtain ⟨x326, e327⟩ : ∃ v, I320 a_this 5 = v := ⟨_, rfl⟩
              obtain ⟨x328, e329⟩ : ∃ v, I320 a_this 6 = v := ⟨_, rfl⟩
              have nz330 : g_S (x326).toNat = x328 := by have h9 := hp315a_1; rw [e327, e329] at h9; exact h9
              have t331 : T_53 g_u = 20 := hF.tt p_9 (by decide) nm0
              have e332 : I278 g_u 2 = I g_u 2 + 1 := (hFc283.i t331 (by decide) nm0 rfl).trans hJJ93_1
              have e333 : I297 g_u 2 = I g_u 2 + 1 := (hFc302.i t331 (by decide) nm0 rfl).trans e332
              have e334 : I306 g_u 2 = I g_u 2 + 1 := (w2_ne hu307 (Or.inl (tne t331 hJJ53_0 (by decide)))).trans e333
              have e335 : I320 g_u 2 = I g_u 2 + 1 := (hFc325.i t331 (by decide) nm0 rfl).trans e334
              have e336 : I306 a_this 1 = x304 := (w2_ne hu307 (Or.inl (tne t110 hJJ53_0 (by decide)))).trans e305
              have e337 : I320 a_this 1 = x304 := (hFc325.i t110 (by decide) nm0 rfl).trans e336
              have hv338 : (I a_this 5 + 1 ≤ I320 a_this 5) ∧ (I320 g_u 2 = I g_u 2 + 1) ∧ (I320 a_this 5 ≤ g_n) ∧ (I320 a_this 1 = I a_this 1) := by first | omega | exact ⟨by first | omega | assumption | exact trivial, by first | omega | assumption | exact trivial, by first | omega | assumption | exact trivial, by first | omega | assumption | exact trivial⟩
              exact JJ143 I320 J321 _ _ ls hM hF (lv_sub hl [0, 1, 2, 3] rfl) hv338.1 hv338.2.1 hv338.2.2.1 (by rw [e327, e329]; first | assumption | omega) hv338.2.2.2
            · refine q_con B dX6_readUse_137 ?_
              have e339 : I297 a_this 5 = x284 := (hFc302.i t110 (by decide) nm0 rfl).trans e285
              have e340 : I306 a_this 5 = x284 := (w2_ne hu307 (Or.inl (tne t110 hJJ53_0 (by decide)))).trans e339
              have e341 : I297 a_this 6 = x286 := (hFc302.i t110 (by decide) nm0 rfl).trans e287
              have e342 : I306 a_this 6 = x286 := (w2_ne hu307 (Or.inl (tne t110 hJJ53_0 (by decide)))).trans e341
              have e343 : I306 a_this 1 = x304 := (w2_ne hu307 (Or.inl (tne t110 hJJ53_0 (by decide)))).trans e305
              have t344 : T_53 g_u = 20 := hF.tt p_9 (by decide) nm0
              have e345 : I278 g_u 2 = I g_u 2 + 1 := (hFc283.i t344 (by decide) nm0 rfl).trans hJJ93_1
              have e346 : I297 g_u 2 = I g_u 2 + 1 := (hFc302.i t344 (by decide) nm0 rfl).trans e345
              have e347 : I306 g_u 2 = I g_u 2 + 1 := (w2_ne hu307 (Or.inl (tne t344 hJJ53_0 (by decide)))).trans e346
              refine g_zret B hM dX6_readUse_138 ⟨by show zc53 ≤ 4; omega, by show zs53 ≤ 31; omega⟩ (by omega) (by omega) ?_
              rw [← hPST]
              exact ⟨(0), rfl, by omega, hF, by omega, by omega, by first | omega | assumption | exact trivial, by show g_S (I306 a_this 5).toNat = I306 a_this 6; rw [e340, e342]; first | assumption | omega, by first | omega | assumption | exact trivial, by first | omega | assumption | exact trivial, by first | omega | assumption | exact trivial, by first | omega | assumption | exact trivial, by first | omega | assumption | exact trivial, by first | omega | assumption | exact trivial, by first | omega | assumption | exact trivial⟩
          · refine lv_aload_n B.1 B.2.1 dX6_readUse_114 rfl (lv_at hl 1 rfl) ?_
            refine q_con B dX6_readUse_115 ?_
            have hv348 : ((-2147483648 : Int) ≤ 2 ∧ (2 : Int) ≤ 2147483647) ∧ ((2 : Int) ≠ 0) := by first | omega | exact ⟨by first | omega | assumption | exact trivial, by first | omega | assumption | exact trivial⟩
            refine z_calli hM hA (c_runV (n := 1) (as := [.int (II 2)]) (rest := []) B hX hA hM hl.1 t110 kd7 rfl (k_X6_wrong l D dA eA L_53 T_53 N_53 I278 J279 R_53 a_this t110 (2) hv348.1 hv348.2 _ _) ml_X6_84 nm_X6_wrong ⟨rfl, rfl⟩ ⟨Nat.le_of_ble_eq_true rfl, Nat.le_of_ble_eq_true rfl⟩ dX6_readUse_116 rfl rfl (Nat.le_of_ble_eq_true rfl) ⟨by show zc53 + 0 ≤ 4; omega, by show zs53 + 0 ≤ 31; omega⟩) (fun x350 ix350 L351 T352 N353 I354 J355 R356 dz357 dl358 H locs hp349 hMn => ?_)
            obtain ⟨yL351, yT352, yN353, yJ355, yR356, hFc359, hp349a⟩ := hp349
            obtain rfl := yL351.symm; obtain rfl := yT352.symm; obtain rfl := yN353.symm; obtain rfl := yJ355.symm; obtain rfl := yR356.symm
            replace hF : Fr mo_X6_readUse [] T N I J R T_53 N_53 I354 J279 R_53 := hF.trans hFc359 (by decide) e20
            have hM := hMn
            clear hMn
            replace hp349a : (0 : Int) ≤ x350 ∧ x350 ≤ 1 ∧ (x350 = 0 ∧ I354 a_this 1 ≠ 0) := hp349a
            obtain ⟨hp349a_0, hp349a_1, hp349a_2⟩ := hp349a
            obtain ⟨hp349a_2_0, hp349a_2_1⟩ := hp349a_2
            have e360 : I278 a_this 1 = I a_this 1 := (hFc283.i t110 (by decide) nm0 rfl).trans hJJ93_4
            obtain ⟨x361, e362⟩ : ∃ v, I354 a_this 1 = v := ⟨_, rfl⟩
            have e363 : I354 a_this 5 = x284 := (hFc359.i t110 (by decide) nm0 rfl).trans e285
            have e364 : I354 a_this 6 = x286 := (hFc359.i t110 (by decide) nm0 rfl).trans e287
            have t365 : T_53 g_u = 20 := hF.tt p_9 (by decide) nm0
            have e366 : I278 g_u 2 = I g_u 2 + 1 := (hFc283.i t365 (by decide) nm0 rfl).trans hJJ93_1
            have e367 : I354 g_u 2 = I g_u 2 + 1 := (hFc359.i t365 (by decide) nm0 rfl).trans e366
            refine g_zret B hM dX6_readUse_119 ⟨by show zc53 ≤ 4; omega, by show zs53 ≤ 31; omega⟩ (by omega) (by omega) ?_
            rw [← hPST]
            exact ⟨x350, rfl, by omega, hF, by omega, by omega, by first | omega | assumption | exact trivial, by show g_S (I354 a_this 5).toNat = I354 a_this 6; rw [e363, e364]; first | assumption | omega, by first | omega | assumption | exact trivial, by first | omega | assumption | exact trivial, by first | omega | assumption | exact trivial, by first | omega | assumption | exact trivial, by first | omega | assumption | exact trivial, by first | omega | assumption | exact trivial, by first | omega | assumption | exact trivial⟩
      refine q_ceq (tgt := 71) B dX6_readUse_59 (by decide) (by unfold inr; omega) (by unfold inr; omega) (fun c368 => ?_) (fun c368 => ?_)
      · refine lv_aload_n B.1 B.2.1 dX6_readUse_71 rfl (lv_at hl 3 rfl) ?_
        refine lv_aload_n B.1 B.2.1 dX6_readUse_72 rfl (lv_at hl 1 rfl) ?_
        refine c_geti (k := 6) pk_X6 B hM t110 kd7 rfl (by decide) fl_X6_47 dX6_readUse_73 e108 ?_
        refine q_bip B dX6_readUse_76 (by decide) ?_
        refine q_cne (tgt := 85) B dX6_readUse_78 (by decide) (by unfold inr; omega) (by unfold inr; omega) (fun c369 => ?_) (fun c369 => ?_)
        · refine q_con B dX6_readUse_85 ?_
          refine c_puti (k := 5) pk_X10 B hM hJJ53_0 kd9 rfl (by decide) fl_X6_267 (Or.inl rfl) dX6_readUse_86 rfl rfl rfl (show (-2147483648 : Int) ≤ 1 from by omega) (show 1 ≤ (2147483647 : Int) from by omega) (fun I370 H locs hu371 hM => ?_)
          have e372 : I370 v53_3 5 = 1 := w2_at hu371
          replace hF : Fr mo_X6_readUse [] T N I J R T_53 N_53 I370 J_53 R_53 := hF.wi hu371 (Fr_c hF hJJ53_0 rfl)
          refine lv_aload_n B.1 B.2.1 dX6_readUse_89 rfl (lv_at hl 1 rfl) ?_
          have e373 : R_53 a_this 3 = g_t + 1 := (hF.r t_this (by decide) nm0 rfl).trans p_0
          have e374 : R_53 g_t 0 = g_s + 1 := (hF.r p_1 (by decide) nm0 rfl).trans p_2
          have t375 : T_53 g_t = 3 := hF.tt p_1 (by decide) nm0
          have t376 : T_53 g_s = 62 := hF.tt p_3 (by decide) nm0
          have e377 : I370 a_this 5 = x105 := (w2_ne hu371 (Or.inl (tne t110 hJJ53_0 (by decide)))).trans e106
          have e378 : I370 a_this 6 = x107 := (w2_ne hu371 (Or.inl (tne t110 hJJ53_0 (by decide)))).trans e108
          have hv379 : (TKz g_S g_n) ∧ (I370 a_this 5 ≤ g_n) := by first | omega | exact ⟨by first | omega | assumption | exact trivial, by first | omega | assumption | exact trivial⟩
          refine z_callv hM hA (c_runV (n := 0) (as := []) (rest := []) B hX hA hM hl.1 t110 kd7 rfl (k_X6_advance l D dA eA L_53 T_53 N_53 I370 J_53 R_53 a_this t110 g_t g_s g_S g_n (show R_53 a_this 3 = g_t + 1 from e373) (show T_53 g_t = 3 from t375) (show R_53 g_t 0 = g_s + 1 from e374) (show T_53 g_s = 62 from t376) (show I370 g_s = g_S from ((Fr.irow hF p_3 (by decide) nm0 (by decide)).trans p_4)) hv379.1 hv379.2 (show g_S (I370 a_this 5).toNat = I370 a_this 6 from by rw [e377, e378]; first | assumption | omega) _ _) ml_X6_87 nm_X6_advance ⟨rfl, rfl⟩ ⟨Nat.le_of_ble_eq_true rfl, Nat.le_of_ble_eq_true rfl⟩ dX6_readUse_90 rfl rfl (Nat.le_of_ble_eq_true rfl) ⟨by show zc53 + 0 ≤ 4; omega, by show zs53 + 0 ≤ 31; omega⟩) (fun L382 T383 N384 I385 J386 R387 dz388 dl389 H locs hp380 hMn => ?_)
          obtain ⟨yL382, yT383, yN384, yR387, hFc390, hp380a⟩ := hp380
          obtain rfl := yL382.symm; obtain rfl := yT383.symm; obtain rfl := yN384.symm; obtain rfl := yR387.symm
          replace hF : Fr mo_X6_readUse [] T N I J R T_53 N_53 I385 J386 R_53 := hF.trans hFc390 (by decide) e20
          have hM := hMn
          clear hMn
          replace hp380a : I385 a_this 5 ≤ g_n ∧ g_S (I385 a_this 5).toNat = I385 a_this 6 ∧ (((I370 a_this 6 = 0 ∨ I370 a_this 6 = 1) ∧ I385 a_this 5 = I370 a_this 5) ∨ (I385 a_this 5 = I370 a_this 5 + 1)) := hp380a
          obtain ⟨hp380a_0, hp380a_1, hp380a_2⟩ := hp380a
          obtain ⟨x391, e392⟩ : ∃ v, I385 a_this 5 = v := ⟨_, rfl⟩
          obtain ⟨x393, e394⟩ : ∃ v, I385 a_this 6 = v := ⟨_, rfl⟩
          have nz395 : g_S (x391).toNat = x393 := by have h9 := hp380a_1; rw [e392, e394] at h9; exact h9
          have t396 : T_53 g_u = 20 := hF.tt p_9 (by decide) nm0
          have e397 : I370 g_u 2 = I g_u 2 + 1 := (w2_ne hu371 (Or.inl (tne t396 hJJ53_0 (by decide)))).trans hJJ53_4
          have e398 : I385 g_u 2 = I g_u 2 + 1 := (hFc390.i t396 (by decide) nm0 rfl).trans e397
          have e399 : I370 a_this 1 = I a_this 1 := (w2_ne hu371 (Or.inl (tne t110 hJJ53_0 (by decide)))).trans hJJ53_7
          have e400 : I385 a_this 1 = I a_this 1 := (hFc390.i t110 (by decide) nm0 rfl).trans e399
          have hv401 : (I a_this 5 + 1 ≤ I385 a_this 5) ∧ (I385 g_u 2 = I g_u 2 + 1) ∧ (I385 a_this 5 ≤ g_n) ∧ (I385 a_this 1 = I a_this 1) := by first | omega | exact ⟨by first | omega | assumption | exact trivial, by first | omega | assumption | exact trivial, by first | omega | assumption | exact trivial, by first | omega | assumption | exact trivial⟩
          exact JJ93 I385 J386 _ _ ls hM hF (lv_sub hl [0, 1, 2, 3] rfl) hv401.1 hv401.2.1 hv401.2.2.1 (by rw [e392, e394]; first | assumption | omega) hv401.2.2.2
        · refine q_con B dX6_readUse_81 ?_
          refine lv_goto (tgt := 86) B.1 B.2.1 dX6_readUse_82 (by decide) ?_
          refine c_puti (k := 5) pk_X10 B hM hJJ53_0 kd9 rfl (by decide) fl_X6_267 (Or.inl rfl) dX6_readUse_86 rfl rfl rfl (show (-2147483648 : Int) ≤ 0 from by omega) (show 0 ≤ (2147483647 : Int) from by omega) (fun I402 H locs hu403 hM => ?_)
          have e404 : I402 v53_3 5 = 0 := w2_at hu403
          replace hF : Fr mo_X6_readUse [] T N I J R T_53 N_53 I402 J_53 R_53 := hF.wi hu403 (Fr_c hF hJJ53_0 rfl)
          refine lv_aload_n B.1 B.2.1 dX6_readUse_89 rfl (lv_at hl 1 rfl) ?_
          have e405 : R_53 a_this 3 = g_t + 1 := (hF.r t_this (by decide) nm0 rfl).trans p_0
          have e406 : R_53 g_t 0 = g_s + 1 := (hF.r p_1 (by decide) nm0 rfl).trans p_2
          have t407 : T_53 g_t = 3 := hF.tt p_1 (by decide) nm0
          have t408 : T_53 g_s = 62 := hF.tt p_3 (by decide) nm0
          have e409 : I402 a_this 5 = x105 := (w2_ne hu403 (Or.inl (tne t110 hJJ53_0 (by decide)))).trans e106
          have e410 : I402 a_this 6 = x107 := (w2_ne hu403 (Or.inl (tne t110 hJJ53_0 (by decide)))).trans e108
          have hv411 : (TKz g_S g_n) ∧ (I402 a_this 5 ≤ g_n) := by first | omega | exact ⟨by first | omega | assumption | exact trivial, by first | omega | assumption | exact trivial⟩
          refine z_callv hM hA (c_runV (n := 0) (as := []) (rest := []) B hX hA hM hl.1 t110 kd7 rfl (k_X6_advance l D dA eA L_53 T_53 N_53 I402 J_53 R_53 a_this t110 g_t g_s g_S g_n (show R_53 a_this 3 = g_t + 1 from e405) (show T_53 g_t = 3 from t407) (show R_53 g_t 0 = g_s + 1 from e406) (show T_53 g_s = 62 from t408) (show I402 g_s = g_S from ((Fr.irow hF p_3 (by decide) nm0 (by decide)).trans p_4)) hv411.1 hv411.2 (show g_S (I402 a_this 5).toNat = I402 a_this 6 from by rw [e409, e410]; first | assumption | omega) _ _) ml_X6_87 nm_X6_advance ⟨rfl, rfl⟩ ⟨Nat.le_of_ble_eq_true rfl, Nat.le_of_ble_eq_true rfl⟩ dX6_readUse_90 rfl rfl (Nat.le_of_ble_eq_true rfl) ⟨by show zc53 + 0 ≤ 4; omega, by show zs53 + 0 ≤ 31; omega⟩) (fun L414 T415 N416 I417 J418 R419 dz420 dl421 H locs hp412 hMn => ?_)
          obtain ⟨yL414, yT415, yN416, yR419, hFc422, hp412a⟩ := hp412
          obtain rfl := yL414.symm; obtain rfl := yT415.symm; obtain rfl := yN416.symm; obtain rfl := yR419.symm
          replace hF : Fr mo_X6_readUse [] T N I J R T_53 N_53 I417 J418 R_53 := hF.trans hFc422 (by decide) e20
          have hM := hMn
          clear hMn
          replace hp412a : I417 a_this 5 ≤ g_n ∧ g_S (I417 a_this 5).toNat = I417 a_this 6 ∧ (((I402 a_this 6 = 0 ∨ I402 a_this 6 = 1) ∧ I417 a_this 5 = I402 a_this 5) ∨ (I417 a_this 5 = I402 a_this 5 + 1)) := hp412a
          obtain ⟨hp412a_0, hp412a_1, hp412a_2⟩ := hp412a
          obtain ⟨x423, e424⟩ : ∃ v, I417 a_this 5 = v := ⟨_, rfl⟩
          obtain ⟨x425, e426⟩ : ∃ v, I417 a_this 6 = v := ⟨_, rfl⟩
          have nz427 : g_S (x423).toNat = x425 := by have h9 := hp412a_1; rw [e424, e426] at h9; exact h9
          have t428 : T_53 g_u = 20 := hF.tt p_9 (by decide) nm0
          have e429 : I402 g_u 2 = I g_u 2 + 1 := (w2_ne hu403 (Or.inl (tne t428 hJJ53_0 (by decide)))).trans hJJ53_4
          have e430 : I417 g_u 2 = I g_u 2 + 1 := (hFc422.i t428 (by decide) nm0 rfl).trans e429
          have e431 : I402 a_this 1 = I a_this 1 := (w2_ne hu403 (Or.inl (tne t110 hJJ53_0 (by decide)))).trans hJJ53_7
          have e432 : I417 a_this 1 = I a_this 1 := (hFc422.i t110 (by decide) nm0 rfl).trans e431
          have hv433 : (I a_this 5 + 1 ≤ I417 a_this 5) ∧ (I417 g_u 2 = I g_u 2 + 1) ∧ (I417 a_this 5 ≤ g_n) ∧ (I417 a_this 1 = I a_this 1) := by first | omega | exact ⟨by first | omega | assumption | exact trivial, by first | omega | assumption | exact trivial, by first | omega | assumption | exact trivial, by first | omega | assumption | exact trivial⟩
          exact JJ93 I417 J418 _ _ ls hM hF (lv_sub hl [0, 1, 2, 3] rfl) hv433.1 hv433.2.1 hv433.2.2.1 (by rw [e424, e426]; first | assumption | omega) hv433.2.2.2
      · refine lv_aload_n B.1 B.2.1 dX6_readUse_62 rfl (lv_at hl 1 rfl) ?_
        refine c_geti (k := 6) pk_X6 B hM t110 kd7 rfl (by decide) fl_X6_47 dX6_readUse_63 e108 ?_
        refine q_bip B dX6_readUse_66 (by decide) ?_
        refine q_cne (tgt := 93) B dX6_readUse_68 (by decide) (by unfold inr; omega) (by unfold inr; omega) (fun c434 => ?_) (fun c434 => ?_)
        · have hv435 : (I a_this 5 + 1 ≤ I_53 a_this 5) ∧ (I_53 g_u 2 = I g_u 2 + 1) ∧ (I_53 a_this 5 ≤ g_n) ∧ (I_53 a_this 1 = I a_this 1) := by first | omega | exact ⟨by first | omega | assumption | exact trivial, by first | omega | assumption | exact trivial, by first | omega | assumption | exact trivial, by first | omega | assumption | exact trivial⟩
          exact JJ93 I_53 J_53 _ _ ls hM hF (lv_sub hl [0, 1, 2, 3] rfl) hv435.1 hv435.2.1 hv435.2.2.1 (by rw [e106, e108]; first | assumption | omega) hv435.2.2.2
        · refine lv_aload_n B.1 B.2.1 dX6_readUse_71 rfl (lv_at hl 3 rfl) ?_
          refine lv_aload_n B.1 B.2.1 dX6_readUse_72 rfl (lv_at hl 1 rfl) ?_
          refine c_geti (k := 6) pk_X6 B hM t110 kd7 rfl (by decide) fl_X6_47 dX6_readUse_73 e108 ?_
          refine q_bip B dX6_readUse_76 (by decide) ?_
          refine q_cne (tgt := 85) B dX6_readUse_78 (by decide) (by unfold inr; omega) (by unfold inr; omega) (fun c436 => ?_) (fun c436 => ?_)
          · refine q_con B dX6_readUse_85 ?_
            refine c_puti (k := 5) pk_X10 B hM hJJ53_0 kd9 rfl (by decide) fl_X6_267 (Or.inl rfl) dX6_readUse_86 rfl rfl rfl (show (-2147483648 : Int) ≤ 1 from by omega) (show 1 ≤ (2147483647 : Int) from by omega) (fun I437 H locs hu438 hM => ?_)
            have e439 : I437 v53_3 5 = 1 := w2_at hu438
            replace hF : Fr mo_X6_readUse [] T N I J R T_53 N_53 I437 J_53 R_53 := hF.wi hu438 (Fr_c hF hJJ53_0 rfl)
            refine lv_aload_n B.1 B.2.1 dX6_readUse_89 rfl (lv_at hl 1 rfl) ?_
            have e440 : R_53 a_this 3 = g_t + 1 := (hF.r t_this (by decide) nm0 rfl).trans p_0
            have e441 : R_53 g_t 0 = g_s + 1 := (hF.r p_1 (by decide) nm0 rfl).trans p_2
            have t442 : T_53 g_t = 3 := hF.tt p_1 (by decide) nm0
            have t443 : T_53 g_s = 62 := hF.tt p_3 (by decide) nm0
            have e444 : I437 a_this 5 = x105 := (w2_ne hu438 (Or.inl (tne t110 hJJ53_0 (by decide)))).trans e106
            have e445 : I437 a_this 6 = x107 := (w2_ne hu438 (Or.inl (tne t110 hJJ53_0 (by decide)))).trans e108
            have hv446 : (TKz g_S g_n) ∧ (I437 a_this 5 ≤ g_n) := by first | omega | exact ⟨by first | omega | assumption | exact trivial, by first | omega | assumption | exact trivial⟩
            refine z_callv hM hA (c_runV (n := 0) (as := []) (rest := []) B hX hA hM hl.1 t110 kd7 rfl (k_X6_advance l D dA eA L_53 T_53 N_53 I437 J_53 R_53 a_this t110 g_t g_s g_S g_n (show R_53 a_this 3 = g_t + 1 from e440) (show T_53 g_t = 3 from t442) (show R_53 g_t 0 = g_s + 1 from e441) (show T_53 g_s = 62 from t443) (show I437 g_s = g_S from ((Fr.irow hF p_3 (by decide) nm0 (by decide)).trans p_4)) hv446.1 hv446.2 (show g_S (I437 a_this 5).toNat = I437 a_this 6 from by rw [e444, e445]; first | assumption | omega) _ _) ml_X6_87 nm_X6_advance ⟨rfl, rfl⟩ ⟨Nat.le_of_ble_eq_true rfl, Nat.le_of_ble_eq_true rfl⟩ dX6_readUse_90 rfl rfl (Nat.le_of_ble_eq_true rfl) ⟨by show zc53 + 0 ≤ 4; omega, by show zs53 + 0 ≤ 31; omega⟩) (fun L449 T450 N451 I452 J453 R454 dz455 dl456 H locs hp447 hMn => ?_)
            obtain ⟨yL449, yT450, yN451, yR454, hFc457, hp447a⟩ := hp447
            obtain rfl := yL449.symm; obtain rfl := yT450.symm; obtain rfl := yN451.symm; obtain rfl := yR454.symm
            replace hF : Fr mo_X6_readUse [] T N I J R T_53 N_53 I452 J453 R_53 := hF.trans hFc457 (by decide) e20
            have hM := hMn
            clear hMn
            replace hp447a : I452 a_this 5 ≤ g_n ∧ g_S (I452 a_this 5).toNat = I452 a_this 6 ∧ (((I437 a_this 6 = 0 ∨ I437 a_this 6 = 1) ∧ I452 a_this 5 = I437 a_this 5) ∨ (I452 a_this 5 = I437 a_this 5 + 1)) := hp447a
            obtain ⟨hp447a_0, hp447a_1, hp447a_2⟩ := hp447a
            obtain ⟨x458, e459⟩ : ∃ v, I452 a_this 5 = v := ⟨_, rfl⟩
            obtain ⟨x460, e461⟩ : ∃ v, I452 a_this 6 = v := ⟨_, rfl⟩
            have nz462 : g_S (x458).toNat = x460 := by have h9 := hp447a_1; rw [e459, e461] at h9; exact h9
            have t463 : T_53 g_u = 20 := hF.tt p_9 (by decide) nm0
            have e464 : I437 g_u 2 = I g_u 2 + 1 := (w2_ne hu438 (Or.inl (tne t463 hJJ53_0 (by decide)))).trans hJJ53_4
            have e465 : I452 g_u 2 = I g_u 2 + 1 := (hFc457.i t463 (by decide) nm0 rfl).trans e464
            have e466 : I437 a_this 1 = I a_this 1 := (w2_ne hu438 (Or.inl (tne t110 hJJ53_0 (by decide)))).trans hJJ53_7
            have e467 : I452 a_this 1 = I a_this 1 := (hFc457.i t110 (by decide) nm0 rfl).trans e466
            have hv468 : (I a_this 5 + 1 ≤ I452 a_this 5) ∧ (I452 g_u 2 = I g_u 2 + 1) ∧ (I452 a_this 5 ≤ g_n) ∧ (I452 a_this 1 = I a_this 1) := by first | omega | exact ⟨by first | omega | assumption | exact trivial, by first | omega | assumption | exact trivial, by first | omega | assumption | exact trivial, by first | omega | assumption | exact trivial⟩
            exact JJ93 I452 J453 _ _ ls hM hF (lv_sub hl [0, 1, 2, 3] rfl) hv468.1 hv468.2.1 hv468.2.2.1 (by rw [e459, e461]; first | assumption | omega) hv468.2.2.2
          · refine q_con B dX6_readUse_81 ?_
            refine lv_goto (tgt := 86) B.1 B.2.1 dX6_readUse_82 (by decide) ?_
            refine c_puti (k := 5) pk_X10 B hM hJJ53_0 kd9 rfl (by decide) fl_X6_267 (Or.inl rfl) dX6_readUse_86 rfl rfl rfl (show (-2147483648 : Int) ≤ 0 from by omega) (show 0 ≤ (2147483647 : Int) from by omega) (fun I469 H locs hu470 hM => ?_)
            have e471 : I469 v53_3 5 = 0 := w2_at hu470
            replace hF : Fr mo_X6_readUse [] T N I J R T_53 N_53 I469 J_53 R_53 := hF.wi hu470 (Fr_c hF hJJ53_0 rfl)
            refine lv_aload_n B.1 B.2.1 dX6_readUse_89 rfl (lv_at hl 1 rfl) ?_
            have e472 : R_53 a_this 3 = g_t + 1 := (hF.r t_this (by decide) nm0 rfl).trans p_0
            have e473 : R_53 g_t 0 = g_s + 1 := (hF.r p_1 (by decide) nm0 rfl).trans p_2
            have t474 : T_53 g_t = 3 := hF.tt p_1 (by decide) nm0
            have t475 : T_53 g_s = 62 := hF.tt p_3 (by decide) nm0
            have e476 : I469 a_this 5 = x105 := (w2_ne hu470 (Or.inl (tne t110 hJJ53_0 (by decide)))).trans e106
            have e477 : I469 a_this 6 = x107 := (w2_ne hu470 (Or.inl (tne t110 hJJ53_0 (by decide)))).trans e108
            have hv478 : (TKz g_S g_n) ∧ (I469 a_this 5 ≤ g_n) := by first | omega | exact ⟨by first | omega | assumption | exact trivial, by first | omega | assumption | exact trivial⟩
            refine z_callv hM hA (c_runV (n := 0) (as := []) (rest := []) B hX hA hM hl.1 t110 kd7 rfl (k_X6_advance l D dA eA L_53 T_53 N_53 I469 J_53 R_53 a_this t110 g_t g_s g_S g_n (show R_53 a_this 3 = g_t + 1 from e472) (show T_53 g_t = 3 from t474) (show R_53 g_t 0 = g_s + 1 from e473) (show T_53 g_s = 62 from t475) (show I469 g_s = g_S from ((Fr.irow hF p_3 (by decide) nm0 (by decide)).trans p_4)) hv478.1 hv478.2 (show g_S (I469 a_this 5).toNat = I469 a_this 6 from by rw [e476, e477]; first | assumption | omega) _ _) ml_X6_87 nm_X6_advance ⟨rfl, rfl⟩ ⟨Nat.le_of_ble_eq_true rfl, Nat.le_of_ble_eq_true rfl⟩ dX6_readUse_90 rfl rfl (Nat.le_of_ble_eq_true rfl) ⟨by show zc53 + 0 ≤ 4; omega, by show zs53 + 0 ≤ 31; omega⟩) (fun L481 T482 N483 I484 J485 R486 dz487 dl488 H locs hp479 hMn => ?_)
            obtain ⟨yL481, yT482, yN483, yR486, hFc489, hp479a⟩ := hp479
            obtain rfl := yL481.symm; obtain rfl := yT482.symm; obtain rfl := yN483.symm; obtain rfl := yR486.symm
            replace hF : Fr mo_X6_readUse [] T N I J R T_53 N_53 I484 J485 R_53 := hF.trans hFc489 (by decide) e20
            have hM := hMn
            clear hMn
            replace hp479a : I484 a_this 5 ≤ g_n ∧ g_S (I484 a_this 5).toNat = I484 a_this 6 ∧ (((I469 a_this 6 = 0 ∨ I469 a_this 6 = 1) ∧ I484 a_this 5 = I469 a_this 5) ∨ (I484 a_this 5 = I469 a_this 5 + 1)) := hp479a
            obtain ⟨hp479a_0, hp479a_1, hp479a_2⟩ := hp479a
            obtain ⟨x490, e491⟩ : ∃ v, I484 a_this 5 = v := ⟨_, rfl⟩
            obtain ⟨x492, e493⟩ : ∃ v, I484 a_this 6 = v := ⟨_, rfl⟩
            have nz494 : g_S (x490).toNat = x492 := by have h9 := hp479a_1; rw [e491, e493] at h9; exact h9
            have t495 : T_53 g_u = 20 := hF.tt p_9 (by decide) nm0
            have e496 : I469 g_u 2 = I g_u 2 + 1 := (w2_ne hu470 (Or.inl (tne t495 hJJ53_0 (by decide)))).trans hJJ53_4
            have e497 : I484 g_u 2 = I g_u 2 + 1 := (hFc489.i t495 (by decide) nm0 rfl).trans e496
            have e498 : I469 a_this 1 = I a_this 1 := (w2_ne hu470 (Or.inl (tne t110 hJJ53_0 (by decide)))).trans hJJ53_7
            have e499 : I484 a_this 1 = I a_this 1 := (hFc489.i t110 (by decide) nm0 rfl).trans e498
            have hv500 : (I a_this 5 + 1 ≤ I484 a_this 5) ∧ (I484 g_u 2 = I g_u 2 + 1) ∧ (I484 a_this 5 ≤ g_n) ∧ (I484 a_this 1 = I a_this 1) := by first | omega | exact ⟨by first | omega | assumption | exact trivial, by first | omega | assumption | exact trivial, by first | omega | assumption | exact trivial, by first | omega | assumption | exact trivial⟩
            exact JJ93 I484 J485 _ _ ls hM hF (lv_sub hl [0, 1, 2, 3] rfl) hv500.1 hv500.2.1 hv500.2.2.1 (by rw [e491, e493]; first | assumption | omega) hv500.2.2.2
    refine q_cne (tgt := 53) B dX6_readUse_40 (by decide) (by unfold inr; omega) (by unfold inr; omega) (fun c501 => ?_) (fun c501 => ?_)
    · have t502 : T63 b25 = 9 := hFc70.tt t51 (by decide) nm0
      have t503 : T63 g_u = 20 := hF.tt p_9 (by decide) nm0
      have e504 : I93 g_u 2 = I40 g_u 2 + 1 := (hFc98.i t503 (by decide) nm0 rfl).trans hp60a_2_0
      have e505 : I40 a_this 1 = x22 := (hFc45.i t46 (by decide) (nm1 (tne t46 t32 (by decide))) rfl).trans e23
      have e506 : I65 a_this 1 = x22 := (hFc70.i t71 (by decide) nm0 rfl).trans e505
      have e507 : I93 a_this 1 = x22 := (hFc98.i t76 (by decide) nm0 rfl).trans e506
      have hv508 : (I a_this 5 + 1 ≤ I93 a_this 5) ∧ ((0 + 1 + dz68 : Int) ≤ 4) ∧ ((0 + 11 + dl69 : Int) ≤ 31) ∧ (I93 g_u 2 = I g_u 2 + 1) ∧ (I93 a_this 5 ≤ g_n) ∧ (I93 a_this 1 = I a_this 1) := by first | omega | exact ⟨by first | omega | assumption | exact trivial, by first | omega | assumption | exact trivial, by first | omega | assumption | exact trivial, by first | omega | assumption | exact trivial, by first | omega | assumption | exact trivial, by first | omega | assumption | exact trivial⟩
      exact JJ53 b25 L62 T63 N64 I93 J94 R67 (0 + 1 + dz68) (0 + 11 + dl69) _ _ ls hM hF (lv_sub hl [1, 2, 3, 0] rfl) t502 hv508.1 hv508.2.1 hv508.2.2.1 hv508.2.2.2.1 hv508.2.2.2.2.1 (by rw [e100, e102]; first | assumption | omega) hv508.2.2.2.2.2
    · refine lv_aload_n B.1 B.2.1 dX6_readUse_43 rfl (lv_at hl 2 rfl) ?_
      refine lv_aload_n B.1 B.2.1 dX6_readUse_44 rfl (lv_at hl 0 rfl) ?_
      have t509 : T63 b25 = 9 := hFc70.tt t51 (by decide) nm0
      have hv510 : (TKz g_S g_n) ∧ (I93 a_this 5 ≤ g_n) := by first | omega | exact ⟨by first | omega | assumption | exact trivial, by first | omega | assumption | exact trivial⟩
      refine g_calli hM hA (c_runV (n := 1) (as := [.ref b25]) (rest := []) B hX hA hM hl.1 t76 kd7 rfl (k_X6_readArgs l D dA eA L62 T63 N64 I93 J94 R67 a_this t76 b25 t509 g_t g_s g_S g_n (show R67 a_this 3 = g_t + 1 from e77) (show T63 g_t = 3 from t79) (show R67 g_t 0 = g_s + 1 from e78) (show T63 g_s = 62 from t80) (show I93 g_s = g_S from ((Fr.irow hF p_3 (by decide) nm0 (by decide)).trans p_4)) hv510.1 hv510.2 (show g_S (I93 a_this 5).toNat = I93 a_this 6 from by rw [e100, e102]; first | assumption | omega) _ _) ml_X6_263 nm_X6_readArgs ⟨rfl, rfl⟩ ⟨Nat.le_of_ble_eq_true rfl, Nat.le_of_ble_eq_true rfl⟩ dX6_readUse_45 rfl rfl (Nat.le_of_ble_eq_true rfl) ⟨by show 0 + 1 + dz68 + 2 ≤ 4; omega, by show 0 + 11 + dl69 + 8 ≤ 31; omega⟩) (fun x512 ix512 L513 T514 N515 I516 J517 R518 dz519 dl520 H locs hp511 hMn => ?_)
      obtain ⟨hFc521, hp511a⟩ := hp511
      have t522 : T63 a_spot = 10 := hF.tt t_spot (by decide) nm0
      have t523 : T63 g_u = 20 := hF.tt p_9 (by decide) nm0
      replace hF : Fr mo_X6_readUse [] T N I J R T514 N515 I516 J517 R518 := hF.trans hFc521 (by decide) e20
      have hM := hMn
      clear hMn
      replace hp511a : (0 : Int) ≤ x512 ∧ x512 ≤ 1 ∧ (I516 a_this 5 ≤ g_n ∧ g_S (I516 a_this 5).toNat = I516 a_this 6 ∧ I93 a_this 5 ≤ I516 a_this 5 ∧ ((x512 = 0 ∧ I516 a_this 1 ≠ 0) ∨ (x512 = 1 ∧ I516 a_this 1 = I93 a_this 1 ∧ I93 a_this 5 + 0 ≤ I516 a_this 5)) ∧ dz519 ≤ 2 ∧ dl520 ≤ 8) := hp511a
      obtain ⟨hp511a_0, hp511a_1, hp511a_2⟩ := hp511a
      obtain ⟨hp511a_2_0, hp511a_2_1, hp511a_2_2, hp511a_2_3, hp511a_2_4, hp511a_2_5⟩ := hp511a_2
      obtain ⟨x524, e525⟩ : ∃ v, I516 a_this 5 = v := ⟨_, rfl⟩
      obtain ⟨x526, e527⟩ : ∃ v, I516 a_this 6 = v := ⟨_, rfl⟩
      have nz528 : g_S (x524).toNat = x526 := by have h9 := hp511a_2_1; rw [e525, e527] at h9; exact h9
      have e529 : I40 a_this 1 = x22 := (hFc45.i t46 (by decide) (nm1 (tne t46 t32 (by decide))) rfl).trans e23
      have e530 : I65 a_this 1 = x22 := (hFc70.i t71 (by decide) nm0 rfl).trans e529
      have e531 : I93 a_this 1 = x22 := (hFc98.i t76 (by decide) nm0 rfl).trans e530
      obtain ⟨x532, e533⟩ : ∃ v, I516 a_this 1 = v := ⟨_, rfl⟩
      refine q_ine (tgt := 53) B dX6_readUse_48 (by decide) (by unfold inr; omega) (fun c534 => ?_) (fun c534 => ?_)
      · have t535 : T514 b25 = 9 := hFc521.tt t509 (by decide) nm0
        have e536 : I93 g_u 2 = I40 g_u 2 + 1 := (hFc98.i t523 (by decide) nm0 rfl).trans hp60a_2_0
        have e537 : I516 g_u 2 = I40 g_u 2 + 1 := (hFc521.i t523 (by decide) nm0 rfl).trans e536
        have hv538 : (I a_this 5 + 1 ≤ I516 a_this 5) ∧ ((0 + 1 + dz68 + dz519 : Int) ≤ 4) ∧ ((0 + 11 + dl69 + dl520 : Int) ≤ 31) ∧ (I516 g_u 2 = I g_u 2 + 1) ∧ (I516 a_this 5 ≤ g_n) ∧ (I516 a_this 1 = I a_this 1) := by first | omega | exact ⟨by first | omega | assumption | exact trivial, by first | omega | assumption | exact trivial, by first | omega | assumption | exact trivial, by first | omega | assumption | exact trivial, by first | omega | assumption | exact trivial, by first | omega | assumption | exact trivial⟩
        exact JJ53 b25 L513 T514 N515 I516 J517 R518 (0 + 1 + dz68 + dz519) (0 + 11 + dl69 + dl520) _ _ ls hM hF (lv_sub hl [1, 2, 3, 0] rfl) t535 hv538.1 hv538.2.1 hv538.2.2.1 hv538.2.2.2.1 hv538.2.2.2.2.1 (by rw [e525, e527]; first | assumption | omega) hv538.2.2.2.2.2
      · refine q_con B dX6_readUse_51 ?_
        have e539 : I93 g_u 2 = I40 g_u 2 + 1 := (hFc98.i t523 (by decide) nm0 rfl).trans hp60a_2_0
        have e540 : I516 g_u 2 = I40 g_u 2 + 1 := (hFc521.i t523 (by decide) nm0 rfl).trans e539
        refine g_zret B hM dX6_readUse_52 ⟨by show 0 + 1 + dz68 + dz519 ≤ 4; omega, by show 0 + 11 + dl69 + dl520 ≤ 31; omega⟩ (by omega) (by omega) ?_
        rw [← hPST]
        exact ⟨(0), rfl, by omega, hF, by omega, by omega, by first | omega | assumption | exact trivial, by show g_S (I516 a_this 5).toNat = I516 a_this 6; rw [e525, e527]; first | assumption | omega, by first | omega | assumption | exact trivial, by first | omega | assumption | exact trivial, by first | omega | assumption | exact trivial, by first | omega | assumption | exact trivial, by first | omega | assumption | exact trivial, by first | omega | assumption | exact trivial, by first | omega | assumption | exact trivial⟩
  · refine q_con B dX6_readUse_10 ?_
    have e541 : I16 a_this 5 = x1 := (hFc21.i t_this (by decide) nm0 rfl).trans e2
    have e542 : I16 a_this 6 = 2 := (hFc21.i t_this (by decide) nm0 rfl).trans p_10
    have e543 : I16 g_u 2 = x6 := (hFc21.i p_9 (by decide) nm0 rfl).trans e7
    refine g_zret B hM dX6_readUse_11 ⟨by show 0 ≤ 4; omega, by show 0 ≤ 31; omega⟩ (by omega) (by omega) ?_
    rw [← hPST]
    exact ⟨(0), rfl, by omega, hF, by omega, by omega, by first | omega | assumption | exact trivial, by show g_S (I16 a_this 5).toNat = I16 a_this 6; rw [e541, e542]; first | assumption | omega, by first | omega | assumption | exact trivial, by first | omega | assumption | exact trivial, by first | omega | assumption | exact trivial, by first | omega | assumption | exact trivial, by first | omega | assumption | exact trivial, by first | omega | assumption | exact trivial, by first | omega | assumption | exact trivial⟩
