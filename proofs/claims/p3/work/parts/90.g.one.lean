set_option maxHeartbeats 1000000 in
set_option maxRecDepth 20000 in
theorem k_X6_opHere (l : Launch) (D : va_G) (dA : Nat → ClassId) (eA : Nat) (L : List Nat) (T N : Nat → Nat) (I : Nat → Nat → Int) (J : Nat → Nat → Int64) (R : Nat → Nat → Nat) (a_this : Nat) (t_this : T a_this = 7) : PC l yX6_opHere cX6_opHere 1 (some .int) ({ frames := 4, cells := 0, slots := 0, locals := 131 }) D dA eA L T N I J R [.ref a_this] (rI (fun r => r = 0 ∨ 2 ≤ I a_this 6)) := by
  generalize hPST : (rI (fun r => r = 0 ∨ 2 ≤ I a_this 6)) = PST
  refine p_enter (own := RX6) (by decide) rfl (Nat.le_of_ble_eq_true rfl) (fun p e s m args below meth c ls B hX hM hl => ?_)
  have hA : ∀ q, s.heap.size ≤ q → cF dA L T N I J R s.heap.size q := fun q h => Or.inr h
  have hl : lv_has ls 1 [(0, .ref a_this)] := hl
  refine lv_aload_n B.1 B.2.1 dX6_opHere_0 rfl (lv_at hl 0 rfl) ?_
  obtain ⟨x1, e2⟩ : ∃ v, I a_this 6 = v := ⟨_, rfl⟩
  have r3 : (-2147483648 : Int) ≤ x1 ∧ x1 ≤ 2147483647 := by rw [← e2]; exact g7_6 hM.2.2.2.2.2.2.1 t_this
  refine c_geti (k := 6) pk_X6 B hM t_this kd7 rfl (by decide) fl_X6_47 dX6_opHere_1 e2 ?_
  refine q_con B dX6_opHere_4 ?_
  refine q_cne (tgt := 11) B dX6_opHere_5 (by decide) (by unfold inr; omega) (by unfold inr; omega) (fun c4 => ?_) (fun c4 => ?_)
  · refine lv_aload_n B.1 B.2.1 dX6_opHere_11 rfl (lv_at hl 0 rfl) ?_
    refine c_geti (k := 6) pk_X6 B hM t_this kd7 rfl (by decide) fl_X6_47 dX6_opHere_12 e2 ?_
    refine q_con B dX6_opHere_15 ?_
    refine q_cne (tgt := 62) B dX6_opHere_16 (by decide) (by unfold inr; omega) (by unfold inr; omega) (fun c5 => ?_) (fun c5 => ?_)
    · refine lv_aload_n B.1 B.2.1 dX6_opHere_62 rfl (lv_at hl 0 rfl) ?_
      refine c_geti (k := 6) pk_X6 B hM t_this kd7 rfl (by decide) fl_X6_47 dX6_opHere_63 e2 ?_
      refine q_bip B dX6_opHere_66 (by decide) ?_
      refine q_cne (tgt := 76) B dX6_opHere_68 (by decide) (by unfold inr; omega) (by unfold inr; omega) (fun c6 => ?_) (fun c6 => ?_)
      · refine lv_aload_n B.1 B.2.1 dX6_opHere_76 rfl (lv_at hl 0 rfl) ?_
        refine c_geti (k := 6) pk_X6 B hM t_this kd7 rfl (by decide) fl_X6_47 dX6_opHere_77 e2 ?_
        refine q_con B dX6_opHere_80 ?_
        refine q_cle (tgt := 104) B dX6_opHere_81 (by decide) (by unfold inr; omega) (by unfold inr; omega) (fun c7 => ?_) (fun c7 => ?_)
        · refine q_con B dX6_opHere_104 ?_
          refine p_iret B dX6_opHere_105 ?_
          rw [← hPST]
          exact ⟨(0), rfl, by omega, by first | omega | assumption | exact trivial⟩
        · obtain ⟨aK8, aV9, hE10, hz11, hz12⟩ := hX.2.2.2.2.2.2.2.1
          refine va_ldcS B.1 B.2.1 B.2.2.2.1 hz12 dX6_opHere_84 ?_
          refine lv_aload_n B.1 B.2.1 dX6_opHere_86 rfl (lv_at hl 0 rfl) ?_
          refine c_geti (k := 6) pk_X6 B hM t_this kd7 rfl (by decide) fl_X6_47 dX6_opHere_87 e2 ?_
          refine q_i2c B (by unfold inr; omega) dX6_opHere_90 (fun x13 lx13 ux13 ex13 => ?_)
          refine p_calli (c_runVE (i := 1) (n := 1) (as := [.int (II x13)]) (rest := []) hE10 (by decide) B hX hA hM hl.1 rfl (k_J0_indexOf_0f7a4 l D dA eA L T N I J R aK8 aV9 1 (by decide) x13 (by omega) (by omega) _ _) ml_X6_197 nm_J0_indexOf_0f7a4 ⟨rfl, rfl⟩ ⟨Nat.le_of_ble_eq_true rfl, Nat.le_of_ble_eq_true rfl⟩ dX6_opHere_91 rfl rfl (Nat.le_of_ble_eq_true rfl) ⟨Nat.zero_le _, Nat.zero_le _⟩) (fun x14 ix14 px14 => ?_)
          refine q_ilt (tgt := 104) B dX6_opHere_94 (by decide) (by unfold inr; omega) (fun c15 => ?_) (fun c15 => ?_)
          · refine q_con B dX6_opHere_104 ?_
            refine p_iret B dX6_opHere_105 ?_
            rw [← hPST]
            exact ⟨(0), rfl, by omega, by first | omega | assumption | exact trivial⟩
          · refine lv_aload_n B.1 B.2.1 dX6_opHere_97 rfl (lv_at hl 0 rfl) ?_
            refine c_geti (k := 6) pk_X6 B hM t_this kd7 rfl (by decide) fl_X6_47 dX6_opHere_98 e2 ?_
            refine lv_goto (tgt := 105) B.1 B.2.1 dX6_opHere_101 (by decide) ?_
            refine p_iret B dX6_opHere_105 ?_
            rw [← hPST]
            exact ⟨x1, rfl, by omega, by first | omega | assumption | exact trivial⟩
      · refine lv_aload_n B.1 B.2.1 dX6_opHere_71 rfl (lv_at hl 0 rfl) ?_
        refine c_geti (k := 6) pk_X6 B hM t_this kd7 rfl (by decide) fl_X6_47 dX6_opHere_72 e2 ?_
        refine p_iret B dX6_opHere_75 ?_
        rw [← hPST]
        exact ⟨x1, rfl, by omega, by first | omega | assumption | exact trivial⟩
    · refine lv_aload_n B.1 B.2.1 dX6_opHere_19 rfl (lv_at hl 0 rfl) ?_
      obtain ⟨w16, e17⟩ : ∃ v, J a_this 7 = v := ⟨_, rfl⟩
      refine c_getl (k := 7) pk_X6 B hM t_this kd7 rfl (by decide) fl_X6_54 dX6_opHere_20 e17 ?_
      refine lv_ldc2 B.1 B.2.1 B.2.2.2.1 (B.2.2.2.2.1 _ lc_X6_189) dX6_opHere_23 ?_
      refine q_lcmp B dX6_opHere_26 (fun x18 lx18 ux18 ex18 => ?_)
      refine q_ieq (tgt := 52) B dX6_opHere_27 (by decide) (by unfold inr; omega) (fun c19 => ?_) (fun c19 => ?_)
      · refine lv_aload_n B.1 B.2.1 dX6_opHere_52 rfl (lv_at hl 0 rfl) ?_
        refine c_getl (k := 7) pk_X6 B hM t_this kd7 rfl (by decide) fl_X6_54 dX6_opHere_53 e17 ?_
        refine q_l2i B dX6_opHere_56 (fun x20 ix20 => ?_)
        unfold inr at ix20
        refine lv_goto (tgt := 61) B.1 B.2.1 dX6_opHere_57 (by decide) ?_
        refine p_iret B dX6_opHere_61 ?_
        rw [← hPST]
        exact ⟨x20, rfl, by omega, by first | omega | assumption | exact trivial⟩
      · refine lv_aload_n B.1 B.2.1 dX6_opHere_30 rfl (lv_at hl 0 rfl) ?_
        refine c_getl (k := 7) pk_X6 B hM t_this kd7 rfl (by decide) fl_X6_54 dX6_opHere_31 e17 ?_
        refine lv_ldc2 B.1 B.2.1 B.2.2.2.1 (B.2.2.2.2.1 _ lc_X6_191) dX6_opHere_34 ?_
        refine q_lcmp B dX6_opHere_37 (fun x21 lx21 ux21 ex21 => ?_)
        refine q_ieq (tgt := 52) B dX6_opHere_38 (by decide) (by unfold inr; omega) (fun c22 => ?_) (fun c22 => ?_)
        · refine lv_aload_n B.1 B.2.1 dX6_opHere_52 rfl (lv_at hl 0 rfl) ?_
          refine c_getl (k := 7) pk_X6 B hM t_this kd7 rfl (by decide) fl_X6_54 dX6_opHere_53 e17 ?_
          refine q_l2i B dX6_opHere_56 (fun x23 ix23 => ?_)
          unfold inr at ix23
          refine lv_goto (tgt := 61) B.1 B.2.1 dX6_opHere_57 (by decide) ?_
          refine p_iret B dX6_opHere_61 ?_
          rw [← hPST]
          exact ⟨x23, rfl, by omega, by first | omega | assumption | exact trivial⟩
        · refine lv_aload_n B.1 B.2.1 dX6_opHere_41 rfl (lv_at hl 0 rfl) ?_
          refine c_getl (k := 7) pk_X6 B hM t_this kd7 rfl (by decide) fl_X6_54 dX6_opHere_42 e17 ?_
          refine lv_ldc2 B.1 B.2.1 B.2.2.2.1 (B.2.2.2.2.1 _ lc_X6_193) dX6_opHere_45 ?_
          refine q_lcmp B dX6_opHere_48 (fun x24 lx24 ux24 ex24 => ?_)
          refine q_ine (tgt := 60) B dX6_opHere_49 (by decide) (by unfold inr; omega) (fun c25 => ?_) (fun c25 => ?_)
          · refine q_con B dX6_opHere_60 ?_
            refine p_iret B dX6_opHere_61 ?_
            rw [← hPST]
            exact ⟨(0), rfl, by omega, by first | omega | assumption | exact trivial⟩
          · refine lv_aload_n B.1 B.2.1 dX6_opHere_52 rfl (lv_at hl 0 rfl) ?_
            refine c_getl (k := 7) pk_X6 B hM t_this kd7 rfl (by decide) fl_X6_54 dX6_opHere_53 e17 ?_
            refine q_l2i B dX6_opHere_56 (fun x26 ix26 => ?_)
            unfold inr at ix26
            refine lv_goto (tgt := 61) B.1 B.2.1 dX6_opHere_57 (by decide) ?_
            refine p_iret B dX6_opHere_61 ?_
            rw [← hPST]
            exact ⟨x26, rfl, by omega, by first | omega | assumption | exact trivial⟩
  · refine q_bip B dX6_opHere_8 (by decide) ?_
    refine p_iret B dX6_opHere_10 ?_
    rw [← hPST]
    exact ⟨(110), rfl, by omega, by first | omega | assumption | exact trivial⟩

def mo_X9_readOne : List Nat := [1984, 2048]
set_option maxHeartbeats 1000000 in
set_option maxRecDepth 20000 in
theorem k_X9_readOne (l : Launch) (D : va_G) (dA : Nat → ClassId) (eA : Nat) (L : List Nat) (T N : Nat → Nat) (I : Nat → Nat → Int) (J : Nat → Nat → Int64) (R : Nat → Nat → Nat) (a_this : Nat) (t_this : T a_this = 3) (a_tape : Nat) (t_tape : T a_tape = 60) (a_len : Int) (i_len : (-2147483648 : Int) ≤ a_len ∧ a_len ≤ 2147483647) (a_from : Int) (i_from : (-2147483648 : Int) ≤ a_from ∧ a_from ≤ 2147483647) (a_at : Int) (i_at : (-2147483648 : Int) ≤ a_at ∧ a_at ≤ 2147483647) (g_s : Nat) (p_0 : R a_this 0 = g_s + 1) (p_1 : T g_s = 62) (p_2 : 0 ≤ a_from) (p_3 : a_from < a_len) (p_4 : a_len ≤ 3000) (p_5 : 0 ≤ a_at) (p_6 : a_at ≤ 3000) : GC l yX9_readOne cX9_readOne 7 (some .int) ({ frames := 4, cells := 0, slots := 0, locals := 131 }) D dA eA L T N I J R [.ref a_this, .ref a_tape, .int (II a_len), .int (II a_from), .int (II a_at)] 0 0 (gI (fun r L' T' N' I' J' R' dz dl => L' = L ∧ T' = T ∧ N' = N ∧ R' = R ∧ Fr mo_X9_readOne [] T N I J R T' N' I' J' R' ∧ 0 ≤ r ∧ r + a_from ≤ a_len ∧ TKo I I' g_s a_at ∧ (r ≠ 0 → I' g_s a_at.toNat ≠ 0 ∧ I' g_s a_at.toNat ≠ 1) ∧ TKb I a_tape a_from (a_from + r))) := by
  generalize hPST : (gI (fun r L' T' N' I' J' R' dz dl => L' = L ∧ T' = T ∧ N' = N ∧ R' = R ∧ Fr mo_X9_readOne [] T N I J R T' N' I' J' R' ∧ 0 ≤ r ∧ r + a_from ≤ a_len ∧ TKo I I' g_s a_at ∧ (r ≠ 0 → I' g_s a_at.toNat ≠ 0 ∧ I' g_s a_at.toNat ≠ 1) ∧ TKb I a_tape a_from (a_from + r))) = PST
  refine g_enter (own := RX9) (by decide) rfl (Nat.le_of_ble_eq_true rfl) (fun p e s m args below meth c ls hm B hX hM hl => ?_)
  have hC0 := hM.2.2.2.2.2.2.1
  have hW0 := hM.2.2.2
  have hF : Fr mo_X9_readOne [] T N I J R T N I J R := Fr.rf
  have hA : ∀ q, s.heap.size ≤ q → cF dA L T N I J R s.heap.size q := fun q h => Or.inr h
  have hl : lv_has ls 7 [(0, .ref a_this), (1, .ref a_tape), (2, .int (II a_len)), (3, .int (II a_from)), (4, .int (II a_at))] := hl
  refine lv_aload_n B.1 B.2.1 dX9_readOne_0 rfl (lv_at hl 1 rfl) ?_
  refine lv_iload_n B.1 B.2.1 dX9_readOne_1 rfl (lv_at hl 3 rfl) ?_
  have n1 : 3000 ≤ N a_tape ∧ N a_tape ≤ 3000 := gn60 hM.2.2.2.2.2.2.1 t_tape
  obtain ⟨x2, e3⟩ : ∃ v, I a_tape a_from.toNat = v := ⟨_, rfl⟩
  have r4 : (-128 : Int) ≤ x2 ∧ x2 ≤ 127 := by rw [← e3]; exact ga60 hM.2.2.2.2.2.2.1 t_tape (by omega)
  refine c_bld B hM t_tape kd60 an60 dX9_readOne_2 (by omega) (by omega) e3 ?_
  refine lv_istore (lv' := [(5, .int (II x2)), (0, .ref a_this), (1, .ref a_tape), (2, .int (II a_len)), (3, .int (II a_from)), (4, .int (II a_at))]) B.1 B.2.1 dX9_readOne_3 hl (by decide) rfl (fun ls hl => ?_)
  refine lv_iload B.1 B.2.1 dX9_readOne_5 (lv_at hl 0 rfl) ?_
  refine p_calli (c_runS (n := 1) (as := [.int (II x2)]) (rest := []) B hX hA hM hl.1 (k_X9_isLetter l D dA eA L T N I J R x2 (by first | omega | assumption | exact trivial | exact TKo.rf | exact TKo.wr (by assumption) (by first | assumption | exact TKo.rf) (by omega) (by omega) | exact TKb.nil (by omega) | exact TKb.add (by assumption) (by omega) (by omega) (by omega) | exact TKb.to (by assumption) (by omega) | exact TKb.add (TKb.nil (Int.le_refl _)) (by omega) (by omega) (by omega)) _ _) ml_X9_26 nm_X9_isLetter ⟨rfl, rfl⟩ ⟨Nat.le_of_ble_eq_true rfl, Nat.le_of_ble_eq_true rfl⟩ dX9_readOne_7 rfl rfl (Nat.le_of_ble_eq_true rfl) ⟨Nat.zero_le _, Nat.zero_le _⟩) (fun x6 ix6 hp5 => ?_)
  have hp5a := hp5
  replace hp5a : (0 : Int) ≤ x6 ∧ x6 ≤ 1 ∧ (x6 = 1 → 97 ≤ x2 ∧ x2 ≤ 122) := hp5a
  obtain ⟨hp5a_0, hp5a_1, hp5a_2⟩ := hp5a
  refine q_ieq (tgt := 23) B dX9_readOne_10 (by decide) (by unfold inr; omega) (fun c7 => ?_) (fun c7 => ?_)
  · refine lv_iload B.1 B.2.1 dX9_readOne_23 (lv_at hl 0 rfl) ?_
    refine q_bip B dX9_readOne_25 (by decide) ?_
    refine q_cne (tgt := 40) B dX9_readOne_27 (by decide) (by unfold inr; omega) (by unfold inr; omega) (fun c8 => ?_) (fun c8 => ?_)
    · refine lv_aload_n B.1 B.2.1 dX9_readOne_40 rfl (lv_at hl 1 rfl) ?_
      refine lv_aload_n B.1 B.2.1 dX9_readOne_41 rfl (lv_at hl 2 rfl) ?_
      refine lv_iload_n B.1 B.2.1 dX9_readOne_42 rfl (lv_at hl 3 rfl) ?_
      refine lv_iload_n B.1 B.2.1 dX9_readOne_43 rfl (lv_at hl 4 rfl) ?_
      refine lv_iload B.1 B.2.1 dX9_readOne_44 (lv_at hl 5 rfl) ?_
      have hv9 : ((-2147483648 : Int) ≤ a_len ∧ (a_len : Int) ≤ 2147483647) ∧ ((-2147483648 : Int) ≤ a_from ∧ (a_from : Int) ≤ 2147483647) ∧ ((-2147483648 : Int) ≤ a_at ∧ (a_at : Int) ≤ 2147483647) ∧ (0 ≤ a_from) ∧ (a_from < a_len) ∧ (a_len ≤ 3000) ∧ (0 ≤ a_at) ∧ (a_at ≤ 3000) := by first | omega | exact ⟨by first | omega | assumption | exact trivial | exact TKo.rf | exact TKo.wr (by assumption) (by first | assumption | exact TKo.rf) (by omega) (by omega) | exact TKb.nil (by omega) | exact TKb.add (by assumption) (by omega) (by omega) (by omega) | exact TKb.to (by assumption) (by omega) | exact TKb.add (TKb.nil (Int.le_refl _)) (by omega) (by omega) (by omega), by first | omega | assumption | exact trivial | exact TKo.rf | exact TKo.wr (by assumption) (by first | assumption | exact TKo.rf) (by omega) (by omega) | exact TKb.nil (by omega) | exact TKb.add (by assumption) (by omega) (by omega) (by omega) | exact TKb.to (by assumption) (by omega) | exact TKb.add (TKb.nil (Int.le_refl _)) (by omega) (by omega) (by omega), by first | omega | assumption | exact trivial | exact TKo.rf | exact TKo.wr (by assumption) (by first | assumption | exact TKo.rf) (by omega) (by omega) | exact TKb.nil (by omega) | exact TKb.add (by assumption) (by omega) (by omega) (by omega) | exact TKb.to (by assumption) (by omega) | exact TKb.add (TKb.nil (Int.le_refl _)) (by omega) (by omega) (by omega), by first | omega | assumption | exact trivial | exact TKo.rf | exact TKo.wr (by assumption) (by first | assumption | exact TKo.rf) (by omega) (by omega) | exact TKb.nil (by omega) | exact TKb.add (by assumption) (by omega) (by omega) (by omega) | exact TKb.to (by assumption) (by omega) | exact TKb.add (TKb.nil (Int.le_refl _)) (by omega) (by omega) (by omega), by first | omega | assumption | exact trivial | exact TKo.rf | exact TKo.wr (by assumption) (by first | assumption | exact TKo.rf) (by omega) (by omega) | exact TKb.nil (by omega) | exact TKb.add (by assumption) (by omega) (by omega) (by omega) | exact TKb.to (by assumption) (by omega) | exact TKb.add (TKb.nil (Int.le_refl _)) (by omega) (by omega) (by omega), by first | omega | assumption | exact trivial | exact TKo.rf | exact TKo.wr (by assumption) (by first | assumption | exact TKo.rf) (by omega) (by omega) | exact TKb.nil (by omega) | exact TKb.add (by assumption) (by omega) (by omega) (by omega) | exact TKb.to (by assumption) (by omega) | exact TKb.add (TKb.nil (Int.le_refl _)) (by omega) (by omega) (by omega), by first | omega | assumption | exact trivial | exact TKo.rf | exact TKo.wr (by assumption) (by first | assumption | exact TKo.rf) (by omega) (by omega) | exact TKb.nil (by omega) | exact TKb.add (by assumption) (by omega) (by omega) (by omega) | exact TKb.to (by assumption) (by omega) | exact TKb.add (TKb.nil (Int.le_refl _)) (by omega) (by omega) (by omega), by first | omega | assumption | exact trivial | exact TKo.rf | exact TKo.wr (by assumption) (by first | assumption | exact TKo.rf) (by omega) (by omega) | exact TKb.nil (by omega) | exact TKb.add (by assumption) (by omega) (by omega) (by omega) | exact TKb.to (by assumption) (by omega) | exact TKb.add (TKb.nil (Int.le_refl _)) (by omega) (by omega) (by omega)⟩
      refine z_calli hM hA (c_runV (n := 4) (as := [.ref a_tape, .int (II a_len), .int (II a_from), .int (II a_at)]) (rest := []) B hX hA hM hl.1 t_this kd3 rfl (k_X9_readNumber l D dA eA L T N I J R a_this t_this a_tape t_tape a_len hv9.1 a_from hv9.2.1 a_at hv9.2.2.1 g_s (show R a_this 0 = g_s + 1 from p_0) (show T g_s = 62 from p_1) hv9.2.2.2.1 hv9.2.2.2.2.1 hv9.2.2.2.2.2.1 hv9.2.2.2.2.2.2.1 hv9.2.2.2.2.2.2.2 _ _) ml_X9_36 nm_X9_readNumber ⟨rfl, rfl⟩ ⟨Nat.le_of_ble_eq_true rfl, Nat.le_of_ble_eq_true rfl⟩ dX9_readOne_46 rfl rfl (Nat.le_of_ble_eq_true rfl) ⟨Nat.zero_le _, Nat.zero_le _⟩) (fun x11 ix11 L12 T13 N14 I15 J16 R17 dz18 dl19 H locs hp10 hMn => ?_)
      obtain ⟨yL12, yT13, yN14, yR17, hFc20, hp10a⟩ := hp10
      obtain rfl := yL12.symm; obtain rfl := yT13.symm; obtain rfl := yN14.symm; obtain rfl := yR17.symm
      replace hF : Fr mo_X9_readOne [] T N I J R T N I15 J16 R := hF.trans hFc20 (by decide) e20
      have hM := hMn
      clear hMn
      replace hp10a : 0 ≤ x11 ∧ x11 + a_from ≤ a_len ∧ TKo I I15 g_s a_at ∧ (x11 ≠ 0 → I15 g_s a_at.toNat ≠ 0 ∧ I15 g_s a_at.toNat ≠ 1) ∧ TKb I a_tape a_from (a_from + x11) := hp10a
      obtain ⟨hp10a_0, hp10a_1, hp10a_2, hp10a_3, hp10a_4⟩ := hp10a
      refine lv_istore (lv' := [(6, .int (II x11)), (5, .int (II x2)), (0, .ref a_this), (1, .ref a_tape), (2, .int (II a_len)), (3, .int (II a_from)), (4, .int (II a_at))]) B.1 B.2.1 dX9_readOne_49 hl (by decide) rfl (fun ls hl => ?_)
      refine lv_iload B.1 B.2.1 dX9_readOne_51 (lv_at hl 0 rfl) ?_
      refine q_ine (tgt := 84) B dX9_readOne_53 (by decide) (by unfold inr; omega) (fun c21 => ?_) (fun c21 => ?_)
      · refine lv_iload B.1 B.2.1 dX9_readOne_84 (lv_at hl 0 rfl) ?_
        obtain ⟨x22, e23⟩ : ∃ v, I15 g_s a_at.toNat = v := ⟨_, rfl⟩
        refine g_iret B hM dX9_readOne_86 ⟨Nat.le_refl _, Nat.le_refl _⟩ ?_
        rw [← hPST]
        exact ⟨x11, rfl, by omega, rfl, rfl, rfl, rfl, hF, by first | omega | assumption | exact trivial | exact TKo.rf | exact TKo.wr (by assumption) (by first | assumption | exact TKo.rf) (by omega) (by omega) | exact TKb.nil (by omega) | exact TKb.add (by assumption) (by omega) (by omega) (by omega) | exact TKb.to (by assumption) (by omega) | exact TKb.add (TKb.nil (Int.le_refl _)) (by omega) (by omega) (by omega), by first | omega | assumption | exact trivial | exact TKo.rf | exact TKo.wr (by assumption) (by first | assumption | exact TKo.rf) (by omega) (by omega) | exact TKb.nil (by omega) | exact TKb.add (by assumption) (by omega) (by omega) (by omega) | exact TKb.to (by assumption) (by omega) | exact TKb.add (TKb.nil (Int.le_refl _)) (by omega) (by omega) (by omega), by first | omega | assumption | exact trivial | exact TKo.rf | exact TKo.wr (by assumption) (by first | assumption | exact TKo.rf) (by omega) (by omega) | exact TKb.nil (by omega) | exact TKb.add (by assumption) (by omega) (by omega) (by omega) | exact TKb.to (by assumption) (by omega) | exact TKb.add (TKb.nil (Int.le_refl _)) (by omega) (by omega) (by omega), by first | omega | assumption | exact trivial | exact TKo.rf | exact TKo.wr (by assumption) (by first | assumption | exact TKo.rf) (by omega) (by omega) | exact TKb.nil (by omega) | exact TKb.add (by assumption) (by omega) (by omega) (by omega) | exact TKb.to (by assumption) (by omega) | exact TKb.add (TKb.nil (Int.le_refl _)) (by omega) (by omega) (by omega), by first | omega | assumption | exact trivial | exact TKo.rf | exact TKo.wr (by assumption) (by first | assumption | exact TKo.rf) (by omega) (by omega) | exact TKb.nil (by omega) | exact TKb.add (by assumption) (by omega) (by omega) (by omega) | exact TKb.to (by assumption) (by omega) | exact TKb.add (TKb.nil (Int.le_refl _)) (by omega) (by omega) (by omega)⟩
      · refine lv_iload B.1 B.2.1 dX9_readOne_56 (lv_at hl 1 rfl) ?_
        refine q_ile (tgt := 84) B dX9_readOne_58 (by decide) (by unfold inr; omega) (fun c24 => ?_) (fun c24 => ?_)
        · refine lv_iload B.1 B.2.1 dX9_readOne_84 (lv_at hl 0 rfl) ?_
          obtain ⟨x25, e26⟩ : ∃ v, I15 g_s a_at.toNat = v := ⟨_, rfl⟩
          refine g_iret B hM dX9_readOne_86 ⟨Nat.le_refl _, Nat.le_refl _⟩ ?_
          rw [← hPST]
          exact ⟨x11, rfl, by omega, rfl, rfl, rfl, rfl, hF, by first | omega | assumption | exact trivial | exact TKo.rf | exact TKo.wr (by assumption) (by first | assumption | exact TKo.rf) (by omega) (by omega) | exact TKb.nil (by omega) | exact TKb.add (by assumption) (by omega) (by omega) (by omega) | exact TKb.to (by assumption) (by omega) | exact TKb.add (TKb.nil (Int.le_refl _)) (by omega) (by omega) (by omega), by first | omega | assumption | exact trivial | exact TKo.rf | exact TKo.wr (by assumption) (by first | assumption | exact TKo.rf) (by omega) (by omega) | exact TKb.nil (by omega) | exact TKb.add (by assumption) (by omega) (by omega) (by omega) | exact TKb.to (by assumption) (by omega) | exact TKb.add (TKb.nil (Int.le_refl _)) (by omega) (by omega) (by omega), by first | omega | assumption | exact trivial | exact TKo.rf | exact TKo.wr (by assumption) (by first | assumption | exact TKo.rf) (by omega) (by omega) | exact TKb.nil (by omega) | exact TKb.add (by assumption) (by omega) (by omega) (by omega) | exact TKb.to (by assumption) (by omega) | exact TKb.add (TKb.nil (Int.le_refl _)) (by omega) (by omega) (by omega), by first | omega | assumption | exact trivial | exact TKo.rf | exact TKo.wr (by assumption) (by first | assumption | exact TKo.rf) (by omega) (by omega) | exact TKb.nil (by omega) | exact TKb.add (by assumption) (by omega) (by omega) (by omega) | exact TKb.to (by assumption) (by omega) | exact TKb.add (TKb.nil (Int.le_refl _)) (by omega) (by omega) (by omega), by first | omega | assumption | exact trivial | exact TKo.rf | exact TKo.wr (by assumption) (by first | assumption | exact TKo.rf) (by omega) (by omega) | exact TKb.nil (by omega) | exact TKb.add (by assumption) (by omega) (by omega) (by omega) | exact TKb.to (by assumption) (by omega) | exact TKb.add (TKb.nil (Int.le_refl _)) (by omega) (by omega) (by omega)⟩
        · obtain ⟨aK27, aV28, hE29, hz30, hz31⟩ := hX.2.2.2.2.2.2.2.1
          refine va_ldcS B.1 B.2.1 B.2.2.2.1 hz30 dX9_readOne_61 ?_
          refine lv_iload B.1 B.2.1 dX9_readOne_63 (lv_at hl 1 rfl) ?_
          refine q_i2c B (by unfold inr; omega) dX9_readOne_65 (fun x32 lx32 ux32 ex32 => ?_)
          refine p_calli (c_runVE (i := 0) (n := 1) (as := [.int (II x32)]) (rest := []) hE29 (by decide) B hX hA hM hl.1 rfl (k_J0_indexOf_0f7a4 l D dA eA L T N I15 J16 R aK27 aV28 0 (by decide) x32 (by omega) (by omega) _ _) ml_X9_41 nm_J0_indexOf_0f7a4 ⟨rfl, rfl⟩ ⟨Nat.le_of_ble_eq_true rfl, Nat.le_of_ble_eq_true rfl⟩ dX9_readOne_66 rfl rfl (Nat.le_of_ble_eq_true rfl) ⟨Nat.zero_le _, Nat.zero_le _⟩) (fun x33 ix33 px33 => ?_)
          refine q_ilt (tgt := 84) B dX9_readOne_69 (by decide) (by unfold inr; omega) (fun c34 => ?_) (fun c34 => ?_)
          · refine lv_iload B.1 B.2.1 dX9_readOne_84 (lv_at hl 0 rfl) ?_
            obtain ⟨x35, e36⟩ : ∃ v, I15 g_s a_at.toNat = v := ⟨_, rfl⟩
            refine g_iret B hM dX9_readOne_86 ⟨Nat.le_refl _, Nat.le_refl _⟩ ?_
            rw [← hPST]
            exact ⟨x11, rfl, by omega, rfl, rfl, rfl, rfl, hF, by first | omega | assumption | exact trivial | exact TKo.rf | exact TKo.wr (by assumption) (by first | assumption | exact TKo.rf) (by omega) (by omega) | exact TKb.nil (by omega) | exact TKb.add (by assumption) (by omega) (by omega) (by omega) | exact TKb.to (by assumption) (by omega) | exact TKb.add (TKb.nil (Int.le_refl _)) (by omega) (by omega) (by omega), by first | omega | assumption | exact trivial | exact TKo.rf | exact TKo.wr (by assumption) (by first | assumption | exact TKo.rf) (by omega) (by omega) | exact TKb.nil (by omega) | exact TKb.add (by assumption) (by omega) (by omega) (by omega) | exact TKb.to (by assumption) (by omega) | exact TKb.add (TKb.nil (Int.le_refl _)) (by omega) (by omega) (by omega), by first | omega | assumption | exact trivial | exact TKo.rf | exact TKo.wr (by assumption) (by first | assumption | exact TKo.rf) (by omega) (by omega) | exact TKb.nil (by omega) | exact TKb.add (by assumption) (by omega) (by omega) (by omega) | exact TKb.to (by assumption) (by omega) | exact TKb.add (TKb.nil (Int.le_refl _)) (by omega) (by omega) (by omega), by first | omega | assumption | exact trivial | exact TKo.rf | exact TKo.wr (by assumption) (by first | assumption | exact TKo.rf) (by omega) (by omega) | exact TKb.nil (by omega) | exact TKb.add (by assumption) (by omega) (by omega) (by omega) | exact TKb.to (by assumption) (by omega) | exact TKb.add (TKb.nil (Int.le_refl _)) (by omega) (by omega) (by omega), by first | omega | assumption | exact trivial | exact TKo.rf | exact TKo.wr (by assumption) (by first | assumption | exact TKo.rf) (by omega) (by omega) | exact TKb.nil (by omega) | exact TKb.add (by assumption) (by omega) (by omega) (by omega) | exact TKb.to (by assumption) (by omega) | exact TKb.add (TKb.nil (Int.le_refl _)) (by omega) (by omega) (by omega)⟩
          · refine lv_aload_n B.1 B.2.1 dX9_readOne_72 rfl (lv_at hl 2 rfl) ?_
            refine c_getn (k := 0) pk_X9 B hM t_this kd3 rfl (by decide) fl_X9_9 dX9_readOne_73 p_0 ?_
            refine lv_iload B.1 B.2.1 dX9_readOne_76 (lv_at hl 6 rfl) ?_
            refine lv_iload B.1 B.2.1 dX9_readOne_78 (lv_at hl 1 rfl) ?_
            have n37 : 3001 ≤ N g_s ∧ N g_s ≤ 3001 := gn62 hM.2.2.2.2.2.2.1 p_1
            refine c_ist B hM p_1 kd62 aq62 dX9_readOne_80 (by omega) (by omega) (show (-2147483648 : Int) ≤ x2 from by omega) (show x2 ≤ (2147483647 : Int) from by omega) (fun I39 H locs hu38 hM => ?_)
            have e40 : I39 g_s a_at.toNat = x2 := w2_at hu38
            replace hF : Fr mo_X9_readOne [] T N I J R T N I39 J16 R := hF.wi hu38 (fun _ _ => by rw [p_1, cd_arr (j := 0) (by decide)]; rfl)
            refine q_con B dX9_readOne_81 ?_
            refine lv_istore (lv' := [(6, .int (II 1)), (5, .int (II x2)), (0, .ref a_this), (1, .ref a_tape), (2, .int (II a_len)), (3, .int (II a_from)), (4, .int (II a_at))]) B.1 B.2.1 dX9_readOne_82 hl (by decide) rfl (fun ls hl => ?_)
            refine lv_iload B.1 B.2.1 dX9_readOne_84 (lv_at hl 0 rfl) ?_
            refine g_iret B hM dX9_readOne_86 ⟨Nat.le_refl _, Nat.le_refl _⟩ ?_
            rw [← hPST]
            exact ⟨(1), rfl, by omega, rfl, rfl, rfl, rfl, hF, by first | omega | assumption | exact trivial | exact TKo.rf | exact TKo.wr (by assumption) (by first | assumption | exact TKo.rf) (by omega) (by omega) | exact TKb.nil (by omega) | exact TKb.add (by assumption) (by omega) (by omega) (by omega) | exact TKb.to (by assumption) (by omega) | exact TKb.add (TKb.nil (Int.le_refl _)) (by omega) (by omega) (by omega), by first | omega | assumption | exact trivial | exact TKo.rf | exact TKo.wr (by assumption) (by first | assumption | exact TKo.rf) (by omega) (by omega) | exact TKb.nil (by omega) | exact TKb.add (by assumption) (by omega) (by omega) (by omega) | exact TKb.to (by assumption) (by omega) | exact TKb.add (TKb.nil (Int.le_refl _)) (by omega) (by omega) (by omega), by first | omega | assumption | exact trivial | exact TKo.rf | exact TKo.wr (by assumption) (by first | assumption | exact TKo.rf) (by omega) (by omega) | exact TKb.nil (by omega) | exact TKb.add (by assumption) (by omega) (by omega) (by omega) | exact TKb.to (by assumption) (by omega) | exact TKb.add (TKb.nil (Int.le_refl _)) (by omega) (by omega) (by omega), by first | omega | assumption | exact trivial | exact TKo.rf | exact TKo.wr (by assumption) (by first | assumption | exact TKo.rf) (by omega) (by omega) | exact TKb.nil (by omega) | exact TKb.add (by assumption) (by omega) (by omega) (by omega) | exact TKb.to (by assumption) (by omega) | exact TKb.add (TKb.nil (Int.le_refl _)) (by omega) (by omega) (by omega), by first | omega | assumption | exact trivial | exact TKo.rf | exact TKo.wr (by assumption) (by first | assumption | exact TKo.rf) (by omega) (by omega) | exact TKb.nil (by omega) | exact TKb.add (by assumption) (by omega) (by omega) (by omega) | exact TKb.to (by assumption) (by omega) | exact TKb.add (TKb.nil (Int.le_refl _)) (by omega) (by omega) (by omega)⟩
    · refine lv_aload_n B.1 B.2.1 dX9_readOne_30 rfl (lv_at hl 1 rfl) ?_
      refine lv_aload_n B.1 B.2.1 dX9_readOne_31 rfl (lv_at hl 2 rfl) ?_
      refine lv_iload_n B.1 B.2.1 dX9_readOne_32 rfl (lv_at hl 3 rfl) ?_
      refine lv_iload_n B.1 B.2.1 dX9_readOne_33 rfl (lv_at hl 4 rfl) ?_
      refine lv_iload B.1 B.2.1 dX9_readOne_34 (lv_at hl 5 rfl) ?_
      have hv41 : ((-2147483648 : Int) ≤ a_len ∧ (a_len : Int) ≤ 2147483647) ∧ ((-2147483648 : Int) ≤ a_from ∧ (a_from : Int) ≤ 2147483647) ∧ ((-2147483648 : Int) ≤ a_at ∧ (a_at : Int) ≤ 2147483647) ∧ (0 ≤ a_from) ∧ (a_from < a_len) ∧ (a_len ≤ 3000) ∧ (0 ≤ a_at) ∧ (a_at ≤ 3000) ∧ (I a_tape a_from.toNat = 34) := by first | omega | exact ⟨by first | omega | assumption | exact trivial | exact TKo.rf | exact TKo.wr (by assumption) (by first | assumption | exact TKo.rf) (by omega) (by omega) | exact TKb.nil (by omega) | exact TKb.add (by assumption) (by omega) (by omega) (by omega) | exact TKb.to (by assumption) (by omega) | exact TKb.add (TKb.nil (Int.le_refl _)) (by omega) (by omega) (by omega), by first | omega | assumption | exact trivial | exact TKo.rf | exact TKo.wr (by assumption) (by first | assumption | exact TKo.rf) (by omega) (by omega) | exact TKb.nil (by omega) | exact TKb.add (by assumption) (by omega) (by omega) (by omega) | exact TKb.to (by assumption) (by omega) | exact TKb.add (TKb.nil (Int.le_refl _)) (by omega) (by omega) (by omega), by first | omega | assumption | exact trivial | exact TKo.rf | exact TKo.wr (by assumption) (by first | assumption | exact TKo.rf) (by omega) (by omega) | exact TKb.nil (by omega) | exact TKb.add (by assumption) (by omega) (by omega) (by omega) | exact TKb.to (by assumption) (by omega) | exact TKb.add (TKb.nil (Int.le_refl _)) (by omega) (by omega) (by omega), by first | omega | assumption | exact trivial | exact TKo.rf | exact TKo.wr (by assumption) (by first | assumption | exact TKo.rf) (by omega) (by omega) | exact TKb.nil (by omega) | exact TKb.add (by assumption) (by omega) (by omega) (by omega) | exact TKb.to (by assumption) (by omega) | exact TKb.add (TKb.nil (Int.le_refl _)) (by omega) (by omega) (by omega), by first | omega | assumption | exact trivial | exact TKo.rf | exact TKo.wr (by assumption) (by first | assumption | exact TKo.rf) (by omega) (by omega) | exact TKb.nil (by omega) | exact TKb.add (by assumption) (by omega) (by omega) (by omega) | exact TKb.to (by assumption) (by omega) | exact TKb.add (TKb.nil (Int.le_refl _)) (by omega) (by omega) (by omega), by first | omega | assumption | exact trivial | exact TKo.rf | exact TKo.wr (by assumption) (by first | assumption | exact TKo.rf) (by omega) (by omega) | exact TKb.nil (by omega) | exact TKb.add (by assumption) (by omega) (by omega) (by omega) | exact TKb.to (by assumption) (by omega) | exact TKb.add (TKb.nil (Int.le_refl _)) (by omega) (by omega) (by omega), by first | omega | assumption | exact trivial | exact TKo.rf | exact TKo.wr (by assumption) (by first | assumption | exact TKo.rf) (by omega) (by omega) | exact TKb.nil (by omega) | exact TKb.add (by assumption) (by omega) (by omega) (by omega) | exact TKb.to (by assumption) (by omega) | exact TKb.add (TKb.nil (Int.le_refl _)) (by omega) (by omega) (by omega), by first | omega | assumption | exact trivial | exact TKo.rf | exact TKo.wr (by assumption) (by first | assumption | exact TKo.rf) (by omega) (by omega) | exact TKb.nil (by omega) | exact TKb.add (by assumption) (by omega) (by omega) (by omega) | exact TKb.to (by assumption) (by omega) | exact TKb.add (TKb.nil (Int.le_refl _)) (by omega) (by omega) (by omega), by first | omega | assumption | exact trivial | exact TKo.rf | exact TKo.wr (by assumption) (by first | assumption | exact TKo.rf) (by omega) (by omega) | exact TKb.nil (by omega) | exact TKb.add (by assumption) (by omega) (by omega) (by omega) | exact TKb.to (by assumption) (by omega) | exact TKb.add (TKb.nil (Int.le_refl _)) (by omega) (by omega) (by omega)⟩
      refine z_calli hM hA (c_runV (n := 4) (as := [.ref a_tape, .int (II a_len), .int (II a_from), .int (II a_at)]) (rest := []) B hX hA hM hl.1 t_this kd3 rfl (k_X9_readString l D dA eA L T N I J R a_this t_this a_tape t_tape a_len hv41.1 a_from hv41.2.1 a_at hv41.2.2.1 g_s (show R a_this 0 = g_s + 1 from p_0) (show T g_s = 62 from p_1) hv41.2.2.2.1 hv41.2.2.2.2.1 hv41.2.2.2.2.2.1 hv41.2.2.2.2.2.2.1 hv41.2.2.2.2.2.2.2.1 hv41.2.2.2.2.2.2.2.2 _ _) ml_X9_33 nm_X9_readString ⟨rfl, rfl⟩ ⟨Nat.le_of_ble_eq_true rfl, Nat.le_of_ble_eq_true rfl⟩ dX9_readOne_36 rfl rfl (Nat.le_of_ble_eq_true rfl) ⟨Nat.zero_le _, Nat.zero_le _⟩) (fun x43 ix43 L44 T45 N46 I47 J48 R49 dz50 dl51 H locs hp42 hMn => ?_)
      obtain ⟨yL44, yT45, yN46, yR49, hFc52, hp42a⟩ := hp42
      obtain rfl := yL44.symm; obtain rfl := yT45.symm; obtain rfl := yN46.symm; obtain rfl := yR49.symm
      replace hF : Fr mo_X9_readOne [] T N I J R T N I47 J48 R := hF.trans hFc52 (by decide) e20
      have hM := hMn
      clear hMn
      replace hp42a : 0 ≤ x43 ∧ x43 + a_from ≤ a_len ∧ TKo I I47 g_s a_at ∧ (x43 ≠ 0 → I47 g_s a_at.toNat ≠ 0 ∧ I47 g_s a_at.toNat ≠ 1) ∧ TKb I a_tape a_from (a_from + x43) := hp42a
      obtain ⟨hp42a_0, hp42a_1, hp42a_2, hp42a_3, hp42a_4⟩ := hp42a
      obtain ⟨x53, e54⟩ : ∃ v, I47 g_s a_at.toNat = v := ⟨_, rfl⟩
      refine g_iret B hM dX9_readOne_39 ⟨Nat.le_refl _, Nat.le_refl _⟩ ?_
      rw [← hPST]
      exact ⟨x43, rfl, by omega, rfl, rfl, rfl, rfl, hF, by first | omega | assumption | exact trivial | exact TKo.rf | exact TKo.wr (by assumption) (by first | assumption | exact TKo.rf) (by omega) (by omega) | exact TKb.nil (by omega) | exact TKb.add (by assumption) (by omega) (by omega) (by omega) | exact TKb.to (by assumption) (by omega) | exact TKb.add (TKb.nil (Int.le_refl _)) (by omega) (by omega) (by omega), by first | omega | assumption | exact trivial | exact TKo.rf | exact TKo.wr (by assumption) (by first | assumption | exact TKo.rf) (by omega) (by omega) | exact TKb.nil (by omega) | exact TKb.add (by assumption) (by omega) (by omega) (by omega) | exact TKb.to (by assumption) (by omega) | exact TKb.add (TKb.nil (Int.le_refl _)) (by omega) (by omega) (by omega), by first | omega | assumption | exact trivial | exact TKo.rf | exact TKo.wr (by assumption) (by first | assumption | exact TKo.rf) (by omega) (by omega) | exact TKb.nil (by omega) | exact TKb.add (by assumption) (by omega) (by omega) (by omega) | exact TKb.to (by assumption) (by omega) | exact TKb.add (TKb.nil (Int.le_refl _)) (by omega) (by omega) (by omega), by first | omega | assumption | exact trivial | exact TKo.rf | exact TKo.wr (by assumption) (by first | assumption | exact TKo.rf) (by omega) (by omega) | exact TKb.nil (by omega) | exact TKb.add (by assumption) (by omega) (by omega) (by omega) | exact TKb.to (by assumption) (by omega) | exact TKb.add (TKb.nil (Int.le_refl _)) (by omega) (by omega) (by omega), by first | omega | assumption | exact trivial | exact TKo.rf | exact TKo.wr (by assumption) (by first | assumption | exact TKo.rf) (by omega) (by omega) | exact TKb.nil (by omega) | exact TKb.add (by assumption) (by omega) (by omega) (by omega) | exact TKb.to (by assumption) (by omega) | exact TKb.add (TKb.nil (Int.le_refl _)) (by omega) (by omega) (by omega)⟩
  · refine lv_aload_n B.1 B.2.1 dX9_readOne_13 rfl (lv_at hl 1 rfl) ?_
    refine lv_aload_n B.1 B.2.1 dX9_readOne_14 rfl (lv_at hl 2 rfl) ?_
    refine lv_iload_n B.1 B.2.1 dX9_readOne_15 rfl (lv_at hl 3 rfl) ?_
    refine lv_iload_n B.1 B.2.1 dX9_readOne_16 rfl (lv_at hl 4 rfl) ?_
    refine lv_iload B.1 B.2.1 dX9_readOne_17 (lv_at hl 5 rfl) ?_
    have hv55 : ((-2147483648 : Int) ≤ a_len ∧ (a_len : Int) ≤ 2147483647) ∧ ((-2147483648 : Int) ≤ a_from ∧ (a_from : Int) ≤ 2147483647) ∧ ((-2147483648 : Int) ≤ a_at ∧ (a_at : Int) ≤ 2147483647) ∧ (0 ≤ a_from) ∧ (a_from < a_len) ∧ (a_len ≤ 3000) ∧ (0 ≤ a_at) ∧ (a_at ≤ 3000) := by first | omega | exact ⟨by first | omega | assumption | exact trivial | exact TKo.rf | exact TKo.wr (by assumption) (by first | assumption | exact TKo.rf) (by omega) (by omega) | exact TKb.nil (by omega) | exact TKb.add (by assumption) (by omega) (by omega) (by omega) | exact TKb.to (by assumption) (by omega) | exact TKb.add (TKb.nil (Int.le_refl _)) (by omega) (by omega) (by omega), by first | omega | assumption | exact trivial | exact TKo.rf | exact TKo.wr (by assumption) (by first | assumption | exact TKo.rf) (by omega) (by omega) | exact TKb.nil (by omega) | exact TKb.add (by assumption) (by omega) (by omega) (by omega) | exact TKb.to (by assumption) (by omega) | exact TKb.add (TKb.nil (Int.le_refl _)) (by omega) (by omega) (by omega), by first | omega | assumption | exact trivial | exact TKo.rf | exact TKo.wr (by assumption) (by first | assumption | exact TKo.rf) (by omega) (by omega) | exact TKb.nil (by omega) | exact TKb.add (by assumption) (by omega) (by omega) (by omega) | exact TKb.to (by assumption) (by omega) | exact TKb.add (TKb.nil (Int.le_refl _)) (by omega) (by omega) (by omega), by first | omega | assumption | exact trivial | exact TKo.rf | exact TKo.wr (by assumption) (by first | assumption | exact TKo.rf) (by omega) (by omega) | exact TKb.nil (by omega) | exact TKb.add (by assumption) (by omega) (by omega) (by omega) | exact TKb.to (by assumption) (by omega) | exact TKb.add (TKb.nil (Int.le_refl _)) (by omega) (by omega) (by omega), by first | omega | assumption | exact trivial | exact TKo.rf | exact TKo.wr (by assumption) (by first | assumption | exact TKo.rf) (by omega) (by omega) | exact TKb.nil (by omega) | exact TKb.add (by assumption) (by omega) (by omega) (by omega) | exact TKb.to (by assumption) (by omega) | exact TKb.add (TKb.nil (Int.le_refl _)) (by omega) (by omega) (by omega), by first | omega | assumption | exact trivial | exact TKo.rf | exact TKo.wr (by assumption) (by first | assumption | exact TKo.rf) (by omega) (by omega) | exact TKb.nil (by omega) | exact TKb.add (by assumption) (by omega) (by omega) (by omega) | exact TKb.to (by assumption) (by omega) | exact TKb.add (TKb.nil (Int.le_refl _)) (by omega) (by omega) (by omega), by first | omega | assumption | exact trivial | exact TKo.rf | exact TKo.wr (by assumption) (by first | assumption | exact TKo.rf) (by omega) (by omega) | exact TKb.nil (by omega) | exact TKb.add (by assumption) (by omega) (by omega) (by omega) | exact TKb.to (by assumption) (by omega) | exact TKb.add (TKb.nil (Int.le_refl _)) (by omega) (by omega) (by omega), by first | omega | assumption | exact trivial | exact TKo.rf | exact TKo.wr (by assumption) (by first | assumption | exact TKo.rf) (by omega) (by omega) | exact TKb.nil (by omega) | exact TKb.add (by assumption) (by omega) (by omega) (by omega) | exact TKb.to (by assumption) (by omega) | exact TKb.add (TKb.nil (Int.le_refl _)) (by omega) (by omega) (by omega)⟩
    refine z_calli hM hA (c_runV (n := 4) (as := [.ref a_tape, .int (II a_len), .int (II a_from), .int (II a_at)]) (rest := []) B hX hA hM hl.1 t_this kd3 rfl (k_X9_readName l D dA eA L T N I J R a_this t_this a_tape t_tape a_len hv55.1 a_from hv55.2.1 a_at hv55.2.2.1 g_s (show R a_this 0 = g_s + 1 from p_0) (show T g_s = 62 from p_1) hv55.2.2.2.1 hv55.2.2.2.2.1 hv55.2.2.2.2.2.1 hv55.2.2.2.2.2.2.1 hv55.2.2.2.2.2.2.2 _ _) ml_X9_30 nm_X9_readName ⟨rfl, rfl⟩ ⟨Nat.le_of_ble_eq_true rfl, Nat.le_of_ble_eq_true rfl⟩ dX9_readOne_19 rfl rfl (Nat.le_of_ble_eq_true rfl) ⟨Nat.zero_le _, Nat.zero_le _⟩) (fun x57 ix57 L58 T59 N60 I61 J62 R63 dz64 dl65 H locs hp56 hMn => ?_)
    obtain ⟨yL58, yT59, yN60, yR63, hFc66, hp56a⟩ := hp56
    obtain rfl := yL58.symm; obtain rfl := yT59.symm; obtain rfl := yN60.symm; obtain rfl := yR63.symm
    replace hF : Fr mo_X9_readOne [] T N I J R T N I61 J62 R := hF.trans hFc66 (by decide) e20
    have hM := hMn
    clear hMn
    replace hp56a : 0 ≤ x57 ∧ x57 + a_from ≤ a_len ∧ TKo I I61 g_s a_at ∧ (x57 ≠ 0 → I61 g_s a_at.toNat ≠ 0 ∧ I61 g_s a_at.toNat ≠ 1) ∧ TKb I a_tape a_from (a_from + x57) := hp56a
    obtain ⟨hp56a_0, hp56a_1, hp56a_2, hp56a_3, hp56a_4⟩ := hp56a
    obtain ⟨x67, e68⟩ : ∃ v, I61 g_s a_at.toNat = v := ⟨_, rfl⟩
    refine g_iret B hM dX9_readOne_22 ⟨Nat.le_refl _, Nat.le_refl _⟩ ?_
    rw [← hPST]
    exact ⟨x57, rfl, by omega, rfl, rfl, rfl, rfl, hF, by first | omega | assumption | exact trivial | exact TKo.rf | exact TKo.wr (by assumption) (by first | assumption | exact TKo.rf) (by omega) (by omega) | exact TKb.nil (by omega) | exact TKb.add (by assumption) (by omega) (by omega) (by omega) | exact TKb.to (by assumption) (by omega) | exact TKb.add (TKb.nil (Int.le_refl _)) (by omega) (by omega) (by omega), by first | omega | assumption | exact trivial | exact TKo.rf | exact TKo.wr (by assumption) (by first | assumption | exact TKo.rf) (by omega) (by omega) | exact TKb.nil (by omega) | exact TKb.add (by assumption) (by omega) (by omega) (by omega) | exact TKb.to (by assumption) (by omega) | exact TKb.add (TKb.nil (Int.le_refl _)) (by omega) (by omega) (by omega), by first | omega | assumption | exact trivial | exact TKo.rf | exact TKo.wr (by assumption) (by first | assumption | exact TKo.rf) (by omega) (by omega) | exact TKb.nil (by omega) | exact TKb.add (by assumption) (by omega) (by omega) (by omega) | exact TKb.to (by assumption) (by omega) | exact TKb.add (TKb.nil (Int.le_refl _)) (by omega) (by omega) (by omega), by first | omega | assumption | exact trivial | exact TKo.rf | exact TKo.wr (by assumption) (by first | assumption | exact TKo.rf) (by omega) (by omega) | exact TKb.nil (by omega) | exact TKb.add (by assumption) (by omega) (by omega) (by omega) | exact TKb.to (by assumption) (by omega) | exact TKb.add (TKb.nil (Int.le_refl _)) (by omega) (by omega) (by omega), by first | omega | assumption | exact trivial | exact TKo.rf | exact TKo.wr (by assumption) (by first | assumption | exact TKo.rf) (by omega) (by omega) | exact TKb.nil (by omega) | exact TKb.add (by assumption) (by omega) (by omega) (by omega) | exact TKb.to (by assumption) (by omega) | exact TKb.add (TKb.nil (Int.le_refl _)) (by omega) (by omega) (by omega)⟩
